/-! THE LAW'S street() CALLED -/
theorem th_rS {p : Program} {l : Launch} {e : Env} {R : Room} {s : State} {m : MethodId} {args : Array Value} {below : List Frame} {meth : Method} {c : Code} {H : Heap} {locs : List Loc} {cells slots : Nat} {y : MethodName} {bytes cc : ByteArray} {maxL nL mc ms n index : Nat} {ret : Option FieldType} {hh : List (Nat × Nat × Nat × Nat)} {ws : List Cond} {rm : Room} {Pc : Array Value → State → Prop} {Qc : Array Value → State → Outcome → State → Prop} {free : Addr → Prop} {Ts : List Cond} {own : String} {As rest : List Value} {g : JFrame}
    (S : CallFix p m c cc nL s args Ts own) (hM : Met l y ws rm Pc Qc mc ms free) (hrc : rm.cells = mc) (hrs : rm.slots = ms) (hfr : rm.frames + 1 ≤ R.frames) (hlo : 8 + (maxL + 11) + rm.locals ≤ R.locals) (hws : ∀ w ∈ ws, ∀ (a' : Array Value) (U : State), s.WarmedH U.vm → w.before a' U = true) (hcw : Cond.codeWith y bytes maxL ret hh ∈ ws)
    (hcode : (Cond.codeWith y bytes maxL ret hh).before args s = true) (hini : (Cond.initialized y.cls).before args s = true) (hstt : (Cond.static y).before args s = true) (hlink : (Cond.methodLink own index y).before args s = true) (hy : y.cls ≠ "java/lang/invoke/MethodHandle" ∧ y.cls ≠ "java/lang/invoke/VarHandle") (hlen : ∀ sig, parseMethodDescriptor y.desc = some sig → n = sig.parameters.length) (hp : PreS s H Pc As)
    (hg : g.method = m) (hn : As.length = n) (hsize : g.locals.size = nL) (hstack : g.stack = As.reverse ++ rest) (hW : 2 * g.monitorRoom + (rest.map fun v => v.category).sum ≤ 8) (hdg : decode cc g.pc = .ok (.invokestatic index, 3)) (hf : cells + mc ≤ R.cells ∧ slots + ms ≤ R.slots) :
    va_Run p l e R s m args below meth c H locs cells slots mc ms g rest (Qc As.toArray) (free) := by
  have hK : Back l R p e below s args y 3 8 (PreOf R mc ms Pc) (PostOf Qc mc ms free) := va_backW (hh := hh) (bytes := bytes) (maxL := maxL) (ret := ret) hM hp.1 hrc hrs hfr hlo hws hcw (fun a' U hW => word_at hW (Or.inl (by first | rfl | simp [Cond.onTables, Cond.keeps, Cond.steady])) hini)
  obtain ⟨hx, hb, hml, ho, -⟩ := S
  obtain ⟨mk, methM, cM, hnamed, hmethM, -, -, -, -, -, -, hsig⟩ := Cond.codeWith_spec hcode
  intro T hT X
  obtain ⟨v, vm₁, ⟨U', l2, c2, s2⟩, hW₁, X', ⟨g', mk', t, L, e1, e2, hq, h1, hL, h2, h3⟩, st⟩ := X.staticBack hx ho hlink hstt hini hnamed hmethM hsig hy hK hg (hsize.trans hml.symm) (Steps.refl _) (argsL := As) (rest := rest) (fun sig h => hn.trans (hlen sig h)) hstack hW (by rw [hb]; exact hdg)
    (fun vm₁ hW₁ => ⟨hf.1, hf.2, hp.2 (T.setVm vm₁) hT hW₁⟩)
  dsimp only [Pt.U, Pt.locs, Pt.cells, Pt.slots] at X' e1 e2 h1 h2 h3 st
  subst h1; subst h2; subst h3
  exact ⟨v, (T.setVm vm₁).calling g' mk' As.toArray, t, U', L, hT, X', hL, e1, e2, hq, fun target h => st.trans h⟩
theorem th_x26 {x : Nat} (h : am_rm (am_ow 140) x = (0, 139)) : x = 26 := by
  unfold am_rm at h
  cases hl : (am_rmL (am_ow 140)).lookup x with
  | none => rw [hl] at h; cases h
  | some v =>
    rw [hl] at h
    have h : v = (0, 139) := h
    subst h
    have hm := tb_lk hl
    have hall : (am_rmL (am_ow 140)).all (fun q => !(decide (q.2 = (0, 139))) || decide (q.1 = 26)) = true := by decide +kernel
    have := List.all_eq_true.mp hall _ hm
    simpa using this
theorem th_cn : am_cn (am_ow 140) = "RouteGuideLaw" := by decide +kernel
theorem th_w26 : Cond.methodLink "RouteGuideLaw" 26 (am_y 139) ∈ am_tbl := by decide +kernel
theorem th_wst : Cond.static (am_y 139) ∈ am_tbl := by decide +kernel
theorem th_win : Cond.initialized (am_y 139).cls ∈ am_tbl := by decide +kernel
theorem th_wcw : Cond.codeWith (am_y 139) (am_by 139) (am_mL 139) (am_ret 139) th_hh ∈ am_tbl := by decide +kernel
theorem th_st : am_st 139 = true := by decide +kernel
theorem th_pn : (parseMethodDescriptor (am_y 139).desc).map (fun d => d.parameters.length) = some 7 := by decide +kernel
theorem th_blind {D : va_G} {sz : Nat} {ad : Nat → Nat} {ca : Nat → ClassId} {h : am_H} {as : List Value} : FrameBlind (th_Pc D sz ad ca h as) := fun a U g mk q => by
  obtain ⟨q0, q1, qC, qD, qN, qW, qX⟩ := q
  exact ⟨q0, q1, qC.moved (u := U) (U := U.calling g mk a) (Vm.Alike.refl U.vm), qD, qN.same rfl, qW.move (U := U.calling g mk a) (State.WarmedH.refl U) (fun _ _ z _ => z), qX.warm (U := U.calling g mk a) (State.WarmedH.refl U)⟩
set_option maxHeartbeats 1000000 in
theorem th_hook {p : Program} {l : Launch} {e : Env} {s : State} {m : MethodId} {args : Array Value} {below : List Frame} {meth : Method} {c : Code} {Qw : State → Prop} {D : va_G} {A : Nat → Prop} {ad0 : Nat → Nat} {ca0 : Nat → ClassId} {l0 : Nat × Nat} {x0 : Nat → Int32} (htr : ∀ e : Env, l.admits e → e.platform.stackTraces = false) (htw : TW s) (htx : TX s) (cx : am_Cx p s m args meth c room_1 A 140 ad0 l0 x0) (hAq : ∀ q, A q → s.heap.size ≤ q) :
    HK p l e s m args below meth c Qw D A 0 ad0 ca0 l0 x0 := by
  intro i pc ls st h u q as S hd hok hsem hc e9
  unfold lwC at e9
  rw [if_pos rfl] at e9
  obtain ⟨hx, hb, hml, hown, hts, hini, hA, ⟨hRc, hRs, hRf, hRl⟩, hscr⟩ := cx
  have hown : s.vm.findClass "RouteGuideLaw" = some m.cls := hown
  intro ad ca la H locs hin
  have hin' := hin
  obtain ⟨hB, ⟨hCC, hD, hS⟩, hu, hl, hst⟩ := hin
  cases i
  case invokestatic x =>
    simp only [am_sem, am_ivs] at hsem
    cases hr : am_rm (am_ow 140) x with
    | mk kd k0 =>
      rw [hr] at hsem
      dsimp only at hsem
      split at hsem
      · obtain ⟨rfl, hk0, has, rfl⟩ := am_cal_e hsem
        subst hk0
        obtain ⟨hc1, hc2, hc3, hc4, hc5⟩ := hc
        have hx26 := th_x26 hr
        subst hx26
        have hsp := am_st_split has
        have hss : am_ss h.1 as := fun w hw => hst w (by rw [hsp]; exact List.mem_append_left _ (List.mem_reverse.mpr hw))
        have hrs : am_ss h.1 (st.drop (am_na am_lst)) := fun w hw => hst w (List.mem_of_mem_drop hw)
        have hlen : as.length = am_na am_lst := by rw [has]; simp; omega
        have hn7 : am_na am_lst = 7 := by decide +kernel
        refine am_after hA hin' hrs hc4 hc5 (aa := (as.map (am_cv ad)).toArray) (th_rS (As := as.map (am_cv ad)) (n := 7) (hh := th_hh) (bytes := am_by 139) (maxL := am_mL 139) (ret := am_ret 139) (Ts := am_tbl) (own := "RouteGuideLaw") ⟨hx, hb, hml, hown, hts⟩ (th_met htr D e9 H.size ad ca hss hB.2.2.2.2.2.2 hB.2.2.2.1) rfl rfl (Nat.le_trans (by decide +kernel) hRf) (Nat.le_trans (by decide +kernel) hRl) (fun w hw => ?_) List.mem_cons_self (hts _ th_wcw) (hts _ th_win) (hts _ th_wst) (hts _ th_w26) ⟨by decide +kernel, by decide +kernel⟩ (fun sig hsig => ?_) ⟨th_blind, fun U hU hW => ⟨rfl, by rw [hU], by rw [hU]; exact hCC.moved hW.alike, hD.weaken (fun _ _ _ _ => trivial), hscr.2.warm hW, htw.move hW (fun q cl hq _ => ?_), htx.warm hW⟩⟩ rfl (by rw [List.length_map]; exact hlen.trans hn7) hl.2.1 ?_ (lv_room (by rw [am_cat_map]; exact hc2)) hd ⟨Nat.le_trans hc4 hRc, Nat.le_trans hc5 hRs⟩)
        · rcases List.mem_cons.mp hw with rfl | hw
          · exact am_good hts _ th_wcw
          · exact am_good hts w hw
        · have f3 := th_pn
          rw [hsig] at f3
          exact (Option.some.inj f3).symm
        · have hlt := (Array.getElem?_eq_some_iff.mp hq).1
          rw [hU, hS.2.1 q hlt (fun z => by have := hAq q z; omega)]
          exact hq
        · show st.map (am_cv ad) = _
          conv => lhs; rw [hsp]
          rw [List.map_append, List.map_reverse]
      · obtain ⟨x, r, -, hs2⟩ := am_o1_i hsem; exact (am_nocall hs2 rfl).elim
      · obtain ⟨x, r, -, hs2⟩ := am_l1_i hsem; exact (am_nocall hs2 rfl).elim
      · obtain ⟨x, y, r, -, hs2⟩ := am_l2_i hsem; exact (am_nocall hs2 rfl).elim
      · obtain ⟨x, y, r, -, hs2⟩ := am_l2_i hsem; exact (am_nocall hs2 rfl).elim
      · cases hsem
  case invokevirtual x =>
    simp only [am_sem, am_ivv] at hsem
    cases hr : am_rm (am_ow 140) x with
    | mk kd k0 =>
      rw [hr] at hsem
      dsimp only at hsem
      split at hsem
      · obtain ⟨rfl, hk0, has, rfl⟩ := am_cal_e hsem
        subst hk0
        have hst0 := (tb_FX.2.2.2.2.1 _ _ _ hr).2.2.1
        rw [th_st] at hst0
        cases hst0
      · cases hsem
  case invokespecial x =>
    simp only [am_sem, am_ivi] at hsem
    cases hr : am_rm (am_ow 140) x with
    | mk kd k0 =>
      rw [hr] at hsem
      dsimp only at hsem
      split at hsem
      · obtain ⟨rfl, hk0, has, rfl⟩ := am_cal_e hsem
        subst hk0
        have hst0 := (tb_FX.2.2.2.2.2.1 _ _ _ hr).2.1
        rw [th_st] at hst0
        cases hst0
      · obtain ⟨x, r, -, hs2⟩ := am_a1_i hsem; exact (am_nocall hs2 rfl).elim
      · cases hsem
  all_goals (cases hok)
