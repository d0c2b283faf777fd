/-! THE LAW'S street(): ITS CONTRACT -/
def cC (d : Nat) : am_C := fun k as h Z => k ≠ am_lst ∧ am_call d k as h (fun v h' => smS h h' → Z v h')
theorem cC_mono (d : Nat) : ∀ k as h (Z Z' : Option Value → am_H → Prop), (∀ v h, Z v h → Z' v h) → cC d k as h Z → cC d k as h Z' :=
  fun _ _ _ _ _ hZ e => ⟨e.1, am_call_mono _ _ _ _ _ _ (fun v h' q s => hZ _ _ (q s)) e.2⟩
theorem cC_sound (l : Launch) (D : va_G) (d : Nat) : ∀ k as h Z, k ≠ am_lst → cC d k as h Z → am_MM l D k as h Z := fun k as h Z _ e => am_MM_same (tb_sound l D d k as h _ e.2)
theorem th_ck : am_chk 139 = true := by decide +kernel
theorem cs_ok {d L : Nat} {sw : Bool} {f g : Nat → Nat → Int} {xa xb xm xv xc : Int} {h : am_H} {Z : Option Value → am_H → Prop} {X : am_X} (h1 : ∀ pc ls st h u, am_run 139 (cC d) Z X (am_code 139 pc) pc (ls, st, h, u) → X pc ls st h u) (eh : h = (53, sh_lt L, iH f, jH g, sh_rt sw))
    (e : am_call d 2 [.ref 0, .int (iZ xa), .int (iZ xb), .long (lZ xm), .long (lZ xv), .int (iZ xc)] h (fun r h' => ∃ (x : Int) (F G : Nat → Nat → Int) (sw' : Bool), iR x ∧ r = some (.int (iZ x)) ∧ h' = (53, sh_lt L, iH F, jH G, sh_rt sw') ∧ (smS h h' → Z (some (.int 0)) (53, sh_lt L, iH F, jH (am_up G 52 0 x), sh_rt sw')))) :
    X 0 (am_en 139 [.ref 0, .int (iZ xa), .int (iZ xb), .long (lZ xm), .long (lZ xv), .int (iZ xc), .ref 52]) [] h (0, 0) := by
  subst eh
  show X 0 [some (.ref 0), some (.int (iZ xa)), some (.int (iZ xb)), some (.long (lZ xm)), none, some (.long (lZ xv)), none, some (.int (iZ xc)), some (.ref 52), none] [] _ _
  refine ax_gx h1 kc_139_0 ?_
  refine ap_aload rfl ?_; refine ai_iconst ?_; refine ap_aload_n rfl ?_; refine ap_iload_n rfl ?_; refine ap_iload_n rfl ?_; refine ap_lload_n rfl ?_; refine ap_lload rfl ?_; refine ap_iload rfl ?_
  refine ap_callv0 (o := 10) (n := 6) rfl th_rm (by decide +kernel) (by decide +kernel) (by decide +kernel) rfl rfl (Nat.le_of_ble_eq_true rfl) (Nat.le_of_ble_eq_true rfl) (Or.inr rfl) (Nat.zero_le _) (Nat.zero_le _) ?_
  refine ⟨by decide, am_call_mono _ _ _ _ _ _ (fun r h' ⟨x, F, G, sw', y1, y2, y3, y4⟩ sm => ?_) e⟩
  have y5 := y4 sm
  subst y2
  subst y3
  dsimp only [Option.toList_some, List.cons_append, List.nil_append]
  refine ai_i2l ?_ y1
  refine ai_lastore (n := 1) rfl rfl (by decide) ?_ ⟨by decide, by decide⟩
  refine ap_goto rfl ?_
  refine ax_gx h1 kc_139_23 ?_
  refine ai_iconst ?_; refine ap_iret rfl ?_
  exact y5
theorem cs_th {C : am_C} {xa xb xm xv xc : Int} {h : am_H} {Z : Option Value → am_H → Prop} {X : am_X} (h1 : ∀ ls, am_run 139 C Z X [.aload 8, .iconst 0, .aload_n 0, .iload_n 1, .iload_n 2, .lload_n 3, .lload 5, .iload 7] 0 (ls, [], h, (0, 0)) → X 0 ls [] h (0, 0))
    (K : ∀ ls, X 11 ls [.int (iZ xc), .long (lZ xv), .long (lZ xm), .int (iZ xb), .int (iZ xa), .ref 0, .int (iZ 0), .ref 52] h (0, 0)) :
    X 0 (am_en 139 [.ref 0, .int (iZ xa), .int (iZ xb), .long (lZ xm), .long (lZ xv), .int (iZ xc), .ref 52]) [] h (0, 0) := by
  show X 0 [some (.ref 0), some (.int (iZ xa)), some (.int (iZ xb)), some (.long (lZ xm)), none, some (.long (lZ xv)), none, some (.int (iZ xc)), some (.ref 52), none] [] _ _
  refine h1 _ ?_
  refine ap_aload rfl ?_; refine ai_iconst ?_; refine ap_aload_n rfl ?_; refine ap_iload_n rfl ?_; refine ap_iload_n rfl ?_; refine ap_lload_n rfl ?_; refine ap_lload rfl ?_; refine ap_iload rfl ?_
  exact K _
theorem th_As {D : va_G} {ws : va_W} {H : Heap} {q : Nat} {cell : Cell} (h0 : va_P D vwCl ws H) (hA : va_A ws H.size q) (hcell : H[q]? = some cell) : cell.vm.isStatics = false := by
  rcases hA with ⟨i, w, hi⟩ | hi
  · have hat := h0 i _ hi
    cases w with
    | inl a =>
      have e1 : H[q]? = some (vp_cell a.1 a.2) := hat
      cases hcell.symm.trans e1
      unfold vp_cell
      split <;> rfl
    | inr o =>
      obtain ⟨r, -, c1, b1, -, b3, -⟩ := hat
      cases hcell.symm.trans b1
      rw [b3]; rfl
  · have := (Array.getElem?_eq_some_iff.mp hcell).1
    omega
def th_wj : List Cond := Cond.codeWith (am_y 139) (am_by 139) (am_mL 139) (am_ret 139) th_hh :: am_tbl
def th_Pc (D : va_G) (sz : Nat) (ad : Nat → Nat) (ca : Nat → ClassId) (h : am_H) (as : List Value) : Array Value → State → Prop := va_Pc (as.map (am_cv ad)) (fun U => U.heap.size = sz ∧ am_cc D U ad ca h U.heap ∧ va_D (fun _ => True) (am_ws ad ca h) ∧ am_NS U ∧ TW U ∧ TX U)
set_option maxHeartbeats 1000000 in
theorem th_met {l : Launch} (htr : ∀ e : Env, l.admits e → e.platform.stackTraces = false) (D : va_G) {d : Nat} {as : List Value} {h : am_H} {Z : Option Value → am_H → Prop} (e9 : S9 d as h Z) (sz : Nat) (ad : Nat → Nat) (ca : Nat → ClassId) (hss : am_ss h.1 as) (hsh : am_sh h) (h1000 : h.1 ≤ 1000) :
    Met l (am_y 139) th_wj (am_room 139) (th_Pc D sz ad ca h as) (am_Qm D ad ca h Z (va_A (am_ws ad ca h) sz)) (am_mc 139) (am_ms 139) (va_A (am_ws ad ca h) sz) := by
  refine va_MetW (cc := am_by 139) (maxL := am_mL 139) (ret := am_ret 139) (hh := th_hh) (by decide +kernel) rfl ?_
  intro p e s m args below meth c s₁ B hml hv
  obtain ⟨rfl, hsz, hCC, hD0, hNS, htw, htx⟩ := hv
  subst hsz
  have hts : ∀ w ∈ am_tbl, w.before (as.map (am_cv ad)).toArray s = true := fun w hw => atoms_spec (ws := th_wj) B.pre w (List.mem_cons_of_mem _ hw)
  have hcw : (Cond.codeWith (am_y 139) (am_by 139) (am_mL 139) (am_ret 139) th_hh).before (as.map (am_cv ad)).toArray s = true := atoms_spec (ws := th_wj) B.pre _ List.mem_cons_self
  have hown : s.vm.findClass (am_y 139).cls = some m.cls := findClass_of_methodNamed B.named
  have hD := hD0.self (sz := s.heap.size)
  have hr := B.returns
  have hlocks := B.notSynchronized
  obtain ⟨m9, meth9, c9, g1, g2, g3, -, -, hhd, -⟩ := Cond.codeWith_spec hcw
  cases B.named.symm.trans g1
  cases B.method.symm.trans g2
  have X₀ : Stand p l e (headSpec th_wj (am_room 139)).room s m (as.map (am_cv ad)).toArray below meth c s₁ [] 0 0 := Stand.of_body B
  cases X₀.code.symm.trans g3
  have hAs : ∀ (q : Nat) (cl : Cell), va_A (am_ws ad ca h) s.heap.size q → s.heap[q]? = some cl → cl.vm.isStatics = false := fun q cl hA hc => th_As hCC.1 hA hc
  generalize hAe : va_A (am_ws ad ca h) s.heap.size = A at hD hAs ⊢
  have hA : ∀ q : Nat, s.heap.size ≤ q → A q := fun q hq => by rw [← hAe]; exact Or.inr hq
  have cx : am_Cx p s m (as.map (am_cv ad)).toArray meth c (headSpec th_wj (am_room 139)).room A 139 ad (h.2.1 1000) (h.2.2.1 1000) :=
    ⟨B.exec, B.bytes, hml, hown, hts, fun hi => absurd hi (by decide +kernel), hA, ⟨Nat.le_refl _, Nat.le_refl _, Nat.le_refl _, Nat.le_refl _⟩, fun hj => absurd hj (by decide), hNS⟩
  have hR : ∀ (i : Jvm.ClassFile.Instr) (pc : Nat) (v : Option Value) (ls : am_L) (h' : am_H) (u : am_U), decode (am_by 139) pc = .ok (i, 1) → am_rq 139 i v → Z v h' → am_Y p l e (headSpec th_wj (am_room 139)).room s m (as.map (am_cv ad)).toArray below meth c (MQ below (am_Qm D ad ca h Z A) (as.map (am_cv ad)).toArray s (am_mc 139) (am_ms 139) A) D A 139 h.1 ad ca (h.2.1 1000) (h.2.2.1 1000) pc ls v.toList h' u := by
    intro i pc v ls h' u hd hq hZ ad' ca' la H locs hin
    obtain ⟨hB, ⟨hCC', hD', hS'⟩, hu, hl, hst⟩ := hin
    refine W.widen hu.1 hu.2 ?_
    have hQ : ∀ (w : Value), v = some w → ∀ t : State, t.heap = H → s.WarmedH t.vm → am_Qm D ad ca h Z A (as.map (am_cv ad)).toArray s (.returned (some (am_cv ad' w))) t := fun w hw t ht hW => by
      subst hw
      exact ⟨⟨some w, h', ad', ca', rfl, hZ, hB, (fun x hx => by cases hx; exact hst _ List.mem_cons_self), (by rw [ht]; exact hCC'.moved hW.alike), hD'⟩, hS'.F ht⟩
    rcases hq with ⟨rfl, x, rfl, hq⟩ | ⟨rfl, hq, x, rfl⟩ | ⟨rfl, hq, rfl⟩
    · exact W.iret (v := x) B.exec B.bytes (hr.trans (by decide +kernel)) (hQ _ rfl) hS'.2.2 hd
    · exact absurd hq (by decide +kernel)
    · exact absurd hq (by decide +kernel)
  have key : am_Y p l e (headSpec th_wj (am_room 139)).room s m (as.map (am_cv ad)).toArray below meth c (MQ below (am_Qm D ad ca h Z A) (as.map (am_cv ad)).toArray s (am_mc 139) (am_ms 139) A) D A 139 h.1 ad ca (h.2.1 1000) (h.2.2.1 1000) 0 (am_en 139 as) [] h (0, 0) := by
    have step : ∀ (r : List Jvm.ClassFile.Instr) (pc : Nat) (S : am_S), am_chkB 139 pc r = true → am_run 139 (cC d) Z (am_Y p l e (headSpec th_wj (am_room 139)).room s m (as.map (am_cv ad)).toArray below meth c (MQ below (am_Qm D ad ca h Z A) (as.map (am_cv ad)).toArray s (am_mc 139) (am_ms 139) A) D A 139 h.1 ad ca (h.2.1 1000) (h.2.2.1 1000)) r pc S → am_Y p l e (headSpec th_wj (am_room 139)).room s m (as.map (am_cv ad)).toArray below meth c (MQ below (am_Qm D ad ca h Z A) (as.map (am_cv ad)).toArray s (am_mc 139) (am_ms 139) A) D A 139 h.1 ad ca (h.2.1 1000) (h.2.2.1 1000) pc S.1 S.2.1 S.2.2.1 S.2.2.2 :=
      am_run_s tb_FX rfl cx (cC_sound l D d) (fun i pc ls st h u q as S _ _ _ _ z => (z.1 rfl).elim) (cC_mono d) (fun _ _ _ _ _ z => z) hR
    obtain ⟨L, N, sw, f, g, xa, xb, xm, xv, xc, hrg, hLV, eh, eas, hcase⟩ := e9
    rw [congrArg (am_en 139) eas]
    rcases hcase with ⟨-, hcl⟩ | ⟨hth, hZ1⟩
    · exact cs_ok (fun pc ls st h' u z => step _ _ _ (am_chk_code th_ck pc) z) eh hcl
    · obtain ⟨n1, n1'⟩ := hLV.1.1
      obtain ⟨s1, s1'⟩ := hLV.2.1.1
      obtain ⟨t1, t2, t3, t4⟩ := hth
      have K21 := step [.iconst 1, .ireturn] 21 ([], [], h, (1, 6)) (by decide +kernel) (by refine ai_iconst ?_; exact ap_iret rfl hZ1)
      refine cs_th (C := cC d) (Z := Z) (fun ls z => step _ 0 (ls, [], h, (0, 0)) (by decide +kernel) z) (fun ls => ?_)
      exact th_11 cx hhd (htr e) htw htx hAs eh hrg (by rw [n1]; exact n1') (by rw [s1]; exact s1') ⟨by rw [n1]; exact t1, t2, by rw [s1]; exact t3, t4⟩ K21 ls
  have hlen : (am_sp as).length ≤ am_mL 139 := by
    obtain ⟨L, N, sw, f, g, xa, xb, xm, xv, xc, -, -, -, eas, -⟩ := e9
    rw [eas]; exact Nat.le_of_ble_eq_true rfl
  have hl := lv_entry (as.map (am_cv ad)) (n := am_mL 139) (by rw [am_sp_len]; exact hlen)
  rw [lg_entry_eq]
  generalize (lg_sl (as.map (am_cv ad)) ++ List.replicate (am_mL 139 - (lg_sl (as.map (am_cv ad))).length) Slot.unset).toArray = la at hl ⊢
  exact key ad ca la s.heap [] ⟨⟨fun _ _ => rfl, fun _ _ => rfl, Nat.le_refl _, h1000, rfl, rfl, hsh⟩, ⟨hCC, hD, va_S.rf⟩, ⟨Nat.zero_le _, Nat.zero_le _⟩, ⟨fun i v hv => hss _ (am_sp_mem (am_en_lk hv)), am_en_lo hl⟩, fun w hw => (List.not_mem_nil hw).elim⟩
