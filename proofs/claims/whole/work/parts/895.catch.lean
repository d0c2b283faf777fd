/-! THE LAW'S street(): ITS CATCH -/
def th_hh : List (Nat × Nat × Nat × Nat) := [(0, 16, 19, 13)]
theorem th_e11 : decode (am_by 139) 11 = .ok (.invokevirtual 7, 3) := by decide +kernel
theorem th_e19 : decode (am_by 139) 19 = .ok (.astore 9, 2) := by decide +kernel
theorem th_w13 : Cond.classLink "RouteGuideLaw" 13 th_x ∈ am_tbl := by decide +kernel
theorem th_wc : Cond.castable th_x th_x ∈ tw_A := by decide +kernel
theorem th_rm : am_rm (am_ow 139) 7 = (6, 2) := by decide +kernel
theorem th_ow : am_cn (am_ow 139) = "RouteGuideLaw" := by decide +kernel
set_option maxHeartbeats 2000000 in
theorem th_11 {p : Program} {l : Launch} {e : Env} {R : Room} {s : State} {m : MethodId} {args : Array Value} {below : List Frame} {meth : Method} {c : Code} {Qw : State → Prop} {D : va_G} {A : Nat → Prop} {n0 : Nat} {ad0 : Nat → Nat} {ca0 : Nat → ClassId} {l0 : Nat × Nat} {x0 : Nat → Int32} {L : Nat} {sw : Bool} {f g : Nat → Nat → Int} {xa xb xm xv xc : Int} {h : am_H}
    (cx : am_Cx p s m args meth c R A 139 ad0 l0 x0) (hhd : c.exceptionTable.toList.map (fun h => (h.startPc, h.endPc, h.handlerPc, h.catchType)) = th_hh) (htr : l.admits e → e.platform.stackTraces = false) (htw : TW s) (htx : TX s) (hAs : ∀ (q : Nat) (cl : Cell), A q → s.heap[q]? = some cl → cl.vm.isStatics = false)
    (eh : h = (53, sh_lt L, iH f, jH g, sh_rt sw)) (hr : iR xa ∧ iR xb ∧ lR xm ∧ lR xv ∧ iR xc) (hc : 0 ≤ f 1 3 ∧ f 1 3 ≤ 60) (hs : 0 ≤ f 5 8 ∧ f 5 8 ≤ 120)
    (ht : (1 ≤ xa ∧ xa ≤ f 1 3 ∧ 1 ≤ xb ∧ xb ≤ f 1 3) ∧ (¬ xa = xb ∧ 1 ≤ xm ∧ xm ≤ 100000 ∧ 0 ≤ xv ∧ xv ≤ 1000 ∧ 0 ≤ xc ∧ xc ≤ 3) ∧ f 5 8 < 120 ∧ xv = 0)
    (K21 : am_Y p l e R s m args below meth c Qw D A 139 n0 ad0 ca0 l0 x0 21 [] [] h (1, 6)) (ls : am_L) : am_Y p l e R s m args below meth c Qw D A 139 n0 ad0 ca0 l0 x0 11 ls [.int (iZ xc), .long (lZ xv), .long (lZ xm), .int (iZ xb), .int (iZ xa), .ref 0, .int (iZ 0), .ref 52] h (0, 0) := by
  intro ad ca la H locs hin T hT X
  obtain ⟨hB, ⟨hCC, hD, hS⟩, hu, hl, hst⟩ := hin
  obtain ⟨hx, hb, hml, hown, hts, -, hA, ⟨hRc, hRs, hRf, hRl⟩, -, hNS⟩ := cx
  have hown : s.vm.findClass "RouteGuideLaw" = some m.cls := hown
  obtain ⟨lk, ⟨T0, ty0, t1, -⟩, hst0, f1, f2, f4, n, hn, f3⟩ := tb_FX.2.2.2.2.1 _ _ _ th_rm
  rw [th_ow] at f1
  have hsh := hB.2.2.2.2.2.2
  have hty : am_ty h 0 = some (am_ow 2 + 3) := by rw [eh]; rfl
  obtain ⟨ha, hka⟩ := am_ty_some hty
  obtain ⟨cellB, hcB, hoB, hclB⟩ := va_recv (ci := am_ow 2) (q0 := 0) hCC.2.1 hCC.1 t1 (am_ws_at ha |>.trans (by rw [am_ce_obj hka]))
  rw [← lk.2.2.2.2] at hclB
  obtain ⟨mk, methM, hnamed, hmethM, hstM, habM⟩ := Cond.instanceMethod_spec (hts _ f2)
  obtain ⟨methM', cM, hmethM', hcM, hbM, hmlM, hretM, hlkM, hexM, hsigM⟩ := Cond.code_spec hnamed (hts _ lk.1)
  cases hmethM.symm.trans hmethM'
  obtain ⟨c2, r2, m2, q1, q2, q3, q4, kP, hkP, hkPi⟩ := Cond.selects_spec (hts _ f4)
  cases hclB.symm.trans q1
  cases (State.methodFound?_of_named hnamed lk.2.2.1).symm.trans q2
  cases hnamed.symm.trans q3
  have hselP : selectMethod e.platform s.vm cellB.cls mk = .method mk := by rw [Launch.admits_selectMethod X.admits]; exact q4
  have hn5 : n = 5 := by
    have e6 : am_na 2 = 6 := by decide +kernel
    omega
  subst hn5
  have hlen : (5 : Nat) = methM.sig.parameters.length := by
    have f3' : (parseMethodDescriptor (am_y 2).desc).map (fun d => d.parameters.length) = some 5 := f3
    rw [hsigM] at f3'
    exact (Option.some.inj f3').symm
  obtain ⟨vm₁, X₁, hstep₁⟩ := X.invokevirtual hx hown (hts _ f1) hnamed hmethM hstM hkP hkPi lk.2.2.1 (a := ad 0) (cell := cellB) (by rw [hT]; exact hcB)
    (fun z hz => by rw [hz] at hoB; cases hoB) hselP hmethM habM hkP hkPi (g := F0 m 11 la [.int (iZ xc), .long (lZ xv), .long (lZ xm), .int (iZ xb), .int (iZ xa), .ref (ad 0), .int (iZ 0), .ref (ad 52)]) rfl
    (argsL := [.int (iZ xa), .int (iZ xb), .long (lZ xm), .long (lZ xv), .int (iZ xc)]) (rest := [.int (iZ 0), .ref (ad 52)]) hlen rfl (by rw [hb]; exact th_e11)
  have hWk : s.WarmedH (T.setVm vm₁).vm := X₁.warmed
  have hmk1 : (T.setVm vm₁).vm.method? mk = some methM := by rw [hWk.alike.method?]; exact hmethM
  have hpk : (T.setVm vm₁).plainMethod mk := hWk.plainAt (fun k hk => by
    obtain ⟨k', hk', hnm⟩ := className_of_methodNamed hnamed
    cases hk.symm.trans hk'
    rw [hnm]; exact lk.2.2.2.1)
  obtain ⟨Y₀, hin'⟩ := X₁.into (g := F0 m 11 la [.int (iZ 0), .ref (ad 52)]) rfl (hl.2.1.trans hml.symm) (by rw [hb]; exact th_e11) (Value.ref (ad 0) :: [.int (iZ xa), .int (iZ xb), .long (lZ xm), .long (lZ xv), .int (iZ xc)]).toArray (R' := th_R) hmk1 hcM hlkM hpk
    (Nat.le_trans (by decide +kernel) hRf) (by rw [hmlM]; refine Nat.le_trans ?_ hRl; show 2 * 0 + 2 + (8 + 11) + 300 ≤ 343; decide) (Nat.le_trans (by decide +kernel) hRc) (Nat.le_trans (by decide +kernel) hRs)
  rw [hmlM] at Y₀ hin'
  generalize hs' : (T.setVm vm₁).calling (F0 m 11 la [.int (iZ 0), .ref (ad 52)]) mk (Value.ref (ad 0) :: [.int (iZ xa), .int (iZ xb), .long (lZ xm), .long (lZ xv), .int (iZ xc)]).toArray = s' at Y₀
  have ehp : s'.heap = H := by rw [← hs', ← hT]; rfl
  have evm : s'.vm = vm₁ := by rw [← hs']; rfl
  have hWs : s.WarmedH s'.vm := by rw [evm]; exact hWk
  have htw' : TW s' := htw.move hWs (fun q cl hq hst => by
    rw [ehp, hS.2.1 q (Array.getElem?_eq_some_iff.mp hq).1 (fun hAq => by rw [hAs q cl hAq hq] at hst; cases hst)]
    exact hq)
  have hDT : va_D (fun _ => True) (am_ws ad ca h) := hD.weaken (fun _ _ _ _ => trivial)
  have hCC' : am_cc D s' ad ca h s'.heap := by rw [ehp]; exact hCC.moved hWs.alike
  have hss : am_ss h.1 [.ref 0, .int (iZ xa), .int (iZ xb), .long (lZ xm), .long (lZ xv), .int (iZ xc)] := fun w hw => by
    rcases List.mem_cons.mp hw with rfl | hw
    · exact Or.inl ha
    · simp only [List.mem_cons, List.not_mem_nil, or_false] at hw
      rcases hw with rfl | rfl | rfl | rfl | rfl <;> trivial
  have hown2 : s'.vm.findClass (am_y 2).cls = some mk.cls := by rw [hWs.alike.findClass]; exact findClass_of_methodNamed hnamed
  have hWin := th_in (p := p) (l := l) (e := e) (args := (Value.ref (ad 0) :: [.int (iZ xa), .int (iZ xb), .long (lZ xm), .long (lZ xv), .int (iZ xc)]).toArray) (below := .java (F0 m 11 la [.int (iZ 0), .ref (ad 52)]) :: below) (meth := methM) (D := D) (ad := ad) (ca := ca) eh rfl rfl hx hbM hmlM hown2 (fun w hw => am_good hts w hw _ _ hWs) (hNS.warm hWs) hlkM hexM htr htw' (htx.warm hWs) hsh hss hCC' hDT hr hc hs ht
  obtain ⟨t, a1, hrun, x, Lx, ce, hend, hWt, hsame, hLx, ⟨hce, hcv, hcc⟩, hPt, hkt⟩ := hWin _ (by rw [ehp, ← hT]; rfl) Y₀
  subst hs'
  obtain ⟨T', X', hWT, hsm, htT⟩ := X₁.outOfThrown (g := F0 m 11 la [.int (iZ 0), .ref (ad 52)]) rfl hend hWt hsame
  have hcome : Steps p.tables e below (T.setTop (F0 m 11 la [.int (iZ xc), .long (lZ xv), .long (lZ xm), .int (iZ xb), .int (iZ xa), .ref (ad 0), .int (iZ 0), .ref (ad 52)])) ((T'.setTop (F0 m 11 la [.int (iZ 0), .ref (ad 52)])).pushFrame (.throwing x)) := by
    refine hstep₁ _ (fun acts => ?_)
    have e9 := hin' acts
    rw [← htT]
    refine Eq.mpr (congrArg (fun z => Steps p.tables e below z t) e9) ?_
    exact Steps.weaken (mid := [.java (F0 m 11 la [.int (iZ 0), .ref (ad 52)])]) a1
  obtain ⟨xe, hxe, e1, e2, e3, e4⟩ : ∃ xe : ExceptionTableEntry, c.exceptionTable.toList = [xe] ∧ xe.startPc = 0 ∧ xe.endPc = 16 ∧ xe.handlerPc = 19 ∧ xe.catchType = 13 := by
    generalize c.exceptionTable.toList = tl at hhd
    cases tl with
    | nil => cases hhd
    | cons xe r =>
      cases r with
      | nil =>
        simp only [th_hh, List.map_cons, List.map_nil, List.cons.injEq, Prod.mk.injEq, and_true] at hhd
        exact ⟨xe, rfl, hhd⟩
      | cons y r => simp [th_hh] at hhd
  obtain ⟨c3, t3, hc3, ht3, hasg⟩ := Cond.castable_spec (htw.at (State.WarmedH.refl s) (fun _ _ z _ => z) args _ th_wc)
  cases hc3.symm.trans ht3
  have hfx : s.vm.findClass th_x = some ce.cls := by rw [← hcc]; exact (hWs.alike.findClass _ _).symm
  cases hc3.symm.trans hfx
  have eT' : T'.heap = t.heap := by rw [htT, Stand.throwing_heap]
  obtain ⟨vm', X'', hcg⟩ := co_catch X' (a := x) (g := F0 m 11 la [.int (iZ 0), .ref (ad 52)]) rfl hown hxe (by simp [covers, e1, e2, F0]) (by rw [e4]; decide) (by rw [e4]; exact hts _ th_w13) hfx (by rw [eT']; exact hce) hcv hasg hcome
  rw [e3] at hcg
  have hAA : ∀ q, va_A (am_ws ad ca h) H.size q → A q := by
    rintro q (⟨i, w, hi⟩ | hq)
    · exact hD.2 i _ hi
    · exact hA q (Nat.le_trans hS.1 hq)
  have hsz : s.heap.size ≤ T'.heap.size := by
    have h1 := hsm.2.1
    have h2 : (T.setVm vm₁).heap.size ≤ T'.heap.size := h1
    have h3 : (T.setVm vm₁).heap.size = H.size := by rw [← hT]; rfl
    rw [h3] at h2
    exact Nat.le_trans hS.1 h2
  have WW : W p l e R s m args below meth c T'.heap (locs ++ Lx) (0 + 1) (0 + 6) Qw (F0 m 19 la [.ref x]) := by
    refine lv_astore (i := 9) (nL := am_mL 139) (lv := []) hx hb th_e19 ⟨hl.2.1, hl.2.2.1, fun q hq => (List.not_mem_nil hq).elim⟩ (by decide +kernel) rfl (fun ls' hls' => ?_)
    refine K21 ad ca ls' T'.heap (locs ++ Lx) ⟨hB, ⟨⟨by rw [eT']; exact hPt, hCC.2⟩, hD, ⟨hsz, fun q hq hAq => ?_, fun y hy => ?_⟩⟩, ⟨by decide +kernel, by decide +kernel⟩, ⟨fun i v hv => ?_, ⟨hls'.1, hls'.2.1, fun q hq => ?_⟩⟩, fun w hw => (List.not_mem_nil hw).elim⟩
    · rw [eT', hkt q (by rw [ehp]; exact Nat.lt_of_lt_of_le hq hS.1) (fun z => hAq (hAA q (by rw [ehp] at z; exact z))), ehp]
      exact hS.2.1 q hq hAq
    · rcases List.mem_append.mp hy with hy | hy
      · exact hS.2.2 y hy
      · have := hLx y hy
        rw [ehp] at this
        exact hAA _ this
    · simp [am_lk] at hv
    · simp [am_ll] at hq
  obtain ⟨t2, b1, b2⟩ := WW (T'.setVm vm') rfl X''
  exact ⟨t2, hcg.trans b1, b2⟩
