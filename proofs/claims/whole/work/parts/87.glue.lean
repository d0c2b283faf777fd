/-! FROM THE ABSTRACT LAW TO THE LAW: the world at the start, contracts -/
theorem am_no {c : Nat} (h : c < 9) : am_CO c ∧ Cond.instantiable (am_cn c) (am_nf c) ∈ am_tbl := by
  match c, h with
  | 0, _ => have q : am_NO 6 9 0 := tb_FX.2.1 6 9 0 rfl; exact ⟨q.1, q.2.2.1⟩
  | 1, _ => have q : am_NO 7 41 1 := tb_FX.2.1 7 41 1 rfl; exact ⟨q.1, q.2.2.1⟩
  | 2, _ => have q : am_NO 7 34 2 := tb_FX.2.1 7 34 2 rfl; exact ⟨q.1, q.2.2.1⟩
  | 3, _ => have q : am_NO 7 11 3 := tb_FX.2.1 7 11 3 rfl; exact ⟨q.1, q.2.2.1⟩
  | 4, _ => have q : am_NO 7 18 4 := tb_FX.2.1 7 18 4 rfl; exact ⟨q.1, q.2.2.1⟩
  | 5, _ => have q : am_NO 7 48 5 := tb_FX.2.1 7 48 5 rfl; exact ⟨q.1, q.2.2.1⟩
  | 6, _ => have q : am_NO 7 25 6 := tb_FX.2.1 7 25 6 rfl; exact ⟨q.1, q.2.2.1⟩
  | 7, _ => have q : am_NO 10 8 7 := tb_FX.2.1 10 8 7 rfl; exact ⟨q.1, q.2.2.1⟩
  | 8, _ => have q : am_NO 10 16 8 := tb_FX.2.1 10 16 8 rfl; exact ⟨q.1, q.2.2.1⟩
  | c + 9, h => exact absurd h (by omega)
theorem am_K0 {s : State} {args : Array Value} (hts : ∀ w ∈ am_tbl, w.before args s = true) : ∃ D : va_G, va_K D vwCl [] s := by
  have h : ∀ c : Nat, ∃ (cC : ClassId) (iS : Nat → Nat), ∀ q, vwCl[c]? = some q → u_Kn s q.1 q.2.1 q.2.2 cC iS := by
    intro c
    by_cases hc : c < 9
    · obtain ⟨⟨T, ty0, h1, h2, -⟩, h3⟩ := am_no hc
      obtain ⟨cC, iS, hk⟩ := u_known (C := am_cn c) (T := T) (N := am_nf c) hts h2 (hts _ h3)
      refine ⟨cC, iS, fun q hq => ?_⟩
      rw [h1] at hq
      cases hq
      exact hk
    · refine ⟨0, fun _ => 0, fun q hq => ?_⟩
      have : c < vwCl.length := (List.getElem?_eq_some_iff.mp hq).1
      have e : vwCl.length = 9 := rfl
      omega
  refine ⟨(fun c => Classical.choose (h c), fun c => Classical.choose (Classical.choose_spec (h c))), fun c q hq => ?_, fun k q hq => ?_⟩
  · exact Classical.choose_spec (Classical.choose_spec (h c)) q hq
  · simp at hq
theorem met_mono {l : Launch} {y : MethodName} {ws : List Cond} {rm : Room} {Pc : Array Value → State → Prop} {Qc Qc' : Array Value → State → Outcome → State → Prop} {mc ms : Nat} {free : Addr → Prop} (h : Met l y ws rm Pc Qc mc ms free) (hq : ∀ a s o t, Qc a s o t → Qc' a s o t) : Met l y ws rm Pc Qc' mc ms free := by
  intro p e ha hc hk s m args below hf hap hP hK
  obtain ⟨n, o, h1, h2, h3, h4⟩ := h p e ha hc hk s m args below hf hap hP hK
  exact ⟨n, o, h1, h2, h3, hq _ _ _ _ h4.1, h4.2⟩
theorem am_MM_same {l : Launch} {D : va_G} {k : Nat} {as : List Value} {h : am_H} {Z : Option Value → am_H → Prop} (e : am_MM l D k as h (fun v h' => smS h h' → Z v h')) : am_MM l D k as h Z := by
  intro sz ad ca h1 h2 h3
  refine met_mono (e sz ad ca h1 h2 h3) (fun a s o t q => ?_)
  obtain ⟨⟨v, h', ad', ca', q1, q2, q3, q4⟩, q5⟩ := q
  exact ⟨⟨v, h', ad', ca', q1, q2 ⟨q3.2.2.2.2.1, q3.2.2.2.2.2.1⟩, q3, q4⟩, q5⟩
theorem lwC_sound (l : Launch) (D : va_G) (d : Nat) : ∀ k as h Z, k ≠ am_lst → lwC d k as h Z → am_MM l D k as h Z := by
  intro k as h Z hk e
  unfold lwC at e
  rw [if_neg hk] at e
  exact am_MM_same (tb_sound l D d k as h _ e)
theorem am_NS0 {s : State} {args : Array Value} (hts : ∀ w ∈ lw_tbl, w.before args s = true) : am_NS s := by
  intro q hq
  have hm : Cond.methodLinkNest q.1 q.2.1 q.2.2.1 q.2.2.2 ∈ lw_tbl := by
    revert q
    decide +kernel
  exact va_Nw.of rfl (hts _ hm)
