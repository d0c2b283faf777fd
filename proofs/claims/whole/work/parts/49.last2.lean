/-! THE REFERENCE: findLast(), the nearest charger -/
theorem RS_in {f g : Nat → Nat → Int} {a0 v : Nat} (hM : MOk f g) (ha : a0 ≤ 20) (h : RS f g a0 v) : v < 21 * ((f 31 5).toNat + 1) := by
  refine h (fun x => x < 21 * ((f 31 5).toNat + 1)) (by show a0 < _; omega) (fun q v u w hE _ => ?_)
  have m5 := hM.1.2.1
  have h20 := toZ_in f
  obtain ⟨s, e, h1, h2, h3, h4⟩ := hE
  show u < _
  rcases h4 with ⟨-, z1, -, z2, -⟩ | ⟨z1, z2, z3, z4, -⟩
  · omega
  · have := neZ_in hM q
    omega
theorem Gm_k {f0 g0 f g f2 : Nat → Nat → Int} {k : Nat} (hk : 18 < k) (h : Gm f0 g0 f g) (h1 : ∀ a, a ≠ 31 → f2 a = f a) (h2 : ∀ j, j ≠ k → f2 31 j = f 31 j) : Gm f0 g0 f2 g := by
  unfold Gm at h ⊢
  rw [h1 35 (by decide), h1 36 (by decide), h1 39 (by decide), h1 42 (by decide), h2 1 (by omega), h2 5 (by omega), h2 15 (by omega), h2 16 (by omega), h2 17 (by omega), h2 18 (by omega)]
  exact h
/-- a flag that says P -/
def bI (is : Int) (P : Prop) : Prop := (is = 0 ∨ is = 1) ∧ (is = 1 ↔ P)
/-- a charger in reach -/
def okZ (f0 g0 : Nat → Nat → Int) (a0 n : Nat) : Prop := 0 < g0 34 n ∧ ∃ v, RS f0 g0 a0 v ∧ plZ f0 (v / 21) = n
theorem lp_45a {d L : Nat} {sw : Bool} {Q : Option Value → am_H → Prop} {f0 g0 f g : Nat → Nat → Int} (hM : MOk f0 g0) (hG : Gm f0 g0 f g) {n : Nat} (hn : n ≤ 60) (hp : ∀ v, v < 2541 → f 45 v = 0 ∨ f 45 v = 1) (K : ∀ is : Int, bI is (∃ v, v < 21 * ((f0 31 5).toNat + 1) ∧ f 45 v = 1 ∧ plZ f0 (v / 21) = n) → am_Wp (am_call (d + 2)) 45 Q 280 [some (.ref 31), none, none, some (.int (iZ (n : Int))), some (.int (iZ is)), none, none, none] [] (53, sh_lt L, iH f, jH g, sh_rt sw) (0, 0)) : ∀ (k a : Nat) (i is : Int), i = a → 21 * ((f0 31 5).toNat + 1) = a + k → bI is (∃ v, v < a ∧ f 45 v = 1 ∧ plZ f0 (v / 21) = n) → am_Wp (am_call (d + 2)) 45 Q 224 [some (.ref 31), none, none, some (.int (iZ (n : Int))), some (.int (iZ is)), some (.int (iZ i)), none, none] [] (53, sh_lt L, iH f, jH g, sh_rt sw) (0, 0) := by
  intro k
  have m5 := hM.1.2.1
  have hM' := Gm_MOk hG hM
  have e5 := hG.1.2.1
  induction k with
  | zero =>
    intro a i is hi hk h2
    subst hi
    have h1 := h2.1
    refine ap_go kc_45_224 ?_
    refine ap_iload rfl ?_; refine ai_bipush (by decide) ?_; refine ap_aload_n rfl ?_; refine ai_getI ow_45 rf_8_88 rfl rfl ?_; refine ai_imul ?_; refine ai_bipush (by decide) ?_; refine ai_iadd ?_
    refine ai_icge rfl rfl (fun hb0 => ?_) (fun hb0 => ?_) ?_
    · exact am_weak (by first | exact am_le_0 | (repeat (first | exact am_le_0 | refine am_le_n ?_ | refine am_le_s ?_))) (K is (by rw [hk]; exact h2))
    · exfalso; omega
    all_goals (omega)
  | succ k ih =>
    intro a i is hi hk h2
    subst hi
    have h1 := h2.1
    have eD : ((a : Int) / 21).toNat = a / 21 := by omega
    have hpl := plZ_in hM' (a / 21)
    have epl := Gm_pl hG (a / 21)
    have hpa := hp a (by omega)
    have eq45 : f 45 ((a : Nat) : Int).toNat = f 45 a := rfl
    have st : ∀ j : Int, j = 0 ∨ j = 1 → (j = 1 ↔ (is = 1 ∨ (f 45 a = 1 ∧ plZ f0 (a / 21) = n))) → bI j (∃ v, v < a + 1 ∧ f 45 v = 1 ∧ plZ f0 (v / 21) = n) := by
      intro j hj he
      refine ⟨hj, he.trans ⟨?_, ?_⟩⟩
      · rintro (z | z)
        · obtain ⟨v, z1, z2⟩ := h2.2.mp z
          exact ⟨v, by omega, z2⟩
        · exact ⟨a, by omega, z⟩
      · rintro ⟨v, z1, z2⟩
        by_cases z : v = a
        · subst z; exact Or.inr z2
        · exact Or.inl (h2.2.mpr ⟨v, by omega, z2⟩)
    refine ap_go kc_45_224 ?_
    refine ap_iload rfl ?_; refine ai_bipush (by decide) ?_; refine ap_aload_n rfl ?_; refine ai_getI ow_45 rf_8_88 rfl rfl ?_; refine ai_imul ?_; refine ai_bipush (by decide) ?_; refine ai_iadd ?_
    refine ai_icge rfl rfl (fun hb0 => ?_) (fun hb0 => ?_) ?_
    · exfalso; omega
    · refine ap_go kc_45_239 ?_
      refine ap_iload rfl ?_
      refine ai_ifne rfl rfl (fun hb1 => ?_) (fun hb1 => ?_) ?_
      · refine ap_go kc_45_267 ?_
        refine ai_iconst ?_; refine ap_goto rfl ?_
        refine ap_go kc_45_272 ?_
        refine ap_istore rfl ?_; refine ai_iinc rfl rfl ?_; refine ap_goto rfl ?_
        first | exact am_weak (by first | exact am_le_0 | (repeat (first | exact am_le_0 | refine am_le_n ?_ | refine am_le_s ?_))) (ih (a + 1) (a + 1) 1 rfl (by omega) (st 1 (Or.inr rfl) (by first | omega | (simp only [Int.toNat_natCast] at *; omega)))) | exact am_weak (by first | exact am_le_0 | (repeat (first | exact am_le_0 | refine am_le_n ?_ | refine am_le_s ?_))) (ih (a + 1) (a + 1) 0 rfl (by omega) (st 0 (Or.inl rfl) (by first | omega | (simp only [Int.toNat_natCast] at *; omega))))
      · refine ap_go kc_45_244 ?_
        refine ap_aload_n rfl ?_; refine ap_getR ow_45 rf_8_55 rfl rfl rfl ?_; refine ap_iload rfl ?_; refine ai_baload (n := 2541) rfl rfl (by decide) ?_ ?_
        refine ai_ifeq rfl rfl (fun hb2 => ?_) (fun hb2 => ?_) ?_
        · refine ap_go kc_45_271 ?_
          refine ai_iconst ?_; refine ap_nil ?_
          refine ap_go kc_45_272 ?_
          refine ap_istore rfl ?_; refine ai_iinc rfl rfl ?_; refine ap_goto rfl ?_
          first | exact am_weak (by first | exact am_le_0 | (repeat (first | exact am_le_0 | refine am_le_n ?_ | refine am_le_s ?_))) (ih (a + 1) (a + 1) 1 rfl (by omega) (st 1 (Or.inr rfl) (by first | omega | (simp only [Int.toNat_natCast] at *; omega)))) | exact am_weak (by first | exact am_le_0 | (repeat (first | exact am_le_0 | refine am_le_n ?_ | refine am_le_s ?_))) (ih (a + 1) (a + 1) 0 rfl (by omega) (st 0 (Or.inl rfl) (by first | omega | (simp only [Int.toNat_natCast] at *; omega))))
        · refine ap_go kc_45_254 ?_
          refine ap_aload_n rfl ?_; refine ap_iload rfl ?_; refine ai_bipush (by decide) ?_; refine ai_idiv ?_ ?_; refine ap_callv0 ow_45 rm_8_116 na_37 mc_37 ms_37 rfl rfl (Nat.le_of_ble_eq_true rfl) (Nat.le_of_ble_eq_true rfl) (Or.inr rfl) (Nat.zero_le _) (Nat.zero_le _) ?_; refine sp_37 ?_ ?_; rw [eD, epl]; dsimp only [Option.toList_some, Option.toList_none, List.cons_append, List.nil_append]; refine ap_iload_n rfl ?_
          refine ai_icne rfl rfl (fun hb3 => ?_) (fun hb3 => ?_) ?_
          · refine ap_go kc_45_271 ?_
            refine ai_iconst ?_; refine ap_nil ?_
            refine ap_go kc_45_272 ?_
            refine ap_istore rfl ?_; refine ai_iinc rfl rfl ?_; refine ap_goto rfl ?_
            first | exact am_weak (by first | exact am_le_0 | (repeat (first | exact am_le_0 | refine am_le_n ?_ | refine am_le_s ?_))) (ih (a + 1) (a + 1) 1 rfl (by omega) (st 1 (Or.inr rfl) (by first | omega | (simp only [Int.toNat_natCast] at *; omega)))) | exact am_weak (by first | exact am_le_0 | (repeat (first | exact am_le_0 | refine am_le_n ?_ | refine am_le_s ?_))) (ih (a + 1) (a + 1) 0 rfl (by omega) (st 0 (Or.inl rfl) (by first | omega | (simp only [Int.toNat_natCast] at *; omega))))
          · refine ap_go kc_45_267 ?_
            refine ai_iconst ?_; refine ap_goto rfl ?_
            refine ap_go kc_45_272 ?_
            refine ap_istore rfl ?_; refine ai_iinc rfl rfl ?_; refine ap_goto rfl ?_
            first | exact am_weak (by first | exact am_le_0 | (repeat (first | exact am_le_0 | refine am_le_n ?_ | refine am_le_s ?_))) (ih (a + 1) (a + 1) 1 rfl (by omega) (st 1 (Or.inr rfl) (by first | omega | (simp only [Int.toNat_natCast] at *; omega)))) | exact am_weak (by first | exact am_le_0 | (repeat (first | exact am_le_0 | refine am_le_n ?_ | refine am_le_s ?_))) (ih (a + 1) (a + 1) 0 rfl (by omega) (st 0 (Or.inl rfl) (by first | omega | (simp only [Int.toNat_natCast] at *; omega))))
          all_goals (omega)
        all_goals (omega)
      all_goals (omega)
    all_goals (omega)
theorem lp_45n {d L : Nat} {sw : Bool} {Q : Option Value → am_H → Prop} {f0 g0 f g : Nat → Nat → Int} {a0 : Nat} (hM : MOk f0 g0) (hX : XOk g) (ha : a0 ≤ 20) (hG : Gm f0 g0 f g) (hR : ∀ v, v < 2541 → (f 45 v = 0 ∨ f 45 v = 1) ∧ (f 45 v = 1 ↔ RS f0 g0 a0 v)) (K : ∀ F l, (∀ a, a ≠ 31 → F a = f a) → (∀ j, j ≠ 30 → F 31 j = f 31 j) → F 31 30 = ((l : Nat) : Int) → nsL (okZ f0 g0 a0) (frZ f0 g) (f0 31 1).toNat l → Q none (53, sh_lt L, iH F, jH g, sh_rt sw)) : ∀ (k n : Nat) (i : Int) (F : Nat → Nat → Int) (l : Nat), i = n + 1 → (f0 31 1).toNat = n + k → (∀ a, a ≠ 31 → F a = f a) → (∀ j, j ≠ 30 → F 31 j = f 31 j) → F 31 30 = (l : Int) → nsL (okZ f0 g0 a0) (frZ f0 g) n l → am_Wp (am_call (d + 2)) 45 Q 210 [some (.ref 31), none, none, some (.int (iZ i)), none, none, none, none] [] (53, sh_lt L, iH F, jH g, sh_rt sw) (0, 0) := by
  intro k
  have m5 := hM.1
  induction k with
  | zero =>
    intro n i F l hi hk h1 h2 h3 h4
    have e5 : F 31 1 = f0 31 1 := (h2 1 (by decide)).trans hG.1.1
    refine ap_go kc_45_210 ?_
    refine ap_iload_n rfl ?_; refine ap_aload_n rfl ?_; refine ai_getI ow_45 rf_8_85 rfl rfl ?_
    refine ai_icgt rfl rfl (fun hb0 => ?_) (fun hb0 => ?_) ?_
    · refine ap_go kc_45_331 ?_
      refine ap_vret rfl ?_
      exact K F l h1 h2 h3 (by rw [hk]; exact h4)
    · exfalso; omega
    all_goals (omega)
  | succ k ih =>
    intro n i F l hi hk h1 h2 h3 h4
    have hi' : i = ((n + 1 : Nat) : Int) := by omega
    subst hi'
    have hG' := Gm_k (k := 30) (by decide) hG h1 h2
    have hM' := Gm_MOk hG' hM
    have e5 : F 31 1 = f0 31 1 := (h2 1 (by decide)).trans hG.1.1
    have e16 : F 31 16 = f0 31 16 := (h2 16 (by decide)).trans hG.1.2.2.2.1
    have e34 : g 34 (n + 1) = g0 34 (n + 1) := by rw [hG.2.2.1]
    have h34 := hM.2.2.1 (n + 1)
    have hl := nsL_le n l h4
    have efr : ∀ j, frZ F g j = frZ f0 g j := fun j => by unfold frZ; rw [e16]
    have hf1 := frZ_in (f := f0) hX (n + 1)
    have hf2 := frZ_in (f := f0) hX l
    have eL : (F 31 30).toNat = l := by omega
    have J : ∀ is : Int, bI is (∃ v, v < 21 * ((f0 31 5).toNat + 1) ∧ F 45 v = 1 ∧ plZ f0 (v / 21) = ((n + 1 : Nat) : Int)) → am_Wp (am_call (d + 2)) 45 Q 280 [some (.ref 31), none, none, some (.int (iZ ((n + 1 : Nat) : Int))), some (.int (iZ is)), none, none, none] [] (53, sh_lt L, iH F, jH g, sh_rt sw) (0, 0) := by
      intro is hi2
      have hi1 := hi2.1
      have hi3 : bI is (∃ v, RS f0 g0 a0 v ∧ plZ f0 (v / 21) = ((n + 1 : Nat) : Int)) := by
        refine ⟨hi1, hi2.2.trans ⟨?_, ?_⟩⟩
        · rintro ⟨v, z1, z2, z3⟩
          rw [h1 45 (by decide)] at z2
          exact ⟨v, (hR v (by omega)).2.mp z2, z3⟩
        · rintro ⟨v, z1, z2⟩
          have := RS_in hM ha z1
          refine ⟨v, this, ?_, z2⟩
          rw [h1 45 (by decide)]
          exact (hR v (by omega)).2.mpr z1
      have st : ∀ l' : Nat, ((is = 1 ∧ 0 < g0 34 (n + 1)) ∧ (l = 0 ∨ frZ f0 g (n + 1) < frZ f0 g l) ∧ l' = n + 1) ∨ (¬ ((is = 1 ∧ 0 < g0 34 (n + 1)) ∧ (l = 0 ∨ frZ f0 g (n + 1) < frZ f0 g l)) ∧ l' = l) → nsL (okZ f0 g0 a0) (frZ f0 g) (n + 1) l' := by
        intro l' hl'
        refine ⟨l, h4, ?_⟩
        have eo : okZ f0 g0 a0 (n + 1) ↔ (is = 1 ∧ 0 < g0 34 (n + 1)) := ⟨fun z => ⟨hi3.2.mpr z.2, z.1⟩, fun z => ⟨z.2, hi3.2.mp z.1⟩⟩
        rw [eo]
        exact hl'
      refine ap_go kc_45_280 ?_
      refine ap_iload rfl ?_
      refine ai_ifeq rfl rfl (fun hb0 => ?_) (fun hb0 => ?_) ?_
      · refine ap_go kc_45_325 ?_
        refine ai_iinc rfl rfl ?_; refine ap_goto rfl ?_
        first | exact am_weak (by first | exact am_le_0 | (repeat (first | exact am_le_0 | refine am_le_n ?_ | refine am_le_s ?_))) (ih (n + 1) (((n + 1 : Nat) : Int) + 1) F l rfl (by omega) h1 h2 h3 (st l (Or.inr ⟨by first | omega | (simp only [Int.toNat_natCast] at *; omega), rfl⟩))) | exact am_weak (by first | exact am_le_0 | (repeat (first | exact am_le_0 | refine am_le_n ?_ | refine am_le_s ?_))) (ih (n + 1) (((n + 1 : Nat) : Int) + 1) (am_up F 31 30 _) (n + 1) rfl (by omega) (fun a ha => (am_up_ne ha).trans (h1 a ha)) (fun j hj => by rw [am_up_eq]; dsimp only; rw [if_neg hj]; exact h2 j hj) (by rw [am_up_eq]; rfl) (st (n + 1) (Or.inl ⟨by first | omega | (simp only [Int.toNat_natCast] at *; omega), by first | omega | (simp only [Int.toNat_natCast] at *; omega), rfl⟩)))
      · refine ap_go kc_45_285 ?_
        refine ap_aload_n rfl ?_; refine ap_getR ow_45 rf_8_16 rfl rfl rfl ?_; refine ap_iload_n rfl ?_; refine ai_laload (n := 61) rfl rfl (by decide) ?_ ?_; refine ai_lconst 0 rfl ?_
        refine ai_lcle rfl rfl (fun hb1 => ?_) (fun hb1 => ?_) ?_
        · refine ap_go kc_45_325 ?_
          refine ai_iinc rfl rfl ?_; refine ap_goto rfl ?_
          first | exact am_weak (by first | exact am_le_0 | (repeat (first | exact am_le_0 | refine am_le_n ?_ | refine am_le_s ?_))) (ih (n + 1) (((n + 1 : Nat) : Int) + 1) F l rfl (by omega) h1 h2 h3 (st l (Or.inr ⟨by first | omega | (simp only [Int.toNat_natCast] at *; omega), rfl⟩))) | exact am_weak (by first | exact am_le_0 | (repeat (first | exact am_le_0 | refine am_le_n ?_ | refine am_le_s ?_))) (ih (n + 1) (((n + 1 : Nat) : Int) + 1) (am_up F 31 30 _) (n + 1) rfl (by omega) (fun a ha => (am_up_ne ha).trans (h1 a ha)) (fun j hj => by rw [am_up_eq]; dsimp only; rw [if_neg hj]; exact h2 j hj) (by rw [am_up_eq]; rfl) (st (n + 1) (Or.inl ⟨by first | omega | (simp only [Int.toNat_natCast] at *; omega), by first | omega | (simp only [Int.toNat_natCast] at *; omega), rfl⟩)))
        · refine ap_go kc_45_296 ?_
          refine ap_aload_n rfl ?_; refine ai_getI ow_45 rf_8_154 rfl rfl ?_
          refine ai_ifeq rfl rfl (fun hb2 => ?_) (fun hb2 => ?_) ?_
          · refine ap_go kc_45_320 ?_
            refine ap_aload_n rfl ?_; refine ap_iload_n rfl ?_; refine ai_putI ow_45 rf_8_154 rfl rfl rfl ?_; refine ap_nil ?_
            refine ap_go kc_45_325 ?_
            refine ai_iinc rfl rfl ?_; refine ap_goto rfl ?_
            first | exact am_weak (by first | exact am_le_0 | (repeat (first | exact am_le_0 | refine am_le_n ?_ | refine am_le_s ?_))) (ih (n + 1) (((n + 1 : Nat) : Int) + 1) F l rfl (by omega) h1 h2 h3 (st l (Or.inr ⟨by first | omega | (simp only [Int.toNat_natCast] at *; omega), rfl⟩))) | exact am_weak (by first | exact am_le_0 | (repeat (first | exact am_le_0 | refine am_le_n ?_ | refine am_le_s ?_))) (ih (n + 1) (((n + 1 : Nat) : Int) + 1) (am_up F 31 30 _) (n + 1) rfl (by omega) (fun a ha => (am_up_ne ha).trans (h1 a ha)) (fun j hj => by rw [am_up_eq]; dsimp only; rw [if_neg hj]; exact h2 j hj) (by rw [am_up_eq]; rfl) (st (n + 1) (Or.inl ⟨by first | omega | (simp only [Int.toNat_natCast] at *; omega), by first | omega | (simp only [Int.toNat_natCast] at *; omega), rfl⟩)))
          · refine ap_go kc_45_303 ?_
            refine ap_aload_n rfl ?_; refine ap_iload_n rfl ?_; refine ap_callv0 ow_45 rm_8_170 na_44 mc_44 ms_44 rfl rfl (Nat.le_of_ble_eq_true rfl) (Nat.le_of_ble_eq_true rfl) (Or.inr rfl) (Nat.zero_le _) (Nat.zero_le _) ?_; refine sp_44 ?_ ?_ ?_; rw [efr]; first | rw [eL] | skip; dsimp only [Int.toNat_natCast]; dsimp only [Option.toList_some, Option.toList_none, List.cons_append, List.nil_append]; refine ap_aload_n rfl ?_; refine ap_aload_n rfl ?_; refine ai_getI ow_45 rf_8_154 rfl rfl ?_; refine ap_callv0 ow_45 rm_8_170 na_44 mc_44 ms_44 rfl rfl (Nat.le_of_ble_eq_true rfl) (Nat.le_of_ble_eq_true rfl) (Or.inr rfl) (Nat.zero_le _) (Nat.zero_le _) ?_; refine sp_44 ?_ ?_ ?_; rw [efr]; first | rw [eL] | skip; dsimp only [Int.toNat_natCast]; dsimp only [Option.toList_some, Option.toList_none, List.cons_append, List.nil_append]
            refine ai_lcge rfl rfl (fun hb3 => ?_) (fun hb3 => ?_) ?_
            · refine ap_go kc_45_325 ?_
              refine ai_iinc rfl rfl ?_; refine ap_goto rfl ?_
              first | exact am_weak (by first | exact am_le_0 | (repeat (first | exact am_le_0 | refine am_le_n ?_ | refine am_le_s ?_))) (ih (n + 1) (((n + 1 : Nat) : Int) + 1) F l rfl (by omega) h1 h2 h3 (st l (Or.inr ⟨by first | omega | (simp only [Int.toNat_natCast] at *; omega), rfl⟩))) | exact am_weak (by first | exact am_le_0 | (repeat (first | exact am_le_0 | refine am_le_n ?_ | refine am_le_s ?_))) (ih (n + 1) (((n + 1 : Nat) : Int) + 1) (am_up F 31 30 _) (n + 1) rfl (by omega) (fun a ha => (am_up_ne ha).trans (h1 a ha)) (fun j hj => by rw [am_up_eq]; dsimp only; rw [if_neg hj]; exact h2 j hj) (by rw [am_up_eq]; rfl) (st (n + 1) (Or.inl ⟨by first | omega | (simp only [Int.toNat_natCast] at *; omega), by first | omega | (simp only [Int.toNat_natCast] at *; omega), rfl⟩)))
            · refine ap_go kc_45_320 ?_
              refine ap_aload_n rfl ?_; refine ap_iload_n rfl ?_; refine ai_putI ow_45 rf_8_154 rfl rfl rfl ?_; refine ap_nil ?_
              refine ap_go kc_45_325 ?_
              refine ai_iinc rfl rfl ?_; refine ap_goto rfl ?_
              first | exact am_weak (by first | exact am_le_0 | (repeat (first | exact am_le_0 | refine am_le_n ?_ | refine am_le_s ?_))) (ih (n + 1) (((n + 1 : Nat) : Int) + 1) F l rfl (by omega) h1 h2 h3 (st l (Or.inr ⟨by first | omega | (simp only [Int.toNat_natCast] at *; omega), rfl⟩))) | exact am_weak (by first | exact am_le_0 | (repeat (first | exact am_le_0 | refine am_le_n ?_ | refine am_le_s ?_))) (ih (n + 1) (((n + 1 : Nat) : Int) + 1) (am_up F 31 30 _) (n + 1) rfl (by omega) (fun a ha => (am_up_ne ha).trans (h1 a ha)) (fun j hj => by rw [am_up_eq]; dsimp only; rw [if_neg hj]; exact h2 j hj) (by rw [am_up_eq]; rfl) (st (n + 1) (Or.inl ⟨by first | omega | (simp only [Int.toNat_natCast] at *; omega), by first | omega | (simp only [Int.toNat_natCast] at *; omega), rfl⟩)))
            all_goals (first | omega | (simp only [Int.toNat_natCast] at *; omega))
          all_goals (first | omega | (simp only [Int.toNat_natCast] at *; omega))
        all_goals (first | omega | (simp only [Int.toNat_natCast] at *; omega))
      all_goals (first | omega | (simp only [Int.toNat_natCast] at *; omega))
    refine ap_go kc_45_210 ?_
    refine ap_iload_n rfl ?_; refine ap_aload_n rfl ?_; refine ai_getI ow_45 rf_8_85 rfl rfl ?_
    refine ai_icgt rfl rfl (fun hb0 => ?_) (fun hb0 => ?_) ?_
    · exfalso; omega
    · refine ap_go kc_45_218 ?_
      refine ai_iconst ?_; refine ap_istore rfl ?_; refine ai_iconst ?_; refine ap_istore rfl ?_; refine ap_nil ?_
      exact am_weak (by first | exact am_le_0 | (repeat (first | exact am_le_0 | refine am_le_n ?_ | refine am_le_s ?_))) (lp_45a hM hG' (n := n + 1) (by omega) (fun v hv => by rw [h1 45 (by decide)]; exact (hR v hv).1) J (21 * ((f0 31 5).toNat + 1)) 0 0 0 rfl (by omega) ⟨Or.inl rfl, fun z => absurd z (by decide), fun ⟨v, z, _⟩ => absurd z (Nat.not_lt_zero v)⟩)
    all_goals (omega)
theorem sp_45 {d L : Nat} {sw : Bool} {f g : Nat → Nat → Int} {Q : Option Value → am_H → Prop} {f0 g0 : Nat → Nat → Int} {a0 : Nat} (K : ∀ F l, (∀ a, a ≠ 31 → a ≠ 45 → F a = f a) → (∀ j, j ≠ 30 → F 31 j = f 31 j) → F 31 30 = ((l : Nat) : Int) → nsL (okZ f0 g0 a0) (frZ f0 g) (f0 31 1).toNat l → Q none (53, sh_lt L, iH F, jH g, sh_rt sw)) (hM : MOk f0 g0) (hX : XOk g) (ha : a0 ≤ 20) (hK : toZ f0 = 20) (hG : Gm f0 g0 f g) (h0 : f 31 30 = 0) : am_call (d + 3) 45 [.ref 31, .int (iZ (a0 : Int))] (53, sh_lt L, iH f, jH g, sh_rt sw) Q := by
  have m5 := hM.1
  refine ap_call (by decide) (Nat.le_of_ble_eq_true rfl) rfl ?_
  refine ap_go kc_45_0 ?_
  refine ai_iconst ?_; refine ap_istore_n rfl ?_; refine ap_nil ?_
  refine am_weak (by first | exact am_le_0 | (repeat (first | exact am_le_0 | refine am_le_n ?_ | refine am_le_s ?_))) (lp_45i hM hK hG (by omega) ?_ 2541 0 0 f rfl rfl (fun _ _ => rfl) (fun x hx => absurd hx (Nat.not_lt_zero x)))
  intro f2 hf hR
  have hG2 := Gm_f (Nat.le_refl 45) hG hf
  refine ap_go kc_45_208 ?_
  refine ai_iconst ?_; refine ap_istore_n rfl ?_; refine ap_nil ?_
  exact am_weak (by first | exact am_le_0 | (repeat (first | exact am_le_0 | refine am_le_n ?_ | refine am_le_s ?_))) (lp_45n hM hX ha hG2 hR (fun F l z1 z2 z3 z4 => K F l (fun a y1 y2 => (z1 a y1).trans (hf a y2)) (fun j hj => (z2 j hj).trans (by rw [hf 31 (by decide)])) z3 z4) (f0 31 1).toNat 0 1 f2 0 rfl (by omega) (fun _ _ => rfl) (fun _ _ => rfl) (by rw [hf 31 (by decide)]; exact h0) rfl)
