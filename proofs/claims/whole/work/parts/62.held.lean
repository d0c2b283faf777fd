/-! THE CLASS'S WAYFINDER: what may follow, what is held -/
/-- the class's map is the reference's -/
def CW (f0 g0 f g : Nat → Nat → Int) : Prop :=
  (f 5 8 = f0 31 5 ∧ f 1 3 = f0 31 1 ∧ f 14 8 = f0 31 15 ∧ f 14 9 = f0 31 16 ∧ f 14 10 = f0 31 17 ∧ f 14 11 = f0 31 18) ∧
  (∀ t : Nat, 1 ≤ t → (t : Int) ≤ f0 31 5 → f 6 t = f0 35 t) ∧
  (∀ s : Nat, (s : Int) ≤ f0 31 5 → f 7 s = plZ f0 s ∧ 1 ≤ plZ f0 s ∧ plZ f0 s ≤ f0 31 1) ∧
  (∀ s t : Nat, (s : Int) ≤ f0 31 5 → 1 ≤ t → (t : Int) ≤ f0 31 5 → (w_bit (g 13 (2 * s + t / 64)) (t % 64) = true ↔ ¬ (s = 0 ∨ f0 42 (121 * s + t) = 0))) ∧
  (∀ n : Nat, g 2 n = g0 32 n ∧ g 3 n = g0 33 n ∧ g 4 n = g0 34 n)
/-- and it is weighed -/
def CV (f0 g0 f g : Nat → Nat → Int) : Prop := (∀ t : Nat, 1 ≤ t → (t : Int) ≤ f0 31 5 → g 19 t = (if prZ f0 g0 t < 0 then -1 else wZ f0 g0 t) ∧ f 20 t = neZ f0 t) ∧ ∀ n : Nat, 1 ≤ n → (n : Int) ≤ f0 31 1 → g 21 n = uZ f0 g0 n
def CC (f0 g0 f g : Nat → Nat → Int) : Prop := CW f0 g0 f g ∧ CV f0 g0 f g
theorem CW_fr {f0 g0 f g F G : Nat → Nat → Int} (h : CW f0 g0 f g) (hf : ∀ a, (a = 1 ∨ a = 5 ∨ a = 6 ∨ a = 7 ∨ a = 14) → F a = f a) (hg : ∀ a, (a = 2 ∨ a = 3 ∨ a = 4 ∨ a = 13) → G a = g a) : CW f0 g0 F G := by
  unfold CW at h ⊢
  rw [hf 1 (by omega), hf 5 (by omega), hf 6 (by omega), hf 7 (by omega), hf 14 (by omega), hg 2 (by omega), hg 3 (by omega), hg 4 (by omega), hg 13 (by omega)]
  exact h
theorem CC_fr {f0 g0 f g F G : Nat → Nat → Int} (h : CC f0 g0 f g) (hf : ∀ a, (a = 1 ∨ a = 5 ∨ a = 6 ∨ a = 7 ∨ a = 14 ∨ a = 20) → F a = f a) (hg : ∀ a, (a = 2 ∨ a = 3 ∨ a = 4 ∨ a = 13 ∨ a = 19 ∨ a = 21) → G a = g a) : CC f0 g0 F G := by
  refine ⟨CW_fr h.1 (fun a ha => hf a (by omega)) (fun a ha => hg a (by omega)), ?_⟩
  have h2 := h.2
  unfold CV at h2 ⊢
  rw [hf 20 (by omega), hg 19 (by omega), hg 21 (by omega)]
  exact h2
theorem CC_w {f0 g0 f g : Nat → Nat → Int} (h : CC f0 g0 f g) {t : Nat} (h1 : 1 ≤ t) (h2 : (t : Int) ≤ f0 31 5) : (prZ f0 g0 t < 0 ∧ g 19 t = -1) ∨ (0 ≤ prZ f0 g0 t ∧ g 19 t = wZ f0 g0 t ∧ 1 ≤ wZ f0 g0 t) := by
  have := (h.2.1 t h1 h2).1
  have e : wZ f0 g0 t = 4096 * prZ f0 g0 t + 1 := rfl
  split at this
  · rename_i z; exact Or.inl ⟨z, this⟩
  · rename_i z; exact Or.inr ⟨by omega, this, by omega⟩
theorem CC_u {f0 g0 f g : Nat → Nat → Int} (h : CC f0 g0 f g) {s : Nat} (hs : (s : Int) ≤ f0 31 5) : g 21 (plZ f0 s).toNat = uZ f0 g0 (plZ f0 s).toNat := by
  have := h.1.2.2.1 s hs
  exact h.2.2 _ (by omega) (by omega)
theorem sp_125 {d L : Nat} {sw : Bool} {f g : Nat → Nat → Int} {Q : Option Value → am_H → Prop} {f0 g0 : Nat → Nat → Int} {s t : Nat} {y z : Int} (K : ∀ x : Int, bI x (mfZ f0 g0 s t) → Q (some (.int (iZ x))) (53, sh_lt L, iH f, jH g, sh_rt sw)) (hM : MOk f0 g0) (hC : CC f0 g0 f g) (hy : y = s) (hz : z = t) (hs : (s : Int) ≤ f0 31 5) (ht : 1 ≤ t) (ht2 : (t : Int) ≤ f0 31 5) : am_call (d + 2) 125 [.ref 14, .int (iZ y), .int (iZ z)] (53, sh_lt L, iH f, jH g, sh_rt sw) Q := by
  subst hy
  subst hz
  have K0 : ¬ mfZ f0 g0 s t → Q (some (.int (iZ 0))) (53, sh_lt L, iH f, jH g, sh_rt sw) := fun q => K 0 ⟨Or.inl rfl, fun z => absurd z (by decide), fun z => absurd z q⟩
  have K1 : mfZ f0 g0 s t → Q (some (.int (iZ 1))) (53, sh_lt L, iH f, jH g, sh_rt sw) := fun q => K 1 ⟨Or.inr rfl, fun _ => q, fun _ => rfl⟩
  have m5 := hM.1.2.1
  have hw := CC_w hC ht ht2
  have hpr := prZ_in hM t
  have ew : wZ f0 g0 t = 4096 * prZ f0 g0 t + 1 := rfl
  have e19 : g 19 ((t : Nat) : Int).toNat = g 19 t := rfl
  have e6 : f 6 ((t : Nat) : Int).toNat = f0 35 t := hC.1.2.1 t ht ht2
  have e7 : f 7 ((s : Nat) : Int).toNat = plZ f0 s := (hC.1.2.2.1 s hs).1
  have r35 := hM.2.1.1 t
  have rpl := plZ_in hM s
  have hbit := hC.1.2.2.2.1 s t hs ht ht2
  have e1 : (2 * (s : Int) + (t : Int) / 64).toNat = 2 * s + t / 64 := by omega
  have e2 : ((t : Int) % 64).toNat = t % 64 := by omega
  refine ap_call (by decide) (Nat.le_of_ble_eq_true rfl) rfl ?_
  by_cases hb : s = 0 ∨ f0 42 (121 * s + t) = 0
  · have eb : (if w_bit (g 13 (2 * (s : Int) + (t : Int) / 64).toNat) ((t : Int) % 64).toNat = true then (1 : Int) else 0) = 0 := by
      rw [e1, e2, if_neg (fun q => hbit.mp q hb)]
    refine ap_go kc_125_0 ?_
    refine ap_aload_n rfl ?_; refine ap_getR ow_125 rf_6_18 rfl rfl rfl ?_; refine ap_iload_n rfl ?_; refine ai_laload (n := 121) rfl rfl (by decide) ?_ ?_; refine ai_ldc2 (-1) ow_125 kl_6_82 rfl ?_
    refine ai_lceq rfl rfl (fun hc0 => ?_) (fun hc0 => ?_) ?_
    · refine ap_go kc_125_48 ?_
      refine ai_iconst ?_; refine ap_nil ?_
      refine ap_go kc_125_49 ?_
      refine ai_zret rfl ?_ ?_
      · first | exact K1 ⟨by omega, by omega, hb⟩ | exact K0 (fun q => by have q1 := q.1; have q2 := q.2.1; omega)
      all_goals (first | omega | exact Or.inl rfl | exact Or.inr rfl | (rw [eb]; omega))
    · refine ap_go kc_125_13 ?_
      refine ap_aload_n rfl ?_; refine ap_getR ow_125 rf_6_52 rfl rfl rfl ?_; refine ap_iload_n rfl ?_; refine ap_callv0 ow_125 rm_6_152 na_98 mc_98 ms_98 rfl rfl (Nat.le_of_ble_eq_true rfl) (Nat.le_of_ble_eq_true rfl) (Or.inr rfl) (Nat.zero_le _) (Nat.zero_le _) ?_; refine sp_98 ?_ ?_; dsimp only [Option.toList_some, Option.toList_none, List.cons_append, List.nil_append]; refine ap_aload_n rfl ?_; refine ap_getR ow_125 rf_6_52 rfl rfl rfl ?_; refine ap_iload_n rfl ?_; refine ap_callv0 ow_125 rm_6_125 na_99 mc_99 ms_99 rfl rfl (Nat.le_of_ble_eq_true rfl) (Nat.le_of_ble_eq_true rfl) (Or.inr rfl) (Nat.zero_le _) (Nat.zero_le _) ?_; refine sp_99 ?_ ?_; dsimp only [Option.toList_some, Option.toList_none, List.cons_append, List.nil_append]
      refine ai_icne rfl rfl (fun hc1 => ?_) (fun hc1 => ?_) ?_
      · refine ap_go kc_125_48 ?_
        refine ai_iconst ?_; refine ap_nil ?_
        refine ap_go kc_125_49 ?_
        refine ai_zret rfl ?_ ?_
        · first | exact K1 ⟨by omega, by omega, hb⟩ | exact K0 (fun q => by have q1 := q.1; have q2 := q.2.1; omega)
        all_goals (first | omega | exact Or.inl rfl | exact Or.inr rfl | (rw [eb]; omega))
      · refine ap_go kc_125_32 ?_
        refine ap_aload_n rfl ?_; refine ap_getR ow_125 rf_6_52 rfl rfl rfl ?_; refine ap_iload_n rfl ?_; refine ap_iload_n rfl ?_; refine ap_callv0 ow_125 rm_6_155 na_102 mc_102 ms_102 rfl rfl (Nat.le_of_ble_eq_true rfl) (Nat.le_of_ble_eq_true rfl) (Or.inr rfl) (Nat.zero_le _) (Nat.zero_le _) ?_; refine sp_102 ?_ ?_ ?_; dsimp only [Option.toList_some, Option.toList_none, List.cons_append, List.nil_append]
        refine ai_ifne rfl rfl (fun hc2 => ?_) (fun hc2 => ?_) ?_
        · refine ap_go kc_125_48 ?_
          refine ai_iconst ?_; refine ap_nil ?_
          refine ap_go kc_125_49 ?_
          refine ai_zret rfl ?_ ?_
          · first | exact K1 ⟨by omega, by omega, hb⟩ | exact K0 (fun q => by have q1 := q.1; have q2 := q.2.1; omega)
          all_goals (first | omega | exact Or.inl rfl | exact Or.inr rfl | (rw [eb]; omega))
        · refine ap_go kc_125_44 ?_
          refine ai_iconst ?_; refine ap_goto rfl ?_
          refine ap_go kc_125_49 ?_
          refine ai_zret rfl ?_ ?_
          · first | exact K1 ⟨by omega, by omega, hb⟩ | exact K0 (fun q => by have q1 := q.1; have q2 := q.2.1; omega)
          all_goals (first | omega | exact Or.inl rfl | exact Or.inr rfl | (rw [eb]; omega))
        all_goals (first | omega | exact Or.inl rfl | exact Or.inr rfl | (rw [eb]; omega))
      all_goals (first | omega | exact Or.inl rfl | exact Or.inr rfl | (rw [eb]; omega))
    all_goals (first | omega | exact Or.inl rfl | exact Or.inr rfl | (rw [eb]; omega))
  · have eb : (if w_bit (g 13 (2 * (s : Int) + (t : Int) / 64).toNat) ((t : Int) % 64).toNat = true then (1 : Int) else 0) = 1 := by
      rw [e1, e2, if_pos (hbit.mpr hb)]
    refine ap_go kc_125_0 ?_
    refine ap_aload_n rfl ?_; refine ap_getR ow_125 rf_6_18 rfl rfl rfl ?_; refine ap_iload_n rfl ?_; refine ai_laload (n := 121) rfl rfl (by decide) ?_ ?_; refine ai_ldc2 (-1) ow_125 kl_6_82 rfl ?_
    refine ai_lceq rfl rfl (fun hc0 => ?_) (fun hc0 => ?_) ?_
    · refine ap_go kc_125_48 ?_
      refine ai_iconst ?_; refine ap_nil ?_
      refine ap_go kc_125_49 ?_
      refine ai_zret rfl ?_ ?_
      · first | exact K0 (fun q => hb q.2.2) | (exfalso; omega)
      all_goals (first | omega | exact Or.inl rfl | exact Or.inr rfl | (rw [eb]; omega))
    · refine ap_go kc_125_13 ?_
      refine ap_aload_n rfl ?_; refine ap_getR ow_125 rf_6_52 rfl rfl rfl ?_; refine ap_iload_n rfl ?_; refine ap_callv0 ow_125 rm_6_152 na_98 mc_98 ms_98 rfl rfl (Nat.le_of_ble_eq_true rfl) (Nat.le_of_ble_eq_true rfl) (Or.inr rfl) (Nat.zero_le _) (Nat.zero_le _) ?_; refine sp_98 ?_ ?_; dsimp only [Option.toList_some, Option.toList_none, List.cons_append, List.nil_append]; refine ap_aload_n rfl ?_; refine ap_getR ow_125 rf_6_52 rfl rfl rfl ?_; refine ap_iload_n rfl ?_; refine ap_callv0 ow_125 rm_6_125 na_99 mc_99 ms_99 rfl rfl (Nat.le_of_ble_eq_true rfl) (Nat.le_of_ble_eq_true rfl) (Or.inr rfl) (Nat.zero_le _) (Nat.zero_le _) ?_; refine sp_99 ?_ ?_; dsimp only [Option.toList_some, Option.toList_none, List.cons_append, List.nil_append]
      refine ai_icne rfl rfl (fun hc1 => ?_) (fun hc1 => ?_) ?_
      · refine ap_go kc_125_48 ?_
        refine ai_iconst ?_; refine ap_nil ?_
        refine ap_go kc_125_49 ?_
        refine ai_zret rfl ?_ ?_
        · first | exact K0 (fun q => hb q.2.2) | (exfalso; omega)
        all_goals (first | omega | exact Or.inl rfl | exact Or.inr rfl | (rw [eb]; omega))
      · refine ap_go kc_125_32 ?_
        refine ap_aload_n rfl ?_; refine ap_getR ow_125 rf_6_52 rfl rfl rfl ?_; refine ap_iload_n rfl ?_; refine ap_iload_n rfl ?_; refine ap_callv0 ow_125 rm_6_155 na_102 mc_102 ms_102 rfl rfl (Nat.le_of_ble_eq_true rfl) (Nat.le_of_ble_eq_true rfl) (Or.inr rfl) (Nat.zero_le _) (Nat.zero_le _) ?_; refine sp_102 ?_ ?_ ?_; dsimp only [Option.toList_some, Option.toList_none, List.cons_append, List.nil_append]
        refine ai_ifne rfl rfl (fun hc2 => ?_) (fun hc2 => ?_) ?_
        · refine ap_go kc_125_48 ?_
          refine ai_iconst ?_; refine ap_nil ?_
          refine ap_go kc_125_49 ?_
          refine ai_zret rfl ?_ ?_
          · first | exact K0 (fun q => hb q.2.2) | (exfalso; omega)
          all_goals (first | omega | exact Or.inl rfl | exact Or.inr rfl | (rw [eb]; omega))
        · refine ap_go kc_125_44 ?_
          refine ai_iconst ?_; refine ap_goto rfl ?_
          refine ap_go kc_125_49 ?_
          refine ai_zret rfl ?_ ?_
          · first | exact K0 (fun q => hb q.2.2) | (exfalso; omega)
          all_goals (first | omega | exact Or.inl rfl | exact Or.inr rfl | (rw [eb]; omega))
        all_goals (first | omega | exact Or.inl rfl | exact Or.inr rfl | (rw [eb]; omega))
      all_goals (first | omega | exact Or.inl rfl | exact Or.inr rfl | (rw [eb]; omega))
    all_goals (first | omega | exact Or.inl rfl | exact Or.inr rfl | (rw [eb]; omega))
theorem sp_125t {d L : Nat} {sw : Bool} {f g : Nat → Nat → Int} {Q : Option Value → am_H → Prop} {f0 g0 : Nat → Nat → Int} {s t : Nat} {y z : Int} (K : Q (some (.int (iZ 1))) (53, sh_lt L, iH f, jH g, sh_rt sw)) (hm : mfZ f0 g0 s t) (hM : MOk f0 g0) (hC : CC f0 g0 f g) (hy : y = s) (hz : z = t) (hs : (s : Int) ≤ f0 31 5) (ht : 1 ≤ t) (ht2 : (t : Int) ≤ f0 31 5) : am_call (d + 2) 125 [.ref 14, .int (iZ y), .int (iZ z)] (53, sh_lt L, iH f, jH g, sh_rt sw) Q :=
  sp_125 (fun x hx => by rw [hx.2.mpr hm]; exact K) hM hC hy hz hs ht ht2
theorem sp_125n {d L : Nat} {sw : Bool} {f g : Nat → Nat → Int} {Q : Option Value → am_H → Prop} {f0 g0 : Nat → Nat → Int} {s t : Nat} {y z : Int} (K : Q (some (.int (iZ 0))) (53, sh_lt L, iH f, jH g, sh_rt sw)) (hm : ¬ mfZ f0 g0 s t) (hM : MOk f0 g0) (hC : CC f0 g0 f g) (hy : y = s) (hz : z = t) (hs : (s : Int) ≤ f0 31 5) (ht : 1 ≤ t) (ht2 : (t : Int) ≤ f0 31 5) : am_call (d + 2) 125 [.ref 14, .int (iZ y), .int (iZ z)] (53, sh_lt L, iH f, jH g, sh_rt sw) Q :=
  sp_125 (fun x hx => by rw [hx.1.resolve_right (fun q => hm (hx.2.mp q))]; exact K) hM hC hy hz hs ht ht2
theorem lp_131 {d L : Nat} {sw : Bool} {Q : Option Value → am_H → Prop} {f gb : Nat → Nat → Int} {a : Nat} (h11 : f 14 11 = (a : Int)) (ha : a ≤ 20) (K : ∀ g, (∀ a, a ≠ 23 → g a = gb a) → (∀ e, e < 21 → g 23 e = if e = a then 0 else 2305843009213693951) → Q none (53, sh_lt L, iH f, jH g, sh_rt sw)) : ∀ (k v : Nat) (i : Int) (g : Nat → Nat → Int), i = v → 21 = v + k → (∀ a, a ≠ 23 → g a = gb a) → (∀ e, e < v → g 23 e = 2305843009213693951) → am_Wp (am_call d) 131 Q 2 [some (.ref 14), some (.int (iZ i))] [] (53, sh_lt L, iH f, jH g, sh_rt sw) (0, 0) := by
  intro k
  induction k with
  | zero =>
    intro v i g hi hk hg hu
    subst hi
    have ea : (f 14 11).toNat = a := by omega
    refine ap_go kc_131_2 ?_
    refine ap_iload_n rfl ?_; refine ai_bipush (by decide) ?_
    refine ai_icge rfl rfl (fun hb0 => ?_) (fun hb0 => ?_) ?_
    · refine ap_go kc_131_23 ?_
      refine ap_aload_n rfl ?_; refine ap_getR ow_131 rf_6_32 rfl rfl rfl ?_; refine ap_aload_n rfl ?_; refine ai_getI ow_131 rf_6_45 rfl rfl ?_; refine ai_lconst 0 rfl ?_; refine ai_lastore (n := 21) rfl rfl (by decide) ?_ ?_; refine ap_vret rfl ?_
      · exact K _ (fun c q => (am_up_ne q).trans (hg c q)) (fun e he => by rw [am_up_eq, ea]; dsimp only; by_cases z : e = a; (rw [if_pos z, if_pos z]); rw [if_neg z, if_neg z]; exact hu e (by omega))
      all_goals (omega)
    · exfalso; omega
    all_goals (omega)
  | succ k ih =>
    intro v i g hi hk hg hu
    subst hi
    refine ap_go kc_131_2 ?_
    refine ap_iload_n rfl ?_; refine ai_bipush (by decide) ?_
    refine ai_icge rfl rfl (fun hb0 => ?_) (fun hb0 => ?_) ?_
    · exfalso; omega
    · refine ap_go kc_131_8 ?_
      refine ap_aload_n rfl ?_; refine ap_getR ow_131 rf_6_32 rfl rfl rfl ?_; refine ap_iload_n rfl ?_; refine ai_ldc2 (2305843009213693951) ow_131 kl_6_106 rfl ?_; refine ai_lastore (n := 21) rfl rfl (by decide) ?_ ?_; refine ai_iinc rfl rfl ?_; refine ap_goto rfl ?_
      · exact am_weak (by first | exact am_le_0 | (repeat (first | exact am_le_0 | refine am_le_n ?_ | refine am_le_s ?_))) (ih (v + 1) (v + 1) (am_up g 23 v 2305843009213693951) rfl (by omega) (fun c q => (am_up_ne q).trans (hg c q)) (fun u hu' => by rw [am_up_eq]; dsimp only; by_cases z : u = v; (rw [if_pos z]); rw [if_neg z]; exact hu u (by omega)))
      all_goals (omega)
    all_goals (omega)
theorem sp_131 {d L : Nat} {sw : Bool} {f g : Nat → Nat → Int} {Q : Option Value → am_H → Prop} {f0 : Nat → Nat → Int} (K : ∀ G, (∀ a, a ≠ 23 → G a = g a) → (∀ e, e < 21 → G 23 e = sZ f0 e) → Q none (53, sh_lt L, iH f, jH G, sh_rt sw)) (h1 : f 14 11 = f0 31 18) (h2 : 0 ≤ f0 31 18 ∧ f0 31 18 ≤ 20) : am_call (d + 1) 131 [.ref 14] (53, sh_lt L, iH f, jH g, sh_rt sw) Q := by
  refine ap_call (by decide) (Nat.le_of_ble_eq_true rfl) rfl ?_
  refine ap_go kc_131_0 ?_
  refine ai_iconst ?_; refine ap_istore_n rfl ?_; refine ap_nil ?_
  exact am_weak (by first | exact am_le_0 | (repeat (first | exact am_le_0 | refine am_le_n ?_ | refine am_le_s ?_))) (lp_131 (a := (f 14 11).toNat) (by omega) (by omega) (fun G q1 q2 => K G q1 (fun e he => by rw [q2 e he]; unfold sZ; by_cases z : e = (f 14 11).toNat; (rw [if_pos z, if_pos (by omega)]); rw [if_neg z, if_neg (by omega)])) 21 0 0 g rfl (by omega) (fun _ _ => rfl) (fun e he => absurd he (Nat.not_lt_zero e)))
/-- what is held lies in bounds -/
def hOk (h : Nat → Int) : Prop := ∀ e, 0 ≤ h e ∧ h e ≤ 2305843009213693951
theorem hOk_ch {u : Int} {h : Nat → Int} (hu : 0 ≤ u ∧ u ≤ 4096000) (hh : hOk h) : hOk (chZ u h) := fun e => by
  have := chZ_low (B := 2305843009213693951) hu (fun e => ⟨(hh e).1, (hh e).2, fun _ => (hh e).2⟩) e
  exact ⟨this.1, this.2.1⟩
theorem lp_132 {d L : Nat} {sw : Bool} {Q : Option Value → am_H → Prop} {f gb : Nat → Nat → Int} {u : Int} {h : Nat → Int} (hu : u ≠ 0) (hu2 : 0 ≤ u ∧ u ≤ 4096000) (hh : hOk h) (K : ∀ g, (∀ a, a ≠ 23 → g a = gb a) → (∀ e, e < 21 → g 23 e = chZ u h e) → Q none (53, sh_lt L, iH f, jH g, sh_rt sw)) : ∀ (k v : Nat) (i : Int) (g : Nat → Nat → Int), i = v → 20 = v + k → (∀ a, a ≠ 23 → g a = gb a) → (∀ e, e < 21 → g 23 e = chP u h v e) → am_Wp (am_call d) 132 Q 17 [some (.ref 14), none, some (.long (lZ u)), none, some (.int (iZ i))] [] (53, sh_lt L, iH f, jH g, sh_rt sw) (0, 0) := by
  intro k
  have hc := hOk_ch hu2 hh
  induction k with
  | zero =>
    intro v i g hi hk hg hr
    subst hi
    refine ap_go kc_132_17 ?_
    refine ap_iload rfl ?_; refine ai_bipush (by decide) ?_
    refine ai_icge rfl rfl (fun hb0 => ?_) (fun hb0 => ?_) ?_
    · refine ap_go kc_132_60 ?_
      refine ap_vret rfl ?_
      exact K g hg (fun e he => by have := hr e he; unfold chP at this; rw [if_pos (by omega)] at this; exact this)
    · exfalso; omega
    all_goals (omega)
  | succ k ih =>
    intro v i g hi hk hg hr
    subst hi
    have e1 : ((v : Int) + 1).toNat = v + 1 := by omega
    have r1 : g 23 ((v : Nat) : Int).toNat = chZ u h v := by have := hr v (by omega); unfold chP at this; rw [if_pos (Nat.le_refl v)] at this; exact this
    have r2 : g 23 ((v : Int) + 1).toNat = h (v + 1) := by rw [e1]; have := hr (v + 1) (by omega); unfold chP at this; rw [if_neg (by omega)] at this; exact this
    have b1 := hc v
    have b2 := hh (v + 1)
    have st : ∀ x, x = chZ u h (v + 1) → ∀ e, e < 21 → (am_up g 23 ((v : Int) + 1).toNat x) 23 e = chP u h (v + 1) e := by
      intro x hx e he
      rw [am_up_eq, e1]
      dsimp only
      unfold chP
      by_cases z : e = v + 1
      · rw [if_pos z, if_pos (by omega), z]; exact hx
      · rw [if_neg z]
        have q := hr e he
        unfold chP at q
        rw [q]
        by_cases y : e ≤ v
        · rw [if_pos y, if_pos (by omega)]
        · rw [if_neg y, if_neg (by omega)]
    refine ap_go kc_132_17 ?_
    refine ap_iload rfl ?_; refine ai_bipush (by decide) ?_
    refine ai_icge rfl rfl (fun hb0 => ?_) (fun hb0 => ?_) ?_
    · refine ap_go kc_132_60 ?_
      refine ap_vret rfl ?_
      exfalso; omega
    · refine ap_go kc_132_24 ?_
      refine ap_aload_n rfl ?_; refine ap_getR ow_132 rf_6_32 rfl rfl rfl ?_; refine ap_iload rfl ?_; refine ai_iconst ?_; refine ai_iadd ?_; refine ap_aload_n rfl ?_; refine ap_getR ow_132 rf_6_32 rfl rfl rfl ?_; refine ap_iload rfl ?_; refine ai_iconst ?_; refine ai_iadd ?_; refine ai_laload (n := 21) rfl rfl (by decide) ?_ ?_; refine ap_aload_n rfl ?_; refine ap_getR ow_132 rf_6_32 rfl rfl rfl ?_; refine ap_iload rfl ?_; refine ai_laload (n := 21) rfl rfl (by decide) ?_ ?_; refine ap_lload_n rfl ?_; refine ai_ladd ?_; refine ai_mminl ow_132 rm_6_186 (Nat.le_of_ble_eq_true rfl) ?_ ?_; refine ai_lastore (n := 21) rfl rfl (by decide) ?_ ?_; refine ai_iinc rfl rfl ?_; refine ap_goto rfl ?_
      · exact am_weak (by first | exact am_le_0 | (repeat (first | exact am_le_0 | refine am_le_n ?_ | refine am_le_s ?_))) (ih (v + 1) (v + 1) _ rfl (by omega) (fun c q => (am_up_ne q).trans (hg c q)) (st _ (by rw [r1, r2]; simp only [chZ]; rw [if_neg hu])))
      all_goals (omega)
    all_goals (omega)
theorem sp_132 {d L : Nat} {sw : Bool} {f g : Nat → Nat → Int} {Q : Option Value → am_H → Prop} {h : Nat → Int} {n : Int} (K : ∀ G, (∀ a, a ≠ 23 → G a = g a) → (∀ e, e < 21 → G 23 e = chZ (g 21 n.toNat) h e) → Q none (53, sh_lt L, iH f, jH G, sh_rt sw)) (hn : 0 ≤ n ∧ n < 61) (hu : 0 ≤ g 21 n.toNat ∧ g 21 n.toNat ≤ 4096000) (hh : hOk h) (hr : ∀ e, e < 21 → g 23 e = h e) : am_call (d + 1) 132 [.ref 14, .int (iZ n)] (53, sh_lt L, iH f, jH g, sh_rt sw) Q := by
  refine ap_call (by decide) (Nat.le_of_ble_eq_true rfl) rfl ?_
  by_cases hz : g 21 n.toNat = 0
  ·
    refine ap_go kc_132_0 ?_
    refine ap_aload_n rfl ?_; refine ap_getR ow_132 rf_6_26 rfl rfl rfl ?_; refine ap_iload_n rfl ?_; refine ai_laload (n := 61) rfl rfl (by decide) ?_ ?_; refine ap_lstore_n rfl ?_; refine ap_lload_n rfl ?_; refine ai_lconst 0 rfl ?_
    refine ai_lcne rfl rfl (fun hb0 => ?_) (fun hb0 => ?_) ?_
    · exfalso; omega
    · refine ap_go kc_132_13 ?_
      refine ap_vret rfl ?_
      exact K g (fun _ _ => rfl) (fun e he => by rw [hz, chZ_0]; exact hr e he)
    all_goals (omega)
  ·
    refine ap_go kc_132_0 ?_
    refine ap_aload_n rfl ?_; refine ap_getR ow_132 rf_6_26 rfl rfl rfl ?_; refine ap_iload_n rfl ?_; refine ai_laload (n := 61) rfl rfl (by decide) ?_ ?_; refine ap_lstore_n rfl ?_; refine ap_lload_n rfl ?_; refine ai_lconst 0 rfl ?_
    refine ai_lcne rfl rfl (fun hb0 => ?_) (fun hb0 => ?_) ?_
    · refine ap_go kc_132_14 ?_
      refine ai_iconst ?_; refine ap_istore rfl ?_; refine ap_nil ?_
      exact am_weak (by first | exact am_le_0 | (repeat (first | exact am_le_0 | refine am_le_n ?_ | refine am_le_s ?_))) (lp_132 hz hu hh K 20 0 0 g rfl (by omega) (fun _ _ => rfl) (fun e he => by rw [hr e he]; unfold chP; by_cases z : e ≤ 0; (rw [if_pos z, show e = 0 by omega]; rfl); rw [if_neg z]))
    · refine ap_go kc_132_13 ?_
      refine ap_vret rfl ?_
      exfalso; omega
    all_goals (omega)
theorem lp_133 {d L : Nat} {sw : Bool} {Q : Option Value → am_H → Prop} {f gb : Nat → Nat → Int} {t n : Nat} {w : Int} {h : Nat → Int} (ht : t ≤ 120) (hn : f 20 t = (n : Int)) (hn2 : n ≤ 21) (hw : gb 19 t = w) (hw2 : 0 ≤ w ∧ w ≤ 1000000000000) (hh : hOk h) (K : ∀ g, (∀ a, a ≠ 23 → g a = gb a) → (∀ e, e < 21 → g 23 e = drZ n w h e) → Q none (53, sh_lt L, iH f, jH g, sh_rt sw)) : ∀ (k v : Nat) (i : Int) (g : Nat → Nat → Int), i = v → 21 = v + k → (∀ a, a ≠ 23 → g a = gb a) → (∀ e, e < 21 → g 23 e = if e < v then drZ n w h e else h e) → am_Wp (am_call d) 133 Q 2 [some (.ref 14), some (.int (iZ (t : Int))), some (.int (iZ i)), none] [] (53, sh_lt L, iH f, jH g, sh_rt sw) (0, 0) := by
  intro k
  induction k with
  | zero =>
    intro v i g hi hk hg hr
    subst hi
    refine ap_go kc_133_2 ?_
    refine ap_iload_n rfl ?_; refine ai_bipush (by decide) ?_
    refine ai_icge rfl rfl (fun hb0 => ?_) (fun hb0 => ?_) ?_
    · refine ap_go kc_133_67 ?_
      refine ap_vret rfl ?_
      exact K g hg (fun e he => by rw [hr e he, if_pos (by omega)])
    · exfalso; omega
    all_goals (omega)
  | succ k ih =>
    intro v i g hi hk hg hr
    subst hi
    have en : f 20 ((t : Nat) : Int).toNat = (n : Int) := hn
    have ew : g 19 ((t : Nat) : Int).toNat = w := by rw [hg 19 (by decide)]; exact hw
    have e1 : ((v : Int) + f 20 ((t : Nat) : Int).toNat).toNat = v + n := by omega
    have st : ∀ x, x = drZ n w h v → ∀ e, e < 21 → (am_up g 23 v x) 23 e = if e < v + 1 then drZ n w h e else h e := by
      intro x hx e he
      rw [am_up_eq]
      dsimp only
      by_cases z : e = v
      · rw [if_pos z, if_pos (by omega), z]; exact hx
      · rw [if_neg z, hr e he]
        by_cases y : e < v
        · rw [if_pos y, if_pos (by omega)]
        · rw [if_neg y, if_neg (by omega)]
    by_cases hv : v + n < 21
    · have r1 : g 23 ((v : Int) + f 20 ((t : Nat) : Int).toNat).toNat = h (v + n) := by rw [e1, hr (v + n) hv, if_neg (by omega)]
      have b1 := hh (v + n)
      by_cases hf : h (v + n) < 2305843009213693951
      · have ed : drZ n w h v = h (v + n) + w := by unfold drZ; rw [if_pos ⟨hv, hf⟩]
        refine ap_go kc_133_2 ?_
        refine ap_iload_n rfl ?_; refine ai_bipush (by decide) ?_
        refine ai_icge rfl rfl (fun hb0 => ?_) (fun hb0 => ?_) ?_
        · refine ap_go kc_133_67 ?_
          refine ap_vret rfl ?_
          exfalso; omega
        · refine ap_go kc_133_8 ?_
          refine ap_iload_n rfl ?_; refine ap_aload_n rfl ?_; refine ap_getR ow_133 rf_6_22 rfl rfl rfl ?_; refine ap_iload_n rfl ?_; refine ai_iaload (n := 121) rfl rfl (by decide) ?_ ?_; refine ai_iadd ?_; refine ap_istore_n rfl ?_; refine ap_aload_n rfl ?_; refine ap_getR ow_133 rf_6_32 rfl rfl rfl ?_; refine ap_iload_n rfl ?_; refine ap_iload_n rfl ?_; refine ai_bipush (by decide) ?_
          refine ai_icge rfl rfl (fun hb1 => ?_) (fun hb1 => ?_) ?_
          · exfalso; omega
          · refine ap_go kc_133_28 ?_
            refine ap_aload_n rfl ?_; refine ap_getR ow_133 rf_6_32 rfl rfl rfl ?_; refine ap_iload_n rfl ?_; refine ai_laload (n := 21) rfl rfl (by decide) ?_ ?_; refine ai_ldc2 (2305843009213693951) ow_133 kl_6_106 rfl ?_
            refine ai_lcge rfl rfl (fun hb2 => ?_) (fun hb2 => ?_) ?_
            · exfalso; omega
            · refine ap_go kc_133_41 ?_
              refine ap_aload_n rfl ?_; refine ap_getR ow_133 rf_6_32 rfl rfl rfl ?_; refine ap_iload_n rfl ?_; refine ai_laload (n := 21) rfl rfl (by decide) ?_ ?_; refine ap_aload_n rfl ?_; refine ap_getR ow_133 rf_6_18 rfl rfl rfl ?_; refine ap_iload_n rfl ?_; refine ai_laload (n := 121) rfl rfl (by decide) ?_ ?_; refine ai_ladd ?_; refine ap_goto rfl ?_
              · refine ap_go kc_133_60 ?_
                refine ai_lastore (n := 21) rfl rfl (by decide) ?_ ?_; refine ai_iinc rfl rfl ?_; refine ap_goto rfl ?_
                · exact am_weak (by first | exact am_le_0 | (repeat (first | exact am_le_0 | refine am_le_n ?_ | refine am_le_s ?_))) (ih (v + 1) (v + 1) _ rfl (by omega) (fun c q => (am_up_ne q).trans (hg c q)) (st _ (by rw [ed, r1, ew])))
                all_goals (omega)
              all_goals (omega)
            all_goals (omega)
          all_goals (omega)
        all_goals (omega)
      · have ed : drZ n w h v = 2305843009213693951 := by unfold drZ; rw [if_neg (fun q => hf q.2)]
        refine ap_go kc_133_2 ?_
        refine ap_iload_n rfl ?_; refine ai_bipush (by decide) ?_
        refine ai_icge rfl rfl (fun hb0 => ?_) (fun hb0 => ?_) ?_
        · refine ap_go kc_133_67 ?_
          refine ap_vret rfl ?_
          exfalso; omega
        · refine ap_go kc_133_8 ?_
          refine ap_iload_n rfl ?_; refine ap_aload_n rfl ?_; refine ap_getR ow_133 rf_6_22 rfl rfl rfl ?_; refine ap_iload_n rfl ?_; refine ai_iaload (n := 121) rfl rfl (by decide) ?_ ?_; refine ai_iadd ?_; refine ap_istore_n rfl ?_; refine ap_aload_n rfl ?_; refine ap_getR ow_133 rf_6_32 rfl rfl rfl ?_; refine ap_iload_n rfl ?_; refine ap_iload_n rfl ?_; refine ai_bipush (by decide) ?_
          refine ai_icge rfl rfl (fun hb1 => ?_) (fun hb1 => ?_) ?_
          · refine ap_go kc_133_57 ?_
            refine ai_ldc2 (2305843009213693951) ow_133 kl_6_106 rfl ?_; refine ap_nil ?_
            refine ap_go kc_133_60 ?_
            refine ai_lastore (n := 21) rfl rfl (by decide) ?_ ?_; refine ai_iinc rfl rfl ?_; refine ap_goto rfl ?_
            · first | (exfalso; omega) | exact am_weak (by first | exact am_le_0 | (repeat (first | exact am_le_0 | refine am_le_n ?_ | refine am_le_s ?_))) (ih (v + 1) (v + 1) _ rfl (by omega) (fun c q => (am_up_ne q).trans (hg c q)) (st _ ed.symm))
            all_goals (omega)
          · refine ap_go kc_133_28 ?_
            refine ap_aload_n rfl ?_; refine ap_getR ow_133 rf_6_32 rfl rfl rfl ?_; refine ap_iload_n rfl ?_; refine ai_laload (n := 21) rfl rfl (by decide) ?_ ?_; refine ai_ldc2 (2305843009213693951) ow_133 kl_6_106 rfl ?_
            refine ai_lcge rfl rfl (fun hb2 => ?_) (fun hb2 => ?_) ?_
            · refine ap_go kc_133_57 ?_
              refine ai_ldc2 (2305843009213693951) ow_133 kl_6_106 rfl ?_; refine ap_nil ?_
              refine ap_go kc_133_60 ?_
              refine ai_lastore (n := 21) rfl rfl (by decide) ?_ ?_; refine ai_iinc rfl rfl ?_; refine ap_goto rfl ?_
              · first | (exfalso; omega) | exact am_weak (by first | exact am_le_0 | (repeat (first | exact am_le_0 | refine am_le_n ?_ | refine am_le_s ?_))) (ih (v + 1) (v + 1) _ rfl (by omega) (fun c q => (am_up_ne q).trans (hg c q)) (st _ ed.symm))
              all_goals (omega)
            · exfalso; omega
            all_goals (omega)
          all_goals (omega)
        all_goals (omega)
    · have ed : drZ n w h v = 2305843009213693951 := by unfold drZ; rw [if_neg (fun q => hv q.1)]
      refine ap_go kc_133_2 ?_
      refine ap_iload_n rfl ?_; refine ai_bipush (by decide) ?_
      refine ai_icge rfl rfl (fun hb0 => ?_) (fun hb0 => ?_) ?_
      · refine ap_go kc_133_67 ?_
        refine ap_vret rfl ?_
        exfalso; omega
      · refine ap_go kc_133_8 ?_
        refine ap_iload_n rfl ?_; refine ap_aload_n rfl ?_; refine ap_getR ow_133 rf_6_22 rfl rfl rfl ?_; refine ap_iload_n rfl ?_; refine ai_iaload (n := 121) rfl rfl (by decide) ?_ ?_; refine ai_iadd ?_; refine ap_istore_n rfl ?_; refine ap_aload_n rfl ?_; refine ap_getR ow_133 rf_6_32 rfl rfl rfl ?_; refine ap_iload_n rfl ?_; refine ap_iload_n rfl ?_; refine ai_bipush (by decide) ?_
        refine ai_icge rfl rfl (fun hb1 => ?_) (fun hb1 => ?_) ?_
        · refine ap_go kc_133_57 ?_
          refine ai_ldc2 (2305843009213693951) ow_133 kl_6_106 rfl ?_; refine ap_nil ?_
          refine ap_go kc_133_60 ?_
          refine ai_lastore (n := 21) rfl rfl (by decide) ?_ ?_; refine ai_iinc rfl rfl ?_; refine ap_goto rfl ?_
          · exact am_weak (by first | exact am_le_0 | (repeat (first | exact am_le_0 | refine am_le_n ?_ | refine am_le_s ?_))) (ih (v + 1) (v + 1) _ rfl (by omega) (fun c q => (am_up_ne q).trans (hg c q)) (st _ ed.symm))
          all_goals (omega)
        · exfalso; omega
        all_goals (omega)
      all_goals (omega)
theorem sp_133 {d L : Nat} {sw : Bool} {f g : Nat → Nat → Int} {Q : Option Value → am_H → Prop} {h : Nat → Int} {z : Int} {t n : Nat} (K : ∀ G, (∀ a, a ≠ 23 → G a = g a) → (∀ e, e < 21 → G 23 e = drZ n (g 19 t) h e) → Q none (53, sh_lt L, iH f, jH G, sh_rt sw)) (hz : z = t) (ht : t ≤ 120) (hn : f 20 t = (n : Int)) (hn2 : n ≤ 21) (hw : 0 ≤ g 19 t ∧ g 19 t ≤ 1000000000000) (hh : hOk h) (hr : ∀ e, e < 21 → g 23 e = h e) : am_call (d + 1) 133 [.ref 14, .int (iZ z)] (53, sh_lt L, iH f, jH g, sh_rt sw) Q := by
  subst hz
  refine ap_call (by decide) (Nat.le_of_ble_eq_true rfl) rfl ?_
  refine ap_go kc_133_0 ?_
  refine ai_iconst ?_; refine ap_istore_n rfl ?_; refine ap_nil ?_
  exact am_weak (by first | exact am_le_0 | (repeat (first | exact am_le_0 | refine am_le_n ?_ | refine am_le_s ?_))) (lp_133 ht hn hn2 rfl hw hh K 21 0 0 g rfl (by omega) (fun _ _ => rfl) (fun e he => by rw [if_neg (by omega)]; exact hr e he))
theorem lp_134 {d L : Nat} {sw : Bool} {Q : Option Value → am_H → Prop} {f g : Nat → Nat → Int} {h : Nat → Int} (hh : hOk h) (hr : ∀ e, e < 21 → g 23 e = h e) (K : Q (some (.long (lZ (lsZ h 21)))) (53, sh_lt L, iH f, jH g, sh_rt sw)) : ∀ (k v : Nat) (i x : Int), i = v → 21 = v + k → x = lsZ h v → am_Wp (am_call d) 134 Q 6 [some (.ref 14), some (.long (lZ x)), none, some (.int (iZ i))] [] (53, sh_lt L, iH f, jH g, sh_rt sw) (0, 0) := by
  intro k
  induction k with
  | zero =>
    intro v i x hi hk hx
    subst hi
    subst hx
    subst hk
    refine ap_go kc_134_6 ?_
    refine ap_iload_n rfl ?_; refine ai_bipush (by decide) ?_
    refine ai_icge rfl rfl (fun hb0 => ?_) (fun hb0 => ?_) ?_
    · refine ap_go kc_134_29 ?_
      refine ap_lload_n rfl ?_; refine ap_lret rfl ?_
      exact K
    · exfalso; omega
    all_goals (omega)
  | succ k ih =>
    intro v i x hi hk hx
    subst hi
    subst hx
    have r1 : g 23 ((v : Nat) : Int).toNat = h v := hr v (by omega)
    have b1 := hh v
    have b2 := ls_le h v
    have b3 : 0 ≤ lsZ h v := by
      have key : ∀ v, 0 ≤ lsZ h v := by
        intro v
        induction v with
        | zero => show (0 : Int) ≤ 2305843009213693951; decide
        | succ v ihv =>
          have := hh v
          simp only [lsZ]
          split <;> omega
      exact key v
    refine ap_go kc_134_6 ?_
    refine ap_iload_n rfl ?_; refine ai_bipush (by decide) ?_
    refine ai_icge rfl rfl (fun hb0 => ?_) (fun hb0 => ?_) ?_
    · refine ap_go kc_134_29 ?_
      refine ap_lload_n rfl ?_; refine ap_lret rfl ?_
      exfalso; omega
    · refine ap_go kc_134_12 ?_
      refine ap_lload_n rfl ?_; refine ap_aload_n rfl ?_; refine ap_getR ow_134 rf_6_32 rfl rfl rfl ?_; refine ap_iload_n rfl ?_; refine ai_laload (n := 21) rfl rfl (by decide) ?_ ?_; refine ai_mminl ow_134 rm_6_186 (Nat.le_of_ble_eq_true rfl) ?_ ?_; refine ap_lstore_n rfl ?_; refine ai_iinc rfl rfl ?_; refine ap_goto rfl ?_
      · exact am_weak (by first | exact am_le_0 | (repeat (first | exact am_le_0 | refine am_le_n ?_ | refine am_le_s ?_))) (ih (v + 1) (v + 1) _ rfl (by omega) (by rw [r1]; rfl))
      all_goals (omega)
    all_goals (omega)
theorem sp_134 {d L : Nat} {sw : Bool} {f g : Nat → Nat → Int} {Q : Option Value → am_H → Prop} {h : Nat → Int} (K : Q (some (.long (lZ (lsZ h 21)))) (53, sh_lt L, iH f, jH g, sh_rt sw)) (hh : hOk h) (hr : ∀ e, e < 21 → g 23 e = h e) : am_call (d + 1) 134 [.ref 14] (53, sh_lt L, iH f, jH g, sh_rt sw) Q := by
  refine ap_call (by decide) (Nat.le_of_ble_eq_true rfl) rfl ?_
  refine ap_go kc_134_0 ?_
  refine ai_ldc2 (2305843009213693951) ow_134 kl_6_106 rfl ?_; refine ap_lstore_n rfl ?_; refine ai_iconst ?_; refine ap_istore_n rfl ?_; refine ap_nil ?_
  exact am_weak (by first | exact am_le_0 | (repeat (first | exact am_le_0 | refine am_le_n ?_ | refine am_le_s ?_))) (lp_134 hh hr K 21 0 0 _ rfl (by omega) rfl)
