/-! ADVICE, of both -/
theorem adv_b {f g : Nat → Nat → Int} (hX : ∀ k, -10000 ≤ g 2 k ∧ g 2 k ≤ 10000) (hY : ∀ k, -10000 ≤ g 3 k ∧ g 3 k ≤ 10000) (s t : Nat) : (-2000000000 ≤ dX f g s * dY f g t - dY f g s * dX f g t ∧ dX f g s * dY f g t - dY f g s * dX f g t ≤ 2000000000) ∧ (-2000000000 ≤ dX f g s * dX f g t + dY f g s * dY f g t ∧ dX f g s * dX f g t + dY f g s * dY f g t ≤ 2000000000) := by
  have b : ∀ s, (-20000 ≤ dX f g s ∧ dX f g s ≤ 20000) ∧ (-20000 ≤ dY f g s ∧ dY f g s ≤ 20000) := fun s => by
    have a1 := hX (f 6 s).toNat
    have a2 := hX (f 7 s).toNat
    have a3 := hY (f 6 s).toNat
    have a4 := hY (f 7 s).toNat
    unfold dX dY
    omega
  have m1 := mul_bd (b s).1 (b t).2
  have m2 := mul_bd (b s).2 (b t).1
  have m3 := mul_bd (b s).1 (b t).1
  have m4 := mul_bd (b s).2 (b t).2
  omega
theorem adv_e {f g : Nat → Nat → Int} (hX : ∀ k, -10000 ≤ g 32 k ∧ g 32 k ≤ 10000) (hY : ∀ k, -10000 ≤ g 33 k ∧ g 33 k ≤ 10000) (s t : Nat) : (-2000000000 ≤ eX f g s * eY f g t - eY f g s * eX f g t ∧ eX f g s * eY f g t - eY f g s * eX f g t ≤ 2000000000) ∧ (-2000000000 ≤ eX f g s * eX f g t + eY f g s * eY f g t ∧ eX f g s * eX f g t + eY f g s * eY f g t ≤ 2000000000) := by
  have b : ∀ s, (-20000 ≤ eX f g s ∧ eX f g s ≤ 20000) ∧ (-20000 ≤ eY f g s ∧ eY f g s ≤ 20000) := fun s => by
    have a1 := hX (f 35 s).toNat
    have a2 := hX (f 36 s).toNat
    have a3 := hY (f 35 s).toNat
    have a4 := hY (f 36 s).toNat
    unfold eX eY
    omega
  have m1 := mul_bd (b s).1 (b t).2
  have m2 := mul_bd (b s).2 (b t).1
  have m3 := mul_bd (b s).1 (b t).1
  have m4 := mul_bd (b s).2 (b t).2
  omega
theorem adv_m {c d : Int} : advZ c d = (if (if c < 0 then -2 * c else 2 * c) ≤ d then 0 else if (if c < 0 then -2 * c else 2 * c) + d ≤ 0 then 3 else if 0 < c then 2 else 1) := by
  unfold advZ
  repeat' split
  all_goals omega

theorem sp_115r_27 {d L : Nat} {f g : Nat → Nat → Int} {Q : Option Value → am_H → Prop} {i : Int} (K : ∀ (x : Int) (f2 : Nat → Nat → Int), ((i < 0 ∨ f 27 1 ≤ i ∨ f 28 i.toNat < 0) ∧ x = 0 ∧ f2 = f ∨ ¬ (i < 0 ∨ f 27 1 ≤ i ∨ f 28 i.toNat < 0) ∧ x = 1 ∧ f2 = am_up f 28 i.toNat (-(f 28 i.toNat))) → Q (some (.int (iZ x))) (53, sh_lt L, iH f2, jH g, sh_rt false)) (hi : iR i) (hs : 0 ≤ f 27 1 ∧ f 27 1 ≤ 2400) (hv : ∀ k, iR (f 28 k)) : am_call (d + 1) 115 [.ref 27, .int (iZ i)] (53, sh_lt L, iH f, jH g, sh_rt false) Q :=
  sp_115_27 (fun c => K _ _ (Or.inl ⟨c, rfl, rfl⟩)) (fun c => K _ _ (Or.inr ⟨c, rfl, rfl⟩)) hi hs hv
theorem sp_11_f {d L : Nat} {f g : Nat → Nat → Int} {Q : Option Value → am_H → Prop} {i w : Int} (K1 : ¬ (0 ≤ i ∧ i < f 27 1 - 1) → Q (some (.int (iZ (-1)))) (53, sh_lt L, iH f, jH g, sh_rt false)) (K2 : (0 ≤ i ∧ i < f 27 1 - 1) ∧ (w < 0 ∨ 2 < w) → Q (some (.int (iZ (-2)))) (53, sh_lt L, iH f, jH g, sh_rt false)) (K3 : (0 ≤ i ∧ i < f 27 1 - 1) ∧ w = 0 → Q (some (.int (iZ (advZ (dX f g (aZ (f 28 i.toNat)).toNat * dY f g (aZ (f 28 (i + 1).toNat)).toNat - dY f g (aZ (f 28 i.toNat)).toNat * dX f g (aZ (f 28 (i + 1).toNat)).toNat) (dX f g (aZ (f 28 i.toNat)).toNat * dX f g (aZ (f 28 (i + 1).toNat)).toNat + dY f g (aZ (f 28 i.toNat)).toNat * dY f g (aZ (f 28 (i + 1).toNat)).toNat))))) (53, sh_lt L, iH f, jH g, sh_rt false)) (K4 : (0 ≤ i ∧ i < f 27 1 - 1) ∧ w = 1 → Q (some (.int (iZ (aZ (f 28 (i + 1).toNat))))) (53, sh_lt L, iH f, jH g, sh_rt false)) (K5 : (0 ≤ i ∧ i < f 27 1 - 1) ∧ w = 2 ∧ f 28 i.toNat < 0 → Q (some (.int (iZ 0))) (53, sh_lt L, iH f, jH g, sh_rt false)) (K6 : (0 ≤ i ∧ i < f 27 1 - 1) ∧ w = 2 ∧ ¬ f 28 i.toNat < 0 → Q (some (.int (iZ 1))) (53, sh_lt L, iH (am_up f 28 i.toNat (-(f 28 i.toNat))), jH g, sh_rt false)) (hi : iR i) (hw : iR w) (hs : 0 ≤ f 27 1 ∧ f 27 1 ≤ 2400) (hm : 0 ≤ f 5 8 ∧ f 5 8 ≤ 120) (hrow : ∀ k : Nat, (k : Int) < f 27 1 → 1 ≤ aZ (f 28 k) ∧ aZ (f 28 k) ≤ f 5 8) (hv : ∀ k, iR (f 28 k)) (hst : ∀ s : Nat, 1 ≤ s → (s : Int) ≤ f 5 8 → (0 ≤ f 6 s ∧ f 6 s < 61) ∧ (0 ≤ f 7 s ∧ f 7 s < 61)) (hX : ∀ k, -10000 ≤ g 2 k ∧ g 2 k ≤ 10000) (hY : ∀ k, -10000 ≤ g 3 k ∧ g 3 k ≤ 10000) : am_call (d + 4) 11 [.ref 0, .int (iZ i), .int (iZ w)] (53, sh_lt L, iH f, jH g, sh_rt false) Q := by
  have hab : ∀ k, iR (f 28 k) → aZ (f 28 k) = 2147483648 ∨ iR (aZ (f 28 k)) := fun k h => by unfold aZ; split <;> omega
  refine ap_call (by decide) (Nat.le_of_ble_eq_true rfl) rfl ?_
  refine ap_go kc_11_0 ?_
  refine ap_iload_n rfl ?_
  refine ai_iflt rfl rfl (fun hb0 => ?_) (fun hb0 => ?_) ?_
  · refine ap_go kc_11_17 ?_
    refine ai_iconst ?_; refine ap_iret rfl ?_
    first | exact K1 (by omega) | exact K2 (by omega) | exact K3 (by omega) | (rw [if_pos (show 0 ≤ i + 1 ∧ i + 1 < f 27 1 by omega)]; exact K4 (by omega)) | (rcases hR with ⟨hR1, rfl, rfl⟩ | ⟨hR1, rfl, rfl⟩ <;> first | exact K5 (by omega) | exact K6 (by omega) | (exfalso; omega))
  · refine ap_go kc_11_4 ?_
    refine ap_iload_n rfl ?_; refine ap_aload_n rfl ?_; refine ap_getR ow_11 rf_7_51 rfl rfl rfl ?_; refine ap_callv0 ow_11 rm_7_144 na_109 mc_109 ms_109 rfl rfl (Nat.le_of_ble_eq_true rfl) (Nat.le_of_ble_eq_true rfl) (Or.inr rfl) (Nat.zero_le _) (Nat.zero_le _) ?_; refine sp_109_27 ?_; dsimp only [Option.toList_some, Option.toList_none, List.cons_append, List.nil_append]; refine ai_iconst ?_; refine ai_isub ?_
    refine ai_iclt rfl rfl (fun hb1 => ?_) (fun hb1 => ?_) ?_
    · refine ap_go kc_11_19 ?_
      refine ap_iload_n rfl ?_
      refine ai_tsw3 rfl rfl rfl rfl (fun hb2 => ?_) (fun hb2 => ?_) (fun hb2 => ?_) (fun hb2 => ?_) ?_
      · refine ap_go kc_11_48 ?_
        refine ap_aload_n rfl ?_; refine ap_aload_n rfl ?_; refine ap_getR ow_11 rf_7_51 rfl rfl rfl ?_; refine ap_iload_n rfl ?_; refine ap_callv0 ow_11 rm_7_147 na_111 mc_111 ms_111 rfl rfl (Nat.le_of_ble_eq_true rfl) (Nat.le_of_ble_eq_true rfl) (Or.inr rfl) (Nat.zero_le _) (Nat.zero_le _) ?_; refine sp_111_27 ?_ ?_ ?_ ?_; dsimp only [Option.toList_some, Option.toList_none, List.cons_append, List.nil_append]; refine ap_aload_n rfl ?_; refine ap_getR ow_11 rf_7_51 rfl rfl rfl ?_; refine ap_iload_n rfl ?_; refine ai_iconst ?_; refine ai_iadd ?_; refine ap_callv0 ow_11 rm_7_147 na_111 mc_111 ms_111 rfl rfl (Nat.le_of_ble_eq_true rfl) (Nat.le_of_ble_eq_true rfl) (Or.inr rfl) (Nat.zero_le _) (Nat.zero_le _) ?_; refine sp_111_27 ?_ ?_ ?_ ?_; dsimp only [Option.toList_some, Option.toList_none, List.cons_append, List.nil_append]; refine ap_callv0 ow_11 rm_7_185 na_21 mc_21 ms_21 rfl rfl (Nat.le_of_ble_eq_true rfl) (Nat.le_of_ble_eq_true rfl) (Or.inr rfl) (Nat.zero_le _) (Nat.zero_le _) ?_; (rw [if_pos (show 0 ≤ i ∧ i < f 27 1 by omega), if_pos (show 0 ≤ i + 1 ∧ i + 1 < f 27 1 by omega)]; have q1 := hrow i.toNat (by omega); have q2 := hrow (i + 1).toNat (by omega); show am_call _ 21 [.ref 0, .int (iZ (aZ (f 28 i.toNat))), .int (iZ (aZ (f 28 (i + 1).toNat)))] _ _; refine sp_21 ?_ ?_ ?_ ?_ ?_ ?_ ?_ ?_ ?_); dsimp only [Option.toList_some, Option.toList_none, List.cons_append, List.nil_append]; refine ap_iret rfl ?_
        · first | exact K1 (by omega) | exact K2 (by omega) | exact K3 (by omega) | (rw [if_pos (show 0 ≤ i + 1 ∧ i + 1 < f 27 1 by omega)]; exact K4 (by omega)) | (rcases hR with ⟨hR1, rfl, rfl⟩ | ⟨hR1, rfl, rfl⟩ <;> first | exact K5 (by omega) | exact K6 (by omega) | (exfalso; omega))
        all_goals (first | omega | assumption | (rcases hR with ⟨-, rfl, -⟩ | ⟨-, rfl, -⟩ <;> decide) | exact (adv_b hX hY _ _).1 | exact (adv_b hX hY _ _).2 | exact (hst _ (by omega) (by omega)).1 | exact (hst _ (by omega) (by omega)).2)
      · refine ap_go kc_11_71 ?_
        refine ap_aload_n rfl ?_; refine ap_getR ow_11 rf_7_51 rfl rfl rfl ?_; refine ap_iload_n rfl ?_; refine ai_iconst ?_; refine ai_iadd ?_; refine ap_callv0 ow_11 rm_7_147 na_111 mc_111 ms_111 rfl rfl (Nat.le_of_ble_eq_true rfl) (Nat.le_of_ble_eq_true rfl) (Or.inr rfl) (Nat.zero_le _) (Nat.zero_le _) ?_; refine sp_111_27 ?_ ?_ ?_ ?_; dsimp only [Option.toList_some, Option.toList_none, List.cons_append, List.nil_append]; refine ap_iret rfl ?_
        · first | exact K1 (by omega) | exact K2 (by omega) | exact K3 (by omega) | (rw [if_pos (show 0 ≤ i + 1 ∧ i + 1 < f 27 1 by omega)]; exact K4 (by omega)) | (rcases hR with ⟨hR1, rfl, rfl⟩ | ⟨hR1, rfl, rfl⟩ <;> first | exact K5 (by omega) | exact K6 (by omega) | (exfalso; omega))
        all_goals (first | omega | assumption | (rcases hR with ⟨-, rfl, -⟩ | ⟨-, rfl, -⟩ <;> decide) | exact (adv_b hX hY _ _).1 | exact (adv_b hX hY _ _).2 | exact (hst _ (by omega) (by omega)).1 | exact (hst _ (by omega) (by omega)).2)
      · refine ap_go kc_11_82 ?_
        refine ap_aload_n rfl ?_; refine ap_getR ow_11 rf_7_51 rfl rfl rfl ?_; refine ap_iload_n rfl ?_; refine ap_callv0 ow_11 rm_7_189 na_115 mc_115 ms_115 rfl rfl (Nat.le_of_ble_eq_true rfl) (Nat.le_of_ble_eq_true rfl) (Or.inr rfl) (Nat.zero_le _) (Nat.zero_le _) ?_; refine sp_115r_27 (fun x f2 hR => ?_) ?_ ?_ ?_; dsimp only [Option.toList_some, Option.toList_none, List.cons_append, List.nil_append]
        refine ai_ifeq rfl rfl (fun hb3 => ?_) (fun hb3 => ?_) ?_
        · refine ap_go kc_11_97 ?_
          refine ai_iconst ?_; refine ap_nil ?_
          refine ap_go kc_11_98 ?_
          refine ap_iret rfl ?_
          first | exact K1 (by omega) | exact K2 (by omega) | exact K3 (by omega) | (rw [if_pos (show 0 ≤ i + 1 ∧ i + 1 < f 27 1 by omega)]; exact K4 (by omega)) | (rcases hR with ⟨hR1, rfl, rfl⟩ | ⟨hR1, rfl, rfl⟩ <;> first | exact K5 (by omega) | exact K6 (by omega) | (exfalso; omega))
        · refine ap_go kc_11_93 ?_
          refine ai_iconst ?_; refine ap_goto rfl ?_
          refine ap_go kc_11_98 ?_
          refine ap_iret rfl ?_
          first | exact K1 (by omega) | exact K2 (by omega) | exact K3 (by omega) | (rw [if_pos (show 0 ≤ i + 1 ∧ i + 1 < f 27 1 by omega)]; exact K4 (by omega)) | (rcases hR with ⟨hR1, rfl, rfl⟩ | ⟨hR1, rfl, rfl⟩ <;> first | exact K5 (by omega) | exact K6 (by omega) | (exfalso; omega))
        all_goals (first | omega | assumption | (rcases hR with ⟨-, rfl, -⟩ | ⟨-, rfl, -⟩ <;> decide) | exact (adv_b hX hY _ _).1 | exact (adv_b hX hY _ _).2 | exact (hst _ (by omega) (by omega)).1 | exact (hst _ (by omega) (by omega)).2)
      · refine ap_go kc_11_99 ?_
        refine ai_bipush (by decide) ?_; refine ap_iret rfl ?_
        first | exact K1 (by omega) | exact K2 (by omega) | exact K3 (by omega) | (rw [if_pos (show 0 ≤ i + 1 ∧ i + 1 < f 27 1 by omega)]; exact K4 (by omega)) | (rcases hR with ⟨hR1, rfl, rfl⟩ | ⟨hR1, rfl, rfl⟩ <;> first | exact K5 (by omega) | exact K6 (by omega) | (exfalso; omega))
      all_goals (first | omega | assumption | (rcases hR with ⟨-, rfl, -⟩ | ⟨-, rfl, -⟩ <;> decide) | exact (adv_b hX hY _ _).1 | exact (adv_b hX hY _ _).2 | exact (hst _ (by omega) (by omega)).1 | exact (hst _ (by omega) (by omega)).2)
    · refine ap_go kc_11_17 ?_
      refine ai_iconst ?_; refine ap_iret rfl ?_
      first | exact K1 (by omega) | exact K2 (by omega) | exact K3 (by omega) | (rw [if_pos (show 0 ≤ i + 1 ∧ i + 1 < f 27 1 by omega)]; exact K4 (by omega)) | (rcases hR with ⟨hR1, rfl, rfl⟩ | ⟨hR1, rfl, rfl⟩ <;> first | exact K5 (by omega) | exact K6 (by omega) | (exfalso; omega))
    all_goals (first | omega | assumption | (rcases hR with ⟨-, rfl, -⟩ | ⟨-, rfl, -⟩ <;> decide) | exact (adv_b hX hY _ _).1 | exact (adv_b hX hY _ _).2 | exact (hst _ (by omega) (by omega)).1 | exact (hst _ (by omega) (by omega)).2)
  all_goals (first | omega | assumption | (rcases hR with ⟨-, rfl, -⟩ | ⟨-, rfl, -⟩ <;> decide) | exact (adv_b hX hY _ _).1 | exact (adv_b hX hY _ _).2 | exact (hst _ (by omega) (by omega)).1 | exact (hst _ (by omega) (by omega)).2)

theorem sp_115r_29 {d L : Nat} {f g : Nat → Nat → Int} {Q : Option Value → am_H → Prop} {i : Int} (K : ∀ (x : Int) (f2 : Nat → Nat → Int), ((i < 0 ∨ f 29 1 ≤ i ∨ f 30 i.toNat < 0) ∧ x = 0 ∧ f2 = f ∨ ¬ (i < 0 ∨ f 29 1 ≤ i ∨ f 30 i.toNat < 0) ∧ x = 1 ∧ f2 = am_up f 30 i.toNat (-(f 30 i.toNat))) → Q (some (.int (iZ x))) (53, sh_lt L, iH f2, jH g, sh_rt true)) (hi : iR i) (hs : 0 ≤ f 29 1 ∧ f 29 1 ≤ 2400) (hv : ∀ k, iR (f 30 k)) : am_call (d + 1) 115 [.ref 29, .int (iZ i)] (53, sh_lt L, iH f, jH g, sh_rt true) Q :=
  sp_115_29 (fun c => K _ _ (Or.inl ⟨c, rfl, rfl⟩)) (fun c => K _ _ (Or.inr ⟨c, rfl, rfl⟩)) hi hs hv
theorem sp_11_t {d L : Nat} {f g : Nat → Nat → Int} {Q : Option Value → am_H → Prop} {i w : Int} (K1 : ¬ (0 ≤ i ∧ i < f 29 1 - 1) → Q (some (.int (iZ (-1)))) (53, sh_lt L, iH f, jH g, sh_rt true)) (K2 : (0 ≤ i ∧ i < f 29 1 - 1) ∧ (w < 0 ∨ 2 < w) → Q (some (.int (iZ (-2)))) (53, sh_lt L, iH f, jH g, sh_rt true)) (K3 : (0 ≤ i ∧ i < f 29 1 - 1) ∧ w = 0 → Q (some (.int (iZ (advZ (dX f g (aZ (f 30 i.toNat)).toNat * dY f g (aZ (f 30 (i + 1).toNat)).toNat - dY f g (aZ (f 30 i.toNat)).toNat * dX f g (aZ (f 30 (i + 1).toNat)).toNat) (dX f g (aZ (f 30 i.toNat)).toNat * dX f g (aZ (f 30 (i + 1).toNat)).toNat + dY f g (aZ (f 30 i.toNat)).toNat * dY f g (aZ (f 30 (i + 1).toNat)).toNat))))) (53, sh_lt L, iH f, jH g, sh_rt true)) (K4 : (0 ≤ i ∧ i < f 29 1 - 1) ∧ w = 1 → Q (some (.int (iZ (aZ (f 30 (i + 1).toNat))))) (53, sh_lt L, iH f, jH g, sh_rt true)) (K5 : (0 ≤ i ∧ i < f 29 1 - 1) ∧ w = 2 ∧ f 30 i.toNat < 0 → Q (some (.int (iZ 0))) (53, sh_lt L, iH f, jH g, sh_rt true)) (K6 : (0 ≤ i ∧ i < f 29 1 - 1) ∧ w = 2 ∧ ¬ f 30 i.toNat < 0 → Q (some (.int (iZ 1))) (53, sh_lt L, iH (am_up f 30 i.toNat (-(f 30 i.toNat))), jH g, sh_rt true)) (hi : iR i) (hw : iR w) (hs : 0 ≤ f 29 1 ∧ f 29 1 ≤ 2400) (hm : 0 ≤ f 5 8 ∧ f 5 8 ≤ 120) (hrow : ∀ k : Nat, (k : Int) < f 29 1 → 1 ≤ aZ (f 30 k) ∧ aZ (f 30 k) ≤ f 5 8) (hv : ∀ k, iR (f 30 k)) (hst : ∀ s : Nat, 1 ≤ s → (s : Int) ≤ f 5 8 → (0 ≤ f 6 s ∧ f 6 s < 61) ∧ (0 ≤ f 7 s ∧ f 7 s < 61)) (hX : ∀ k, -10000 ≤ g 2 k ∧ g 2 k ≤ 10000) (hY : ∀ k, -10000 ≤ g 3 k ∧ g 3 k ≤ 10000) : am_call (d + 4) 11 [.ref 0, .int (iZ i), .int (iZ w)] (53, sh_lt L, iH f, jH g, sh_rt true) Q := by
  have hab : ∀ k, iR (f 30 k) → aZ (f 30 k) = 2147483648 ∨ iR (aZ (f 30 k)) := fun k h => by unfold aZ; split <;> omega
  refine ap_call (by decide) (Nat.le_of_ble_eq_true rfl) rfl ?_
  refine ap_go kc_11_0 ?_
  refine ap_iload_n rfl ?_
  refine ai_iflt rfl rfl (fun hb0 => ?_) (fun hb0 => ?_) ?_
  · refine ap_go kc_11_17 ?_
    refine ai_iconst ?_; refine ap_iret rfl ?_
    first | exact K1 (by omega) | exact K2 (by omega) | exact K3 (by omega) | (rw [if_pos (show 0 ≤ i + 1 ∧ i + 1 < f 29 1 by omega)]; exact K4 (by omega)) | (rcases hR with ⟨hR1, rfl, rfl⟩ | ⟨hR1, rfl, rfl⟩ <;> first | exact K5 (by omega) | exact K6 (by omega) | (exfalso; omega))
  · refine ap_go kc_11_4 ?_
    refine ap_iload_n rfl ?_; refine ap_aload_n rfl ?_; refine ap_getR ow_11 rf_7_51 rfl rfl rfl ?_; refine ap_callv0 ow_11 rm_7_144 na_109 mc_109 ms_109 rfl rfl (Nat.le_of_ble_eq_true rfl) (Nat.le_of_ble_eq_true rfl) (Or.inr rfl) (Nat.zero_le _) (Nat.zero_le _) ?_; refine sp_109_29 ?_; dsimp only [Option.toList_some, Option.toList_none, List.cons_append, List.nil_append]; refine ai_iconst ?_; refine ai_isub ?_
    refine ai_iclt rfl rfl (fun hb1 => ?_) (fun hb1 => ?_) ?_
    · refine ap_go kc_11_19 ?_
      refine ap_iload_n rfl ?_
      refine ai_tsw3 rfl rfl rfl rfl (fun hb2 => ?_) (fun hb2 => ?_) (fun hb2 => ?_) (fun hb2 => ?_) ?_
      · refine ap_go kc_11_48 ?_
        refine ap_aload_n rfl ?_; refine ap_aload_n rfl ?_; refine ap_getR ow_11 rf_7_51 rfl rfl rfl ?_; refine ap_iload_n rfl ?_; refine ap_callv0 ow_11 rm_7_147 na_111 mc_111 ms_111 rfl rfl (Nat.le_of_ble_eq_true rfl) (Nat.le_of_ble_eq_true rfl) (Or.inr rfl) (Nat.zero_le _) (Nat.zero_le _) ?_; refine sp_111_29 ?_ ?_ ?_ ?_; dsimp only [Option.toList_some, Option.toList_none, List.cons_append, List.nil_append]; refine ap_aload_n rfl ?_; refine ap_getR ow_11 rf_7_51 rfl rfl rfl ?_; refine ap_iload_n rfl ?_; refine ai_iconst ?_; refine ai_iadd ?_; refine ap_callv0 ow_11 rm_7_147 na_111 mc_111 ms_111 rfl rfl (Nat.le_of_ble_eq_true rfl) (Nat.le_of_ble_eq_true rfl) (Or.inr rfl) (Nat.zero_le _) (Nat.zero_le _) ?_; refine sp_111_29 ?_ ?_ ?_ ?_; dsimp only [Option.toList_some, Option.toList_none, List.cons_append, List.nil_append]; refine ap_callv0 ow_11 rm_7_185 na_21 mc_21 ms_21 rfl rfl (Nat.le_of_ble_eq_true rfl) (Nat.le_of_ble_eq_true rfl) (Or.inr rfl) (Nat.zero_le _) (Nat.zero_le _) ?_; (rw [if_pos (show 0 ≤ i ∧ i < f 29 1 by omega), if_pos (show 0 ≤ i + 1 ∧ i + 1 < f 29 1 by omega)]; have q1 := hrow i.toNat (by omega); have q2 := hrow (i + 1).toNat (by omega); show am_call _ 21 [.ref 0, .int (iZ (aZ (f 30 i.toNat))), .int (iZ (aZ (f 30 (i + 1).toNat)))] _ _; refine sp_21 ?_ ?_ ?_ ?_ ?_ ?_ ?_ ?_ ?_); dsimp only [Option.toList_some, Option.toList_none, List.cons_append, List.nil_append]; refine ap_iret rfl ?_
        · first | exact K1 (by omega) | exact K2 (by omega) | exact K3 (by omega) | (rw [if_pos (show 0 ≤ i + 1 ∧ i + 1 < f 29 1 by omega)]; exact K4 (by omega)) | (rcases hR with ⟨hR1, rfl, rfl⟩ | ⟨hR1, rfl, rfl⟩ <;> first | exact K5 (by omega) | exact K6 (by omega) | (exfalso; omega))
        all_goals (first | omega | assumption | (rcases hR with ⟨-, rfl, -⟩ | ⟨-, rfl, -⟩ <;> decide) | exact (adv_b hX hY _ _).1 | exact (adv_b hX hY _ _).2 | exact (hst _ (by omega) (by omega)).1 | exact (hst _ (by omega) (by omega)).2)
      · refine ap_go kc_11_71 ?_
        refine ap_aload_n rfl ?_; refine ap_getR ow_11 rf_7_51 rfl rfl rfl ?_; refine ap_iload_n rfl ?_; refine ai_iconst ?_; refine ai_iadd ?_; refine ap_callv0 ow_11 rm_7_147 na_111 mc_111 ms_111 rfl rfl (Nat.le_of_ble_eq_true rfl) (Nat.le_of_ble_eq_true rfl) (Or.inr rfl) (Nat.zero_le _) (Nat.zero_le _) ?_; refine sp_111_29 ?_ ?_ ?_ ?_; dsimp only [Option.toList_some, Option.toList_none, List.cons_append, List.nil_append]; refine ap_iret rfl ?_
        · first | exact K1 (by omega) | exact K2 (by omega) | exact K3 (by omega) | (rw [if_pos (show 0 ≤ i + 1 ∧ i + 1 < f 29 1 by omega)]; exact K4 (by omega)) | (rcases hR with ⟨hR1, rfl, rfl⟩ | ⟨hR1, rfl, rfl⟩ <;> first | exact K5 (by omega) | exact K6 (by omega) | (exfalso; omega))
        all_goals (first | omega | assumption | (rcases hR with ⟨-, rfl, -⟩ | ⟨-, rfl, -⟩ <;> decide) | exact (adv_b hX hY _ _).1 | exact (adv_b hX hY _ _).2 | exact (hst _ (by omega) (by omega)).1 | exact (hst _ (by omega) (by omega)).2)
      · refine ap_go kc_11_82 ?_
        refine ap_aload_n rfl ?_; refine ap_getR ow_11 rf_7_51 rfl rfl rfl ?_; refine ap_iload_n rfl ?_; refine ap_callv0 ow_11 rm_7_189 na_115 mc_115 ms_115 rfl rfl (Nat.le_of_ble_eq_true rfl) (Nat.le_of_ble_eq_true rfl) (Or.inr rfl) (Nat.zero_le _) (Nat.zero_le _) ?_; refine sp_115r_29 (fun x f2 hR => ?_) ?_ ?_ ?_; dsimp only [Option.toList_some, Option.toList_none, List.cons_append, List.nil_append]
        refine ai_ifeq rfl rfl (fun hb3 => ?_) (fun hb3 => ?_) ?_
        · refine ap_go kc_11_97 ?_
          refine ai_iconst ?_; refine ap_nil ?_
          refine ap_go kc_11_98 ?_
          refine ap_iret rfl ?_
          first | exact K1 (by omega) | exact K2 (by omega) | exact K3 (by omega) | (rw [if_pos (show 0 ≤ i + 1 ∧ i + 1 < f 29 1 by omega)]; exact K4 (by omega)) | (rcases hR with ⟨hR1, rfl, rfl⟩ | ⟨hR1, rfl, rfl⟩ <;> first | exact K5 (by omega) | exact K6 (by omega) | (exfalso; omega))
        · refine ap_go kc_11_93 ?_
          refine ai_iconst ?_; refine ap_goto rfl ?_
          refine ap_go kc_11_98 ?_
          refine ap_iret rfl ?_
          first | exact K1 (by omega) | exact K2 (by omega) | exact K3 (by omega) | (rw [if_pos (show 0 ≤ i + 1 ∧ i + 1 < f 29 1 by omega)]; exact K4 (by omega)) | (rcases hR with ⟨hR1, rfl, rfl⟩ | ⟨hR1, rfl, rfl⟩ <;> first | exact K5 (by omega) | exact K6 (by omega) | (exfalso; omega))
        all_goals (first | omega | assumption | (rcases hR with ⟨-, rfl, -⟩ | ⟨-, rfl, -⟩ <;> decide) | exact (adv_b hX hY _ _).1 | exact (adv_b hX hY _ _).2 | exact (hst _ (by omega) (by omega)).1 | exact (hst _ (by omega) (by omega)).2)
      · refine ap_go kc_11_99 ?_
        refine ai_bipush (by decide) ?_; refine ap_iret rfl ?_
        first | exact K1 (by omega) | exact K2 (by omega) | exact K3 (by omega) | (rw [if_pos (show 0 ≤ i + 1 ∧ i + 1 < f 29 1 by omega)]; exact K4 (by omega)) | (rcases hR with ⟨hR1, rfl, rfl⟩ | ⟨hR1, rfl, rfl⟩ <;> first | exact K5 (by omega) | exact K6 (by omega) | (exfalso; omega))
      all_goals (first | omega | assumption | (rcases hR with ⟨-, rfl, -⟩ | ⟨-, rfl, -⟩ <;> decide) | exact (adv_b hX hY _ _).1 | exact (adv_b hX hY _ _).2 | exact (hst _ (by omega) (by omega)).1 | exact (hst _ (by omega) (by omega)).2)
    · refine ap_go kc_11_17 ?_
      refine ai_iconst ?_; refine ap_iret rfl ?_
      first | exact K1 (by omega) | exact K2 (by omega) | exact K3 (by omega) | (rw [if_pos (show 0 ≤ i + 1 ∧ i + 1 < f 29 1 by omega)]; exact K4 (by omega)) | (rcases hR with ⟨hR1, rfl, rfl⟩ | ⟨hR1, rfl, rfl⟩ <;> first | exact K5 (by omega) | exact K6 (by omega) | (exfalso; omega))
    all_goals (first | omega | assumption | (rcases hR with ⟨-, rfl, -⟩ | ⟨-, rfl, -⟩ <;> decide) | exact (adv_b hX hY _ _).1 | exact (adv_b hX hY _ _).2 | exact (hst _ (by omega) (by omega)).1 | exact (hst _ (by omega) (by omega)).2)
  all_goals (first | omega | assumption | (rcases hR with ⟨-, rfl, -⟩ | ⟨-, rfl, -⟩ <;> decide) | exact (adv_b hX hY _ _).1 | exact (adv_b hX hY _ _).2 | exact (hst _ (by omega) (by omega)).1 | exact (hst _ (by omega) (by omega)).2)

theorem sp_53 {d L : Nat} {sw : Bool} {f g : Nat → Nat → Int} {Q : Option Value → am_H → Prop} {f1 : Nat → Nat → Int} {i w : Int} (hf : am_up f 31 0 0 = f1) (K1 : ¬ (0 ≤ i ∧ i ≤ f1 31 23 - 2) → Q (some (.int (iZ (-1)))) (53, sh_lt L, iH f1, jH g, sh_rt sw)) (K2 : (0 ≤ i ∧ i ≤ f1 31 23 - 2) ∧ (w < 0 ∨ 2 < w) → Q (some (.int (iZ (-2)))) (53, sh_lt L, iH f1, jH g, sh_rt sw)) (K3 : (0 ≤ i ∧ i ≤ f1 31 23 - 2) ∧ w = 0 → Q (some (.int (iZ (advZ ((g 32 (f1 36 (f1 47 i.toNat).toNat).toNat - g 32 (f1 35 (f1 47 i.toNat).toNat).toNat) * (g 33 (f1 36 (f1 47 (i + 1).toNat).toNat).toNat - g 33 (f1 35 (f1 47 (i + 1).toNat).toNat).toNat) - (g 33 (f1 36 (f1 47 i.toNat).toNat).toNat - g 33 (f1 35 (f1 47 i.toNat).toNat).toNat) * (g 32 (f1 36 (f1 47 (i + 1).toNat).toNat).toNat - g 32 (f1 35 (f1 47 (i + 1).toNat).toNat).toNat)) ((g 32 (f1 36 (f1 47 i.toNat).toNat).toNat - g 32 (f1 35 (f1 47 i.toNat).toNat).toNat) * (g 32 (f1 36 (f1 47 (i + 1).toNat).toNat).toNat - g 32 (f1 35 (f1 47 (i + 1).toNat).toNat).toNat) + (g 33 (f1 36 (f1 47 i.toNat).toNat).toNat - g 33 (f1 35 (f1 47 i.toNat).toNat).toNat) * (g 33 (f1 36 (f1 47 (i + 1).toNat).toNat).toNat - g 33 (f1 35 (f1 47 (i + 1).toNat).toNat).toNat)))))) (53, sh_lt L, iH f1, jH g, sh_rt sw)) (K4 : (0 ≤ i ∧ i ≤ f1 31 23 - 2) ∧ w = 1 → Q (some (.int (iZ (f1 47 (i + 1).toNat)))) (53, sh_lt L, iH f1, jH g, sh_rt sw)) (K5 : (0 ≤ i ∧ i ≤ f1 31 23 - 2) ∧ w = 2 ∧ ¬ f1 48 i.toNat = 0 → Q (some (.int (iZ (0)))) (53, sh_lt L, iH (am_up f1 48 i.toNat 1), jH g, sh_rt sw)) (K6 : (0 ≤ i ∧ i ≤ f1 31 23 - 2) ∧ w = 2 ∧ f1 48 i.toNat = 0 → Q (some (.int (iZ (1)))) (53, sh_lt L, iH (am_up f1 48 i.toNat 1), jH g, sh_rt sw)) (hi : iR i) (hw : iR w) (hs : 0 ≤ f1 31 23 ∧ f1 31 23 ≤ 2600) (hrow : ∀ k : Nat, (k : Int) < f1 31 23 → 1 ≤ f1 47 k ∧ f1 47 k ≤ 120) (hq : ∀ k, f1 48 k = 0 ∨ f1 48 k = 1) (hst : ∀ s : Nat, 1 ≤ s → s ≤ 120 → (0 ≤ f1 35 s ∧ f1 35 s < 61) ∧ (0 ≤ f1 36 s ∧ f1 36 s < 61)) (hX : ∀ k, -10000 ≤ g 32 k ∧ g 32 k ≤ 10000) (hY : ∀ k, -10000 ≤ g 33 k ∧ g 33 k ≤ 10000) : am_call (d + 1) 53 [.ref 31, .int (iZ i), .int (iZ w)] (53, sh_lt L, iH f, jH g, sh_rt sw) Q := by
  have he := adv_e (f := f1) hX hY (f1 47 i.toNat).toNat (f1 47 (i + 1).toNat).toNat
  simp only [eX, eY] at he
  have q1 : 0 ≤ i → i ≤ f1 31 23 - 2 → (1 ≤ f1 47 i.toNat ∧ f1 47 i.toNat ≤ 120) ∧ (1 ≤ f1 47 (i + 1).toNat ∧ f1 47 (i + 1).toNat ≤ 120) := fun a b => ⟨hrow _ (by omega), hrow _ (by omega)⟩
  have q := hq i.toNat
  refine ap_call (by decide) (Nat.le_of_ble_eq_true rfl) rfl ?_
  refine ap_go kc_53_0 ?_
  refine ap_aload_n rfl ?_; refine ai_iconst ?_; refine ai_putI ow_53 rf_8_82 rfl rfl rfl ?_
  rw [hf]
  refine ap_iload_n rfl ?_
  refine ai_iflt rfl rfl (fun hb0 => ?_) (fun hb0 => ?_) ?_
  · refine ap_go kc_53_19 ?_
    refine ai_iconst ?_; refine ap_iret rfl ?_
    first | (have e0 := K3 (by omega); rw [adv_m] at e0; refine sq e0 ?_; (repeat' split) <;> omega) | exact K1  (by omega) | exact K2  (by omega) | exact K3  (by omega) | exact K4  (by omega) | exact K5  (by omega) | exact K6  (by omega)
  · refine ap_go kc_53_9 ?_
    refine ap_iload_n rfl ?_; refine ap_aload_n rfl ?_; refine ai_getI ow_53 rf_8_173 rfl rfl ?_; refine ai_iconst ?_; refine ai_isub ?_
    refine ai_icle rfl rfl (fun hb1 => ?_) (fun hb1 => ?_) ?_
    · refine ap_go kc_53_21 ?_
      refine ap_iload_n rfl ?_
      refine ai_iflt rfl rfl (fun hb2 => ?_) (fun hb2 => ?_) ?_
      · refine ap_go kc_53_30 ?_
        refine ai_bipush (by decide) ?_; refine ap_iret rfl ?_
        first | (have e0 := K3 (by omega); rw [adv_m] at e0; refine sq e0 ?_; (repeat' split) <;> omega) | exact K1  (by omega) | exact K2  (by omega) | exact K3  (by omega) | exact K4  (by omega) | exact K5  (by omega) | exact K6  (by omega)
      · refine ap_go kc_53_25 ?_
        refine ap_iload_n rfl ?_; refine ai_iconst ?_
        refine ai_icle rfl rfl (fun hb3 => ?_) (fun hb3 => ?_) ?_
        · refine ap_go kc_53_33 ?_
          refine ap_aload_n rfl ?_; refine ap_getR ow_53 rf_8_61 rfl rfl rfl ?_; refine ap_iload_n rfl ?_; refine ai_iaload (n := 2600) rfl rfl (by decide) ?_ ?_; refine ap_istore_n rfl ?_; refine ap_aload_n rfl ?_; refine ap_getR ow_53 rf_8_61 rfl rfl rfl ?_; refine ap_iload_n rfl ?_; refine ai_iconst ?_; refine ai_iadd ?_; refine ai_iaload (n := 2600) rfl rfl (by decide) ?_ ?_; refine ap_istore rfl ?_; refine ap_iload_n rfl ?_; refine ai_iconst ?_
          refine ai_icne rfl rfl (fun hb4 => ?_) (fun hb4 => ?_) ?_
          · refine ap_go kc_53_58 ?_
            refine ap_iload_n rfl ?_; refine ai_iconst ?_
            refine ai_icne rfl rfl (fun hb5 => ?_) (fun hb5 => ?_) ?_
            · refine ap_go kc_53_89 ?_
              refine ap_aload_n rfl ?_; refine ap_getR ow_53 rf_8_7 rfl rfl rfl ?_; refine ap_aload_n rfl ?_; refine ap_getR ow_53 rf_8_23 rfl rfl rfl ?_; refine ap_iload_n rfl ?_; refine ai_iaload (n := 121) rfl rfl (by decide) ?_ ?_; refine ai_laload (n := 61) rfl rfl (by decide) ?_ ?_; refine ap_aload_n rfl ?_; refine ap_getR ow_53 rf_8_7 rfl rfl rfl ?_; refine ap_aload_n rfl ?_; refine ap_getR ow_53 rf_8_19 rfl rfl rfl ?_; refine ap_iload_n rfl ?_; refine ai_iaload (n := 121) rfl rfl (by decide) ?_ ?_; refine ai_laload (n := 61) rfl rfl (by decide) ?_ ?_; refine ai_lsub ?_; refine ap_lstore rfl ?_; refine ap_aload_n rfl ?_; refine ap_getR ow_53 rf_8_13 rfl rfl rfl ?_; refine ap_aload_n rfl ?_; refine ap_getR ow_53 rf_8_23 rfl rfl rfl ?_; refine ap_iload_n rfl ?_; refine ai_iaload (n := 121) rfl rfl (by decide) ?_ ?_; refine ai_laload (n := 61) rfl rfl (by decide) ?_ ?_; refine ap_aload_n rfl ?_; refine ap_getR ow_53 rf_8_13 rfl rfl rfl ?_; refine ap_aload_n rfl ?_; refine ap_getR ow_53 rf_8_19 rfl rfl rfl ?_; refine ap_iload_n rfl ?_; refine ai_iaload (n := 121) rfl rfl (by decide) ?_ ?_; refine ai_laload (n := 61) rfl rfl (by decide) ?_ ?_; refine ai_lsub ?_; refine ap_lstore rfl ?_; refine ap_aload_n rfl ?_; refine ap_getR ow_53 rf_8_7 rfl rfl rfl ?_; refine ap_aload_n rfl ?_; refine ap_getR ow_53 rf_8_23 rfl rfl rfl ?_; refine ap_iload rfl ?_; refine ai_iaload (n := 121) rfl rfl (by decide) ?_ ?_; refine ai_laload (n := 61) rfl rfl (by decide) ?_ ?_; refine ap_aload_n rfl ?_; refine ap_getR ow_53 rf_8_7 rfl rfl rfl ?_; refine ap_aload_n rfl ?_; refine ap_getR ow_53 rf_8_19 rfl rfl rfl ?_; refine ap_iload rfl ?_; refine ai_iaload (n := 121) rfl rfl (by decide) ?_ ?_; refine ai_laload (n := 61) rfl rfl (by decide) ?_ ?_; refine ai_lsub ?_; refine ap_lstore rfl ?_; refine ap_aload_n rfl ?_; refine ap_getR ow_53 rf_8_13 rfl rfl rfl ?_; refine ap_aload_n rfl ?_; refine ap_getR ow_53 rf_8_23 rfl rfl rfl ?_; refine ap_iload rfl ?_; refine ai_iaload (n := 121) rfl rfl (by decide) ?_ ?_; refine ai_laload (n := 61) rfl rfl (by decide) ?_ ?_; refine ap_aload_n rfl ?_; refine ap_getR ow_53 rf_8_13 rfl rfl rfl ?_; refine ap_aload_n rfl ?_; refine ap_getR ow_53 rf_8_19 rfl rfl rfl ?_; refine ap_iload rfl ?_; refine ai_iaload (n := 121) rfl rfl (by decide) ?_ ?_; refine ai_laload (n := 61) rfl rfl (by decide) ?_ ?_; refine ai_lsub ?_; refine ap_lstore rfl ?_; refine ap_lload rfl ?_; refine ap_lload rfl ?_; refine ai_lmul ?_; refine ap_lload rfl ?_; refine ap_lload rfl ?_; refine ai_lmul ?_; refine ai_lsub ?_; refine ap_lstore rfl ?_; refine ap_lload rfl ?_; refine ap_lload rfl ?_; refine ai_lmul ?_; refine ap_lload rfl ?_; refine ap_lload rfl ?_; refine ai_lmul ?_; refine ai_ladd ?_; refine ap_lstore rfl ?_; refine ap_lload rfl ?_; refine ai_lconst 0 rfl ?_
              refine ai_lcge rfl rfl (fun hb6 => ?_) (fun hb6 => ?_) ?_
              · refine ap_go kc_53_235 ?_
                refine ai_ldc2 (2) ow_53 kl_8_191 rfl ?_; refine ap_lload rfl ?_; refine ai_lmul ?_; refine ap_nil ?_
                refine ap_go kc_53_241 ?_
                refine ap_lstore rfl ?_; refine ap_lload rfl ?_; refine ap_lload rfl ?_
                refine ai_lcgt rfl rfl (fun hb7 => ?_) (fun hb7 => ?_) ?_
                · refine ap_go kc_53_253 ?_
                  refine ap_lload rfl ?_; refine ap_lload rfl ?_; refine ai_ladd ?_; refine ai_lconst 0 rfl ?_
                  refine ai_lcgt rfl rfl (fun hb8 => ?_) (fun hb8 => ?_) ?_
                  · refine ap_go kc_53_265 ?_
                    refine ap_lload rfl ?_; refine ai_lconst 0 rfl ?_
                    refine ai_lcle rfl rfl (fun hb9 => ?_) (fun hb9 => ?_) ?_
                    · refine ap_go kc_53_276 ?_
                      refine ai_iconst ?_; refine ap_nil ?_
                      refine ap_go kc_53_277 ?_
                      refine ap_iret rfl ?_
                      first | (have e0 := K3 (by omega); rw [adv_m] at e0; refine sq e0 ?_; (repeat' split) <;> omega) | exact K1  (by omega) | exact K2  (by omega) | exact K3  (by omega) | exact K4  (by omega) | exact K5  (by omega) | exact K6  (by omega)
                    · refine ap_go kc_53_272 ?_
                      refine ai_iconst ?_; refine ap_goto rfl ?_
                      refine ap_go kc_53_277 ?_
                      refine ap_iret rfl ?_
                      first | (have e0 := K3 (by omega); rw [adv_m] at e0; refine sq e0 ?_; (repeat' split) <;> omega) | exact K1  (by omega) | exact K2  (by omega) | exact K3  (by omega) | exact K4  (by omega) | exact K5  (by omega) | exact K6  (by omega)
                    all_goals (first | omega | exact (hst _ (by omega) (by omega)).1 | exact (hst _ (by omega) (by omega)).2)
                  · refine ap_go kc_53_263 ?_
                    refine ai_iconst ?_; refine ap_iret rfl ?_
                    first | (have e0 := K3 (by omega); rw [adv_m] at e0; refine sq e0 ?_; (repeat' split) <;> omega) | exact K1  (by omega) | exact K2  (by omega) | exact K3  (by omega) | exact K4  (by omega) | exact K5  (by omega) | exact K6  (by omega)
                  all_goals (first | omega | exact (hst _ (by omega) (by omega)).1 | exact (hst _ (by omega) (by omega)).2)
                · refine ap_go kc_53_251 ?_
                  refine ai_iconst ?_; refine ap_iret rfl ?_
                  first | (have e0 := K3 (by omega); rw [adv_m] at e0; refine sq e0 ?_; (repeat' split) <;> omega) | exact K1  (by omega) | exact K2  (by omega) | exact K3  (by omega) | exact K4  (by omega) | exact K5  (by omega) | exact K6  (by omega)
                all_goals (first | omega | exact (hst _ (by omega) (by omega)).1 | exact (hst _ (by omega) (by omega)).2)
              · refine ap_go kc_53_226 ?_
                refine ai_ldc2 (-2) ow_53 kl_8_189 rfl ?_; refine ap_lload rfl ?_; refine ai_lmul ?_; refine ap_goto rfl ?_
                refine ap_go kc_53_241 ?_
                refine ap_lstore rfl ?_; refine ap_lload rfl ?_; refine ap_lload rfl ?_
                refine ai_lcgt rfl rfl (fun hb10 => ?_) (fun hb10 => ?_) ?_
                · refine ap_go kc_53_253 ?_
                  refine ap_lload rfl ?_; refine ap_lload rfl ?_; refine ai_ladd ?_; refine ai_lconst 0 rfl ?_
                  refine ai_lcgt rfl rfl (fun hb11 => ?_) (fun hb11 => ?_) ?_
                  · refine ap_go kc_53_265 ?_
                    refine ap_lload rfl ?_; refine ai_lconst 0 rfl ?_
                    refine ai_lcle rfl rfl (fun hb12 => ?_) (fun hb12 => ?_) ?_
                    · refine ap_go kc_53_276 ?_
                      refine ai_iconst ?_; refine ap_nil ?_
                      refine ap_go kc_53_277 ?_
                      refine ap_iret rfl ?_
                      first | (have e0 := K3 (by omega); rw [adv_m] at e0; refine sq e0 ?_; (repeat' split) <;> omega) | exact K1  (by omega) | exact K2  (by omega) | exact K3  (by omega) | exact K4  (by omega) | exact K5  (by omega) | exact K6  (by omega)
                    · refine ap_go kc_53_272 ?_
                      refine ai_iconst ?_; refine ap_goto rfl ?_
                      refine ap_go kc_53_277 ?_
                      refine ap_iret rfl ?_
                      first | (have e0 := K3 (by omega); rw [adv_m] at e0; refine sq e0 ?_; (repeat' split) <;> omega) | exact K1  (by omega) | exact K2  (by omega) | exact K3  (by omega) | exact K4  (by omega) | exact K5  (by omega) | exact K6  (by omega)
                    all_goals (first | omega | exact (hst _ (by omega) (by omega)).1 | exact (hst _ (by omega) (by omega)).2)
                  · refine ap_go kc_53_263 ?_
                    refine ai_iconst ?_; refine ap_iret rfl ?_
                    first | (have e0 := K3 (by omega); rw [adv_m] at e0; refine sq e0 ?_; (repeat' split) <;> omega) | exact K1  (by omega) | exact K2  (by omega) | exact K3  (by omega) | exact K4  (by omega) | exact K5  (by omega) | exact K6  (by omega)
                  all_goals (first | omega | exact (hst _ (by omega) (by omega)).1 | exact (hst _ (by omega) (by omega)).2)
                · refine ap_go kc_53_251 ?_
                  refine ai_iconst ?_; refine ap_iret rfl ?_
                  first | (have e0 := K3 (by omega); rw [adv_m] at e0; refine sq e0 ?_; (repeat' split) <;> omega) | exact K1  (by omega) | exact K2  (by omega) | exact K3  (by omega) | exact K4  (by omega) | exact K5  (by omega) | exact K6  (by omega)
                all_goals (first | omega | exact (hst _ (by omega) (by omega)).1 | exact (hst _ (by omega) (by omega)).2)
              all_goals (first | omega | exact (hst _ (by omega) (by omega)).1 | exact (hst _ (by omega) (by omega)).2)
            · refine ap_go kc_53_63 ?_
              refine ap_aload_n rfl ?_; refine ap_getR ow_53 rf_8_70 rfl rfl rfl ?_; refine ap_iload_n rfl ?_; refine ai_baload (n := 2600) rfl rfl (by decide) ?_ ?_
              refine ai_ifeq rfl rfl (fun hb13 => ?_) (fun hb13 => ?_) ?_
              · refine ap_go kc_53_76 ?_
                refine ai_iconst ?_; refine ap_nil ?_
                refine ap_go kc_53_77 ?_
                refine ap_istore rfl ?_; refine ap_aload_n rfl ?_; refine ap_getR ow_53 rf_8_70 rfl rfl rfl ?_; refine ap_iload_n rfl ?_; refine ai_iconst ?_; refine ai_bastore (n := 2600) rfl rfl (by decide) ?_ ?_ ?_; refine ap_iload rfl ?_; refine ap_iret rfl ?_
                · first | (have e0 := K3 (by omega); rw [adv_m] at e0; refine sq e0 ?_; (repeat' split) <;> omega) | exact K1  (by omega) | exact K2  (by omega) | exact K3  (by omega) | exact K4  (by omega) | exact K5  (by omega) | exact K6  (by omega)
                all_goals (first | omega | exact (hst _ (by omega) (by omega)).1 | exact (hst _ (by omega) (by omega)).2)
              · refine ap_go kc_53_72 ?_
                refine ai_iconst ?_; refine ap_goto rfl ?_
                refine ap_go kc_53_77 ?_
                refine ap_istore rfl ?_; refine ap_aload_n rfl ?_; refine ap_getR ow_53 rf_8_70 rfl rfl rfl ?_; refine ap_iload_n rfl ?_; refine ai_iconst ?_; refine ai_bastore (n := 2600) rfl rfl (by decide) ?_ ?_ ?_; refine ap_iload rfl ?_; refine ap_iret rfl ?_
                · first | (have e0 := K3 (by omega); rw [adv_m] at e0; refine sq e0 ?_; (repeat' split) <;> omega) | exact K1  (by omega) | exact K2  (by omega) | exact K3  (by omega) | exact K4  (by omega) | exact K5  (by omega) | exact K6  (by omega)
                all_goals (first | omega | exact (hst _ (by omega) (by omega)).1 | exact (hst _ (by omega) (by omega)).2)
              all_goals (first | omega | exact (hst _ (by omega) (by omega)).1 | exact (hst _ (by omega) (by omega)).2)
            all_goals (first | omega | exact (hst _ (by omega) (by omega)).1 | exact (hst _ (by omega) (by omega)).2)
          · refine ap_go kc_53_55 ?_
            refine ap_iload rfl ?_; refine ap_iret rfl ?_
            first | (have e0 := K3 (by omega); rw [adv_m] at e0; refine sq e0 ?_; (repeat' split) <;> omega) | exact K1  (by omega) | exact K2  (by omega) | exact K3  (by omega) | exact K4  (by omega) | exact K5  (by omega) | exact K6  (by omega)
          all_goals (first | omega | exact (hst _ (by omega) (by omega)).1 | exact (hst _ (by omega) (by omega)).2)
        · refine ap_go kc_53_30 ?_
          refine ai_bipush (by decide) ?_; refine ap_iret rfl ?_
          first | (have e0 := K3 (by omega); rw [adv_m] at e0; refine sq e0 ?_; (repeat' split) <;> omega) | exact K1  (by omega) | exact K2  (by omega) | exact K3  (by omega) | exact K4  (by omega) | exact K5  (by omega) | exact K6  (by omega)
        all_goals (first | omega | exact (hst _ (by omega) (by omega)).1 | exact (hst _ (by omega) (by omega)).2)
      all_goals (first | omega | exact (hst _ (by omega) (by omega)).1 | exact (hst _ (by omega) (by omega)).2)
    · refine ap_go kc_53_19 ?_
      refine ai_iconst ?_; refine ap_iret rfl ?_
      first | (have e0 := K3 (by omega); rw [adv_m] at e0; refine sq e0 ?_; (repeat' split) <;> omega) | exact K1  (by omega) | exact K2  (by omega) | exact K3  (by omega) | exact K4  (by omega) | exact K5  (by omega) | exact K6  (by omega)
    all_goals (first | omega | exact (hst _ (by omega) (by omega)).1 | exact (hst _ (by omega) (by omega)).2)
  all_goals (first | omega | exact (hst _ (by omega) (by omega)).1 | exact (hst _ (by omega) (by omega)).2)
