/-! THE FACE: at, cost, part, street of the class; snap, part, street of the reference -/
theorem sqM_in {f g : Nat → Nat → Int} {x y : Int} (hx : -20000 ≤ x ∧ x ≤ 20000) (hy : -20000 ≤ y ∧ y ≤ 20000) (hX : ∀ k, -10000 ≤ g 32 k ∧ g 32 k ≤ 10000) (hY : ∀ k, -10000 ≤ g 33 k ∧ g 33 k ≤ 10000) (s : Nat) : lR (sqM f g x y s) := by
  have a1 := hX (f 35 s).toNat
  have a2 := hX (f 36 s).toNat
  have a3 := hY (f 35 s).toNat
  have a4 := hY (f 36 s).toNat
  have := sqr_in (px := x - g 32 (f 35 s).toNat) (py := y - g 33 (f 35 s).toNat) (vx := eX f g s) (vy := eY f g s) (by omega) (by omega) (by unfold eX; omega) (by unfold eY; omega)
  rw [sq_same (qx := x - g 32 (f 36 s).toNat) (qy := y - g 33 (f 36 s).toNat) (by unfold eX; omega) (by unfold eY; omega)] at this
  exact ⟨Int.le_trans (by decide) this.1, this.2⟩

theorem sp_56 {d L : Nat} {sw : Bool} {f g : Nat → Nat → Int} {Q : Option Value → am_H → Prop} {f1 : Nat → Nat → Int} {x y h : Int} (hf : am_up f 31 0 0 = f1) (K1 : ¬ (-20000 ≤ x ∧ x ≤ 20000 ∧ -20000 ≤ y ∧ y ≤ 20000 ∧ -1 ≤ h ∧ h ≤ 7) → Q (some (.int (iZ (-2)))) (53, sh_lt L, iH f1, jH g, sh_rt sw)) (K2 : (-20000 ≤ x ∧ x ≤ 20000 ∧ -20000 ≤ y ∧ y ≤ 20000 ∧ -1 ≤ h ∧ h ≤ 7) → Q (some (.int (iZ ((snM (fitM f1 g h) (sqM f1 g x y) (f1 31 5).toNat).1)))) (53, sh_lt L, iH f1, jH g, sh_rt sw)) (hx : lR x) (hy : lR y) (hh : iR h) (hc : 0 ≤ f1 31 5 ∧ f1 31 5 ≤ 120) (hst : ∀ s : Nat, 1 ≤ s → (s : Int) ≤ f1 31 5 → (0 ≤ f1 35 s ∧ f1 35 s < 61) ∧ (0 ≤ f1 36 s ∧ f1 36 s < 61)) (hX : ∀ k, -10000 ≤ g 32 k ∧ g 32 k ≤ 10000) (hY : ∀ k, -10000 ≤ g 33 k ∧ g 33 k ≤ 10000) : am_call (d + 2) 56 [.ref 31, .long (lZ x), .long (lZ y), .int (iZ h)] (53, sh_lt L, iH f, jH g, sh_rt sw) Q := by
  refine ap_call (by decide) (Nat.le_of_ble_eq_true rfl) rfl ?_
  refine ap_go kc_56_0 ?_
  refine ap_aload_n rfl ?_; refine ai_iconst ?_; refine ai_putI ow_56 rf_8_82 rfl rfl rfl ?_
  rw [hf]
  refine ap_lload_n rfl ?_; refine ai_ldc2 (-20000) ow_56 kl_8_193 rfl ?_
  refine ai_lclt rfl rfl (fun hb0 => ?_) (fun hb0 => ?_) ?_
  · refine ap_go kc_56_50 ?_
    refine ai_bipush (by decide) ?_; refine ap_iret rfl ?_
    (try simp only [bz, Decidable.not_not] at *); first | exact K1  (by omega) | exact K2  (by omega)
  · refine ap_go kc_56_13 ?_
    refine ap_lload_n rfl ?_; refine ai_ldc2 (20000) ow_56 kl_8_103 rfl ?_
    refine ai_lcgt rfl rfl (fun hb1 => ?_) (fun hb1 => ?_) ?_
    · refine ap_go kc_56_50 ?_
      refine ai_bipush (by decide) ?_; refine ap_iret rfl ?_
      (try simp only [bz, Decidable.not_not] at *); first | exact K1  (by omega) | exact K2  (by omega)
    · refine ap_go kc_56_21 ?_
      refine ap_lload_n rfl ?_; refine ai_ldc2 (-20000) ow_56 kl_8_193 rfl ?_
      refine ai_lclt rfl rfl (fun hb2 => ?_) (fun hb2 => ?_) ?_
      · refine ap_go kc_56_50 ?_
        refine ai_bipush (by decide) ?_; refine ap_iret rfl ?_
        (try simp only [bz, Decidable.not_not] at *); first | exact K1  (by omega) | exact K2  (by omega)
      · refine ap_go kc_56_29 ?_
        refine ap_lload_n rfl ?_; refine ai_ldc2 (20000) ow_56 kl_8_103 rfl ?_
        refine ai_lcgt rfl rfl (fun hb3 => ?_) (fun hb3 => ?_) ?_
        · refine ap_go kc_56_50 ?_
          refine ai_bipush (by decide) ?_; refine ap_iret rfl ?_
          (try simp only [bz, Decidable.not_not] at *); first | exact K1  (by omega) | exact K2  (by omega)
        · refine ap_go kc_56_37 ?_
          refine ap_iload rfl ?_; refine ai_iconst ?_
          refine ai_iclt rfl rfl (fun hb4 => ?_) (fun hb4 => ?_) ?_
          · refine ap_go kc_56_50 ?_
            refine ai_bipush (by decide) ?_; refine ap_iret rfl ?_
            (try simp only [bz, Decidable.not_not] at *); first | exact K1  (by omega) | exact K2  (by omega)
          · refine ap_go kc_56_43 ?_
            refine ap_iload rfl ?_; refine ai_bipush (by decide) ?_
            refine ai_icle rfl rfl (fun hb5 => ?_) (fun hb5 => ?_) ?_
            · refine ap_go kc_56_53 ?_
              refine ai_iconst ?_; refine ap_istore rfl ?_; refine ai_lconst 0 rfl ?_; refine ap_lstore rfl ?_; refine ai_iconst ?_; refine ap_istore rfl ?_; refine ap_nil ?_
              exact am_weak (by first | exact am_le_0 | (repeat (first | exact am_le_0 | refine am_le_n ?_ | refine am_le_s ?_))) (lp_56 hc (by omega) (fun s a b => okM_of (by omega) (by omega) (hst s a b).1 (hst s a b).2 hX hY) (sqM_in (by omega) (by omega) hX hY) (K2 (by omega)) (f1 31 5).toNat 0 0 0 1 (by omega) rfl rfl rfl)
            · refine ap_go kc_56_50 ?_
              refine ai_bipush (by decide) ?_; refine ap_iret rfl ?_
              (try simp only [bz, Decidable.not_not] at *); first | exact K1  (by omega) | exact K2  (by omega)
            all_goals (omega)
          all_goals (omega)
        all_goals (omega)
      all_goals (omega)
    all_goals (omega)
  all_goals (omega)

theorem sp_6_f {d L : Nat} {f g : Nat → Nat → Int} {Q : Option Value → am_H → Prop} {i : Int} (K : Q (some (.int (iZ (if 0 ≤ i ∧ i < f 27 1 then (if 0 ≤ f 28 i.toNat then f 28 i.toNat else -f 28 i.toNat) else 0)))) (53, sh_lt L, iH f, jH g, sh_rt false)) (hi : iR i) (hs : 0 ≤ f 27 1 ∧ f 27 1 ≤ 2400) (hv : ∀ k, iR (f 28 k)) : am_call (d + 2) 6 [.ref 0, .int (iZ i)] (53, sh_lt L, iH f, jH g, sh_rt false) Q := by
  refine ap_call (by decide) (Nat.le_of_ble_eq_true rfl) rfl ?_
  refine ap_go kc_6_0 ?_
  refine ap_aload_n rfl ?_; refine ap_getR ow_6 rf_7_51 rfl rfl rfl ?_; refine ap_iload_n rfl ?_; refine ap_callv0 ow_6 rm_7_147 na_111 mc_111 ms_111 rfl rfl (Nat.le_of_ble_eq_true rfl) (Nat.le_of_ble_eq_true rfl) (Or.inr rfl) (Nat.zero_le _) (Nat.zero_le _) ?_; refine sp_111_27 ?_ ?_ ?_ ?_; dsimp only [Option.toList_some, Option.toList_none, List.cons_append, List.nil_append]; refine ap_iret rfl ?_
  · exact K
  all_goals (first | assumption | omega)
theorem sp_7_f {d L : Nat} {f g : Nat → Nat → Int} {Q : Option Value → am_H → Prop} (K1 : f 27 3 = 0 → Q (some (.long (lZ (-1)))) (53, sh_lt L, iH f, jH g, sh_rt false)) (K2 : ¬ f 27 3 = 0 → Q (some (.long (lZ (g 27 2)))) (53, sh_lt L, iH f, jH g, sh_rt false)) (hb : f 27 3 = 0 ∨ f 27 3 = 1) : am_call (d + 2) 7 [.ref 0] (53, sh_lt L, iH f, jH g, sh_rt false) Q := by
  refine ap_call (by decide) (Nat.le_of_ble_eq_true rfl) rfl ?_
  refine ap_go kc_7_0 ?_
  refine ap_aload_n rfl ?_; refine ap_getR ow_7 rf_7_51 rfl rfl rfl ?_; refine ap_callv0 ow_7 rm_7_150 na_108 mc_108 ms_108 rfl rfl (Nat.le_of_ble_eq_true rfl) (Nat.le_of_ble_eq_true rfl) (Or.inr rfl) (Nat.zero_le _) (Nat.zero_le _) ?_; refine sp_108_27 ?_ ?_; dsimp only [Option.toList_some, Option.toList_none, List.cons_append, List.nil_append]
  refine ai_ifeq rfl rfl (fun hc0 => ?_) (fun hc0 => ?_) ?_
  · refine ap_go kc_7_20 ?_
    refine ai_ldc2 (-1) ow_7 kl_7_157 rfl ?_; refine ap_nil ?_
    refine ap_go kc_7_23 ?_
    refine ap_lret rfl ?_
    first | exact K1 (by omega) | exact K2 (by omega)
  · refine ap_go kc_7_10 ?_
    refine ap_aload_n rfl ?_; refine ap_getR ow_7 rf_7_51 rfl rfl rfl ?_; refine ap_callv0 ow_7 rm_7_153 na_110 mc_110 ms_110 rfl rfl (Nat.le_of_ble_eq_true rfl) (Nat.le_of_ble_eq_true rfl) (Or.inr rfl) (Nat.zero_le _) (Nat.zero_le _) ?_; refine sp_110_27 ?_; dsimp only [Option.toList_some, Option.toList_none, List.cons_append, List.nil_append]; refine ap_goto rfl ?_
    refine ap_go kc_7_23 ?_
    refine ap_lret rfl ?_
    first | exact K1 (by omega) | exact K2 (by omega)
  all_goals (first | assumption | omega)

theorem sp_6_t {d L : Nat} {f g : Nat → Nat → Int} {Q : Option Value → am_H → Prop} {i : Int} (K : Q (some (.int (iZ (if 0 ≤ i ∧ i < f 29 1 then (if 0 ≤ f 30 i.toNat then f 30 i.toNat else -f 30 i.toNat) else 0)))) (53, sh_lt L, iH f, jH g, sh_rt true)) (hi : iR i) (hs : 0 ≤ f 29 1 ∧ f 29 1 ≤ 2400) (hv : ∀ k, iR (f 30 k)) : am_call (d + 2) 6 [.ref 0, .int (iZ i)] (53, sh_lt L, iH f, jH g, sh_rt true) Q := by
  refine ap_call (by decide) (Nat.le_of_ble_eq_true rfl) rfl ?_
  refine ap_go kc_6_0 ?_
  refine ap_aload_n rfl ?_; refine ap_getR ow_6 rf_7_51 rfl rfl rfl ?_; refine ap_iload_n rfl ?_; refine ap_callv0 ow_6 rm_7_147 na_111 mc_111 ms_111 rfl rfl (Nat.le_of_ble_eq_true rfl) (Nat.le_of_ble_eq_true rfl) (Or.inr rfl) (Nat.zero_le _) (Nat.zero_le _) ?_; refine sp_111_29 ?_ ?_ ?_ ?_; dsimp only [Option.toList_some, Option.toList_none, List.cons_append, List.nil_append]; refine ap_iret rfl ?_
  · exact K
  all_goals (first | assumption | omega)
theorem sp_7_t {d L : Nat} {f g : Nat → Nat → Int} {Q : Option Value → am_H → Prop} (K1 : f 29 3 = 0 → Q (some (.long (lZ (-1)))) (53, sh_lt L, iH f, jH g, sh_rt true)) (K2 : ¬ f 29 3 = 0 → Q (some (.long (lZ (g 29 2)))) (53, sh_lt L, iH f, jH g, sh_rt true)) (hb : f 29 3 = 0 ∨ f 29 3 = 1) : am_call (d + 2) 7 [.ref 0] (53, sh_lt L, iH f, jH g, sh_rt true) Q := by
  refine ap_call (by decide) (Nat.le_of_ble_eq_true rfl) rfl ?_
  refine ap_go kc_7_0 ?_
  refine ap_aload_n rfl ?_; refine ap_getR ow_7 rf_7_51 rfl rfl rfl ?_; refine ap_callv0 ow_7 rm_7_150 na_108 mc_108 ms_108 rfl rfl (Nat.le_of_ble_eq_true rfl) (Nat.le_of_ble_eq_true rfl) (Or.inr rfl) (Nat.zero_le _) (Nat.zero_le _) ?_; refine sp_108_29 ?_ ?_; dsimp only [Option.toList_some, Option.toList_none, List.cons_append, List.nil_append]
  refine ai_ifeq rfl rfl (fun hc0 => ?_) (fun hc0 => ?_) ?_
  · refine ap_go kc_7_20 ?_
    refine ai_ldc2 (-1) ow_7 kl_7_157 rfl ?_; refine ap_nil ?_
    refine ap_go kc_7_23 ?_
    refine ap_lret rfl ?_
    first | exact K1 (by omega) | exact K2 (by omega)
  · refine ap_go kc_7_10 ?_
    refine ap_aload_n rfl ?_; refine ap_getR ow_7 rf_7_51 rfl rfl rfl ?_; refine ap_callv0 ow_7 rm_7_153 na_110 mc_110 ms_110 rfl rfl (Nat.le_of_ble_eq_true rfl) (Nat.le_of_ble_eq_true rfl) (Or.inr rfl) (Nat.zero_le _) (Nat.zero_le _) ?_; refine sp_110_29 ?_; dsimp only [Option.toList_some, Option.toList_none, List.cons_append, List.nil_append]; refine ap_goto rfl ?_
    refine ap_go kc_7_23 ?_
    refine ap_lret rfl ?_
    first | exact K1 (by omega) | exact K2 (by omega)
  all_goals (first | assumption | omega)

theorem sp_2 {d L : Nat} {sw : Bool} {f g : Nat → Nat → Int} {Q : Option Value → am_H → Prop} {a b m v c : Int} (K1 : ¬ (1 ≤ a ∧ a ≤ f 1 3 ∧ 1 ≤ b ∧ b ≤ f 1 3) → Q (some (.int (iZ (-1)))) (53, sh_lt L, iH f, jH g, sh_rt sw)) (K2 : (1 ≤ a ∧ a ≤ f 1 3 ∧ 1 ≤ b ∧ b ≤ f 1 3) ∧ ¬ (¬ a = b ∧ 1 ≤ m ∧ m ≤ 100000 ∧ 0 ≤ v ∧ v ≤ 1000 ∧ 0 ≤ c ∧ c ≤ 3) → Q (some (.int (iZ (-2)))) (53, sh_lt L, iH f, jH g, sh_rt sw)) (K3 : (1 ≤ a ∧ a ≤ f 1 3 ∧ 1 ≤ b ∧ b ≤ f 1 3) ∧ (¬ a = b ∧ 1 ≤ m ∧ m ≤ 100000 ∧ 0 ≤ v ∧ v ≤ 1000 ∧ 0 ≤ c ∧ c ≤ 3) ∧ f 5 8 = 120 → Q (some (.int (iZ (-4)))) (53, sh_lt L, iH f, jH g, sh_rt sw)) (K4 : (1 ≤ a ∧ a ≤ f 1 3 ∧ 1 ≤ b ∧ b ≤ f 1 3) ∧ (¬ a = b ∧ 1 ≤ m ∧ m ≤ 100000 ∧ 0 ≤ v ∧ v ≤ 1000 ∧ 0 ≤ c ∧ c ≤ 3) ∧ f 5 8 < 120 ∧ ¬ v = 0 → Q (some (.int (iZ (f 5 8 + 1)))) (53, sh_lt L, iH (am_up (am_up (am_up (am_up f 5 8 (f 5 8 + 1)) 6 (f 5 8 + 1).toNat a) 7 (f 5 8 + 1).toNat b) 10 (f 5 8 + 1).toNat c), jH (am_up (am_up g 8 (f 5 8 + 1).toNat m) 9 (f 5 8 + 1).toNat v), sh_rt sw)) (ha : iR a) (hb : iR b) (hm : lR m) (hv : lR v) (hcc : iR c) (hc : 0 ≤ f 1 3 ∧ f 1 3 ≤ 60) (hs : 0 ≤ f 5 8 ∧ f 5 8 ≤ 120) (hnt : ¬ ((1 ≤ a ∧ a ≤ f 1 3 ∧ 1 ≤ b ∧ b ≤ f 1 3) ∧ (¬ a = b ∧ 1 ≤ m ∧ m ≤ 100000 ∧ 0 ≤ v ∧ v ≤ 1000 ∧ 0 ≤ c ∧ c ≤ 3) ∧ f 5 8 < 120 ∧ v = 0)) : am_call (d + 2) 2 [.ref 0, .int (iZ a), .int (iZ b), .long (lZ m), .long (lZ v), .int (iZ c)] (53, sh_lt L, iH f, jH g, sh_rt sw) Q := by
  refine ap_call (by decide) (Nat.le_of_ble_eq_true rfl) rfl ?_
  refine ap_go kc_2_0 ?_
  refine ap_aload_n rfl ?_; refine ap_getR ow_2 rf_7_14 rfl rfl rfl ?_; refine ap_iload_n rfl ?_; refine ap_callv0 ow_2 rm_7_84 na_82 mc_82 ms_82 rfl rfl (Nat.le_of_ble_eq_true rfl) (Nat.le_of_ble_eq_true rfl) (Or.inr rfl) (Nat.zero_le _) (Nat.zero_le _) ?_; refine sp_82 ?_ ?_ ?_; dsimp only [Option.toList_some, Option.toList_none, List.cons_append, List.nil_append]
  refine ai_ifeq rfl rfl (fun hb0 => ?_) (fun hb0 => ?_) ?_
  · refine ap_go kc_2_22 ?_
    refine ai_iconst ?_; refine ap_iret rfl ?_
    (try simp only [bz, Decidable.not_not] at *); first | exact K1  (by omega) | exact K2  (by omega) | exact K3  (by omega) | exact K4  (by omega)
  · refine ap_go kc_2_11 ?_
    refine ap_aload_n rfl ?_; refine ap_getR ow_2 rf_7_14 rfl rfl rfl ?_; refine ap_iload_n rfl ?_; refine ap_callv0 ow_2 rm_7_84 na_82 mc_82 ms_82 rfl rfl (Nat.le_of_ble_eq_true rfl) (Nat.le_of_ble_eq_true rfl) (Or.inr rfl) (Nat.zero_le _) (Nat.zero_le _) ?_; refine sp_82 ?_ ?_ ?_; dsimp only [Option.toList_some, Option.toList_none, List.cons_append, List.nil_append]
    refine ai_ifne rfl rfl (fun hb1 => ?_) (fun hb1 => ?_) ?_
    · refine ap_go kc_2_24 ?_
      refine ap_iload_n rfl ?_; refine ap_iload_n rfl ?_
      refine ai_iceq rfl rfl (fun hb2 => ?_) (fun hb2 => ?_) ?_
      · refine ap_go kc_2_43 ?_
        refine ai_bipush (by decide) ?_; refine ap_iret rfl ?_
        (try simp only [bz, Decidable.not_not] at *); first | exact K1  (by omega) | exact K2  (by omega) | exact K3  (by omega) | exact K4  (by omega)
      · refine ap_go kc_2_29 ?_
        refine ap_lload_n rfl ?_; refine ai_lconst 1 rfl ?_
        refine ai_lclt rfl rfl (fun hb3 => ?_) (fun hb3 => ?_) ?_
        · refine ap_go kc_2_43 ?_
          refine ai_bipush (by decide) ?_; refine ap_iret rfl ?_
          (try simp only [bz, Decidable.not_not] at *); first | exact K1  (by omega) | exact K2  (by omega) | exact K3  (by omega) | exact K4  (by omega)
        · refine ap_go kc_2_35 ?_
          refine ap_lload_n rfl ?_; refine ai_ldc2 (100000) ow_2 kl_7_88 rfl ?_
          refine ai_lcle rfl rfl (fun hb4 => ?_) (fun hb4 => ?_) ?_
          · refine ap_go kc_2_46 ?_
            refine ap_lload rfl ?_; refine ai_lconst 0 rfl ?_
            refine ai_lclt rfl rfl (fun hb5 => ?_) (fun hb5 => ?_) ?_
            · refine ap_go kc_2_73 ?_
              refine ai_bipush (by decide) ?_; refine ap_iret rfl ?_
              (try simp only [bz, Decidable.not_not] at *); first | exact K1  (by omega) | exact K2  (by omega) | exact K3  (by omega) | exact K4  (by omega)
            · refine ap_go kc_2_53 ?_
              refine ap_lload rfl ?_; refine ai_ldc2 (1000) ow_2 kl_7_90 rfl ?_
              refine ai_lcgt rfl rfl (fun hb6 => ?_) (fun hb6 => ?_) ?_
              · refine ap_go kc_2_73 ?_
                refine ai_bipush (by decide) ?_; refine ap_iret rfl ?_
                (try simp only [bz, Decidable.not_not] at *); first | exact K1  (by omega) | exact K2  (by omega) | exact K3  (by omega) | exact K4  (by omega)
              · refine ap_go kc_2_62 ?_
                refine ap_iload rfl ?_
                refine ai_iflt rfl rfl (fun hb7 => ?_) (fun hb7 => ?_) ?_
                · refine ap_go kc_2_73 ?_
                  refine ai_bipush (by decide) ?_; refine ap_iret rfl ?_
                  (try simp only [bz, Decidable.not_not] at *); first | exact K1  (by omega) | exact K2  (by omega) | exact K3  (by omega) | exact K4  (by omega)
                · refine ap_go kc_2_67 ?_
                  refine ap_iload rfl ?_; refine ai_iconst ?_
                  refine ai_icle rfl rfl (fun hb8 => ?_) (fun hb8 => ?_) ?_
                  · refine ap_go kc_2_76 ?_
                    refine ap_aload_n rfl ?_; refine ap_getR ow_2 rf_7_21 rfl rfl rfl ?_; refine ap_callv0 ow_2 rm_7_92 na_95 mc_95 ms_95 rfl rfl (Nat.le_of_ble_eq_true rfl) (Nat.le_of_ble_eq_true rfl) (Or.inr rfl) (Nat.zero_le _) (Nat.zero_le _) ?_; refine sp_95 ?_ ?_; dsimp only [Option.toList_some, Option.toList_none, List.cons_append, List.nil_append]
                    refine ai_ifeq rfl rfl (fun hb9 => ?_) (fun hb9 => ?_) ?_
                    · refine ap_go kc_2_89 ?_
                      refine ap_lload rfl ?_; refine ai_lconst 0 rfl ?_
                      refine ai_lcne rfl rfl (fun hb10 => ?_) (fun hb10 => ?_) ?_
                      · refine ap_go kc_2_106 ?_
                        refine ap_aload_n rfl ?_; refine ap_getR ow_2 rf_7_21 rfl rfl rfl ?_; refine ap_iload_n rfl ?_; refine ap_iload_n rfl ?_; refine ap_lload_n rfl ?_; refine ap_lload rfl ?_; refine ap_iload rfl ?_; refine ap_callv0 ow_2 rm_7_100 na_96 mc_96 ms_96 rfl rfl (Nat.le_of_ble_eq_true rfl) (Nat.le_of_ble_eq_true rfl) (Or.inr rfl) (Nat.zero_le _) (Nat.zero_le _) ?_; refine sp_96 ?_ ?_; dsimp only [Option.toList_some, Option.toList_none, List.cons_append, List.nil_append]; refine ap_iret rfl ?_
                        · (try simp only [bz, Decidable.not_not] at *); first | exact K1  (by omega) | exact K2  (by omega) | exact K3  (by omega) | exact K4  (by omega)
                        all_goals (first | omega | (split <;> omega) | (simp only [bz, Decidable.not_not] at *; omega))
                      · exfalso; (try simp only [bz, Decidable.not_not] at *); omega
                      all_goals (first | omega | (split <;> omega) | (simp only [bz, Decidable.not_not] at *; omega))
                    · refine ap_go kc_2_86 ?_
                      refine ai_bipush (by decide) ?_; refine ap_iret rfl ?_
                      (try simp only [bz, Decidable.not_not] at *); first | exact K1  (by omega) | exact K2  (by omega) | exact K3  (by omega) | exact K4  (by omega)
                    all_goals (first | omega | (split <;> omega) | (simp only [bz, Decidable.not_not] at *; omega))
                  · refine ap_go kc_2_73 ?_
                    refine ai_bipush (by decide) ?_; refine ap_iret rfl ?_
                    (try simp only [bz, Decidable.not_not] at *); first | exact K1  (by omega) | exact K2  (by omega) | exact K3  (by omega) | exact K4  (by omega)
                  all_goals (first | omega | (split <;> omega) | (simp only [bz, Decidable.not_not] at *; omega))
                all_goals (first | omega | (split <;> omega) | (simp only [bz, Decidable.not_not] at *; omega))
              all_goals (first | omega | (split <;> omega) | (simp only [bz, Decidable.not_not] at *; omega))
            all_goals (first | omega | (split <;> omega) | (simp only [bz, Decidable.not_not] at *; omega))
          · refine ap_go kc_2_43 ?_
            refine ai_bipush (by decide) ?_; refine ap_iret rfl ?_
            (try simp only [bz, Decidable.not_not] at *); first | exact K1  (by omega) | exact K2  (by omega) | exact K3  (by omega) | exact K4  (by omega)
          all_goals (first | omega | (split <;> omega) | (simp only [bz, Decidable.not_not] at *; omega))
        all_goals (first | omega | (split <;> omega) | (simp only [bz, Decidable.not_not] at *; omega))
      all_goals (first | omega | (split <;> omega) | (simp only [bz, Decidable.not_not] at *; omega))
    · refine ap_go kc_2_22 ?_
      refine ai_iconst ?_; refine ap_iret rfl ?_
      (try simp only [bz, Decidable.not_not] at *); first | exact K1  (by omega) | exact K2  (by omega) | exact K3  (by omega) | exact K4  (by omega)
    all_goals (first | omega | (split <;> omega) | (simp only [bz, Decidable.not_not] at *; omega))
  all_goals (first | omega | (split <;> omega) | (simp only [bz, Decidable.not_not] at *; omega))

theorem sp_29 {d L : Nat} {sw : Bool} {f g : Nat → Nat → Int} {Q : Option Value → am_H → Prop} {f1 : Nat → Nat → Int} {a b m v c : Int} (hf : am_up f 31 0 0 = f1) (K1 : ¬ (1 ≤ a ∧ a ≤ f1 31 1 ∧ 1 ≤ b ∧ b ≤ f1 31 1) → Q (some (.int (iZ (-1)))) (53, sh_lt L, iH f1, jH g, sh_rt sw)) (K2 : (1 ≤ a ∧ a ≤ f1 31 1 ∧ 1 ≤ b ∧ b ≤ f1 31 1) ∧ ¬ (¬ a = b ∧ 1 ≤ m ∧ m ≤ 100000 ∧ 0 ≤ v ∧ v ≤ 1000 ∧ 0 ≤ c ∧ c ≤ 3) → Q (some (.int (iZ (-2)))) (53, sh_lt L, iH f1, jH g, sh_rt sw)) (K3 : (1 ≤ a ∧ a ≤ f1 31 1 ∧ 1 ≤ b ∧ b ≤ f1 31 1) ∧ (¬ a = b ∧ 1 ≤ m ∧ m ≤ 100000 ∧ 0 ≤ v ∧ v ≤ 1000 ∧ 0 ≤ c ∧ c ≤ 3) ∧ f1 31 5 = 120 → Q (some (.int (iZ (-4)))) (53, sh_lt L, iH f1, jH g, sh_rt sw)) (K4 : (1 ≤ a ∧ a ≤ f1 31 1 ∧ 1 ≤ b ∧ b ≤ f1 31 1) ∧ (¬ a = b ∧ 1 ≤ m ∧ m ≤ 100000 ∧ 0 ≤ v ∧ v ≤ 1000 ∧ 0 ≤ c ∧ c ≤ 3) ∧ f1 31 5 < 120 ∧ v = 0 → Q (some (.int (iZ (0)))) (53, sh_lt L, iH (am_up f1 31 0 1), jH g, sh_rt sw)) (K5 : (1 ≤ a ∧ a ≤ f1 31 1 ∧ 1 ≤ b ∧ b ≤ f1 31 1) ∧ (¬ a = b ∧ 1 ≤ m ∧ m ≤ 100000 ∧ 0 ≤ v ∧ v ≤ 1000 ∧ 0 ≤ c ∧ c ≤ 3) ∧ f1 31 5 < 120 ∧ ¬ v = 0 → Q (some (.int (iZ (f1 31 5 + 1)))) (53, sh_lt L, iH (am_up (am_up (am_up (am_up f1 31 5 (f1 31 5 + 1)) 35 (f1 31 5 + 1).toNat a) 36 (f1 31 5 + 1).toNat b) 39 (f1 31 5 + 1).toNat (1 + (m + m * c) / 20000)), jH (am_up (am_up (am_up g 37 (f1 31 5 + 1).toNat m) 38 (f1 31 5 + 1).toNat v) 41 (f1 31 5 + 1).toNat (-1)), sh_rt sw)) (ha : iR a) (hb : iR b) (hm : lR m) (hv : lR v) (hcc : iR c) (hc : 0 ≤ f1 31 1 ∧ f1 31 1 ≤ 60) (hs : 0 ≤ f1 31 5 ∧ f1 31 5 ≤ 120) (hmc : 0 ≤ c → c ≤ 3 → 0 ≤ m → m ≤ 100000 → 0 ≤ m * c ∧ m * c ≤ 300000) : am_call (d + 2) 29 [.ref 31, .int (iZ a), .int (iZ b), .long (lZ m), .long (lZ v), .int (iZ c)] (53, sh_lt L, iH f, jH g, sh_rt sw) Q := by
  have hz0 : f1 31 0 = 0 := by rw [← hf]; simp [am_up]
  have hz : am_up f1 31 0 0 = f1 := by rw [show (0 : Int) = f1 31 0 from hz0.symm]; exact up_id
  refine ap_call (by decide) (Nat.le_of_ble_eq_true rfl) rfl ?_
  refine ap_go kc_29_0 ?_
  refine ap_aload_n rfl ?_; refine ai_iconst ?_; refine ai_putI ow_29 rf_8_82 rfl rfl rfl ?_
  rw [hf]
  refine ap_aload_n rfl ?_; refine ap_iload_n rfl ?_; refine ap_callv0 ow_29 rm_8_95 na_26 mc_26 ms_26 rfl rfl (Nat.le_of_ble_eq_true rfl) (Nat.le_of_ble_eq_true rfl) (Or.inr rfl) (Nat.zero_le _) (Nat.zero_le _) ?_; refine sp_26 ?_ ?_ ?_; dsimp only [Option.toList_some, Option.toList_none, List.cons_append, List.nil_append]
  refine ai_ifne rfl rfl (fun hb0 => ?_) (fun hb0 => ?_) ?_
  · refine ap_go kc_29_21 ?_
    refine ai_iconst ?_; refine ap_iret rfl ?_
    (try simp only [bz, Decidable.not_not] at *); first | (exfalso; omega) | first | exact K1  (by omega) | exact K2  (by omega) | exact K3  (by omega) | exact K4  (by omega) | exact K5  (by omega)
  · refine ap_go kc_29_13 ?_
    refine ap_aload_n rfl ?_; refine ap_iload_n rfl ?_; refine ap_callv0 ow_29 rm_8_95 na_26 mc_26 ms_26 rfl rfl (Nat.le_of_ble_eq_true rfl) (Nat.le_of_ble_eq_true rfl) (Or.inr rfl) (Nat.zero_le _) (Nat.zero_le _) ?_; refine sp_26 ?_ ?_ ?_; dsimp only [Option.toList_some, Option.toList_none, List.cons_append, List.nil_append]
    refine ai_ifeq rfl rfl (fun hb1 => ?_) (fun hb1 => ?_) ?_
    · refine ap_go kc_29_23 ?_
      refine ap_iload_n rfl ?_; refine ap_iload_n rfl ?_
      refine ai_iceq rfl rfl (fun hb2 => ?_) (fun hb2 => ?_) ?_
      · refine ap_go kc_29_69 ?_
        refine ai_bipush (by decide) ?_; refine ap_iret rfl ?_
        (try simp only [bz, Decidable.not_not] at *); first | (exfalso; omega) | first | exact K1  (by omega) | exact K2  (by omega) | exact K3  (by omega) | exact K4  (by omega) | exact K5  (by omega)
      · refine ap_go kc_29_28 ?_
        refine ap_lload_n rfl ?_; refine ai_lconst 1 rfl ?_
        refine ai_lclt rfl rfl (fun hb3 => ?_) (fun hb3 => ?_) ?_
        · refine ap_go kc_29_69 ?_
          refine ai_bipush (by decide) ?_; refine ap_iret rfl ?_
          (try simp only [bz, Decidable.not_not] at *); first | (exfalso; omega) | first | exact K1  (by omega) | exact K2  (by omega) | exact K3  (by omega) | exact K4  (by omega) | exact K5  (by omega)
        · refine ap_go kc_29_34 ?_
          refine ap_lload_n rfl ?_; refine ai_ldc2 (100000) ow_29 kl_8_99 rfl ?_
          refine ai_lcgt rfl rfl (fun hb4 => ?_) (fun hb4 => ?_) ?_
          · refine ap_go kc_29_69 ?_
            refine ai_bipush (by decide) ?_; refine ap_iret rfl ?_
            (try simp only [bz, Decidable.not_not] at *); first | (exfalso; omega) | first | exact K1  (by omega) | exact K2  (by omega) | exact K3  (by omega) | exact K4  (by omega) | exact K5  (by omega)
          · refine ap_go kc_29_42 ?_
            refine ap_lload rfl ?_; refine ai_lconst 0 rfl ?_
            refine ai_lclt rfl rfl (fun hb5 => ?_) (fun hb5 => ?_) ?_
            · refine ap_go kc_29_69 ?_
              refine ai_bipush (by decide) ?_; refine ap_iret rfl ?_
              (try simp only [bz, Decidable.not_not] at *); first | (exfalso; omega) | first | exact K1  (by omega) | exact K2  (by omega) | exact K3  (by omega) | exact K4  (by omega) | exact K5  (by omega)
            · refine ap_go kc_29_49 ?_
              refine ap_lload rfl ?_; refine ai_ldc2 (1000) ow_29 kl_8_101 rfl ?_
              refine ai_lcgt rfl rfl (fun hb6 => ?_) (fun hb6 => ?_) ?_
              · refine ap_go kc_29_69 ?_
                refine ai_bipush (by decide) ?_; refine ap_iret rfl ?_
                (try simp only [bz, Decidable.not_not] at *); first | (exfalso; omega) | first | exact K1  (by omega) | exact K2  (by omega) | exact K3  (by omega) | exact K4  (by omega) | exact K5  (by omega)
              · refine ap_go kc_29_58 ?_
                refine ap_iload rfl ?_
                refine ai_iflt rfl rfl (fun hb7 => ?_) (fun hb7 => ?_) ?_
                · refine ap_go kc_29_69 ?_
                  refine ai_bipush (by decide) ?_; refine ap_iret rfl ?_
                  (try simp only [bz, Decidable.not_not] at *); first | (exfalso; omega) | first | exact K1  (by omega) | exact K2  (by omega) | exact K3  (by omega) | exact K4  (by omega) | exact K5  (by omega)
                · refine ap_go kc_29_63 ?_
                  refine ap_iload rfl ?_; refine ai_iconst ?_
                  refine ai_icle rfl rfl (fun hb8 => ?_) (fun hb8 => ?_) ?_
                  · refine ap_go kc_29_72 ?_
                    refine ap_aload_n rfl ?_; refine ai_getI ow_29 rf_8_88 rfl rfl ?_; refine ai_bipush (by decide) ?_
                    refine ai_icne rfl rfl (fun hb9 => ?_) (fun hb9 => ?_) ?_
                    · refine ap_go kc_29_84 ?_
                      refine ap_aload_n rfl ?_; refine ap_lload rfl ?_; refine ai_lconst 0 rfl ?_
                      refine ai_lcne rfl rfl (fun hb10 => ?_) (fun hb10 => ?_) ?_
                      · refine ap_go kc_29_96 ?_
                        refine ai_iconst ?_; refine ap_nil ?_
                        refine ap_go kc_29_97 ?_
                        refine ai_putI ow_29 rf_8_82 rfl rfl rfl ?_; refine ap_aload_n rfl ?_; refine ai_getI ow_29 rf_8_82 rfl rfl ?_
                        first | rw [hz, hz0] | rw [show am_up f1 31 0 1 31 0 = 1 by simp [am_up]]
                        refine ai_ifle rfl rfl (fun hb11 => ?_) (fun hb11 => ?_) ?_
                        · refine ap_go kc_29_109 ?_
                          refine ap_aload_n rfl ?_; refine ap_dup rfl ?_; refine ai_getI ow_29 rf_8_88 rfl rfl ?_; refine ai_iconst ?_; refine ai_iadd ?_; refine ai_putI ow_29 rf_8_88 rfl rfl rfl ?_; refine ap_aload_n rfl ?_; refine ap_getR ow_29 rf_8_19 rfl rfl rfl ?_; refine ap_aload_n rfl ?_; refine ai_getI ow_29 rf_8_88 rfl rfl ?_; refine ap_iload_n rfl ?_; refine ai_iastore (n := 121) rfl rfl (by decide) ?_ ?_; refine ap_aload_n rfl ?_; refine ap_getR ow_29 rf_8_23 rfl rfl rfl ?_; refine ap_aload_n rfl ?_; refine ai_getI ow_29 rf_8_88 rfl rfl ?_; refine ap_iload_n rfl ?_; refine ai_iastore (n := 121) rfl rfl (by decide) ?_ ?_; refine ap_aload_n rfl ?_; refine ap_getR ow_29 rf_8_26 rfl rfl rfl ?_; refine ap_aload_n rfl ?_; refine ai_getI ow_29 rf_8_88 rfl rfl ?_; refine ap_lload_n rfl ?_; refine ai_lastore (n := 121) rfl rfl (by decide) ?_ ?_; refine ap_aload_n rfl ?_; refine ap_getR ow_29 rf_8_29 rfl rfl rfl ?_; refine ap_aload_n rfl ?_; refine ai_getI ow_29 rf_8_88 rfl rfl ?_; refine ap_lload rfl ?_; refine ai_lastore (n := 121) rfl rfl (by decide) ?_ ?_; refine ap_aload_n rfl ?_; refine ap_getR ow_29 rf_8_32 rfl rfl rfl ?_; refine ap_aload_n rfl ?_; refine ai_getI ow_29 rf_8_88 rfl rfl ?_; refine ai_lconst 1 rfl ?_; refine ap_lload_n rfl ?_; refine ap_lload_n rfl ?_; refine ap_iload rfl ?_; refine ai_i2l ?_ ?_; refine ai_lmul ?_; refine ai_ladd ?_; refine ai_ldc2 (20000) ow_29 kl_8_103 rfl ?_; refine ai_ldiv ?_ ?_; refine ai_ladd ?_; refine ai_l2i ?_; refine ai_iastore (n := 121) rfl rfl (by decide) ?_ ?_; refine ap_aload_n rfl ?_; refine ap_getR ow_29 rf_8_38 rfl rfl rfl ?_; refine ap_aload_n rfl ?_; refine ai_getI ow_29 rf_8_88 rfl rfl ?_; refine ai_ldc2 (-1) ow_29 kl_8_64 rfl ?_; refine ai_lastore (n := 121) rfl rfl (by decide) ?_ ?_; refine ap_aload_n rfl ?_; refine ai_getI ow_29 rf_8_88 rfl rfl ?_; refine ap_iret rfl ?_
                          · (try simp only [bz, Decidable.not_not] at *); first | (exfalso; omega) | first | exact K1  (by omega) | exact K2  (by omega) | exact K3  (by omega) | exact K4  (by omega) | exact K5  (by omega)
                          all_goals (first | omega | (simp [am_up] <;> omega) | (split <;> omega) | (simp only [bz, Decidable.not_not] at *; omega) | (simp only [bz, Decidable.not_not] at *; simp [am_up] <;> omega))
                        · refine ap_go kc_29_107 ?_
                          refine ai_iconst ?_; refine ap_iret rfl ?_
                          (try simp only [bz, Decidable.not_not] at *); first | (exfalso; omega) | first | exact K1  (by omega) | exact K2  (by omega) | exact K3  (by omega) | exact K4  (by omega) | exact K5  (by omega)
                        all_goals (first | omega | (simp [am_up] <;> omega) | (split <;> omega) | (simp only [bz, Decidable.not_not] at *; omega) | (simp only [bz, Decidable.not_not] at *; simp [am_up] <;> omega))
                      · refine ap_go kc_29_92 ?_
                        refine ai_iconst ?_; refine ap_goto rfl ?_
                        refine ap_go kc_29_97 ?_
                        refine ai_putI ow_29 rf_8_82 rfl rfl rfl ?_; refine ap_aload_n rfl ?_; refine ai_getI ow_29 rf_8_82 rfl rfl ?_
                        first | rw [hz, hz0] | rw [show am_up f1 31 0 1 31 0 = 1 by simp [am_up]]
                        refine ai_ifle rfl rfl (fun hb12 => ?_) (fun hb12 => ?_) ?_
                        · refine ap_go kc_29_109 ?_
                          refine ap_aload_n rfl ?_; refine ap_dup rfl ?_; refine ai_getI ow_29 rf_8_88 rfl rfl ?_; refine ai_iconst ?_; refine ai_iadd ?_; refine ai_putI ow_29 rf_8_88 rfl rfl rfl ?_; refine ap_aload_n rfl ?_; refine ap_getR ow_29 rf_8_19 rfl rfl rfl ?_; refine ap_aload_n rfl ?_; refine ai_getI ow_29 rf_8_88 rfl rfl ?_; refine ap_iload_n rfl ?_; refine ai_iastore (n := 121) rfl rfl (by decide) ?_ ?_; refine ap_aload_n rfl ?_; refine ap_getR ow_29 rf_8_23 rfl rfl rfl ?_; refine ap_aload_n rfl ?_; refine ai_getI ow_29 rf_8_88 rfl rfl ?_; refine ap_iload_n rfl ?_; refine ai_iastore (n := 121) rfl rfl (by decide) ?_ ?_; refine ap_aload_n rfl ?_; refine ap_getR ow_29 rf_8_26 rfl rfl rfl ?_; refine ap_aload_n rfl ?_; refine ai_getI ow_29 rf_8_88 rfl rfl ?_; refine ap_lload_n rfl ?_; refine ai_lastore (n := 121) rfl rfl (by decide) ?_ ?_; refine ap_aload_n rfl ?_; refine ap_getR ow_29 rf_8_29 rfl rfl rfl ?_; refine ap_aload_n rfl ?_; refine ai_getI ow_29 rf_8_88 rfl rfl ?_; refine ap_lload rfl ?_; refine ai_lastore (n := 121) rfl rfl (by decide) ?_ ?_; refine ap_aload_n rfl ?_; refine ap_getR ow_29 rf_8_32 rfl rfl rfl ?_; refine ap_aload_n rfl ?_; refine ai_getI ow_29 rf_8_88 rfl rfl ?_; refine ai_lconst 1 rfl ?_; refine ap_lload_n rfl ?_; refine ap_lload_n rfl ?_; refine ap_iload rfl ?_; refine ai_i2l ?_ ?_; refine ai_lmul ?_; refine ai_ladd ?_; refine ai_ldc2 (20000) ow_29 kl_8_103 rfl ?_; refine ai_ldiv ?_ ?_; refine ai_ladd ?_; refine ai_l2i ?_; refine ai_iastore (n := 121) rfl rfl (by decide) ?_ ?_; refine ap_aload_n rfl ?_; refine ap_getR ow_29 rf_8_38 rfl rfl rfl ?_; refine ap_aload_n rfl ?_; refine ai_getI ow_29 rf_8_88 rfl rfl ?_; refine ai_ldc2 (-1) ow_29 kl_8_64 rfl ?_; refine ai_lastore (n := 121) rfl rfl (by decide) ?_ ?_; refine ap_aload_n rfl ?_; refine ai_getI ow_29 rf_8_88 rfl rfl ?_; refine ap_iret rfl ?_
                          · (try simp only [bz, Decidable.not_not] at *); first | (exfalso; omega) | first | exact K1  (by omega) | exact K2  (by omega) | exact K3  (by omega) | exact K4  (by omega) | exact K5  (by omega)
                          all_goals (first | omega | (simp [am_up] <;> omega) | (split <;> omega) | (simp only [bz, Decidable.not_not] at *; omega) | (simp only [bz, Decidable.not_not] at *; simp [am_up] <;> omega))
                        · refine ap_go kc_29_107 ?_
                          refine ai_iconst ?_; refine ap_iret rfl ?_
                          (try simp only [bz, Decidable.not_not] at *); first | (exfalso; omega) | first | exact K1  (by omega) | exact K2  (by omega) | exact K3  (by omega) | exact K4  (by omega) | exact K5  (by omega)
                        all_goals (first | omega | (simp [am_up] <;> omega) | (split <;> omega) | (simp only [bz, Decidable.not_not] at *; omega) | (simp only [bz, Decidable.not_not] at *; simp [am_up] <;> omega))
                      all_goals (first | omega | (simp [am_up] <;> omega) | (split <;> omega) | (simp only [bz, Decidable.not_not] at *; omega) | (simp only [bz, Decidable.not_not] at *; simp [am_up] <;> omega))
                    · refine ap_go kc_29_81 ?_
                      refine ai_bipush (by decide) ?_; refine ap_iret rfl ?_
                      (try simp only [bz, Decidable.not_not] at *); first | (exfalso; omega) | first | exact K1  (by omega) | exact K2  (by omega) | exact K3  (by omega) | exact K4  (by omega) | exact K5  (by omega)
                    all_goals (first | omega | (simp [am_up] <;> omega) | (split <;> omega) | (simp only [bz, Decidable.not_not] at *; omega) | (simp only [bz, Decidable.not_not] at *; simp [am_up] <;> omega))
                  · refine ap_go kc_29_69 ?_
                    refine ai_bipush (by decide) ?_; refine ap_iret rfl ?_
                    (try simp only [bz, Decidable.not_not] at *); first | (exfalso; omega) | first | exact K1  (by omega) | exact K2  (by omega) | exact K3  (by omega) | exact K4  (by omega) | exact K5  (by omega)
                  all_goals (first | omega | (simp [am_up] <;> omega) | (split <;> omega) | (simp only [bz, Decidable.not_not] at *; omega) | (simp only [bz, Decidable.not_not] at *; simp [am_up] <;> omega))
                all_goals (first | omega | (simp [am_up] <;> omega) | (split <;> omega) | (simp only [bz, Decidable.not_not] at *; omega) | (simp only [bz, Decidable.not_not] at *; simp [am_up] <;> omega))
              all_goals (first | omega | (simp [am_up] <;> omega) | (split <;> omega) | (simp only [bz, Decidable.not_not] at *; omega) | (simp only [bz, Decidable.not_not] at *; simp [am_up] <;> omega))
            all_goals (first | omega | (simp [am_up] <;> omega) | (split <;> omega) | (simp only [bz, Decidable.not_not] at *; omega) | (simp only [bz, Decidable.not_not] at *; simp [am_up] <;> omega))
          all_goals (first | omega | (simp [am_up] <;> omega) | (split <;> omega) | (simp only [bz, Decidable.not_not] at *; omega) | (simp only [bz, Decidable.not_not] at *; simp [am_up] <;> omega))
        all_goals (first | omega | (simp [am_up] <;> omega) | (split <;> omega) | (simp only [bz, Decidable.not_not] at *; omega) | (simp only [bz, Decidable.not_not] at *; simp [am_up] <;> omega))
      all_goals (first | omega | (simp [am_up] <;> omega) | (split <;> omega) | (simp only [bz, Decidable.not_not] at *; omega) | (simp only [bz, Decidable.not_not] at *; simp [am_up] <;> omega))
    · refine ap_go kc_29_21 ?_
      refine ai_iconst ?_; refine ap_iret rfl ?_
      (try simp only [bz, Decidable.not_not] at *); first | (exfalso; omega) | first | exact K1  (by omega) | exact K2  (by omega) | exact K3  (by omega) | exact K4  (by omega) | exact K5  (by omega)
    all_goals (first | omega | (simp [am_up] <;> omega) | (split <;> omega) | (simp only [bz, Decidable.not_not] at *; omega) | (simp only [bz, Decidable.not_not] at *; simp [am_up] <;> omega))
  all_goals (first | omega | (simp [am_up] <;> omega) | (split <;> omega) | (simp only [bz, Decidable.not_not] at *; omega) | (simp only [bz, Decidable.not_not] at *; simp [am_up] <;> omega))
