/-! LEAVES of the class -/
theorem sq {Q : Option Value → am_H → Prop} {h : am_H} {a b : Int} (K : Q (some (.int (iZ b))) h) (e : a = b) : Q (some (.int (iZ a))) h := e ▸ K
theorem sql {Q : Option Value → am_H → Prop} {h : am_H} {a b : Int} (K : Q (some (.long (lZ b))) h) (e : a = b) : Q (some (.long (lZ a))) h := e ▸ K

theorem sp_81 {d L : Nat} {sw : Bool} {f g : Nat → Nat → Int} {Q : Option Value → am_H → Prop}  (K : Q (some (.int (iZ (f 1 3)))) (53, sh_lt L, iH f, jH g, sh_rt sw))  : am_call (d + 1) 81 [.ref 1] (53, sh_lt L, iH f, jH g, sh_rt sw) Q := by
  refine ap_call (by decide) (Nat.le_of_ble_eq_true rfl) rfl ?_
  refine ap_go kc_81_0 ?_
  refine ap_aload_n rfl ?_; refine ai_getI ow_81 rf_3_21 rfl rfl ?_; refine ap_iret rfl ?_
  exact K

theorem sp_82 {d L : Nat} {sw : Bool} {f g : Nat → Nat → Int} {Q : Option Value → am_H → Prop} {n : Int} (K : Q (some (.int (iZ (if 1 ≤ n ∧ n ≤ f 1 3 then 1 else 0)))) (53, sh_lt L, iH f, jH g, sh_rt sw)) (hn : iR n) (hc : iR (f 1 3)) : am_call (d + 1) 82 [.ref 1, .int (iZ n)] (53, sh_lt L, iH f, jH g, sh_rt sw) Q := by
  refine ap_call (by decide) (Nat.le_of_ble_eq_true rfl) rfl ?_
  refine ap_go kc_82_0 ?_
  refine ap_iload_n rfl ?_; refine ai_iconst ?_
  refine ai_iclt rfl rfl (fun hc0 => ?_) (fun hc0 => ?_) ?_
  · refine ap_go kc_82_17 ?_
    refine ai_iconst ?_; refine ap_nil ?_
    refine ap_go kc_82_18 ?_
    refine ai_zret rfl ?_ ?_
    · exact sq K (by first | rfl | omega | (split <;> omega) | (split <;> split <;> omega))
    all_goals (omega)
  · refine ap_go kc_82_5 ?_
    refine ap_iload_n rfl ?_; refine ap_aload_n rfl ?_; refine ai_getI ow_82 rf_3_21 rfl rfl ?_
    refine ai_icgt rfl rfl (fun hc1 => ?_) (fun hc1 => ?_) ?_
    · refine ap_go kc_82_17 ?_
      refine ai_iconst ?_; refine ap_nil ?_
      refine ap_go kc_82_18 ?_
      refine ai_zret rfl ?_ ?_
      · exact sq K (by first | rfl | omega | (split <;> omega) | (split <;> split <;> omega))
      all_goals (omega)
    · refine ap_go kc_82_13 ?_
      refine ai_iconst ?_; refine ap_goto rfl ?_
      refine ap_go kc_82_18 ?_
      refine ai_zret rfl ?_ ?_
      · exact sq K (by first | rfl | omega | (split <;> omega) | (split <;> split <;> omega))
      all_goals (omega)
    all_goals (omega)
  all_goals (omega)

theorem sp_83 {d L : Nat} {sw : Bool} {f g : Nat → Nat → Int} {Q : Option Value → am_H → Prop}  (K : Q (some (.int (iZ (if 60 ≤ f 1 3 then 1 else 0)))) (53, sh_lt L, iH f, jH g, sh_rt sw)) (hc : iR (f 1 3)) : am_call (d + 1) 83 [.ref 1] (53, sh_lt L, iH f, jH g, sh_rt sw) Q := by
  refine ap_call (by decide) (Nat.le_of_ble_eq_true rfl) rfl ?_
  refine ap_go kc_83_0 ?_
  refine ap_aload_n rfl ?_; refine ai_getI ow_83 rf_3_21 rfl rfl ?_; refine ai_bipush (by decide) ?_
  refine ai_iclt rfl rfl (fun hc0 => ?_) (fun hc0 => ?_) ?_
  · refine ap_go kc_83_13 ?_
    refine ai_iconst ?_; refine ap_nil ?_
    refine ap_go kc_83_14 ?_
    refine ai_zret rfl ?_ ?_
    · exact sq K (by first | rfl | omega | (split <;> omega) | (split <;> split <;> omega))
    all_goals (omega)
  · refine ap_go kc_83_9 ?_
    refine ai_iconst ?_; refine ap_goto rfl ?_
    refine ap_go kc_83_14 ?_
    refine ai_zret rfl ?_ ?_
    · exact sq K (by first | rfl | omega | (split <;> omega) | (split <;> split <;> omega))
    all_goals (omega)
  all_goals (omega)

theorem sp_84 {d L : Nat} {sw : Bool} {f g : Nat → Nat → Int} {Q : Option Value → am_H → Prop} {x y : Int} (K : Q (some (.int (iZ (f 1 3 + 1)))) (53, sh_lt L, iH (am_up f 1 3 (f 1 3 + 1)), jH (am_up (am_up g 2 (f 1 3 + 1).toNat x) 3 (f 1 3 + 1).toNat y), sh_rt sw)) (hc : 0 ≤ f 1 3 ∧ f 1 3 < 60) : am_call (d + 1) 84 [.ref 1, .long (lZ x), .long (lZ y)] (53, sh_lt L, iH f, jH g, sh_rt sw) Q := by
  refine ap_call (by decide) (Nat.le_of_ble_eq_true rfl) rfl ?_
  refine ap_go kc_84_0 ?_
  refine ap_aload_n rfl ?_; refine ap_dup rfl ?_; refine ai_getI ow_84 rf_3_21 rfl rfl ?_; refine ai_iconst ?_; refine ai_iadd ?_; refine ai_putI ow_84 rf_3_21 rfl rfl rfl ?_; refine ap_aload_n rfl ?_; refine ap_getR ow_84 rf_3_9 rfl rfl rfl ?_; refine ap_aload_n rfl ?_; refine ai_getI ow_84 rf_3_21 rfl rfl ?_; refine ap_lload_n rfl ?_; refine ai_lastore (n := 61) rfl rfl (by decide) ?_ ?_; refine ap_aload_n rfl ?_; refine ap_getR ow_84 rf_3_15 rfl rfl rfl ?_; refine ap_aload_n rfl ?_; refine ai_getI ow_84 rf_3_21 rfl rfl ?_; refine ap_lload_n rfl ?_; refine ai_lastore (n := 61) rfl rfl (by decide) ?_ ?_; refine ap_aload_n rfl ?_; refine ai_getI ow_84 rf_3_21 rfl rfl ?_; refine ap_iret rfl ?_
  · exact K
  all_goals (simp [am_up]; omega)

theorem sp_85 {d L : Nat} {sw : Bool} {f g : Nat → Nat → Int} {Q : Option Value → am_H → Prop} {n : Int} (K : Q (some (.long (lZ (g 2 n.toNat)))) (53, sh_lt L, iH f, jH g, sh_rt sw)) (hn : 0 ≤ n ∧ n < 61) : am_call (d + 1) 85 [.ref 1, .int (iZ n)] (53, sh_lt L, iH f, jH g, sh_rt sw) Q := by
  refine ap_call (by decide) (Nat.le_of_ble_eq_true rfl) rfl ?_
  refine ap_go kc_85_0 ?_
  refine ap_aload_n rfl ?_; refine ap_getR ow_85 rf_3_9 rfl rfl rfl ?_; refine ap_iload_n rfl ?_; refine ai_laload (n := 61) rfl rfl (by decide) ?_ ?_; refine ap_lret rfl ?_
  · exact K
  all_goals (omega)

theorem sp_86 {d L : Nat} {sw : Bool} {f g : Nat → Nat → Int} {Q : Option Value → am_H → Prop} {n : Int} (K : Q (some (.long (lZ (g 3 n.toNat)))) (53, sh_lt L, iH f, jH g, sh_rt sw)) (hn : 0 ≤ n ∧ n < 61) : am_call (d + 1) 86 [.ref 1, .int (iZ n)] (53, sh_lt L, iH f, jH g, sh_rt sw) Q := by
  refine ap_call (by decide) (Nat.le_of_ble_eq_true rfl) rfl ?_
  refine ap_go kc_86_0 ?_
  refine ap_aload_n rfl ?_; refine ap_getR ow_86 rf_3_15 rfl rfl rfl ?_; refine ap_iload_n rfl ?_; refine ai_laload (n := 61) rfl rfl (by decide) ?_ ?_; refine ap_lret rfl ?_
  · exact K
  all_goals (omega)

theorem sp_87 {d L : Nat} {sw : Bool} {f g : Nat → Nat → Int} {Q : Option Value → am_H → Prop} {a b : Int} (K : Q (some (.long (lZ ((g 2 a.toNat - g 2 b.toNat) * (g 2 a.toNat - g 2 b.toNat) + (g 3 a.toNat - g 3 b.toNat) * (g 3 a.toNat - g 3 b.toNat))))) (53, sh_lt L, iH f, jH g, sh_rt sw)) (ha : 0 ≤ a ∧ a < 61) (hb : 0 ≤ b ∧ b < 61) : am_call (d + 1) 87 [.ref 1, .int (iZ a), .int (iZ b)] (53, sh_lt L, iH f, jH g, sh_rt sw) Q := by
  refine ap_call (by decide) (Nat.le_of_ble_eq_true rfl) rfl ?_
  refine ap_go kc_87_0 ?_
  refine ap_aload_n rfl ?_; refine ap_getR ow_87 rf_3_9 rfl rfl rfl ?_; refine ap_iload_n rfl ?_; refine ai_laload (n := 61) rfl rfl (by decide) ?_ ?_; refine ap_aload_n rfl ?_; refine ap_getR ow_87 rf_3_9 rfl rfl rfl ?_; refine ap_iload_n rfl ?_; refine ai_laload (n := 61) rfl rfl (by decide) ?_ ?_; refine ai_lsub ?_; refine ap_lstore_n rfl ?_; refine ap_aload_n rfl ?_; refine ap_getR ow_87 rf_3_15 rfl rfl rfl ?_; refine ap_iload_n rfl ?_; refine ai_laload (n := 61) rfl rfl (by decide) ?_ ?_; refine ap_aload_n rfl ?_; refine ap_getR ow_87 rf_3_15 rfl rfl rfl ?_; refine ap_iload_n rfl ?_; refine ai_laload (n := 61) rfl rfl (by decide) ?_ ?_; refine ai_lsub ?_; refine ap_lstore rfl ?_; refine ap_lload_n rfl ?_; refine ap_lload_n rfl ?_; refine ai_lmul ?_; refine ap_lload rfl ?_; refine ap_lload rfl ?_; refine ai_lmul ?_; refine ai_ladd ?_; refine ap_lret rfl ?_
  · exact K
  all_goals (omega)

theorem sp_88 {d L : Nat} {sw : Bool} {f g : Nat → Nat → Int} {Q : Option Value → am_H → Prop} {n p : Int} (K : Q none (53, sh_lt L, iH f, jH (am_up g 4 n.toNat p), sh_rt sw)) (hn : 0 ≤ n ∧ n < 61) : am_call (d + 1) 88 [.ref 1, .int (iZ n), .long (lZ p)] (53, sh_lt L, iH f, jH g, sh_rt sw) Q := by
  refine ap_call (by decide) (Nat.le_of_ble_eq_true rfl) rfl ?_
  refine ap_go kc_88_0 ?_
  refine ap_aload_n rfl ?_; refine ap_getR ow_88 rf_3_18 rfl rfl rfl ?_; refine ap_iload_n rfl ?_; refine ap_lload_n rfl ?_; refine ai_lastore (n := 61) rfl rfl (by decide) ?_ ?_; refine ap_vret rfl ?_
  · exact K
  all_goals (omega)

theorem sp_89 {d L : Nat} {sw : Bool} {f g : Nat → Nat → Int} {Q : Option Value → am_H → Prop} {n : Int} (K : Q (some (.int (iZ (if 0 < g 4 n.toNat then 1 else 0)))) (53, sh_lt L, iH f, jH g, sh_rt sw)) (hn : 0 ≤ n ∧ n < 61) (hr : lR (g 4 n.toNat)) : am_call (d + 1) 89 [.ref 1, .int (iZ n)] (53, sh_lt L, iH f, jH g, sh_rt sw) Q := by
  refine ap_call (by decide) (Nat.le_of_ble_eq_true rfl) rfl ?_
  refine ap_go kc_89_0 ?_
  refine ap_aload_n rfl ?_; refine ap_getR ow_89 rf_3_18 rfl rfl rfl ?_; refine ap_iload_n rfl ?_; refine ai_laload (n := 61) rfl rfl (by decide) ?_ ?_; refine ai_lconst 0 rfl ?_
  refine ai_lcle rfl rfl (fun hc0 => ?_) (fun hc0 => ?_) ?_
  · refine ap_go kc_89_15 ?_
    refine ai_iconst ?_; refine ap_nil ?_
    refine ap_go kc_89_16 ?_
    refine ai_zret rfl ?_ ?_
    · exact sq K (by first | rfl | omega | (split <;> omega) | (split <;> split <;> omega))
    all_goals (omega)
  · refine ap_go kc_89_11 ?_
    refine ai_iconst ?_; refine ap_goto rfl ?_
    refine ap_go kc_89_16 ?_
    refine ai_zret rfl ?_ ?_
    · exact sq K (by first | rfl | omega | (split <;> omega) | (split <;> split <;> omega))
    all_goals (omega)
  all_goals (omega)

theorem sp_90 {d L : Nat} {sw : Bool} {f g : Nat → Nat → Int} {Q : Option Value → am_H → Prop} {n : Int} (K : Q (some (.long (lZ (if 0 < g 4 n.toNat then (if 1000 / g 4 n.toNat < 1 then 1 else 1000 / g 4 n.toNat) else 0)))) (53, sh_lt L, iH f, jH g, sh_rt sw)) (hn : 0 ≤ n ∧ n < 61) (hr : lR (g 4 n.toNat)) : am_call (d + 1) 90 [.ref 1, .int (iZ n)] (53, sh_lt L, iH f, jH g, sh_rt sw) Q := by
  refine ap_call (by decide) (Nat.le_of_ble_eq_true rfl) rfl ?_
  refine ap_go kc_90_0 ?_
  refine ap_aload_n rfl ?_; refine ap_getR ow_90 rf_3_18 rfl rfl rfl ?_; refine ap_iload_n rfl ?_; refine ai_laload (n := 61) rfl rfl (by decide) ?_ ?_; refine ap_lstore_n rfl ?_; refine ap_lload_n rfl ?_; refine ai_lconst 0 rfl ?_
  refine ai_lcle rfl rfl (fun hc0 => ?_) (fun hc0 => ?_) ?_
  · refine ap_go kc_90_25 ?_
    refine ai_lconst 0 rfl ?_; refine ap_nil ?_
    refine ap_go kc_90_26 ?_
    refine ap_lret rfl ?_
    first | (rw [if_pos (by omega)] at K; exact K) | (rw [if_neg (by omega)] at K; exact K)
  · refine ap_go kc_90_13 ?_
    refine ai_lconst 1 rfl ?_; refine ai_ldc2 (1000) ow_90 kl_3_25 rfl ?_; refine ap_lload_n rfl ?_; refine ai_ldiv ?_ ?_; refine ai_mmaxl ow_90 rm_3_27 (Nat.le_of_ble_eq_true rfl) ?_ ?_; refine ap_goto rfl ?_
    · refine ap_go kc_90_26 ?_
      refine ap_lret rfl ?_
      first | (rw [if_pos (by omega)] at K; exact K) | (rw [if_neg (by omega)] at K; exact K)
    all_goals (first | omega | (have q1 := Int.ediv_nonneg (a := 1000) (b := g 4 n.toNat) (by omega) (by omega); have q2 := Int.ediv_le_self (a := 1000) (g 4 n.toNat) (by omega); omega))
  all_goals (first | omega | (have q1 := Int.ediv_nonneg (a := 1000) (b := g 4 n.toNat) (by omega) (by omega); have q2 := Int.ediv_le_self (a := 1000) (g 4 n.toNat) (by omega); omega))

theorem sp_93 {d L : Nat} {sw : Bool} {f g : Nat → Nat → Int} {Q : Option Value → am_H → Prop}  (K : Q (some (.int (iZ (f 5 8)))) (53, sh_lt L, iH f, jH g, sh_rt sw))  : am_call (d + 1) 93 [.ref 5] (53, sh_lt L, iH f, jH g, sh_rt sw) Q := by
  refine ap_call (by decide) (Nat.le_of_ble_eq_true rfl) rfl ?_
  refine ap_go kc_93_0 ?_
  refine ap_aload_n rfl ?_; refine ai_getI ow_93 rf_4_37 rfl rfl ?_; refine ap_iret rfl ?_
  exact K

theorem sp_94 {d L : Nat} {sw : Bool} {f g : Nat → Nat → Int} {Q : Option Value → am_H → Prop} {n : Int} (K : Q (some (.int (iZ (if 1 ≤ n ∧ n ≤ f 5 8 then 1 else 0)))) (53, sh_lt L, iH f, jH g, sh_rt sw)) (hn : iR n) (hc : iR (f 5 8)) : am_call (d + 1) 94 [.ref 5, .int (iZ n)] (53, sh_lt L, iH f, jH g, sh_rt sw) Q := by
  refine ap_call (by decide) (Nat.le_of_ble_eq_true rfl) rfl ?_
  refine ap_go kc_94_0 ?_
  refine ap_iload_n rfl ?_; refine ai_iconst ?_
  refine ai_iclt rfl rfl (fun hc0 => ?_) (fun hc0 => ?_) ?_
  · refine ap_go kc_94_17 ?_
    refine ai_iconst ?_; refine ap_nil ?_
    refine ap_go kc_94_18 ?_
    refine ai_zret rfl ?_ ?_
    · exact sq K (by first | rfl | omega | (split <;> omega) | (split <;> split <;> omega))
    all_goals (omega)
  · refine ap_go kc_94_5 ?_
    refine ap_iload_n rfl ?_; refine ap_aload_n rfl ?_; refine ai_getI ow_94 rf_4_37 rfl rfl ?_
    refine ai_icgt rfl rfl (fun hc1 => ?_) (fun hc1 => ?_) ?_
    · refine ap_go kc_94_17 ?_
      refine ai_iconst ?_; refine ap_nil ?_
      refine ap_go kc_94_18 ?_
      refine ai_zret rfl ?_ ?_
      · exact sq K (by first | rfl | omega | (split <;> omega) | (split <;> split <;> omega))
      all_goals (omega)
    · refine ap_go kc_94_13 ?_
      refine ai_iconst ?_; refine ap_goto rfl ?_
      refine ap_go kc_94_18 ?_
      refine ai_zret rfl ?_ ?_
      · exact sq K (by first | rfl | omega | (split <;> omega) | (split <;> split <;> omega))
      all_goals (omega)
    all_goals (omega)
  all_goals (omega)

theorem sp_95 {d L : Nat} {sw : Bool} {f g : Nat → Nat → Int} {Q : Option Value → am_H → Prop}  (K : Q (some (.int (iZ (if 120 ≤ f 5 8 then 1 else 0)))) (53, sh_lt L, iH f, jH g, sh_rt sw)) (hc : iR (f 5 8)) : am_call (d + 1) 95 [.ref 5] (53, sh_lt L, iH f, jH g, sh_rt sw) Q := by
  refine ap_call (by decide) (Nat.le_of_ble_eq_true rfl) rfl ?_
  refine ap_go kc_95_0 ?_
  refine ap_aload_n rfl ?_; refine ai_getI ow_95 rf_4_37 rfl rfl ?_; refine ai_bipush (by decide) ?_
  refine ai_iclt rfl rfl (fun hc0 => ?_) (fun hc0 => ?_) ?_
  · refine ap_go kc_95_13 ?_
    refine ai_iconst ?_; refine ap_nil ?_
    refine ap_go kc_95_14 ?_
    refine ai_zret rfl ?_ ?_
    · exact sq K (by first | rfl | omega | (split <;> omega) | (split <;> split <;> omega))
    all_goals (omega)
  · refine ap_go kc_95_9 ?_
    refine ai_iconst ?_; refine ap_goto rfl ?_
    refine ap_go kc_95_14 ?_
    refine ai_zret rfl ?_ ?_
    · exact sq K (by first | rfl | omega | (split <;> omega) | (split <;> split <;> omega))
    all_goals (omega)
  all_goals (omega)

theorem sp_96 {d L : Nat} {sw : Bool} {f g : Nat → Nat → Int} {Q : Option Value → am_H → Prop} {a b m v c : Int} (K : Q (some (.int (iZ (f 5 8 + 1)))) (53, sh_lt L, iH (am_up (am_up (am_up (am_up f 5 8 (f 5 8 + 1)) 6 (f 5 8 + 1).toNat a) 7 (f 5 8 + 1).toNat b) 10 (f 5 8 + 1).toNat c), jH (am_up (am_up g 8 (f 5 8 + 1).toNat m) 9 (f 5 8 + 1).toNat v), sh_rt sw)) (hc : 0 ≤ f 5 8 ∧ f 5 8 < 120) : am_call (d + 1) 96 [.ref 5, .int (iZ a), .int (iZ b), .long (lZ m), .long (lZ v), .int (iZ c)] (53, sh_lt L, iH f, jH g, sh_rt sw) Q := by
  refine ap_call (by decide) (Nat.le_of_ble_eq_true rfl) rfl ?_
  refine ap_go kc_96_0 ?_
  refine ap_aload_n rfl ?_; refine ap_dup rfl ?_; refine ai_getI ow_96 rf_4_37 rfl rfl ?_; refine ai_iconst ?_; refine ai_iadd ?_; refine ai_putI ow_96 rf_4_37 rfl rfl rfl ?_; refine ap_aload_n rfl ?_; refine ap_getR ow_96 rf_4_9 rfl rfl rfl ?_; refine ap_aload_n rfl ?_; refine ai_getI ow_96 rf_4_37 rfl rfl ?_; refine ap_iload_n rfl ?_; refine ai_iastore (n := 121) rfl rfl (by decide) ?_ ?_; refine ap_aload_n rfl ?_; refine ap_getR ow_96 rf_4_15 rfl rfl rfl ?_; refine ap_aload_n rfl ?_; refine ai_getI ow_96 rf_4_37 rfl rfl ?_; refine ap_iload_n rfl ?_; refine ai_iastore (n := 121) rfl rfl (by decide) ?_ ?_; refine ap_aload_n rfl ?_; refine ap_getR ow_96 rf_4_18 rfl rfl rfl ?_; refine ap_aload_n rfl ?_; refine ai_getI ow_96 rf_4_37 rfl rfl ?_; refine ap_lload_n rfl ?_; refine ai_lastore (n := 121) rfl rfl (by decide) ?_ ?_; refine ap_aload_n rfl ?_; refine ap_getR ow_96 rf_4_22 rfl rfl rfl ?_; refine ap_aload_n rfl ?_; refine ai_getI ow_96 rf_4_37 rfl rfl ?_; refine ap_lload rfl ?_; refine ai_lastore (n := 121) rfl rfl (by decide) ?_ ?_; refine ap_aload_n rfl ?_; refine ap_getR ow_96 rf_4_25 rfl rfl rfl ?_; refine ap_aload_n rfl ?_; refine ai_getI ow_96 rf_4_37 rfl rfl ?_; refine ap_iload rfl ?_; refine ai_iastore (n := 121) rfl rfl (by decide) ?_ ?_; refine ap_aload_n rfl ?_; refine ai_getI ow_96 rf_4_37 rfl rfl ?_; refine ap_iret rfl ?_
  · exact K
  all_goals (simp [am_up]; omega)

theorem sp_97 {d L : Nat} {sw : Bool} {f g : Nat → Nat → Int} {Q : Option Value → am_H → Prop} {n : Int} (K : Q none (53, sh_lt L, iH (am_up f 7 0 n), jH g, sh_rt sw))  : am_call (d + 1) 97 [.ref 5, .int (iZ n)] (53, sh_lt L, iH f, jH g, sh_rt sw) Q := by
  refine ap_call (by decide) (Nat.le_of_ble_eq_true rfl) rfl ?_
  refine ap_go kc_97_0 ?_
  refine ap_aload_n rfl ?_; refine ap_getR ow_97 rf_4_15 rfl rfl rfl ?_; refine ai_iconst ?_; refine ap_iload_n rfl ?_; refine ai_iastore (n := 121) rfl rfl (by decide) ?_ ?_; refine ap_vret rfl ?_
  · exact K
  all_goals (omega)

theorem sp_98 {d L : Nat} {sw : Bool} {f g : Nat → Nat → Int} {Q : Option Value → am_H → Prop} {n : Int} (K : Q (some (.int (iZ (f 6 n.toNat)))) (53, sh_lt L, iH f, jH g, sh_rt sw)) (hn : 0 ≤ n ∧ n < 121) : am_call (d + 1) 98 [.ref 5, .int (iZ n)] (53, sh_lt L, iH f, jH g, sh_rt sw) Q := by
  refine ap_call (by decide) (Nat.le_of_ble_eq_true rfl) rfl ?_
  refine ap_go kc_98_0 ?_
  refine ap_aload_n rfl ?_; refine ap_getR ow_98 rf_4_9 rfl rfl rfl ?_; refine ap_iload_n rfl ?_; refine ai_iaload (n := 121) rfl rfl (by decide) ?_ ?_; refine ap_iret rfl ?_
  · exact K
  all_goals (omega)

theorem sp_99 {d L : Nat} {sw : Bool} {f g : Nat → Nat → Int} {Q : Option Value → am_H → Prop} {n : Int} (K : Q (some (.int (iZ (f 7 n.toNat)))) (53, sh_lt L, iH f, jH g, sh_rt sw)) (hn : 0 ≤ n ∧ n < 121) : am_call (d + 1) 99 [.ref 5, .int (iZ n)] (53, sh_lt L, iH f, jH g, sh_rt sw) Q := by
  refine ap_call (by decide) (Nat.le_of_ble_eq_true rfl) rfl ?_
  refine ap_go kc_99_0 ?_
  refine ap_aload_n rfl ?_; refine ap_getR ow_99 rf_4_15 rfl rfl rfl ?_; refine ap_iload_n rfl ?_; refine ai_iaload (n := 121) rfl rfl (by decide) ?_ ?_; refine ap_iret rfl ?_
  · exact K
  all_goals (omega)

theorem sp_100 {d L : Nat} {sw : Bool} {f g : Nat → Nat → Int} {Q : Option Value → am_H → Prop} {n : Int} (K : Q (some (.long (lZ (g 8 n.toNat)))) (53, sh_lt L, iH f, jH g, sh_rt sw)) (hn : 0 ≤ n ∧ n < 121) : am_call (d + 1) 100 [.ref 5, .int (iZ n)] (53, sh_lt L, iH f, jH g, sh_rt sw) Q := by
  refine ap_call (by decide) (Nat.le_of_ble_eq_true rfl) rfl ?_
  refine ap_go kc_100_0 ?_
  refine ap_aload_n rfl ?_; refine ap_getR ow_100 rf_4_18 rfl rfl rfl ?_; refine ap_iload_n rfl ?_; refine ai_laload (n := 121) rfl rfl (by decide) ?_ ?_; refine ap_lret rfl ?_
  · exact K
  all_goals (omega)

theorem sp_101 {d L : Nat} {sw : Bool} {f g : Nat → Nat → Int} {Q : Option Value → am_H → Prop} {n : Int} (K : Q (some (.int (iZ (1 + g 8 n.toNat * (1 + f 10 n.toNat) / 20000)))) (53, sh_lt L, iH f, jH g, sh_rt sw)) (hn : 0 ≤ n ∧ n < 121) (h1 : iR (f 10 n.toNat)) (h2 : 0 ≤ g 8 n.toNat * (1 + f 10 n.toNat) ∧ g 8 n.toNat * (1 + f 10 n.toNat) < 9223372036854775808) : am_call (d + 1) 101 [.ref 5, .int (iZ n)] (53, sh_lt L, iH f, jH g, sh_rt sw) Q := by
  refine ap_call (by decide) (Nat.le_of_ble_eq_true rfl) rfl ?_
  refine ap_go kc_101_0 ?_
  refine ai_lconst 1 rfl ?_; refine ap_aload_n rfl ?_; refine ap_getR ow_101 rf_4_18 rfl rfl rfl ?_; refine ap_iload_n rfl ?_; refine ai_laload (n := 121) rfl rfl (by decide) ?_ ?_; refine ai_lconst 1 rfl ?_; refine ap_aload_n rfl ?_; refine ap_getR ow_101 rf_4_25 rfl rfl rfl ?_; refine ap_iload_n rfl ?_; refine ai_iaload (n := 121) rfl rfl (by decide) ?_ ?_; refine ai_i2l ?_ ?_; refine ai_ladd ?_; refine ai_lmul ?_; refine ai_ldc2 (20000) ow_101 kl_4_41 rfl ?_; refine ai_ldiv ?_ ?_; refine ai_ladd ?_; refine ai_l2i ?_; refine ap_iret rfl ?_
  · exact K
  all_goals (omega)

theorem sp_104 {d L : Nat} {sw : Bool} {f g : Nat → Nat → Int} {Q : Option Value → am_H → Prop} {n v w : Int} (K : Q none (53, sh_lt L, iH f, jH (am_up (am_up g 11 n.toNat v) 12 n.toNat w), sh_rt sw)) (hn : 0 ≤ n ∧ n < 121) : am_call (d + 1) 104 [.ref 5, .int (iZ n), .long (lZ v), .long (lZ w)] (53, sh_lt L, iH f, jH g, sh_rt sw) Q := by
  refine ap_call (by decide) (Nat.le_of_ble_eq_true rfl) rfl ?_
  refine ap_go kc_104_0 ?_
  refine ap_aload_n rfl ?_; refine ap_getR ow_104 rf_4_28 rfl rfl rfl ?_; refine ap_iload_n rfl ?_; refine ap_lload_n rfl ?_; refine ai_lastore (n := 121) rfl rfl (by decide) ?_ ?_; refine ap_aload_n rfl ?_; refine ap_getR ow_104 rf_4_31 rfl rfl rfl ?_; refine ap_iload_n rfl ?_; refine ap_lload rfl ?_; refine ai_lastore (n := 121) rfl rfl (by decide) ?_ ?_; refine ap_vret rfl ?_
  · exact K
  all_goals (omega)

theorem sp_106 {d L : Nat} {sw : Bool} {f g : Nat → Nat → Int} {Q : Option Value → am_H → Prop} {n p : Int} (K : Q (some (.long (lZ (if 0 < (if p ≤ g 12 n.toNat then g 11 n.toNat else g 9 n.toNat) then 1000 * g 8 n.toNat / (if p ≤ g 12 n.toNat then g 11 n.toNat else g 9 n.toNat) else -1)))) (53, sh_lt L, iH f, jH g, sh_rt sw)) (hn : 0 ≤ n ∧ n < 121) (hp : lR p) (h1 : lR (g 12 n.toNat)) (h2 : lR (g 11 n.toNat)) (h3 : lR (g 9 n.toNat)) (h4 : 0 ≤ g 8 n.toNat ∧ g 8 n.toNat ≤ 100000) : am_call (d + 1) 106 [.ref 5, .int (iZ n), .long (lZ p)] (53, sh_lt L, iH f, jH g, sh_rt sw) Q := by
  refine ap_call (by decide) (Nat.le_of_ble_eq_true rfl) rfl ?_
  refine ap_go kc_106_0 ?_
  refine ap_lload_n rfl ?_; refine ap_aload_n rfl ?_; refine ap_getR ow_106 rf_4_31 rfl rfl rfl ?_; refine ap_iload_n rfl ?_; refine ai_laload (n := 121) rfl rfl (by decide) ?_ ?_
  refine ai_lcgt rfl rfl (fun hc0 => ?_) (fun hc0 => ?_) ?_
  · refine ap_go kc_106_20 ?_
    refine ap_aload_n rfl ?_; refine ap_getR ow_106 rf_4_22 rfl rfl rfl ?_; refine ap_iload_n rfl ?_; refine ai_laload (n := 121) rfl rfl (by decide) ?_ ?_; refine ap_nil ?_
    · refine ap_go kc_106_26 ?_
      refine ap_lstore rfl ?_; refine ap_lload rfl ?_; refine ai_lconst 0 rfl ?_
      refine ai_lcle rfl rfl (fun hc1 => ?_) (fun hc1 => ?_) ?_
      · refine ap_go kc_106_51 ?_
        refine ai_ldc2 (-1) ow_106 kl_4_45 rfl ?_; refine ap_nil ?_
        refine ap_go kc_106_54 ?_
        refine ap_lret rfl ?_
        (first | rw [if_pos (show p ≤ g 12 n.toNat by omega)] at K | rw [if_neg (show ¬ p ≤ g 12 n.toNat by omega)] at K); first | (rw [if_pos (by omega)] at K; exact K) | (rw [if_neg (by omega)] at K; exact K)
      · refine ap_go kc_106_35 ?_
        refine ai_ldc2 (1000) ow_106 kl_4_43 rfl ?_; refine ap_aload_n rfl ?_; refine ap_getR ow_106 rf_4_18 rfl rfl rfl ?_; refine ap_iload_n rfl ?_; refine ai_laload (n := 121) rfl rfl (by decide) ?_ ?_; refine ai_lmul ?_; refine ap_lload rfl ?_; refine ai_ldiv ?_ ?_; refine ap_goto rfl ?_
        · refine ap_go kc_106_54 ?_
          refine ap_lret rfl ?_
          (first | rw [if_pos (show p ≤ g 12 n.toNat by omega)] at K | rw [if_neg (show ¬ p ≤ g 12 n.toNat by omega)] at K); first | (rw [if_pos (by omega)] at K; exact K) | (rw [if_neg (by omega)] at K; exact K)
        all_goals (omega)
      all_goals (omega)
    all_goals (omega)
  · refine ap_go kc_106_11 ?_
    refine ap_aload_n rfl ?_; refine ap_getR ow_106 rf_4_28 rfl rfl rfl ?_; refine ap_iload_n rfl ?_; refine ai_laload (n := 121) rfl rfl (by decide) ?_ ?_; refine ap_goto rfl ?_
    · refine ap_go kc_106_26 ?_
      refine ap_lstore rfl ?_; refine ap_lload rfl ?_; refine ai_lconst 0 rfl ?_
      refine ai_lcle rfl rfl (fun hc2 => ?_) (fun hc2 => ?_) ?_
      · refine ap_go kc_106_51 ?_
        refine ai_ldc2 (-1) ow_106 kl_4_45 rfl ?_; refine ap_nil ?_
        refine ap_go kc_106_54 ?_
        refine ap_lret rfl ?_
        (first | rw [if_pos (show p ≤ g 12 n.toNat by omega)] at K | rw [if_neg (show ¬ p ≤ g 12 n.toNat by omega)] at K); first | (rw [if_pos (by omega)] at K; exact K) | (rw [if_neg (by omega)] at K; exact K)
      · refine ap_go kc_106_35 ?_
        refine ai_ldc2 (1000) ow_106 kl_4_43 rfl ?_; refine ap_aload_n rfl ?_; refine ap_getR ow_106 rf_4_18 rfl rfl rfl ?_; refine ap_iload_n rfl ?_; refine ai_laload (n := 121) rfl rfl (by decide) ?_ ?_; refine ai_lmul ?_; refine ap_lload rfl ?_; refine ai_ldiv ?_ ?_; refine ap_goto rfl ?_
        · refine ap_go kc_106_54 ?_
          refine ap_lret rfl ?_
          (first | rw [if_pos (show p ≤ g 12 n.toNat by omega)] at K | rw [if_neg (show ¬ p ≤ g 12 n.toNat by omega)] at K); first | (rw [if_pos (by omega)] at K; exact K) | (rw [if_neg (by omega)] at K; exact K)
        all_goals (omega)
      all_goals (omega)
    all_goals (omega)
  all_goals (omega)

theorem sp_108_27 {d L : Nat} {sw : Bool} {f g : Nat → Nat → Int} {Q : Option Value → am_H → Prop}  (K : Q (some (.int (iZ (f 27 3)))) (53, sh_lt L, iH f, jH g, sh_rt sw)) (hb : f 27 3 = 0 ∨ f 27 3 = 1) : am_call (d + 1) 108 [.ref 27] (53, sh_lt L, iH f, jH g, sh_rt sw) Q := by
  refine ap_call (by decide) (Nat.le_of_ble_eq_true rfl) rfl ?_
  refine ap_go kc_108_0 ?_
  refine ap_aload_n rfl ?_; refine ai_getZ ow_108 rf_5_23 rfl rfl ?_; refine ai_zret rfl ?_ ?_
  · exact K
  all_goals (omega)

theorem sp_109_27 {d L : Nat} {sw : Bool} {f g : Nat → Nat → Int} {Q : Option Value → am_H → Prop}  (K : Q (some (.int (iZ (f 27 1)))) (53, sh_lt L, iH f, jH g, sh_rt sw))  : am_call (d + 1) 109 [.ref 27] (53, sh_lt L, iH f, jH g, sh_rt sw) Q := by
  refine ap_call (by decide) (Nat.le_of_ble_eq_true rfl) rfl ?_
  refine ap_go kc_109_0 ?_
  refine ap_aload_n rfl ?_; refine ai_getI ow_109 rf_5_15 rfl rfl ?_; refine ap_iret rfl ?_
  exact K

theorem sp_110_27 {d L : Nat} {sw : Bool} {f g : Nat → Nat → Int} {Q : Option Value → am_H → Prop}  (K : Q (some (.long (lZ (g 27 2)))) (53, sh_lt L, iH f, jH g, sh_rt sw))  : am_call (d + 1) 110 [.ref 27] (53, sh_lt L, iH f, jH g, sh_rt sw) Q := by
  refine ap_call (by decide) (Nat.le_of_ble_eq_true rfl) rfl ?_
  refine ap_go kc_110_0 ?_
  refine ap_aload_n rfl ?_; refine ai_getJ ow_110 rf_5_19 rfl rfl ?_; refine ap_lret rfl ?_
  exact K

theorem sp_111_27 {d L : Nat} {sw : Bool} {f g : Nat → Nat → Int} {Q : Option Value → am_H → Prop} {i : Int} (K : Q (some (.int (iZ (if 0 ≤ i ∧ i < f 27 1 then (if 0 ≤ f 28 i.toNat then f 28 i.toNat else -f 28 i.toNat) else 0)))) (53, sh_lt L, iH f, jH g, sh_rt sw)) (hi : iR i) (hs : 0 ≤ f 27 1 ∧ f 27 1 ≤ 2400) (hv : ∀ k, iR (f 28 k)) : am_call (d + 1) 111 [.ref 27, .int (iZ i)] (53, sh_lt L, iH f, jH g, sh_rt sw) Q := by
  refine ap_call (by decide) (Nat.le_of_ble_eq_true rfl) rfl ?_
  refine ap_go kc_111_0 ?_
  refine ap_iload_n rfl ?_
  refine ai_iflt rfl rfl (fun hc0 => ?_) (fun hc0 => ?_) ?_
  · refine ap_go kc_111_24 ?_
    refine ai_iconst ?_; refine ap_nil ?_
    refine ap_go kc_111_25 ?_
    refine ap_iret rfl ?_
    first | (rw [if_pos (by omega)] at K; exact K) | (rw [if_neg (by omega)] at K; exact K)
  · refine ap_go kc_111_4 ?_
    refine ap_iload_n rfl ?_; refine ap_aload_n rfl ?_; refine ai_getI ow_111 rf_5_15 rfl rfl ?_
    refine ai_icge rfl rfl (fun hc1 => ?_) (fun hc1 => ?_) ?_
    · refine ap_go kc_111_24 ?_
      refine ai_iconst ?_; refine ap_nil ?_
      refine ap_go kc_111_25 ?_
      refine ap_iret rfl ?_
      first | (rw [if_pos (by omega)] at K; exact K) | (rw [if_neg (by omega)] at K; exact K)
    · refine ap_go kc_111_12 ?_
      refine ap_aload_n rfl ?_; refine ap_getR ow_111 rf_5_9 rfl rfl rfl ?_; refine ap_iload_n rfl ?_; refine ai_iaload (n := 2400) rfl rfl (by decide) ?_ ?_; refine ai_mabs ow_111 rm_5_27 (Nat.le_of_ble_eq_true rfl) ?_ ?_; refine ap_goto rfl ?_
      · refine ap_go kc_111_25 ?_
        refine ap_iret rfl ?_
        first | (rw [if_pos (by omega)] at K; exact K) | (rw [if_neg (by omega)] at K; exact K)
      all_goals (first | omega | exact hv _)
    all_goals (first | omega | exact hv _)
  all_goals (first | omega | exact hv _)

theorem sp_112_27 {d L : Nat} {sw : Bool} {f g : Nat → Nat → Int} {Q : Option Value → am_H → Prop}  (K : Q none (53, sh_lt L, iH (am_up (am_up f 27 3 0) 27 1 0), jH (am_up g 27 2 0), sh_rt sw))  : am_call (d + 1) 112 [.ref 27] (53, sh_lt L, iH f, jH g, sh_rt sw) Q := by
  refine ap_call (by decide) (Nat.le_of_ble_eq_true rfl) rfl ?_
  refine ap_go kc_112_0 ?_
  refine ap_aload_n rfl ?_; refine ai_iconst ?_; refine ai_putZ ow_112 rf_5_23 rfl rfl rfl ?_ ?_; refine ap_aload_n rfl ?_; refine ai_iconst ?_; refine ai_putI ow_112 rf_5_15 rfl rfl rfl ?_; refine ap_aload_n rfl ?_; refine ai_lconst 0 rfl ?_; refine ai_putJ ow_112 rf_5_19 rfl rfl rfl ?_; refine ap_vret rfl ?_
  · exact K
  all_goals (exact Or.inl rfl)

theorem sp_113_27 {d L : Nat} {sw : Bool} {f g : Nat → Nat → Int} {Q : Option Value → am_H → Prop} {s : Int} (K : Q none (53, sh_lt L, iH (am_up (am_up f 28 (f 27 1).toNat s) 27 1 (f 27 1 + 1)), jH g, sh_rt sw)) (hs : 0 ≤ f 27 1 ∧ f 27 1 < 2400) : am_call (d + 1) 113 [.ref 27, .int (iZ s)] (53, sh_lt L, iH f, jH g, sh_rt sw) Q := by
  refine ap_call (by decide) (Nat.le_of_ble_eq_true rfl) rfl ?_
  refine ap_go kc_113_0 ?_
  refine ap_aload_n rfl ?_; refine ai_getI ow_113 rf_5_15 rfl rfl ?_; refine ai_sipush (by decide) ?_
  refine ai_icge rfl rfl (fun hc0 => ?_) (fun hc0 => ?_) ?_
  · refine ap_go kc_113_30 ?_
    refine ap_vret rfl ?_
    first | exact K | (exfalso; omega)
  · refine ap_go kc_113_10 ?_
    refine ap_aload_n rfl ?_; refine ap_getR ow_113 rf_5_9 rfl rfl rfl ?_; refine ap_aload_n rfl ?_; refine ai_getI ow_113 rf_5_15 rfl rfl ?_; refine ap_iload_n rfl ?_; refine ai_iastore (n := 2400) rfl rfl (by decide) ?_ ?_; refine ap_aload_n rfl ?_; refine ap_dup rfl ?_; refine ai_getI ow_113 rf_5_15 rfl rfl ?_; refine ai_iconst ?_; refine ai_iadd ?_; refine ai_putI ow_113 rf_5_15 rfl rfl rfl ?_; refine ap_nil ?_
    · refine ap_go kc_113_30 ?_
      refine ap_vret rfl ?_
      first | exact K | (exfalso; omega)
    all_goals (omega)
  all_goals (omega)

theorem sp_114_27 {d L : Nat} {sw : Bool} {f g : Nat → Nat → Int} {Q : Option Value → am_H → Prop} {c : Int} (K : Q none (53, sh_lt L, iH (am_up f 27 3 1), jH (am_up g 27 2 c), sh_rt sw))  : am_call (d + 1) 114 [.ref 27, .long (lZ c)] (53, sh_lt L, iH f, jH g, sh_rt sw) Q := by
  refine ap_call (by decide) (Nat.le_of_ble_eq_true rfl) rfl ?_
  refine ap_go kc_114_0 ?_
  refine ap_aload_n rfl ?_; refine ai_iconst ?_; refine ai_putZ ow_114 rf_5_23 rfl rfl rfl ?_ ?_; refine ap_aload_n rfl ?_; refine ap_lload_n rfl ?_; refine ai_putJ ow_114 rf_5_19 rfl rfl rfl ?_; refine ap_vret rfl ?_
  · exact K
  all_goals (exact Or.inr rfl)

theorem sp_108_29 {d L : Nat} {sw : Bool} {f g : Nat → Nat → Int} {Q : Option Value → am_H → Prop}  (K : Q (some (.int (iZ (f 29 3)))) (53, sh_lt L, iH f, jH g, sh_rt sw)) (hb : f 29 3 = 0 ∨ f 29 3 = 1) : am_call (d + 1) 108 [.ref 29] (53, sh_lt L, iH f, jH g, sh_rt sw) Q := by
  refine ap_call (by decide) (Nat.le_of_ble_eq_true rfl) rfl ?_
  refine ap_go kc_108_0 ?_
  refine ap_aload_n rfl ?_; refine ai_getZ ow_108 rf_5_23 rfl rfl ?_; refine ai_zret rfl ?_ ?_
  · exact K
  all_goals (omega)

theorem sp_109_29 {d L : Nat} {sw : Bool} {f g : Nat → Nat → Int} {Q : Option Value → am_H → Prop}  (K : Q (some (.int (iZ (f 29 1)))) (53, sh_lt L, iH f, jH g, sh_rt sw))  : am_call (d + 1) 109 [.ref 29] (53, sh_lt L, iH f, jH g, sh_rt sw) Q := by
  refine ap_call (by decide) (Nat.le_of_ble_eq_true rfl) rfl ?_
  refine ap_go kc_109_0 ?_
  refine ap_aload_n rfl ?_; refine ai_getI ow_109 rf_5_15 rfl rfl ?_; refine ap_iret rfl ?_
  exact K

theorem sp_110_29 {d L : Nat} {sw : Bool} {f g : Nat → Nat → Int} {Q : Option Value → am_H → Prop}  (K : Q (some (.long (lZ (g 29 2)))) (53, sh_lt L, iH f, jH g, sh_rt sw))  : am_call (d + 1) 110 [.ref 29] (53, sh_lt L, iH f, jH g, sh_rt sw) Q := by
  refine ap_call (by decide) (Nat.le_of_ble_eq_true rfl) rfl ?_
  refine ap_go kc_110_0 ?_
  refine ap_aload_n rfl ?_; refine ai_getJ ow_110 rf_5_19 rfl rfl ?_; refine ap_lret rfl ?_
  exact K

theorem sp_111_29 {d L : Nat} {sw : Bool} {f g : Nat → Nat → Int} {Q : Option Value → am_H → Prop} {i : Int} (K : Q (some (.int (iZ (if 0 ≤ i ∧ i < f 29 1 then (if 0 ≤ f 30 i.toNat then f 30 i.toNat else -f 30 i.toNat) else 0)))) (53, sh_lt L, iH f, jH g, sh_rt sw)) (hi : iR i) (hs : 0 ≤ f 29 1 ∧ f 29 1 ≤ 2400) (hv : ∀ k, iR (f 30 k)) : am_call (d + 1) 111 [.ref 29, .int (iZ i)] (53, sh_lt L, iH f, jH g, sh_rt sw) Q := by
  refine ap_call (by decide) (Nat.le_of_ble_eq_true rfl) rfl ?_
  refine ap_go kc_111_0 ?_
  refine ap_iload_n rfl ?_
  refine ai_iflt rfl rfl (fun hc0 => ?_) (fun hc0 => ?_) ?_
  · refine ap_go kc_111_24 ?_
    refine ai_iconst ?_; refine ap_nil ?_
    refine ap_go kc_111_25 ?_
    refine ap_iret rfl ?_
    first | (rw [if_pos (by omega)] at K; exact K) | (rw [if_neg (by omega)] at K; exact K)
  · refine ap_go kc_111_4 ?_
    refine ap_iload_n rfl ?_; refine ap_aload_n rfl ?_; refine ai_getI ow_111 rf_5_15 rfl rfl ?_
    refine ai_icge rfl rfl (fun hc1 => ?_) (fun hc1 => ?_) ?_
    · refine ap_go kc_111_24 ?_
      refine ai_iconst ?_; refine ap_nil ?_
      refine ap_go kc_111_25 ?_
      refine ap_iret rfl ?_
      first | (rw [if_pos (by omega)] at K; exact K) | (rw [if_neg (by omega)] at K; exact K)
    · refine ap_go kc_111_12 ?_
      refine ap_aload_n rfl ?_; refine ap_getR ow_111 rf_5_9 rfl rfl rfl ?_; refine ap_iload_n rfl ?_; refine ai_iaload (n := 2400) rfl rfl (by decide) ?_ ?_; refine ai_mabs ow_111 rm_5_27 (Nat.le_of_ble_eq_true rfl) ?_ ?_; refine ap_goto rfl ?_
      · refine ap_go kc_111_25 ?_
        refine ap_iret rfl ?_
        first | (rw [if_pos (by omega)] at K; exact K) | (rw [if_neg (by omega)] at K; exact K)
      all_goals (first | omega | exact hv _)
    all_goals (first | omega | exact hv _)
  all_goals (first | omega | exact hv _)

theorem sp_112_29 {d L : Nat} {sw : Bool} {f g : Nat → Nat → Int} {Q : Option Value → am_H → Prop}  (K : Q none (53, sh_lt L, iH (am_up (am_up f 29 3 0) 29 1 0), jH (am_up g 29 2 0), sh_rt sw))  : am_call (d + 1) 112 [.ref 29] (53, sh_lt L, iH f, jH g, sh_rt sw) Q := by
  refine ap_call (by decide) (Nat.le_of_ble_eq_true rfl) rfl ?_
  refine ap_go kc_112_0 ?_
  refine ap_aload_n rfl ?_; refine ai_iconst ?_; refine ai_putZ ow_112 rf_5_23 rfl rfl rfl ?_ ?_; refine ap_aload_n rfl ?_; refine ai_iconst ?_; refine ai_putI ow_112 rf_5_15 rfl rfl rfl ?_; refine ap_aload_n rfl ?_; refine ai_lconst 0 rfl ?_; refine ai_putJ ow_112 rf_5_19 rfl rfl rfl ?_; refine ap_vret rfl ?_
  · exact K
  all_goals (exact Or.inl rfl)

theorem sp_113_29 {d L : Nat} {sw : Bool} {f g : Nat → Nat → Int} {Q : Option Value → am_H → Prop} {s : Int} (K : Q none (53, sh_lt L, iH (am_up (am_up f 30 (f 29 1).toNat s) 29 1 (f 29 1 + 1)), jH g, sh_rt sw)) (hs : 0 ≤ f 29 1 ∧ f 29 1 < 2400) : am_call (d + 1) 113 [.ref 29, .int (iZ s)] (53, sh_lt L, iH f, jH g, sh_rt sw) Q := by
  refine ap_call (by decide) (Nat.le_of_ble_eq_true rfl) rfl ?_
  refine ap_go kc_113_0 ?_
  refine ap_aload_n rfl ?_; refine ai_getI ow_113 rf_5_15 rfl rfl ?_; refine ai_sipush (by decide) ?_
  refine ai_icge rfl rfl (fun hc0 => ?_) (fun hc0 => ?_) ?_
  · refine ap_go kc_113_30 ?_
    refine ap_vret rfl ?_
    first | exact K | (exfalso; omega)
  · refine ap_go kc_113_10 ?_
    refine ap_aload_n rfl ?_; refine ap_getR ow_113 rf_5_9 rfl rfl rfl ?_; refine ap_aload_n rfl ?_; refine ai_getI ow_113 rf_5_15 rfl rfl ?_; refine ap_iload_n rfl ?_; refine ai_iastore (n := 2400) rfl rfl (by decide) ?_ ?_; refine ap_aload_n rfl ?_; refine ap_dup rfl ?_; refine ai_getI ow_113 rf_5_15 rfl rfl ?_; refine ai_iconst ?_; refine ai_iadd ?_; refine ai_putI ow_113 rf_5_15 rfl rfl rfl ?_; refine ap_nil ?_
    · refine ap_go kc_113_30 ?_
      refine ap_vret rfl ?_
      first | exact K | (exfalso; omega)
    all_goals (omega)
  all_goals (omega)

theorem sp_114_29 {d L : Nat} {sw : Bool} {f g : Nat → Nat → Int} {Q : Option Value → am_H → Prop} {c : Int} (K : Q none (53, sh_lt L, iH (am_up f 29 3 1), jH (am_up g 29 2 c), sh_rt sw))  : am_call (d + 1) 114 [.ref 29, .long (lZ c)] (53, sh_lt L, iH f, jH g, sh_rt sw) Q := by
  refine ap_call (by decide) (Nat.le_of_ble_eq_true rfl) rfl ?_
  refine ap_go kc_114_0 ?_
  refine ap_aload_n rfl ?_; refine ai_iconst ?_; refine ai_putZ ow_114 rf_5_23 rfl rfl rfl ?_ ?_; refine ap_aload_n rfl ?_; refine ap_lload_n rfl ?_; refine ai_putJ ow_114 rf_5_19 rfl rfl rfl ?_; refine ap_vret rfl ?_
  · exact K
  all_goals (exact Or.inr rfl)

theorem sp_15 {d L : Nat} {sw : Bool} {f g : Nat → Nat → Int} {Q : Option Value → am_H → Prop} {x m : Int} (K : Q (some (.int (iZ (if -m ≤ x ∧ x ≤ m then 1 else 0)))) (53, sh_lt L, iH f, jH g, sh_rt sw)) (hx : lR x) (hm : 0 ≤ m ∧ m < 1000000) : am_call (d + 1) 15 [.long (lZ x), .long (lZ m)] (53, sh_lt L, iH f, jH g, sh_rt sw) Q := by
  refine ap_call (by decide) (Nat.le_of_ble_eq_true rfl) rfl ?_
  refine ap_go kc_15_0 ?_
  refine ap_lload_n rfl ?_; refine ap_lload_n rfl ?_; refine ai_lneg ?_
  refine ai_lclt rfl rfl (fun hc0 => ?_) (fun hc0 => ?_) ?_
  · refine ap_go kc_15_17 ?_
    refine ai_iconst ?_; refine ap_nil ?_
    refine ap_go kc_15_18 ?_
    refine ai_zret rfl ?_ ?_
    · exact sq K (by first | rfl | omega | (split <;> omega) | (split <;> split <;> omega))
    all_goals (omega)
  · refine ap_go kc_15_7 ?_
    refine ap_lload_n rfl ?_; refine ap_lload_n rfl ?_
    refine ai_lcgt rfl rfl (fun hc1 => ?_) (fun hc1 => ?_) ?_
    · refine ap_go kc_15_17 ?_
      refine ai_iconst ?_; refine ap_nil ?_
      refine ap_go kc_15_18 ?_
      refine ai_zret rfl ?_ ?_
      · exact sq K (by first | rfl | omega | (split <;> omega) | (split <;> split <;> omega))
      all_goals (omega)
    · refine ap_go kc_15_13 ?_
      refine ai_iconst ?_; refine ap_goto rfl ?_
      refine ap_go kc_15_18 ?_
      refine ai_zret rfl ?_ ?_
      · exact sq K (by first | rfl | omega | (split <;> omega) | (split <;> split <;> omega))
      all_goals (omega)
    all_goals (omega)
  all_goals (omega)

theorem sp_123 {d L : Nat} {sw : Bool} {f g : Nat → Nat → Int} {Q : Option Value → am_H → Prop}  (K : Q (some (.int (iZ (if f 14 10 = 2 then 21 else 1)))) (53, sh_lt L, iH f, jH g, sh_rt sw)) (hk : iR (f 14 10)) : am_call (d + 1) 123 [.ref 14] (53, sh_lt L, iH f, jH g, sh_rt sw) Q := by
  refine ap_call (by decide) (Nat.le_of_ble_eq_true rfl) rfl ?_
  refine ap_go kc_123_0 ?_
  refine ap_aload_n rfl ?_; refine ai_getI ow_123 rf_6_42 rfl rfl ?_; refine ai_iconst ?_
  refine ai_icne rfl rfl (fun hc0 => ?_) (fun hc0 => ?_) ?_
  · refine ap_go kc_123_13 ?_
    refine ai_iconst ?_; refine ap_nil ?_
    refine ap_go kc_123_14 ?_
    refine ap_iret rfl ?_
    exact sq K (by first | rfl | omega | (split <;> omega) | (split <;> split <;> omega))
  · refine ap_go kc_123_8 ?_
    refine ai_bipush (by decide) ?_; refine ap_goto rfl ?_
    refine ap_go kc_123_14 ?_
    refine ap_iret rfl ?_
    exact sq K (by first | rfl | omega | (split <;> omega) | (split <;> split <;> omega))
  all_goals (omega)

theorem sp_124 {d L : Nat} {sw : Bool} {f g : Nat → Nat → Int} {Q : Option Value → am_H → Prop}  (K : Q (some (.int (iZ (f 14 11)))) (53, sh_lt L, iH f, jH g, sh_rt sw))  : am_call (d + 1) 124 [.ref 14] (53, sh_lt L, iH f, jH g, sh_rt sw) Q := by
  refine ap_call (by decide) (Nat.le_of_ble_eq_true rfl) rfl ?_
  refine ap_go kc_124_0 ?_
  refine ap_aload_n rfl ?_; refine ai_getI ow_124 rf_6_45 rfl rfl ?_; refine ap_iret rfl ?_
  exact K

theorem sp_118 {d L : Nat} {sw : Bool} {f g : Nat → Nat → Int} {Q : Option Value → am_H → Prop} {a b k e : Int} (K : Q none (53, sh_lt L, iH (am_up (am_up (am_up (am_up (am_up f 14 8 a) 14 9 b) 14 10 k) 14 11 e) 7 0 a), jH g, sh_rt sw))  : am_call (d + 2) 118 [.ref 14, .int (iZ a), .int (iZ b), .int (iZ k), .int (iZ e)] (53, sh_lt L, iH f, jH g, sh_rt sw) Q := by
  refine ap_call (by decide) (Nat.le_of_ble_eq_true rfl) rfl ?_
  refine ap_go kc_118_0 ?_
  refine ap_aload_n rfl ?_; refine ap_iload_n rfl ?_; refine ai_putI ow_118 rf_6_35 rfl rfl rfl ?_; refine ap_aload_n rfl ?_; refine ap_iload_n rfl ?_; refine ai_putI ow_118 rf_6_39 rfl rfl rfl ?_; refine ap_aload_n rfl ?_; refine ap_iload_n rfl ?_; refine ai_putI ow_118 rf_6_42 rfl rfl rfl ?_; refine ap_aload_n rfl ?_; refine ap_iload rfl ?_; refine ai_putI ow_118 rf_6_45 rfl rfl rfl ?_; refine ap_aload_n rfl ?_; refine ap_getR ow_118 rf_6_52 rfl rfl rfl ?_; refine ap_iload_n rfl ?_; refine ap_callv0 ow_118 rm_6_56 na_97 mc_97 ms_97 rfl rfl (Nat.le_of_ble_eq_true rfl) (Nat.le_of_ble_eq_true rfl) (Or.inr rfl) (Nat.zero_le _) (Nat.zero_le _) ?_; refine sp_97 ?_; dsimp only [Option.toList_some, Option.toList_none, List.cons_append, List.nil_append]; refine ap_vret rfl ?_
  exact K

theorem sp_137 {d L : Nat} {sw : Bool} {f g : Nat → Nat → Int} {Q : Option Value → am_H → Prop} {n e : Int} (K : Q (some (.int (iZ (if 0 < g 4 n.toNat then 20 else e)))) (53, sh_lt L, iH f, jH g, sh_rt sw)) (hn : 0 ≤ n ∧ n < 61) (hr : lR (g 4 n.toNat)) : am_call (d + 2) 137 [.ref 14, .int (iZ n), .int (iZ e)] (53, sh_lt L, iH f, jH g, sh_rt sw) Q := by
  refine ap_call (by decide) (Nat.le_of_ble_eq_true rfl) rfl ?_
  refine ap_go kc_137_0 ?_
  refine ap_aload_n rfl ?_; refine ap_getR ow_137 rf_6_48 rfl rfl rfl ?_; refine ap_iload_n rfl ?_; refine ap_callv0 ow_137 rm_6_141 na_89 mc_89 ms_89 rfl rfl (Nat.le_of_ble_eq_true rfl) (Nat.le_of_ble_eq_true rfl) (Or.inr rfl) (Nat.zero_le _) (Nat.zero_le _) ?_; refine sp_89 ?_ ?_ ?_; dsimp only [Option.toList_some, Option.toList_none, List.cons_append, List.nil_append]
  refine ai_ifeq rfl rfl (fun hc0 => ?_) (fun hc0 => ?_) ?_
  · refine ap_go kc_137_16 ?_
    refine ap_iload_n rfl ?_; refine ap_nil ?_
    refine ap_go kc_137_17 ?_
    refine ap_iret rfl ?_
    exact sq K (by split at hc0 <;> split <;> omega)
  · refine ap_go kc_137_11 ?_
    refine ai_bipush (by decide) ?_; refine ap_goto rfl ?_
    refine ap_go kc_137_17 ?_
    refine ap_iret rfl ?_
    exact sq K (by split at hc0 <;> split <;> omega)
  all_goals (first | omega | (split <;> omega))
