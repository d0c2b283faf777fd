/-! THE REFERENCE: its simple calls -/
theorem am_le_0 {l : am_L} : am_le [] l := fun i v h => by simp [am_lk] at h
theorem am_le_n {x : Option Value} {l l' : am_L} (h : am_le l l') : am_le (none :: l) (x :: l') := fun i v hv => by
  cases i with
  | zero => simp [am_lk] at hv
  | succ i => exact h i v hv
theorem am_le_s {v : Value} {l l' : am_L} (h : am_le l l') : am_le (some v :: l) (some v :: l') := fun i w hw => by
  cases i with
  | zero => exact hw
  | succ i => exact h i w hw

theorem sp_25 {d L : Nat} {sw : Bool} {f g : Nat → Nat → Int} {Q : Option Value → am_H → Prop}  (K : Q (some (.int (iZ (f 31 0)))) (53, sh_lt L, iH f, jH g, sh_rt sw))  : am_call (d + 1) 25 [.ref 31] (53, sh_lt L, iH f, jH g, sh_rt sw) Q := by
  refine ap_call (by decide) (Nat.le_of_ble_eq_true rfl) rfl ?_
  refine ap_go kc_25_0 ?_
  refine ap_aload_n rfl ?_; refine ai_getI ow_25 rf_8_82 rfl rfl ?_; refine ap_iret rfl ?_
  exact K

theorem sp_26 {d L : Nat} {sw : Bool} {f g : Nat → Nat → Int} {Q : Option Value → am_H → Prop} {n : Int} (K : Q (some (.int (iZ (if ¬ (1 ≤ n ∧ n ≤ f 31 1) then 1 else 0)))) (53, sh_lt L, iH f, jH g, sh_rt sw)) (hn : iR n) (hc : iR (f 31 1)) : am_call (d + 1) 26 [.ref 31, .int (iZ n)] (53, sh_lt L, iH f, jH g, sh_rt sw) Q := by
  refine ap_call (by decide) (Nat.le_of_ble_eq_true rfl) rfl ?_
  refine ap_go kc_26_0 ?_
  refine ap_iload_n rfl ?_; refine ai_iconst ?_
  refine ai_iclt rfl rfl (fun hb0 => ?_) (fun hb0 => ?_) ?_
  · refine ap_go kc_26_13 ?_
    refine ai_iconst ?_; refine ap_goto rfl ?_
    refine ap_go kc_26_18 ?_
    refine ai_zret rfl ?_ ?_
    · exact sq K (by first | rfl | omega | (split <;> omega) | (split <;> split <;> omega))
    all_goals (omega)
  · refine ap_go kc_26_5 ?_
    refine ap_iload_n rfl ?_; refine ap_aload_n rfl ?_; refine ai_getI ow_26 rf_8_85 rfl rfl ?_
    refine ai_icle rfl rfl (fun hb1 => ?_) (fun hb1 => ?_) ?_
    · refine ap_go kc_26_17 ?_
      refine ai_iconst ?_; refine ap_nil ?_
      refine ap_go kc_26_18 ?_
      refine ai_zret rfl ?_ ?_
      · exact sq K (by first | rfl | omega | (split <;> omega) | (split <;> split <;> omega))
      all_goals (omega)
    · refine ap_go kc_26_13 ?_
      refine ai_iconst ?_; refine ap_goto rfl ?_
      refine ap_go kc_26_18 ?_
      refine ai_zret rfl ?_ ?_
      · exact sq K (by first | rfl | omega | (split <;> omega) | (split <;> split <;> omega))
      all_goals (omega)
    all_goals (omega)
  all_goals (omega)

theorem sp_27 {d L : Nat} {sw : Bool} {f g : Nat → Nat → Int} {Q : Option Value → am_H → Prop} {n : Int} (K : Q (some (.int (iZ (if ¬ (1 ≤ n ∧ n ≤ f 31 5) then 1 else 0)))) (53, sh_lt L, iH f, jH g, sh_rt sw)) (hn : iR n) (hc : iR (f 31 5)) : am_call (d + 1) 27 [.ref 31, .int (iZ n)] (53, sh_lt L, iH f, jH g, sh_rt sw) Q := by
  refine ap_call (by decide) (Nat.le_of_ble_eq_true rfl) rfl ?_
  refine ap_go kc_27_0 ?_
  refine ap_iload_n rfl ?_; refine ai_iconst ?_
  refine ai_iclt rfl rfl (fun hb0 => ?_) (fun hb0 => ?_) ?_
  · refine ap_go kc_27_13 ?_
    refine ai_iconst ?_; refine ap_goto rfl ?_
    refine ap_go kc_27_18 ?_
    refine ai_zret rfl ?_ ?_
    · exact sq K (by first | rfl | omega | (split <;> omega) | (split <;> split <;> omega))
    all_goals (omega)
  · refine ap_go kc_27_5 ?_
    refine ap_iload_n rfl ?_; refine ap_aload_n rfl ?_; refine ai_getI ow_27 rf_8_88 rfl rfl ?_
    refine ai_icle rfl rfl (fun hb1 => ?_) (fun hb1 => ?_) ?_
    · refine ap_go kc_27_17 ?_
      refine ai_iconst ?_; refine ap_nil ?_
      refine ap_go kc_27_18 ?_
      refine ai_zret rfl ?_ ?_
      · exact sq K (by first | rfl | omega | (split <;> omega) | (split <;> split <;> omega))
      all_goals (omega)
    · refine ap_go kc_27_13 ?_
      refine ai_iconst ?_; refine ap_goto rfl ?_
      refine ap_go kc_27_18 ?_
      refine ai_zret rfl ?_ ?_
      · exact sq K (by first | rfl | omega | (split <;> omega) | (split <;> split <;> omega))
      all_goals (omega)
    all_goals (omega)
  all_goals (omega)

theorem sp_28 {d L : Nat} {sw : Bool} {f g : Nat → Nat → Int} {Q : Option Value → am_H → Prop} {f1 : Nat → Nat → Int} {x y : Int} (hf : am_up f 31 0 0 = f1) (K1 : ¬ (-10000 ≤ x ∧ x ≤ 10000 ∧ -10000 ≤ y ∧ y ≤ 10000) → Q (some (.int (iZ (-2)))) (53, sh_lt L, iH f1, jH g, sh_rt sw)) (K2 : (-10000 ≤ x ∧ x ≤ 10000 ∧ -10000 ≤ y ∧ y ≤ 10000) ∧ f1 31 1 = 60 → Q (some (.int (iZ (-4)))) (53, sh_lt L, iH f1, jH g, sh_rt sw)) (K3 : (-10000 ≤ x ∧ x ≤ 10000 ∧ -10000 ≤ y ∧ y ≤ 10000) ∧ f1 31 1 < 60 → Q (some (.int (iZ ((f1 31 1 + 1))))) (53, sh_lt L, iH (am_up f1 31 1 (f1 31 1 + 1)), jH (am_up (am_up g 32 (f1 31 1 + 1).toNat x) 33 (f1 31 1 + 1).toNat y), sh_rt sw)) (hx : lR x) (hy : lR y) (hc : 0 ≤ f1 31 1 ∧ f1 31 1 ≤ 60) : am_call (d + 1) 28 [.ref 31, .long (lZ x), .long (lZ y)] (53, sh_lt L, iH f, jH g, sh_rt sw) Q := by
  refine ap_call (by decide) (Nat.le_of_ble_eq_true rfl) rfl ?_
  refine ap_go kc_28_0 ?_
  refine ap_aload_n rfl ?_; refine ai_iconst ?_; refine ai_putI ow_28 rf_8_82 rfl rfl rfl ?_
  rw [hf]
  refine ap_lload_n rfl ?_; refine ai_ldc2 (-10000) ow_28 kl_8_91 rfl ?_
  refine ai_lclt rfl rfl (fun hb0 => ?_) (fun hb0 => ?_) ?_
  · refine ap_go kc_28_37 ?_
    refine ai_bipush (by decide) ?_; refine ap_iret rfl ?_
    (try simp only [bz, Decidable.not_not] at *); first | exact K1  (by omega) | exact K2  (by omega) | exact K3  (by omega)
  · refine ap_go kc_28_13 ?_
    refine ap_lload_n rfl ?_; refine ai_ldc2 (10000) ow_28 kl_8_93 rfl ?_
    refine ai_lcgt rfl rfl (fun hb1 => ?_) (fun hb1 => ?_) ?_
    · refine ap_go kc_28_37 ?_
      refine ai_bipush (by decide) ?_; refine ap_iret rfl ?_
      (try simp only [bz, Decidable.not_not] at *); first | exact K1  (by omega) | exact K2  (by omega) | exact K3  (by omega)
    · refine ap_go kc_28_21 ?_
      refine ap_lload_n rfl ?_; refine ai_ldc2 (-10000) ow_28 kl_8_91 rfl ?_
      refine ai_lclt rfl rfl (fun hb2 => ?_) (fun hb2 => ?_) ?_
      · refine ap_go kc_28_37 ?_
        refine ai_bipush (by decide) ?_; refine ap_iret rfl ?_
        (try simp only [bz, Decidable.not_not] at *); first | exact K1  (by omega) | exact K2  (by omega) | exact K3  (by omega)
      · refine ap_go kc_28_29 ?_
        refine ap_lload_n rfl ?_; refine ai_ldc2 (10000) ow_28 kl_8_93 rfl ?_
        refine ai_lcle rfl rfl (fun hb3 => ?_) (fun hb3 => ?_) ?_
        · refine ap_go kc_28_40 ?_
          refine ap_aload_n rfl ?_; refine ai_getI ow_28 rf_8_85 rfl rfl ?_; refine ai_bipush (by decide) ?_
          refine ai_icne rfl rfl (fun hb4 => ?_) (fun hb4 => ?_) ?_
          · refine ap_go kc_28_52 ?_
            refine ap_aload_n rfl ?_; refine ap_dup rfl ?_; refine ai_getI ow_28 rf_8_85 rfl rfl ?_; refine ai_iconst ?_; refine ai_iadd ?_; refine ai_putI ow_28 rf_8_85 rfl rfl rfl ?_; refine ap_aload_n rfl ?_; refine ap_getR ow_28 rf_8_7 rfl rfl rfl ?_; refine ap_aload_n rfl ?_; refine ai_getI ow_28 rf_8_85 rfl rfl ?_; refine ap_lload_n rfl ?_; refine ai_lastore (n := 61) rfl rfl (by decide) ?_ ?_; refine ap_aload_n rfl ?_; refine ap_getR ow_28 rf_8_13 rfl rfl rfl ?_; refine ap_aload_n rfl ?_; refine ai_getI ow_28 rf_8_85 rfl rfl ?_; refine ap_lload_n rfl ?_; refine ai_lastore (n := 61) rfl rfl (by decide) ?_ ?_; refine ap_aload_n rfl ?_; refine ai_getI ow_28 rf_8_85 rfl rfl ?_; refine ap_iret rfl ?_
            · (try simp only [bz, Decidable.not_not] at *); first | exact K1  (by omega) | exact K2  (by omega) | exact K3  (by omega)
            all_goals (first | omega | (simp [am_up] <;> omega))
          · refine ap_go kc_28_49 ?_
            refine ai_bipush (by decide) ?_; refine ap_iret rfl ?_
            (try simp only [bz, Decidable.not_not] at *); first | exact K1  (by omega) | exact K2  (by omega) | exact K3  (by omega)
          all_goals (first | omega | (simp [am_up] <;> omega))
        · refine ap_go kc_28_37 ?_
          refine ai_bipush (by decide) ?_; refine ap_iret rfl ?_
          (try simp only [bz, Decidable.not_not] at *); first | exact K1  (by omega) | exact K2  (by omega) | exact K3  (by omega)
        all_goals (first | omega | (simp [am_up] <;> omega))
      all_goals (first | omega | (simp [am_up] <;> omega))
    all_goals (first | omega | (simp [am_up] <;> omega))
  all_goals (first | omega | (simp [am_up] <;> omega))

theorem sp_30 {d L : Nat} {sw : Bool} {f g : Nat → Nat → Int} {Q : Option Value → am_H → Prop} {f1 : Nat → Nat → Int} {s t b : Int} (hf : am_up f 31 0 0 = f1) (K1 : ¬ ((1 ≤ s ∧ s ≤ f1 31 5) ∧ (1 ≤ t ∧ t ≤ f1 31 5)) → Q (some (.int (iZ (-1)))) (53, sh_lt L, iH f1, jH g, sh_rt sw)) (K2 : ((1 ≤ s ∧ s ≤ f1 31 5) ∧ (1 ≤ t ∧ t ≤ f1 31 5)) ∧ ¬ f1 36 s.toNat = f1 35 t.toNat → Q (some (.int (iZ (-2)))) (53, sh_lt L, iH f1, jH g, sh_rt sw)) (K3 : ((1 ≤ s ∧ s ≤ f1 31 5) ∧ (1 ≤ t ∧ t ≤ f1 31 5)) ∧ f1 36 s.toNat = f1 35 t.toNat → f1 42 (121 * s + t).toNat = b → Q (some (.int (iZ (0)))) (53, sh_lt L, iH (am_up f1 42 (121 * s + t).toNat b), jH g, sh_rt sw)) (K4 : ((1 ≤ s ∧ s ≤ f1 31 5) ∧ (1 ≤ t ∧ t ≤ f1 31 5)) ∧ f1 36 s.toNat = f1 35 t.toNat → ¬ f1 42 (121 * s + t).toNat = b → Q (some (.int (iZ (1)))) (53, sh_lt L, iH (am_up f1 42 (121 * s + t).toNat b), jH g, sh_rt sw)) (hs : iR s) (ht : iR t) (hbb : b = 0 ∨ b = 1) (hc : 0 ≤ f1 31 5 ∧ f1 31 5 ≤ 120) (h6 : ∀ k, iR (f1 35 k)) (h7 : ∀ k, iR (f1 36 k)) (h8 : ∀ k, f1 42 k = 0 ∨ f1 42 k = 1) : am_call (d + 2) 30 [.ref 31, .int (iZ s), .int (iZ t), .int (iZ b)] (53, sh_lt L, iH f, jH g, sh_rt sw) Q := by
  refine ap_call (by decide) (Nat.le_of_ble_eq_true rfl) rfl ?_
  refine ap_go kc_30_0 ?_
  refine ap_aload_n rfl ?_; refine ai_iconst ?_; refine ai_putI ow_30 rf_8_82 rfl rfl rfl ?_
  rw [hf]
  refine ap_aload_n rfl ?_; refine ap_iload_n rfl ?_; refine ap_callv0 ow_30 rm_8_105 na_27 mc_27 ms_27 rfl rfl (Nat.le_of_ble_eq_true rfl) (Nat.le_of_ble_eq_true rfl) (Or.inr rfl) (Nat.zero_le _) (Nat.zero_le _) ?_; refine sp_27 ?_ ?_ ?_; dsimp only [Option.toList_some, Option.toList_none, List.cons_append, List.nil_append]
  refine ai_ifne rfl rfl (fun hb0 => ?_) (fun hb0 => ?_) ?_
  · refine ap_go kc_30_21 ?_
    refine ai_iconst ?_; refine ap_iret rfl ?_
    (try simp only [bz, Decidable.not_not] at *); first | exact K1  (by omega) | exact K2  (by omega) | exact K3 (by omega) (by omega) | exact K4 (by omega) (by omega)
  · refine ap_go kc_30_13 ?_
    refine ap_aload_n rfl ?_; refine ap_iload_n rfl ?_; refine ap_callv0 ow_30 rm_8_105 na_27 mc_27 ms_27 rfl rfl (Nat.le_of_ble_eq_true rfl) (Nat.le_of_ble_eq_true rfl) (Or.inr rfl) (Nat.zero_le _) (Nat.zero_le _) ?_; refine sp_27 ?_ ?_ ?_; dsimp only [Option.toList_some, Option.toList_none, List.cons_append, List.nil_append]
    refine ai_ifeq rfl rfl (fun hb1 => ?_) (fun hb1 => ?_) ?_
    · refine ap_go kc_30_23 ?_
      refine ap_aload_n rfl ?_; refine ap_getR ow_30 rf_8_23 rfl rfl rfl ?_; refine ap_iload_n rfl ?_; refine ai_iaload (n := 121) rfl rfl (by decide) ?_ ?_; refine ap_aload_n rfl ?_; refine ap_getR ow_30 rf_8_19 rfl rfl rfl ?_; refine ap_iload_n rfl ?_; refine ai_iaload (n := 121) rfl rfl (by decide) ?_ ?_
      refine ai_iceq rfl rfl (fun hb2 => ?_) (fun hb2 => ?_) ?_
      · refine ap_go kc_30_41 ?_
        refine ap_aload_n rfl ?_; refine ap_getR ow_30 rf_8_41 rfl rfl rfl ?_; refine ai_bipush (by decide) ?_; refine ap_iload_n rfl ?_; refine ai_imul ?_; refine ap_iload_n rfl ?_; refine ai_iadd ?_; refine ai_baload (n := 14641) rfl rfl (by decide) ?_ ?_; refine ap_istore rfl ?_; refine ap_aload_n rfl ?_; refine ap_getR ow_30 rf_8_41 rfl rfl rfl ?_; refine ai_bipush (by decide) ?_; refine ap_iload_n rfl ?_; refine ai_imul ?_; refine ap_iload_n rfl ?_; refine ai_iadd ?_; refine ap_iload_n rfl ?_; refine ai_bastore (n := 14641) rfl rfl (by decide) ?_ ?_ ?_; refine ap_iload rfl ?_; refine ap_iload_n rfl ?_
        refine ai_icne rfl rfl (fun hb3 => ?_) (fun hb3 => ?_) ?_
        · refine ap_go kc_30_76 ?_
          refine ai_iconst ?_; refine ap_nil ?_
          refine ap_go kc_30_77 ?_
          refine ap_iret rfl ?_
          (try simp only [bz, Decidable.not_not] at *); first | exact K1  (by omega) | exact K2  (by omega) | exact K3 (by omega) (by omega) | exact K4 (by omega) (by omega)
        · refine ap_go kc_30_72 ?_
          refine ai_iconst ?_; refine ap_goto rfl ?_
          refine ap_go kc_30_77 ?_
          refine ap_iret rfl ?_
          (try simp only [bz, Decidable.not_not] at *); first | exact K1  (by omega) | exact K2  (by omega) | exact K3 (by omega) (by omega) | exact K4 (by omega) (by omega)
        all_goals (first | omega | exact ⟨h7 _, h6 _⟩ | (have q := h8 (121 * s + t).toNat; omega) | (simp only [bz, Decidable.not_not] at *; omega) | (split <;> omega))
      · refine ap_go kc_30_38 ?_
        refine ai_bipush (by decide) ?_; refine ap_iret rfl ?_
        (try simp only [bz, Decidable.not_not] at *); first | exact K1  (by omega) | exact K2  (by omega) | exact K3 (by omega) (by omega) | exact K4 (by omega) (by omega)
      all_goals (first | omega | exact ⟨h7 _, h6 _⟩ | (have q := h8 (121 * s + t).toNat; omega) | (simp only [bz, Decidable.not_not] at *; omega) | (split <;> omega))
    · refine ap_go kc_30_21 ?_
      refine ai_iconst ?_; refine ap_iret rfl ?_
      (try simp only [bz, Decidable.not_not] at *); first | exact K1  (by omega) | exact K2  (by omega) | exact K3 (by omega) (by omega) | exact K4 (by omega) (by omega)
    all_goals (first | omega | exact ⟨h7 _, h6 _⟩ | (have q := h8 (121 * s + t).toNat; omega) | (simp only [bz, Decidable.not_not] at *; omega) | (split <;> omega))
  all_goals (first | omega | exact ⟨h7 _, h6 _⟩ | (have q := h8 (121 * s + t).toNat; omega) | (simp only [bz, Decidable.not_not] at *; omega) | (split <;> omega))

theorem lp_31 {d L : Nat} {sw : Bool} {f g : Nat → Nat → Int} {Q : Option Value → am_H → Prop} (hc : 0 ≤ f 31 1 ∧ f 31 1 ≤ 60) (hr : ∀ n, lR (g 34 n)) (K : Q (some (.int (iZ (cZ (fun n => decide (0 < g 34 n)) (f 31 1).toNat)))) (53, sh_lt L, iH f, jH g, sh_rt sw)) : ∀ (m k : Nat) (c i : Int), (f 31 1).toNat = k + m → c = cZ (fun n => decide (0 < g 34 n)) k → i = k + 1 → am_Wp (am_call d) 31 Q 45 [some (.ref 31), none, none, none, some (.int (iZ c)), some (.int (iZ i))] [] (53, sh_lt L, iH f, jH g, sh_rt sw) (0, 0) := by
  intro m
  induction m with
  | zero =>
    intro k c i hk ec ei
    have hb := cZ_in (fun n => decide (0 < g 34 n)) k
    refine ap_go kc_31_45 ?_
    refine ap_iload rfl ?_; refine ap_aload_n rfl ?_; refine ai_getI ow_31 rf_8_85 rfl rfl ?_
    refine ai_icgt rfl rfl (fun hc0 => ?_) (fun hc0 => ?_) ?_
    · refine ap_go kc_31_83 ?_
      refine ap_iload rfl ?_; refine ap_iret rfl ?_
      rw [hk] at K; rw [ec]; exact K
    · exfalso; omega
    all_goals (omega)
  | succ m ih =>
    intro k c i hk ec ei
    have hb := cZ_in (fun n => decide (0 < g 34 n)) k
    have ei' : i.toNat = k + 1 := by omega
    refine ap_go kc_31_45 ?_
    refine ap_iload rfl ?_; refine ap_aload_n rfl ?_; refine ai_getI ow_31 rf_8_85 rfl rfl ?_
    refine ai_icgt rfl rfl (fun hc0 => ?_) (fun hc0 => ?_) ?_
    · exfalso; omega
    · refine ap_go kc_31_54 ?_
      refine ap_aload_n rfl ?_; refine ap_getR ow_31 rf_8_16 rfl rfl rfl ?_; refine ap_iload rfl ?_; refine ai_laload (n := 61) rfl rfl (by decide) ?_ ?_; refine ai_lconst 0 rfl ?_
      refine ai_lcle rfl rfl (fun hc1 => ?_) (fun hc1 => ?_) ?_
      · refine ap_go kc_31_73 ?_
        refine ap_iload rfl ?_; refine ap_nil ?_
        refine ap_go kc_31_75 ?_
        refine ap_istore rfl ?_; refine ai_iinc rfl rfl ?_; refine ap_goto rfl ?_
        exact ih (k + 1) _ _ (by omega) (by rw [ei'] at hc1; simp only [cZ, decide_eq_true_eq]; split <;> omega) (by omega)
      · refine ap_go kc_31_66 ?_
        refine ap_iload rfl ?_; refine ai_iconst ?_; refine ai_iadd ?_; refine ap_goto rfl ?_
        refine ap_go kc_31_75 ?_
        refine ap_istore rfl ?_; refine ai_iinc rfl rfl ?_; refine ap_goto rfl ?_
        exact ih (k + 1) _ _ (by omega) (by rw [ei'] at hc1; simp only [cZ, decide_eq_true_eq]; split <;> omega) (by omega)
      all_goals (first | omega | (have := hr i.toNat; omega))
    all_goals (first | omega | (have := hr i.toNat; omega))
theorem lp_32 {d L : Nat} {sw : Bool} {f g : Nat → Nat → Int} {Q : Option Value → am_H → Prop} (hc : 0 ≤ f 31 5 ∧ f 31 5 ≤ 120) (hp : lR (g 31 14)) (hr : ∀ n, lR (g 41 n)) (K : Q (some (.int (iZ (cZ (fun n => decide (g 31 14 < g 41 n)) (f 31 5).toNat)))) (53, sh_lt L, iH f, jH g, sh_rt sw)) : ∀ (m k : Nat) (c i : Int), (f 31 5).toNat = k + m → c = cZ (fun n => decide (g 31 14 < g 41 n)) k → i = k + 1 → am_Wp (am_call d) 32 Q 60 [some (.ref 31), none, none, none, none, none, some (.int (iZ c)), some (.int (iZ i))] [] (53, sh_lt L, iH f, jH g, sh_rt sw) (0, 0) := by
  intro m
  induction m with
  | zero =>
    intro k c i hk ec ei
    have hb := cZ_in (fun n => decide (g 31 14 < g 41 n)) k
    refine ap_go kc_32_60 ?_
    refine ap_iload rfl ?_; refine ap_aload_n rfl ?_; refine ai_getI ow_32 rf_8_88 rfl rfl ?_
    refine ai_icgt rfl rfl (fun hc0 => ?_) (fun hc0 => ?_) ?_
    · refine ap_go kc_32_101 ?_
      refine ap_iload rfl ?_; refine ap_iret rfl ?_
      rw [hk] at K; rw [ec]; exact K
    · exfalso; omega
    all_goals (omega)
  | succ m ih =>
    intro k c i hk ec ei
    have hb := cZ_in (fun n => decide (g 31 14 < g 41 n)) k
    have ei' : i.toNat = k + 1 := by omega
    refine ap_go kc_32_60 ?_
    refine ap_iload rfl ?_; refine ap_aload_n rfl ?_; refine ai_getI ow_32 rf_8_88 rfl rfl ?_
    refine ai_icgt rfl rfl (fun hc0 => ?_) (fun hc0 => ?_) ?_
    · exfalso; omega
    · refine ap_go kc_32_69 ?_
      refine ap_aload_n rfl ?_; refine ap_getR ow_32 rf_8_38 rfl rfl rfl ?_; refine ap_iload rfl ?_; refine ai_laload (n := 121) rfl rfl (by decide) ?_ ?_; refine ap_aload_n rfl ?_; refine ai_getJ ow_32 rf_8_110 rfl rfl ?_
      refine ai_lcle rfl rfl (fun hc1 => ?_) (fun hc1 => ?_) ?_
      · refine ap_go kc_32_91 ?_
        refine ap_iload rfl ?_; refine ap_nil ?_
        refine ap_go kc_32_93 ?_
        refine ap_istore rfl ?_; refine ai_iinc rfl rfl ?_; refine ap_goto rfl ?_
        exact ih (k + 1) _ _ (by omega) (by rw [ei'] at hc1; simp only [cZ, decide_eq_true_eq]; split <;> omega) (by omega)
      · refine ap_go kc_32_84 ?_
        refine ap_iload rfl ?_; refine ai_iconst ?_; refine ai_iadd ?_; refine ap_goto rfl ?_
        refine ap_go kc_32_93 ?_
        refine ap_istore rfl ?_; refine ai_iinc rfl rfl ?_; refine ap_goto rfl ?_
        exact ih (k + 1) _ _ (by omega) (by rw [ei'] at hc1; simp only [cZ, decide_eq_true_eq]; split <;> omega) (by omega)
      all_goals (first | omega | (have := hr i.toNat; omega))
    all_goals (first | omega | (have := hr i.toNat; omega))

theorem sp_31 {d L : Nat} {sw : Bool} {f g : Nat → Nat → Int} {Q : Option Value → am_H → Prop} {f1 : Nat → Nat → Int} {n p : Int} (hf : am_up f 31 0 0 = f1) (K1 : ¬ (1 ≤ n ∧ n ≤ f1 31 1) → Q (some (.int (iZ (-1)))) (53, sh_lt L, iH f1, jH g, sh_rt sw)) (K2 : (1 ≤ n ∧ n ≤ f1 31 1) ∧ ¬ (0 ≤ p ∧ p ≤ 1000000) → Q (some (.int (iZ (-2)))) (53, sh_lt L, iH f1, jH g, sh_rt sw)) (K3 : (1 ≤ n ∧ n ≤ f1 31 1) ∧ (0 ≤ p ∧ p ≤ 1000000) → Q (some (.int (iZ (cZ (fun k => decide (0 < am_up g 34 n.toNat p 34 k)) (f1 31 1).toNat)))) (53, sh_lt L, iH f1, jH (am_up g 34 n.toNat p), sh_rt sw)) (hn : iR n) (hp : lR p) (hc : 0 ≤ f1 31 1 ∧ f1 31 1 ≤ 60) (hr : ∀ k, lR (g 34 k)) : am_call (d + 2) 31 [.ref 31, .int (iZ n), .long (lZ p)] (53, sh_lt L, iH f, jH g, sh_rt sw) Q := by
  refine ap_call (by decide) (Nat.le_of_ble_eq_true rfl) rfl ?_
  refine ap_go kc_31_0 ?_
  refine ap_aload_n rfl ?_; refine ai_iconst ?_; refine ai_putI ow_31 rf_8_82 rfl rfl rfl ?_
  rw [hf]
  refine ap_aload_n rfl ?_; refine ap_iload_n rfl ?_; refine ap_callv0 ow_31 rm_8_95 na_26 mc_26 ms_26 rfl rfl (Nat.le_of_ble_eq_true rfl) (Nat.le_of_ble_eq_true rfl) (Or.inr rfl) (Nat.zero_le _) (Nat.zero_le _) ?_; refine sp_26 ?_ ?_ ?_; dsimp only [Option.toList_some, Option.toList_none, List.cons_append, List.nil_append]
  refine ai_ifeq rfl rfl (fun hb0 => ?_) (fun hb0 => ?_) ?_
  · refine ap_go kc_31_15 ?_
    refine ap_lload_n rfl ?_; refine ai_lconst 0 rfl ?_
    refine ai_lclt rfl rfl (fun hb1 => ?_) (fun hb1 => ?_) ?_
    · refine ap_go kc_31_29 ?_
      refine ai_bipush (by decide) ?_; refine ap_iret rfl ?_
      (try simp only [bz, Decidable.not_not] at *); first | exact K1  (by omega) | exact K2  (by omega) | exact K3  (by omega)
    · refine ap_go kc_31_21 ?_
      refine ap_lload_n rfl ?_; refine ai_ldc2 (1000000) ow_31 kl_8_108 rfl ?_
      refine ai_lcle rfl rfl (fun hb2 => ?_) (fun hb2 => ?_) ?_
      · refine ap_go kc_31_32 ?_
        refine ap_aload_n rfl ?_; refine ap_getR ow_31 rf_8_16 rfl rfl rfl ?_; refine ap_iload_n rfl ?_; refine ap_lload_n rfl ?_; refine ai_lastore (n := 61) rfl rfl (by decide) ?_ ?_; refine ai_iconst ?_; refine ap_istore rfl ?_; refine ai_iconst ?_; refine ap_istore rfl ?_; refine ap_nil ?_
        · (try simp only [bz, Decidable.not_not] at *); exact am_weak (ls := [some (.ref 31), none, none, none, some (.int (iZ 0)), some (.int (iZ 1))]) (by first | exact am_le_0 | (repeat (first | exact am_le_0 | refine am_le_n ?_ | refine am_le_s ?_))) (lp_31 hc (fun k => by simp only [am_up]; split; omega; exact hr k) (K3 (by omega)) (f1 31 1).toNat 0 0 1 (by omega) rfl rfl)
        all_goals (first | omega | (simp only [bz, Decidable.not_not] at *; omega) | (split <;> omega))
      · refine ap_go kc_31_29 ?_
        refine ai_bipush (by decide) ?_; refine ap_iret rfl ?_
        (try simp only [bz, Decidable.not_not] at *); first | exact K1  (by omega) | exact K2  (by omega) | exact K3  (by omega)
      all_goals (first | omega | (simp only [bz, Decidable.not_not] at *; omega) | (split <;> omega))
    all_goals (first | omega | (simp only [bz, Decidable.not_not] at *; omega) | (split <;> omega))
  · refine ap_go kc_31_13 ?_
    refine ai_iconst ?_; refine ap_iret rfl ?_
    (try simp only [bz, Decidable.not_not] at *); first | exact K1  (by omega) | exact K2  (by omega) | exact K3  (by omega)
  all_goals (first | omega | (simp only [bz, Decidable.not_not] at *; omega) | (split <;> omega))

theorem sp_32 {d L : Nat} {sw : Bool} {f g : Nat → Nat → Int} {Q : Option Value → am_H → Prop} {f1 : Nat → Nat → Int} {s v w : Int} (hf : am_up f 31 0 0 = f1) (K1 : ¬ (1 ≤ s ∧ s ≤ f1 31 5) → Q (some (.int (iZ (-1)))) (53, sh_lt L, iH f1, jH g, sh_rt sw)) (K2 : (1 ≤ s ∧ s ≤ f1 31 5) ∧ ¬ (0 ≤ v ∧ v ≤ 1000 ∧ 0 ≤ w) → Q (some (.int (iZ (-2)))) (53, sh_lt L, iH f1, jH g, sh_rt sw)) (K3 : (1 ≤ s ∧ s ≤ f1 31 5) ∧ (0 ≤ v ∧ v ≤ 1000 ∧ 0 ≤ w) → Q (some (.int (iZ (cZ (fun k => decide (g 31 14 < am_up (am_up g 40 s.toNat v) 41 s.toNat w 41 k)) (f1 31 5).toNat)))) (53, sh_lt L, iH f1, jH (am_up (am_up g 40 s.toNat v) 41 s.toNat w), sh_rt sw)) (hs : iR s) (hv : lR v) (hw : lR w) (hc : 0 ≤ f1 31 5 ∧ f1 31 5 ≤ 120) (hp : lR (g 31 14)) (hr : ∀ k, lR (g 41 k)) : am_call (d + 2) 32 [.ref 31, .int (iZ s), .long (lZ v), .long (lZ w)] (53, sh_lt L, iH f, jH g, sh_rt sw) Q := by
  refine ap_call (by decide) (Nat.le_of_ble_eq_true rfl) rfl ?_
  refine ap_go kc_32_0 ?_
  refine ap_aload_n rfl ?_; refine ai_iconst ?_; refine ai_putI ow_32 rf_8_82 rfl rfl rfl ?_
  rw [hf]
  refine ap_aload_n rfl ?_; refine ap_iload_n rfl ?_; refine ap_callv0 ow_32 rm_8_105 na_27 mc_27 ms_27 rfl rfl (Nat.le_of_ble_eq_true rfl) (Nat.le_of_ble_eq_true rfl) (Or.inr rfl) (Nat.zero_le _) (Nat.zero_le _) ?_; refine sp_27 ?_ ?_ ?_; dsimp only [Option.toList_some, Option.toList_none, List.cons_append, List.nil_append]
  refine ai_ifeq rfl rfl (fun hb0 => ?_) (fun hb0 => ?_) ?_
  · refine ap_go kc_32_15 ?_
    refine ap_lload_n rfl ?_; refine ai_lconst 0 rfl ?_
    refine ai_lclt rfl rfl (fun hb1 => ?_) (fun hb1 => ?_) ?_
    · refine ap_go kc_32_36 ?_
      refine ai_bipush (by decide) ?_; refine ap_iret rfl ?_
      (try simp only [bz, Decidable.not_not] at *); first | exact K1  (by omega) | exact K2  (by omega) | exact K3  (by omega)
    · refine ap_go kc_32_21 ?_
      refine ap_lload_n rfl ?_; refine ai_ldc2 (1000) ow_32 kl_8_101 rfl ?_
      refine ai_lcgt rfl rfl (fun hb2 => ?_) (fun hb2 => ?_) ?_
      · refine ap_go kc_32_36 ?_
        refine ai_bipush (by decide) ?_; refine ap_iret rfl ?_
        (try simp only [bz, Decidable.not_not] at *); first | exact K1  (by omega) | exact K2  (by omega) | exact K3  (by omega)
      · refine ap_go kc_32_29 ?_
        refine ap_lload rfl ?_; refine ai_lconst 0 rfl ?_
        refine ai_lcge rfl rfl (fun hb3 => ?_) (fun hb3 => ?_) ?_
        · refine ap_go kc_32_39 ?_
          refine ap_aload_n rfl ?_; refine ap_getR ow_32 rf_8_35 rfl rfl rfl ?_; refine ap_iload_n rfl ?_; refine ap_lload_n rfl ?_; refine ai_lastore (n := 121) rfl rfl (by decide) ?_ ?_; refine ap_aload_n rfl ?_; refine ap_getR ow_32 rf_8_38 rfl rfl rfl ?_; refine ap_iload_n rfl ?_; refine ap_lload rfl ?_; refine ai_lastore (n := 121) rfl rfl (by decide) ?_ ?_; refine ai_iconst ?_; refine ap_istore rfl ?_; refine ai_iconst ?_; refine ap_istore rfl ?_; refine ap_nil ?_
          · (try simp only [bz, Decidable.not_not] at *); exact am_weak (ls := [some (.ref 31), none, none, none, none, none, some (.int (iZ 0)), some (.int (iZ 1))]) (by first | exact am_le_0 | (repeat (first | exact am_le_0 | refine am_le_n ?_ | refine am_le_s ?_))) (lp_32 (g := am_up (am_up g 40 s.toNat v) 41 s.toNat w) hc hp (fun k => by simp only [am_up]; split; omega; split; omega; exact hr k) (K3 (by omega)) (f1 31 5).toNat 0 0 1 (by omega) rfl rfl)
          all_goals (first | omega | (simp only [bz, Decidable.not_not] at *; omega) | (split <;> omega))
        · refine ap_go kc_32_36 ?_
          refine ai_bipush (by decide) ?_; refine ap_iret rfl ?_
          (try simp only [bz, Decidable.not_not] at *); first | exact K1  (by omega) | exact K2  (by omega) | exact K3  (by omega)
        all_goals (first | omega | (simp only [bz, Decidable.not_not] at *; omega) | (split <;> omega))
      all_goals (first | omega | (simp only [bz, Decidable.not_not] at *; omega) | (split <;> omega))
    all_goals (first | omega | (simp only [bz, Decidable.not_not] at *; omega) | (split <;> omega))
  · refine ap_go kc_32_13 ?_
    refine ai_iconst ?_; refine ap_iret rfl ?_
    (try simp only [bz, Decidable.not_not] at *); first | exact K1  (by omega) | exact K2  (by omega) | exact K3  (by omega)
  all_goals (first | omega | (simp only [bz, Decidable.not_not] at *; omega) | (split <;> omega))

theorem sp_50 {d L : Nat} {sw : Bool} {f g : Nat → Nat → Int} {Q : Option Value → am_H → Prop} {f1 : Nat → Nat → Int} {i : Int} (hf : am_up f 31 0 0 = f1) (K1 : Q (some (.int (iZ (if 0 ≤ i ∧ i < f1 31 23 then f1 47 i.toNat else 0)))) (53, sh_lt L, iH f1, jH g, sh_rt sw)) (hi : iR i) (hc : 0 ≤ f1 31 23 ∧ f1 31 23 ≤ 2600) : am_call (d + 1) 50 [.ref 31, .int (iZ i)] (53, sh_lt L, iH f, jH g, sh_rt sw) Q := by
  refine ap_call (by decide) (Nat.le_of_ble_eq_true rfl) rfl ?_
  refine ap_go kc_50_0 ?_
  refine ap_aload_n rfl ?_; refine ai_iconst ?_; refine ai_putI ow_50 rf_8_82 rfl rfl rfl ?_
  rw [hf]
  refine ap_iload_n rfl ?_
  refine ai_iflt rfl rfl (fun hb0 => ?_) (fun hb0 => ?_) ?_
  · refine ap_go kc_50_17 ?_
    refine ai_iconst ?_; refine ap_goto rfl ?_
    refine ap_go kc_50_27 ?_
    refine ap_iret rfl ?_
    (try simp only [bz, Decidable.not_not] at *); first | (rw [if_pos (by omega)] at K1; exact K1) | (rw [if_neg (by omega)] at K1; exact K1) | first | exact K1
  · refine ap_go kc_50_9 ?_
    refine ap_iload_n rfl ?_; refine ap_aload_n rfl ?_; refine ai_getI ow_50 rf_8_173 rfl rfl ?_
    refine ai_iclt rfl rfl (fun hb1 => ?_) (fun hb1 => ?_) ?_
    · refine ap_go kc_50_21 ?_
      refine ap_aload_n rfl ?_; refine ap_getR ow_50 rf_8_61 rfl rfl rfl ?_; refine ap_iload_n rfl ?_; refine ai_iaload (n := 2600) rfl rfl (by decide) ?_ ?_; refine ap_nil ?_
      · refine ap_go kc_50_27 ?_
        refine ap_iret rfl ?_
        (try simp only [bz, Decidable.not_not] at *); first | (rw [if_pos (by omega)] at K1; exact K1) | (rw [if_neg (by omega)] at K1; exact K1) | first | exact K1
      all_goals (omega)
    · refine ap_go kc_50_17 ?_
      refine ai_iconst ?_; refine ap_goto rfl ?_
      refine ap_go kc_50_27 ?_
      refine ap_iret rfl ?_
      (try simp only [bz, Decidable.not_not] at *); first | (rw [if_pos (by omega)] at K1; exact K1) | (rw [if_neg (by omega)] at K1; exact K1) | first | exact K1
    all_goals (omega)
  all_goals (omega)

theorem sp_51 {d L : Nat} {sw : Bool} {f g : Nat → Nat → Int} {Q : Option Value → am_H → Prop} {f1 : Nat → Nat → Int}  (hf : am_up f 31 0 0 = f1) (K1 : Q (some (.long (lZ (g 31 25)))) (53, sh_lt L, iH f1, jH g, sh_rt sw))  : am_call (d + 1) 51 [.ref 31] (53, sh_lt L, iH f, jH g, sh_rt sw) Q := by
  refine ap_call (by decide) (Nat.le_of_ble_eq_true rfl) rfl ?_
  refine ap_go kc_51_0 ?_
  refine ap_aload_n rfl ?_; refine ai_iconst ?_; refine ai_putI ow_51 rf_8_82 rfl rfl rfl ?_
  rw [hf]
  refine ap_aload_n rfl ?_; refine ai_getJ ow_51 rf_8_66 rfl rfl ?_; refine ap_lret rfl ?_
  (try simp only [bz, Decidable.not_not] at *); first | exact K1

theorem sp_52 {d L : Nat} {sw : Bool} {f g : Nat → Nat → Int} {Q : Option Value → am_H → Prop} {f1 : Nat → Nat → Int}  (hf : am_up f 31 0 0 = f1) (K1 : Q (some (.int (iZ (f1 31 30)))) (53, sh_lt L, iH f1, jH g, sh_rt sw))  : am_call (d + 1) 52 [.ref 31] (53, sh_lt L, iH f, jH g, sh_rt sw) Q := by
  refine ap_call (by decide) (Nat.le_of_ble_eq_true rfl) rfl ?_
  refine ap_go kc_52_0 ?_
  refine ap_aload_n rfl ?_; refine ai_iconst ?_; refine ai_putI ow_52 rf_8_82 rfl rfl rfl ?_
  rw [hf]
  refine ap_aload_n rfl ?_; refine ai_getI ow_52 rf_8_154 rfl rfl ?_; refine ap_iret rfl ?_
  (try simp only [bz, Decidable.not_not] at *); first | exact K1

theorem sp_57 {d L : Nat} {sw : Bool} {f g : Nat → Nat → Int} {Q : Option Value → am_H → Prop} {n i : Int} (K : Q (some (.int (iZ (97 + letZ n i)))) (53, sh_lt L, iH f, jH g, sh_rt sw)) (hn : 0 ≤ n ∧ n < 2147483648) (hi : iR i) : am_call (d + 1) 57 [.int (iZ n), .int (iZ i)] (53, sh_lt L, iH f, jH g, sh_rt sw) Q := by
  refine ap_call (by decide) (Nat.le_of_ble_eq_true rfl) rfl ?_
  refine ap_go kc_57_0 ?_
  refine ai_bipush (by decide) ?_; refine ap_iload_n rfl ?_
  refine ai_ifne rfl rfl (fun hb0 => ?_) (fun hb0 => ?_) ?_
  · refine ap_go kc_57_14 ?_
    refine ap_iload_n rfl ?_; refine ai_iconst ?_
    refine ai_icne rfl rfl (fun hb1 => ?_) (fun hb1 => ?_) ?_
    · refine ap_go kc_57_29 ?_
      refine ap_iload_n rfl ?_; refine ai_bipush (by decide) ?_; refine ai_irem ?_ ?_; refine ap_nil ?_
      · refine ap_go kc_57_33 ?_
        refine ai_iadd ?_; refine ap_iret rfl ?_
        refine sq K ?_; unfold letZ; simp_all
      all_goals (omega)
    · refine ap_go kc_57_19 ?_
      refine ap_iload_n rfl ?_; refine ai_bipush (by decide) ?_; refine ai_idiv ?_ ?_; refine ai_bipush (by decide) ?_; refine ai_irem ?_ ?_; refine ap_goto rfl ?_
      · refine ap_go kc_57_33 ?_
        refine ai_iadd ?_; refine ap_iret rfl ?_
        refine sq K ?_; unfold letZ; simp_all
      all_goals (omega)
    all_goals (omega)
  · refine ap_go kc_57_6 ?_
    refine ap_iload_n rfl ?_; refine ai_sipush (by decide) ?_; refine ai_idiv ?_ ?_; refine ap_goto rfl ?_
    · refine ap_go kc_57_33 ?_
      refine ai_iadd ?_; refine ap_iret rfl ?_
      refine sq K ?_; unfold letZ; simp_all
    all_goals (omega)
  all_goals (omega)
