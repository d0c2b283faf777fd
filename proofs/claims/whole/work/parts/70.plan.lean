/-! THE CLASS'S plan() and replan(), whole -/
theorem rw_in {f0 g0 : Nat → Nat → Int} {D : Nat → Option Nat} {D0 s : Nat} {h r b : Nat → Int} (hM : MOk f0 g0) (hR : Rw f0 g0 D D0 r (D0 % 4096) s h) (hb : ∀ i, D0 % 4096 ≤ i → r i = b i) (hr : ∀ k, -120 ≤ b k ∧ b k ≤ 120) : ∀ k, -120 ≤ r k ∧ r k ≤ 120 := fun k => by
  have m5 := hM.1.2.1
  by_cases z : k < D0 % 4096
  · have := (Rw_ch _ s h hR).2 k z
    omega
  · rw [hb k (by omega)]; exact hr k
theorem sp_5_false {d L : Nat} {f g : Nat → Nat → Int} {Q : Option Value → am_H → Prop} {f0 g0 f2 : Nat → Nat → Int} {D : Nat → Option Nat} {a b k e : Int} (hf2 : f2 = am_up (am_up (am_up (am_up (am_up (am_up f 14 8 a) 14 9 b) 14 10 k) 14 11 (if k = 2 then e else 0)) 7 0 a) 0 7 1)
    (KB : ¬ plOk (f 1 3) a b k e → Q (some (.int (iZ (-2)))) (53, sh_lt L, iH f, jH g, sh_rt false))
    (K0 : plOk (f 1 3) a b k e → ∀ F G, SPR f0 g0 D 29 f2 g 0 F G → Q (some (.int (iZ (-1)))) (53, sh_lt L, iH (am_up (am_up F 27 3 0) 27 1 0), jH (am_up G 27 2 0), sh_rt false))
    (K1 : plOk (f 1 3) a b k e → ∀ F G, SPR f0 g0 D 29 f2 g 1 F G → Q (some (.int (iZ (F 29 1)))) (53, sh_lt L, iH F, jH G, sh_rt true))
    (hr : iR a ∧ iR b ∧ iR k ∧ lR e) (hN : 0 ≤ f 1 3 ∧ f 1 3 ≤ 60) (hM : plOk (f 1 3) a b k e → MOk f0 g0 ∧ UOk f0 ∧ XOk g0 ∧ mg_D (mE f0 g0) (mT f0) D ∧ CW f0 g0 f2 g ∧ CL f0 g0 f2 g ∧ g0 31 14 = g 0 8 + 1 ∧ f0 31 18 ≤ toZ f0) : am_call (d + 7) 5 [.ref 0, .int (iZ a), .int (iZ b), .int (iZ k), .long (lZ e)] (53, sh_lt L, iH f, jH g, sh_rt false) Q := by
  refine ap_call (by decide) (Nat.le_of_ble_eq_true rfl) rfl ?_
  have J77 : plOk (f 1 3) a b k e → am_Wp (am_call (d + 6)) 5 Q 77 [some (.ref 0), none, none, none, none, none] [.int (iZ (if k = 2 then e else 0)), .int (iZ k), .int (iZ b), .int (iZ a), .ref 14] (53, sh_lt L, iH f, jH g, sh_rt false) (0, 0) := by
    intro hok
    obtain ⟨h1, h2, h3, h4, h5, h6, h7, h8⟩ := hM hok
    have K0' := K0 hok
    have K1' := K1 hok
    rw [hf2] at h5 h6 K0' K1'
    refine ap_go kc_5_77 ?_
    refine ap_callv0 ow_5 rm_7_131 na_118 mc_118 ms_118 rfl rfl (Nat.le_of_ble_eq_true rfl) (Nat.le_of_ble_eq_true rfl) (Or.inr rfl) (Nat.zero_le _) (Nat.zero_le _) ?_; refine sp_118 ?_; dsimp only [Option.toList_some, Option.toList_none, List.cons_append, List.nil_append]; refine ap_aload_n rfl ?_; refine ai_iconst ?_; refine ai_putZ ow_5 rf_7_58 rfl rfl rfl ?_ ?_; refine ap_aload_n rfl ?_; refine ap_callv0 ow_5 rm_7_135 na_16 mc_16 ms_16 rfl rfl (Nat.le_of_ble_eq_true rfl) (Nat.le_of_ble_eq_true rfl) (Or.inr rfl) (Nat.zero_le _) (Nat.zero_le _) ?_; refine sp_16_false (f0 := f0) (g0 := g0) (D := D) (fun x F G hS => ?_) h1 h2 h3 h4 h5 h6 h7 h8; dsimp only [Option.toList_some, Option.toList_none, List.cons_append, List.nil_append]
    have hx := SPR_x hS
    refine ai_ifne rfl rfl (fun hb0 => ?_) (fun hb0 => ?_) ?_
    · refine ap_go kc_5_101 ?_
      refine ap_aload_n rfl ?_; refine ap_callv0 ow_5 rm_7_141 na_17 mc_17 ms_17 rfl rfl (Nat.le_of_ble_eq_true rfl) (Nat.le_of_ble_eq_true rfl) (Or.inr rfl) (Nat.zero_le _) (Nat.zero_le _) ?_; refine sp_17_false ?_; dsimp only [Option.toList_some, Option.toList_none, List.cons_append, List.nil_append]; refine ap_aload_n rfl ?_; refine ap_getR ow_5 rf_7_51 rfl rfl rfl ?_; refine ap_callv0 ow_5 rm_7_144 na_109 mc_109 ms_109 rfl rfl (Nat.le_of_ble_eq_true rfl) (Nat.le_of_ble_eq_true rfl) (Or.inr rfl) (Nat.zero_le _) (Nat.zero_le _) ?_; refine sp_109_29 ?_; dsimp only [Option.toList_some, Option.toList_none, List.cons_append, List.nil_append]; refine ap_iret rfl ?_
      first | exact K0' F G (by rw [show x = 0 by omega] at hS; exact hS) | exact K1' F G (by rw [show x = 1 by omega] at hS; exact hS)
    · refine ap_go kc_5_92 ?_
      refine ap_aload_n rfl ?_; refine ap_getR ow_5 rf_7_51 rfl rfl rfl ?_; refine ap_callv0 ow_5 rm_7_138 na_112 mc_112 ms_112 rfl rfl (Nat.le_of_ble_eq_true rfl) (Nat.le_of_ble_eq_true rfl) (Or.inr rfl) (Nat.zero_le _) (Nat.zero_le _) ?_; refine sp_112_27 ?_; dsimp only [Option.toList_some, Option.toList_none, List.cons_append, List.nil_append]; refine ai_iconst ?_; refine ap_iret rfl ?_
      first | exact K0' F G (by rw [show x = 0 by omega] at hS; exact hS) | exact K1' F G (by rw [show x = 1 by omega] at hS; exact hS)
    all_goals (first | omega | exact Or.inr rfl)
  obtain ⟨r1, r2, r3, r4⟩ := hr
  have c82 : ∀ (n : Int) {Q : Option Value → am_H → Prop}, iR n → Q (some (.int (iZ (if 1 ≤ n ∧ n ≤ f 1 3 then 1 else 0)))) (53, sh_lt L, iH f, jH g, sh_rt false) → am_call (d + 6) 82 [.ref 1, .int (iZ n)] (53, sh_lt L, iH f, jH g, sh_rt false) Q := fun n _ hn K => sp_82 K hn (by omega)
  by_cases hok : plOk (f 1 3) a b k e
  · have J := J77 hok
    obtain ⟨o1, o2, o3, o4, o5⟩ := hok
    have ea : (if 1 ≤ a ∧ a ≤ f 1 3 then (1 : Int) else 0) = 1 := if_pos o1
    have eb : (if 1 ≤ b ∧ b ≤ f 1 3 then (1 : Int) else 0) = 1 := if_pos o2
    by_cases hk : k = 2
    · have o5' := o5 hk
      rw [if_pos hk] at J
      refine ap_go kc_5_0 ?_
      refine ap_aload_n rfl ?_; refine ap_getR ow_5 rf_7_14 rfl rfl rfl ?_; refine ap_iload_n rfl ?_; refine ap_callv0 ow_5 rm_7_84 na_82 mc_82 ms_82 rfl rfl (Nat.le_of_ble_eq_true rfl) (Nat.le_of_ble_eq_true rfl) (Or.inr rfl) (Nat.zero_le _) (Nat.zero_le _) ?_; refine c82 _ (by omega) ?_; dsimp only [Option.toList_some, Option.toList_none, List.cons_append, List.nil_append]
      refine ai_ifeq rfl rfl (fun hb0 => ?_) (fun hb0 => ?_) ?_
      · exfalso; omega
      · refine ap_go kc_5_11 ?_
        refine ap_aload_n rfl ?_; refine ap_getR ow_5 rf_7_14 rfl rfl rfl ?_; refine ap_iload_n rfl ?_; refine ap_callv0 ow_5 rm_7_84 na_82 mc_82 ms_82 rfl rfl (Nat.le_of_ble_eq_true rfl) (Nat.le_of_ble_eq_true rfl) (Or.inr rfl) (Nat.zero_le _) (Nat.zero_le _) ?_; refine c82 _ (by omega) ?_; dsimp only [Option.toList_some, Option.toList_none, List.cons_append, List.nil_append]
        refine ai_ifeq rfl rfl (fun hb1 => ?_) (fun hb1 => ?_) ?_
        · exfalso; omega
        · refine ap_go kc_5_22 ?_
          refine ap_iload_n rfl ?_
          refine ai_iflt rfl rfl (fun hb2 => ?_) (fun hb2 => ?_) ?_
          · exfalso; omega
          · refine ap_go kc_5_26 ?_
            refine ap_iload_n rfl ?_; refine ai_iconst ?_
            refine ai_icle rfl rfl (fun hb3 => ?_) (fun hb3 => ?_) ?_
            · refine ap_go kc_5_34 ?_
              refine ap_iload_n rfl ?_; refine ai_iconst ?_
              refine ai_icne rfl rfl (fun hb4 => ?_) (fun hb4 => ?_) ?_
              · refine ap_go kc_5_58 ?_
                refine ap_aload_n rfl ?_; refine ap_getR ow_5 rf_7_30 rfl rfl rfl ?_; refine ap_iload_n rfl ?_; refine ap_iload_n rfl ?_; refine ap_iload_n rfl ?_; refine ap_iload_n rfl ?_; refine ai_iconst ?_
                refine ai_icne rfl rfl (fun hb5 => ?_) (fun hb5 => ?_) ?_
                · exfalso; omega
                · refine ap_go kc_5_70 ?_
                  refine ap_lload rfl ?_; refine ai_l2i ?_; refine ap_goto rfl ?_
                  exact am_weak (by first | exact am_le_0 | (repeat (first | exact am_le_0 | refine am_le_n ?_ | refine am_le_s ?_))) J
                all_goals (first | omega | (rw [ea]; omega) | (rw [eb]; omega))
              · refine ap_go kc_5_39 ?_
                refine ap_lload rfl ?_; refine ai_lconst 0 rfl ?_
                refine ai_lclt rfl rfl (fun hb6 => ?_) (fun hb6 => ?_) ?_
                · exfalso; omega
                · refine ap_go kc_5_46 ?_
                  refine ap_lload rfl ?_; refine ai_ldc2 (20) ow_5 kl_7_129 rfl ?_
                  refine ai_lcle rfl rfl (fun hb7 => ?_) (fun hb7 => ?_) ?_
                  · refine ap_go kc_5_58 ?_
                    refine ap_aload_n rfl ?_; refine ap_getR ow_5 rf_7_30 rfl rfl rfl ?_; refine ap_iload_n rfl ?_; refine ap_iload_n rfl ?_; refine ap_iload_n rfl ?_; refine ap_iload_n rfl ?_; refine ai_iconst ?_
                    refine ai_icne rfl rfl (fun hb8 => ?_) (fun hb8 => ?_) ?_
                    · exfalso; omega
                    · refine ap_go kc_5_70 ?_
                      refine ap_lload rfl ?_; refine ai_l2i ?_; refine ap_goto rfl ?_
                      exact am_weak (by first | exact am_le_0 | (repeat (first | exact am_le_0 | refine am_le_n ?_ | refine am_le_s ?_))) J
                    all_goals (first | omega | (rw [ea]; omega) | (rw [eb]; omega))
                  · exfalso; omega
                  all_goals (first | omega | (rw [ea]; omega) | (rw [eb]; omega))
                all_goals (first | omega | (rw [ea]; omega) | (rw [eb]; omega))
              all_goals (first | omega | (rw [ea]; omega) | (rw [eb]; omega))
            · exfalso; omega
            all_goals (first | omega | (rw [ea]; omega) | (rw [eb]; omega))
          all_goals (first | omega | (rw [ea]; omega) | (rw [eb]; omega))
        all_goals (first | omega | (rw [ea]; omega) | (rw [eb]; omega))
      all_goals (first | omega | (rw [ea]; omega) | (rw [eb]; omega))
    · rw [if_neg hk] at J
      refine ap_go kc_5_0 ?_
      refine ap_aload_n rfl ?_; refine ap_getR ow_5 rf_7_14 rfl rfl rfl ?_; refine ap_iload_n rfl ?_; refine ap_callv0 ow_5 rm_7_84 na_82 mc_82 ms_82 rfl rfl (Nat.le_of_ble_eq_true rfl) (Nat.le_of_ble_eq_true rfl) (Or.inr rfl) (Nat.zero_le _) (Nat.zero_le _) ?_; refine c82 _ (by omega) ?_; dsimp only [Option.toList_some, Option.toList_none, List.cons_append, List.nil_append]
      refine ai_ifeq rfl rfl (fun hb0 => ?_) (fun hb0 => ?_) ?_
      · exfalso; omega
      · refine ap_go kc_5_11 ?_
        refine ap_aload_n rfl ?_; refine ap_getR ow_5 rf_7_14 rfl rfl rfl ?_; refine ap_iload_n rfl ?_; refine ap_callv0 ow_5 rm_7_84 na_82 mc_82 ms_82 rfl rfl (Nat.le_of_ble_eq_true rfl) (Nat.le_of_ble_eq_true rfl) (Or.inr rfl) (Nat.zero_le _) (Nat.zero_le _) ?_; refine c82 _ (by omega) ?_; dsimp only [Option.toList_some, Option.toList_none, List.cons_append, List.nil_append]
        refine ai_ifeq rfl rfl (fun hb1 => ?_) (fun hb1 => ?_) ?_
        · exfalso; omega
        · refine ap_go kc_5_22 ?_
          refine ap_iload_n rfl ?_
          refine ai_iflt rfl rfl (fun hb2 => ?_) (fun hb2 => ?_) ?_
          · exfalso; omega
          · refine ap_go kc_5_26 ?_
            refine ap_iload_n rfl ?_; refine ai_iconst ?_
            refine ai_icle rfl rfl (fun hb3 => ?_) (fun hb3 => ?_) ?_
            · refine ap_go kc_5_34 ?_
              refine ap_iload_n rfl ?_; refine ai_iconst ?_
              refine ai_icne rfl rfl (fun hb4 => ?_) (fun hb4 => ?_) ?_
              · refine ap_go kc_5_58 ?_
                refine ap_aload_n rfl ?_; refine ap_getR ow_5 rf_7_30 rfl rfl rfl ?_; refine ap_iload_n rfl ?_; refine ap_iload_n rfl ?_; refine ap_iload_n rfl ?_; refine ap_iload_n rfl ?_; refine ai_iconst ?_
                refine ai_icne rfl rfl (fun hb5 => ?_) (fun hb5 => ?_) ?_
                · refine ap_go kc_5_76 ?_
                  refine ai_iconst ?_; refine ap_nil ?_
                  exact am_weak (by first | exact am_le_0 | (repeat (first | exact am_le_0 | refine am_le_n ?_ | refine am_le_s ?_))) J
                · exfalso; omega
                all_goals (first | omega | (rw [ea]; omega) | (rw [eb]; omega))
              · exfalso; omega
              all_goals (first | omega | (rw [ea]; omega) | (rw [eb]; omega))
            · exfalso; omega
            all_goals (first | omega | (rw [ea]; omega) | (rw [eb]; omega))
          all_goals (first | omega | (rw [ea]; omega) | (rw [eb]; omega))
        all_goals (first | omega | (rw [ea]; omega) | (rw [eb]; omega))
      all_goals (first | omega | (rw [ea]; omega) | (rw [eb]; omega))
  · have hK := KB hok
    have hno : ¬ ((1 ≤ a ∧ a ≤ f 1 3) ∧ (1 ≤ b ∧ b ≤ f 1 3) ∧ 0 ≤ k ∧ k ≤ 2 ∧ (k = 2 → 0 ≤ e ∧ e ≤ 20)) := hok
    have ia : (if 1 ≤ a ∧ a ≤ f 1 3 then (1 : Int) else 0) = 0 ∨ (1 ≤ a ∧ a ≤ f 1 3) ∧ (if 1 ≤ a ∧ a ≤ f 1 3 then (1 : Int) else 0) = 1 := by split; exact Or.inr ⟨by assumption, rfl⟩; exact Or.inl rfl
    have ib : (if 1 ≤ b ∧ b ≤ f 1 3 then (1 : Int) else 0) = 0 ∨ (1 ≤ b ∧ b ≤ f 1 3) ∧ (if 1 ≤ b ∧ b ≤ f 1 3 then (1 : Int) else 0) = 1 := by split; exact Or.inr ⟨by assumption, rfl⟩; exact Or.inl rfl
    clear hok KB K0 K1 hM J77
    refine ap_go kc_5_0 ?_
    refine ap_aload_n rfl ?_; refine ap_getR ow_5 rf_7_14 rfl rfl rfl ?_; refine ap_iload_n rfl ?_; refine ap_callv0 ow_5 rm_7_84 na_82 mc_82 ms_82 rfl rfl (Nat.le_of_ble_eq_true rfl) (Nat.le_of_ble_eq_true rfl) (Or.inr rfl) (Nat.zero_le _) (Nat.zero_le _) ?_; refine c82 _ (by omega) ?_; dsimp only [Option.toList_some, Option.toList_none, List.cons_append, List.nil_append]
    refine ai_ifeq rfl rfl (fun hb0 => ?_) (fun hb0 => ?_) ?_
    · refine ap_go kc_5_31 ?_
      refine ai_bipush (by decide) ?_; refine ap_iret rfl ?_
      exact hK
    · refine ap_go kc_5_11 ?_
      refine ap_aload_n rfl ?_; refine ap_getR ow_5 rf_7_14 rfl rfl rfl ?_; refine ap_iload_n rfl ?_; refine ap_callv0 ow_5 rm_7_84 na_82 mc_82 ms_82 rfl rfl (Nat.le_of_ble_eq_true rfl) (Nat.le_of_ble_eq_true rfl) (Or.inr rfl) (Nat.zero_le _) (Nat.zero_le _) ?_; refine c82 _ (by omega) ?_; dsimp only [Option.toList_some, Option.toList_none, List.cons_append, List.nil_append]
      refine ai_ifeq rfl rfl (fun hb1 => ?_) (fun hb1 => ?_) ?_
      · refine ap_go kc_5_31 ?_
        refine ai_bipush (by decide) ?_; refine ap_iret rfl ?_
        exact hK
      · refine ap_go kc_5_22 ?_
        refine ap_iload_n rfl ?_
        refine ai_iflt rfl rfl (fun hb2 => ?_) (fun hb2 => ?_) ?_
        · refine ap_go kc_5_31 ?_
          refine ai_bipush (by decide) ?_; refine ap_iret rfl ?_
          exact hK
        · refine ap_go kc_5_26 ?_
          refine ap_iload_n rfl ?_; refine ai_iconst ?_
          refine ai_icle rfl rfl (fun hb3 => ?_) (fun hb3 => ?_) ?_
          · refine ap_go kc_5_34 ?_
            refine ap_iload_n rfl ?_; refine ai_iconst ?_
            refine ai_icne rfl rfl (fun hb4 => ?_) (fun hb4 => ?_) ?_
            · exfalso; omega
            · refine ap_go kc_5_39 ?_
              refine ap_lload rfl ?_; refine ai_lconst 0 rfl ?_
              refine ai_lclt rfl rfl (fun hb5 => ?_) (fun hb5 => ?_) ?_
              · refine ap_go kc_5_55 ?_
                refine ai_bipush (by decide) ?_; refine ap_iret rfl ?_
                exact hK
              · refine ap_go kc_5_46 ?_
                refine ap_lload rfl ?_; refine ai_ldc2 (20) ow_5 kl_7_129 rfl ?_
                refine ai_lcle rfl rfl (fun hb6 => ?_) (fun hb6 => ?_) ?_
                · exfalso; omega
                · refine ap_go kc_5_55 ?_
                  refine ai_bipush (by decide) ?_; refine ap_iret rfl ?_
                  exact hK
                all_goals (omega)
              all_goals (omega)
            all_goals (omega)
          · refine ap_go kc_5_31 ?_
            refine ai_bipush (by decide) ?_; refine ap_iret rfl ?_
            exact hK
          all_goals (omega)
        all_goals (omega)
      all_goals (omega)
    all_goals (omega)
theorem sp_10_false {d L : Nat} {f g : Nat → Nat → Int} {Q : Option Value → am_H → Prop} {f0 g0 : Nat → Nat → Int} {D : Nat → Option Nat} {gn : Int} {n : Nat}
    (KA : gn < 0 → Q (some (.int (iZ (-2)))) (53, sh_lt L, iH f, jH g, sh_rt false)) (KB : 0 ≤ gn ∧ f 0 7 = 0 → Q (some (.int (iZ (-3)))) (53, sh_lt L, iH f, jH g, sh_rt false))
    (K0 : 0 ≤ gn ∧ f 0 7 = 1 → ∀ F G, SPR f0 g0 D 29 f g 0 F G → Q (some (.int (iZ 0))) (53, sh_lt L, iH F, jH G, sh_rt false))
    (K1 : 0 ≤ gn ∧ f 0 7 = 1 → ∀ F G G2, SPR f0 g0 D 29 f g 1 F G → (∀ a, a ≠ 23 → G2 a = G a) → wrZ f0 g0 27 29 F G gn 0 → Q (some (.int (iZ 0))) (53, sh_lt L, iH F, jH G2, sh_rt false))
    (K2 : 0 ≤ gn ∧ f 0 7 = 1 → ∀ F G G2, SPR f0 g0 D 29 f g 1 F G → (∀ a, a ≠ 23 → G2 a = G a) → wrZ f0 g0 27 29 F G gn 1 → Q (some (.int (iZ 1))) (53, sh_lt L, iH F, jH G2, sh_rt true))
    (hgn : lR gn) (h07 : f 0 7 = 0 ∨ f 0 7 = 1) (hM : f 0 7 = 1 → MOk f0 g0 ∧ UOk f0 ∧ XOk g0 ∧ mg_D (mE f0 g0) (mT f0) D ∧ CW f0 g0 f g ∧ CL f0 g0 f g ∧ g0 31 14 = g 0 8 + 1 ∧ f0 31 18 ≤ toZ f0) (h3 : f 27 3 = 0 ∨ f 27 3 = 1) (hn : f 27 1 = (n : Int)) (hn2 : n ≤ 2400) (hrw : ∀ k, -120 ≤ f 28 k ∧ f 28 k ≤ 120) (hrv : ∀ k, -120 ≤ f 30 k ∧ f 30 k ≤ 120) (hch : f 0 7 = 1 → f 27 3 = 1 → chO f0 (fun i => aZ (f 28 i)) n) : am_call (d + 7) 10 [.ref 0, .long (lZ gn)] (53, sh_lt L, iH f, jH g, sh_rt false) Q := by
  refine ap_call (by decide) (Nat.le_of_ble_eq_true rfl) rfl ?_
  by_cases hg : gn < 0
  · have hK := KA hg
    refine ap_go kc_10_0 ?_
    refine ap_lload_n rfl ?_; refine ai_lconst 0 rfl ?_
    refine ai_lcge rfl rfl (fun hb0 => ?_) (fun hb0 => ?_) ?_
    · exfalso; omega
    · refine ap_go kc_10_6 ?_
      refine ai_bipush (by decide) ?_; refine ap_iret rfl ?_
      exact hK
    all_goals (omega)
  · by_cases h0 : f 0 7 = 0
    · have hK := KB ⟨by omega, h0⟩
      refine ap_go kc_10_0 ?_
      refine ap_lload_n rfl ?_; refine ai_lconst 0 rfl ?_
      refine ai_lcge rfl rfl (fun hb0 => ?_) (fun hb0 => ?_) ?_
      · refine ap_go kc_10_9 ?_
        refine ap_aload_n rfl ?_; refine ai_getZ ow_10 rf_7_58 rfl rfl ?_
        refine ai_ifne rfl rfl (fun hb1 => ?_) (fun hb1 => ?_) ?_
        · exfalso; omega
        · refine ap_go kc_10_16 ?_
          refine ai_bipush (by decide) ?_; refine ap_iret rfl ?_
          exact hK
        all_goals (omega)
      · exfalso; omega
      all_goals (omega)
    · have hok : 0 ≤ gn ∧ f 0 7 = 1 := by omega
      obtain ⟨h1, h2, hX, h4, h5, h6, h7, h8⟩ := hM hok.2
      have hch' := hch hok.2
      have m18 := h1.1.2.2.2.2.2
      have h20 := toZ_in f0
      have J26 : ∀ F G, SPR f0 g0 D 29 f g 1 F G → am_Wp (am_call (d + 6)) 10 Q 26 [some (.ref 0), some (.long (lZ gn)), none] [] (53, sh_lt L, iH F, jH G, sh_rt false) (0, 0) := by
        intro F G hS
        have hS2 := hS
        obtain ⟨⟨s1, s2, s3, s4, s5, s6⟩, hS3⟩ := hS2
        rcases hS3 with ⟨z, _⟩ | ⟨_, y0, D0, s, h, y1, y2, y3, y4, y5, y6⟩
        · exact absurd z (by decide)
        have eW : F 27 = f 27 := s1 27 (by decide) (by decide) (by decide) (by decide) (by decide) (by decide) (by decide) (by decide)
        have eR : F 28 = f 28 := s1 28 (by decide) (by decide) (by decide) (by decide) (by decide) (by decide) (by decide) (by decide)
        have hdm := D_mod h1 h4 (v := (f0 31 18).toNat) (by omega) y1
        have hdf := D_few h1 h2 h4 (v := (f0 31 18).toNat) (by omega) y1
        have hrv2 : ∀ k, -120 ≤ F 30 k ∧ F 30 k ≤ 120 := rw_in h1 y2 y6 hrv
        have hK1 := K1 hok F G
        have hK2 := K2 hok F G
        refine ap_go kc_10_26 ?_
        refine ap_aload_n rfl ?_; refine ap_lload_n rfl ?_; refine ap_callv0 ow_10 rm_7_181 na_18 mc_18 ms_18 rfl rfl (Nat.le_of_ble_eq_true rfl) (Nat.le_of_ble_eq_true rfl) (Or.inr rfl) (Nat.zero_le _) (Nat.zero_le _) ?_; refine sp_18_false (f0 := f0) (g0 := g0) (n := n) (fun x G2 hG2 hw => ?_) h1 s6 h8 hgn (by rw [eW]; exact h3) (by rw [eW]; exact hn) hn2 (by rw [y3]; omega) (by rw [y5]; omega) (fun k => by rw [eR]; have := hrw k; omega) (fun k => by have := hrv2 k; omega) (by rw [eW, eR]; exact hch'); dsimp only [Option.toList_some, Option.toList_none, List.cons_append, List.nil_append]
        have hx : x = 0 ∨ x = 1 := hw.elim (fun z => Or.inr z.2) (fun z => by (obtain ⟨_, _, _, _, _, z⟩ := z; exact z.1))
        refine ai_ifne rfl rfl (fun hb0 => ?_) (fun hb0 => ?_) ?_
        · refine ap_go kc_10_36 ?_
          refine ap_aload_n rfl ?_; refine ap_callv0 ow_10 rm_7_141 na_17 mc_17 ms_17 rfl rfl (Nat.le_of_ble_eq_true rfl) (Nat.le_of_ble_eq_true rfl) (Or.inr rfl) (Nat.zero_le _) (Nat.zero_le _) ?_; refine sp_17_false ?_; dsimp only [Option.toList_some, Option.toList_none, List.cons_append, List.nil_append]; refine ai_iconst ?_; refine ap_iret rfl ?_
          first | exact hK1 G2 hS hG2 (by rw [show x = 0 by omega] at hw; exact hw) | exact hK2 G2 hS hG2 (by rw [show x = 1 by omega] at hw; exact hw)
        · refine ap_go kc_10_34 ?_
          refine ai_iconst ?_; refine ap_iret rfl ?_
          first | exact hK1 G2 hS hG2 (by rw [show x = 0 by omega] at hw; exact hw) | exact hK2 G2 hS hG2 (by rw [show x = 1 by omega] at hw; exact hw)
        all_goals (omega)
      have hK0 := K0 hok
      refine ap_go kc_10_0 ?_
      refine ap_lload_n rfl ?_; refine ai_lconst 0 rfl ?_
      refine ai_lcge rfl rfl (fun hb0 => ?_) (fun hb0 => ?_) ?_
      · refine ap_go kc_10_9 ?_
        refine ap_aload_n rfl ?_; refine ai_getZ ow_10 rf_7_58 rfl rfl ?_
        refine ai_ifne rfl rfl (fun hb1 => ?_) (fun hb1 => ?_) ?_
        · refine ap_go kc_10_19 ?_
          refine ap_aload_n rfl ?_; refine ap_callv0 ow_10 rm_7_135 na_16 mc_16 ms_16 rfl rfl (Nat.le_of_ble_eq_true rfl) (Nat.le_of_ble_eq_true rfl) (Or.inr rfl) (Nat.zero_le _) (Nat.zero_le _) ?_; refine sp_16_false (f0 := f0) (g0 := g0) (D := D) (fun x F G hS => ?_) h1 h2 hX h4 h5 h6 h7 h8; dsimp only [Option.toList_some, Option.toList_none, List.cons_append, List.nil_append]
          have hx := SPR_x hS
          refine ai_ifeq rfl rfl (fun hb2 => ?_) (fun hb2 => ?_) ?_
          · refine ap_go kc_10_34 ?_
            refine ai_iconst ?_; refine ap_iret rfl ?_
            exact hK0 F G (by rw [show x = 0 by omega] at hS; exact hS)
          · exact am_weak (by first | exact am_le_0 | (repeat (first | exact am_le_0 | refine am_le_n ?_ | refine am_le_s ?_))) (J26 F G (by rw [show x = 1 by omega] at hS; exact hS))
          all_goals (omega)
        · exfalso; omega
        all_goals (omega)
      · exfalso; omega
      all_goals (omega)
theorem sp_5_true {d L : Nat} {f g : Nat → Nat → Int} {Q : Option Value → am_H → Prop} {f0 g0 f2 : Nat → Nat → Int} {D : Nat → Option Nat} {a b k e : Int} (hf2 : f2 = am_up (am_up (am_up (am_up (am_up (am_up f 14 8 a) 14 9 b) 14 10 k) 14 11 (if k = 2 then e else 0)) 7 0 a) 0 7 1)
    (KB : ¬ plOk (f 1 3) a b k e → Q (some (.int (iZ (-2)))) (53, sh_lt L, iH f, jH g, sh_rt true))
    (K0 : plOk (f 1 3) a b k e → ∀ F G, SPR f0 g0 D 27 f2 g 0 F G → Q (some (.int (iZ (-1)))) (53, sh_lt L, iH (am_up (am_up F 29 3 0) 29 1 0), jH (am_up G 29 2 0), sh_rt true))
    (K1 : plOk (f 1 3) a b k e → ∀ F G, SPR f0 g0 D 27 f2 g 1 F G → Q (some (.int (iZ (F 27 1)))) (53, sh_lt L, iH F, jH G, sh_rt false))
    (hr : iR a ∧ iR b ∧ iR k ∧ lR e) (hN : 0 ≤ f 1 3 ∧ f 1 3 ≤ 60) (hM : plOk (f 1 3) a b k e → MOk f0 g0 ∧ UOk f0 ∧ XOk g0 ∧ mg_D (mE f0 g0) (mT f0) D ∧ CW f0 g0 f2 g ∧ CL f0 g0 f2 g ∧ g0 31 14 = g 0 8 + 1 ∧ f0 31 18 ≤ toZ f0) : am_call (d + 7) 5 [.ref 0, .int (iZ a), .int (iZ b), .int (iZ k), .long (lZ e)] (53, sh_lt L, iH f, jH g, sh_rt true) Q := by
  refine ap_call (by decide) (Nat.le_of_ble_eq_true rfl) rfl ?_
  have J77 : plOk (f 1 3) a b k e → am_Wp (am_call (d + 6)) 5 Q 77 [some (.ref 0), none, none, none, none, none] [.int (iZ (if k = 2 then e else 0)), .int (iZ k), .int (iZ b), .int (iZ a), .ref 14] (53, sh_lt L, iH f, jH g, sh_rt true) (0, 0) := by
    intro hok
    obtain ⟨h1, h2, h3, h4, h5, h6, h7, h8⟩ := hM hok
    have K0' := K0 hok
    have K1' := K1 hok
    rw [hf2] at h5 h6 K0' K1'
    refine ap_go kc_5_77 ?_
    refine ap_callv0 ow_5 rm_7_131 na_118 mc_118 ms_118 rfl rfl (Nat.le_of_ble_eq_true rfl) (Nat.le_of_ble_eq_true rfl) (Or.inr rfl) (Nat.zero_le _) (Nat.zero_le _) ?_; refine sp_118 ?_; dsimp only [Option.toList_some, Option.toList_none, List.cons_append, List.nil_append]; refine ap_aload_n rfl ?_; refine ai_iconst ?_; refine ai_putZ ow_5 rf_7_58 rfl rfl rfl ?_ ?_; refine ap_aload_n rfl ?_; refine ap_callv0 ow_5 rm_7_135 na_16 mc_16 ms_16 rfl rfl (Nat.le_of_ble_eq_true rfl) (Nat.le_of_ble_eq_true rfl) (Or.inr rfl) (Nat.zero_le _) (Nat.zero_le _) ?_; refine sp_16_true (f0 := f0) (g0 := g0) (D := D) (fun x F G hS => ?_) h1 h2 h3 h4 h5 h6 h7 h8; dsimp only [Option.toList_some, Option.toList_none, List.cons_append, List.nil_append]
    have hx := SPR_x hS
    refine ai_ifne rfl rfl (fun hb0 => ?_) (fun hb0 => ?_) ?_
    · refine ap_go kc_5_101 ?_
      refine ap_aload_n rfl ?_; refine ap_callv0 ow_5 rm_7_141 na_17 mc_17 ms_17 rfl rfl (Nat.le_of_ble_eq_true rfl) (Nat.le_of_ble_eq_true rfl) (Or.inr rfl) (Nat.zero_le _) (Nat.zero_le _) ?_; refine sp_17_true ?_; dsimp only [Option.toList_some, Option.toList_none, List.cons_append, List.nil_append]; refine ap_aload_n rfl ?_; refine ap_getR ow_5 rf_7_51 rfl rfl rfl ?_; refine ap_callv0 ow_5 rm_7_144 na_109 mc_109 ms_109 rfl rfl (Nat.le_of_ble_eq_true rfl) (Nat.le_of_ble_eq_true rfl) (Or.inr rfl) (Nat.zero_le _) (Nat.zero_le _) ?_; refine sp_109_27 ?_; dsimp only [Option.toList_some, Option.toList_none, List.cons_append, List.nil_append]; refine ap_iret rfl ?_
      first | exact K0' F G (by rw [show x = 0 by omega] at hS; exact hS) | exact K1' F G (by rw [show x = 1 by omega] at hS; exact hS)
    · refine ap_go kc_5_92 ?_
      refine ap_aload_n rfl ?_; refine ap_getR ow_5 rf_7_51 rfl rfl rfl ?_; refine ap_callv0 ow_5 rm_7_138 na_112 mc_112 ms_112 rfl rfl (Nat.le_of_ble_eq_true rfl) (Nat.le_of_ble_eq_true rfl) (Or.inr rfl) (Nat.zero_le _) (Nat.zero_le _) ?_; refine sp_112_29 ?_; dsimp only [Option.toList_some, Option.toList_none, List.cons_append, List.nil_append]; refine ai_iconst ?_; refine ap_iret rfl ?_
      first | exact K0' F G (by rw [show x = 0 by omega] at hS; exact hS) | exact K1' F G (by rw [show x = 1 by omega] at hS; exact hS)
    all_goals (first | omega | exact Or.inr rfl)
  obtain ⟨r1, r2, r3, r4⟩ := hr
  have c82 : ∀ (n : Int) {Q : Option Value → am_H → Prop}, iR n → Q (some (.int (iZ (if 1 ≤ n ∧ n ≤ f 1 3 then 1 else 0)))) (53, sh_lt L, iH f, jH g, sh_rt true) → am_call (d + 6) 82 [.ref 1, .int (iZ n)] (53, sh_lt L, iH f, jH g, sh_rt true) Q := fun n _ hn K => sp_82 K hn (by omega)
  by_cases hok : plOk (f 1 3) a b k e
  · have J := J77 hok
    obtain ⟨o1, o2, o3, o4, o5⟩ := hok
    have ea : (if 1 ≤ a ∧ a ≤ f 1 3 then (1 : Int) else 0) = 1 := if_pos o1
    have eb : (if 1 ≤ b ∧ b ≤ f 1 3 then (1 : Int) else 0) = 1 := if_pos o2
    by_cases hk : k = 2
    · have o5' := o5 hk
      rw [if_pos hk] at J
      refine ap_go kc_5_0 ?_
      refine ap_aload_n rfl ?_; refine ap_getR ow_5 rf_7_14 rfl rfl rfl ?_; refine ap_iload_n rfl ?_; refine ap_callv0 ow_5 rm_7_84 na_82 mc_82 ms_82 rfl rfl (Nat.le_of_ble_eq_true rfl) (Nat.le_of_ble_eq_true rfl) (Or.inr rfl) (Nat.zero_le _) (Nat.zero_le _) ?_; refine c82 _ (by omega) ?_; dsimp only [Option.toList_some, Option.toList_none, List.cons_append, List.nil_append]
      refine ai_ifeq rfl rfl (fun hb0 => ?_) (fun hb0 => ?_) ?_
      · exfalso; omega
      · refine ap_go kc_5_11 ?_
        refine ap_aload_n rfl ?_; refine ap_getR ow_5 rf_7_14 rfl rfl rfl ?_; refine ap_iload_n rfl ?_; refine ap_callv0 ow_5 rm_7_84 na_82 mc_82 ms_82 rfl rfl (Nat.le_of_ble_eq_true rfl) (Nat.le_of_ble_eq_true rfl) (Or.inr rfl) (Nat.zero_le _) (Nat.zero_le _) ?_; refine c82 _ (by omega) ?_; dsimp only [Option.toList_some, Option.toList_none, List.cons_append, List.nil_append]
        refine ai_ifeq rfl rfl (fun hb1 => ?_) (fun hb1 => ?_) ?_
        · exfalso; omega
        · refine ap_go kc_5_22 ?_
          refine ap_iload_n rfl ?_
          refine ai_iflt rfl rfl (fun hb2 => ?_) (fun hb2 => ?_) ?_
          · exfalso; omega
          · refine ap_go kc_5_26 ?_
            refine ap_iload_n rfl ?_; refine ai_iconst ?_
            refine ai_icle rfl rfl (fun hb3 => ?_) (fun hb3 => ?_) ?_
            · refine ap_go kc_5_34 ?_
              refine ap_iload_n rfl ?_; refine ai_iconst ?_
              refine ai_icne rfl rfl (fun hb4 => ?_) (fun hb4 => ?_) ?_
              · refine ap_go kc_5_58 ?_
                refine ap_aload_n rfl ?_; refine ap_getR ow_5 rf_7_30 rfl rfl rfl ?_; refine ap_iload_n rfl ?_; refine ap_iload_n rfl ?_; refine ap_iload_n rfl ?_; refine ap_iload_n rfl ?_; refine ai_iconst ?_
                refine ai_icne rfl rfl (fun hb5 => ?_) (fun hb5 => ?_) ?_
                · exfalso; omega
                · refine ap_go kc_5_70 ?_
                  refine ap_lload rfl ?_; refine ai_l2i ?_; refine ap_goto rfl ?_
                  exact am_weak (by first | exact am_le_0 | (repeat (first | exact am_le_0 | refine am_le_n ?_ | refine am_le_s ?_))) J
                all_goals (first | omega | (rw [ea]; omega) | (rw [eb]; omega))
              · refine ap_go kc_5_39 ?_
                refine ap_lload rfl ?_; refine ai_lconst 0 rfl ?_
                refine ai_lclt rfl rfl (fun hb6 => ?_) (fun hb6 => ?_) ?_
                · exfalso; omega
                · refine ap_go kc_5_46 ?_
                  refine ap_lload rfl ?_; refine ai_ldc2 (20) ow_5 kl_7_129 rfl ?_
                  refine ai_lcle rfl rfl (fun hb7 => ?_) (fun hb7 => ?_) ?_
                  · refine ap_go kc_5_58 ?_
                    refine ap_aload_n rfl ?_; refine ap_getR ow_5 rf_7_30 rfl rfl rfl ?_; refine ap_iload_n rfl ?_; refine ap_iload_n rfl ?_; refine ap_iload_n rfl ?_; refine ap_iload_n rfl ?_; refine ai_iconst ?_
                    refine ai_icne rfl rfl (fun hb8 => ?_) (fun hb8 => ?_) ?_
                    · exfalso; omega
                    · refine ap_go kc_5_70 ?_
                      refine ap_lload rfl ?_; refine ai_l2i ?_; refine ap_goto rfl ?_
                      exact am_weak (by first | exact am_le_0 | (repeat (first | exact am_le_0 | refine am_le_n ?_ | refine am_le_s ?_))) J
                    all_goals (first | omega | (rw [ea]; omega) | (rw [eb]; omega))
                  · exfalso; omega
                  all_goals (first | omega | (rw [ea]; omega) | (rw [eb]; omega))
                all_goals (first | omega | (rw [ea]; omega) | (rw [eb]; omega))
              all_goals (first | omega | (rw [ea]; omega) | (rw [eb]; omega))
            · exfalso; omega
            all_goals (first | omega | (rw [ea]; omega) | (rw [eb]; omega))
          all_goals (first | omega | (rw [ea]; omega) | (rw [eb]; omega))
        all_goals (first | omega | (rw [ea]; omega) | (rw [eb]; omega))
      all_goals (first | omega | (rw [ea]; omega) | (rw [eb]; omega))
    · rw [if_neg hk] at J
      refine ap_go kc_5_0 ?_
      refine ap_aload_n rfl ?_; refine ap_getR ow_5 rf_7_14 rfl rfl rfl ?_; refine ap_iload_n rfl ?_; refine ap_callv0 ow_5 rm_7_84 na_82 mc_82 ms_82 rfl rfl (Nat.le_of_ble_eq_true rfl) (Nat.le_of_ble_eq_true rfl) (Or.inr rfl) (Nat.zero_le _) (Nat.zero_le _) ?_; refine c82 _ (by omega) ?_; dsimp only [Option.toList_some, Option.toList_none, List.cons_append, List.nil_append]
      refine ai_ifeq rfl rfl (fun hb0 => ?_) (fun hb0 => ?_) ?_
      · exfalso; omega
      · refine ap_go kc_5_11 ?_
        refine ap_aload_n rfl ?_; refine ap_getR ow_5 rf_7_14 rfl rfl rfl ?_; refine ap_iload_n rfl ?_; refine ap_callv0 ow_5 rm_7_84 na_82 mc_82 ms_82 rfl rfl (Nat.le_of_ble_eq_true rfl) (Nat.le_of_ble_eq_true rfl) (Or.inr rfl) (Nat.zero_le _) (Nat.zero_le _) ?_; refine c82 _ (by omega) ?_; dsimp only [Option.toList_some, Option.toList_none, List.cons_append, List.nil_append]
        refine ai_ifeq rfl rfl (fun hb1 => ?_) (fun hb1 => ?_) ?_
        · exfalso; omega
        · refine ap_go kc_5_22 ?_
          refine ap_iload_n rfl ?_
          refine ai_iflt rfl rfl (fun hb2 => ?_) (fun hb2 => ?_) ?_
          · exfalso; omega
          · refine ap_go kc_5_26 ?_
            refine ap_iload_n rfl ?_; refine ai_iconst ?_
            refine ai_icle rfl rfl (fun hb3 => ?_) (fun hb3 => ?_) ?_
            · refine ap_go kc_5_34 ?_
              refine ap_iload_n rfl ?_; refine ai_iconst ?_
              refine ai_icne rfl rfl (fun hb4 => ?_) (fun hb4 => ?_) ?_
              · refine ap_go kc_5_58 ?_
                refine ap_aload_n rfl ?_; refine ap_getR ow_5 rf_7_30 rfl rfl rfl ?_; refine ap_iload_n rfl ?_; refine ap_iload_n rfl ?_; refine ap_iload_n rfl ?_; refine ap_iload_n rfl ?_; refine ai_iconst ?_
                refine ai_icne rfl rfl (fun hb5 => ?_) (fun hb5 => ?_) ?_
                · refine ap_go kc_5_76 ?_
                  refine ai_iconst ?_; refine ap_nil ?_
                  exact am_weak (by first | exact am_le_0 | (repeat (first | exact am_le_0 | refine am_le_n ?_ | refine am_le_s ?_))) J
                · exfalso; omega
                all_goals (first | omega | (rw [ea]; omega) | (rw [eb]; omega))
              · exfalso; omega
              all_goals (first | omega | (rw [ea]; omega) | (rw [eb]; omega))
            · exfalso; omega
            all_goals (first | omega | (rw [ea]; omega) | (rw [eb]; omega))
          all_goals (first | omega | (rw [ea]; omega) | (rw [eb]; omega))
        all_goals (first | omega | (rw [ea]; omega) | (rw [eb]; omega))
      all_goals (first | omega | (rw [ea]; omega) | (rw [eb]; omega))
  · have hK := KB hok
    have hno : ¬ ((1 ≤ a ∧ a ≤ f 1 3) ∧ (1 ≤ b ∧ b ≤ f 1 3) ∧ 0 ≤ k ∧ k ≤ 2 ∧ (k = 2 → 0 ≤ e ∧ e ≤ 20)) := hok
    have ia : (if 1 ≤ a ∧ a ≤ f 1 3 then (1 : Int) else 0) = 0 ∨ (1 ≤ a ∧ a ≤ f 1 3) ∧ (if 1 ≤ a ∧ a ≤ f 1 3 then (1 : Int) else 0) = 1 := by split; exact Or.inr ⟨by assumption, rfl⟩; exact Or.inl rfl
    have ib : (if 1 ≤ b ∧ b ≤ f 1 3 then (1 : Int) else 0) = 0 ∨ (1 ≤ b ∧ b ≤ f 1 3) ∧ (if 1 ≤ b ∧ b ≤ f 1 3 then (1 : Int) else 0) = 1 := by split; exact Or.inr ⟨by assumption, rfl⟩; exact Or.inl rfl
    clear hok KB K0 K1 hM J77
    refine ap_go kc_5_0 ?_
    refine ap_aload_n rfl ?_; refine ap_getR ow_5 rf_7_14 rfl rfl rfl ?_; refine ap_iload_n rfl ?_; refine ap_callv0 ow_5 rm_7_84 na_82 mc_82 ms_82 rfl rfl (Nat.le_of_ble_eq_true rfl) (Nat.le_of_ble_eq_true rfl) (Or.inr rfl) (Nat.zero_le _) (Nat.zero_le _) ?_; refine c82 _ (by omega) ?_; dsimp only [Option.toList_some, Option.toList_none, List.cons_append, List.nil_append]
    refine ai_ifeq rfl rfl (fun hb0 => ?_) (fun hb0 => ?_) ?_
    · refine ap_go kc_5_31 ?_
      refine ai_bipush (by decide) ?_; refine ap_iret rfl ?_
      exact hK
    · refine ap_go kc_5_11 ?_
      refine ap_aload_n rfl ?_; refine ap_getR ow_5 rf_7_14 rfl rfl rfl ?_; refine ap_iload_n rfl ?_; refine ap_callv0 ow_5 rm_7_84 na_82 mc_82 ms_82 rfl rfl (Nat.le_of_ble_eq_true rfl) (Nat.le_of_ble_eq_true rfl) (Or.inr rfl) (Nat.zero_le _) (Nat.zero_le _) ?_; refine c82 _ (by omega) ?_; dsimp only [Option.toList_some, Option.toList_none, List.cons_append, List.nil_append]
      refine ai_ifeq rfl rfl (fun hb1 => ?_) (fun hb1 => ?_) ?_
      · refine ap_go kc_5_31 ?_
        refine ai_bipush (by decide) ?_; refine ap_iret rfl ?_
        exact hK
      · refine ap_go kc_5_22 ?_
        refine ap_iload_n rfl ?_
        refine ai_iflt rfl rfl (fun hb2 => ?_) (fun hb2 => ?_) ?_
        · refine ap_go kc_5_31 ?_
          refine ai_bipush (by decide) ?_; refine ap_iret rfl ?_
          exact hK
        · refine ap_go kc_5_26 ?_
          refine ap_iload_n rfl ?_; refine ai_iconst ?_
          refine ai_icle rfl rfl (fun hb3 => ?_) (fun hb3 => ?_) ?_
          · refine ap_go kc_5_34 ?_
            refine ap_iload_n rfl ?_; refine ai_iconst ?_
            refine ai_icne rfl rfl (fun hb4 => ?_) (fun hb4 => ?_) ?_
            · exfalso; omega
            · refine ap_go kc_5_39 ?_
              refine ap_lload rfl ?_; refine ai_lconst 0 rfl ?_
              refine ai_lclt rfl rfl (fun hb5 => ?_) (fun hb5 => ?_) ?_
              · refine ap_go kc_5_55 ?_
                refine ai_bipush (by decide) ?_; refine ap_iret rfl ?_
                exact hK
              · refine ap_go kc_5_46 ?_
                refine ap_lload rfl ?_; refine ai_ldc2 (20) ow_5 kl_7_129 rfl ?_
                refine ai_lcle rfl rfl (fun hb6 => ?_) (fun hb6 => ?_) ?_
                · exfalso; omega
                · refine ap_go kc_5_55 ?_
                  refine ai_bipush (by decide) ?_; refine ap_iret rfl ?_
                  exact hK
                all_goals (omega)
              all_goals (omega)
            all_goals (omega)
          · refine ap_go kc_5_31 ?_
            refine ai_bipush (by decide) ?_; refine ap_iret rfl ?_
            exact hK
          all_goals (omega)
        all_goals (omega)
      all_goals (omega)
    all_goals (omega)
theorem sp_10_true {d L : Nat} {f g : Nat → Nat → Int} {Q : Option Value → am_H → Prop} {f0 g0 : Nat → Nat → Int} {D : Nat → Option Nat} {gn : Int} {n : Nat}
    (KA : gn < 0 → Q (some (.int (iZ (-2)))) (53, sh_lt L, iH f, jH g, sh_rt true)) (KB : 0 ≤ gn ∧ f 0 7 = 0 → Q (some (.int (iZ (-3)))) (53, sh_lt L, iH f, jH g, sh_rt true))
    (K0 : 0 ≤ gn ∧ f 0 7 = 1 → ∀ F G, SPR f0 g0 D 27 f g 0 F G → Q (some (.int (iZ 0))) (53, sh_lt L, iH F, jH G, sh_rt true))
    (K1 : 0 ≤ gn ∧ f 0 7 = 1 → ∀ F G G2, SPR f0 g0 D 27 f g 1 F G → (∀ a, a ≠ 23 → G2 a = G a) → wrZ f0 g0 29 27 F G gn 0 → Q (some (.int (iZ 0))) (53, sh_lt L, iH F, jH G2, sh_rt true))
    (K2 : 0 ≤ gn ∧ f 0 7 = 1 → ∀ F G G2, SPR f0 g0 D 27 f g 1 F G → (∀ a, a ≠ 23 → G2 a = G a) → wrZ f0 g0 29 27 F G gn 1 → Q (some (.int (iZ 1))) (53, sh_lt L, iH F, jH G2, sh_rt false))
    (hgn : lR gn) (h07 : f 0 7 = 0 ∨ f 0 7 = 1) (hM : f 0 7 = 1 → MOk f0 g0 ∧ UOk f0 ∧ XOk g0 ∧ mg_D (mE f0 g0) (mT f0) D ∧ CW f0 g0 f g ∧ CL f0 g0 f g ∧ g0 31 14 = g 0 8 + 1 ∧ f0 31 18 ≤ toZ f0) (h3 : f 29 3 = 0 ∨ f 29 3 = 1) (hn : f 29 1 = (n : Int)) (hn2 : n ≤ 2400) (hrw : ∀ k, -120 ≤ f 30 k ∧ f 30 k ≤ 120) (hrv : ∀ k, -120 ≤ f 28 k ∧ f 28 k ≤ 120) (hch : f 0 7 = 1 → f 29 3 = 1 → chO f0 (fun i => aZ (f 30 i)) n) : am_call (d + 7) 10 [.ref 0, .long (lZ gn)] (53, sh_lt L, iH f, jH g, sh_rt true) Q := by
  refine ap_call (by decide) (Nat.le_of_ble_eq_true rfl) rfl ?_
  by_cases hg : gn < 0
  · have hK := KA hg
    refine ap_go kc_10_0 ?_
    refine ap_lload_n rfl ?_; refine ai_lconst 0 rfl ?_
    refine ai_lcge rfl rfl (fun hb0 => ?_) (fun hb0 => ?_) ?_
    · exfalso; omega
    · refine ap_go kc_10_6 ?_
      refine ai_bipush (by decide) ?_; refine ap_iret rfl ?_
      exact hK
    all_goals (omega)
  · by_cases h0 : f 0 7 = 0
    · have hK := KB ⟨by omega, h0⟩
      refine ap_go kc_10_0 ?_
      refine ap_lload_n rfl ?_; refine ai_lconst 0 rfl ?_
      refine ai_lcge rfl rfl (fun hb0 => ?_) (fun hb0 => ?_) ?_
      · refine ap_go kc_10_9 ?_
        refine ap_aload_n rfl ?_; refine ai_getZ ow_10 rf_7_58 rfl rfl ?_
        refine ai_ifne rfl rfl (fun hb1 => ?_) (fun hb1 => ?_) ?_
        · exfalso; omega
        · refine ap_go kc_10_16 ?_
          refine ai_bipush (by decide) ?_; refine ap_iret rfl ?_
          exact hK
        all_goals (omega)
      · exfalso; omega
      all_goals (omega)
    · have hok : 0 ≤ gn ∧ f 0 7 = 1 := by omega
      obtain ⟨h1, h2, hX, h4, h5, h6, h7, h8⟩ := hM hok.2
      have hch' := hch hok.2
      have m18 := h1.1.2.2.2.2.2
      have h20 := toZ_in f0
      have J26 : ∀ F G, SPR f0 g0 D 27 f g 1 F G → am_Wp (am_call (d + 6)) 10 Q 26 [some (.ref 0), some (.long (lZ gn)), none] [] (53, sh_lt L, iH F, jH G, sh_rt true) (0, 0) := by
        intro F G hS
        have hS2 := hS
        obtain ⟨⟨s1, s2, s3, s4, s5, s6⟩, hS3⟩ := hS2
        rcases hS3 with ⟨z, _⟩ | ⟨_, y0, D0, s, h, y1, y2, y3, y4, y5, y6⟩
        · exact absurd z (by decide)
        have eW : F 29 = f 29 := s1 29 (by decide) (by decide) (by decide) (by decide) (by decide) (by decide) (by decide) (by decide)
        have eR : F 30 = f 30 := s1 30 (by decide) (by decide) (by decide) (by decide) (by decide) (by decide) (by decide) (by decide)
        have hdm := D_mod h1 h4 (v := (f0 31 18).toNat) (by omega) y1
        have hdf := D_few h1 h2 h4 (v := (f0 31 18).toNat) (by omega) y1
        have hrv2 : ∀ k, -120 ≤ F 28 k ∧ F 28 k ≤ 120 := rw_in h1 y2 y6 hrv
        have hK1 := K1 hok F G
        have hK2 := K2 hok F G
        refine ap_go kc_10_26 ?_
        refine ap_aload_n rfl ?_; refine ap_lload_n rfl ?_; refine ap_callv0 ow_10 rm_7_181 na_18 mc_18 ms_18 rfl rfl (Nat.le_of_ble_eq_true rfl) (Nat.le_of_ble_eq_true rfl) (Or.inr rfl) (Nat.zero_le _) (Nat.zero_le _) ?_; refine sp_18_true (f0 := f0) (g0 := g0) (n := n) (fun x G2 hG2 hw => ?_) h1 s6 h8 hgn (by rw [eW]; exact h3) (by rw [eW]; exact hn) hn2 (by rw [y3]; omega) (by rw [y5]; omega) (fun k => by rw [eR]; have := hrw k; omega) (fun k => by have := hrv2 k; omega) (by rw [eW, eR]; exact hch'); dsimp only [Option.toList_some, Option.toList_none, List.cons_append, List.nil_append]
        have hx : x = 0 ∨ x = 1 := hw.elim (fun z => Or.inr z.2) (fun z => by (obtain ⟨_, _, _, _, _, z⟩ := z; exact z.1))
        refine ai_ifne rfl rfl (fun hb0 => ?_) (fun hb0 => ?_) ?_
        · refine ap_go kc_10_36 ?_
          refine ap_aload_n rfl ?_; refine ap_callv0 ow_10 rm_7_141 na_17 mc_17 ms_17 rfl rfl (Nat.le_of_ble_eq_true rfl) (Nat.le_of_ble_eq_true rfl) (Or.inr rfl) (Nat.zero_le _) (Nat.zero_le _) ?_; refine sp_17_true ?_; dsimp only [Option.toList_some, Option.toList_none, List.cons_append, List.nil_append]; refine ai_iconst ?_; refine ap_iret rfl ?_
          first | exact hK1 G2 hS hG2 (by rw [show x = 0 by omega] at hw; exact hw) | exact hK2 G2 hS hG2 (by rw [show x = 1 by omega] at hw; exact hw)
        · refine ap_go kc_10_34 ?_
          refine ai_iconst ?_; refine ap_iret rfl ?_
          first | exact hK1 G2 hS hG2 (by rw [show x = 0 by omega] at hw; exact hw) | exact hK2 G2 hS hG2 (by rw [show x = 1 by omega] at hw; exact hw)
        all_goals (omega)
      have hK0 := K0 hok
      refine ap_go kc_10_0 ?_
      refine ap_lload_n rfl ?_; refine ai_lconst 0 rfl ?_
      refine ai_lcge rfl rfl (fun hb0 => ?_) (fun hb0 => ?_) ?_
      · refine ap_go kc_10_9 ?_
        refine ap_aload_n rfl ?_; refine ai_getZ ow_10 rf_7_58 rfl rfl ?_
        refine ai_ifne rfl rfl (fun hb1 => ?_) (fun hb1 => ?_) ?_
        · refine ap_go kc_10_19 ?_
          refine ap_aload_n rfl ?_; refine ap_callv0 ow_10 rm_7_135 na_16 mc_16 ms_16 rfl rfl (Nat.le_of_ble_eq_true rfl) (Nat.le_of_ble_eq_true rfl) (Or.inr rfl) (Nat.zero_le _) (Nat.zero_le _) ?_; refine sp_16_true (f0 := f0) (g0 := g0) (D := D) (fun x F G hS => ?_) h1 h2 hX h4 h5 h6 h7 h8; dsimp only [Option.toList_some, Option.toList_none, List.cons_append, List.nil_append]
          have hx := SPR_x hS
          refine ai_ifeq rfl rfl (fun hb2 => ?_) (fun hb2 => ?_) ?_
          · refine ap_go kc_10_34 ?_
            refine ai_iconst ?_; refine ap_iret rfl ?_
            exact hK0 F G (by rw [show x = 0 by omega] at hS; exact hS)
          · exact am_weak (by first | exact am_le_0 | (repeat (first | exact am_le_0 | refine am_le_n ?_ | refine am_le_s ?_))) (J26 F G (by rw [show x = 1 by omega] at hS; exact hS))
          all_goals (omega)
        · exfalso; omega
        all_goals (omega)
      · exfalso; omega
      all_goals (omega)
