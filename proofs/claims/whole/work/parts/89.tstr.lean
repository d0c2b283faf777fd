/-! STREET() TO ITS THROW: the abstract walk -/
theorem ax_gx {j : Nat} {C : am_C} {Q : Option Value → am_H → Prop} {X : am_X} (h1 : ∀ pc ls st h u, am_run j C Q X (am_code j pc) pc (ls, st, h, u) → X pc ls st h u) {pc : Nat} {ls : am_L} {st : List Value} {h : am_H} {u : am_U} {b : List Jvm.ClassFile.Instr} (eb : am_code j pc = b) (K : am_run j C Q X b pc (ls, st, h, u)) : X pc ls st h u :=
  h1 pc ls st h u (by rw [eb]; exact K)
theorem tg_2 {d L : Nat} {sw : Bool} {f g : Nat → Nat → Int} {Q : Option Value → am_H → Prop} {X : am_X} {a b m v c : Int} (h1 : ∀ pc ls st h u, am_run 2 (am_call (d + 1)) Q X (am_code 2 pc) pc (ls, st, h, u) → X pc ls st h u) (K96 : ∀ ls, X 96 ls [] (53, sh_lt L, iH f, jH g, sh_rt sw) (0, 0)) (ha : iR a) (hb : iR b) (hm : lR m) (hv : lR v) (hcc : iR c) (hc : 0 ≤ f 1 3 ∧ f 1 3 ≤ 60) (hs : 0 ≤ f 5 8 ∧ f 5 8 ≤ 120) (ht : (1 ≤ a ∧ a ≤ f 1 3 ∧ 1 ≤ b ∧ b ≤ f 1 3) ∧ (¬ a = b ∧ 1 ≤ m ∧ m ≤ 100000 ∧ 0 ≤ v ∧ v ≤ 1000 ∧ 0 ≤ c ∧ c ≤ 3) ∧ f 5 8 < 120 ∧ v = 0) : X 0 (am_en 2 [.ref 0, .int (iZ a), .int (iZ b), .long (lZ m), .long (lZ v), .int (iZ c)]) [] (53, sh_lt L, iH f, jH g, sh_rt sw) (0, 0) := by
  show X 0 [some (.ref 0), some (.int (iZ a)), some (.int (iZ b)), some (.long (lZ m)), none, some (.long (lZ v)), none, some (.int (iZ c))] [] _ _
  refine ax_gx h1 kc_2_0 ?_
  refine ap_aload_n rfl ?_; refine ap_getR ow_2 rf_7_14 rfl rfl rfl ?_; refine ap_iload_n rfl ?_; refine ap_callv0 ow_2 rm_7_84 na_82 mc_82 ms_82 rfl rfl (Nat.le_of_ble_eq_true rfl) (Nat.le_of_ble_eq_true rfl) (Or.inr rfl) (Nat.zero_le _) (Nat.zero_le _) ?_; refine sp_82 ?_ ?_ ?_; dsimp only [Option.toList_some, Option.toList_none, List.cons_append, List.nil_append]
  refine ai_ifeq rfl rfl (fun hb0 => ?_) (fun hb0 => ?_) ?_
  · refine ax_gx h1 kc_2_22 ?_
    refine ai_iconst ?_; refine ap_iret rfl ?_
    exfalso; (try simp only [bz, Decidable.not_not] at *); omega
  · refine ax_gx h1 kc_2_11 ?_
    refine ap_aload_n rfl ?_; refine ap_getR ow_2 rf_7_14 rfl rfl rfl ?_; refine ap_iload_n rfl ?_; refine ap_callv0 ow_2 rm_7_84 na_82 mc_82 ms_82 rfl rfl (Nat.le_of_ble_eq_true rfl) (Nat.le_of_ble_eq_true rfl) (Or.inr rfl) (Nat.zero_le _) (Nat.zero_le _) ?_; refine sp_82 ?_ ?_ ?_; dsimp only [Option.toList_some, Option.toList_none, List.cons_append, List.nil_append]
    refine ai_ifne rfl rfl (fun hb1 => ?_) (fun hb1 => ?_) ?_
    · refine ax_gx h1 kc_2_24 ?_
      refine ap_iload_n rfl ?_; refine ap_iload_n rfl ?_
      refine ai_iceq rfl rfl (fun hb2 => ?_) (fun hb2 => ?_) ?_
      · refine ax_gx h1 kc_2_43 ?_
        refine ai_bipush (by decide) ?_; refine ap_iret rfl ?_
        exfalso; (try simp only [bz, Decidable.not_not] at *); omega
      · refine ax_gx h1 kc_2_29 ?_
        refine ap_lload_n rfl ?_; refine ai_lconst 1 rfl ?_
        refine ai_lclt rfl rfl (fun hb3 => ?_) (fun hb3 => ?_) ?_
        · refine ax_gx h1 kc_2_43 ?_
          refine ai_bipush (by decide) ?_; refine ap_iret rfl ?_
          exfalso; (try simp only [bz, Decidable.not_not] at *); omega
        · refine ax_gx h1 kc_2_35 ?_
          refine ap_lload_n rfl ?_; refine ai_ldc2 (100000) ow_2 kl_7_88 rfl ?_
          refine ai_lcle rfl rfl (fun hb4 => ?_) (fun hb4 => ?_) ?_
          · refine ax_gx h1 kc_2_46 ?_
            refine ap_lload rfl ?_; refine ai_lconst 0 rfl ?_
            refine ai_lclt rfl rfl (fun hb5 => ?_) (fun hb5 => ?_) ?_
            · refine ax_gx h1 kc_2_73 ?_
              refine ai_bipush (by decide) ?_; refine ap_iret rfl ?_
              exfalso; (try simp only [bz, Decidable.not_not] at *); omega
            · refine ax_gx h1 kc_2_53 ?_
              refine ap_lload rfl ?_; refine ai_ldc2 (1000) ow_2 kl_7_90 rfl ?_
              refine ai_lcgt rfl rfl (fun hb6 => ?_) (fun hb6 => ?_) ?_
              · refine ax_gx h1 kc_2_73 ?_
                refine ai_bipush (by decide) ?_; refine ap_iret rfl ?_
                exfalso; (try simp only [bz, Decidable.not_not] at *); omega
              · refine ax_gx h1 kc_2_62 ?_
                refine ap_iload rfl ?_
                refine ai_iflt rfl rfl (fun hb7 => ?_) (fun hb7 => ?_) ?_
                · refine ax_gx h1 kc_2_73 ?_
                  refine ai_bipush (by decide) ?_; refine ap_iret rfl ?_
                  exfalso; (try simp only [bz, Decidable.not_not] at *); omega
                · refine ax_gx h1 kc_2_67 ?_
                  refine ap_iload rfl ?_; refine ai_iconst ?_
                  refine ai_icle rfl rfl (fun hb8 => ?_) (fun hb8 => ?_) ?_
                  · refine ax_gx h1 kc_2_76 ?_
                    refine ap_aload_n rfl ?_; refine ap_getR ow_2 rf_7_21 rfl rfl rfl ?_; refine ap_callv0 ow_2 rm_7_92 na_95 mc_95 ms_95 rfl rfl (Nat.le_of_ble_eq_true rfl) (Nat.le_of_ble_eq_true rfl) (Or.inr rfl) (Nat.zero_le _) (Nat.zero_le _) ?_; refine sp_95 ?_ ?_; dsimp only [Option.toList_some, Option.toList_none, List.cons_append, List.nil_append]
                    refine ai_ifeq rfl rfl (fun hb9 => ?_) (fun hb9 => ?_) ?_
                    · refine ax_gx h1 kc_2_89 ?_
                      refine ap_lload rfl ?_; refine ai_lconst 0 rfl ?_
                      refine ai_lcne rfl rfl (fun hb10 => ?_) (fun hb10 => ?_) ?_
                      · exfalso; (try simp only [bz, Decidable.not_not] at *); omega
                      · exact K96 _
                      all_goals (first | omega | (split <;> omega) | (simp only [bz, Decidable.not_not] at *; omega))
                    · refine ax_gx h1 kc_2_86 ?_
                      refine ai_bipush (by decide) ?_; refine ap_iret rfl ?_
                      exfalso; (try simp only [bz, Decidable.not_not] at *); omega
                    all_goals (first | omega | (split <;> omega) | (simp only [bz, Decidable.not_not] at *; omega))
                  · refine ax_gx h1 kc_2_73 ?_
                    refine ai_bipush (by decide) ?_; refine ap_iret rfl ?_
                    exfalso; (try simp only [bz, Decidable.not_not] at *); omega
                  all_goals (first | omega | (split <;> omega) | (simp only [bz, Decidable.not_not] at *; omega))
                all_goals (first | omega | (split <;> omega) | (simp only [bz, Decidable.not_not] at *; omega))
              all_goals (first | omega | (split <;> omega) | (simp only [bz, Decidable.not_not] at *; omega))
            all_goals (first | omega | (split <;> omega) | (simp only [bz, Decidable.not_not] at *; omega))
          · refine ax_gx h1 kc_2_43 ?_
            refine ai_bipush (by decide) ?_; refine ap_iret rfl ?_
            exfalso; (try simp only [bz, Decidable.not_not] at *); omega
          all_goals (first | omega | (split <;> omega) | (simp only [bz, Decidable.not_not] at *; omega))
        all_goals (first | omega | (split <;> omega) | (simp only [bz, Decidable.not_not] at *; omega))
      all_goals (first | omega | (split <;> omega) | (simp only [bz, Decidable.not_not] at *; omega))
    · refine ax_gx h1 kc_2_22 ?_
      refine ai_iconst ?_; refine ap_iret rfl ?_
      exfalso; (try simp only [bz, Decidable.not_not] at *); omega
    all_goals (first | omega | (split <;> omega) | (simp only [bz, Decidable.not_not] at *; omega))
  all_goals (first | omega | (split <;> omega) | (simp only [bz, Decidable.not_not] at *; omega))
