/-! ADVICE of the reference, once more -/
theorem sp_53b {d L : Nat} {sw : Bool} {f g : Nat → Nat → Int} {Q : Option Value → am_H → Prop} {f1 : Nat → Nat → Int} {i w : Int} (hf : am_up f 31 0 0 = f1) (K1 : ¬ (0 ≤ i ∧ i ≤ f1 31 23 - 2) → Q (some (.int (iZ (-1)))) (53, sh_lt L, iH f1, jH g, sh_rt sw)) (K2 : (0 ≤ i ∧ i ≤ f1 31 23 - 2) ∧ (w < 0 ∨ 2 < w) → Q (some (.int (iZ (-2)))) (53, sh_lt L, iH f1, jH g, sh_rt sw)) (K3 : (0 ≤ i ∧ i ≤ f1 31 23 - 2) ∧ w = 0 → Q (some (.int (iZ (advZ ((g 32 (f1 36 (f1 47 i.toNat).toNat).toNat - g 32 (f1 35 (f1 47 i.toNat).toNat).toNat) * (g 33 (f1 36 (f1 47 (i + 1).toNat).toNat).toNat - g 33 (f1 35 (f1 47 (i + 1).toNat).toNat).toNat) - (g 33 (f1 36 (f1 47 i.toNat).toNat).toNat - g 33 (f1 35 (f1 47 i.toNat).toNat).toNat) * (g 32 (f1 36 (f1 47 (i + 1).toNat).toNat).toNat - g 32 (f1 35 (f1 47 (i + 1).toNat).toNat).toNat)) ((g 32 (f1 36 (f1 47 i.toNat).toNat).toNat - g 32 (f1 35 (f1 47 i.toNat).toNat).toNat) * (g 32 (f1 36 (f1 47 (i + 1).toNat).toNat).toNat - g 32 (f1 35 (f1 47 (i + 1).toNat).toNat).toNat) + (g 33 (f1 36 (f1 47 i.toNat).toNat).toNat - g 33 (f1 35 (f1 47 i.toNat).toNat).toNat) * (g 33 (f1 36 (f1 47 (i + 1).toNat).toNat).toNat - g 33 (f1 35 (f1 47 (i + 1).toNat).toNat).toNat)))))) (53, sh_lt L, iH f1, jH g, sh_rt sw)) (K4 : (0 ≤ i ∧ i ≤ f1 31 23 - 2) ∧ w = 1 → Q (some (.int (iZ (f1 47 (i + 1).toNat)))) (53, sh_lt L, iH f1, jH g, sh_rt sw)) (K5 : (0 ≤ i ∧ i ≤ f1 31 23 - 2) ∧ w = 2 ∧ ¬ f1 48 i.toNat = 0 → Q (some (.int (iZ (0)))) (53, sh_lt L, iH (am_up f1 48 i.toNat 1), jH g, sh_rt sw)) (K6 : (0 ≤ i ∧ i ≤ f1 31 23 - 2) ∧ w = 2 ∧ f1 48 i.toNat = 0 → Q (some (.int (iZ (1)))) (53, sh_lt L, iH (am_up f1 48 i.toNat 1), jH g, sh_rt sw)) (hi : iR i) (hw : iR w) (hs : 0 ≤ f1 31 23 ∧ f1 31 23 ≤ 2600) (hrow : ∀ k : Nat, (k : Int) < f1 31 23 → 1 ≤ f1 47 k ∧ f1 47 k ≤ 120) (hq : ∀ k, k < 2600 → f1 48 k = 0 ∨ f1 48 k = 1) (hst : ∀ s : Nat, 1 ≤ s → s ≤ 120 → (0 ≤ f1 35 s ∧ f1 35 s < 61) ∧ (0 ≤ f1 36 s ∧ f1 36 s < 61)) (hX : ∀ k, -10000 ≤ g 32 k ∧ g 32 k ≤ 10000) (hY : ∀ k, -10000 ≤ g 33 k ∧ g 33 k ≤ 10000) : am_call (d + 1) 53 [.ref 31, .int (iZ i), .int (iZ w)] (53, sh_lt L, iH f, jH g, sh_rt sw) Q := by
  have he := adv_e (f := f1) hX hY (f1 47 i.toNat).toNat (f1 47 (i + 1).toNat).toNat
  simp only [eX, eY] at he
  have q1 : 0 ≤ i → i ≤ f1 31 23 - 2 → (1 ≤ f1 47 i.toNat ∧ f1 47 i.toNat ≤ 120) ∧ (1 ≤ f1 47 (i + 1).toNat ∧ f1 47 (i + 1).toNat ≤ 120) := fun a b => ⟨hrow _ (by omega), hrow _ (by omega)⟩
  have q : 0 ≤ i ∧ i ≤ f1 31 23 - 2 → (f1 48 i.toNat = 0 ∨ f1 48 i.toNat = 1) := fun z => hq i.toNat (by omega)
  refine ap_call (by decide) (Nat.le_of_ble_eq_true rfl) rfl ?_
  refine ap_go kc_53_0 ?_
  refine ap_aload_n rfl ?_; refine ai_iconst ?_; refine ai_putI ow_53 rf_8_82 rfl rfl rfl ?_
  rw [hf]
  refine ap_iload_n rfl ?_
  refine ai_iflt rfl rfl (fun hb0 => ?_) (fun hb0 => ?_) ?_
  · refine ap_go kc_53_19 ?_
    refine ai_iconst ?_; refine ap_iret rfl ?_
    first | (have e0 := K3 (by omega); rw [adv_m] at e0; refine sq e0 ?_; (repeat' split) <;> omega) | exact K1  (by omega) | exact K2  (by omega) | exact K3  (by omega) | exact K4  (by omega) | exact K5  (by omega) | exact K6  (by omega)
  · refine ap_go kc_53_9 ?_
    refine ap_iload_n rfl ?_; refine ap_aload_n rfl ?_; refine ai_getI ow_53 rf_8_173 rfl rfl ?_; refine ai_iconst ?_; refine ai_isub ?_
    refine ai_icle rfl rfl (fun hb1 => ?_) (fun hb1 => ?_) ?_
    · refine ap_go kc_53_21 ?_
      refine ap_iload_n rfl ?_
      refine ai_iflt rfl rfl (fun hb2 => ?_) (fun hb2 => ?_) ?_
      · refine ap_go kc_53_30 ?_
        refine ai_bipush (by decide) ?_; refine ap_iret rfl ?_
        first | (have e0 := K3 (by omega); rw [adv_m] at e0; refine sq e0 ?_; (repeat' split) <;> omega) | exact K1  (by omega) | exact K2  (by omega) | exact K3  (by omega) | exact K4  (by omega) | exact K5  (by omega) | exact K6  (by omega)
      · refine ap_go kc_53_25 ?_
        refine ap_iload_n rfl ?_; refine ai_iconst ?_
        refine ai_icle rfl rfl (fun hb3 => ?_) (fun hb3 => ?_) ?_
        · refine ap_go kc_53_33 ?_
          refine ap_aload_n rfl ?_; refine ap_getR ow_53 rf_8_61 rfl rfl rfl ?_; refine ap_iload_n rfl ?_; refine ai_iaload (n := 2600) rfl rfl (by decide) ?_ ?_; refine ap_istore_n rfl ?_; refine ap_aload_n rfl ?_; refine ap_getR ow_53 rf_8_61 rfl rfl rfl ?_; refine ap_iload_n rfl ?_; refine ai_iconst ?_; refine ai_iadd ?_; refine ai_iaload (n := 2600) rfl rfl (by decide) ?_ ?_; refine ap_istore rfl ?_; refine ap_iload_n rfl ?_; refine ai_iconst ?_
          refine ai_icne rfl rfl (fun hb4 => ?_) (fun hb4 => ?_) ?_
          · refine ap_go kc_53_58 ?_
            refine ap_iload_n rfl ?_; refine ai_iconst ?_
            refine ai_icne rfl rfl (fun hb5 => ?_) (fun hb5 => ?_) ?_
            · refine ap_go kc_53_89 ?_
              refine ap_aload_n rfl ?_; refine ap_getR ow_53 rf_8_7 rfl rfl rfl ?_; refine ap_aload_n rfl ?_; refine ap_getR ow_53 rf_8_23 rfl rfl rfl ?_; refine ap_iload_n rfl ?_; refine ai_iaload (n := 121) rfl rfl (by decide) ?_ ?_; refine ai_laload (n := 61) rfl rfl (by decide) ?_ ?_; refine ap_aload_n rfl ?_; refine ap_getR ow_53 rf_8_7 rfl rfl rfl ?_; refine ap_aload_n rfl ?_; refine ap_getR ow_53 rf_8_19 rfl rfl rfl ?_; refine ap_iload_n rfl ?_; refine ai_iaload (n := 121) rfl rfl (by decide) ?_ ?_; refine ai_laload (n := 61) rfl rfl (by decide) ?_ ?_; refine ai_lsub ?_; refine ap_lstore rfl ?_; refine ap_aload_n rfl ?_; refine ap_getR ow_53 rf_8_13 rfl rfl rfl ?_; refine ap_aload_n rfl ?_; refine ap_getR ow_53 rf_8_23 rfl rfl rfl ?_; refine ap_iload_n rfl ?_; refine ai_iaload (n := 121) rfl rfl (by decide) ?_ ?_; refine ai_laload (n := 61) rfl rfl (by decide) ?_ ?_; refine ap_aload_n rfl ?_; refine ap_getR ow_53 rf_8_13 rfl rfl rfl ?_; refine ap_aload_n rfl ?_; refine ap_getR ow_53 rf_8_19 rfl rfl rfl ?_; refine ap_iload_n rfl ?_; refine ai_iaload (n := 121) rfl rfl (by decide) ?_ ?_; refine ai_laload (n := 61) rfl rfl (by decide) ?_ ?_; refine ai_lsub ?_; refine ap_lstore rfl ?_; refine ap_aload_n rfl ?_; refine ap_getR ow_53 rf_8_7 rfl rfl rfl ?_; refine ap_aload_n rfl ?_; refine ap_getR ow_53 rf_8_23 rfl rfl rfl ?_; refine ap_iload rfl ?_; refine ai_iaload (n := 121) rfl rfl (by decide) ?_ ?_; refine ai_laload (n := 61) rfl rfl (by decide) ?_ ?_; refine ap_aload_n rfl ?_; refine ap_getR ow_53 rf_8_7 rfl rfl rfl ?_; refine ap_aload_n rfl ?_; refine ap_getR ow_53 rf_8_19 rfl rfl rfl ?_; refine ap_iload rfl ?_; refine ai_iaload (n := 121) rfl rfl (by decide) ?_ ?_; refine ai_laload (n := 61) rfl rfl (by decide) ?_ ?_; refine ai_lsub ?_; refine ap_lstore rfl ?_; refine ap_aload_n rfl ?_; refine ap_getR ow_53 rf_8_13 rfl rfl rfl ?_; refine ap_aload_n rfl ?_; refine ap_getR ow_53 rf_8_23 rfl rfl rfl ?_; refine ap_iload rfl ?_; refine ai_iaload (n := 121) rfl rfl (by decide) ?_ ?_; refine ai_laload (n := 61) rfl rfl (by decide) ?_ ?_; refine ap_aload_n rfl ?_; refine ap_getR ow_53 rf_8_13 rfl rfl rfl ?_; refine ap_aload_n rfl ?_; refine ap_getR ow_53 rf_8_19 rfl rfl rfl ?_; refine ap_iload rfl ?_; refine ai_iaload (n := 121) rfl rfl (by decide) ?_ ?_; refine ai_laload (n := 61) rfl rfl (by decide) ?_ ?_; refine ai_lsub ?_; refine ap_lstore rfl ?_; refine ap_lload rfl ?_; refine ap_lload rfl ?_; refine ai_lmul ?_; refine ap_lload rfl ?_; refine ap_lload rfl ?_; refine ai_lmul ?_; refine ai_lsub ?_; refine ap_lstore rfl ?_; refine ap_lload rfl ?_; refine ap_lload rfl ?_; refine ai_lmul ?_; refine ap_lload rfl ?_; refine ap_lload rfl ?_; refine ai_lmul ?_; refine ai_ladd ?_; refine ap_lstore rfl ?_; refine ap_lload rfl ?_; refine ai_lconst 0 rfl ?_
              refine ai_lcge rfl rfl (fun hb6 => ?_) (fun hb6 => ?_) ?_
              · refine ap_go kc_53_235 ?_
                refine ai_ldc2 (2) ow_53 kl_8_191 rfl ?_; refine ap_lload rfl ?_; refine ai_lmul ?_; refine ap_nil ?_
                refine ap_go kc_53_241 ?_
                refine ap_lstore rfl ?_; refine ap_lload rfl ?_; refine ap_lload rfl ?_
                refine ai_lcgt rfl rfl (fun hb7 => ?_) (fun hb7 => ?_) ?_
                · refine ap_go kc_53_253 ?_
                  refine ap_lload rfl ?_; refine ap_lload rfl ?_; refine ai_ladd ?_; refine ai_lconst 0 rfl ?_
                  refine ai_lcgt rfl rfl (fun hb8 => ?_) (fun hb8 => ?_) ?_
                  · refine ap_go kc_53_265 ?_
                    refine ap_lload rfl ?_; refine ai_lconst 0 rfl ?_
                    refine ai_lcle rfl rfl (fun hb9 => ?_) (fun hb9 => ?_) ?_
                    · refine ap_go kc_53_276 ?_
                      refine ai_iconst ?_; refine ap_nil ?_
                      refine ap_go kc_53_277 ?_
                      refine ap_iret rfl ?_
                      first | (have e0 := K3 (by omega); rw [adv_m] at e0; refine sq e0 ?_; (repeat' split) <;> omega) | exact K1  (by omega) | exact K2  (by omega) | exact K3  (by omega) | exact K4  (by omega) | exact K5  (by omega) | exact K6  (by omega)
                    · refine ap_go kc_53_272 ?_
                      refine ai_iconst ?_; refine ap_goto rfl ?_
                      refine ap_go kc_53_277 ?_
                      refine ap_iret rfl ?_
                      first | (have e0 := K3 (by omega); rw [adv_m] at e0; refine sq e0 ?_; (repeat' split) <;> omega) | exact K1  (by omega) | exact K2  (by omega) | exact K3  (by omega) | exact K4  (by omega) | exact K5  (by omega) | exact K6  (by omega)
                    all_goals (first | omega | exact (hst _ (by omega) (by omega)).1 | exact (hst _ (by omega) (by omega)).2)
                  · refine ap_go kc_53_263 ?_
                    refine ai_iconst ?_; refine ap_iret rfl ?_
                    first | (have e0 := K3 (by omega); rw [adv_m] at e0; refine sq e0 ?_; (repeat' split) <;> omega) | exact K1  (by omega) | exact K2  (by omega) | exact K3  (by omega) | exact K4  (by omega) | exact K5  (by omega) | exact K6  (by omega)
                  all_goals (first | omega | exact (hst _ (by omega) (by omega)).1 | exact (hst _ (by omega) (by omega)).2)
                · refine ap_go kc_53_251 ?_
                  refine ai_iconst ?_; refine ap_iret rfl ?_
                  first | (have e0 := K3 (by omega); rw [adv_m] at e0; refine sq e0 ?_; (repeat' split) <;> omega) | exact K1  (by omega) | exact K2  (by omega) | exact K3  (by omega) | exact K4  (by omega) | exact K5  (by omega) | exact K6  (by omega)
                all_goals (first | omega | exact (hst _ (by omega) (by omega)).1 | exact (hst _ (by omega) (by omega)).2)
              · refine ap_go kc_53_226 ?_
                refine ai_ldc2 (-2) ow_53 kl_8_189 rfl ?_; refine ap_lload rfl ?_; refine ai_lmul ?_; refine ap_goto rfl ?_
                refine ap_go kc_53_241 ?_
                refine ap_lstore rfl ?_; refine ap_lload rfl ?_; refine ap_lload rfl ?_
                refine ai_lcgt rfl rfl (fun hb10 => ?_) (fun hb10 => ?_) ?_
                · refine ap_go kc_53_253 ?_
                  refine ap_lload rfl ?_; refine ap_lload rfl ?_; refine ai_ladd ?_; refine ai_lconst 0 rfl ?_
                  refine ai_lcgt rfl rfl (fun hb11 => ?_) (fun hb11 => ?_) ?_
                  · refine ap_go kc_53_265 ?_
                    refine ap_lload rfl ?_; refine ai_lconst 0 rfl ?_
                    refine ai_lcle rfl rfl (fun hb12 => ?_) (fun hb12 => ?_) ?_
                    · refine ap_go kc_53_276 ?_
                      refine ai_iconst ?_; refine ap_nil ?_
                      refine ap_go kc_53_277 ?_
                      refine ap_iret rfl ?_
                      first | (have e0 := K3 (by omega); rw [adv_m] at e0; refine sq e0 ?_; (repeat' split) <;> omega) | exact K1  (by omega) | exact K2  (by omega) | exact K3  (by omega) | exact K4  (by omega) | exact K5  (by omega) | exact K6  (by omega)
                    · refine ap_go kc_53_272 ?_
                      refine ai_iconst ?_; refine ap_goto rfl ?_
                      refine ap_go kc_53_277 ?_
                      refine ap_iret rfl ?_
                      first | (have e0 := K3 (by omega); rw [adv_m] at e0; refine sq e0 ?_; (repeat' split) <;> omega) | exact K1  (by omega) | exact K2  (by omega) | exact K3  (by omega) | exact K4  (by omega) | exact K5  (by omega) | exact K6  (by omega)
                    all_goals (first | omega | exact (hst _ (by omega) (by omega)).1 | exact (hst _ (by omega) (by omega)).2)
                  · refine ap_go kc_53_263 ?_
                    refine ai_iconst ?_; refine ap_iret rfl ?_
                    first | (have e0 := K3 (by omega); rw [adv_m] at e0; refine sq e0 ?_; (repeat' split) <;> omega) | exact K1  (by omega) | exact K2  (by omega) | exact K3  (by omega) | exact K4  (by omega) | exact K5  (by omega) | exact K6  (by omega)
                  all_goals (first | omega | exact (hst _ (by omega) (by omega)).1 | exact (hst _ (by omega) (by omega)).2)
                · refine ap_go kc_53_251 ?_
                  refine ai_iconst ?_; refine ap_iret rfl ?_
                  first | (have e0 := K3 (by omega); rw [adv_m] at e0; refine sq e0 ?_; (repeat' split) <;> omega) | exact K1  (by omega) | exact K2  (by omega) | exact K3  (by omega) | exact K4  (by omega) | exact K5  (by omega) | exact K6  (by omega)
                all_goals (first | omega | exact (hst _ (by omega) (by omega)).1 | exact (hst _ (by omega) (by omega)).2)
              all_goals (first | omega | exact (hst _ (by omega) (by omega)).1 | exact (hst _ (by omega) (by omega)).2)
            · refine ap_go kc_53_63 ?_
              refine ap_aload_n rfl ?_; refine ap_getR ow_53 rf_8_70 rfl rfl rfl ?_; refine ap_iload_n rfl ?_; refine ai_baload (n := 2600) rfl rfl (by decide) ?_ ?_
              refine ai_ifeq rfl rfl (fun hb13 => ?_) (fun hb13 => ?_) ?_
              · refine ap_go kc_53_76 ?_
                refine ai_iconst ?_; refine ap_nil ?_
                refine ap_go kc_53_77 ?_
                refine ap_istore rfl ?_; refine ap_aload_n rfl ?_; refine ap_getR ow_53 rf_8_70 rfl rfl rfl ?_; refine ap_iload_n rfl ?_; refine ai_iconst ?_; refine ai_bastore (n := 2600) rfl rfl (by decide) ?_ ?_ ?_; refine ap_iload rfl ?_; refine ap_iret rfl ?_
                · first | (have e0 := K3 (by omega); rw [adv_m] at e0; refine sq e0 ?_; (repeat' split) <;> omega) | exact K1  (by omega) | exact K2  (by omega) | exact K3  (by omega) | exact K4  (by omega) | exact K5  (by omega) | exact K6  (by omega)
                all_goals (first | omega | exact (hst _ (by omega) (by omega)).1 | exact (hst _ (by omega) (by omega)).2)
              · refine ap_go kc_53_72 ?_
                refine ai_iconst ?_; refine ap_goto rfl ?_
                refine ap_go kc_53_77 ?_
                refine ap_istore rfl ?_; refine ap_aload_n rfl ?_; refine ap_getR ow_53 rf_8_70 rfl rfl rfl ?_; refine ap_iload_n rfl ?_; refine ai_iconst ?_; refine ai_bastore (n := 2600) rfl rfl (by decide) ?_ ?_ ?_; refine ap_iload rfl ?_; refine ap_iret rfl ?_
                · first | (have e0 := K3 (by omega); rw [adv_m] at e0; refine sq e0 ?_; (repeat' split) <;> omega) | exact K1  (by omega) | exact K2  (by omega) | exact K3  (by omega) | exact K4  (by omega) | exact K5  (by omega) | exact K6  (by omega)
                all_goals (first | omega | exact (hst _ (by omega) (by omega)).1 | exact (hst _ (by omega) (by omega)).2)
              all_goals (first | omega | exact (hst _ (by omega) (by omega)).1 | exact (hst _ (by omega) (by omega)).2)
            all_goals (first | omega | exact (hst _ (by omega) (by omega)).1 | exact (hst _ (by omega) (by omega)).2)
          · refine ap_go kc_53_55 ?_
            refine ap_iload rfl ?_; refine ap_iret rfl ?_
            first | (have e0 := K3 (by omega); rw [adv_m] at e0; refine sq e0 ?_; (repeat' split) <;> omega) | exact K1  (by omega) | exact K2  (by omega) | exact K3  (by omega) | exact K4  (by omega) | exact K5  (by omega) | exact K6  (by omega)
          all_goals (first | omega | exact (hst _ (by omega) (by omega)).1 | exact (hst _ (by omega) (by omega)).2)
        · refine ap_go kc_53_30 ?_
          refine ai_bipush (by decide) ?_; refine ap_iret rfl ?_
          first | (have e0 := K3 (by omega); rw [adv_m] at e0; refine sq e0 ?_; (repeat' split) <;> omega) | exact K1  (by omega) | exact K2  (by omega) | exact K3  (by omega) | exact K4  (by omega) | exact K5  (by omega) | exact K6  (by omega)
        all_goals (first | omega | exact (hst _ (by omega) (by omega)).1 | exact (hst _ (by omega) (by omega)).2)
      all_goals (first | omega | exact (hst _ (by omega) (by omega)).1 | exact (hst _ (by omega) (by omega)).2)
    · refine ap_go kc_53_19 ?_
      refine ai_iconst ?_; refine ap_iret rfl ?_
      first | (have e0 := K3 (by omega); rw [adv_m] at e0; refine sq e0 ?_; (repeat' split) <;> omega) | exact K1  (by omega) | exact K2  (by omega) | exact K3  (by omega) | exact K4  (by omega) | exact K5  (by omega) | exact K6  (by omega)
    all_goals (first | omega | exact (hst _ (by omega) (by omega)).1 | exact (hst _ (by omega) (by omega)).2)
  all_goals (first | omega | exact (hst _ (by omega) (by omega)).1 | exact (hst _ (by omega) (by omega)).2)
