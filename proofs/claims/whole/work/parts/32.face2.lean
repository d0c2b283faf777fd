/-! THE FACE: part, search -/
/-- what take() answers, and the numbers then -/
def tkR (f : Nat → Nat → Int) (e n x : Int) (f2 : Nat → Nat → Int) : Prop := ((f 26 1 = 0 ∨ f 26 1 = 255 ∧ f 26 0 < e) ∧ x = 1 ∧ f2 = am_up (am_up f 26 0 e) 26 1 (b_shl 1 n)) ∨ (¬ (f 26 1 = 0 ∨ f 26 1 = 255 ∧ f 26 0 < e) ∧ (¬ e = f 26 0 ∨ ¬ b_and (b_shr (f 26 1) n) 1 = 0) ∧ x = 0 ∧ f2 = f) ∨ (¬ (f 26 1 = 0 ∨ f 26 1 = 255 ∧ f 26 0 < e) ∧ ¬ (¬ e = f 26 0 ∨ ¬ b_and (b_shr (f 26 1) n) 1 = 0) ∧ x = 1 ∧ f2 = am_up f 26 1 (b_or (f 26 1) (b_shl 1 n)))
theorem sp_71r {d L : Nat} {sw : Bool} {f g : Nat → Nat → Int} {Q : Option Value → am_H → Prop} {e n : Int} (K : ∀ x f2, tkR f e n x f2 → Q (some (.int (iZ x))) (53, sh_lt L, iH f2, jH g, sh_rt sw)) (he : iR e) (h1 : iR (f 26 0)) (h2 : iR (f 26 1)) : am_call (d + 1) 71 [.ref 26, .int (iZ e), .int (iZ n)] (53, sh_lt L, iH f, jH g, sh_rt sw) Q :=
  sp_71 (fun c => K _ _ (Or.inl ⟨c, rfl, rfl⟩)) (fun c c2 => K _ _ (Or.inr (Or.inl ⟨c, c2, rfl, rfl⟩))) (fun c c2 => K _ _ (Or.inr (Or.inr ⟨c, c2, rfl, rfl⟩))) he h1 h2
theorem tkR_x {f f2 : Nat → Nat → Int} {e n x : Int} (h : tkR f e n x f2) : x = 0 ∨ x = 1 := by
  rcases h with h | h | h
  · exact Or.inr h.2.1
  · exact Or.inl h.2.2.1
  · exact Or.inr h.2.2.1
theorem sp_14 {d L : Nat} {sw : Bool} {f g : Nat → Nat → Int} {Q : Option Value → am_H → Prop} {e n : Int} (K0 : ¬ (0 ≤ n ∧ n < 8 ∧ 1 ≤ e) → Q (some (.int (iZ (-2)))) (53, sh_lt L, iH f, jH g, sh_rt sw)) (K : (0 ≤ n ∧ n < 8 ∧ 1 ≤ e) → ∀ x f2, tkR f e n x f2 → Q (some (.int (iZ x))) (53, sh_lt L, iH f2, jH g, sh_rt sw)) (he : iR e) (hn : iR n) (h1 : iR (f 26 0)) (h2 : iR (f 26 1)) : am_call (d + 2) 14 [.ref 0, .int (iZ e), .int (iZ n)] (53, sh_lt L, iH f, jH g, sh_rt sw) Q := by
  refine ap_call (by decide) (Nat.le_of_ble_eq_true rfl) rfl ?_
  refine ap_go kc_14_0 ?_
  refine ap_iload_n rfl ?_
  refine ai_iflt rfl rfl (fun hb0 => ?_) (fun hb0 => ?_) ?_
  · refine ap_go kc_14_15 ?_
    refine ai_bipush (by decide) ?_; refine ap_iret rfl ?_
    first | exact K0 (by omega) | exact sq (K (by omega) x f2 hR) (by omega)
  · refine ap_go kc_14_4 ?_
    refine ap_iload_n rfl ?_; refine ai_bipush (by decide) ?_
    refine ai_icge rfl rfl (fun hb1 => ?_) (fun hb1 => ?_) ?_
    · refine ap_go kc_14_15 ?_
      refine ai_bipush (by decide) ?_; refine ap_iret rfl ?_
      first | exact K0 (by omega) | exact sq (K (by omega) x f2 hR) (by omega)
    · refine ap_go kc_14_10 ?_
      refine ap_iload_n rfl ?_; refine ai_iconst ?_
      refine ai_icge rfl rfl (fun hb2 => ?_) (fun hb2 => ?_) ?_
      · refine ap_go kc_14_18 ?_
        refine ap_aload_n rfl ?_; refine ap_getR ow_14 rf_7_44 rfl rfl rfl ?_; refine ap_iload_n rfl ?_; refine ap_iload_n rfl ?_; refine ap_callv0 ow_14 rm_7_206 na_71 mc_71 ms_71 rfl rfl (Nat.le_of_ble_eq_true rfl) (Nat.le_of_ble_eq_true rfl) (Or.inr rfl) (Nat.zero_le _) (Nat.zero_le _) ?_; refine sp_71r (fun x f2 hR => ?_) he h1 h2; have hx := tkR_x hR; dsimp only [Option.toList_some, Option.toList_none, List.cons_append, List.nil_append]
        refine ai_ifeq rfl rfl (fun hb3 => ?_) (fun hb3 => ?_) ?_
        · refine ap_go kc_14_34 ?_
          refine ai_iconst ?_; refine ap_nil ?_
          refine ap_go kc_14_35 ?_
          refine ap_iret rfl ?_
          first | exact K0 (by omega) | exact sq (K (by omega) x f2 hR) (by omega)
        · refine ap_go kc_14_30 ?_
          refine ai_iconst ?_; refine ap_goto rfl ?_
          refine ap_go kc_14_35 ?_
          refine ap_iret rfl ?_
          first | exact K0 (by omega) | exact sq (K (by omega) x f2 hR) (by omega)
        all_goals (omega)
      · refine ap_go kc_14_15 ?_
        refine ai_bipush (by decide) ?_; refine ap_iret rfl ?_
        first | exact K0 (by omega) | exact sq (K (by omega) x f2 hR) (by omega)
      all_goals (omega)
    all_goals (omega)
  all_goals (omega)

theorem sp_59 {d L : Nat} {sw : Bool} {f g : Nat → Nat → Int} {Q : Option Value → am_H → Prop} {f1 : Nat → Nat → Int} {e n : Int} (hf : am_up f 31 0 0 = f1) (K1 : ¬ (0 ≤ n ∧ n < 8 ∧ 1 ≤ e) → Q (some (.int (iZ (-2)))) (53, sh_lt L, iH f1, jH g, sh_rt sw)) (K2 : (0 ≤ n ∧ n < 8 ∧ 1 ≤ e) ∧ ((f1 31 35 = 0 ∨ f1 31 35 = 255) ∧ e ≤ f1 31 34 ∨ ¬ (f1 31 35 = 0 ∨ f1 31 35 = 255) ∧ (¬ e = f1 31 34 ∨ b_and (b_shr (f1 31 35) n) 1 = 1)) → Q (some (.int (iZ (0)))) (53, sh_lt L, iH f1, jH g, sh_rt sw)) (K3 : (0 ≤ n ∧ n < 8 ∧ 1 ≤ e) ∧ ¬ ((f1 31 35 = 0 ∨ f1 31 35 = 255) ∧ e ≤ f1 31 34 ∨ ¬ (f1 31 35 = 0 ∨ f1 31 35 = 255) ∧ (¬ e = f1 31 34 ∨ b_and (b_shr (f1 31 35) n) 1 = 1)) ∧ (f1 31 35 = 0 ∨ f1 31 35 = 255) → Q (some (.int (iZ (1)))) (53, sh_lt L, iH (am_up (am_up f1 31 35 (b_shl 1 n)) 31 34 e), jH g, sh_rt sw)) (K4 : (0 ≤ n ∧ n < 8 ∧ 1 ≤ e) ∧ ¬ ((f1 31 35 = 0 ∨ f1 31 35 = 255) ∧ e ≤ f1 31 34 ∨ ¬ (f1 31 35 = 0 ∨ f1 31 35 = 255) ∧ (¬ e = f1 31 34 ∨ b_and (b_shr (f1 31 35) n) 1 = 1)) ∧ ¬ (f1 31 35 = 0 ∨ f1 31 35 = 255) → Q (some (.int (iZ (1)))) (53, sh_lt L, iH (am_up (am_up f1 31 35 (b_or (f1 31 35) (b_shl 1 n))) 31 34 e), jH g, sh_rt sw)) (he : iR e) (hn : iR n) (h1 : iR (f1 31 34)) (h2 : iR (f1 31 35)) : am_call (d + 1) 59 [.ref 31, .int (iZ e), .int (iZ n)] (53, sh_lt L, iH f, jH g, sh_rt sw) Q := by
  refine ap_call (by decide) (Nat.le_of_ble_eq_true rfl) rfl ?_
  refine ap_go kc_59_0 ?_
  refine ap_aload_n rfl ?_; refine ai_iconst ?_; refine ai_putI ow_59 rf_8_82 rfl rfl rfl ?_
  rw [hf]
  refine ap_iload_n rfl ?_
  refine ai_iflt rfl rfl (fun hb0 => ?_) (fun hb0 => ?_) ?_
  · refine ap_go kc_59_20 ?_
    refine ai_bipush (by decide) ?_; refine ap_iret rfl ?_
    first | (exfalso; omega) | first | exact K1  (by omega) | exact K2  (by omega) | exact K3  (by omega) | exact K4  (by omega)
  · refine ap_go kc_59_9 ?_
    refine ap_iload_n rfl ?_; refine ai_bipush (by decide) ?_
    refine ai_icgt rfl rfl (fun hb1 => ?_) (fun hb1 => ?_) ?_
    · refine ap_go kc_59_20 ?_
      refine ai_bipush (by decide) ?_; refine ap_iret rfl ?_
      first | (exfalso; omega) | first | exact K1  (by omega) | exact K2  (by omega) | exact K3  (by omega) | exact K4  (by omega)
    · refine ap_go kc_59_15 ?_
      refine ap_iload_n rfl ?_; refine ai_iconst ?_
      refine ai_icge rfl rfl (fun hb2 => ?_) (fun hb2 => ?_) ?_
      · refine ap_go kc_59_23 ?_
        refine ap_aload_n rfl ?_; refine ai_getI ow_59 rf_8_214 rfl rfl ?_
        refine ai_ifeq rfl rfl (fun hb3 => ?_) (fun hb3 => ?_) ?_
        · refine ap_go kc_59_40 ?_
          refine ai_iconst ?_; refine ap_goto rfl ?_
          refine ap_go kc_59_45 ?_
          refine ap_istore_n rfl ?_; refine ap_iload_n rfl ?_
          refine ai_ifeq rfl rfl (fun hb4 => ?_) (fun hb4 => ?_) ?_
          · refine ap_go kc_59_58 ?_
            refine ap_iload_n rfl ?_
            refine ai_ifne rfl rfl (fun hb5 => ?_) (fun hb5 => ?_) ?_
            · refine ap_go kc_59_84 ?_
              refine ap_aload_n rfl ?_; refine ap_iload_n rfl ?_
              refine ai_ifeq rfl rfl (fun hb6 => ?_) (fun hb6 => ?_) ?_
              · refine ap_go kc_59_95 ?_
                refine ap_aload_n rfl ?_; refine ai_getI ow_59 rf_8_214 rfl rfl ?_; refine ai_iconst ?_; refine ap_iload_n rfl ?_; refine ai_ishl ?_; refine ai_ior ?_; refine ap_nil ?_
                refine ap_go kc_59_103 ?_
                refine ai_putI ow_59 rf_8_214 rfl rfl rfl ?_; refine ap_aload_n rfl ?_; refine ap_iload_n rfl ?_; refine ai_putI ow_59 rf_8_217 rfl rfl rfl ?_; refine ai_iconst ?_; refine ap_iret rfl ?_
                first | (exfalso; omega) | first | exact K1  (by omega) | exact K2  (by omega) | exact K3  (by omega) | exact K4  (by omega)
              · refine ap_go kc_59_89 ?_
                refine ai_iconst ?_; refine ap_iload_n rfl ?_; refine ai_ishl ?_; refine ap_goto rfl ?_
                refine ap_go kc_59_103 ?_
                refine ai_putI ow_59 rf_8_214 rfl rfl rfl ?_; refine ap_aload_n rfl ?_; refine ap_iload_n rfl ?_; refine ai_putI ow_59 rf_8_217 rfl rfl rfl ?_; refine ai_iconst ?_; refine ap_iret rfl ?_
                first | (exfalso; omega) | first | exact K1  (by omega) | exact K2  (by omega) | exact K3  (by omega) | exact K4  (by omega)
              all_goals (first | omega | exact iR_T _ | exact ⟨iR_T _, by decide, by decide⟩)
            · refine ap_go kc_59_62 ?_
              refine ap_iload_n rfl ?_; refine ap_aload_n rfl ?_; refine ai_getI ow_59 rf_8_217 rfl rfl ?_
              refine ai_icne rfl rfl (fun hb7 => ?_) (fun hb7 => ?_) ?_
              · refine ap_go kc_59_82 ?_
                refine ai_iconst ?_; refine ap_iret rfl ?_
                first | (exfalso; omega) | first | exact K1  (by omega) | exact K2  (by omega) | exact K3  (by omega) | exact K4  (by omega)
              · refine ap_go kc_59_70 ?_
                refine ap_aload_n rfl ?_; refine ai_getI ow_59 rf_8_214 rfl rfl ?_; refine ap_iload_n rfl ?_; refine ai_ishr ?_; refine ai_iconst ?_; refine ai_iand ?_; refine ai_iconst ?_
                refine ai_icne rfl rfl (fun hb8 => ?_) (fun hb8 => ?_) ?_
                · refine ap_go kc_59_84 ?_
                  refine ap_aload_n rfl ?_; refine ap_iload_n rfl ?_
                  refine ai_ifeq rfl rfl (fun hb9 => ?_) (fun hb9 => ?_) ?_
                  · refine ap_go kc_59_95 ?_
                    refine ap_aload_n rfl ?_; refine ai_getI ow_59 rf_8_214 rfl rfl ?_; refine ai_iconst ?_; refine ap_iload_n rfl ?_; refine ai_ishl ?_; refine ai_ior ?_; refine ap_nil ?_
                    refine ap_go kc_59_103 ?_
                    refine ai_putI ow_59 rf_8_214 rfl rfl rfl ?_; refine ap_aload_n rfl ?_; refine ap_iload_n rfl ?_; refine ai_putI ow_59 rf_8_217 rfl rfl rfl ?_; refine ai_iconst ?_; refine ap_iret rfl ?_
                    first | (exfalso; omega) | first | exact K1  (by omega) | exact K2  (by omega) | exact K3  (by omega) | exact K4  (by omega)
                  · refine ap_go kc_59_89 ?_
                    refine ai_iconst ?_; refine ap_iload_n rfl ?_; refine ai_ishl ?_; refine ap_goto rfl ?_
                    refine ap_go kc_59_103 ?_
                    refine ai_putI ow_59 rf_8_214 rfl rfl rfl ?_; refine ap_aload_n rfl ?_; refine ap_iload_n rfl ?_; refine ai_putI ow_59 rf_8_217 rfl rfl rfl ?_; refine ai_iconst ?_; refine ap_iret rfl ?_
                    first | (exfalso; omega) | first | exact K1  (by omega) | exact K2  (by omega) | exact K3  (by omega) | exact K4  (by omega)
                  all_goals (first | omega | exact iR_T _ | exact ⟨iR_T _, by decide, by decide⟩)
                · refine ap_go kc_59_82 ?_
                  refine ai_iconst ?_; refine ap_iret rfl ?_
                  first | (exfalso; omega) | first | exact K1  (by omega) | exact K2  (by omega) | exact K3  (by omega) | exact K4  (by omega)
                all_goals (first | omega | exact iR_T _ | exact ⟨iR_T _, by decide, by decide⟩)
              all_goals (first | omega | exact iR_T _ | exact ⟨iR_T _, by decide, by decide⟩)
            all_goals (first | omega | exact iR_T _ | exact ⟨iR_T _, by decide, by decide⟩)
          · refine ap_go kc_59_50 ?_
            refine ap_iload_n rfl ?_; refine ap_aload_n rfl ?_; refine ai_getI ow_59 rf_8_217 rfl rfl ?_
            refine ai_icle rfl rfl (fun hb10 => ?_) (fun hb10 => ?_) ?_
            · refine ap_go kc_59_82 ?_
              refine ai_iconst ?_; refine ap_iret rfl ?_
              first | (exfalso; omega) | first | exact K1  (by omega) | exact K2  (by omega) | exact K3  (by omega) | exact K4  (by omega)
            · refine ap_go kc_59_58 ?_
              refine ap_iload_n rfl ?_
              refine ai_ifne rfl rfl (fun hb11 => ?_) (fun hb11 => ?_) ?_
              · refine ap_go kc_59_84 ?_
                refine ap_aload_n rfl ?_; refine ap_iload_n rfl ?_
                refine ai_ifeq rfl rfl (fun hb12 => ?_) (fun hb12 => ?_) ?_
                · refine ap_go kc_59_95 ?_
                  refine ap_aload_n rfl ?_; refine ai_getI ow_59 rf_8_214 rfl rfl ?_; refine ai_iconst ?_; refine ap_iload_n rfl ?_; refine ai_ishl ?_; refine ai_ior ?_; refine ap_nil ?_
                  refine ap_go kc_59_103 ?_
                  refine ai_putI ow_59 rf_8_214 rfl rfl rfl ?_; refine ap_aload_n rfl ?_; refine ap_iload_n rfl ?_; refine ai_putI ow_59 rf_8_217 rfl rfl rfl ?_; refine ai_iconst ?_; refine ap_iret rfl ?_
                  first | (exfalso; omega) | first | exact K1  (by omega) | exact K2  (by omega) | exact K3  (by omega) | exact K4  (by omega)
                · refine ap_go kc_59_89 ?_
                  refine ai_iconst ?_; refine ap_iload_n rfl ?_; refine ai_ishl ?_; refine ap_goto rfl ?_
                  refine ap_go kc_59_103 ?_
                  refine ai_putI ow_59 rf_8_214 rfl rfl rfl ?_; refine ap_aload_n rfl ?_; refine ap_iload_n rfl ?_; refine ai_putI ow_59 rf_8_217 rfl rfl rfl ?_; refine ai_iconst ?_; refine ap_iret rfl ?_
                  first | (exfalso; omega) | first | exact K1  (by omega) | exact K2  (by omega) | exact K3  (by omega) | exact K4  (by omega)
                all_goals (first | omega | exact iR_T _ | exact ⟨iR_T _, by decide, by decide⟩)
              · refine ap_go kc_59_62 ?_
                refine ap_iload_n rfl ?_; refine ap_aload_n rfl ?_; refine ai_getI ow_59 rf_8_217 rfl rfl ?_
                refine ai_icne rfl rfl (fun hb13 => ?_) (fun hb13 => ?_) ?_
                · refine ap_go kc_59_82 ?_
                  refine ai_iconst ?_; refine ap_iret rfl ?_
                  first | (exfalso; omega) | first | exact K1  (by omega) | exact K2  (by omega) | exact K3  (by omega) | exact K4  (by omega)
                · refine ap_go kc_59_70 ?_
                  refine ap_aload_n rfl ?_; refine ai_getI ow_59 rf_8_214 rfl rfl ?_; refine ap_iload_n rfl ?_; refine ai_ishr ?_; refine ai_iconst ?_; refine ai_iand ?_; refine ai_iconst ?_
                  refine ai_icne rfl rfl (fun hb14 => ?_) (fun hb14 => ?_) ?_
                  · refine ap_go kc_59_84 ?_
                    refine ap_aload_n rfl ?_; refine ap_iload_n rfl ?_
                    refine ai_ifeq rfl rfl (fun hb15 => ?_) (fun hb15 => ?_) ?_
                    · refine ap_go kc_59_95 ?_
                      refine ap_aload_n rfl ?_; refine ai_getI ow_59 rf_8_214 rfl rfl ?_; refine ai_iconst ?_; refine ap_iload_n rfl ?_; refine ai_ishl ?_; refine ai_ior ?_; refine ap_nil ?_
                      refine ap_go kc_59_103 ?_
                      refine ai_putI ow_59 rf_8_214 rfl rfl rfl ?_; refine ap_aload_n rfl ?_; refine ap_iload_n rfl ?_; refine ai_putI ow_59 rf_8_217 rfl rfl rfl ?_; refine ai_iconst ?_; refine ap_iret rfl ?_
                      first | (exfalso; omega) | first | exact K1  (by omega) | exact K2  (by omega) | exact K3  (by omega) | exact K4  (by omega)
                    · refine ap_go kc_59_89 ?_
                      refine ai_iconst ?_; refine ap_iload_n rfl ?_; refine ai_ishl ?_; refine ap_goto rfl ?_
                      refine ap_go kc_59_103 ?_
                      refine ai_putI ow_59 rf_8_214 rfl rfl rfl ?_; refine ap_aload_n rfl ?_; refine ap_iload_n rfl ?_; refine ai_putI ow_59 rf_8_217 rfl rfl rfl ?_; refine ai_iconst ?_; refine ap_iret rfl ?_
                      first | (exfalso; omega) | first | exact K1  (by omega) | exact K2  (by omega) | exact K3  (by omega) | exact K4  (by omega)
                    all_goals (first | omega | exact iR_T _ | exact ⟨iR_T _, by decide, by decide⟩)
                  · refine ap_go kc_59_82 ?_
                    refine ai_iconst ?_; refine ap_iret rfl ?_
                    first | (exfalso; omega) | first | exact K1  (by omega) | exact K2  (by omega) | exact K3  (by omega) | exact K4  (by omega)
                  all_goals (first | omega | exact iR_T _ | exact ⟨iR_T _, by decide, by decide⟩)
                all_goals (first | omega | exact iR_T _ | exact ⟨iR_T _, by decide, by decide⟩)
              all_goals (first | omega | exact iR_T _ | exact ⟨iR_T _, by decide, by decide⟩)
            all_goals (first | omega | exact iR_T _ | exact ⟨iR_T _, by decide, by decide⟩)
          all_goals (first | omega | exact iR_T _ | exact ⟨iR_T _, by decide, by decide⟩)
        · refine ap_go kc_59_30 ?_
          refine ap_aload_n rfl ?_; refine ai_getI ow_59 rf_8_214 rfl rfl ?_; refine ai_sipush (by decide) ?_
          refine ai_icne rfl rfl (fun hb16 => ?_) (fun hb16 => ?_) ?_
          · refine ap_go kc_59_44 ?_
            refine ai_iconst ?_; refine ap_nil ?_
            refine ap_go kc_59_45 ?_
            refine ap_istore_n rfl ?_; refine ap_iload_n rfl ?_
            refine ai_ifeq rfl rfl (fun hb17 => ?_) (fun hb17 => ?_) ?_
            · refine ap_go kc_59_58 ?_
              refine ap_iload_n rfl ?_
              refine ai_ifne rfl rfl (fun hb18 => ?_) (fun hb18 => ?_) ?_
              · refine ap_go kc_59_84 ?_
                refine ap_aload_n rfl ?_; refine ap_iload_n rfl ?_
                refine ai_ifeq rfl rfl (fun hb19 => ?_) (fun hb19 => ?_) ?_
                · refine ap_go kc_59_95 ?_
                  refine ap_aload_n rfl ?_; refine ai_getI ow_59 rf_8_214 rfl rfl ?_; refine ai_iconst ?_; refine ap_iload_n rfl ?_; refine ai_ishl ?_; refine ai_ior ?_; refine ap_nil ?_
                  refine ap_go kc_59_103 ?_
                  refine ai_putI ow_59 rf_8_214 rfl rfl rfl ?_; refine ap_aload_n rfl ?_; refine ap_iload_n rfl ?_; refine ai_putI ow_59 rf_8_217 rfl rfl rfl ?_; refine ai_iconst ?_; refine ap_iret rfl ?_
                  first | (exfalso; omega) | first | exact K1  (by omega) | exact K2  (by omega) | exact K3  (by omega) | exact K4  (by omega)
                · refine ap_go kc_59_89 ?_
                  refine ai_iconst ?_; refine ap_iload_n rfl ?_; refine ai_ishl ?_; refine ap_goto rfl ?_
                  refine ap_go kc_59_103 ?_
                  refine ai_putI ow_59 rf_8_214 rfl rfl rfl ?_; refine ap_aload_n rfl ?_; refine ap_iload_n rfl ?_; refine ai_putI ow_59 rf_8_217 rfl rfl rfl ?_; refine ai_iconst ?_; refine ap_iret rfl ?_
                  first | (exfalso; omega) | first | exact K1  (by omega) | exact K2  (by omega) | exact K3  (by omega) | exact K4  (by omega)
                all_goals (first | omega | exact iR_T _ | exact ⟨iR_T _, by decide, by decide⟩)
              · refine ap_go kc_59_62 ?_
                refine ap_iload_n rfl ?_; refine ap_aload_n rfl ?_; refine ai_getI ow_59 rf_8_217 rfl rfl ?_
                refine ai_icne rfl rfl (fun hb20 => ?_) (fun hb20 => ?_) ?_
                · refine ap_go kc_59_82 ?_
                  refine ai_iconst ?_; refine ap_iret rfl ?_
                  first | (exfalso; omega) | first | exact K1  (by omega) | exact K2  (by omega) | exact K3  (by omega) | exact K4  (by omega)
                · refine ap_go kc_59_70 ?_
                  refine ap_aload_n rfl ?_; refine ai_getI ow_59 rf_8_214 rfl rfl ?_; refine ap_iload_n rfl ?_; refine ai_ishr ?_; refine ai_iconst ?_; refine ai_iand ?_; refine ai_iconst ?_
                  refine ai_icne rfl rfl (fun hb21 => ?_) (fun hb21 => ?_) ?_
                  · refine ap_go kc_59_84 ?_
                    refine ap_aload_n rfl ?_; refine ap_iload_n rfl ?_
                    refine ai_ifeq rfl rfl (fun hb22 => ?_) (fun hb22 => ?_) ?_
                    · refine ap_go kc_59_95 ?_
                      refine ap_aload_n rfl ?_; refine ai_getI ow_59 rf_8_214 rfl rfl ?_; refine ai_iconst ?_; refine ap_iload_n rfl ?_; refine ai_ishl ?_; refine ai_ior ?_; refine ap_nil ?_
                      refine ap_go kc_59_103 ?_
                      refine ai_putI ow_59 rf_8_214 rfl rfl rfl ?_; refine ap_aload_n rfl ?_; refine ap_iload_n rfl ?_; refine ai_putI ow_59 rf_8_217 rfl rfl rfl ?_; refine ai_iconst ?_; refine ap_iret rfl ?_
                      first | (exfalso; omega) | first | exact K1  (by omega) | exact K2  (by omega) | exact K3  (by omega) | exact K4  (by omega)
                    · refine ap_go kc_59_89 ?_
                      refine ai_iconst ?_; refine ap_iload_n rfl ?_; refine ai_ishl ?_; refine ap_goto rfl ?_
                      refine ap_go kc_59_103 ?_
                      refine ai_putI ow_59 rf_8_214 rfl rfl rfl ?_; refine ap_aload_n rfl ?_; refine ap_iload_n rfl ?_; refine ai_putI ow_59 rf_8_217 rfl rfl rfl ?_; refine ai_iconst ?_; refine ap_iret rfl ?_
                      first | (exfalso; omega) | first | exact K1  (by omega) | exact K2  (by omega) | exact K3  (by omega) | exact K4  (by omega)
                    all_goals (first | omega | exact iR_T _ | exact ⟨iR_T _, by decide, by decide⟩)
                  · refine ap_go kc_59_82 ?_
                    refine ai_iconst ?_; refine ap_iret rfl ?_
                    first | (exfalso; omega) | first | exact K1  (by omega) | exact K2  (by omega) | exact K3  (by omega) | exact K4  (by omega)
                  all_goals (first | omega | exact iR_T _ | exact ⟨iR_T _, by decide, by decide⟩)
                all_goals (first | omega | exact iR_T _ | exact ⟨iR_T _, by decide, by decide⟩)
              all_goals (first | omega | exact iR_T _ | exact ⟨iR_T _, by decide, by decide⟩)
            · refine ap_go kc_59_50 ?_
              refine ap_iload_n rfl ?_; refine ap_aload_n rfl ?_; refine ai_getI ow_59 rf_8_217 rfl rfl ?_
              refine ai_icle rfl rfl (fun hb23 => ?_) (fun hb23 => ?_) ?_
              · refine ap_go kc_59_82 ?_
                refine ai_iconst ?_; refine ap_iret rfl ?_
                first | (exfalso; omega) | first | exact K1  (by omega) | exact K2  (by omega) | exact K3  (by omega) | exact K4  (by omega)
              · refine ap_go kc_59_58 ?_
                refine ap_iload_n rfl ?_
                refine ai_ifne rfl rfl (fun hb24 => ?_) (fun hb24 => ?_) ?_
                · refine ap_go kc_59_84 ?_
                  refine ap_aload_n rfl ?_; refine ap_iload_n rfl ?_
                  refine ai_ifeq rfl rfl (fun hb25 => ?_) (fun hb25 => ?_) ?_
                  · refine ap_go kc_59_95 ?_
                    refine ap_aload_n rfl ?_; refine ai_getI ow_59 rf_8_214 rfl rfl ?_; refine ai_iconst ?_; refine ap_iload_n rfl ?_; refine ai_ishl ?_; refine ai_ior ?_; refine ap_nil ?_
                    refine ap_go kc_59_103 ?_
                    refine ai_putI ow_59 rf_8_214 rfl rfl rfl ?_; refine ap_aload_n rfl ?_; refine ap_iload_n rfl ?_; refine ai_putI ow_59 rf_8_217 rfl rfl rfl ?_; refine ai_iconst ?_; refine ap_iret rfl ?_
                    first | (exfalso; omega) | first | exact K1  (by omega) | exact K2  (by omega) | exact K3  (by omega) | exact K4  (by omega)
                  · refine ap_go kc_59_89 ?_
                    refine ai_iconst ?_; refine ap_iload_n rfl ?_; refine ai_ishl ?_; refine ap_goto rfl ?_
                    refine ap_go kc_59_103 ?_
                    refine ai_putI ow_59 rf_8_214 rfl rfl rfl ?_; refine ap_aload_n rfl ?_; refine ap_iload_n rfl ?_; refine ai_putI ow_59 rf_8_217 rfl rfl rfl ?_; refine ai_iconst ?_; refine ap_iret rfl ?_
                    first | (exfalso; omega) | first | exact K1  (by omega) | exact K2  (by omega) | exact K3  (by omega) | exact K4  (by omega)
                  all_goals (first | omega | exact iR_T _ | exact ⟨iR_T _, by decide, by decide⟩)
                · refine ap_go kc_59_62 ?_
                  refine ap_iload_n rfl ?_; refine ap_aload_n rfl ?_; refine ai_getI ow_59 rf_8_217 rfl rfl ?_
                  refine ai_icne rfl rfl (fun hb26 => ?_) (fun hb26 => ?_) ?_
                  · refine ap_go kc_59_82 ?_
                    refine ai_iconst ?_; refine ap_iret rfl ?_
                    first | (exfalso; omega) | first | exact K1  (by omega) | exact K2  (by omega) | exact K3  (by omega) | exact K4  (by omega)
                  · refine ap_go kc_59_70 ?_
                    refine ap_aload_n rfl ?_; refine ai_getI ow_59 rf_8_214 rfl rfl ?_; refine ap_iload_n rfl ?_; refine ai_ishr ?_; refine ai_iconst ?_; refine ai_iand ?_; refine ai_iconst ?_
                    refine ai_icne rfl rfl (fun hb27 => ?_) (fun hb27 => ?_) ?_
                    · refine ap_go kc_59_84 ?_
                      refine ap_aload_n rfl ?_; refine ap_iload_n rfl ?_
                      refine ai_ifeq rfl rfl (fun hb28 => ?_) (fun hb28 => ?_) ?_
                      · refine ap_go kc_59_95 ?_
                        refine ap_aload_n rfl ?_; refine ai_getI ow_59 rf_8_214 rfl rfl ?_; refine ai_iconst ?_; refine ap_iload_n rfl ?_; refine ai_ishl ?_; refine ai_ior ?_; refine ap_nil ?_
                        refine ap_go kc_59_103 ?_
                        refine ai_putI ow_59 rf_8_214 rfl rfl rfl ?_; refine ap_aload_n rfl ?_; refine ap_iload_n rfl ?_; refine ai_putI ow_59 rf_8_217 rfl rfl rfl ?_; refine ai_iconst ?_; refine ap_iret rfl ?_
                        first | (exfalso; omega) | first | exact K1  (by omega) | exact K2  (by omega) | exact K3  (by omega) | exact K4  (by omega)
                      · refine ap_go kc_59_89 ?_
                        refine ai_iconst ?_; refine ap_iload_n rfl ?_; refine ai_ishl ?_; refine ap_goto rfl ?_
                        refine ap_go kc_59_103 ?_
                        refine ai_putI ow_59 rf_8_214 rfl rfl rfl ?_; refine ap_aload_n rfl ?_; refine ap_iload_n rfl ?_; refine ai_putI ow_59 rf_8_217 rfl rfl rfl ?_; refine ai_iconst ?_; refine ap_iret rfl ?_
                        first | (exfalso; omega) | first | exact K1  (by omega) | exact K2  (by omega) | exact K3  (by omega) | exact K4  (by omega)
                      all_goals (first | omega | exact iR_T _ | exact ⟨iR_T _, by decide, by decide⟩)
                    · refine ap_go kc_59_82 ?_
                      refine ai_iconst ?_; refine ap_iret rfl ?_
                      first | (exfalso; omega) | first | exact K1  (by omega) | exact K2  (by omega) | exact K3  (by omega) | exact K4  (by omega)
                    all_goals (first | omega | exact iR_T _ | exact ⟨iR_T _, by decide, by decide⟩)
                  all_goals (first | omega | exact iR_T _ | exact ⟨iR_T _, by decide, by decide⟩)
                all_goals (first | omega | exact iR_T _ | exact ⟨iR_T _, by decide, by decide⟩)
              all_goals (first | omega | exact iR_T _ | exact ⟨iR_T _, by decide, by decide⟩)
            all_goals (first | omega | exact iR_T _ | exact ⟨iR_T _, by decide, by decide⟩)
          · refine ap_go kc_59_40 ?_
            refine ai_iconst ?_; refine ap_goto rfl ?_
            refine ap_go kc_59_45 ?_
            refine ap_istore_n rfl ?_; refine ap_iload_n rfl ?_
            refine ai_ifeq rfl rfl (fun hb29 => ?_) (fun hb29 => ?_) ?_
            · refine ap_go kc_59_58 ?_
              refine ap_iload_n rfl ?_
              refine ai_ifne rfl rfl (fun hb30 => ?_) (fun hb30 => ?_) ?_
              · refine ap_go kc_59_84 ?_
                refine ap_aload_n rfl ?_; refine ap_iload_n rfl ?_
                refine ai_ifeq rfl rfl (fun hb31 => ?_) (fun hb31 => ?_) ?_
                · refine ap_go kc_59_95 ?_
                  refine ap_aload_n rfl ?_; refine ai_getI ow_59 rf_8_214 rfl rfl ?_; refine ai_iconst ?_; refine ap_iload_n rfl ?_; refine ai_ishl ?_; refine ai_ior ?_; refine ap_nil ?_
                  refine ap_go kc_59_103 ?_
                  refine ai_putI ow_59 rf_8_214 rfl rfl rfl ?_; refine ap_aload_n rfl ?_; refine ap_iload_n rfl ?_; refine ai_putI ow_59 rf_8_217 rfl rfl rfl ?_; refine ai_iconst ?_; refine ap_iret rfl ?_
                  first | (exfalso; omega) | first | exact K1  (by omega) | exact K2  (by omega) | exact K3  (by omega) | exact K4  (by omega)
                · refine ap_go kc_59_89 ?_
                  refine ai_iconst ?_; refine ap_iload_n rfl ?_; refine ai_ishl ?_; refine ap_goto rfl ?_
                  refine ap_go kc_59_103 ?_
                  refine ai_putI ow_59 rf_8_214 rfl rfl rfl ?_; refine ap_aload_n rfl ?_; refine ap_iload_n rfl ?_; refine ai_putI ow_59 rf_8_217 rfl rfl rfl ?_; refine ai_iconst ?_; refine ap_iret rfl ?_
                  first | (exfalso; omega) | first | exact K1  (by omega) | exact K2  (by omega) | exact K3  (by omega) | exact K4  (by omega)
                all_goals (first | omega | exact iR_T _ | exact ⟨iR_T _, by decide, by decide⟩)
              · refine ap_go kc_59_62 ?_
                refine ap_iload_n rfl ?_; refine ap_aload_n rfl ?_; refine ai_getI ow_59 rf_8_217 rfl rfl ?_
                refine ai_icne rfl rfl (fun hb32 => ?_) (fun hb32 => ?_) ?_
                · refine ap_go kc_59_82 ?_
                  refine ai_iconst ?_; refine ap_iret rfl ?_
                  first | (exfalso; omega) | first | exact K1  (by omega) | exact K2  (by omega) | exact K3  (by omega) | exact K4  (by omega)
                · refine ap_go kc_59_70 ?_
                  refine ap_aload_n rfl ?_; refine ai_getI ow_59 rf_8_214 rfl rfl ?_; refine ap_iload_n rfl ?_; refine ai_ishr ?_; refine ai_iconst ?_; refine ai_iand ?_; refine ai_iconst ?_
                  refine ai_icne rfl rfl (fun hb33 => ?_) (fun hb33 => ?_) ?_
                  · refine ap_go kc_59_84 ?_
                    refine ap_aload_n rfl ?_; refine ap_iload_n rfl ?_
                    refine ai_ifeq rfl rfl (fun hb34 => ?_) (fun hb34 => ?_) ?_
                    · refine ap_go kc_59_95 ?_
                      refine ap_aload_n rfl ?_; refine ai_getI ow_59 rf_8_214 rfl rfl ?_; refine ai_iconst ?_; refine ap_iload_n rfl ?_; refine ai_ishl ?_; refine ai_ior ?_; refine ap_nil ?_
                      refine ap_go kc_59_103 ?_
                      refine ai_putI ow_59 rf_8_214 rfl rfl rfl ?_; refine ap_aload_n rfl ?_; refine ap_iload_n rfl ?_; refine ai_putI ow_59 rf_8_217 rfl rfl rfl ?_; refine ai_iconst ?_; refine ap_iret rfl ?_
                      first | (exfalso; omega) | first | exact K1  (by omega) | exact K2  (by omega) | exact K3  (by omega) | exact K4  (by omega)
                    · refine ap_go kc_59_89 ?_
                      refine ai_iconst ?_; refine ap_iload_n rfl ?_; refine ai_ishl ?_; refine ap_goto rfl ?_
                      refine ap_go kc_59_103 ?_
                      refine ai_putI ow_59 rf_8_214 rfl rfl rfl ?_; refine ap_aload_n rfl ?_; refine ap_iload_n rfl ?_; refine ai_putI ow_59 rf_8_217 rfl rfl rfl ?_; refine ai_iconst ?_; refine ap_iret rfl ?_
                      first | (exfalso; omega) | first | exact K1  (by omega) | exact K2  (by omega) | exact K3  (by omega) | exact K4  (by omega)
                    all_goals (first | omega | exact iR_T _ | exact ⟨iR_T _, by decide, by decide⟩)
                  · refine ap_go kc_59_82 ?_
                    refine ai_iconst ?_; refine ap_iret rfl ?_
                    first | (exfalso; omega) | first | exact K1  (by omega) | exact K2  (by omega) | exact K3  (by omega) | exact K4  (by omega)
                  all_goals (first | omega | exact iR_T _ | exact ⟨iR_T _, by decide, by decide⟩)
                all_goals (first | omega | exact iR_T _ | exact ⟨iR_T _, by decide, by decide⟩)
              all_goals (first | omega | exact iR_T _ | exact ⟨iR_T _, by decide, by decide⟩)
            · refine ap_go kc_59_50 ?_
              refine ap_iload_n rfl ?_; refine ap_aload_n rfl ?_; refine ai_getI ow_59 rf_8_217 rfl rfl ?_
              refine ai_icle rfl rfl (fun hb35 => ?_) (fun hb35 => ?_) ?_
              · refine ap_go kc_59_82 ?_
                refine ai_iconst ?_; refine ap_iret rfl ?_
                first | (exfalso; omega) | first | exact K1  (by omega) | exact K2  (by omega) | exact K3  (by omega) | exact K4  (by omega)
              · refine ap_go kc_59_58 ?_
                refine ap_iload_n rfl ?_
                refine ai_ifne rfl rfl (fun hb36 => ?_) (fun hb36 => ?_) ?_
                · refine ap_go kc_59_84 ?_
                  refine ap_aload_n rfl ?_; refine ap_iload_n rfl ?_
                  refine ai_ifeq rfl rfl (fun hb37 => ?_) (fun hb37 => ?_) ?_
                  · refine ap_go kc_59_95 ?_
                    refine ap_aload_n rfl ?_; refine ai_getI ow_59 rf_8_214 rfl rfl ?_; refine ai_iconst ?_; refine ap_iload_n rfl ?_; refine ai_ishl ?_; refine ai_ior ?_; refine ap_nil ?_
                    refine ap_go kc_59_103 ?_
                    refine ai_putI ow_59 rf_8_214 rfl rfl rfl ?_; refine ap_aload_n rfl ?_; refine ap_iload_n rfl ?_; refine ai_putI ow_59 rf_8_217 rfl rfl rfl ?_; refine ai_iconst ?_; refine ap_iret rfl ?_
                    first | (exfalso; omega) | first | exact K1  (by omega) | exact K2  (by omega) | exact K3  (by omega) | exact K4  (by omega)
                  · refine ap_go kc_59_89 ?_
                    refine ai_iconst ?_; refine ap_iload_n rfl ?_; refine ai_ishl ?_; refine ap_goto rfl ?_
                    refine ap_go kc_59_103 ?_
                    refine ai_putI ow_59 rf_8_214 rfl rfl rfl ?_; refine ap_aload_n rfl ?_; refine ap_iload_n rfl ?_; refine ai_putI ow_59 rf_8_217 rfl rfl rfl ?_; refine ai_iconst ?_; refine ap_iret rfl ?_
                    first | (exfalso; omega) | first | exact K1  (by omega) | exact K2  (by omega) | exact K3  (by omega) | exact K4  (by omega)
                  all_goals (first | omega | exact iR_T _ | exact ⟨iR_T _, by decide, by decide⟩)
                · refine ap_go kc_59_62 ?_
                  refine ap_iload_n rfl ?_; refine ap_aload_n rfl ?_; refine ai_getI ow_59 rf_8_217 rfl rfl ?_
                  refine ai_icne rfl rfl (fun hb38 => ?_) (fun hb38 => ?_) ?_
                  · refine ap_go kc_59_82 ?_
                    refine ai_iconst ?_; refine ap_iret rfl ?_
                    first | (exfalso; omega) | first | exact K1  (by omega) | exact K2  (by omega) | exact K3  (by omega) | exact K4  (by omega)
                  · refine ap_go kc_59_70 ?_
                    refine ap_aload_n rfl ?_; refine ai_getI ow_59 rf_8_214 rfl rfl ?_; refine ap_iload_n rfl ?_; refine ai_ishr ?_; refine ai_iconst ?_; refine ai_iand ?_; refine ai_iconst ?_
                    refine ai_icne rfl rfl (fun hb39 => ?_) (fun hb39 => ?_) ?_
                    · refine ap_go kc_59_84 ?_
                      refine ap_aload_n rfl ?_; refine ap_iload_n rfl ?_
                      refine ai_ifeq rfl rfl (fun hb40 => ?_) (fun hb40 => ?_) ?_
                      · refine ap_go kc_59_95 ?_
                        refine ap_aload_n rfl ?_; refine ai_getI ow_59 rf_8_214 rfl rfl ?_; refine ai_iconst ?_; refine ap_iload_n rfl ?_; refine ai_ishl ?_; refine ai_ior ?_; refine ap_nil ?_
                        refine ap_go kc_59_103 ?_
                        refine ai_putI ow_59 rf_8_214 rfl rfl rfl ?_; refine ap_aload_n rfl ?_; refine ap_iload_n rfl ?_; refine ai_putI ow_59 rf_8_217 rfl rfl rfl ?_; refine ai_iconst ?_; refine ap_iret rfl ?_
                        first | (exfalso; omega) | first | exact K1  (by omega) | exact K2  (by omega) | exact K3  (by omega) | exact K4  (by omega)
                      · refine ap_go kc_59_89 ?_
                        refine ai_iconst ?_; refine ap_iload_n rfl ?_; refine ai_ishl ?_; refine ap_goto rfl ?_
                        refine ap_go kc_59_103 ?_
                        refine ai_putI ow_59 rf_8_214 rfl rfl rfl ?_; refine ap_aload_n rfl ?_; refine ap_iload_n rfl ?_; refine ai_putI ow_59 rf_8_217 rfl rfl rfl ?_; refine ai_iconst ?_; refine ap_iret rfl ?_
                        first | (exfalso; omega) | first | exact K1  (by omega) | exact K2  (by omega) | exact K3  (by omega) | exact K4  (by omega)
                      all_goals (first | omega | exact iR_T _ | exact ⟨iR_T _, by decide, by decide⟩)
                    · refine ap_go kc_59_82 ?_
                      refine ai_iconst ?_; refine ap_iret rfl ?_
                      first | (exfalso; omega) | first | exact K1  (by omega) | exact K2  (by omega) | exact K3  (by omega) | exact K4  (by omega)
                    all_goals (first | omega | exact iR_T _ | exact ⟨iR_T _, by decide, by decide⟩)
                  all_goals (first | omega | exact iR_T _ | exact ⟨iR_T _, by decide, by decide⟩)
                all_goals (first | omega | exact iR_T _ | exact ⟨iR_T _, by decide, by decide⟩)
              all_goals (first | omega | exact iR_T _ | exact ⟨iR_T _, by decide, by decide⟩)
            all_goals (first | omega | exact iR_T _ | exact ⟨iR_T _, by decide, by decide⟩)
          all_goals (first | omega | exact iR_T _ | exact ⟨iR_T _, by decide, by decide⟩)
        all_goals (first | omega | exact iR_T _ | exact ⟨iR_T _, by decide, by decide⟩)
      · refine ap_go kc_59_20 ?_
        refine ai_bipush (by decide) ?_; refine ap_iret rfl ?_
        first | (exfalso; omega) | first | exact K1  (by omega) | exact K2  (by omega) | exact K3  (by omega) | exact K4  (by omega)
      all_goals (first | omega | exact iR_T _ | exact ⟨iR_T _, by decide, by decide⟩)
    all_goals (first | omega | exact iR_T _ | exact ⟨iR_T _, by decide, by decide⟩)
  all_goals (first | omega | exact iR_T _ | exact ⟨iR_T _, by decide, by decide⟩)

abbrev begM (f : Nat → Nat → Int) (n : Int) : Bool := bAll (fun k => decide (97 + letZ n k = f 51 k)) (f 31 32).toNat
theorem lp_58i {d L : Nat} {sw : Bool} {f g : Nat → Nat → Int} {Q : Option Value → am_H → Prop} {c sm n : Int} (hs : 0 ≤ f 31 32 ∧ f 31 32 ≤ 3) (hn : 0 ≤ n ∧ n < 1000) (hv : ∀ k, iR (f 51 k)) (J : ∀ is : Int, is = (if begM f n = true then 1 else 0) → am_Wp (am_call (d + 1)) 58 Q 132 [some (.ref 31), none, some (.int (iZ sm)), some (.int (iZ n)), some (.int (iZ is)), none] [] (53, sh_lt L, iH f, jH g, sh_rt sw) (0, 0)) : ∀ (m k : Nat) (is i : Int), (f 31 32).toNat = k + m → is = (if bAll (fun k => decide (97 + letZ n k = f 51 k)) k = true then 1 else 0) → i = k → am_Wp (am_call (d + 1)) 58 Q 89 [some (.ref 31), none, some (.int (iZ sm)), some (.int (iZ n)), some (.int (iZ is)), some (.int (iZ i))] [] (53, sh_lt L, iH f, jH g, sh_rt sw) (0, 0) := by
  intro m
  induction m with
  | zero =>
    intro k is i hk eis ei
    refine ap_go kc_58_89 ?_
    refine ap_iload rfl ?_; refine ap_aload_n rfl ?_; refine ai_getI ow_58 rf_8_207 rfl rfl ?_
    refine ai_icge rfl rfl (fun hc0 => ?_) (fun hc0 => ?_) ?_
    · exact am_weak (by first | exact am_le_0 | (repeat (first | exact am_le_0 | refine am_le_n ?_ | refine am_le_s ?_))) (J is (by rw [eis]; unfold begM; rw [hk]; rfl))
    · exfalso; omega
    all_goals (omega)
  | succ m ih =>
    intro k is i hk eis ei
    have e1 : i.toNat = k := by omega
    have hl := let_in (n := n) (i := i) (by omega)
    have hlb : 0 ≤ letZ n i ∧ letZ n i ≤ 1000 := by
      unfold letZ
      repeat' split
      all_goals omega
    have hvk := hv i.toNat
    have hib : iR is := by rw [eis]; split <;> omega
    refine ap_go kc_58_89 ?_
    refine ap_iload rfl ?_; refine ap_aload_n rfl ?_; refine ai_getI ow_58 rf_8_207 rfl rfl ?_
    refine ai_icge rfl rfl (fun hc0 => ?_) (fun hc0 => ?_) ?_
    · exfalso; omega
    · refine ap_go kc_58_98 ?_
      refine ap_iload rfl ?_
      refine ai_ifeq rfl rfl (fun hc1 => ?_) (fun hc1 => ?_) ?_
      · refine ap_go kc_58_123 ?_
        refine ai_iconst ?_; refine ap_nil ?_
        refine ap_go kc_58_124 ?_
        refine ap_istore rfl ?_; refine ai_iinc rfl rfl ?_; refine ap_goto rfl ?_
        (try rw [e1, ei] at hc2); exact ih (k + 1) _ _ (by omega) (by simp only [bAll, Bool.and_eq_true, decide_eq_true_eq]; split at eis <;> split <;> simp_all) (by omega)
      · refine ap_go kc_58_103 ?_
        refine ap_iload_n rfl ?_; refine ap_iload rfl ?_; refine ap_calls0 ow_58 rm_8_210 na_57 mc_57 ms_57 rfl rfl (Nat.le_of_ble_eq_true rfl) (Nat.le_of_ble_eq_true rfl) rfl (Nat.zero_le _) (Nat.zero_le _) ?_; refine sp_57 ?_ ?_ ?_; dsimp only [Option.toList_some, Option.toList_none, List.cons_append, List.nil_append]; refine ap_aload_n rfl ?_; refine ap_getR ow_58 rf_8_79 rfl rfl rfl ?_; refine ap_iload rfl ?_; refine ai_iaload (n := 3) rfl rfl (by decide) ?_ ?_
        refine ai_icne rfl rfl (fun hc2 => ?_) (fun hc2 => ?_) ?_
        · refine ap_go kc_58_123 ?_
          refine ai_iconst ?_; refine ap_nil ?_
          refine ap_go kc_58_124 ?_
          refine ap_istore rfl ?_; refine ai_iinc rfl rfl ?_; refine ap_goto rfl ?_
          (try rw [e1, ei] at hc2); exact ih (k + 1) _ _ (by omega) (by simp only [bAll, Bool.and_eq_true, decide_eq_true_eq]; split at eis <;> split <;> simp_all) (by omega)
        · refine ap_go kc_58_119 ?_
          refine ai_iconst ?_; refine ap_goto rfl ?_
          refine ap_go kc_58_124 ?_
          refine ap_istore rfl ?_; refine ai_iinc rfl rfl ?_; refine ap_goto rfl ?_
          (try rw [e1, ei] at hc2); exact ih (k + 1) _ _ (by omega) (by simp only [bAll, Bool.and_eq_true, decide_eq_true_eq]; split at eis <;> split <;> simp_all) (by omega)
        all_goals (first | omega | exact ⟨hvk, by omega⟩ | exact ⟨by omega, hvk⟩)
      all_goals (first | omega | exact ⟨hvk, by omega⟩ | exact ⟨by omega, hvk⟩)
    all_goals (first | omega | exact ⟨hvk, by omega⟩ | exact ⟨by omega, hvk⟩)
