/-! THE FACE: search of the reference, advice of both -/
theorem lp_58 {d L : Nat} {sw : Bool} {f g : Nat → Nat → Int} {Q : Option Value → am_H → Prop} (hs : 0 ≤ f 31 32 ∧ f 31 32 ≤ 3) (hN : 0 ≤ f 31 1 ∧ f 31 1 ≤ 60) (hv : ∀ k, iR (f 51 k)) (K : Q (some (.int (iZ (cZ (fun n => begM f n) (f 31 1).toNat)))) (53, sh_lt L, iH f, jH g, sh_rt sw)) : ∀ (m k : Nat) (sm i : Int), (f 31 1).toNat = k + m → sm = cZ (fun n => begM f n) k → i = k + 1 → am_Wp (am_call (d + 1)) 58 Q 75 [some (.ref 31), none, some (.int (iZ sm)), some (.int (iZ i)), none, none] [] (53, sh_lt L, iH f, jH g, sh_rt sw) (0, 0) := by
  intro m
  induction m with
  | zero =>
    intro k sm i hk es ei
    have hb := cZ_in (fun n => begM f n) k
    refine ap_go kc_58_75 ?_
    refine ap_iload_n rfl ?_; refine ap_aload_n rfl ?_; refine ai_getI ow_58 rf_8_85 rfl rfl ?_
    refine ai_icgt rfl rfl (fun hc0 => ?_) (fun hc0 => ?_) ?_
    · refine ap_go kc_58_151 ?_
      refine ap_iload_n rfl ?_; refine ap_iret rfl ?_
      rw [hk] at K; rw [es]; exact K
    · exfalso; omega
    all_goals (omega)
  | succ m ih =>
    intro k sm i hk es ei
    have hb := cZ_in (fun n => begM f n) k
    have ei' : i = ((k + 1 : Nat) : Int) := by omega
    have J : ∀ is : Int, is = (if begM f i = true then 1 else 0) → am_Wp (am_call (d + 1)) 58 Q 132 [some (.ref 31), none, some (.int (iZ sm)), some (.int (iZ i)), some (.int (iZ is)), none] [] (53, sh_lt L, iH f, jH g, sh_rt sw) (0, 0) := by
      intro is eis
      have hib : iR is := by rw [eis]; split <;> omega
      refine ap_go kc_58_132 ?_
      refine ap_iload rfl ?_
      refine ai_ifeq rfl rfl (fun he0 => ?_) (fun he0 => ?_) ?_
      · refine ap_go kc_58_143 ?_
        refine ap_iload_n rfl ?_; refine ap_nil ?_
        refine ap_go kc_58_144 ?_
        refine ap_istore_n rfl ?_; refine ai_iinc rfl rfl ?_; refine ap_goto rfl ?_
        exact am_weak (by first | exact am_le_0 | (repeat (first | exact am_le_0 | refine am_le_n ?_ | refine am_le_s ?_))) (ih (k + 1) _ _ (by omega) (by rw [ei'] at eis; simp only [cZ]; split at eis <;> split <;> first | omega | contradiction) (by omega))
      · refine ap_go kc_58_137 ?_
        refine ap_iload_n rfl ?_; refine ai_iconst ?_; refine ai_iadd ?_; refine ap_goto rfl ?_
        refine ap_go kc_58_144 ?_
        refine ap_istore_n rfl ?_; refine ai_iinc rfl rfl ?_; refine ap_goto rfl ?_
        exact am_weak (by first | exact am_le_0 | (repeat (first | exact am_le_0 | refine am_le_n ?_ | refine am_le_s ?_))) (ih (k + 1) _ _ (by omega) (by rw [ei'] at eis; simp only [cZ]; split at eis <;> split <;> first | omega | contradiction) (by omega))
      all_goals (omega)
    refine ap_go kc_58_75 ?_
    refine ap_iload_n rfl ?_; refine ap_aload_n rfl ?_; refine ai_getI ow_58 rf_8_85 rfl rfl ?_
    refine ai_icgt rfl rfl (fun hc0 => ?_) (fun hc0 => ?_) ?_
    · exfalso; omega
    · refine ap_go kc_58_83 ?_
      refine ai_iconst ?_; refine ap_istore rfl ?_; refine ai_iconst ?_; refine ap_istore rfl ?_; refine ap_nil ?_
      exact am_weak (by first | exact am_le_0 | (repeat (first | exact am_le_0 | refine am_le_n ?_ | refine am_le_s ?_))) (lp_58i (c := 0) hs (by omega) hv J (f 31 32).toNat 0 1 0 (by omega) rfl rfl)
    all_goals (omega)

theorem sp_58 {d L : Nat} {sw : Bool} {f g : Nat → Nat → Int} {Q : Option Value → am_H → Prop} {f1 : Nat → Nat → Int} {c : Int} (hf : am_up f 31 0 0 = f1) (K1 : ¬ (c = 0 ∨ 97 ≤ c ∧ c ≤ 122) → Q (some (.int (iZ (-2)))) (53, sh_lt L, iH f1, jH g, sh_rt sw)) (K2 : 97 ≤ c ∧ c ≤ 122 ∧ f1 31 32 = 3 → Q (some (.int (iZ (-3)))) (53, sh_lt L, iH f1, jH g, sh_rt sw)) (K3 : c = 0 → Q (some (.int (iZ (cZ (fun n => begM (am_up f1 31 32 0) n) (f1 31 1).toNat)))) (53, sh_lt L, iH (am_up f1 31 32 0), jH g, sh_rt sw)) (K4 : 97 ≤ c ∧ c ≤ 122 ∧ f1 31 32 < 3 → Q (some (.int (iZ (cZ (fun n => begM (am_up (am_up f1 51 (f1 31 32).toNat c) 31 32 (f1 31 32 + 1)) n) (f1 31 1).toNat)))) (53, sh_lt L, iH (am_up (am_up f1 51 (f1 31 32).toNat c) 31 32 (f1 31 32 + 1)), jH g, sh_rt sw)) (hc : iR c) (hs : 0 ≤ f1 31 32 ∧ f1 31 32 ≤ 3) (hN : 0 ≤ f1 31 1 ∧ f1 31 1 ≤ 60) (hv : ∀ k, iR (f1 51 k)) : am_call (d + 2) 58 [.ref 31, .int (iZ c)] (53, sh_lt L, iH f, jH g, sh_rt sw) Q := by
  refine ap_call (by decide) (Nat.le_of_ble_eq_true rfl) rfl ?_
  refine ap_go kc_58_0 ?_
  refine ap_aload_n rfl ?_; refine ai_iconst ?_; refine ai_putI ow_58 rf_8_82 rfl rfl rfl ?_
  rw [hf]
  refine ap_iload_n rfl ?_
  refine ai_ifeq rfl rfl (fun hb0 => ?_) (fun hb0 => ?_) ?_
  · refine ap_go kc_58_24 ?_
    refine ap_iload_n rfl ?_
    refine ai_ifeq rfl rfl (fun hb1 => ?_) (fun hb1 => ?_) ?_
    · refine ap_go kc_58_39 ?_
      refine ap_iload_n rfl ?_
      refine ai_ifle rfl rfl (fun hb2 => ?_) (fun hb2 => ?_) ?_
      · refine ap_go kc_58_53 ?_
        refine ap_aload_n rfl ?_; refine ap_iload_n rfl ?_
        refine ai_ifne rfl rfl (fun hb3 => ?_) (fun hb3 => ?_) ?_
        · refine ap_go kc_58_62 ?_
          refine ap_aload_n rfl ?_; refine ai_getI ow_58 rf_8_207 rfl rfl ?_; refine ai_iconst ?_; refine ai_iadd ?_; refine ap_nil ?_
          refine ap_go kc_58_68 ?_
          refine ai_putI ow_58 rf_8_207 rfl rfl rfl ?_; refine ai_iconst ?_; refine ap_istore_n rfl ?_; refine ai_iconst ?_; refine ap_istore_n rfl ?_; refine ap_nil ?_
          first | (exfalso; omega) | exact am_weak (by first | exact am_le_0 | (repeat (first | exact am_le_0 | refine am_le_n ?_ | refine am_le_s ?_))) (lp_58 (f := (am_up f1 31 32 0)) (by simp [am_up]) hN (fun k => hv k) (K3 (by omega)) (f1 31 1).toNat 0 0 1 (by show (f1 31 1).toNat = _; omega) rfl rfl) | exact am_weak (by first | exact am_le_0 | (repeat (first | exact am_le_0 | refine am_le_n ?_ | refine am_le_s ?_))) (lp_58 (f := (am_up (am_up f1 51 (f1 31 32).toNat c) 31 32 (f1 31 32 + 1))) (by simp [am_up]; omega) hN (fun k => by simp only [am_up]; split; omega; split; omega; exact hv k) (K4 (by omega)) (f1 31 1).toNat 0 0 1 (by show (f1 31 1).toNat = _; omega) rfl rfl)
        · refine ap_go kc_58_58 ?_
          refine ai_iconst ?_; refine ap_goto rfl ?_
          refine ap_go kc_58_68 ?_
          refine ai_putI ow_58 rf_8_207 rfl rfl rfl ?_; refine ai_iconst ?_; refine ap_istore_n rfl ?_; refine ai_iconst ?_; refine ap_istore_n rfl ?_; refine ap_nil ?_
          first | (exfalso; omega) | exact am_weak (by first | exact am_le_0 | (repeat (first | exact am_le_0 | refine am_le_n ?_ | refine am_le_s ?_))) (lp_58 (f := (am_up f1 31 32 0)) (by simp [am_up]) hN (fun k => hv k) (K3 (by omega)) (f1 31 1).toNat 0 0 1 (by show (f1 31 1).toNat = _; omega) rfl rfl) | exact am_weak (by first | exact am_le_0 | (repeat (first | exact am_le_0 | refine am_le_n ?_ | refine am_le_s ?_))) (lp_58 (f := (am_up (am_up f1 51 (f1 31 32).toNat c) 31 32 (f1 31 32 + 1))) (by simp [am_up]; omega) hN (fun k => by simp only [am_up]; split; omega; split; omega; exact hv k) (K4 (by omega)) (f1 31 1).toNat 0 0 1 (by show (f1 31 1).toNat = _; omega) rfl rfl)
        all_goals (first | omega | (simp [am_up] <;> omega))
      · refine ap_go kc_58_43 ?_
        refine ap_aload_n rfl ?_; refine ap_getR ow_58 rf_8_79 rfl rfl rfl ?_; refine ap_aload_n rfl ?_; refine ai_getI ow_58 rf_8_207 rfl rfl ?_; refine ap_iload_n rfl ?_; refine ai_iastore (n := 3) rfl rfl (by decide) ?_ ?_; refine ap_nil ?_
        · refine ap_go kc_58_53 ?_
          refine ap_aload_n rfl ?_; refine ap_iload_n rfl ?_
          refine ai_ifne rfl rfl (fun hb4 => ?_) (fun hb4 => ?_) ?_
          · refine ap_go kc_58_62 ?_
            refine ap_aload_n rfl ?_; refine ai_getI ow_58 rf_8_207 rfl rfl ?_; refine ai_iconst ?_; refine ai_iadd ?_; refine ap_nil ?_
            refine ap_go kc_58_68 ?_
            refine ai_putI ow_58 rf_8_207 rfl rfl rfl ?_; refine ai_iconst ?_; refine ap_istore_n rfl ?_; refine ai_iconst ?_; refine ap_istore_n rfl ?_; refine ap_nil ?_
            first | (exfalso; omega) | exact am_weak (by first | exact am_le_0 | (repeat (first | exact am_le_0 | refine am_le_n ?_ | refine am_le_s ?_))) (lp_58 (f := (am_up f1 31 32 0)) (by simp [am_up]) hN (fun k => hv k) (K3 (by omega)) (f1 31 1).toNat 0 0 1 (by show (f1 31 1).toNat = _; omega) rfl rfl) | exact am_weak (by first | exact am_le_0 | (repeat (first | exact am_le_0 | refine am_le_n ?_ | refine am_le_s ?_))) (lp_58 (f := (am_up (am_up f1 51 (f1 31 32).toNat c) 31 32 (f1 31 32 + 1))) (by simp [am_up]; omega) hN (fun k => by simp only [am_up]; split; omega; split; omega; exact hv k) (K4 (by omega)) (f1 31 1).toNat 0 0 1 (by show (f1 31 1).toNat = _; omega) rfl rfl)
          · refine ap_go kc_58_58 ?_
            refine ai_iconst ?_; refine ap_goto rfl ?_
            refine ap_go kc_58_68 ?_
            refine ai_putI ow_58 rf_8_207 rfl rfl rfl ?_; refine ai_iconst ?_; refine ap_istore_n rfl ?_; refine ai_iconst ?_; refine ap_istore_n rfl ?_; refine ap_nil ?_
            first | (exfalso; omega) | exact am_weak (by first | exact am_le_0 | (repeat (first | exact am_le_0 | refine am_le_n ?_ | refine am_le_s ?_))) (lp_58 (f := (am_up f1 31 32 0)) (by simp [am_up]) hN (fun k => hv k) (K3 (by omega)) (f1 31 1).toNat 0 0 1 (by show (f1 31 1).toNat = _; omega) rfl rfl) | exact am_weak (by first | exact am_le_0 | (repeat (first | exact am_le_0 | refine am_le_n ?_ | refine am_le_s ?_))) (lp_58 (f := (am_up (am_up f1 51 (f1 31 32).toNat c) 31 32 (f1 31 32 + 1))) (by simp [am_up]; omega) hN (fun k => by simp only [am_up]; split; omega; split; omega; exact hv k) (K4 (by omega)) (f1 31 1).toNat 0 0 1 (by show (f1 31 1).toNat = _; omega) rfl rfl)
          all_goals (first | omega | (simp [am_up] <;> omega))
        all_goals (first | omega | (simp [am_up] <;> omega))
      all_goals (first | omega | (simp [am_up] <;> omega))
    · refine ap_go kc_58_28 ?_
      refine ap_aload_n rfl ?_; refine ai_getI ow_58 rf_8_207 rfl rfl ?_; refine ai_iconst ?_
      refine ai_icne rfl rfl (fun hb5 => ?_) (fun hb5 => ?_) ?_
      · refine ap_go kc_58_39 ?_
        refine ap_iload_n rfl ?_
        refine ai_ifle rfl rfl (fun hb6 => ?_) (fun hb6 => ?_) ?_
        · refine ap_go kc_58_53 ?_
          refine ap_aload_n rfl ?_; refine ap_iload_n rfl ?_
          refine ai_ifne rfl rfl (fun hb7 => ?_) (fun hb7 => ?_) ?_
          · refine ap_go kc_58_62 ?_
            refine ap_aload_n rfl ?_; refine ai_getI ow_58 rf_8_207 rfl rfl ?_; refine ai_iconst ?_; refine ai_iadd ?_; refine ap_nil ?_
            refine ap_go kc_58_68 ?_
            refine ai_putI ow_58 rf_8_207 rfl rfl rfl ?_; refine ai_iconst ?_; refine ap_istore_n rfl ?_; refine ai_iconst ?_; refine ap_istore_n rfl ?_; refine ap_nil ?_
            first | (exfalso; omega) | exact am_weak (by first | exact am_le_0 | (repeat (first | exact am_le_0 | refine am_le_n ?_ | refine am_le_s ?_))) (lp_58 (f := (am_up f1 31 32 0)) (by simp [am_up]) hN (fun k => hv k) (K3 (by omega)) (f1 31 1).toNat 0 0 1 (by show (f1 31 1).toNat = _; omega) rfl rfl) | exact am_weak (by first | exact am_le_0 | (repeat (first | exact am_le_0 | refine am_le_n ?_ | refine am_le_s ?_))) (lp_58 (f := (am_up (am_up f1 51 (f1 31 32).toNat c) 31 32 (f1 31 32 + 1))) (by simp [am_up]; omega) hN (fun k => by simp only [am_up]; split; omega; split; omega; exact hv k) (K4 (by omega)) (f1 31 1).toNat 0 0 1 (by show (f1 31 1).toNat = _; omega) rfl rfl)
          · refine ap_go kc_58_58 ?_
            refine ai_iconst ?_; refine ap_goto rfl ?_
            refine ap_go kc_58_68 ?_
            refine ai_putI ow_58 rf_8_207 rfl rfl rfl ?_; refine ai_iconst ?_; refine ap_istore_n rfl ?_; refine ai_iconst ?_; refine ap_istore_n rfl ?_; refine ap_nil ?_
            first | (exfalso; omega) | exact am_weak (by first | exact am_le_0 | (repeat (first | exact am_le_0 | refine am_le_n ?_ | refine am_le_s ?_))) (lp_58 (f := (am_up f1 31 32 0)) (by simp [am_up]) hN (fun k => hv k) (K3 (by omega)) (f1 31 1).toNat 0 0 1 (by show (f1 31 1).toNat = _; omega) rfl rfl) | exact am_weak (by first | exact am_le_0 | (repeat (first | exact am_le_0 | refine am_le_n ?_ | refine am_le_s ?_))) (lp_58 (f := (am_up (am_up f1 51 (f1 31 32).toNat c) 31 32 (f1 31 32 + 1))) (by simp [am_up]; omega) hN (fun k => by simp only [am_up]; split; omega; split; omega; exact hv k) (K4 (by omega)) (f1 31 1).toNat 0 0 1 (by show (f1 31 1).toNat = _; omega) rfl rfl)
          all_goals (first | omega | (simp [am_up] <;> omega))
        · refine ap_go kc_58_43 ?_
          refine ap_aload_n rfl ?_; refine ap_getR ow_58 rf_8_79 rfl rfl rfl ?_; refine ap_aload_n rfl ?_; refine ai_getI ow_58 rf_8_207 rfl rfl ?_; refine ap_iload_n rfl ?_; refine ai_iastore (n := 3) rfl rfl (by decide) ?_ ?_; refine ap_nil ?_
          · refine ap_go kc_58_53 ?_
            refine ap_aload_n rfl ?_; refine ap_iload_n rfl ?_
            refine ai_ifne rfl rfl (fun hb8 => ?_) (fun hb8 => ?_) ?_
            · refine ap_go kc_58_62 ?_
              refine ap_aload_n rfl ?_; refine ai_getI ow_58 rf_8_207 rfl rfl ?_; refine ai_iconst ?_; refine ai_iadd ?_; refine ap_nil ?_
              refine ap_go kc_58_68 ?_
              refine ai_putI ow_58 rf_8_207 rfl rfl rfl ?_; refine ai_iconst ?_; refine ap_istore_n rfl ?_; refine ai_iconst ?_; refine ap_istore_n rfl ?_; refine ap_nil ?_
              first | (exfalso; omega) | exact am_weak (by first | exact am_le_0 | (repeat (first | exact am_le_0 | refine am_le_n ?_ | refine am_le_s ?_))) (lp_58 (f := (am_up f1 31 32 0)) (by simp [am_up]) hN (fun k => hv k) (K3 (by omega)) (f1 31 1).toNat 0 0 1 (by show (f1 31 1).toNat = _; omega) rfl rfl) | exact am_weak (by first | exact am_le_0 | (repeat (first | exact am_le_0 | refine am_le_n ?_ | refine am_le_s ?_))) (lp_58 (f := (am_up (am_up f1 51 (f1 31 32).toNat c) 31 32 (f1 31 32 + 1))) (by simp [am_up]; omega) hN (fun k => by simp only [am_up]; split; omega; split; omega; exact hv k) (K4 (by omega)) (f1 31 1).toNat 0 0 1 (by show (f1 31 1).toNat = _; omega) rfl rfl)
            · refine ap_go kc_58_58 ?_
              refine ai_iconst ?_; refine ap_goto rfl ?_
              refine ap_go kc_58_68 ?_
              refine ai_putI ow_58 rf_8_207 rfl rfl rfl ?_; refine ai_iconst ?_; refine ap_istore_n rfl ?_; refine ai_iconst ?_; refine ap_istore_n rfl ?_; refine ap_nil ?_
              first | (exfalso; omega) | exact am_weak (by first | exact am_le_0 | (repeat (first | exact am_le_0 | refine am_le_n ?_ | refine am_le_s ?_))) (lp_58 (f := (am_up f1 31 32 0)) (by simp [am_up]) hN (fun k => hv k) (K3 (by omega)) (f1 31 1).toNat 0 0 1 (by show (f1 31 1).toNat = _; omega) rfl rfl) | exact am_weak (by first | exact am_le_0 | (repeat (first | exact am_le_0 | refine am_le_n ?_ | refine am_le_s ?_))) (lp_58 (f := (am_up (am_up f1 51 (f1 31 32).toNat c) 31 32 (f1 31 32 + 1))) (by simp [am_up]; omega) hN (fun k => by simp only [am_up]; split; omega; split; omega; exact hv k) (K4 (by omega)) (f1 31 1).toNat 0 0 1 (by show (f1 31 1).toNat = _; omega) rfl rfl)
            all_goals (first | omega | (simp [am_up] <;> omega))
          all_goals (first | omega | (simp [am_up] <;> omega))
        all_goals (first | omega | (simp [am_up] <;> omega))
      · refine ap_go kc_58_36 ?_
        refine ai_bipush (by decide) ?_; refine ap_iret rfl ?_
        first | exact K1  (by omega) | exact K2  (by omega) | exact K3  (by omega) | exact K4  (by omega)
      all_goals (first | omega | (simp [am_up] <;> omega))
    all_goals (first | omega | (simp [am_up] <;> omega))
  · refine ap_go kc_58_9 ?_
    refine ap_iload_n rfl ?_; refine ai_bipush (by decide) ?_
    refine ai_iclt rfl rfl (fun hb9 => ?_) (fun hb9 => ?_) ?_
    · refine ap_go kc_58_21 ?_
      refine ai_bipush (by decide) ?_; refine ap_iret rfl ?_
      first | exact K1  (by omega) | exact K2  (by omega) | exact K3  (by omega) | exact K4  (by omega)
    · refine ap_go kc_58_15 ?_
      refine ap_iload_n rfl ?_; refine ai_bipush (by decide) ?_
      refine ai_icle rfl rfl (fun hb10 => ?_) (fun hb10 => ?_) ?_
      · refine ap_go kc_58_24 ?_
        refine ap_iload_n rfl ?_
        refine ai_ifeq rfl rfl (fun hb11 => ?_) (fun hb11 => ?_) ?_
        · refine ap_go kc_58_39 ?_
          refine ap_iload_n rfl ?_
          refine ai_ifle rfl rfl (fun hb12 => ?_) (fun hb12 => ?_) ?_
          · refine ap_go kc_58_53 ?_
            refine ap_aload_n rfl ?_; refine ap_iload_n rfl ?_
            refine ai_ifne rfl rfl (fun hb13 => ?_) (fun hb13 => ?_) ?_
            · refine ap_go kc_58_62 ?_
              refine ap_aload_n rfl ?_; refine ai_getI ow_58 rf_8_207 rfl rfl ?_; refine ai_iconst ?_; refine ai_iadd ?_; refine ap_nil ?_
              refine ap_go kc_58_68 ?_
              refine ai_putI ow_58 rf_8_207 rfl rfl rfl ?_; refine ai_iconst ?_; refine ap_istore_n rfl ?_; refine ai_iconst ?_; refine ap_istore_n rfl ?_; refine ap_nil ?_
              first | (exfalso; omega) | exact am_weak (by first | exact am_le_0 | (repeat (first | exact am_le_0 | refine am_le_n ?_ | refine am_le_s ?_))) (lp_58 (f := (am_up f1 31 32 0)) (by simp [am_up]) hN (fun k => hv k) (K3 (by omega)) (f1 31 1).toNat 0 0 1 (by show (f1 31 1).toNat = _; omega) rfl rfl) | exact am_weak (by first | exact am_le_0 | (repeat (first | exact am_le_0 | refine am_le_n ?_ | refine am_le_s ?_))) (lp_58 (f := (am_up (am_up f1 51 (f1 31 32).toNat c) 31 32 (f1 31 32 + 1))) (by simp [am_up]; omega) hN (fun k => by simp only [am_up]; split; omega; split; omega; exact hv k) (K4 (by omega)) (f1 31 1).toNat 0 0 1 (by show (f1 31 1).toNat = _; omega) rfl rfl)
            · refine ap_go kc_58_58 ?_
              refine ai_iconst ?_; refine ap_goto rfl ?_
              refine ap_go kc_58_68 ?_
              refine ai_putI ow_58 rf_8_207 rfl rfl rfl ?_; refine ai_iconst ?_; refine ap_istore_n rfl ?_; refine ai_iconst ?_; refine ap_istore_n rfl ?_; refine ap_nil ?_
              first | (exfalso; omega) | exact am_weak (by first | exact am_le_0 | (repeat (first | exact am_le_0 | refine am_le_n ?_ | refine am_le_s ?_))) (lp_58 (f := (am_up f1 31 32 0)) (by simp [am_up]) hN (fun k => hv k) (K3 (by omega)) (f1 31 1).toNat 0 0 1 (by show (f1 31 1).toNat = _; omega) rfl rfl) | exact am_weak (by first | exact am_le_0 | (repeat (first | exact am_le_0 | refine am_le_n ?_ | refine am_le_s ?_))) (lp_58 (f := (am_up (am_up f1 51 (f1 31 32).toNat c) 31 32 (f1 31 32 + 1))) (by simp [am_up]; omega) hN (fun k => by simp only [am_up]; split; omega; split; omega; exact hv k) (K4 (by omega)) (f1 31 1).toNat 0 0 1 (by show (f1 31 1).toNat = _; omega) rfl rfl)
            all_goals (first | omega | (simp [am_up] <;> omega))
          · refine ap_go kc_58_43 ?_
            refine ap_aload_n rfl ?_; refine ap_getR ow_58 rf_8_79 rfl rfl rfl ?_; refine ap_aload_n rfl ?_; refine ai_getI ow_58 rf_8_207 rfl rfl ?_; refine ap_iload_n rfl ?_; refine ai_iastore (n := 3) rfl rfl (by decide) ?_ ?_; refine ap_nil ?_
            · refine ap_go kc_58_53 ?_
              refine ap_aload_n rfl ?_; refine ap_iload_n rfl ?_
              refine ai_ifne rfl rfl (fun hb14 => ?_) (fun hb14 => ?_) ?_
              · refine ap_go kc_58_62 ?_
                refine ap_aload_n rfl ?_; refine ai_getI ow_58 rf_8_207 rfl rfl ?_; refine ai_iconst ?_; refine ai_iadd ?_; refine ap_nil ?_
                refine ap_go kc_58_68 ?_
                refine ai_putI ow_58 rf_8_207 rfl rfl rfl ?_; refine ai_iconst ?_; refine ap_istore_n rfl ?_; refine ai_iconst ?_; refine ap_istore_n rfl ?_; refine ap_nil ?_
                first | (exfalso; omega) | exact am_weak (by first | exact am_le_0 | (repeat (first | exact am_le_0 | refine am_le_n ?_ | refine am_le_s ?_))) (lp_58 (f := (am_up f1 31 32 0)) (by simp [am_up]) hN (fun k => hv k) (K3 (by omega)) (f1 31 1).toNat 0 0 1 (by show (f1 31 1).toNat = _; omega) rfl rfl) | exact am_weak (by first | exact am_le_0 | (repeat (first | exact am_le_0 | refine am_le_n ?_ | refine am_le_s ?_))) (lp_58 (f := (am_up (am_up f1 51 (f1 31 32).toNat c) 31 32 (f1 31 32 + 1))) (by simp [am_up]; omega) hN (fun k => by simp only [am_up]; split; omega; split; omega; exact hv k) (K4 (by omega)) (f1 31 1).toNat 0 0 1 (by show (f1 31 1).toNat = _; omega) rfl rfl)
              · refine ap_go kc_58_58 ?_
                refine ai_iconst ?_; refine ap_goto rfl ?_
                refine ap_go kc_58_68 ?_
                refine ai_putI ow_58 rf_8_207 rfl rfl rfl ?_; refine ai_iconst ?_; refine ap_istore_n rfl ?_; refine ai_iconst ?_; refine ap_istore_n rfl ?_; refine ap_nil ?_
                first | (exfalso; omega) | exact am_weak (by first | exact am_le_0 | (repeat (first | exact am_le_0 | refine am_le_n ?_ | refine am_le_s ?_))) (lp_58 (f := (am_up f1 31 32 0)) (by simp [am_up]) hN (fun k => hv k) (K3 (by omega)) (f1 31 1).toNat 0 0 1 (by show (f1 31 1).toNat = _; omega) rfl rfl) | exact am_weak (by first | exact am_le_0 | (repeat (first | exact am_le_0 | refine am_le_n ?_ | refine am_le_s ?_))) (lp_58 (f := (am_up (am_up f1 51 (f1 31 32).toNat c) 31 32 (f1 31 32 + 1))) (by simp [am_up]; omega) hN (fun k => by simp only [am_up]; split; omega; split; omega; exact hv k) (K4 (by omega)) (f1 31 1).toNat 0 0 1 (by show (f1 31 1).toNat = _; omega) rfl rfl)
              all_goals (first | omega | (simp [am_up] <;> omega))
            all_goals (first | omega | (simp [am_up] <;> omega))
          all_goals (first | omega | (simp [am_up] <;> omega))
        · refine ap_go kc_58_28 ?_
          refine ap_aload_n rfl ?_; refine ai_getI ow_58 rf_8_207 rfl rfl ?_; refine ai_iconst ?_
          refine ai_icne rfl rfl (fun hb15 => ?_) (fun hb15 => ?_) ?_
          · refine ap_go kc_58_39 ?_
            refine ap_iload_n rfl ?_
            refine ai_ifle rfl rfl (fun hb16 => ?_) (fun hb16 => ?_) ?_
            · refine ap_go kc_58_53 ?_
              refine ap_aload_n rfl ?_; refine ap_iload_n rfl ?_
              refine ai_ifne rfl rfl (fun hb17 => ?_) (fun hb17 => ?_) ?_
              · refine ap_go kc_58_62 ?_
                refine ap_aload_n rfl ?_; refine ai_getI ow_58 rf_8_207 rfl rfl ?_; refine ai_iconst ?_; refine ai_iadd ?_; refine ap_nil ?_
                refine ap_go kc_58_68 ?_
                refine ai_putI ow_58 rf_8_207 rfl rfl rfl ?_; refine ai_iconst ?_; refine ap_istore_n rfl ?_; refine ai_iconst ?_; refine ap_istore_n rfl ?_; refine ap_nil ?_
                first | (exfalso; omega) | exact am_weak (by first | exact am_le_0 | (repeat (first | exact am_le_0 | refine am_le_n ?_ | refine am_le_s ?_))) (lp_58 (f := (am_up f1 31 32 0)) (by simp [am_up]) hN (fun k => hv k) (K3 (by omega)) (f1 31 1).toNat 0 0 1 (by show (f1 31 1).toNat = _; omega) rfl rfl) | exact am_weak (by first | exact am_le_0 | (repeat (first | exact am_le_0 | refine am_le_n ?_ | refine am_le_s ?_))) (lp_58 (f := (am_up (am_up f1 51 (f1 31 32).toNat c) 31 32 (f1 31 32 + 1))) (by simp [am_up]; omega) hN (fun k => by simp only [am_up]; split; omega; split; omega; exact hv k) (K4 (by omega)) (f1 31 1).toNat 0 0 1 (by show (f1 31 1).toNat = _; omega) rfl rfl)
              · refine ap_go kc_58_58 ?_
                refine ai_iconst ?_; refine ap_goto rfl ?_
                refine ap_go kc_58_68 ?_
                refine ai_putI ow_58 rf_8_207 rfl rfl rfl ?_; refine ai_iconst ?_; refine ap_istore_n rfl ?_; refine ai_iconst ?_; refine ap_istore_n rfl ?_; refine ap_nil ?_
                first | (exfalso; omega) | exact am_weak (by first | exact am_le_0 | (repeat (first | exact am_le_0 | refine am_le_n ?_ | refine am_le_s ?_))) (lp_58 (f := (am_up f1 31 32 0)) (by simp [am_up]) hN (fun k => hv k) (K3 (by omega)) (f1 31 1).toNat 0 0 1 (by show (f1 31 1).toNat = _; omega) rfl rfl) | exact am_weak (by first | exact am_le_0 | (repeat (first | exact am_le_0 | refine am_le_n ?_ | refine am_le_s ?_))) (lp_58 (f := (am_up (am_up f1 51 (f1 31 32).toNat c) 31 32 (f1 31 32 + 1))) (by simp [am_up]; omega) hN (fun k => by simp only [am_up]; split; omega; split; omega; exact hv k) (K4 (by omega)) (f1 31 1).toNat 0 0 1 (by show (f1 31 1).toNat = _; omega) rfl rfl)
              all_goals (first | omega | (simp [am_up] <;> omega))
            · refine ap_go kc_58_43 ?_
              refine ap_aload_n rfl ?_; refine ap_getR ow_58 rf_8_79 rfl rfl rfl ?_; refine ap_aload_n rfl ?_; refine ai_getI ow_58 rf_8_207 rfl rfl ?_; refine ap_iload_n rfl ?_; refine ai_iastore (n := 3) rfl rfl (by decide) ?_ ?_; refine ap_nil ?_
              · refine ap_go kc_58_53 ?_
                refine ap_aload_n rfl ?_; refine ap_iload_n rfl ?_
                refine ai_ifne rfl rfl (fun hb18 => ?_) (fun hb18 => ?_) ?_
                · refine ap_go kc_58_62 ?_
                  refine ap_aload_n rfl ?_; refine ai_getI ow_58 rf_8_207 rfl rfl ?_; refine ai_iconst ?_; refine ai_iadd ?_; refine ap_nil ?_
                  refine ap_go kc_58_68 ?_
                  refine ai_putI ow_58 rf_8_207 rfl rfl rfl ?_; refine ai_iconst ?_; refine ap_istore_n rfl ?_; refine ai_iconst ?_; refine ap_istore_n rfl ?_; refine ap_nil ?_
                  first | (exfalso; omega) | exact am_weak (by first | exact am_le_0 | (repeat (first | exact am_le_0 | refine am_le_n ?_ | refine am_le_s ?_))) (lp_58 (f := (am_up f1 31 32 0)) (by simp [am_up]) hN (fun k => hv k) (K3 (by omega)) (f1 31 1).toNat 0 0 1 (by show (f1 31 1).toNat = _; omega) rfl rfl) | exact am_weak (by first | exact am_le_0 | (repeat (first | exact am_le_0 | refine am_le_n ?_ | refine am_le_s ?_))) (lp_58 (f := (am_up (am_up f1 51 (f1 31 32).toNat c) 31 32 (f1 31 32 + 1))) (by simp [am_up]; omega) hN (fun k => by simp only [am_up]; split; omega; split; omega; exact hv k) (K4 (by omega)) (f1 31 1).toNat 0 0 1 (by show (f1 31 1).toNat = _; omega) rfl rfl)
                · refine ap_go kc_58_58 ?_
                  refine ai_iconst ?_; refine ap_goto rfl ?_
                  refine ap_go kc_58_68 ?_
                  refine ai_putI ow_58 rf_8_207 rfl rfl rfl ?_; refine ai_iconst ?_; refine ap_istore_n rfl ?_; refine ai_iconst ?_; refine ap_istore_n rfl ?_; refine ap_nil ?_
                  first | (exfalso; omega) | exact am_weak (by first | exact am_le_0 | (repeat (first | exact am_le_0 | refine am_le_n ?_ | refine am_le_s ?_))) (lp_58 (f := (am_up f1 31 32 0)) (by simp [am_up]) hN (fun k => hv k) (K3 (by omega)) (f1 31 1).toNat 0 0 1 (by show (f1 31 1).toNat = _; omega) rfl rfl) | exact am_weak (by first | exact am_le_0 | (repeat (first | exact am_le_0 | refine am_le_n ?_ | refine am_le_s ?_))) (lp_58 (f := (am_up (am_up f1 51 (f1 31 32).toNat c) 31 32 (f1 31 32 + 1))) (by simp [am_up]; omega) hN (fun k => by simp only [am_up]; split; omega; split; omega; exact hv k) (K4 (by omega)) (f1 31 1).toNat 0 0 1 (by show (f1 31 1).toNat = _; omega) rfl rfl)
                all_goals (first | omega | (simp [am_up] <;> omega))
              all_goals (first | omega | (simp [am_up] <;> omega))
            all_goals (first | omega | (simp [am_up] <;> omega))
          · refine ap_go kc_58_36 ?_
            refine ai_bipush (by decide) ?_; refine ap_iret rfl ?_
            first | exact K1  (by omega) | exact K2  (by omega) | exact K3  (by omega) | exact K4  (by omega)
          all_goals (first | omega | (simp [am_up] <;> omega))
        all_goals (first | omega | (simp [am_up] <;> omega))
      · refine ap_go kc_58_21 ?_
        refine ai_bipush (by decide) ?_; refine ap_iret rfl ?_
        first | exact K1  (by omega) | exact K2  (by omega) | exact K3  (by omega) | exact K4  (by omega)
      all_goals (first | omega | (simp [am_up] <;> omega))
    all_goals (first | omega | (simp [am_up] <;> omega))
  all_goals (first | omega | (simp [am_up] <;> omega))
