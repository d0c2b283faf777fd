/-! SNAP of the reference: the loop -/
theorem lp_56 {d L : Nat} {sw : Bool} {f g : Nat → Nat → Int} {Q : Option Value → am_H → Prop} {x y h : Int} (hc : 0 ≤ f 31 5 ∧ f 31 5 ≤ 120) (hh : -1 ≤ h ∧ h ≤ 7) (hok : ∀ s : Nat, 1 ≤ s → (s : Int) ≤ f 31 5 → okM f g x y s) (hsq : ∀ s, lR (sqM f g x y s)) (K : Q (some (.int (iZ (snM (fitM f g h) (sqM f g x y) (f 31 5).toNat).1))) (53, sh_lt L, iH f, jH g, sh_rt sw)) : ∀ (m k : Nat) (a l i : Int), (f 31 5).toNat = k + m → a = (snM (fitM f g h) (sqM f g x y) k).1 → l = (snM (fitM f g h) (sqM f g x y) k).2 → i = k + 1 → am_Wp (am_call (d + 1)) 56 Q 62 [some (.ref 31), some (.long (lZ x)), none, some (.long (lZ y)), none, some (.int (iZ h)), some (.int (iZ a)), some (.long (lZ l)), none, some (.int (iZ i)), none, none, none, none, none] [] (53, sh_lt L, iH f, jH g, sh_rt sw) (0, 0) := by
  intro m
  induction m with
  | zero =>
    intro k a l i hk ea el ei
    refine ap_go kc_56_62 ?_
    refine ap_iload rfl ?_; refine ap_aload_n rfl ?_; refine ai_getI ow_56 rf_8_88 rfl rfl ?_
    refine ai_icgt rfl rfl (fun hc0 => ?_) (fun hc0 => ?_) ?_
    · refine ap_go kc_56_235 ?_
      refine ap_iload rfl ?_; refine ap_iret rfl ?_
      rw [hk] at K; rw [ea]; exact K
    · exfalso; omega
    all_goals (omega)
  | succ m ih =>
    intro k a l i hk ea el ei
    have hin := snM_in hsq (fit := fitM f g h) k
    rw [← ea, ← el] at hin
    have ei' : i.toNat = k + 1 := by omega
    obtain ⟨o1, o2, o3, o4, o5, o6, o7, o8, o9⟩ := hok (k + 1) (by omega) (by omega)
    rw [← ei'] at o1 o2 o3 o4 o5 o6 o7 o8 o9
    have hsk := hsq i.toNat
    have ho := oct_in (g 32 (f 36 i.toNat).toNat - g 32 (f 35 i.toNat).toNat) (g 33 (f 36 i.toNat).toNat - g 33 (f 35 i.toNat).toNat)
    have j197 : ∀ dv : Int, dv = (if fitM f g h (k + 1) = true then sqM f g x y (k + 1) else 2501) → am_Wp (am_call (d + 1)) 56 Q 197 [some (.ref 31), some (.long (lZ x)), none, some (.long (lZ y)), none, some (.int (iZ h)), some (.int (iZ a)), some (.long (lZ l)), none, some (.int (iZ i)), none, none, none, none, none] [.long (lZ dv)] (53, sh_lt L, iH f, jH g, sh_rt sw) (0, 0) := by
      intro dv ed
      have hdv : lR dv := by
        rw [ed, ← ei']
        split
        · exact hsk
        · omega
      have sf := snM_f (fit := fitM f g h) (sq := sqM f g x y) (k := k) ed
      have stt := snM_t (fit := fitM f g h) (sq := sqM f g x y) (k := k) ed
      rw [← ea, ← el] at sf stt
      refine ap_go kc_56_197 ?_
      refine ap_lstore rfl ?_; refine ap_lload rfl ?_; refine ai_ldc2 (2500) ow_56 kl_8_205 rfl ?_
      refine ai_lcgt rfl rfl (fun hd0 => ?_) (fun hd0 => ?_) ?_
      · refine ap_go kc_56_229 ?_
        refine ai_iinc rfl rfl ?_; refine ap_goto rfl ?_
        first | exact am_weak (by first | exact am_le_0 | (repeat (first | exact am_le_0 | refine am_le_n ?_ | refine am_le_s ?_))) (ih (k + 1) a l _ (by omega) (ea.trans (congrArg Prod.fst (sf (by omega))).symm) (el.trans (congrArg Prod.snd (sf (by omega))).symm) (by omega)) | exact am_weak (by first | exact am_le_0 | (repeat (first | exact am_le_0 | refine am_le_n ?_ | refine am_le_s ?_))) (ih (k + 1) i dv _ (by omega) (ei.trans (congrArg Prod.fst (stt (by omega))).symm) (congrArg Prod.snd (stt (by omega))).symm (by omega))
      · refine ap_go kc_56_208 ?_
        refine ap_iload rfl ?_
        refine ai_ifeq rfl rfl (fun hd1 => ?_) (fun hd1 => ?_) ?_
        · refine ap_go kc_56_221 ?_
          refine ap_iload rfl ?_; refine ap_istore rfl ?_; refine ap_lload rfl ?_; refine ap_lstore rfl ?_; refine ap_nil ?_
          refine ap_go kc_56_229 ?_
          refine ai_iinc rfl rfl ?_; refine ap_goto rfl ?_
          first | exact am_weak (by first | exact am_le_0 | (repeat (first | exact am_le_0 | refine am_le_n ?_ | refine am_le_s ?_))) (ih (k + 1) a l _ (by omega) (ea.trans (congrArg Prod.fst (sf (by omega))).symm) (el.trans (congrArg Prod.snd (sf (by omega))).symm) (by omega)) | exact am_weak (by first | exact am_le_0 | (repeat (first | exact am_le_0 | refine am_le_n ?_ | refine am_le_s ?_))) (ih (k + 1) i dv _ (by omega) (ei.trans (congrArg Prod.fst (stt (by omega))).symm) (congrArg Prod.snd (stt (by omega))).symm (by omega))
        · refine ap_go kc_56_213 ?_
          refine ap_lload rfl ?_; refine ap_lload rfl ?_
          refine ai_lcge rfl rfl (fun hd2 => ?_) (fun hd2 => ?_) ?_
          · refine ap_go kc_56_229 ?_
            refine ai_iinc rfl rfl ?_; refine ap_goto rfl ?_
            first | exact am_weak (by first | exact am_le_0 | (repeat (first | exact am_le_0 | refine am_le_n ?_ | refine am_le_s ?_))) (ih (k + 1) a l _ (by omega) (ea.trans (congrArg Prod.fst (sf (by omega))).symm) (el.trans (congrArg Prod.snd (sf (by omega))).symm) (by omega)) | exact am_weak (by first | exact am_le_0 | (repeat (first | exact am_le_0 | refine am_le_n ?_ | refine am_le_s ?_))) (ih (k + 1) i dv _ (by omega) (ei.trans (congrArg Prod.fst (stt (by omega))).symm) (congrArg Prod.snd (stt (by omega))).symm (by omega))
          · refine ap_go kc_56_221 ?_
            refine ap_iload rfl ?_; refine ap_istore rfl ?_; refine ap_lload rfl ?_; refine ap_lstore rfl ?_; refine ap_nil ?_
            refine ap_go kc_56_229 ?_
            refine ai_iinc rfl rfl ?_; refine ap_goto rfl ?_
            first | exact am_weak (by first | exact am_le_0 | (repeat (first | exact am_le_0 | refine am_le_n ?_ | refine am_le_s ?_))) (ih (k + 1) a l _ (by omega) (ea.trans (congrArg Prod.fst (sf (by omega))).symm) (el.trans (congrArg Prod.snd (sf (by omega))).symm) (by omega)) | exact am_weak (by first | exact am_le_0 | (repeat (first | exact am_le_0 | refine am_le_n ?_ | refine am_le_s ?_))) (ih (k + 1) i dv _ (by omega) (ei.trans (congrArg Prod.fst (stt (by omega))).symm) (congrArg Prod.snd (stt (by omega))).symm (by omega))
          all_goals (first | omega | exact ⟨hdv, by decide, by decide⟩ | exact ⟨hdv, hin.2⟩)
        all_goals (first | omega | exact ⟨hdv, by decide, by decide⟩ | exact ⟨hdv, hin.2⟩)
      all_goals (first | omega | exact ⟨hdv, by decide, by decide⟩ | exact ⟨hdv, hin.2⟩)
    have j176 : ∀ c : Int, (c = 1 ∧ fitM f g h (k + 1) = true ∨ c = 0 ∧ ¬ fitM f g h (k + 1) = true) → am_Wp (am_call (d + 1)) 56 Q 176 [some (.ref 31), some (.long (lZ x)), none, some (.long (lZ y)), none, some (.int (iZ h)), some (.int (iZ a)), some (.long (lZ l)), none, some (.int (iZ i)), none, none, none, none, none] [.int (iZ c)] (53, sh_lt L, iH f, jH g, sh_rt sw) (0, 0) := by
      intro c hcc
      rcases hcc with ⟨rfl, hft⟩ | ⟨rfl, hft⟩
      ·
        refine ap_go kc_56_176 ?_
        refine ap_istore rfl ?_; refine ap_iload rfl ?_
        refine ai_ifeq rfl rfl (fun he0 => ?_) (fun he0 => ?_) ?_
        · exfalso; omega
        · refine ap_go kc_56_183 ?_
          refine ap_aload_n rfl ?_; refine ap_iload rfl ?_; refine ap_lload_n rfl ?_; refine ap_lload_n rfl ?_; refine ap_callv0 ow_56 rm_8_199 na_55 mc_55 ms_55 rfl rfl (Nat.le_of_ble_eq_true rfl) (Nat.le_of_ble_eq_true rfl) (Or.inr rfl) (Nat.zero_le _) (Nat.zero_le _) ?_; refine sp_55 ?_ ?_ ?_ ?_ ?_ ?_ ?_ ?_ ?_; dsimp only [Option.toList_some, Option.toList_none, List.cons_append, List.nil_append]; refine ap_goto rfl ?_
          · exact am_weak (by first | exact am_le_0 | (repeat (first | exact am_le_0 | refine am_le_n ?_ | refine am_le_s ?_))) (j197 _ (by rw [if_pos hft, ← ei']))
          all_goals (first | omega | assumption)
        all_goals (first | omega | assumption)
      ·
        refine ap_go kc_56_176 ?_
        refine ap_istore rfl ?_; refine ap_iload rfl ?_
        refine ai_ifeq rfl rfl (fun he0 => ?_) (fun he0 => ?_) ?_
        · refine ap_go kc_56_194 ?_
          refine ai_ldc2 (2501) ow_56 kl_8_203 rfl ?_; refine ap_nil ?_
          exact am_weak (by first | exact am_le_0 | (repeat (first | exact am_le_0 | refine am_le_n ?_ | refine am_le_s ?_))) (j197 2501 (if_neg hft).symm)
        · exfalso; omega
        all_goals (first | omega | assumption)
    have e1 : fitM f g h (k + 1) = fitMB (octZ (g 32 (f 36 i.toNat).toNat - g 32 (f 35 i.toNat).toNat) (g 33 (f 36 i.toNat).toNat - g 33 (f 35 i.toNat).toNat)) h := by rw [ei']
    refine ap_go kc_56_62 ?_
    refine ap_iload rfl ?_; refine ap_aload_n rfl ?_; refine ai_getI ow_56 rf_8_88 rfl rfl ?_
    refine ai_icgt rfl rfl (fun hc0 => ?_) (fun hc0 => ?_) ?_
    · exfalso; omega
    · refine ap_go kc_56_71 ?_
      refine ap_aload_n rfl ?_; refine ap_getR ow_56 rf_8_7 rfl rfl rfl ?_; refine ap_aload_n rfl ?_; refine ap_getR ow_56 rf_8_23 rfl rfl rfl ?_; refine ap_iload rfl ?_; refine ai_iaload (n := 121) rfl rfl (by decide) ?_ ?_; refine ai_laload (n := 61) rfl rfl (by decide) ?_ ?_; refine ap_aload_n rfl ?_; refine ap_getR ow_56 rf_8_7 rfl rfl rfl ?_; refine ap_aload_n rfl ?_; refine ap_getR ow_56 rf_8_19 rfl rfl rfl ?_; refine ap_iload rfl ?_; refine ai_iaload (n := 121) rfl rfl (by decide) ?_ ?_; refine ai_laload (n := 61) rfl rfl (by decide) ?_ ?_; refine ai_lsub ?_; refine ap_aload_n rfl ?_; refine ap_getR ow_56 rf_8_13 rfl rfl rfl ?_; refine ap_aload_n rfl ?_; refine ap_getR ow_56 rf_8_23 rfl rfl rfl ?_; refine ap_iload rfl ?_; refine ai_iaload (n := 121) rfl rfl (by decide) ?_ ?_; refine ai_laload (n := 61) rfl rfl (by decide) ?_ ?_; refine ap_aload_n rfl ?_; refine ap_getR ow_56 rf_8_13 rfl rfl rfl ?_; refine ap_aload_n rfl ?_; refine ap_getR ow_56 rf_8_19 rfl rfl rfl ?_; refine ap_iload rfl ?_; refine ai_iaload (n := 121) rfl rfl (by decide) ?_ ?_; refine ai_laload (n := 61) rfl rfl (by decide) ?_ ?_; refine ai_lsub ?_; refine ap_calls0 ow_56 rm_8_195 na_54 mc_54 ms_54 rfl rfl (Nat.le_of_ble_eq_true rfl) (Nat.le_of_ble_eq_true rfl) rfl (Nat.zero_le _) (Nat.zero_le _) ?_; refine sp_54 ?_ ?_ ?_; dsimp only [Option.toList_some, Option.toList_none, List.cons_append, List.nil_append]; refine ap_istore rfl ?_; refine ap_iload rfl ?_; refine ap_iload rfl ?_
      refine ai_icge rfl rfl (fun hc1 => ?_) (fun hc1 => ?_) ?_
      · refine ap_go kc_56_141 ?_
        refine ap_iload rfl ?_; refine ap_iload rfl ?_; refine ai_isub ?_; refine ap_nil ?_
        refine ap_go kc_56_146 ?_
        refine ap_istore rfl ?_; refine ap_iload rfl ?_
        refine ai_iflt rfl rfl (fun hc2 => ?_) (fun hc2 => ?_) ?_
        · refine ap_go kc_56_171 ?_
          refine ai_iconst ?_; refine ap_goto rfl ?_
          first | (refine am_weak (by first | exact am_le_0 | (repeat (first | exact am_le_0 | refine am_le_n ?_ | refine am_le_s ?_))) (j176 1 (Or.inl ⟨rfl, ?_⟩)); rw [e1]; unfold fitMB; simp only [Bool.or_eq_true, Bool.and_eq_true, decide_eq_true_eq]; split <;> omega) | (refine am_weak (by first | exact am_le_0 | (repeat (first | exact am_le_0 | refine am_le_n ?_ | refine am_le_s ?_))) (j176 0 (Or.inr ⟨rfl, ?_⟩)); rw [e1]; unfold fitMB; simp only [Bool.or_eq_true, Bool.and_eq_true, decide_eq_true_eq]; split <;> omega)
        · refine ap_go kc_56_153 ?_
          refine ap_iload rfl ?_
          refine ai_iflt rfl rfl (fun hc3 => ?_) (fun hc3 => ?_) ?_
          · refine ap_go kc_56_175 ?_
            refine ai_iconst ?_; refine ap_nil ?_
            first | (refine am_weak (by first | exact am_le_0 | (repeat (first | exact am_le_0 | refine am_le_n ?_ | refine am_le_s ?_))) (j176 1 (Or.inl ⟨rfl, ?_⟩)); rw [e1]; unfold fitMB; simp only [Bool.or_eq_true, Bool.and_eq_true, decide_eq_true_eq]; split <;> omega) | (refine am_weak (by first | exact am_le_0 | (repeat (first | exact am_le_0 | refine am_le_n ?_ | refine am_le_s ?_))) (j176 0 (Or.inr ⟨rfl, ?_⟩)); rw [e1]; unfold fitMB; simp only [Bool.or_eq_true, Bool.and_eq_true, decide_eq_true_eq]; split <;> omega)
          · refine ap_go kc_56_158 ?_
            refine ap_iload rfl ?_; refine ai_iconst ?_
            refine ai_iclt rfl rfl (fun hc4 => ?_) (fun hc4 => ?_) ?_
            · refine ap_go kc_56_171 ?_
              refine ai_iconst ?_; refine ap_goto rfl ?_
              first | (refine am_weak (by first | exact am_le_0 | (repeat (first | exact am_le_0 | refine am_le_n ?_ | refine am_le_s ?_))) (j176 1 (Or.inl ⟨rfl, ?_⟩)); rw [e1]; unfold fitMB; simp only [Bool.or_eq_true, Bool.and_eq_true, decide_eq_true_eq]; split <;> omega) | (refine am_weak (by first | exact am_le_0 | (repeat (first | exact am_le_0 | refine am_le_n ?_ | refine am_le_s ?_))) (j176 0 (Or.inr ⟨rfl, ?_⟩)); rw [e1]; unfold fitMB; simp only [Bool.or_eq_true, Bool.and_eq_true, decide_eq_true_eq]; split <;> omega)
            · refine ap_go kc_56_164 ?_
              refine ap_iload rfl ?_; refine ai_bipush (by decide) ?_
              refine ai_icne rfl rfl (fun hc5 => ?_) (fun hc5 => ?_) ?_
              · refine ap_go kc_56_175 ?_
                refine ai_iconst ?_; refine ap_nil ?_
                first | (refine am_weak (by first | exact am_le_0 | (repeat (first | exact am_le_0 | refine am_le_n ?_ | refine am_le_s ?_))) (j176 1 (Or.inl ⟨rfl, ?_⟩)); rw [e1]; unfold fitMB; simp only [Bool.or_eq_true, Bool.and_eq_true, decide_eq_true_eq]; split <;> omega) | (refine am_weak (by first | exact am_le_0 | (repeat (first | exact am_le_0 | refine am_le_n ?_ | refine am_le_s ?_))) (j176 0 (Or.inr ⟨rfl, ?_⟩)); rw [e1]; unfold fitMB; simp only [Bool.or_eq_true, Bool.and_eq_true, decide_eq_true_eq]; split <;> omega)
              · refine ap_go kc_56_171 ?_
                refine ai_iconst ?_; refine ap_goto rfl ?_
                first | (refine am_weak (by first | exact am_le_0 | (repeat (first | exact am_le_0 | refine am_le_n ?_ | refine am_le_s ?_))) (j176 1 (Or.inl ⟨rfl, ?_⟩)); rw [e1]; unfold fitMB; simp only [Bool.or_eq_true, Bool.and_eq_true, decide_eq_true_eq]; split <;> omega) | (refine am_weak (by first | exact am_le_0 | (repeat (first | exact am_le_0 | refine am_le_n ?_ | refine am_le_s ?_))) (j176 0 (Or.inr ⟨rfl, ?_⟩)); rw [e1]; unfold fitMB; simp only [Bool.or_eq_true, Bool.and_eq_true, decide_eq_true_eq]; split <;> omega)
              all_goals (first | omega | assumption)
            all_goals (first | omega | assumption)
          all_goals (first | omega | assumption)
        all_goals (first | omega | assumption)
      · refine ap_go kc_56_133 ?_
        refine ap_iload rfl ?_; refine ap_iload rfl ?_; refine ai_isub ?_; refine ap_goto rfl ?_
        refine ap_go kc_56_146 ?_
        refine ap_istore rfl ?_; refine ap_iload rfl ?_
        refine ai_iflt rfl rfl (fun hc6 => ?_) (fun hc6 => ?_) ?_
        · refine ap_go kc_56_171 ?_
          refine ai_iconst ?_; refine ap_goto rfl ?_
          first | (refine am_weak (by first | exact am_le_0 | (repeat (first | exact am_le_0 | refine am_le_n ?_ | refine am_le_s ?_))) (j176 1 (Or.inl ⟨rfl, ?_⟩)); rw [e1]; unfold fitMB; simp only [Bool.or_eq_true, Bool.and_eq_true, decide_eq_true_eq]; split <;> omega) | (refine am_weak (by first | exact am_le_0 | (repeat (first | exact am_le_0 | refine am_le_n ?_ | refine am_le_s ?_))) (j176 0 (Or.inr ⟨rfl, ?_⟩)); rw [e1]; unfold fitMB; simp only [Bool.or_eq_true, Bool.and_eq_true, decide_eq_true_eq]; split <;> omega)
        · refine ap_go kc_56_153 ?_
          refine ap_iload rfl ?_
          refine ai_iflt rfl rfl (fun hc7 => ?_) (fun hc7 => ?_) ?_
          · refine ap_go kc_56_175 ?_
            refine ai_iconst ?_; refine ap_nil ?_
            first | (refine am_weak (by first | exact am_le_0 | (repeat (first | exact am_le_0 | refine am_le_n ?_ | refine am_le_s ?_))) (j176 1 (Or.inl ⟨rfl, ?_⟩)); rw [e1]; unfold fitMB; simp only [Bool.or_eq_true, Bool.and_eq_true, decide_eq_true_eq]; split <;> omega) | (refine am_weak (by first | exact am_le_0 | (repeat (first | exact am_le_0 | refine am_le_n ?_ | refine am_le_s ?_))) (j176 0 (Or.inr ⟨rfl, ?_⟩)); rw [e1]; unfold fitMB; simp only [Bool.or_eq_true, Bool.and_eq_true, decide_eq_true_eq]; split <;> omega)
          · refine ap_go kc_56_158 ?_
            refine ap_iload rfl ?_; refine ai_iconst ?_
            refine ai_iclt rfl rfl (fun hc8 => ?_) (fun hc8 => ?_) ?_
            · refine ap_go kc_56_171 ?_
              refine ai_iconst ?_; refine ap_goto rfl ?_
              first | (refine am_weak (by first | exact am_le_0 | (repeat (first | exact am_le_0 | refine am_le_n ?_ | refine am_le_s ?_))) (j176 1 (Or.inl ⟨rfl, ?_⟩)); rw [e1]; unfold fitMB; simp only [Bool.or_eq_true, Bool.and_eq_true, decide_eq_true_eq]; split <;> omega) | (refine am_weak (by first | exact am_le_0 | (repeat (first | exact am_le_0 | refine am_le_n ?_ | refine am_le_s ?_))) (j176 0 (Or.inr ⟨rfl, ?_⟩)); rw [e1]; unfold fitMB; simp only [Bool.or_eq_true, Bool.and_eq_true, decide_eq_true_eq]; split <;> omega)
            · refine ap_go kc_56_164 ?_
              refine ap_iload rfl ?_; refine ai_bipush (by decide) ?_
              refine ai_icne rfl rfl (fun hc9 => ?_) (fun hc9 => ?_) ?_
              · refine ap_go kc_56_175 ?_
                refine ai_iconst ?_; refine ap_nil ?_
                first | (refine am_weak (by first | exact am_le_0 | (repeat (first | exact am_le_0 | refine am_le_n ?_ | refine am_le_s ?_))) (j176 1 (Or.inl ⟨rfl, ?_⟩)); rw [e1]; unfold fitMB; simp only [Bool.or_eq_true, Bool.and_eq_true, decide_eq_true_eq]; split <;> omega) | (refine am_weak (by first | exact am_le_0 | (repeat (first | exact am_le_0 | refine am_le_n ?_ | refine am_le_s ?_))) (j176 0 (Or.inr ⟨rfl, ?_⟩)); rw [e1]; unfold fitMB; simp only [Bool.or_eq_true, Bool.and_eq_true, decide_eq_true_eq]; split <;> omega)
              · refine ap_go kc_56_171 ?_
                refine ai_iconst ?_; refine ap_goto rfl ?_
                first | (refine am_weak (by first | exact am_le_0 | (repeat (first | exact am_le_0 | refine am_le_n ?_ | refine am_le_s ?_))) (j176 1 (Or.inl ⟨rfl, ?_⟩)); rw [e1]; unfold fitMB; simp only [Bool.or_eq_true, Bool.and_eq_true, decide_eq_true_eq]; split <;> omega) | (refine am_weak (by first | exact am_le_0 | (repeat (first | exact am_le_0 | refine am_le_n ?_ | refine am_le_s ?_))) (j176 0 (Or.inr ⟨rfl, ?_⟩)); rw [e1]; unfold fitMB; simp only [Bool.or_eq_true, Bool.and_eq_true, decide_eq_true_eq]; split <;> omega)
              all_goals (first | omega | assumption)
            all_goals (first | omega | assumption)
          all_goals (first | omega | assumption)
        all_goals (first | omega | assumption)
      all_goals (first | omega | assumption)
    all_goals (first | omega | assumption)
