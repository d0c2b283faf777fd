/-! THE CLASS'S reach, and the nearest charger -/
theorem lp_136 {d L : Nat} {sw : Bool} {Q : Option Value → am_H → Prop} {f0 g0 fb g : Nat → Nat → Int} {a0 s : Nat} {rs : Nat → Int} (hM : MOk f0 g0) (hU : UOk f0) (hK : toZ f0 = 20) (hC : CC f0 g0 fb g) (hs : (s : Int) ≤ f0 31 5) (K : ∀ x f, (∀ a, a ≠ 22 → f a = fb a) → SI f0 g0 a0 rs (fun s0 _ => s0 = s) x (f 22) → Q (some (.int (iZ x))) (53, sh_lt L, iH f, jH g, sh_rt sw)) : ∀ (k t : Nat) (i m : Int) (f : Nat → Nat → Int), i = t → 1 ≤ t → (f0 31 5).toNat + 1 = t + k → (∀ a, a ≠ 22 → f a = fb a) → 0 ≤ f 22 s → SI f0 g0 a0 rs (fun s0 t0 => s0 = s ∧ t0 < t) m (f 22) → am_Wp (am_call (d + 2)) 136 Q 4 [some (.ref 14), some (.int (iZ (s : Int))), some (.int (iZ m)), some (.int (iZ i)), none] [] (53, sh_lt L, iH f, jH g, sh_rt sw) (0, 0) := by
  intro k
  have m5 := hM.1.2.1
  induction k with
  | zero =>
    intro t i m f hi ht1 hk hf h0 hS
    subst hi
    have hmo := SI_more hS
    have ec : f 5 8 = f0 31 5 := by rw [hf 5 (by decide)]; exact hC.1.1.1
    have hKK := K m f hf (SI_skip hS (fun s0 t0 q1 q2 q3 q4 _ _ _ => Or.inl ⟨q4, by omega⟩))
    refine ap_go kc_136_4 ?_
    refine ap_iload_n rfl ?_; refine ap_aload_n rfl ?_; refine ap_getR ow_136 rf_6_52 rfl rfl rfl ?_; refine ap_callv0 ow_136 rm_6_74 na_93 mc_93 ms_93 rfl rfl (Nat.le_of_ble_eq_true rfl) (Nat.le_of_ble_eq_true rfl) (Or.inr rfl) (Nat.zero_le _) (Nat.zero_le _) ?_; refine sp_93 ?_; dsimp only [Option.toList_some, Option.toList_none, List.cons_append, List.nil_append]
    refine ai_icgt rfl rfl (fun hb0 => ?_) (fun hb0 => ?_) ?_
    · refine ap_go kc_136_93 ?_
      refine ap_iload_n rfl ?_; refine ai_zret rfl ?_ ?_
      · exact hKK
      all_goals (omega)
    · exfalso; omega
    all_goals (omega)
  | succ k ih =>
    intro t i m f hi ht1 hk hf h0 hS
    subst hi
    have hmo := SI_more hS
    have hC' : CC f0 g0 f g := CC_fr hC (fun a ha => hf a (by omega)) (fun _ _ => rfl)
    have ec : f 5 8 = f0 31 5 := hC'.1.1.1
    have ht : (t : Int) ≤ f0 31 5 := by omega
    have rs1 := hS.1.2 s hs
    have rt1 := hS.1.2 t ht
    have es : f 22 ((s : Nat) : Int).toNat = f 22 s := rfl
    have ett : f 22 ((t : Nat) : Int).toNat = f 22 t := rfl
    have hne := neZ_in hM t
    have e20 : f 20 ((t : Nat) : Int).toNat = neZ f0 t := (hC'.2.1 t ht1 ht).2
    have e7 : f 7 ((t : Nat) : Int).toNat = plZ f0 t := (hC'.1.2.2.1 t ht).1
    have hpl := plZ_in hM t
    have hg4 := hM.2.2.1 (plZ f0 t).toNat
    have e4 : g 4 (plZ f0 t).toNat = g0 34 (plZ f0 t).toNat := (hC'.1.2.2.2.2 _).2.2
    have c137 : ∀ {Q : Option Value → am_H → Prop}, Q (some (.int (iZ (tpZ f0 g0 t (f 22 s - neZ f0 t))))) (53, sh_lt L, iH f, jH g, sh_rt sw) → am_call (d + 2) 137 [.ref 14, .int (iZ (f 7 ((t : Nat) : Int).toNat)), .int (iZ (f 22 ((s : Nat) : Int).toNat - f 20 ((t : Nat) : Int).toNat))] (53, sh_lt L, iH f, jH g, sh_rt sw) Q := fun K => sp_137 (by rw [e7, e4, es, e20]; exact K) (by omega) (by rw [e7, e4]; omega)
    have J : (neZ f0 t ≤ f 22 s → mfZ f0 g0 s t → tpZ f0 g0 t (f 22 s - neZ f0 t) ≤ f 22 t) → am_Wp (am_call (d + 2)) 136 Q 4 [some (.ref 14), some (.int (iZ (s : Int))), some (.int (iZ m)), some (.int (iZ ((t : Int) + 1))), none] [] (53, sh_lt L, iH f, jH g, sh_rt sw) (0, 0) := fun q => ih (t + 1) ((t : Int) + 1) m f rfl (by omega) (by omega) hf h0 (SI_skip hS (fun s0 t0 q1 q2 q3 q4 q5 q6 q7 => by
      by_cases z : t0 = t
      · obtain ⟨rfl, _⟩ := q4
        subst z
        exact Or.inr (q q7 q6)
      · exact Or.inl ⟨q4.1, by omega⟩))
    by_cases hm : mfZ f0 g0 s t
    · by_cases hn : neZ f0 t ≤ f 22 s
      · have htr : iR (tpZ f0 g0 t (f 22 s - neZ f0 t)) := by
          unfold tpZ
          split <;> omega
        by_cases hl : f 22 t < tpZ f0 g0 t (f 22 s - neZ f0 t)
        · have hS2 := SI_set (Dn' := fun s0 t0 => s0 = s ∧ t0 < t + 1) hM hU hK hS hs ht1 ht h0 hm hn hl
          have h02 : 0 ≤ (am_up f 22 t (tpZ f0 g0 t (f 22 s - neZ f0 t))) 22 s := by
            rw [am_up_eq]
            dsimp only
            split
            · rename_i z; rw [z] at h0; omega
            · exact h0
          have J2 := ih (t + 1) ((t : Int) + 1) 1 (am_up f 22 t (tpZ f0 g0 t (f 22 s - neZ f0 t))) rfl (by omega) (by omega) (fun a ha => (am_up_ne ha).trans (hf a ha)) h02 (by rw [am_up_eq]; exact hS2)
          refine ap_go kc_136_4 ?_
          refine ap_iload_n rfl ?_; refine ap_aload_n rfl ?_; refine ap_getR ow_136 rf_6_52 rfl rfl rfl ?_; refine ap_callv0 ow_136 rm_6_74 na_93 mc_93 ms_93 rfl rfl (Nat.le_of_ble_eq_true rfl) (Nat.le_of_ble_eq_true rfl) (Or.inr rfl) (Nat.zero_le _) (Nat.zero_le _) ?_; refine sp_93 ?_; dsimp only [Option.toList_some, Option.toList_none, List.cons_append, List.nil_append]
          refine ai_icgt rfl rfl (fun hb0 => ?_) (fun hb0 => ?_) ?_
          · exfalso; omega
          · refine ap_go kc_136_15 ?_
            refine ap_aload_n rfl ?_; refine ap_iload_n rfl ?_; refine ap_iload_n rfl ?_; refine ap_callv0 ow_136 rm_6_121 na_125 mc_125 ms_125 rfl rfl (Nat.le_of_ble_eq_true rfl) (Nat.le_of_ble_eq_true rfl) (Or.inr rfl) (Nat.zero_le _) (Nat.zero_le _) ?_; refine sp_125t (s := s) (t := t) ?_ hm hM hC' rfl rfl hs ht1 ht; dsimp only [Option.toList_some, Option.toList_none, List.cons_append, List.nil_append]
            refine ai_ifeq rfl rfl (fun hb1 => ?_) (fun hb1 => ?_) ?_
            · refine ap_go kc_136_87 ?_
              refine ai_iinc rfl rfl ?_; refine ap_goto rfl ?_
              first | (exfalso; omega) | exact am_weak (by first | exact am_le_0 | (repeat (first | exact am_le_0 | refine am_le_n ?_ | refine am_le_s ?_))) J2
            · refine ap_go kc_136_24 ?_
              refine ap_aload_n rfl ?_; refine ap_getR ow_136 rf_6_29 rfl rfl rfl ?_; refine ap_iload_n rfl ?_; refine ai_iaload (n := 121) rfl rfl (by decide) ?_ ?_; refine ap_aload_n rfl ?_; refine ap_getR ow_136 rf_6_22 rfl rfl rfl ?_; refine ap_iload_n rfl ?_; refine ai_iaload (n := 121) rfl rfl (by decide) ?_ ?_
              refine ai_iclt rfl rfl (fun hb2 => ?_) (fun hb2 => ?_) ?_
              · refine ap_go kc_136_87 ?_
                refine ai_iinc rfl rfl ?_; refine ap_goto rfl ?_
                first | (exfalso; omega) | exact am_weak (by first | exact am_le_0 | (repeat (first | exact am_le_0 | refine am_le_n ?_ | refine am_le_s ?_))) J2
              · refine ap_go kc_136_39 ?_
                refine ap_aload_n rfl ?_; refine ap_aload_n rfl ?_; refine ap_getR ow_136 rf_6_52 rfl rfl rfl ?_; refine ap_iload_n rfl ?_; refine ap_callv0 ow_136 rm_6_125 na_99 mc_99 ms_99 rfl rfl (Nat.le_of_ble_eq_true rfl) (Nat.le_of_ble_eq_true rfl) (Or.inr rfl) (Nat.zero_le _) (Nat.zero_le _) ?_; refine sp_99 ?_ ?_; dsimp only [Option.toList_some, Option.toList_none, List.cons_append, List.nil_append]; refine ap_aload_n rfl ?_; refine ap_getR ow_136 rf_6_29 rfl rfl rfl ?_; refine ap_iload_n rfl ?_; refine ai_iaload (n := 121) rfl rfl (by decide) ?_ ?_; refine ap_aload_n rfl ?_; refine ap_getR ow_136 rf_6_22 rfl rfl rfl ?_; refine ap_iload_n rfl ?_; refine ai_iaload (n := 121) rfl rfl (by decide) ?_ ?_; refine ai_isub ?_; refine ap_callv0 ow_136 rm_6_192 na_137 mc_137 ms_137 rfl rfl (Nat.le_of_ble_eq_true rfl) (Nat.le_of_ble_eq_true rfl) (Or.inr rfl) (Nat.zero_le _) (Nat.zero_le _) ?_; refine c137 ?_; dsimp only [Option.toList_some, Option.toList_none, List.cons_append, List.nil_append]; refine ap_istore rfl ?_; refine ap_iload rfl ?_; refine ap_aload_n rfl ?_; refine ap_getR ow_136 rf_6_29 rfl rfl rfl ?_; refine ap_iload_n rfl ?_; refine ai_iaload (n := 121) rfl rfl (by decide) ?_ ?_
                refine ai_icle rfl rfl (fun hb3 => ?_) (fun hb3 => ?_) ?_
                · refine ap_go kc_136_87 ?_
                  refine ai_iinc rfl rfl ?_; refine ap_goto rfl ?_
                  first | (exfalso; omega) | exact am_weak (by first | exact am_le_0 | (repeat (first | exact am_le_0 | refine am_le_n ?_ | refine am_le_s ?_))) J2
                · refine ap_go kc_136_77 ?_
                  refine ap_aload_n rfl ?_; refine ap_getR ow_136 rf_6_29 rfl rfl rfl ?_; refine ap_iload_n rfl ?_; refine ap_iload rfl ?_; refine ai_iastore (n := 121) rfl rfl (by decide) ?_ ?_; refine ai_iconst ?_; refine ap_istore_n rfl ?_; refine ap_nil ?_
                  · refine ap_go kc_136_87 ?_
                    refine ai_iinc rfl rfl ?_; refine ap_goto rfl ?_
                    first | (exfalso; omega) | exact am_weak (by first | exact am_le_0 | (repeat (first | exact am_le_0 | refine am_le_n ?_ | refine am_le_s ?_))) J2
                  all_goals (omega)
                all_goals (omega)
              all_goals (omega)
            all_goals (omega)
          all_goals (omega)
        · have J1 := J (fun _ _ => by omega)
          refine ap_go kc_136_4 ?_
          refine ap_iload_n rfl ?_; refine ap_aload_n rfl ?_; refine ap_getR ow_136 rf_6_52 rfl rfl rfl ?_; refine ap_callv0 ow_136 rm_6_74 na_93 mc_93 ms_93 rfl rfl (Nat.le_of_ble_eq_true rfl) (Nat.le_of_ble_eq_true rfl) (Or.inr rfl) (Nat.zero_le _) (Nat.zero_le _) ?_; refine sp_93 ?_; dsimp only [Option.toList_some, Option.toList_none, List.cons_append, List.nil_append]
          refine ai_icgt rfl rfl (fun hb0 => ?_) (fun hb0 => ?_) ?_
          · exfalso; omega
          · refine ap_go kc_136_15 ?_
            refine ap_aload_n rfl ?_; refine ap_iload_n rfl ?_; refine ap_iload_n rfl ?_; refine ap_callv0 ow_136 rm_6_121 na_125 mc_125 ms_125 rfl rfl (Nat.le_of_ble_eq_true rfl) (Nat.le_of_ble_eq_true rfl) (Or.inr rfl) (Nat.zero_le _) (Nat.zero_le _) ?_; refine sp_125t (s := s) (t := t) ?_ hm hM hC' rfl rfl hs ht1 ht; dsimp only [Option.toList_some, Option.toList_none, List.cons_append, List.nil_append]
            refine ai_ifeq rfl rfl (fun hb1 => ?_) (fun hb1 => ?_) ?_
            · refine ap_go kc_136_87 ?_
              refine ai_iinc rfl rfl ?_; refine ap_goto rfl ?_
              first | (exfalso; omega) | exact am_weak (by first | exact am_le_0 | (repeat (first | exact am_le_0 | refine am_le_n ?_ | refine am_le_s ?_))) J1
            · refine ap_go kc_136_24 ?_
              refine ap_aload_n rfl ?_; refine ap_getR ow_136 rf_6_29 rfl rfl rfl ?_; refine ap_iload_n rfl ?_; refine ai_iaload (n := 121) rfl rfl (by decide) ?_ ?_; refine ap_aload_n rfl ?_; refine ap_getR ow_136 rf_6_22 rfl rfl rfl ?_; refine ap_iload_n rfl ?_; refine ai_iaload (n := 121) rfl rfl (by decide) ?_ ?_
              refine ai_iclt rfl rfl (fun hb2 => ?_) (fun hb2 => ?_) ?_
              · refine ap_go kc_136_87 ?_
                refine ai_iinc rfl rfl ?_; refine ap_goto rfl ?_
                first | (exfalso; omega) | exact am_weak (by first | exact am_le_0 | (repeat (first | exact am_le_0 | refine am_le_n ?_ | refine am_le_s ?_))) J1
              · refine ap_go kc_136_39 ?_
                refine ap_aload_n rfl ?_; refine ap_aload_n rfl ?_; refine ap_getR ow_136 rf_6_52 rfl rfl rfl ?_; refine ap_iload_n rfl ?_; refine ap_callv0 ow_136 rm_6_125 na_99 mc_99 ms_99 rfl rfl (Nat.le_of_ble_eq_true rfl) (Nat.le_of_ble_eq_true rfl) (Or.inr rfl) (Nat.zero_le _) (Nat.zero_le _) ?_; refine sp_99 ?_ ?_; dsimp only [Option.toList_some, Option.toList_none, List.cons_append, List.nil_append]; refine ap_aload_n rfl ?_; refine ap_getR ow_136 rf_6_29 rfl rfl rfl ?_; refine ap_iload_n rfl ?_; refine ai_iaload (n := 121) rfl rfl (by decide) ?_ ?_; refine ap_aload_n rfl ?_; refine ap_getR ow_136 rf_6_22 rfl rfl rfl ?_; refine ap_iload_n rfl ?_; refine ai_iaload (n := 121) rfl rfl (by decide) ?_ ?_; refine ai_isub ?_; refine ap_callv0 ow_136 rm_6_192 na_137 mc_137 ms_137 rfl rfl (Nat.le_of_ble_eq_true rfl) (Nat.le_of_ble_eq_true rfl) (Or.inr rfl) (Nat.zero_le _) (Nat.zero_le _) ?_; refine c137 ?_; dsimp only [Option.toList_some, Option.toList_none, List.cons_append, List.nil_append]; refine ap_istore rfl ?_; refine ap_iload rfl ?_; refine ap_aload_n rfl ?_; refine ap_getR ow_136 rf_6_29 rfl rfl rfl ?_; refine ap_iload_n rfl ?_; refine ai_iaload (n := 121) rfl rfl (by decide) ?_ ?_
                refine ai_icle rfl rfl (fun hb3 => ?_) (fun hb3 => ?_) ?_
                · refine ap_go kc_136_87 ?_
                  refine ai_iinc rfl rfl ?_; refine ap_goto rfl ?_
                  first | (exfalso; omega) | exact am_weak (by first | exact am_le_0 | (repeat (first | exact am_le_0 | refine am_le_n ?_ | refine am_le_s ?_))) J1
                · exfalso; omega
                all_goals (omega)
              all_goals (omega)
            all_goals (omega)
          all_goals (omega)
      · have J1 := J (fun q => absurd q hn)
        refine ap_go kc_136_4 ?_
        refine ap_iload_n rfl ?_; refine ap_aload_n rfl ?_; refine ap_getR ow_136 rf_6_52 rfl rfl rfl ?_; refine ap_callv0 ow_136 rm_6_74 na_93 mc_93 ms_93 rfl rfl (Nat.le_of_ble_eq_true rfl) (Nat.le_of_ble_eq_true rfl) (Or.inr rfl) (Nat.zero_le _) (Nat.zero_le _) ?_; refine sp_93 ?_; dsimp only [Option.toList_some, Option.toList_none, List.cons_append, List.nil_append]
        refine ai_icgt rfl rfl (fun hb0 => ?_) (fun hb0 => ?_) ?_
        · exfalso; omega
        · refine ap_go kc_136_15 ?_
          refine ap_aload_n rfl ?_; refine ap_iload_n rfl ?_; refine ap_iload_n rfl ?_; refine ap_callv0 ow_136 rm_6_121 na_125 mc_125 ms_125 rfl rfl (Nat.le_of_ble_eq_true rfl) (Nat.le_of_ble_eq_true rfl) (Or.inr rfl) (Nat.zero_le _) (Nat.zero_le _) ?_; refine sp_125t (s := s) (t := t) ?_ hm hM hC' rfl rfl hs ht1 ht; dsimp only [Option.toList_some, Option.toList_none, List.cons_append, List.nil_append]
          refine ai_ifeq rfl rfl (fun hb1 => ?_) (fun hb1 => ?_) ?_
          · refine ap_go kc_136_87 ?_
            refine ai_iinc rfl rfl ?_; refine ap_goto rfl ?_
            first | (exfalso; omega) | exact am_weak (by first | exact am_le_0 | (repeat (first | exact am_le_0 | refine am_le_n ?_ | refine am_le_s ?_))) J1
          · refine ap_go kc_136_24 ?_
            refine ap_aload_n rfl ?_; refine ap_getR ow_136 rf_6_29 rfl rfl rfl ?_; refine ap_iload_n rfl ?_; refine ai_iaload (n := 121) rfl rfl (by decide) ?_ ?_; refine ap_aload_n rfl ?_; refine ap_getR ow_136 rf_6_22 rfl rfl rfl ?_; refine ap_iload_n rfl ?_; refine ai_iaload (n := 121) rfl rfl (by decide) ?_ ?_
            refine ai_iclt rfl rfl (fun hb2 => ?_) (fun hb2 => ?_) ?_
            · refine ap_go kc_136_87 ?_
              refine ai_iinc rfl rfl ?_; refine ap_goto rfl ?_
              first | (exfalso; omega) | exact am_weak (by first | exact am_le_0 | (repeat (first | exact am_le_0 | refine am_le_n ?_ | refine am_le_s ?_))) J1
            · exfalso; omega
            all_goals (omega)
          all_goals (omega)
        all_goals (omega)
    · have J1 := J (fun _ q => absurd q hm)
      refine ap_go kc_136_4 ?_
      refine ap_iload_n rfl ?_; refine ap_aload_n rfl ?_; refine ap_getR ow_136 rf_6_52 rfl rfl rfl ?_; refine ap_callv0 ow_136 rm_6_74 na_93 mc_93 ms_93 rfl rfl (Nat.le_of_ble_eq_true rfl) (Nat.le_of_ble_eq_true rfl) (Or.inr rfl) (Nat.zero_le _) (Nat.zero_le _) ?_; refine sp_93 ?_; dsimp only [Option.toList_some, Option.toList_none, List.cons_append, List.nil_append]
      refine ai_icgt rfl rfl (fun hb0 => ?_) (fun hb0 => ?_) ?_
      · exfalso; omega
      · refine ap_go kc_136_15 ?_
        refine ap_aload_n rfl ?_; refine ap_iload_n rfl ?_; refine ap_iload_n rfl ?_; refine ap_callv0 ow_136 rm_6_121 na_125 mc_125 ms_125 rfl rfl (Nat.le_of_ble_eq_true rfl) (Nat.le_of_ble_eq_true rfl) (Or.inr rfl) (Nat.zero_le _) (Nat.zero_le _) ?_; refine sp_125n (s := s) (t := t) ?_ hm hM hC' rfl rfl hs ht1 ht; dsimp only [Option.toList_some, Option.toList_none, List.cons_append, List.nil_append]
        refine ai_ifeq rfl rfl (fun hb1 => ?_) (fun hb1 => ?_) ?_
        · refine ap_go kc_136_87 ?_
          refine ai_iinc rfl rfl ?_; refine ap_goto rfl ?_
          exact am_weak (by first | exact am_le_0 | (repeat (first | exact am_le_0 | refine am_le_n ?_ | refine am_le_s ?_))) J1
        · exfalso; omega
        all_goals (omega)
      all_goals (omega)
theorem sp_136 {d L : Nat} {sw : Bool} {f g : Nat → Nat → Int} {Q : Option Value → am_H → Prop} {f0 g0 : Nat → Nat → Int} {a0 s : Nat} {y : Int} (K : ∀ x F, (∀ a, a ≠ 22 → F a = f a) → SI f0 g0 a0 (f 22) (fun s0 _ => s0 = s) x (F 22) → Q (some (.int (iZ x))) (53, sh_lt L, iH F, jH g, sh_rt sw)) (hy : y = s) (hM : MOk f0 g0) (hU : UOk f0) (hK : toZ f0 = 20) (hC : CC f0 g0 f g) (hs : (s : Int) ≤ f0 31 5) (hS : SR f0 g0 a0 (f 22)) (h0 : 0 ≤ f 22 s) : am_call (d + 3) 136 [.ref 14, .int (iZ y)] (53, sh_lt L, iH f, jH g, sh_rt sw) Q := by
  subst hy
  have m5 := hM.1.2.1
  refine ap_call (by decide) (Nat.le_of_ble_eq_true rfl) rfl ?_
  refine ap_go kc_136_0 ?_
  refine ai_iconst ?_; refine ap_istore_n rfl ?_; refine ai_iconst ?_; refine ap_istore_n rfl ?_; refine ap_nil ?_
  exact am_weak (by first | exact am_le_0 | (repeat (first | exact am_le_0 | refine am_le_n ?_ | refine am_le_s ?_))) (lp_136 hM hU hK hC hs K (f0 31 5).toNat 1 1 0 f rfl (Nat.le_refl 1) (by omega) (fun _ _ => rfl) h0 ⟨hS, Or.inl ⟨rfl, rfl, fun s0 t0 _ q1 _ q2 => by omega⟩⟩)
theorem lp_135s {d L : Nat} {sw : Bool} {Q : Option Value → am_H → Prop} {f0 g0 fb g : Nat → Nat → Int} {a0 : Nat} {rs : Nat → Int} {rd : Int} (hM : MOk f0 g0) (hU : UOk f0) (hK : toZ f0 = 20) (hC : CC f0 g0 fb g) (K : ∀ m f, (∀ a, a ≠ 22 → f a = fb a) → SI f0 g0 a0 rs (fun s0 _ => s0 < (f0 31 5).toNat + 1) m (f 22) → am_Wp (am_call (d + 3)) 135 Q 99 [some (.ref 14), some (.int (iZ m)), some (.int (iZ rd)), none] [] (53, sh_lt L, iH f, jH g, sh_rt sw) (0, 0)) : ∀ (k s : Nat) (i m : Int) (f : Nat → Nat → Int), i = s → (f0 31 5).toNat + 1 = s + k → (∀ a, a ≠ 22 → f a = fb a) → SI f0 g0 a0 rs (fun s0 _ => s0 < s) m (f 22) → am_Wp (am_call (d + 3)) 135 Q 63 [some (.ref 14), some (.int (iZ m)), some (.int (iZ rd)), some (.int (iZ i))] [] (53, sh_lt L, iH f, jH g, sh_rt sw) (0, 0) := by
  intro k
  have m5 := hM.1.2.1
  induction k with
  | zero =>
    intro s i m f hi hk hf hS
    subst hi
    have ec : f 5 8 = f0 31 5 := by rw [hf 5 (by decide)]; exact hC.1.1.1
    have hKK := K m f hf (by rw [hk]; exact hS)
    refine ap_go kc_135_63 ?_
    refine ap_iload_n rfl ?_; refine ap_aload_n rfl ?_; refine ap_getR ow_135 rf_6_52 rfl rfl rfl ?_; refine ap_callv0 ow_135 rm_6_74 na_93 mc_93 ms_93 rfl rfl (Nat.le_of_ble_eq_true rfl) (Nat.le_of_ble_eq_true rfl) (Or.inr rfl) (Nat.zero_le _) (Nat.zero_le _) ?_; refine sp_93 ?_; dsimp only [Option.toList_some, Option.toList_none, List.cons_append, List.nil_append]
    refine ai_icgt rfl rfl (fun hb0 => ?_) (fun hb0 => ?_) ?_
    · exact am_weak (by first | exact am_le_0 | (repeat (first | exact am_le_0 | refine am_le_n ?_ | refine am_le_s ?_))) hKK
    · exfalso; omega
    all_goals (omega)
  | succ k ih =>
    intro s i m f hi hk hf hS
    subst hi
    have hC' : CC f0 g0 f g := CC_fr hC (fun a ha => hf a (by omega)) (fun _ _ => rfl)
    have ec : f 5 8 = f0 31 5 := hC'.1.1.1
    have hs : (s : Int) ≤ f0 31 5 := by omega
    have rs1 := hS.1.2 s hs
    have es : f 22 ((s : Nat) : Int).toNat = f 22 s := rfl
    by_cases h0 : 0 ≤ f 22 s
    · have J : ∀ x F, (∀ a, a ≠ 22 → F a = f a) → SI f0 g0 a0 (f 22) (fun s0 _ => s0 = s) x (F 22) → (x = 0 ∧ am_Wp (am_call (d + 3)) 135 Q 63 [some (.ref 14), some (.int (iZ m)), some (.int (iZ rd)), some (.int (iZ ((s : Int) + 1)))] [] (53, sh_lt L, iH F, jH g, sh_rt sw) (0, 0)) ∨ (x = 1 ∧ am_Wp (am_call (d + 3)) 135 Q 63 [some (.ref 14), some (.int (iZ 1)), some (.int (iZ rd)), some (.int (iZ ((s : Int) + 1)))] [] (53, sh_lt L, iH F, jH g, sh_rt sw) (0, 0)) := by
        intro x F hF hI
        rcases hI.2 with ⟨x0, q1, q2⟩ | ⟨x1, q1⟩
        · refine Or.inl ⟨x0, ih (s + 1) ((s : Int) + 1) m F rfl (by omega) (fun a ha => (hF a ha).trans (hf a ha)) ?_⟩
          rw [q1]
          refine SI_skip hS (fun s0 t0 z1 z2 z3 z4 z5 z6 z7 => ?_)
          by_cases z : s0 = s
          · right
            have := q2 s0 t0 z1 z2 z3 z
            rw [q1] at this
            exact this z5 z6 z7
          · exact Or.inl (by omega)
        · refine Or.inr ⟨x1, ih (s + 1) ((s : Int) + 1) 1 F rfl (by omega) (fun a ha => (hF a ha).trans (hf a ha)) ⟨hI.1, Or.inr ⟨rfl, ?_⟩⟩⟩
          rcases hS.2 with ⟨_, y, _⟩ | ⟨_, y⟩
          · rw [← y]; exact q1
          · omega
      refine ap_go kc_135_63 ?_
      refine ap_iload_n rfl ?_; refine ap_aload_n rfl ?_; refine ap_getR ow_135 rf_6_52 rfl rfl rfl ?_; refine ap_callv0 ow_135 rm_6_74 na_93 mc_93 ms_93 rfl rfl (Nat.le_of_ble_eq_true rfl) (Nat.le_of_ble_eq_true rfl) (Or.inr rfl) (Nat.zero_le _) (Nat.zero_le _) ?_; refine sp_93 ?_; dsimp only [Option.toList_some, Option.toList_none, List.cons_append, List.nil_append]
      refine ai_icgt rfl rfl (fun hb0 => ?_) (fun hb0 => ?_) ?_
      · exfalso; omega
      · refine ap_go kc_135_74 ?_
        refine ap_aload_n rfl ?_; refine ap_getR ow_135 rf_6_29 rfl rfl rfl ?_; refine ap_iload_n rfl ?_; refine ai_iaload (n := 121) rfl rfl (by decide) ?_ ?_
        refine ai_iflt rfl rfl (fun hb1 => ?_) (fun hb1 => ?_) ?_
        · refine ap_go kc_135_93 ?_
          refine ai_iinc rfl rfl ?_; refine ap_goto rfl ?_
          first | (exfalso; omega) | (rcases J x F hF hI with ⟨z, y⟩ | ⟨z, y⟩; (first | (exfalso; omega) | exact am_weak (by first | exact am_le_0 | (repeat (first | exact am_le_0 | refine am_le_n ?_ | refine am_le_s ?_))) y); (first | (exfalso; omega) | exact am_weak (by first | exact am_le_0 | (repeat (first | exact am_le_0 | refine am_le_n ?_ | refine am_le_s ?_))) y))
        · refine ap_go kc_135_83 ?_
          refine ap_aload_n rfl ?_; refine ap_iload_n rfl ?_; refine ap_callv0 ow_135 rm_6_196 na_136 mc_136 ms_136 rfl rfl (Nat.le_of_ble_eq_true rfl) (Nat.le_of_ble_eq_true rfl) (Or.inr rfl) (Nat.zero_le _) (Nat.zero_le _) ?_; refine sp_136 (a0 := a0) (fun x F hF hI => ?_) rfl hM hU hK hC' hs hS.1 h0; dsimp only [Option.toList_some, Option.toList_none, List.cons_append, List.nil_append]
          have hx := SI_more hI
          refine ai_ifeq rfl rfl (fun hb2 => ?_) (fun hb2 => ?_) ?_
          · refine ap_go kc_135_93 ?_
            refine ai_iinc rfl rfl ?_; refine ap_goto rfl ?_
            first | (exfalso; omega) | (rcases J x F hF hI with ⟨z, y⟩ | ⟨z, y⟩; (first | (exfalso; omega) | exact am_weak (by first | exact am_le_0 | (repeat (first | exact am_le_0 | refine am_le_n ?_ | refine am_le_s ?_))) y); (first | (exfalso; omega) | exact am_weak (by first | exact am_le_0 | (repeat (first | exact am_le_0 | refine am_le_n ?_ | refine am_le_s ?_))) y))
          · refine ap_go kc_135_91 ?_
            refine ai_iconst ?_; refine ap_istore_n rfl ?_; refine ap_nil ?_
            refine ap_go kc_135_93 ?_
            refine ai_iinc rfl rfl ?_; refine ap_goto rfl ?_
            first | (exfalso; omega) | (rcases J x F hF hI with ⟨z, y⟩ | ⟨z, y⟩; (first | (exfalso; omega) | exact am_weak (by first | exact am_le_0 | (repeat (first | exact am_le_0 | refine am_le_n ?_ | refine am_le_s ?_))) y); (first | (exfalso; omega) | exact am_weak (by first | exact am_le_0 | (repeat (first | exact am_le_0 | refine am_le_n ?_ | refine am_le_s ?_))) y))
          all_goals (omega)
        all_goals (omega)
      all_goals (omega)
    · have J := ih (s + 1) ((s : Int) + 1) m f rfl (by omega) hf (SI_skip hS (fun s0 t0 z1 z2 z3 z4 z5 z6 z7 => by
        by_cases z : s0 = s
        · rw [z] at z5; exact absurd z5 h0
        · exact Or.inl (by omega)))
      refine ap_go kc_135_63 ?_
      refine ap_iload_n rfl ?_; refine ap_aload_n rfl ?_; refine ap_getR ow_135 rf_6_52 rfl rfl rfl ?_; refine ap_callv0 ow_135 rm_6_74 na_93 mc_93 ms_93 rfl rfl (Nat.le_of_ble_eq_true rfl) (Nat.le_of_ble_eq_true rfl) (Or.inr rfl) (Nat.zero_le _) (Nat.zero_le _) ?_; refine sp_93 ?_; dsimp only [Option.toList_some, Option.toList_none, List.cons_append, List.nil_append]
      refine ai_icgt rfl rfl (fun hb0 => ?_) (fun hb0 => ?_) ?_
      · exfalso; omega
      · refine ap_go kc_135_74 ?_
        refine ap_aload_n rfl ?_; refine ap_getR ow_135 rf_6_29 rfl rfl rfl ?_; refine ap_iload_n rfl ?_; refine ai_iaload (n := 121) rfl rfl (by decide) ?_ ?_
        refine ai_iflt rfl rfl (fun hb1 => ?_) (fun hb1 => ?_) ?_
        · refine ap_go kc_135_93 ?_
          refine ai_iinc rfl rfl ?_; refine ap_goto rfl ?_
          exact am_weak (by first | exact am_le_0 | (repeat (first | exact am_le_0 | refine am_le_n ?_ | refine am_le_s ?_))) J
        · exfalso; omega
        all_goals (omega)
      all_goals (omega)
theorem lp_135w {d L : Nat} {sw : Bool} {Q : Option Value → am_H → Prop} {f0 g0 fb g : Nat → Nat → Int} {a0 : Nat} (hM : MOk f0 g0) (hU : UOk f0) (hK : toZ f0 = 20) (hC : CC f0 g0 fb g) (K : ∀ f, (∀ a, a ≠ 22 → f a = fb a) → SR f0 g0 a0 (f 22) → (∀ s t : Nat, (s : Int) ≤ f0 31 5 → 1 ≤ t → (t : Int) ≤ f0 31 5 → 0 ≤ f 22 s → mfZ f0 g0 s t → neZ f0 t ≤ f 22 s → tpZ f0 g0 t (f 22 s - neZ f0 t) ≤ f 22 t) → Q none (53, sh_lt L, iH f, jH g, sh_rt sw)) : ∀ (k r : Nat) (i m : Int) (f : Nat → Nat → Int), i = r → 2401 = r + k → (∀ a, a ≠ 22 → f a = fb a) → SR f0 g0 a0 (f 22) → (m = 0 ∧ (∀ s t : Nat, (s : Int) ≤ f0 31 5 → 1 ≤ t → (t : Int) ≤ f0 31 5 → 0 ≤ f 22 s → mfZ f0 g0 s t → neZ f0 t ≤ f 22 s → tpZ f0 g0 t (f 22 s - neZ f0 t) ≤ f 22 t) ∨ m = 1 ∧ r + psS f0 g0 (f 22) (f0 31 5).toNat ≤ 2400) → am_Wp (am_call (d + 3)) 135 Q 48 [some (.ref 14), some (.int (iZ m)), some (.int (iZ i)), none] [] (53, sh_lt L, iH f, jH g, sh_rt sw) (0, 0) := by
  intro k
  have m5 := hM.1.2.1
  induction k with
  | zero =>
    intro r i m f hi hk hf hS hm
    subst hi
    rcases hm with ⟨m0, hm⟩ | ⟨m1, hm⟩
    · have hKK := K f hf hS hm
      refine ap_go kc_135_48 ?_
      refine ap_iload_n rfl ?_
      refine ai_ifeq rfl rfl (fun hb0 => ?_) (fun hb0 => ?_) ?_
      · refine ap_go kc_135_105 ?_
        refine ap_vret rfl ?_
        exact hKK
      · exfalso; omega
      all_goals (omega)
    · exfalso; omega
  | succ k ih =>
    intro r i m f hi hk hf hS hm
    subst hi
    rcases hm with ⟨m0, hm⟩ | ⟨m1, hm⟩
    · have hKK := K f hf hS hm
      refine ap_go kc_135_48 ?_
      refine ap_iload_n rfl ?_
      refine ai_ifeq rfl rfl (fun hb0 => ?_) (fun hb0 => ?_) ?_
      · refine ap_go kc_135_105 ?_
        refine ap_vret rfl ?_
        exact hKK
      · exfalso; omega
      all_goals (omega)
    · have J99 : ∀ m F, (∀ a, a ≠ 22 → F a = fb a) → SI f0 g0 a0 (f 22) (fun s0 _ => s0 < (f0 31 5).toNat + 1) m (F 22) → am_Wp (am_call (d + 3)) 135 Q 99 [some (.ref 14), some (.int (iZ m)), some (.int (iZ (r : Int))), none] [] (53, sh_lt L, iH F, jH g, sh_rt sw) (0, 0) := by
        intro m F hF hI
        have J := ih (r + 1) ((r : Int) + 1) m F rfl (by omega) hF hI.1 (by
          rcases hI.2 with ⟨q1, q2, q3⟩ | ⟨q1, q2⟩
          · exact Or.inl ⟨q1, fun s t z1 z2 z3 => q3 s t z1 z2 z3 (by omega)⟩
          · exact Or.inr ⟨q1, by omega⟩)
        refine ap_go kc_135_99 ?_
        refine ai_iinc rfl rfl ?_; refine ap_goto rfl ?_
        exact am_weak (by first | exact am_le_0 | (repeat (first | exact am_le_0 | refine am_le_n ?_ | refine am_le_s ?_))) J
      have J := lp_135s (sw := sw) (L := L) (d := d) (Q := Q) hM hU hK hC J99 ((f0 31 5).toNat + 1) 0 0 0 f rfl (by omega) hf ⟨hS, Or.inl ⟨rfl, rfl, fun s0 t0 _ _ _ q => absurd q (Nat.not_lt_zero s0)⟩⟩
      refine ap_go kc_135_48 ?_
      refine ap_iload_n rfl ?_
      refine ai_ifeq rfl rfl (fun hb0 => ?_) (fun hb0 => ?_) ?_
      · exfalso; omega
      · refine ap_go kc_135_52 ?_
        refine ap_iload_n rfl ?_; refine ai_sipush (by decide) ?_
        refine ai_icgt rfl rfl (fun hb1 => ?_) (fun hb1 => ?_) ?_
        · exfalso; omega
        · refine ap_go kc_135_59 ?_
          refine ai_iconst ?_; refine ap_istore_n rfl ?_; refine ai_iconst ?_; refine ap_istore_n rfl ?_; refine ap_nil ?_
          exact am_weak (by first | exact am_le_0 | (repeat (first | exact am_le_0 | refine am_le_n ?_ | refine am_le_s ?_))) J
        all_goals (omega)
      all_goals (omega)
theorem lp_135i {d L : Nat} {sw : Bool} {Q : Option Value → am_H → Prop} {f0 fb g : Nat → Nat → Int} (hc : fb 5 8 = f0 31 5) (m5 : 0 ≤ f0 31 5 ∧ f0 31 5 ≤ 120) (K : ∀ f, (∀ a, a ≠ 22 → f a = fb a) → f 22 0 = fb 22 0 → (∀ s : Nat, 1 ≤ s → (s : Int) ≤ f0 31 5 → f 22 s = -1) → am_Wp (am_call (d + 3)) 135 Q 44 [some (.ref 14), none, none, none] [] (53, sh_lt L, iH f, jH g, sh_rt sw) (0, 0)) : ∀ (k s : Nat) (i : Int) (f : Nat → Nat → Int), i = s → 1 ≤ s → (f0 31 5).toNat + 1 = s + k → (∀ a, a ≠ 22 → f a = fb a) → f 22 0 = fb 22 0 → (∀ u : Nat, 1 ≤ u → u < s → f 22 u = -1) → am_Wp (am_call (d + 3)) 135 Q 20 [some (.ref 14), some (.int (iZ i)), none, none] [] (53, sh_lt L, iH f, jH g, sh_rt sw) (0, 0) := by
  intro k
  induction k with
  | zero =>
    intro s i f hi hs1 hk hf h0 hu
    subst hi
    have ec : f 5 8 = f0 31 5 := by rw [hf 5 (by decide)]; exact hc
    refine ap_go kc_135_20 ?_
    refine ap_iload_n rfl ?_; refine ap_aload_n rfl ?_; refine ap_getR ow_135 rf_6_52 rfl rfl rfl ?_; refine ap_callv0 ow_135 rm_6_74 na_93 mc_93 ms_93 rfl rfl (Nat.le_of_ble_eq_true rfl) (Nat.le_of_ble_eq_true rfl) (Or.inr rfl) (Nat.zero_le _) (Nat.zero_le _) ?_; refine sp_93 ?_; dsimp only [Option.toList_some, Option.toList_none, List.cons_append, List.nil_append]
    refine ai_icgt rfl rfl (fun hb0 => ?_) (fun hb0 => ?_) ?_
    · exact am_weak (by first | exact am_le_0 | (repeat (first | exact am_le_0 | refine am_le_n ?_ | refine am_le_s ?_))) (K f hf h0 (fun s s1 s2 => hu s s1 (by omega)))
    · exfalso; omega
    all_goals (omega)
  | succ k ih =>
    intro s i f hi hs1 hk hf h0 hu
    subst hi
    have ec : f 5 8 = f0 31 5 := by rw [hf 5 (by decide)]; exact hc
    refine ap_go kc_135_20 ?_
    refine ap_iload_n rfl ?_; refine ap_aload_n rfl ?_; refine ap_getR ow_135 rf_6_52 rfl rfl rfl ?_; refine ap_callv0 ow_135 rm_6_74 na_93 mc_93 ms_93 rfl rfl (Nat.le_of_ble_eq_true rfl) (Nat.le_of_ble_eq_true rfl) (Or.inr rfl) (Nat.zero_le _) (Nat.zero_le _) ?_; refine sp_93 ?_; dsimp only [Option.toList_some, Option.toList_none, List.cons_append, List.nil_append]
    refine ai_icgt rfl rfl (fun hb0 => ?_) (fun hb0 => ?_) ?_
    · exfalso; omega
    · refine ap_go kc_135_31 ?_
      refine ap_aload_n rfl ?_; refine ap_getR ow_135 rf_6_29 rfl rfl rfl ?_; refine ap_iload_n rfl ?_; refine ai_iconst ?_; refine ai_iastore (n := 121) rfl rfl (by decide) ?_ ?_; refine ai_iinc rfl rfl ?_; refine ap_goto rfl ?_
      · exact am_weak (by first | exact am_le_0 | (repeat (first | exact am_le_0 | refine am_le_n ?_ | refine am_le_s ?_))) (ih (s + 1) (s + 1) (am_up f 22 s (-1)) rfl (by omega) (by omega) (fun a ha => (am_up_ne ha).trans (hf a ha)) (by rw [am_up_eq]; dsimp only; rw [if_neg (by omega)]; exact h0) (fun u u1 u2 => by rw [am_up_eq]; dsimp only; by_cases z : u = s; (rw [if_pos z]); rw [if_neg z]; exact hu u u1 (by omega)))
      all_goals (omega)
    all_goals (omega)
theorem sp_135 {d L : Nat} {sw : Bool} {f g : Nat → Nat → Int} {Q : Option Value → am_H → Prop} {f0 g0 : Nat → Nat → Int} {a0 : Nat} (K : ∀ F, (∀ a, a ≠ 22 → F a = f a) → SR f0 g0 a0 (F 22) → (∀ s t : Nat, (s : Int) ≤ f0 31 5 → 1 ≤ t → (t : Int) ≤ f0 31 5 → 0 ≤ F 22 s → mfZ f0 g0 s t → neZ f0 t ≤ F 22 s → tpZ f0 g0 t (F 22 s - neZ f0 t) ≤ F 22 t) → Q none (53, sh_lt L, iH F, jH g, sh_rt sw)) (hM : MOk f0 g0) (hU : UOk f0) (hK : toZ f0 = 20) (hC : CC f0 g0 f g) (ha : f0 31 18 = (a0 : Int)) : am_call (d + 4) 135 [.ref 14] (53, sh_lt L, iH f, jH g, sh_rt sw) Q := by
  have m5 := hM.1.2.1
  have m15 := hM.1.2.2.1
  have m18 := hM.1.2.2.2.2.2
  have e8 : f 14 8 = plZ f0 0 := hC.1.1.2.2.1
  have e11 : f 14 11 = (a0 : Int) := hC.1.1.2.2.2.2.2.trans ha
  have hpl := plZ_in hM 0
  have hg4 := hM.2.2.1 (plZ f0 0).toNat
  have e4 : g 4 (plZ f0 0).toNat = g0 34 (plZ f0 0).toNat := (hC.1.2.2.2.2 _).2.2
  have c137 : ∀ {Q : Option Value → am_H → Prop}, Q (some (.int (iZ (tpZ f0 g0 0 a0)))) (53, sh_lt L, iH f, jH g, sh_rt sw) → am_call (d + 3) 137 [.ref 14, .int (iZ (f 14 8)), .int (iZ (f 14 11))] (53, sh_lt L, iH f, jH g, sh_rt sw) Q := fun K => sp_137 (by rw [e8, e4, e11]; exact K) (by omega) (by rw [e8, e4]; omega)
  have hS0 : ∀ r : Nat → Int, r 0 = tpZ f0 g0 0 a0 → (∀ s : Nat, 1 ≤ s → (s : Int) ≤ f0 31 5 → r s = -1) → SR f0 g0 a0 r ∧ psS f0 g0 r (f0 31 5).toNat ≤ 2400 := by
    intro r h0 h1
    have hS : SR f0 g0 a0 r := by
      refine ⟨by rw [h0]; unfold tpZ; split <;> omega, fun s hs => ?_⟩
      by_cases z : s = 0
      · subst z
        rw [h0]
        unfold tpZ
        by_cases c : 0 < g0 34 (plZ f0 0).toNat
        · rw [if_pos c]
          exact ⟨by omega, by omega, fun q => absurd q (by decide), fun _ => ⟨RS_up hM hK hs c (20 - a0) a0 (by omega) (by rw [Nat.mul_zero, Nat.zero_add]; exact RS_0), fun _ => rfl⟩⟩
        · rw [if_neg c]
          exact ⟨by omega, by omega, fun q => absurd q (by decide), fun _ => ⟨by rw [Nat.mul_zero, Nat.zero_add, Int.toNat_natCast]; exact RS_0, fun q => absurd q c⟩⟩
      · rw [h1 s (by omega) hs]
        exact ⟨by omega, by omega, fun _ _ => by omega, fun q => absurd q (by decide)⟩
    refine ⟨hS, ?_⟩
    have := psS_le (f0 := f0) (g0 := g0) (r := r) (fun t t1 t2 => by rw [h1 t t1 (by omega)]; decide) (f0 31 5).toNat (Nat.le_refl _)
    omega
  refine ap_call (by decide) (Nat.le_of_ble_eq_true rfl) rfl ?_
  have J44 : ∀ F, (∀ a, a ≠ 22 → F a = f a) → F 22 0 = tpZ f0 g0 0 a0 → (∀ s : Nat, 1 ≤ s → (s : Int) ≤ f0 31 5 → F 22 s = -1) → am_Wp (am_call (d + 3)) 135 Q 44 [some (.ref 14), none, none, none] [] (53, sh_lt L, iH F, jH g, sh_rt sw) (0, 0) := by
    intro F hF h0 h1
    obtain ⟨s1, s2⟩ := hS0 (F 22) h0 h1
    have J := lp_135w (sw := sw) (L := L) (d := d) (Q := Q) hM hU hK hC K 2401 0 0 1 F rfl (by omega) hF s1 (Or.inr ⟨rfl, by omega⟩)
    refine ap_go kc_135_44 ?_
    refine ai_iconst ?_; refine ap_istore_n rfl ?_; refine ai_iconst ?_; refine ap_istore_n rfl ?_; refine ap_nil ?_
    exact am_weak (by first | exact am_le_0 | (repeat (first | exact am_le_0 | refine am_le_n ?_ | refine am_le_s ?_))) J
  refine ap_go kc_135_0 ?_
  refine ap_aload_n rfl ?_; refine ap_getR ow_135 rf_6_29 rfl rfl rfl ?_; refine ai_iconst ?_; refine ap_aload_n rfl ?_; refine ap_aload_n rfl ?_; refine ai_getI ow_135 rf_6_35 rfl rfl ?_; refine ap_aload_n rfl ?_; refine ai_getI ow_135 rf_6_45 rfl rfl ?_; refine ap_callv0 ow_135 rm_6_192 na_137 mc_137 ms_137 rfl rfl (Nat.le_of_ble_eq_true rfl) (Nat.le_of_ble_eq_true rfl) (Or.inr rfl) (Nat.zero_le _) (Nat.zero_le _) ?_; refine c137 ?_; dsimp only [Option.toList_some, Option.toList_none, List.cons_append, List.nil_append]; refine ai_iastore (n := 121) rfl rfl (by decide) ?_ ?_; refine ai_iconst ?_; refine ap_istore_n rfl ?_; refine ap_nil ?_
  · exact am_weak (by first | exact am_le_0 | (repeat (first | exact am_le_0 | refine am_le_n ?_ | refine am_le_s ?_))) (lp_135i (f0 := f0) (fb := am_up f 22 0 (tpZ f0 g0 0 a0)) ((by rw [am_up_ne (by decide)]; exact hC.1.1.1)) m5 (fun F q1 q2 q3 => J44 F (fun a ha => (q1 a ha).trans (am_up_ne ha)) (by rw [q2, am_up_eq]; rfl) q3) (f0 31 5).toNat 1 1 _ rfl (Nat.le_refl 1) (by omega) (fun _ _ => rfl) rfl (fun u u1 u2 => by omega))
  all_goals (omega)
theorem lp_138 {d L : Nat} {sw : Bool} {Q : Option Value → am_H → Prop} {f0 g0 f g : Nat → Nat → Int} {n : Nat} (hM : MOk f0 g0) (hC : CC f0 g0 f g) (hn : n ≤ 60) (hr : ∀ s : Nat, (s : Int) ≤ f0 31 5 → iR (f 22 s)) (K : ∀ x : Int, bI x (∃ s : Nat, (s : Int) ≤ f0 31 5 ∧ 0 ≤ f 22 s ∧ plZ f0 s = n) → Q (some (.int (iZ x))) (53, sh_lt L, iH f, jH g, sh_rt sw)) : ∀ (k s : Nat) (i : Int), i = s → (f0 31 5).toNat + 1 = s + k → (∀ u : Nat, u < s → ¬ (0 ≤ f 22 u ∧ plZ f0 u = n)) → am_Wp (am_call (d + 1)) 138 Q 2 [some (.ref 14), some (.int (iZ (n : Int))), some (.int (iZ i))] [] (53, sh_lt L, iH f, jH g, sh_rt sw) (0, 0) := by
  intro k
  have m5 := hM.1.2.1
  have ec : f 5 8 = f0 31 5 := hC.1.1.1
  induction k with
  | zero =>
    intro s i hi hk hno
    subst hi
    have hKK := K 0 ⟨Or.inl rfl, fun z => absurd z (by decide), fun ⟨u, q1, q2, q3⟩ => absurd ⟨q2, q3⟩ (hno u (by omega))⟩
    refine ap_go kc_138_2 ?_
    refine ap_iload_n rfl ?_; refine ap_aload_n rfl ?_; refine ap_getR ow_138 rf_6_52 rfl rfl rfl ?_; refine ap_callv0 ow_138 rm_6_74 na_93 mc_93 ms_93 rfl rfl (Nat.le_of_ble_eq_true rfl) (Nat.le_of_ble_eq_true rfl) (Or.inr rfl) (Nat.zero_le _) (Nat.zero_le _) ?_; refine sp_93 ?_; dsimp only [Option.toList_some, Option.toList_none, List.cons_append, List.nil_append]
    refine ai_icgt rfl rfl (fun hb0 => ?_) (fun hb0 => ?_) ?_
    · refine ap_go kc_138_42 ?_
      refine ai_iconst ?_; refine ai_zret rfl ?_ ?_
      · exact hKK
      all_goals (first | omega | exact Or.inl rfl)
    · exfalso; omega
    all_goals (first | omega | exact Or.inl rfl)
  | succ k ih =>
    intro s i hi hk hno
    subst hi
    have hs : (s : Int) ≤ f0 31 5 := by omega
    have es : f 22 ((s : Nat) : Int).toNat = f 22 s := rfl
    have e7 : f 7 ((s : Nat) : Int).toNat = plZ f0 s := (hC.1.2.2.1 s hs).1
    have hpl := plZ_in hM s
    have hrs := hr s hs
    by_cases hq : 0 ≤ f 22 s ∧ plZ f0 s = n
    · have hKK := K 1 ⟨Or.inr rfl, fun _ => ⟨s, hs, hq.1, hq.2⟩, fun _ => rfl⟩
      obtain ⟨hq1, hq2⟩ := hq
      refine ap_go kc_138_2 ?_
      refine ap_iload_n rfl ?_; refine ap_aload_n rfl ?_; refine ap_getR ow_138 rf_6_52 rfl rfl rfl ?_; refine ap_callv0 ow_138 rm_6_74 na_93 mc_93 ms_93 rfl rfl (Nat.le_of_ble_eq_true rfl) (Nat.le_of_ble_eq_true rfl) (Or.inr rfl) (Nat.zero_le _) (Nat.zero_le _) ?_; refine sp_93 ?_; dsimp only [Option.toList_some, Option.toList_none, List.cons_append, List.nil_append]
      refine ai_icgt rfl rfl (fun hb0 => ?_) (fun hb0 => ?_) ?_
      · exfalso; omega
      · refine ap_go kc_138_13 ?_
        refine ap_aload_n rfl ?_; refine ap_getR ow_138 rf_6_29 rfl rfl rfl ?_; refine ap_iload_n rfl ?_; refine ai_iaload (n := 121) rfl rfl (by decide) ?_ ?_
        refine ai_iflt rfl rfl (fun hb1 => ?_) (fun hb1 => ?_) ?_
        · exfalso; omega
        · refine ap_go kc_138_22 ?_
          refine ap_aload_n rfl ?_; refine ap_getR ow_138 rf_6_52 rfl rfl rfl ?_; refine ap_iload_n rfl ?_; refine ap_callv0 ow_138 rm_6_125 na_99 mc_99 ms_99 rfl rfl (Nat.le_of_ble_eq_true rfl) (Nat.le_of_ble_eq_true rfl) (Or.inr rfl) (Nat.zero_le _) (Nat.zero_le _) ?_; refine sp_99 ?_ ?_; dsimp only [Option.toList_some, Option.toList_none, List.cons_append, List.nil_append]; refine ap_iload_n rfl ?_
          refine ai_icne rfl rfl (fun hb2 => ?_) (fun hb2 => ?_) ?_
          · exfalso; omega
          · refine ap_go kc_138_34 ?_
            refine ai_iconst ?_; refine ai_zret rfl ?_ ?_
            · exact hKK
            all_goals (first | omega | exact Or.inr rfl)
          all_goals (first | omega | exact Or.inr rfl)
        all_goals (first | omega | exact Or.inr rfl)
      all_goals (first | omega | exact Or.inr rfl)
    · have J := ih (s + 1) ((s : Int) + 1) rfl (by omega) (fun u hu => by
        by_cases z : u = s
        · subst z; exact hq
        · exact hno u (by omega))
      refine ap_go kc_138_2 ?_
      refine ap_iload_n rfl ?_; refine ap_aload_n rfl ?_; refine ap_getR ow_138 rf_6_52 rfl rfl rfl ?_; refine ap_callv0 ow_138 rm_6_74 na_93 mc_93 ms_93 rfl rfl (Nat.le_of_ble_eq_true rfl) (Nat.le_of_ble_eq_true rfl) (Or.inr rfl) (Nat.zero_le _) (Nat.zero_le _) ?_; refine sp_93 ?_; dsimp only [Option.toList_some, Option.toList_none, List.cons_append, List.nil_append]
      refine ai_icgt rfl rfl (fun hb0 => ?_) (fun hb0 => ?_) ?_
      · exfalso; omega
      · refine ap_go kc_138_13 ?_
        refine ap_aload_n rfl ?_; refine ap_getR ow_138 rf_6_29 rfl rfl rfl ?_; refine ap_iload_n rfl ?_; refine ai_iaload (n := 121) rfl rfl (by decide) ?_ ?_
        refine ai_iflt rfl rfl (fun hb1 => ?_) (fun hb1 => ?_) ?_
        · refine ap_go kc_138_36 ?_
          refine ai_iinc rfl rfl ?_; refine ap_goto rfl ?_
          exact am_weak (by first | exact am_le_0 | (repeat (first | exact am_le_0 | refine am_le_n ?_ | refine am_le_s ?_))) J
        · refine ap_go kc_138_22 ?_
          refine ap_aload_n rfl ?_; refine ap_getR ow_138 rf_6_52 rfl rfl rfl ?_; refine ap_iload_n rfl ?_; refine ap_callv0 ow_138 rm_6_125 na_99 mc_99 ms_99 rfl rfl (Nat.le_of_ble_eq_true rfl) (Nat.le_of_ble_eq_true rfl) (Or.inr rfl) (Nat.zero_le _) (Nat.zero_le _) ?_; refine sp_99 ?_ ?_; dsimp only [Option.toList_some, Option.toList_none, List.cons_append, List.nil_append]; refine ap_iload_n rfl ?_
          refine ai_icne rfl rfl (fun hb2 => ?_) (fun hb2 => ?_) ?_
          · refine ap_go kc_138_36 ?_
            refine ai_iinc rfl rfl ?_; refine ap_goto rfl ?_
            exact am_weak (by first | exact am_le_0 | (repeat (first | exact am_le_0 | refine am_le_n ?_ | refine am_le_s ?_))) J
          · exact absurd ⟨by omega, by omega⟩ hq
          all_goals (omega)
        all_goals (omega)
      all_goals (omega)
theorem sp_138 {d L : Nat} {sw : Bool} {f g : Nat → Nat → Int} {Q : Option Value → am_H → Prop} {f0 g0 : Nat → Nat → Int} {n : Nat} {y : Int} (K : ∀ x : Int, bI x (∃ s : Nat, (s : Int) ≤ f0 31 5 ∧ 0 ≤ f 22 s ∧ plZ f0 s = n) → Q (some (.int (iZ x))) (53, sh_lt L, iH f, jH g, sh_rt sw)) (hy : y = n) (hM : MOk f0 g0) (hC : CC f0 g0 f g) (hn : n ≤ 60) (hr : ∀ s : Nat, (s : Int) ≤ f0 31 5 → iR (f 22 s)) : am_call (d + 2) 138 [.ref 14, .int (iZ y)] (53, sh_lt L, iH f, jH g, sh_rt sw) Q := by
  subst hy
  have m5 := hM.1.2.1
  refine ap_call (by decide) (Nat.le_of_ble_eq_true rfl) rfl ?_
  refine ap_go kc_138_0 ?_
  refine ai_iconst ?_; refine ap_istore_n rfl ?_; refine ap_nil ?_
  exact am_weak (by first | exact am_le_0 | (repeat (first | exact am_le_0 | refine am_le_n ?_ | refine am_le_s ?_))) (lp_138 hM hC hn hr K ((f0 31 5).toNat + 1) 0 0 rfl (by omega) (fun u hu => absurd hu (Nat.not_lt_zero u)))
theorem lp_122 {d L : Nat} {sw : Bool} {Q : Option Value → am_H → Prop} {f0 g0 f g : Nat → Nat → Int} {a0 : Nat} (hM : MOk f0 g0) (hX : XOk g0) (hC : CC f0 g0 f g) (hr : ∀ s : Nat, (s : Int) ≤ f0 31 5 → iR (f 22 s)) (hfin : ∀ n : Nat, (∃ s : Nat, (s : Int) ≤ f0 31 5 ∧ 0 ≤ f 22 s ∧ plZ f0 s = n) ↔ ∃ v, RS f0 g0 a0 v ∧ plZ f0 (v / 21) = n) (K : ∀ l : Nat, nsL (okZ f0 g0 a0) (frZ f0 g0) (f0 31 1).toNat l → Q (some (.int (iZ (l : Int)))) (53, sh_lt L, iH f, jH g, sh_rt sw)) : ∀ (k n : Nat) (i x y : Int) (l : Nat), i = (n : Int) + 1 → (f0 31 1).toNat = n + k → x = (l : Int) → (l ≠ 0 → y = frZ f0 g0 l) → lR y → nsL (okZ f0 g0 a0) (frZ f0 g0) n l → am_Wp (am_call (d + 4)) 122 Q 21 [some (.ref 14), some (.int (iZ x)), some (.long (lZ y)), none, some (.int (iZ i)), none, none] [] (53, sh_lt L, iH f, jH g, sh_rt sw) (0, 0) := by
  intro k
  have m1 := hM.1.1
  have m16 := hM.1.2.2.2.1
  have ec : f 1 3 = f0 31 1 := hC.1.1.2.1
  have e9 : f 14 9 = f0 31 16 := hC.1.1.2.2.2.1
  induction k with
  | zero =>
    intro n i x y l hi hk hx hy hyr hL
    subst hi
    subst hx
    have hKK := K l (by rw [hk]; exact hL)
    refine ap_go kc_122_21 ?_
    refine ap_iload rfl ?_; refine ap_aload_n rfl ?_; refine ap_getR ow_122 rf_6_48 rfl rfl rfl ?_; refine ap_callv0 ow_122 rm_6_62 na_81 mc_81 ms_81 rfl rfl (Nat.le_of_ble_eq_true rfl) (Nat.le_of_ble_eq_true rfl) (Or.inr rfl) (Nat.zero_le _) (Nat.zero_le _) ?_; refine sp_81 ?_; dsimp only [Option.toList_some, Option.toList_none, List.cons_append, List.nil_append]
    refine ai_icgt rfl rfl (fun hb0 => ?_) (fun hb0 => ?_) ?_
    · refine ap_go kc_122_92 ?_
      refine ap_iload_n rfl ?_; refine ap_iret rfl ?_
      exact hKK
    · exfalso; omega
    all_goals (omega)
  | succ k ih =>
    intro n i x y l hi hk hx hy hyr hL
    subst hi
    subst hx
    have hl := nsL_le n l hL
    have en : ((n : Int) + 1).toNat = n + 1 := by omega
    have hg4 := hM.2.2.1 (n + 1)
    have e4 : g 4 ((n : Int) + 1).toNat = g0 34 (n + 1) := by rw [en]; exact (hC.1.2.2.2.2 _).2.2
    have hfr := frZ_in (f := f0) hX (n + 1)
    have e87 : (g 2 ((n : Int) + 1).toNat - g 2 (f 14 9).toNat) * (g 2 ((n : Int) + 1).toNat - g 2 (f 14 9).toNat) + (g 3 ((n : Int) + 1).toNat - g 3 (f 14 9).toNat) * (g 3 ((n : Int) + 1).toNat - g 3 (f 14 9).toNat) = frZ f0 g0 (n + 1) := by
      unfold frZ
      rw [en, e9, (hC.1.2.2.2.2 _).1, (hC.1.2.2.2.2 _).1, (hC.1.2.2.2.2 _).2.1, (hC.1.2.2.2.2 _).2.1]
    have c87 : ∀ {Q : Option Value → am_H → Prop}, Q (some (.long (lZ (frZ f0 g0 (n + 1))))) (53, sh_lt L, iH f, jH g, sh_rt sw) → am_call (d + 4) 87 [.ref 1, .int (iZ ((n : Int) + 1)), .int (iZ (f 14 9))] (53, sh_lt L, iH f, jH g, sh_rt sw) Q := fun K => sp_87 (by rw [e87]; exact K) (by omega) (by omega)
    have Jk : ¬ (okZ f0 g0 a0 (n + 1) ∧ (l = 0 ∨ frZ f0 g0 (n + 1) < frZ f0 g0 l)) → am_Wp (am_call (d + 4)) 122 Q 21 [some (.ref 14), some (.int (iZ (l : Int))), some (.long (lZ y)), none, some (.int (iZ ((n : Int) + 1 + 1))), none, none] [] (53, sh_lt L, iH f, jH g, sh_rt sw) (0, 0) := fun q => ih (n + 1) _ _ y l (by omega) (by omega) rfl hy hyr ⟨l, hL, Or.inr ⟨q, rfl⟩⟩
    have Jt : okZ f0 g0 a0 (n + 1) ∧ (l = 0 ∨ frZ f0 g0 (n + 1) < frZ f0 g0 l) → am_Wp (am_call (d + 4)) 122 Q 21 [some (.ref 14), some (.int (iZ ((n : Int) + 1))), some (.long (lZ (frZ f0 g0 (n + 1)))), none, some (.int (iZ ((n : Int) + 1 + 1))), none, none] [] (53, sh_lt L, iH f, jH g, sh_rt sw) (0, 0) := fun q => ih (n + 1) _ _ (frZ f0 g0 (n + 1)) (n + 1) (by omega) (by omega) (by omega) (fun _ => rfl) (by omega) ⟨l, hL, Or.inl ⟨q.1, q.2, rfl⟩⟩
    by_cases hc : 0 < g0 34 (n + 1)
    · have e89 : (if 0 < g 4 ((n : Int) + 1).toNat then (1 : Int) else 0) = 1 := by rw [if_pos (by omega)]
      have c89 : ∀ {Q : Option Value → am_H → Prop}, Q (some (.int (iZ 1))) (53, sh_lt L, iH f, jH g, sh_rt sw) → am_call (d + 4) 89 [.ref 1, .int (iZ ((n : Int) + 1))] (53, sh_lt L, iH f, jH g, sh_rt sw) Q := fun K => sp_89 (by rw [e89]; exact K) (by omega) (by rw [e4]; omega)
      by_cases hq : ∃ v, RS f0 g0 a0 v ∧ plZ f0 (v / 21) = ((n + 1 : Nat) : Int)
      · have hok : okZ f0 g0 a0 (n + 1) := ⟨hc, hq⟩
        have c138 : ∀ {Q : Option Value → am_H → Prop}, Q (some (.int (iZ 1))) (53, sh_lt L, iH f, jH g, sh_rt sw) → am_call (d + 4) 138 [.ref 14, .int (iZ ((n : Int) + 1))] (53, sh_lt L, iH f, jH g, sh_rt sw) Q := fun K => sp_138 (n := n + 1) (fun x hx => by rw [hx.2.mpr ((hfin (n + 1)).mpr hq)]; exact K) (by omega) hM hC (by omega) hr
        by_cases h0 : l = 0
        · have J := Jt ⟨hok, Or.inl h0⟩
          refine ap_go kc_122_21 ?_
          refine ap_iload rfl ?_; refine ap_aload_n rfl ?_; refine ap_getR ow_122 rf_6_48 rfl rfl rfl ?_; refine ap_callv0 ow_122 rm_6_62 na_81 mc_81 ms_81 rfl rfl (Nat.le_of_ble_eq_true rfl) (Nat.le_of_ble_eq_true rfl) (Or.inr rfl) (Nat.zero_le _) (Nat.zero_le _) ?_; refine sp_81 ?_; dsimp only [Option.toList_some, Option.toList_none, List.cons_append, List.nil_append]
          refine ai_icgt rfl rfl (fun hb0 => ?_) (fun hb0 => ?_) ?_
          · exfalso; omega
          · refine ap_go kc_122_33 ?_
            refine ap_aload_n rfl ?_; refine ap_getR ow_122 rf_6_48 rfl rfl rfl ?_; refine ap_iload rfl ?_; refine ap_callv0 ow_122 rm_6_141 na_89 mc_89 ms_89 rfl rfl (Nat.le_of_ble_eq_true rfl) (Nat.le_of_ble_eq_true rfl) (Or.inr rfl) (Nat.zero_le _) (Nat.zero_le _) ?_; refine c89 ?_; dsimp only [Option.toList_some, Option.toList_none, List.cons_append, List.nil_append]
            refine ai_ifeq rfl rfl (fun hb1 => ?_) (fun hb1 => ?_) ?_
            · refine ap_go kc_122_86 ?_
              refine ai_iinc rfl rfl ?_; refine ap_goto rfl ?_
              first | (exfalso; omega) | exact am_weak (by first | exact am_le_0 | (repeat (first | exact am_le_0 | refine am_le_n ?_ | refine am_le_s ?_))) J
            · refine ap_go kc_122_45 ?_
              refine ap_aload_n rfl ?_; refine ap_iload rfl ?_; refine ap_callv0 ow_122 rm_6_145 na_138 mc_138 ms_138 rfl rfl (Nat.le_of_ble_eq_true rfl) (Nat.le_of_ble_eq_true rfl) (Or.inr rfl) (Nat.zero_le _) (Nat.zero_le _) ?_; refine c138 ?_; dsimp only [Option.toList_some, Option.toList_none, List.cons_append, List.nil_append]
              refine ai_ifeq rfl rfl (fun hb2 => ?_) (fun hb2 => ?_) ?_
              · refine ap_go kc_122_86 ?_
                refine ai_iinc rfl rfl ?_; refine ap_goto rfl ?_
                first | (exfalso; omega) | exact am_weak (by first | exact am_le_0 | (repeat (first | exact am_le_0 | refine am_le_n ?_ | refine am_le_s ?_))) J
              · refine ap_go kc_122_54 ?_
                refine ap_aload_n rfl ?_; refine ap_getR ow_122 rf_6_48 rfl rfl rfl ?_; refine ap_iload rfl ?_; refine ap_aload_n rfl ?_; refine ai_getI ow_122 rf_6_39 rfl rfl ?_; refine ap_callv0 ow_122 rm_6_148 na_87 mc_87 ms_87 rfl rfl (Nat.le_of_ble_eq_true rfl) (Nat.le_of_ble_eq_true rfl) (Or.inr rfl) (Nat.zero_le _) (Nat.zero_le _) ?_; refine c87 ?_; dsimp only [Option.toList_some, Option.toList_none, List.cons_append, List.nil_append]; refine ap_lstore rfl ?_; refine ap_iload_n rfl ?_
                refine ai_ifeq rfl rfl (fun hb3 => ?_) (fun hb3 => ?_) ?_
                · refine ap_go kc_122_80 ?_
                  refine ap_iload rfl ?_; refine ap_istore_n rfl ?_; refine ap_lload rfl ?_; refine ap_lstore_n rfl ?_; refine ap_nil ?_
                  refine ap_go kc_122_86 ?_
                  refine ai_iinc rfl rfl ?_; refine ap_goto rfl ?_
                  first | (exfalso; omega) | exact am_weak (by first | exact am_le_0 | (repeat (first | exact am_le_0 | refine am_le_n ?_ | refine am_le_s ?_))) J
                · exfalso; omega
                all_goals (omega)
              all_goals (omega)
            all_goals (omega)
          all_goals (omega)
        · have ey := hy h0
          by_cases h1 : frZ f0 g0 (n + 1) < frZ f0 g0 l
          · have J := Jt ⟨hok, Or.inr h1⟩
            refine ap_go kc_122_21 ?_
            refine ap_iload rfl ?_; refine ap_aload_n rfl ?_; refine ap_getR ow_122 rf_6_48 rfl rfl rfl ?_; refine ap_callv0 ow_122 rm_6_62 na_81 mc_81 ms_81 rfl rfl (Nat.le_of_ble_eq_true rfl) (Nat.le_of_ble_eq_true rfl) (Or.inr rfl) (Nat.zero_le _) (Nat.zero_le _) ?_; refine sp_81 ?_; dsimp only [Option.toList_some, Option.toList_none, List.cons_append, List.nil_append]
            refine ai_icgt rfl rfl (fun hb0 => ?_) (fun hb0 => ?_) ?_
            · exfalso; omega
            · refine ap_go kc_122_33 ?_
              refine ap_aload_n rfl ?_; refine ap_getR ow_122 rf_6_48 rfl rfl rfl ?_; refine ap_iload rfl ?_; refine ap_callv0 ow_122 rm_6_141 na_89 mc_89 ms_89 rfl rfl (Nat.le_of_ble_eq_true rfl) (Nat.le_of_ble_eq_true rfl) (Or.inr rfl) (Nat.zero_le _) (Nat.zero_le _) ?_; refine c89 ?_; dsimp only [Option.toList_some, Option.toList_none, List.cons_append, List.nil_append]
              refine ai_ifeq rfl rfl (fun hb1 => ?_) (fun hb1 => ?_) ?_
              · refine ap_go kc_122_86 ?_
                refine ai_iinc rfl rfl ?_; refine ap_goto rfl ?_
                first | (exfalso; omega) | exact am_weak (by first | exact am_le_0 | (repeat (first | exact am_le_0 | refine am_le_n ?_ | refine am_le_s ?_))) J
              · refine ap_go kc_122_45 ?_
                refine ap_aload_n rfl ?_; refine ap_iload rfl ?_; refine ap_callv0 ow_122 rm_6_145 na_138 mc_138 ms_138 rfl rfl (Nat.le_of_ble_eq_true rfl) (Nat.le_of_ble_eq_true rfl) (Or.inr rfl) (Nat.zero_le _) (Nat.zero_le _) ?_; refine c138 ?_; dsimp only [Option.toList_some, Option.toList_none, List.cons_append, List.nil_append]
                refine ai_ifeq rfl rfl (fun hb2 => ?_) (fun hb2 => ?_) ?_
                · refine ap_go kc_122_86 ?_
                  refine ai_iinc rfl rfl ?_; refine ap_goto rfl ?_
                  first | (exfalso; omega) | exact am_weak (by first | exact am_le_0 | (repeat (first | exact am_le_0 | refine am_le_n ?_ | refine am_le_s ?_))) J
                · refine ap_go kc_122_54 ?_
                  refine ap_aload_n rfl ?_; refine ap_getR ow_122 rf_6_48 rfl rfl rfl ?_; refine ap_iload rfl ?_; refine ap_aload_n rfl ?_; refine ai_getI ow_122 rf_6_39 rfl rfl ?_; refine ap_callv0 ow_122 rm_6_148 na_87 mc_87 ms_87 rfl rfl (Nat.le_of_ble_eq_true rfl) (Nat.le_of_ble_eq_true rfl) (Or.inr rfl) (Nat.zero_le _) (Nat.zero_le _) ?_; refine c87 ?_; dsimp only [Option.toList_some, Option.toList_none, List.cons_append, List.nil_append]; refine ap_lstore rfl ?_; refine ap_iload_n rfl ?_
                  refine ai_ifeq rfl rfl (fun hb3 => ?_) (fun hb3 => ?_) ?_
                  · refine ap_go kc_122_80 ?_
                    refine ap_iload rfl ?_; refine ap_istore_n rfl ?_; refine ap_lload rfl ?_; refine ap_lstore_n rfl ?_; refine ap_nil ?_
                    refine ap_go kc_122_86 ?_
                    refine ai_iinc rfl rfl ?_; refine ap_goto rfl ?_
                    first | (exfalso; omega) | exact am_weak (by first | exact am_le_0 | (repeat (first | exact am_le_0 | refine am_le_n ?_ | refine am_le_s ?_))) J
                  · refine ap_go kc_122_73 ?_
                    refine ap_lload rfl ?_; refine ap_lload_n rfl ?_
                    refine ai_lcge rfl rfl (fun hb4 => ?_) (fun hb4 => ?_) ?_
                    · refine ap_go kc_122_86 ?_
                      refine ai_iinc rfl rfl ?_; refine ap_goto rfl ?_
                      first | (exfalso; omega) | exact am_weak (by first | exact am_le_0 | (repeat (first | exact am_le_0 | refine am_le_n ?_ | refine am_le_s ?_))) J
                    · refine ap_go kc_122_80 ?_
                      refine ap_iload rfl ?_; refine ap_istore_n rfl ?_; refine ap_lload rfl ?_; refine ap_lstore_n rfl ?_; refine ap_nil ?_
                      refine ap_go kc_122_86 ?_
                      refine ai_iinc rfl rfl ?_; refine ap_goto rfl ?_
                      first | (exfalso; omega) | exact am_weak (by first | exact am_le_0 | (repeat (first | exact am_le_0 | refine am_le_n ?_ | refine am_le_s ?_))) J
                    all_goals (omega)
                  all_goals (omega)
                all_goals (omega)
              all_goals (omega)
            all_goals (omega)
          · have J := Jk (fun q => q.2.elim h0 h1)
            refine ap_go kc_122_21 ?_
            refine ap_iload rfl ?_; refine ap_aload_n rfl ?_; refine ap_getR ow_122 rf_6_48 rfl rfl rfl ?_; refine ap_callv0 ow_122 rm_6_62 na_81 mc_81 ms_81 rfl rfl (Nat.le_of_ble_eq_true rfl) (Nat.le_of_ble_eq_true rfl) (Or.inr rfl) (Nat.zero_le _) (Nat.zero_le _) ?_; refine sp_81 ?_; dsimp only [Option.toList_some, Option.toList_none, List.cons_append, List.nil_append]
            refine ai_icgt rfl rfl (fun hb0 => ?_) (fun hb0 => ?_) ?_
            · exfalso; omega
            · refine ap_go kc_122_33 ?_
              refine ap_aload_n rfl ?_; refine ap_getR ow_122 rf_6_48 rfl rfl rfl ?_; refine ap_iload rfl ?_; refine ap_callv0 ow_122 rm_6_141 na_89 mc_89 ms_89 rfl rfl (Nat.le_of_ble_eq_true rfl) (Nat.le_of_ble_eq_true rfl) (Or.inr rfl) (Nat.zero_le _) (Nat.zero_le _) ?_; refine c89 ?_; dsimp only [Option.toList_some, Option.toList_none, List.cons_append, List.nil_append]
              refine ai_ifeq rfl rfl (fun hb1 => ?_) (fun hb1 => ?_) ?_
              · refine ap_go kc_122_86 ?_
                refine ai_iinc rfl rfl ?_; refine ap_goto rfl ?_
                first | (exfalso; omega) | exact am_weak (by first | exact am_le_0 | (repeat (first | exact am_le_0 | refine am_le_n ?_ | refine am_le_s ?_))) J
              · refine ap_go kc_122_45 ?_
                refine ap_aload_n rfl ?_; refine ap_iload rfl ?_; refine ap_callv0 ow_122 rm_6_145 na_138 mc_138 ms_138 rfl rfl (Nat.le_of_ble_eq_true rfl) (Nat.le_of_ble_eq_true rfl) (Or.inr rfl) (Nat.zero_le _) (Nat.zero_le _) ?_; refine c138 ?_; dsimp only [Option.toList_some, Option.toList_none, List.cons_append, List.nil_append]
                refine ai_ifeq rfl rfl (fun hb2 => ?_) (fun hb2 => ?_) ?_
                · refine ap_go kc_122_86 ?_
                  refine ai_iinc rfl rfl ?_; refine ap_goto rfl ?_
                  first | (exfalso; omega) | exact am_weak (by first | exact am_le_0 | (repeat (first | exact am_le_0 | refine am_le_n ?_ | refine am_le_s ?_))) J
                · refine ap_go kc_122_54 ?_
                  refine ap_aload_n rfl ?_; refine ap_getR ow_122 rf_6_48 rfl rfl rfl ?_; refine ap_iload rfl ?_; refine ap_aload_n rfl ?_; refine ai_getI ow_122 rf_6_39 rfl rfl ?_; refine ap_callv0 ow_122 rm_6_148 na_87 mc_87 ms_87 rfl rfl (Nat.le_of_ble_eq_true rfl) (Nat.le_of_ble_eq_true rfl) (Or.inr rfl) (Nat.zero_le _) (Nat.zero_le _) ?_; refine c87 ?_; dsimp only [Option.toList_some, Option.toList_none, List.cons_append, List.nil_append]; refine ap_lstore rfl ?_; refine ap_iload_n rfl ?_
                  refine ai_ifeq rfl rfl (fun hb3 => ?_) (fun hb3 => ?_) ?_
                  · exfalso; omega
                  · refine ap_go kc_122_73 ?_
                    refine ap_lload rfl ?_; refine ap_lload_n rfl ?_
                    refine ai_lcge rfl rfl (fun hb4 => ?_) (fun hb4 => ?_) ?_
                    · refine ap_go kc_122_86 ?_
                      refine ai_iinc rfl rfl ?_; refine ap_goto rfl ?_
                      first | (exfalso; omega) | exact am_weak (by first | exact am_le_0 | (repeat (first | exact am_le_0 | refine am_le_n ?_ | refine am_le_s ?_))) J
                    · exfalso; omega
                    all_goals (omega)
                  all_goals (omega)
                all_goals (omega)
              all_goals (omega)
            all_goals (omega)
      · have J := Jk (fun q => hq q.1.2)
        have c138 : ∀ {Q : Option Value → am_H → Prop}, Q (some (.int (iZ 0))) (53, sh_lt L, iH f, jH g, sh_rt sw) → am_call (d + 4) 138 [.ref 14, .int (iZ ((n : Int) + 1))] (53, sh_lt L, iH f, jH g, sh_rt sw) Q := fun K => sp_138 (n := n + 1) (fun x hx => by rw [hx.1.resolve_right (fun q => hq ((hfin (n + 1)).mp (hx.2.mp q)))]; exact K) (by omega) hM hC (by omega) hr
        refine ap_go kc_122_21 ?_
        refine ap_iload rfl ?_; refine ap_aload_n rfl ?_; refine ap_getR ow_122 rf_6_48 rfl rfl rfl ?_; refine ap_callv0 ow_122 rm_6_62 na_81 mc_81 ms_81 rfl rfl (Nat.le_of_ble_eq_true rfl) (Nat.le_of_ble_eq_true rfl) (Or.inr rfl) (Nat.zero_le _) (Nat.zero_le _) ?_; refine sp_81 ?_; dsimp only [Option.toList_some, Option.toList_none, List.cons_append, List.nil_append]
        refine ai_icgt rfl rfl (fun hb0 => ?_) (fun hb0 => ?_) ?_
        · exfalso; omega
        · refine ap_go kc_122_33 ?_
          refine ap_aload_n rfl ?_; refine ap_getR ow_122 rf_6_48 rfl rfl rfl ?_; refine ap_iload rfl ?_; refine ap_callv0 ow_122 rm_6_141 na_89 mc_89 ms_89 rfl rfl (Nat.le_of_ble_eq_true rfl) (Nat.le_of_ble_eq_true rfl) (Or.inr rfl) (Nat.zero_le _) (Nat.zero_le _) ?_; refine c89 ?_; dsimp only [Option.toList_some, Option.toList_none, List.cons_append, List.nil_append]
          refine ai_ifeq rfl rfl (fun hb1 => ?_) (fun hb1 => ?_) ?_
          · refine ap_go kc_122_86 ?_
            refine ai_iinc rfl rfl ?_; refine ap_goto rfl ?_
            first | (exfalso; omega) | exact am_weak (by first | exact am_le_0 | (repeat (first | exact am_le_0 | refine am_le_n ?_ | refine am_le_s ?_))) J
          · refine ap_go kc_122_45 ?_
            refine ap_aload_n rfl ?_; refine ap_iload rfl ?_; refine ap_callv0 ow_122 rm_6_145 na_138 mc_138 ms_138 rfl rfl (Nat.le_of_ble_eq_true rfl) (Nat.le_of_ble_eq_true rfl) (Or.inr rfl) (Nat.zero_le _) (Nat.zero_le _) ?_; refine c138 ?_; dsimp only [Option.toList_some, Option.toList_none, List.cons_append, List.nil_append]
            refine ai_ifeq rfl rfl (fun hb2 => ?_) (fun hb2 => ?_) ?_
            · refine ap_go kc_122_86 ?_
              refine ai_iinc rfl rfl ?_; refine ap_goto rfl ?_
              first | (exfalso; omega) | exact am_weak (by first | exact am_le_0 | (repeat (first | exact am_le_0 | refine am_le_n ?_ | refine am_le_s ?_))) J
            · exfalso; omega
            all_goals (omega)
          all_goals (omega)
        all_goals (omega)
    · have e89 : (if 0 < g 4 ((n : Int) + 1).toNat then (1 : Int) else 0) = 0 := by rw [if_neg (by omega)]
      have c89 : ∀ {Q : Option Value → am_H → Prop}, Q (some (.int (iZ 0))) (53, sh_lt L, iH f, jH g, sh_rt sw) → am_call (d + 4) 89 [.ref 1, .int (iZ ((n : Int) + 1))] (53, sh_lt L, iH f, jH g, sh_rt sw) Q := fun K => sp_89 (by rw [e89]; exact K) (by omega) (by rw [e4]; omega)
      have J := Jk (fun q => hc q.1.1)
      refine ap_go kc_122_21 ?_
      refine ap_iload rfl ?_; refine ap_aload_n rfl ?_; refine ap_getR ow_122 rf_6_48 rfl rfl rfl ?_; refine ap_callv0 ow_122 rm_6_62 na_81 mc_81 ms_81 rfl rfl (Nat.le_of_ble_eq_true rfl) (Nat.le_of_ble_eq_true rfl) (Or.inr rfl) (Nat.zero_le _) (Nat.zero_le _) ?_; refine sp_81 ?_; dsimp only [Option.toList_some, Option.toList_none, List.cons_append, List.nil_append]
      refine ai_icgt rfl rfl (fun hb0 => ?_) (fun hb0 => ?_) ?_
      · exfalso; omega
      · refine ap_go kc_122_33 ?_
        refine ap_aload_n rfl ?_; refine ap_getR ow_122 rf_6_48 rfl rfl rfl ?_; refine ap_iload rfl ?_; refine ap_callv0 ow_122 rm_6_141 na_89 mc_89 ms_89 rfl rfl (Nat.le_of_ble_eq_true rfl) (Nat.le_of_ble_eq_true rfl) (Or.inr rfl) (Nat.zero_le _) (Nat.zero_le _) ?_; refine c89 ?_; dsimp only [Option.toList_some, Option.toList_none, List.cons_append, List.nil_append]
        refine ai_ifeq rfl rfl (fun hb1 => ?_) (fun hb1 => ?_) ?_
        · refine ap_go kc_122_86 ?_
          refine ai_iinc rfl rfl ?_; refine ap_goto rfl ?_
          exact am_weak (by first | exact am_le_0 | (repeat (first | exact am_le_0 | refine am_le_n ?_ | refine am_le_s ?_))) J
        · exfalso; omega
        all_goals (omega)
      all_goals (omega)
theorem sp_122 {d L : Nat} {sw : Bool} {f g : Nat → Nat → Int} {Q : Option Value → am_H → Prop} {f0 g0 : Nat → Nat → Int} {a0 : Nat} (K : ∀ (l : Nat) F, (∀ a, a ≠ 22 → F a = f a) → (f0 31 17 = 2 → nsL (okZ f0 g0 a0) (frZ f0 g0) (f0 31 1).toNat l) → (f0 31 17 ≠ 2 → l = 0) → Q (some (.int (iZ (l : Int)))) (53, sh_lt L, iH F, jH g, sh_rt sw)) (hM : MOk f0 g0) (hU : UOk f0) (hX : XOk g0) (hC : CC f0 g0 f g) (ha : f0 31 18 = (a0 : Int)) : am_call (d + 5) 122 [.ref 14] (53, sh_lt L, iH f, jH g, sh_rt sw) Q := by
  have m7 := hM.1.2.2.2.2.1
  have m18 := hM.1.2.2.2.2.2
  have ek : f 14 10 = f0 31 17 := hC.1.1.2.2.2.2.1
  refine ap_call (by decide) (Nat.le_of_ble_eq_true rfl) rfl ?_
  by_cases hk : f0 31 17 = 2
  · have hK2 : toZ f0 = 20 := by unfold toZ; rw [if_pos hk]
    refine ap_go kc_122_0 ?_
    refine ap_aload_n rfl ?_; refine ai_getI ow_122 rf_6_42 rfl rfl ?_; refine ai_iconst ?_
    refine ai_iceq rfl rfl (fun hb0 => ?_) (fun hb0 => ?_) ?_
    · refine ap_go kc_122_10 ?_
      refine ap_aload_n rfl ?_; refine ap_callv0 ow_122 rm_6_138 na_135 mc_135 ms_135 rfl rfl (Nat.le_of_ble_eq_true rfl) (Nat.le_of_ble_eq_true rfl) (Or.inr rfl) (Nat.zero_le _) (Nat.zero_le _) ?_; refine sp_135 (a0 := a0) (fun F hF hS hcl => ?_) hM hU hK2 hC ha; dsimp only [Option.toList_some, Option.toList_none, List.cons_append, List.nil_append]; refine ai_iconst ?_; refine ap_istore_n rfl ?_; refine ai_lconst 0 rfl ?_; refine ap_lstore_n rfl ?_; refine ai_iconst ?_; refine ap_istore rfl ?_; refine ap_nil ?_
      exact am_weak (by first | exact am_le_0 | (repeat (first | exact am_le_0 | refine am_le_n ?_ | refine am_le_s ?_))) (lp_122 hM hX (CC_fr hC (fun a ha => hF a (by omega)) (fun _ _ => rfl)) (fun s hs => by have := hS.2 s hs; omega) (SI_fin hM hK2 hS (by omega) hcl) (fun l hl => K l F hF (fun _ => hl) (fun q => absurd hk q)) (f0 31 1).toNat 0 1 0 0 0 rfl (by omega) rfl (fun q => absurd rfl q) (by decide) rfl)
    · exfalso; omega
    all_goals (omega)
  · have hKK := K 0 f (fun _ _ => rfl) (fun q => absurd q hk) (fun _ => rfl)
    refine ap_go kc_122_0 ?_
    refine ap_aload_n rfl ?_; refine ai_getI ow_122 rf_6_42 rfl rfl ?_; refine ai_iconst ?_
    refine ai_iceq rfl rfl (fun hb0 => ?_) (fun hb0 => ?_) ?_
    · exfalso; omega
    · refine ap_go kc_122_8 ?_
      refine ai_iconst ?_; refine ap_iret rfl ?_
      exact hKK
    all_goals (omega)
