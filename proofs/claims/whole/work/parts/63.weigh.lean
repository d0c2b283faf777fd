/-! THE CLASS'S weigh() -/
/-- the streets' numbers are the reference's, at plan p -/
def CL (f0 g0 f g : Nat → Nat → Int) : Prop := 1 ≤ g0 31 14 ∧ ∀ t : Nat, 1 ≤ t → (t : Int) ≤ f0 31 5 → g 8 t = g0 37 t ∧ g 9 t = g0 38 t ∧ ((g 11 t = g0 40 t ∧ g 12 t = g0 41 t) ∨ (g 12 t ≤ 0 ∧ g0 41 t ≤ 0)) ∧ (lR (g 12 t) ∧ lR (g 11 t)) ∧ (0 ≤ f 10 t ∧ f 10 t ≤ 3) ∧ f0 39 t = 1 + g 8 t * (1 + f 10 t) / 20000
def tmZ (g0 : Nat → Nat → Int) (t : Nat) : Int := if 0 < spZ g0 t then 1000 * g0 37 t / spZ g0 t else -1
def unU (g0 : Nat → Nat → Int) (n : Nat) : Int := if g0 34 n = 0 then 0 else if 1000 < g0 34 n then 1 else 1000 / g0 34 n
theorem unU_e {f0 g0 : Nat → Nat → Int} (hM : MOk f0 g0) (n : Nat) : (if 0 < g0 34 n then (if 1000 / g0 34 n < 1 then 1 else 1000 / g0 34 n) else 0) = unU g0 n := by
  have h := hM.2.2.1 n
  unfold unU
  by_cases z : g0 34 n = 0
  · rw [if_pos z, if_neg (by omega)]
  · rw [if_neg z, if_pos (by omega)]
    have := Int.ediv_lt_iff_lt_mul (a := 1000) (b := 1) (c := g0 34 n) (by omega)
    by_cases y : 1000 < g0 34 n
    · rw [if_pos y, if_pos (by omega)]
    · rw [if_neg y, if_neg (by omega)]
theorem unU_u {f0 g0 : Nat → Nat → Int} (hM : MOk f0 g0) (hk : f0 31 17 = 2) (n : Nat) : uZ f0 g0 n = unU g0 n * 4096 := by
  unfold unU uZ unZ
  have h := hM.2.2.1 n
  by_cases z : g0 34 n = 0
  · rw [if_pos z, if_pos (Or.inr z)]; rfl
  · have hz : ¬ (¬ f0 31 17 = 2 ∨ g0 34 n = 0) := by rintro (q | q); exact q hk; exact z q
    rw [if_neg z, if_neg hz]
    by_cases y : 1000 < g0 34 n
    · rw [if_pos y]; rfl
    · rw [if_neg y]
      have := Int.ediv_nonneg (a := 1000) (b := g0 34 n) (by omega) (by omega)
      rw [if_neg (by omega)]
      omega
theorem uZ_0 {f0 g0 : Nat → Nat → Int} (hk : f0 31 17 ≠ 2) (n : Nat) : uZ f0 g0 n = 0 := by
  unfold uZ unZ
  rw [if_pos (Or.inl hk)]
  rfl
theorem tm_v {f0 g0 f g : Nat → Nat → Int} (h : CL f0 g0 f g) {t : Nat} (h1 : 1 ≤ t) (h2 : (t : Int) ≤ f0 31 5) : (if 0 < (if g0 31 14 ≤ g 12 t then g 11 t else g 9 t) then 1000 * g 8 t / (if g0 31 14 ≤ g 12 t then g 11 t else g 9 t) else -1) = tmZ g0 t := by
  obtain ⟨q1, q2, q3, -⟩ := h.2 t h1 h2
  have hp := h.1
  have e : (if g0 31 14 ≤ g 12 t then g 11 t else g 9 t) = spZ g0 t := by
    unfold spZ
    rcases q3 with ⟨a1, a2⟩ | ⟨a1, a2⟩
    · rw [a1, a2, q2]
    · rw [if_neg (by omega), if_neg (by omega), q2]
  rw [e, q1]
  rfl
theorem lp_119a {d L : Nat} {sw : Bool} {Q : Option Value → am_H → Prop} {f0 g0 f gb : Nat → Nat → Int} {p : Int} (hM : MOk f0 g0) (hC : CW f0 g0 f gb) (K : ∀ g, (∀ a, a ≠ 21 → g a = gb a) → (∀ n : Nat, 1 ≤ n → (n : Int) ≤ f0 31 1 → g 21 n = uZ f0 g0 n) → am_Wp (am_call (d + 1)) 119 Q 49 [some (.ref 14), some (.long (lZ p)), none, none, none, none, none, none] [] (53, sh_lt L, iH f, jH g, sh_rt sw) (0, 0)) : ∀ (k v : Nat) (i : Int) (g : Nat → Nat → Int), i = (v : Int) + 1 → (f0 31 1).toNat = v + k → (∀ a, a ≠ 21 → g a = gb a) → (∀ n : Nat, 1 ≤ n → n ≤ v → g 21 n = uZ f0 g0 n) → am_Wp (am_call (d + 1)) 119 Q 2 [some (.ref 14), some (.long (lZ p)), none, some (.int (iZ i)), none, none, none, none] [] (53, sh_lt L, iH f, jH g, sh_rt sw) (0, 0) := by
  intro k
  have m1 := hM.1.1
  have m7 := hM.1.2.2.2.2.1
  have ec := hC.1.2.1
  have ek := hC.1.2.2.2.2.1
  induction k with
  | zero =>
    intro v i g hi hk hg hu
    subst hi
    refine ap_go kc_119_2 ?_
    refine ap_iload_n rfl ?_; refine ap_aload_n rfl ?_; refine ap_getR ow_119 rf_6_48 rfl rfl rfl ?_; refine ap_callv0 ow_119 rm_6_62 na_81 mc_81 ms_81 rfl rfl (Nat.le_of_ble_eq_true rfl) (Nat.le_of_ble_eq_true rfl) (Or.inr rfl) (Nat.zero_le _) (Nat.zero_le _) ?_; refine sp_81 ?_; dsimp only [Option.toList_some, Option.toList_none, List.cons_append, List.nil_append]
    refine ai_icgt rfl rfl (fun hb0 => ?_) (fun hb0 => ?_) ?_
    · exact am_weak (by first | exact am_le_0 | (repeat (first | exact am_le_0 | refine am_le_n ?_ | refine am_le_s ?_))) (K g hg (fun n n1 n2 => hu n n1 (by omega)))
    · exfalso; omega
    all_goals (omega)
  | succ k ih =>
    intro v i g hi hk hg hu
    subst hi
    have e1 : ((v : Int) + 1).toNat = v + 1 := by omega
    have r4 := hM.2.2.1 (v + 1)
    have e4 : g 4 ((v : Int) + 1).toNat = g0 34 (v + 1) := by rw [e1, hg 4 (by decide)]; exact (hC.2.2.2.2 (v + 1)).2.2
    have c90 : ∀ {Q : Option Value → am_H → Prop}, Q (some (.long (lZ (unU g0 (v + 1))))) (53, sh_lt L, iH f, jH g, sh_rt sw) → am_call (d + 1) 90 [.ref 1, .int (iZ ((v : Int) + 1))] (53, sh_lt L, iH f, jH g, sh_rt sw) Q := fun K => sp_90 (by rw [e4, unU_e hM]; exact K) (by omega) (by rw [e4]; omega)
    have st : ∀ x, x = uZ f0 g0 (v + 1) → am_Wp (am_call (d + 1)) 119 Q 2 [some (.ref 14), some (.long (lZ p)), none, some (.int (iZ ((v : Int) + 1 + 1))), none, none, none, none] [] (53, sh_lt L, iH f, jH (am_up g 21 ((v : Int) + 1).toNat x), sh_rt sw) (0, 0) := by
      intro x hx
      refine ih (v + 1) _ _ (by omega) (by omega) (fun a ha => (am_up_ne ha).trans (hg a ha)) (fun n n1 n2 => ?_)
      rw [am_up_eq, e1]
      dsimp only
      by_cases z : n = v + 1
      · rw [if_pos z, z]; exact hx
      · rw [if_neg z]; exact hu n n1 (by omega)
    by_cases hk2 : f0 31 17 = 2
    ·
      refine ap_go kc_119_2 ?_
      refine ap_iload_n rfl ?_; refine ap_aload_n rfl ?_; refine ap_getR ow_119 rf_6_48 rfl rfl rfl ?_; refine ap_callv0 ow_119 rm_6_62 na_81 mc_81 ms_81 rfl rfl (Nat.le_of_ble_eq_true rfl) (Nat.le_of_ble_eq_true rfl) (Or.inr rfl) (Nat.zero_le _) (Nat.zero_le _) ?_; refine sp_81 ?_; dsimp only [Option.toList_some, Option.toList_none, List.cons_append, List.nil_append]
      refine ai_icgt rfl rfl (fun hb0 => ?_) (fun hb0 => ?_) ?_
      · exfalso; omega
      · refine ap_go kc_119_13 ?_
        refine ap_aload_n rfl ?_; refine ap_getR ow_119 rf_6_26 rfl rfl rfl ?_; refine ap_iload_n rfl ?_; refine ap_aload_n rfl ?_; refine ai_getI ow_119 rf_6_42 rfl rfl ?_; refine ai_iconst ?_
        refine ai_icne rfl rfl (fun hb1 => ?_) (fun hb1 => ?_) ?_
        · exfalso; omega
        · refine ap_go kc_119_26 ?_
          refine ap_aload_n rfl ?_; refine ap_getR ow_119 rf_6_48 rfl rfl rfl ?_; refine ap_iload_n rfl ?_; refine ap_callv0 ow_119 rm_6_68 na_90 mc_90 ms_90 rfl rfl (Nat.le_of_ble_eq_true rfl) (Nat.le_of_ble_eq_true rfl) (Or.inr rfl) (Nat.zero_le _) (Nat.zero_le _) ?_; refine c90 ?_; dsimp only [Option.toList_some, Option.toList_none, List.cons_append, List.nil_append]; refine ai_ldc2 (4096) ow_119 kl_6_72 rfl ?_; refine ai_lmul ?_; refine ap_goto rfl ?_
          refine ap_go kc_119_42 ?_
          refine ai_lastore (n := 61) rfl rfl (by decide) ?_ ?_; refine ai_iinc rfl rfl ?_; refine ap_goto rfl ?_
          · exact am_weak (by first | exact am_le_0 | (repeat (first | exact am_le_0 | refine am_le_n ?_ | refine am_le_s ?_))) (st _ (unU_u hM hk2 _).symm)
          all_goals (omega)
        all_goals (omega)
      all_goals (omega)
    ·
      refine ap_go kc_119_2 ?_
      refine ap_iload_n rfl ?_; refine ap_aload_n rfl ?_; refine ap_getR ow_119 rf_6_48 rfl rfl rfl ?_; refine ap_callv0 ow_119 rm_6_62 na_81 mc_81 ms_81 rfl rfl (Nat.le_of_ble_eq_true rfl) (Nat.le_of_ble_eq_true rfl) (Or.inr rfl) (Nat.zero_le _) (Nat.zero_le _) ?_; refine sp_81 ?_; dsimp only [Option.toList_some, Option.toList_none, List.cons_append, List.nil_append]
      refine ai_icgt rfl rfl (fun hb0 => ?_) (fun hb0 => ?_) ?_
      · exfalso; omega
      · refine ap_go kc_119_13 ?_
        refine ap_aload_n rfl ?_; refine ap_getR ow_119 rf_6_26 rfl rfl rfl ?_; refine ap_iload_n rfl ?_; refine ap_aload_n rfl ?_; refine ai_getI ow_119 rf_6_42 rfl rfl ?_; refine ai_iconst ?_
        refine ai_icne rfl rfl (fun hb1 => ?_) (fun hb1 => ?_) ?_
        · refine ap_go kc_119_41 ?_
          refine ai_lconst 0 rfl ?_; refine ap_nil ?_
          refine ap_go kc_119_42 ?_
          refine ai_lastore (n := 61) rfl rfl (by decide) ?_ ?_; refine ai_iinc rfl rfl ?_; refine ap_goto rfl ?_
          · exact am_weak (by first | exact am_le_0 | (repeat (first | exact am_le_0 | refine am_le_n ?_ | refine am_le_s ?_))) (st _ (uZ_0 hk2 _).symm)
          all_goals (omega)
        · exfalso; omega
        all_goals (omega)
      all_goals (omega)
theorem lp_119b {d L : Nat} {sw : Bool} {Q : Option Value → am_H → Prop} {f0 g0 fb gb : Nat → Nat → Int} {p : Int} (hp : p = g0 31 14) (hM : MOk f0 g0) (hC : CW f0 g0 fb gb) (hL : CL f0 g0 fb gb) (K : ∀ f g, (∀ a, a ≠ 20 → f a = fb a) → (∀ a, a ≠ 19 → g a = gb a) → (∀ t : Nat, 1 ≤ t → (t : Int) ≤ f0 31 5 → g 19 t = (if prZ f0 g0 t < 0 then -1 else wZ f0 g0 t) ∧ f 20 t = neZ f0 t) → Q none (53, sh_lt L, iH f, jH g, sh_rt sw)) : ∀ (k v : Nat) (i : Int) (f g : Nat → Nat → Int), i = (v : Int) + 1 → (f0 31 5).toNat = v + k → (∀ a, a ≠ 20 → f a = fb a) → (∀ a, a ≠ 19 → g a = gb a) → (∀ t : Nat, 1 ≤ t → t ≤ v → g 19 t = (if prZ f0 g0 t < 0 then -1 else wZ f0 g0 t) ∧ f 20 t = neZ f0 t) → am_Wp (am_call (d + 1)) 119 Q 51 [some (.ref 14), some (.long (lZ p)), none, some (.int (iZ i)), none, none, none, none] [] (53, sh_lt L, iH f, jH g, sh_rt sw) (0, 0) := by
  intro k
  have m5 := hM.1.2.1
  have m7 := hM.1.2.2.2.2.1
  have m14 := hM.2.2.2.2.2.2.2
  induction k with
  | zero =>
    intro v i f g hi hk hf hg hu
    subst hi
    have ec : f 5 8 = f0 31 5 := by rw [hf 5 (by decide)]; exact hC.1.1
    refine ap_go kc_119_51 ?_
    refine ap_iload_n rfl ?_; refine ap_aload_n rfl ?_; refine ap_getR ow_119 rf_6_52 rfl rfl rfl ?_; refine ap_callv0 ow_119 rm_6_74 na_93 mc_93 ms_93 rfl rfl (Nat.le_of_ble_eq_true rfl) (Nat.le_of_ble_eq_true rfl) (Or.inr rfl) (Nat.zero_le _) (Nat.zero_le _) ?_; refine sp_93 ?_; dsimp only [Option.toList_some, Option.toList_none, List.cons_append, List.nil_append]
    refine ai_icgt rfl rfl (fun hb0 => ?_) (fun hb0 => ?_) ?_
    · refine ap_go kc_119_157 ?_
      refine ap_vret rfl ?_
      exact K f g hf hg (fun n n1 n2 => hu n n1 (by omega))
    · exfalso; omega
    all_goals (omega)
  | succ k ih =>
    intro v i f g hi hk hf hg hu
    subst hi
    have ec : f 5 8 = f0 31 5 := by rw [hf 5 (by decide)]; exact hC.1.1
    have ek : f 14 10 = f0 31 17 := by rw [hf 14 (by decide)]; exact hC.1.2.2.2.2.1
    have e1 : ((v : Int) + 1).toNat = v + 1 := by omega
    have hL' : CL f0 g0 f g := by unfold CL at hL ⊢; rw [hf 10 (by decide), hg 8 (by decide), hg 9 (by decide), hg 11 (by decide), hg 12 (by decide)]; exact hL
    obtain ⟨l1, l2, l3, l4, l5, l6⟩ := hL'.2 (v + 1) (by omega) (by omega)
    have r37 := hM.2.2.2.1 (v + 1)
    have r38 := hM.2.2.2.2.1 (v + 1)
    have rsp := spZ_in hM (v + 1)
    have r39 := hM.2.1.2.2.1 (v + 1)
    have e8 : g 8 ((v : Int) + 1).toNat = g0 37 (v + 1) := by rw [e1]; exact l1
    have c106 : ∀ {Q : Option Value → am_H → Prop}, Q (some (.long (lZ (tmZ g0 (v + 1))))) (53, sh_lt L, iH f, jH g, sh_rt sw) → am_call (d + 1) 106 [.ref 5, .int (iZ ((v : Int) + 1)), .long (lZ p)] (53, sh_lt L, iH f, jH g, sh_rt sw) Q := fun K => sp_106 (by rw [e1, hp, tm_v hL' (by omega) (by omega)]; exact K) (by omega) (by rw [hp]; exact m14) (by rw [e1]; exact l4.1) (by rw [e1]; exact l4.2) (by rw [e1, l2]; omega) (by rw [e1, l1]; omega)
    have c101 : ∀ (G : Nat → Nat → Int) {Q : Option Value → am_H → Prop}, (∀ a, a ≠ 19 → G a = g a) → Q (some (.int (iZ (f0 39 (v + 1))))) (53, sh_lt L, iH f, jH G, sh_rt sw) → am_call (d + 1) 101 [.ref 5, .int (iZ ((v : Int) + 1))] (53, sh_lt L, iH f, jH G, sh_rt sw) Q := fun G Q hG K => by
      have z : 0 ≤ g 8 (v + 1) * (1 + f 10 (v + 1)) ∧ g 8 (v + 1) * (1 + f 10 (v + 1)) < 9223372036854775808 := by
        have b1 : 0 ≤ g 8 (v + 1) * (1 + f 10 (v + 1)) := Int.mul_nonneg (by omega) (by omega)
        have b2 : g 8 (v + 1) * (1 + f 10 (v + 1)) ≤ 100000 * 4 := Int.mul_le_mul (a := g 8 (v + 1)) (b := 1 + f 10 (v + 1)) (c := 100000) (d := 4) (by omega) (by omega) (by omega) (by omega)
        omega
      exact sp_101 (by rw [e1, hG 8 (by decide), ← l6]; exact K) (by omega) (by rw [e1]; omega) (by rw [e1, hG 8 (by decide)]; exact z)
    have st : ∀ x y, y = (if prZ f0 g0 (v + 1) < 0 then -1 else wZ f0 g0 (v + 1)) → x = neZ f0 (v + 1) → am_Wp (am_call (d + 1)) 119 Q 51 [some (.ref 14), some (.long (lZ p)), none, some (.int (iZ ((v : Int) + 1 + 1))), none, none, none, none] [] (53, sh_lt L, iH (am_up f 20 ((v : Int) + 1).toNat x), jH (am_up g 19 ((v : Int) + 1).toNat y), sh_rt sw) (0, 0) := by
      intro x y hy hx
      refine ih (v + 1) _ _ _ (by omega) (by omega) (fun a ha => (am_up_ne ha).trans (hf a ha)) (fun a ha => (am_up_ne ha).trans (hg a ha)) (fun n n1 n2 => ?_)
      rw [am_up_eq, am_up_eq, e1]
      dsimp only
      by_cases z : n = v + 1
      · rw [if_pos z, if_pos z, z]; exact ⟨hy, hx⟩
      · rw [if_neg z, if_neg z]; exact hu n n1 (by omega)
    have ene : (f0 31 17 = 2 → f0 39 (v + 1) = neZ f0 (v + 1)) ∧ (f0 31 17 ≠ 2 → 0 = neZ f0 (v + 1)) := by
      unfold neZ
      exact ⟨fun q => by rw [if_pos q], fun q => by rw [if_neg q]⟩
    by_cases hs : spZ g0 (v + 1) = 0
    · have et : tmZ g0 (v + 1) = -1 := by unfold tmZ; rw [if_neg (by omega)]
      have ep : (-1 : Int) = (if prZ f0 g0 (v + 1) < 0 then -1 else wZ f0 g0 (v + 1)) := by unfold prZ; rw [if_pos hs, if_pos (by decide)]
      refine ap_go kc_119_51 ?_
      refine ap_iload_n rfl ?_; refine ap_aload_n rfl ?_; refine ap_getR ow_119 rf_6_52 rfl rfl rfl ?_; refine ap_callv0 ow_119 rm_6_74 na_93 mc_93 ms_93 rfl rfl (Nat.le_of_ble_eq_true rfl) (Nat.le_of_ble_eq_true rfl) (Or.inr rfl) (Nat.zero_le _) (Nat.zero_le _) ?_; refine sp_93 ?_; dsimp only [Option.toList_some, Option.toList_none, List.cons_append, List.nil_append]
      refine ai_icgt rfl rfl (fun hb0 => ?_) (fun hb0 => ?_) ?_
      · refine ap_go kc_119_157 ?_
        refine ap_vret rfl ?_
        exfalso; omega
      · refine ap_go kc_119_62 ?_
        refine ap_aload_n rfl ?_; refine ap_getR ow_119 rf_6_52 rfl rfl rfl ?_; refine ap_iload_n rfl ?_; refine ap_lload_n rfl ?_; refine ap_callv0 ow_119 rm_6_75 na_106 mc_106 ms_106 rfl rfl (Nat.le_of_ble_eq_true rfl) (Nat.le_of_ble_eq_true rfl) (Or.inr rfl) (Nat.zero_le _) (Nat.zero_le _) ?_; refine c106 ?_; dsimp only [Option.toList_some, Option.toList_none, List.cons_append, List.nil_append]; refine ap_lstore rfl ?_; refine ap_aload_n rfl ?_; refine ai_getI ow_119 rf_6_42 rfl rfl ?_; refine ai_iconst ?_
        refine ai_icne rfl rfl (fun hb1 => ?_) (fun hb1 => ?_) ?_
        · refine ap_go kc_119_92 ?_
          refine ap_lload rfl ?_; refine ap_nil ?_
          refine ap_go kc_119_94 ?_
          refine ap_lstore rfl ?_; refine ap_aload_n rfl ?_; refine ap_getR ow_119 rf_6_18 rfl rfl rfl ?_; refine ap_iload_n rfl ?_; refine ap_lload rfl ?_; refine ai_ldc2 (-1) ow_119 kl_6_82 rfl ?_
          refine ai_lcne rfl rfl (fun hb2 => ?_) (fun hb2 => ?_) ?_
          · exfalso; omega
          · refine ap_go kc_119_110 ?_
            refine ai_ldc2 (-1) ow_119 kl_6_82 rfl ?_; refine ap_goto rfl ?_
            refine ap_go kc_119_124 ?_
            refine ai_lastore (n := 121) rfl rfl (by decide) ?_ ?_; refine ap_aload_n rfl ?_; refine ap_getR ow_119 rf_6_22 rfl rfl rfl ?_; refine ap_iload_n rfl ?_; refine ap_aload_n rfl ?_; refine ai_getI ow_119 rf_6_42 rfl rfl ?_; refine ai_iconst ?_
            refine ai_icne rfl rfl (fun hb3 => ?_) (fun hb3 => ?_) ?_
            · refine ap_go kc_119_149 ?_
              refine ai_iconst ?_; refine ap_nil ?_
              refine ap_go kc_119_150 ?_
              refine ai_iastore (n := 121) rfl rfl (by decide) ?_ ?_; refine ai_iinc rfl rfl ?_; refine ap_goto rfl ?_
              · first | exact am_weak (by first | exact am_le_0 | (repeat (first | exact am_le_0 | refine am_le_n ?_ | refine am_le_s ?_))) (st _ _ ep (ene.1 (by omega))) | exact am_weak (by first | exact am_le_0 | (repeat (first | exact am_le_0 | refine am_le_n ?_ | refine am_le_s ?_))) (st _ _ ep (ene.2 (by omega)))
              all_goals (omega)
            · refine ap_go kc_119_138 ?_
              refine ap_aload_n rfl ?_; refine ap_getR ow_119 rf_6_52 rfl rfl rfl ?_; refine ap_iload_n rfl ?_; refine ap_callv0 ow_119 rm_6_84 na_101 mc_101 ms_101 rfl rfl (Nat.le_of_ble_eq_true rfl) (Nat.le_of_ble_eq_true rfl) (Or.inr rfl) (Nat.zero_le _) (Nat.zero_le _) ?_; refine c101 _ (fun a ha => am_up_ne ha) ?_; dsimp only [Option.toList_some, Option.toList_none, List.cons_append, List.nil_append]; refine ap_goto rfl ?_
              refine ap_go kc_119_150 ?_
              refine ai_iastore (n := 121) rfl rfl (by decide) ?_ ?_; refine ai_iinc rfl rfl ?_; refine ap_goto rfl ?_
              · first | exact am_weak (by first | exact am_le_0 | (repeat (first | exact am_le_0 | refine am_le_n ?_ | refine am_le_s ?_))) (st _ _ ep (ene.1 (by omega))) | exact am_weak (by first | exact am_le_0 | (repeat (first | exact am_le_0 | refine am_le_n ?_ | refine am_le_s ?_))) (st _ _ ep (ene.2 (by omega)))
              all_goals (omega)
            all_goals (omega)
          all_goals (omega)
        · refine ap_go kc_119_81 ?_
          refine ap_aload_n rfl ?_; refine ap_getR ow_119 rf_6_52 rfl rfl rfl ?_; refine ap_iload_n rfl ?_; refine ap_callv0 ow_119 rm_6_79 na_100 mc_100 ms_100 rfl rfl (Nat.le_of_ble_eq_true rfl) (Nat.le_of_ble_eq_true rfl) (Or.inr rfl) (Nat.zero_le _) (Nat.zero_le _) ?_; refine sp_100 ?_ ?_; dsimp only [Option.toList_some, Option.toList_none, List.cons_append, List.nil_append]; refine ap_goto rfl ?_
          · refine ap_go kc_119_94 ?_
            refine ap_lstore rfl ?_; refine ap_aload_n rfl ?_; refine ap_getR ow_119 rf_6_18 rfl rfl rfl ?_; refine ap_iload_n rfl ?_; refine ap_lload rfl ?_; refine ai_ldc2 (-1) ow_119 kl_6_82 rfl ?_
            refine ai_lcne rfl rfl (fun hb4 => ?_) (fun hb4 => ?_) ?_
            · exfalso; omega
            · refine ap_go kc_119_110 ?_
              refine ai_ldc2 (-1) ow_119 kl_6_82 rfl ?_; refine ap_goto rfl ?_
              refine ap_go kc_119_124 ?_
              refine ai_lastore (n := 121) rfl rfl (by decide) ?_ ?_; refine ap_aload_n rfl ?_; refine ap_getR ow_119 rf_6_22 rfl rfl rfl ?_; refine ap_iload_n rfl ?_; refine ap_aload_n rfl ?_; refine ai_getI ow_119 rf_6_42 rfl rfl ?_; refine ai_iconst ?_
              refine ai_icne rfl rfl (fun hb5 => ?_) (fun hb5 => ?_) ?_
              · refine ap_go kc_119_149 ?_
                refine ai_iconst ?_; refine ap_nil ?_
                refine ap_go kc_119_150 ?_
                refine ai_iastore (n := 121) rfl rfl (by decide) ?_ ?_; refine ai_iinc rfl rfl ?_; refine ap_goto rfl ?_
                · first | exact am_weak (by first | exact am_le_0 | (repeat (first | exact am_le_0 | refine am_le_n ?_ | refine am_le_s ?_))) (st _ _ ep (ene.1 (by omega))) | exact am_weak (by first | exact am_le_0 | (repeat (first | exact am_le_0 | refine am_le_n ?_ | refine am_le_s ?_))) (st _ _ ep (ene.2 (by omega)))
                all_goals (omega)
              · refine ap_go kc_119_138 ?_
                refine ap_aload_n rfl ?_; refine ap_getR ow_119 rf_6_52 rfl rfl rfl ?_; refine ap_iload_n rfl ?_; refine ap_callv0 ow_119 rm_6_84 na_101 mc_101 ms_101 rfl rfl (Nat.le_of_ble_eq_true rfl) (Nat.le_of_ble_eq_true rfl) (Or.inr rfl) (Nat.zero_le _) (Nat.zero_le _) ?_; refine c101 _ (fun a ha => am_up_ne ha) ?_; dsimp only [Option.toList_some, Option.toList_none, List.cons_append, List.nil_append]; refine ap_goto rfl ?_
                refine ap_go kc_119_150 ?_
                refine ai_iastore (n := 121) rfl rfl (by decide) ?_ ?_; refine ai_iinc rfl rfl ?_; refine ap_goto rfl ?_
                · first | exact am_weak (by first | exact am_le_0 | (repeat (first | exact am_le_0 | refine am_le_n ?_ | refine am_le_s ?_))) (st _ _ ep (ene.1 (by omega))) | exact am_weak (by first | exact am_le_0 | (repeat (first | exact am_le_0 | refine am_le_n ?_ | refine am_le_s ?_))) (st _ _ ep (ene.2 (by omega)))
                all_goals (omega)
              all_goals (omega)
            all_goals (omega)
          all_goals (omega)
        all_goals (omega)
      all_goals (omega)
    · have et : tmZ g0 (v + 1) = 1000 * g0 37 (v + 1) / spZ g0 (v + 1) := by unfold tmZ; rw [if_pos (by omega)]
      have q1 := Int.ediv_nonneg (a := 1000 * g0 37 (v + 1)) (b := spZ g0 (v + 1)) (by omega) (by omega)
      have q2 := Int.ediv_le_self (a := 1000 * g0 37 (v + 1)) (spZ g0 (v + 1)) (by omega)
      by_cases hk1 : f0 31 17 = 1
      · have ep : g 8 ((v : Int) + 1).toNat * 4096 + 1 = (if prZ f0 g0 (v + 1) < 0 then -1 else wZ f0 g0 (v + 1)) := by unfold wZ prZ; rw [if_neg hs, if_pos hk1, if_neg (by omega), e8]; omega
        refine ap_go kc_119_51 ?_
        refine ap_iload_n rfl ?_; refine ap_aload_n rfl ?_; refine ap_getR ow_119 rf_6_52 rfl rfl rfl ?_; refine ap_callv0 ow_119 rm_6_74 na_93 mc_93 ms_93 rfl rfl (Nat.le_of_ble_eq_true rfl) (Nat.le_of_ble_eq_true rfl) (Or.inr rfl) (Nat.zero_le _) (Nat.zero_le _) ?_; refine sp_93 ?_; dsimp only [Option.toList_some, Option.toList_none, List.cons_append, List.nil_append]
        refine ai_icgt rfl rfl (fun hb0 => ?_) (fun hb0 => ?_) ?_
        · refine ap_go kc_119_157 ?_
          refine ap_vret rfl ?_
          exfalso; omega
        · refine ap_go kc_119_62 ?_
          refine ap_aload_n rfl ?_; refine ap_getR ow_119 rf_6_52 rfl rfl rfl ?_; refine ap_iload_n rfl ?_; refine ap_lload_n rfl ?_; refine ap_callv0 ow_119 rm_6_75 na_106 mc_106 ms_106 rfl rfl (Nat.le_of_ble_eq_true rfl) (Nat.le_of_ble_eq_true rfl) (Or.inr rfl) (Nat.zero_le _) (Nat.zero_le _) ?_; refine c106 ?_; dsimp only [Option.toList_some, Option.toList_none, List.cons_append, List.nil_append]; refine ap_lstore rfl ?_; refine ap_aload_n rfl ?_; refine ai_getI ow_119 rf_6_42 rfl rfl ?_; refine ai_iconst ?_
          refine ai_icne rfl rfl (fun hb1 => ?_) (fun hb1 => ?_) ?_
          · exfalso; omega
          · refine ap_go kc_119_81 ?_
            refine ap_aload_n rfl ?_; refine ap_getR ow_119 rf_6_52 rfl rfl rfl ?_; refine ap_iload_n rfl ?_; refine ap_callv0 ow_119 rm_6_79 na_100 mc_100 ms_100 rfl rfl (Nat.le_of_ble_eq_true rfl) (Nat.le_of_ble_eq_true rfl) (Or.inr rfl) (Nat.zero_le _) (Nat.zero_le _) ?_; refine sp_100 ?_ ?_; dsimp only [Option.toList_some, Option.toList_none, List.cons_append, List.nil_append]; refine ap_goto rfl ?_
            · refine ap_go kc_119_94 ?_
              refine ap_lstore rfl ?_; refine ap_aload_n rfl ?_; refine ap_getR ow_119 rf_6_18 rfl rfl rfl ?_; refine ap_iload_n rfl ?_; refine ap_lload rfl ?_; refine ai_ldc2 (-1) ow_119 kl_6_82 rfl ?_
              refine ai_lcne rfl rfl (fun hb2 => ?_) (fun hb2 => ?_) ?_
              · refine ap_go kc_119_116 ?_
                refine ap_lload rfl ?_; refine ai_ldc2 (4096) ow_119 kl_6_72 rfl ?_; refine ai_lmul ?_; refine ai_lconst 1 rfl ?_; refine ai_ladd ?_; refine ap_nil ?_
                refine ap_go kc_119_124 ?_
                refine ai_lastore (n := 121) rfl rfl (by decide) ?_ ?_; refine ap_aload_n rfl ?_; refine ap_getR ow_119 rf_6_22 rfl rfl rfl ?_; refine ap_iload_n rfl ?_; refine ap_aload_n rfl ?_; refine ai_getI ow_119 rf_6_42 rfl rfl ?_; refine ai_iconst ?_
                refine ai_icne rfl rfl (fun hb3 => ?_) (fun hb3 => ?_) ?_
                · refine ap_go kc_119_149 ?_
                  refine ai_iconst ?_; refine ap_nil ?_
                  refine ap_go kc_119_150 ?_
                  refine ai_iastore (n := 121) rfl rfl (by decide) ?_ ?_; refine ai_iinc rfl rfl ?_; refine ap_goto rfl ?_
                  · first | exact am_weak (by first | exact am_le_0 | (repeat (first | exact am_le_0 | refine am_le_n ?_ | refine am_le_s ?_))) (st _ _ ep (ene.1 (by omega))) | exact am_weak (by first | exact am_le_0 | (repeat (first | exact am_le_0 | refine am_le_n ?_ | refine am_le_s ?_))) (st _ _ ep (ene.2 (by omega)))
                  all_goals (omega)
                · refine ap_go kc_119_138 ?_
                  refine ap_aload_n rfl ?_; refine ap_getR ow_119 rf_6_52 rfl rfl rfl ?_; refine ap_iload_n rfl ?_; refine ap_callv0 ow_119 rm_6_84 na_101 mc_101 ms_101 rfl rfl (Nat.le_of_ble_eq_true rfl) (Nat.le_of_ble_eq_true rfl) (Or.inr rfl) (Nat.zero_le _) (Nat.zero_le _) ?_; refine c101 _ (fun a ha => am_up_ne ha) ?_; dsimp only [Option.toList_some, Option.toList_none, List.cons_append, List.nil_append]; refine ap_goto rfl ?_
                  refine ap_go kc_119_150 ?_
                  refine ai_iastore (n := 121) rfl rfl (by decide) ?_ ?_; refine ai_iinc rfl rfl ?_; refine ap_goto rfl ?_
                  · first | exact am_weak (by first | exact am_le_0 | (repeat (first | exact am_le_0 | refine am_le_n ?_ | refine am_le_s ?_))) (st _ _ ep (ene.1 (by omega))) | exact am_weak (by first | exact am_le_0 | (repeat (first | exact am_le_0 | refine am_le_n ?_ | refine am_le_s ?_))) (st _ _ ep (ene.2 (by omega)))
                  all_goals (omega)
                all_goals (omega)
              · exfalso; omega
              all_goals (omega)
            all_goals (omega)
          all_goals (omega)
        all_goals (omega)
      · have ep : tmZ g0 (v + 1) * 4096 + 1 = (if prZ f0 g0 (v + 1) < 0 then -1 else wZ f0 g0 (v + 1)) := by unfold wZ prZ; rw [if_neg hs, if_neg hk1, Int.mul_comm (g0 37 (v + 1)) 1000, ← et, if_neg (by omega)]; omega
        refine ap_go kc_119_51 ?_
        refine ap_iload_n rfl ?_; refine ap_aload_n rfl ?_; refine ap_getR ow_119 rf_6_52 rfl rfl rfl ?_; refine ap_callv0 ow_119 rm_6_74 na_93 mc_93 ms_93 rfl rfl (Nat.le_of_ble_eq_true rfl) (Nat.le_of_ble_eq_true rfl) (Or.inr rfl) (Nat.zero_le _) (Nat.zero_le _) ?_; refine sp_93 ?_; dsimp only [Option.toList_some, Option.toList_none, List.cons_append, List.nil_append]
        refine ai_icgt rfl rfl (fun hb0 => ?_) (fun hb0 => ?_) ?_
        · refine ap_go kc_119_157 ?_
          refine ap_vret rfl ?_
          exfalso; omega
        · refine ap_go kc_119_62 ?_
          refine ap_aload_n rfl ?_; refine ap_getR ow_119 rf_6_52 rfl rfl rfl ?_; refine ap_iload_n rfl ?_; refine ap_lload_n rfl ?_; refine ap_callv0 ow_119 rm_6_75 na_106 mc_106 ms_106 rfl rfl (Nat.le_of_ble_eq_true rfl) (Nat.le_of_ble_eq_true rfl) (Or.inr rfl) (Nat.zero_le _) (Nat.zero_le _) ?_; refine c106 ?_; dsimp only [Option.toList_some, Option.toList_none, List.cons_append, List.nil_append]; refine ap_lstore rfl ?_; refine ap_aload_n rfl ?_; refine ai_getI ow_119 rf_6_42 rfl rfl ?_; refine ai_iconst ?_
          refine ai_icne rfl rfl (fun hb1 => ?_) (fun hb1 => ?_) ?_
          · refine ap_go kc_119_92 ?_
            refine ap_lload rfl ?_; refine ap_nil ?_
            refine ap_go kc_119_94 ?_
            refine ap_lstore rfl ?_; refine ap_aload_n rfl ?_; refine ap_getR ow_119 rf_6_18 rfl rfl rfl ?_; refine ap_iload_n rfl ?_; refine ap_lload rfl ?_; refine ai_ldc2 (-1) ow_119 kl_6_82 rfl ?_
            refine ai_lcne rfl rfl (fun hb2 => ?_) (fun hb2 => ?_) ?_
            · refine ap_go kc_119_116 ?_
              refine ap_lload rfl ?_; refine ai_ldc2 (4096) ow_119 kl_6_72 rfl ?_; refine ai_lmul ?_; refine ai_lconst 1 rfl ?_; refine ai_ladd ?_; refine ap_nil ?_
              refine ap_go kc_119_124 ?_
              refine ai_lastore (n := 121) rfl rfl (by decide) ?_ ?_; refine ap_aload_n rfl ?_; refine ap_getR ow_119 rf_6_22 rfl rfl rfl ?_; refine ap_iload_n rfl ?_; refine ap_aload_n rfl ?_; refine ai_getI ow_119 rf_6_42 rfl rfl ?_; refine ai_iconst ?_
              refine ai_icne rfl rfl (fun hb3 => ?_) (fun hb3 => ?_) ?_
              · refine ap_go kc_119_149 ?_
                refine ai_iconst ?_; refine ap_nil ?_
                refine ap_go kc_119_150 ?_
                refine ai_iastore (n := 121) rfl rfl (by decide) ?_ ?_; refine ai_iinc rfl rfl ?_; refine ap_goto rfl ?_
                · first | exact am_weak (by first | exact am_le_0 | (repeat (first | exact am_le_0 | refine am_le_n ?_ | refine am_le_s ?_))) (st _ _ ep (ene.1 (by omega))) | exact am_weak (by first | exact am_le_0 | (repeat (first | exact am_le_0 | refine am_le_n ?_ | refine am_le_s ?_))) (st _ _ ep (ene.2 (by omega)))
                all_goals (omega)
              · refine ap_go kc_119_138 ?_
                refine ap_aload_n rfl ?_; refine ap_getR ow_119 rf_6_52 rfl rfl rfl ?_; refine ap_iload_n rfl ?_; refine ap_callv0 ow_119 rm_6_84 na_101 mc_101 ms_101 rfl rfl (Nat.le_of_ble_eq_true rfl) (Nat.le_of_ble_eq_true rfl) (Or.inr rfl) (Nat.zero_le _) (Nat.zero_le _) ?_; refine c101 _ (fun a ha => am_up_ne ha) ?_; dsimp only [Option.toList_some, Option.toList_none, List.cons_append, List.nil_append]; refine ap_goto rfl ?_
                refine ap_go kc_119_150 ?_
                refine ai_iastore (n := 121) rfl rfl (by decide) ?_ ?_; refine ai_iinc rfl rfl ?_; refine ap_goto rfl ?_
                · first | exact am_weak (by first | exact am_le_0 | (repeat (first | exact am_le_0 | refine am_le_n ?_ | refine am_le_s ?_))) (st _ _ ep (ene.1 (by omega))) | exact am_weak (by first | exact am_le_0 | (repeat (first | exact am_le_0 | refine am_le_n ?_ | refine am_le_s ?_))) (st _ _ ep (ene.2 (by omega)))
                all_goals (omega)
              all_goals (omega)
            · exfalso; omega
            all_goals (omega)
          · exfalso; omega
          all_goals (omega)
        all_goals (omega)
theorem sp_119 {d L : Nat} {sw : Bool} {f g : Nat → Nat → Int} {Q : Option Value → am_H → Prop} {f0 g0 : Nat → Nat → Int} {p : Int} (K : ∀ F G, (∀ a, a ≠ 20 → F a = f a) → (∀ a, a ≠ 19 → a ≠ 21 → G a = g a) → CC f0 g0 F G → Q none (53, sh_lt L, iH F, jH G, sh_rt sw)) (hp : p = g0 31 14) (hM : MOk f0 g0) (hC : CW f0 g0 f g) (hL : CL f0 g0 f g) : am_call (d + 2) 119 [.ref 14, .long (lZ p)] (53, sh_lt L, iH f, jH g, sh_rt sw) Q := by
  refine ap_call (by decide) (Nat.le_of_ble_eq_true rfl) rfl ?_
  have J49 : ∀ g2, (∀ a, a ≠ 21 → g2 a = g a) → (∀ n : Nat, 1 ≤ n → (n : Int) ≤ f0 31 1 → g2 21 n = uZ f0 g0 n) → am_Wp (am_call (d + 1)) 119 Q 49 [some (.ref 14), some (.long (lZ p)), none, none, none, none, none, none] [] (53, sh_lt L, iH f, jH g2, sh_rt sw) (0, 0) := by
    intro g2 hg2 hu
    have hC2 : CW f0 g0 f g2 := CW_fr hC (fun _ _ => rfl) (fun a ha => hg2 a (by omega))
    have hL2 : CL f0 g0 f g2 := by unfold CL at hL ⊢; rw [hg2 8 (by decide), hg2 9 (by decide), hg2 11 (by decide), hg2 12 (by decide)]; exact hL
    refine ap_go kc_119_49 ?_
    refine ai_iconst ?_; refine ap_istore_n rfl ?_; refine ap_nil ?_
    exact am_weak (by first | exact am_le_0 | (repeat (first | exact am_le_0 | refine am_le_n ?_ | refine am_le_s ?_))) (lp_119b hp hM hC2 hL2 (fun F G q1 q2 q3 => K F G q1 (fun a a1 a2 => (q2 a a1).trans (hg2 a a2)) ⟨CW_fr hC2 (fun a ha => q1 a (by omega)) (fun a ha => q2 a (by omega)), q3, by rw [q2 21 (by decide)]; exact hu⟩) (f0 31 5).toNat 0 _ f g2 rfl (by omega) (fun _ _ => rfl) (fun _ _ => rfl) (fun t t1 t2 => by omega))
  refine ap_go kc_119_0 ?_
  refine ai_iconst ?_; refine ap_istore_n rfl ?_; refine ap_nil ?_
  exact am_weak (by first | exact am_le_0 | (repeat (first | exact am_le_0 | refine am_le_n ?_ | refine am_le_s ?_))) (lp_119a hM hC J49 (f0 31 1).toNat 0 _ g rfl (by omega) (fun _ _ => rfl) (fun n n1 n2 => by omega))
