/-! COUNTING LOOPS of the class -/
def cZ (p : Nat → Bool) : Nat → Int
  | 0 => 0
  | n + 1 => cZ p n + (if p (n + 1) = true then 1 else 0)
theorem cZ_in (p : Nat → Bool) : ∀ n : Nat, 0 ≤ cZ p n ∧ cZ p n ≤ n
  | 0 => ⟨Int.le_refl 0, Int.le_refl 0⟩
  | n + 1 => by
    have h := cZ_in p n
    simp only [cZ]
    split <;> omega
theorem up_id {f : Nat → Nat → Int} {a k : Nat} : am_up f a k (f a k) = f := by
  funext b i
  simp only [am_up]
  split
  · rename_i h; rw [h.1, h.2]
  · rfl
theorem cZ_t {p : Nat → Bool} {n : Nat} (h : p (n + 1) = true) : cZ p (n + 1) = cZ p n + 1 := by simp [cZ, h]
theorem cZ_f {p : Nat → Bool} {n : Nat} (h : p (n + 1) = false) : cZ p (n + 1) = cZ p n := by simp [cZ, h]
theorem lp_91 {d L : Nat} {sw : Bool} {f g : Nat → Nat → Int} {Q : Option Value → am_H → Prop} (hc : 0 ≤ f 1 3 ∧ f 1 3 ≤ 60) (hr : ∀ n, lR (g 4 n)) (K : Q (some (.int (iZ (cZ (fun n => decide (0 < g 4 n)) (f 1 3).toNat)))) (53, sh_lt L, iH f, jH g, sh_rt sw)) : ∀ (m k : Nat) (c i : Int), (f 1 3).toNat = k + m → c = cZ (fun n => decide (0 < g 4 n)) k → i = k + 1 → am_Wp (am_call (d + 1)) 91 Q 4 [some (.ref 1), some (.int (iZ c)), some (.int (iZ i))] [] (53, sh_lt L, iH f, jH g, sh_rt sw) (0, 0) := by
  intro m
  induction m with
  | zero =>
    intro k c i hk ec ei
    have hb := cZ_in (fun n => decide (0 < g 4 n)) k
    refine ap_go kc_91_4 ?_
    refine ap_iload_n rfl ?_; refine ap_aload_n rfl ?_; refine ai_getI ow_91 rf_3_21 rfl rfl ?_
    refine ai_icgt rfl rfl (fun hc0 => ?_) (fun hc0 => ?_) ?_
    · refine ap_go kc_91_29 ?_
      refine ap_iload_n rfl ?_; refine ap_iret rfl ?_
      rw [hk] at K; rw [ec]; exact K
    · exfalso; omega
    all_goals (omega)
  | succ m ih =>
    intro k c i hk ec ei
    have hb := cZ_in (fun n => decide (0 < g 4 n)) k
    have ei' : i.toNat = k + 1 := by omega
    refine ap_go kc_91_4 ?_
    refine ap_iload_n rfl ?_; refine ap_aload_n rfl ?_; refine ai_getI ow_91 rf_3_21 rfl rfl ?_
    refine ai_icgt rfl rfl (fun hc0 => ?_) (fun hc0 => ?_) ?_
    · refine ap_go kc_91_29 ?_
      refine ap_iload_n rfl ?_; refine ap_iret rfl ?_
      exfalso; omega
    · refine ap_go kc_91_12 ?_
      refine ap_aload_n rfl ?_; refine ap_iload_n rfl ?_; refine ap_callv0 ow_91 rm_3_33 na_89 mc_89 ms_89 rfl rfl (Nat.le_of_ble_eq_true rfl) (Nat.le_of_ble_eq_true rfl) (Or.inr rfl) (Nat.zero_le _) (Nat.zero_le _) ?_; refine sp_89 ?_ ?_ ?_; dsimp only [Option.toList_some, Option.toList_none, List.cons_append, List.nil_append]
      refine ai_ifeq rfl rfl (fun hc1 => ?_) (fun hc1 => ?_) ?_
      · refine ap_go kc_91_23 ?_
        refine ai_iinc rfl rfl ?_; refine ap_goto rfl ?_
        exact ih (k + 1) _ _ (by omega) (by rw [ei'] at hc1; simp only [cZ, decide_eq_true_eq]; split at hc1 <;> split <;> omega) (by omega)
      · refine ap_go kc_91_20 ?_
        refine ai_iinc rfl rfl ?_; refine ap_nil ?_
        refine ap_go kc_91_23 ?_
        refine ai_iinc rfl rfl ?_; refine ap_goto rfl ?_
        exact ih (k + 1) _ _ (by omega) (by rw [ei'] at hc1; simp only [cZ, decide_eq_true_eq]; split at hc1 <;> split <;> omega) (by omega)
      all_goals (first | omega | exact hr _ | (split <;> omega))
    all_goals (first | omega | exact hr _ | (split <;> omega))
theorem sp_91 {d L : Nat} {sw : Bool} {f g : Nat → Nat → Int} {Q : Option Value → am_H → Prop} (K : Q (some (.int (iZ (cZ (fun n => decide (0 < g 4 n)) (f 1 3).toNat)))) (53, sh_lt L, iH f, jH g, sh_rt sw)) (hc : 0 ≤ f 1 3 ∧ f 1 3 ≤ 60) (hr : ∀ n, lR (g 4 n)) : am_call (d + 2) 91 [.ref 1] (53, sh_lt L, iH f, jH g, sh_rt sw) Q := by
  refine ap_call (by decide) (Nat.le_of_ble_eq_true rfl) rfl ?_
  refine ap_go kc_91_0 ?_
  refine ai_iconst ?_; refine ap_istore_n rfl ?_; refine ai_iconst ?_; refine ap_istore_n rfl ?_; refine ap_nil ?_
  exact lp_91 hc hr K (f 1 3).toNat 0 0 1 (by omega) rfl rfl
theorem lp_105 {d L : Nat} {sw : Bool} {f g : Nat → Nat → Int} {Q : Option Value → am_H → Prop} {p : Int} (hc : 0 ≤ f 5 8 ∧ f 5 8 ≤ 120) (hp : lR p) (hr : ∀ n, lR (g 12 n)) (K : Q (some (.int (iZ (cZ (fun n => decide (p ≤ g 12 n)) (f 5 8).toNat)))) (53, sh_lt L, iH f, jH g, sh_rt sw)) : ∀ (m k : Nat) (c i : Int), (f 5 8).toNat = k + m → c = cZ (fun n => decide (p ≤ g 12 n)) k → i = k + 1 → am_Wp (am_call d) 105 Q 5 [some (.ref 5), some (.long (lZ p)), none, some (.int (iZ c)), some (.int (iZ i))] [] (53, sh_lt L, iH f, jH g, sh_rt sw) (0, 0) := by
  intro m
  induction m with
  | zero =>
    intro k c i hk ec ei
    have hb := cZ_in (fun n => decide (p ≤ g 12 n)) k
    refine ap_go kc_105_5 ?_
    refine ap_iload rfl ?_; refine ap_aload_n rfl ?_; refine ai_getI ow_105 rf_4_37 rfl rfl ?_
    refine ai_icgt rfl rfl (fun hc0 => ?_) (fun hc0 => ?_) ?_
    · refine ap_go kc_105_35 ?_
      refine ap_iload_n rfl ?_; refine ap_iret rfl ?_
      rw [hk] at K; rw [ec]; exact K
    · exfalso; omega
    all_goals (omega)
  | succ m ih =>
    intro k c i hk ec ei
    have hb := cZ_in (fun n => decide (p ≤ g 12 n)) k
    have ei' : i.toNat = k + 1 := by omega
    refine ap_go kc_105_5 ?_
    refine ap_iload rfl ?_; refine ap_aload_n rfl ?_; refine ai_getI ow_105 rf_4_37 rfl rfl ?_
    refine ai_icgt rfl rfl (fun hc0 => ?_) (fun hc0 => ?_) ?_
    · refine ap_go kc_105_35 ?_
      refine ap_iload_n rfl ?_; refine ap_iret rfl ?_
      exfalso; omega
    · refine ap_go kc_105_14 ?_
      refine ap_lload_n rfl ?_; refine ap_aload_n rfl ?_; refine ap_getR ow_105 rf_4_31 rfl rfl rfl ?_; refine ap_iload rfl ?_; refine ai_laload (n := 121) rfl rfl (by decide) ?_ ?_
      refine ai_lcgt rfl rfl (fun hc1 => ?_) (fun hc1 => ?_) ?_
      · refine ap_go kc_105_29 ?_
        refine ai_iinc rfl rfl ?_; refine ap_goto rfl ?_
        exact ih (k + 1) _ _ (by omega) (by rw [ei'] at hc1; simp only [cZ, decide_eq_true_eq]; split <;> omega) (by omega)
      · refine ap_go kc_105_26 ?_
        refine ai_iinc rfl rfl ?_; refine ap_nil ?_
        refine ap_go kc_105_29 ?_
        refine ai_iinc rfl rfl ?_; refine ap_goto rfl ?_
        exact ih (k + 1) _ _ (by omega) (by rw [ei'] at hc1; simp only [cZ, decide_eq_true_eq]; split <;> omega) (by omega)
      all_goals (first | omega | exact ⟨hp, hr _⟩)
    all_goals (first | omega | exact ⟨hp, hr _⟩)
theorem sp_105 {d L : Nat} {sw : Bool} {f g : Nat → Nat → Int} {Q : Option Value → am_H → Prop} {p : Int} (K : Q (some (.int (iZ (cZ (fun n => decide (p ≤ g 12 n)) (f 5 8).toNat)))) (53, sh_lt L, iH f, jH g, sh_rt sw)) (hc : 0 ≤ f 5 8 ∧ f 5 8 ≤ 120) (hp : lR p) (hr : ∀ n, lR (g 12 n)) : am_call (d + 1) 105 [.ref 5, .long (lZ p)] (53, sh_lt L, iH f, jH g, sh_rt sw) Q := by
  refine ap_call (by decide) (Nat.le_of_ble_eq_true rfl) rfl ?_
  refine ap_go kc_105_0 ?_
  refine ai_iconst ?_; refine ap_istore_n rfl ?_; refine ai_iconst ?_; refine ap_istore rfl ?_; refine ap_nil ?_
  exact lp_105 hc hp hr K (f 5 8).toNat 0 0 1 (by omega) rfl rfl
