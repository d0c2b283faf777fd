/-! THE REFERENCE: prices, units, ways on -/
/-- what the reference's map is like -/
def MOk (f g : Nat → Nat → Int) : Prop := ((0 ≤ f 31 1 ∧ f 31 1 ≤ 60) ∧ (0 ≤ f 31 5 ∧ f 31 5 ≤ 120) ∧ (0 ≤ f 31 15 ∧ f 31 15 ≤ 60) ∧ (0 ≤ f 31 16 ∧ f 31 16 ≤ 60) ∧ (0 ≤ f 31 17 ∧ f 31 17 ≤ 2) ∧ (0 ≤ f 31 18 ∧ f 31 18 ≤ 20)) ∧
  ((∀ k, 0 ≤ f 35 k ∧ f 35 k ≤ 60) ∧ (∀ k, 0 ≤ f 36 k ∧ f 36 k ≤ 60) ∧ (∀ k, 0 ≤ f 39 k ∧ f 39 k ≤ 21) ∧ (∀ k, f 42 k = 0 ∨ f 42 k = 1)) ∧
  ((∀ k, 0 ≤ g 34 k ∧ g 34 k ≤ 1000000) ∧ (∀ k, 0 ≤ g 37 k ∧ g 37 k ≤ 100000) ∧ (∀ k, 0 ≤ g 38 k ∧ g 38 k ≤ 1000) ∧ (∀ k, 0 ≤ g 40 k ∧ g 40 k ≤ 1000) ∧ (∀ k, lR (g 41 k)) ∧ lR (g 31 14))
def spZ (g : Nat → Nat → Int) (s : Nat) : Int := if g 31 14 ≤ g 41 s then g 40 s else g 38 s
def prZ (f g : Nat → Nat → Int) (s : Nat) : Int := if spZ g s = 0 then -1 else if f 31 17 = 1 then g 37 s else g 37 s * 1000 / spZ g s
def unZ (f g : Nat → Nat → Int) (n : Nat) : Int := if ¬ f 31 17 = 2 ∨ g 34 n = 0 then -1 else if 1000 < g 34 n then 1 else 1000 / g 34 n
def toZ (f : Nat → Nat → Int) : Int := if f 31 17 = 2 then 20 else 0
def neZ (f : Nat → Nat → Int) (s : Nat) : Int := if f 31 17 = 2 then f 39 s else 0
def plZ (f : Nat → Nat → Int) (s : Nat) : Int := if s = 0 then f 31 15 else f 36 s
def goZ (f g : Nat → Nat → Int) (s : Nat) (e : Int) (t : Nat) : Bool := decide (f 35 t = plZ f s) && decide (0 ≤ prZ f g t) && decide (neZ f t ≤ e) && (decide (s = 0) || decide (f 42 (121 * s + t) = 0))
theorem spZ_in {f g : Nat → Nat → Int} (h : MOk f g) (s : Nat) : 0 ≤ spZ g s ∧ spZ g s ≤ 1000 := by
  have h1 := h.2.2.2.2.1 s
  have h2 := h.2.2.2.2.2.1 s
  unfold spZ
  split
  · exact h2
  · exact h1
theorem prZ_in {f g : Nat → Nat → Int} (h : MOk f g) (s : Nat) : -1 ≤ prZ f g s ∧ prZ f g s ≤ 100000000 := by
  have h1 := spZ_in h s
  have h2 := h.2.2.2.1 s
  unfold prZ
  split
  · omega
  · split
    · omega
    · have q1 := Int.ediv_nonneg (a := g 37 s * 1000) (b := spZ g s) (by omega) (by omega)
      have q2 := Int.ediv_le_self (a := g 37 s * 1000) (spZ g s) (by omega)
      omega
theorem unZ_in {f g : Nat → Nat → Int} (h : MOk f g) (n : Nat) : -1 ≤ unZ f g n ∧ unZ f g n ≤ 1000 := by
  have h2 := h.2.2.1 n
  unfold unZ
  split
  · omega
  · split
    · omega
    · have q1 := Int.ediv_nonneg (a := 1000) (b := g 34 n) (by omega) (by omega)
      have q2 := Int.ediv_le_self (a := 1000) (g 34 n) (by omega)
      omega
theorem neZ_in {f g : Nat → Nat → Int} (h : MOk f g) (s : Nat) : 0 ≤ neZ f s ∧ neZ f s ≤ 21 := by
  have := h.2.1.2.2.1 s
  unfold neZ
  split <;> omega
theorem toZ_in (f : Nat → Nat → Int) : 0 ≤ toZ f ∧ toZ f ≤ 20 := by
  unfold toZ
  split <;> omega
theorem plZ_in {f g : Nat → Nat → Int} (h : MOk f g) (s : Nat) : 0 ≤ plZ f s ∧ plZ f s ≤ 60 := by
  have h1 := h.1.2.2.1
  have h2 := h.2.1.2.1 s
  unfold plZ
  split <;> omega

theorem sp_33 {d L : Nat} {sw : Bool} {f g : Nat → Nat → Int} {Q : Option Value → am_H → Prop} {s : Int} (K : Q (some (.long (lZ (prZ f g s.toNat)))) (53, sh_lt L, iH f, jH g, sh_rt sw)) (hM : MOk f g) (hs : 0 ≤ s ∧ s < 121) : am_call (d + 1) 33 [.ref 31, .int (iZ s)] (53, sh_lt L, iH f, jH g, sh_rt sw) Q := by
  have m1 := hM.1
  have m2 := hM.2.2.2.1 s.toNat
  have m3 := hM.2.2.2.2.1 s.toNat
  have m4 := hM.2.2.2.2.2.1 s.toNat
  have m5 := hM.2.2.2.2.2.2.1 s.toNat
  have m6 := hM.2.2.2.2.2.2.2
  have j29 : ∀ v : Int, v = spZ g s.toNat → am_Wp (am_call d) 33 Q 29 [some (.ref 31), some (.int (iZ s)), none, none] [.long (lZ v)] (53, sh_lt L, iH f, jH g, sh_rt sw) (0, 0) := by
    intro v ev
    have hv := spZ_in hM s.toNat
    rw [← ev] at hv
    refine ap_go kc_33_29 ?_
    refine ap_lstore_n rfl ?_; refine ap_lload_n rfl ?_; refine ai_lconst 0 rfl ?_
    refine ai_lcne rfl rfl (fun hb0 => ?_) (fun hb0 => ?_) ?_
    · refine ap_go kc_33_40 ?_
      refine ap_aload_n rfl ?_; refine ai_getI ow_33 rf_8_45 rfl rfl ?_; refine ai_iconst ?_
      refine ai_icne rfl rfl (fun hb1 => ?_) (fun hb1 => ?_) ?_
      · refine ap_go kc_33_57 ?_
        refine ap_aload_n rfl ?_; refine ap_getR ow_33 rf_8_26 rfl rfl rfl ?_; refine ap_iload_n rfl ?_; refine ai_laload (n := 121) rfl rfl (by decide) ?_ ?_; refine ai_ldc2 (1000) ow_33 kl_8_101 rfl ?_; refine ai_lmul ?_; refine ap_lload_n rfl ?_; refine ai_ldiv ?_ ?_; refine ap_nil ?_
        · refine ap_go kc_33_69 ?_
          refine ap_lret rfl ?_
          refine sql K ?_; unfold prZ; rw [← ev]; first | rw [if_pos (by omega)] | (rw [if_neg (by omega)]; first | rw [if_pos (by omega)] | rw [if_neg (by omega)])
        all_goals (omega)
      · refine ap_go kc_33_48 ?_
        refine ap_aload_n rfl ?_; refine ap_getR ow_33 rf_8_26 rfl rfl rfl ?_; refine ap_iload_n rfl ?_; refine ai_laload (n := 121) rfl rfl (by decide) ?_ ?_; refine ap_goto rfl ?_
        · refine ap_go kc_33_69 ?_
          refine ap_lret rfl ?_
          refine sql K ?_; unfold prZ; rw [← ev]; first | rw [if_pos (by omega)] | (rw [if_neg (by omega)]; first | rw [if_pos (by omega)] | rw [if_neg (by omega)])
        all_goals (omega)
      all_goals (omega)
    · refine ap_go kc_33_36 ?_
      refine ai_ldc2 (-1) ow_33 kl_8_64 rfl ?_; refine ap_lret rfl ?_
      refine sql K ?_; unfold prZ; rw [← ev]; first | rw [if_pos (by omega)] | (rw [if_neg (by omega)]; first | rw [if_pos (by omega)] | rw [if_neg (by omega)])
    all_goals (omega)
  refine ap_call (by decide) (Nat.le_of_ble_eq_true rfl) rfl ?_
  refine ap_go kc_33_0 ?_
  refine ap_aload_n rfl ?_; refine ap_getR ow_33 rf_8_38 rfl rfl rfl ?_; refine ap_iload_n rfl ?_; refine ai_laload (n := 121) rfl rfl (by decide) ?_ ?_; refine ap_aload_n rfl ?_; refine ai_getJ ow_33 rf_8_110 rfl rfl ?_
  refine ai_lclt rfl rfl (fun hb0 => ?_) (fun hb0 => ?_) ?_
  · refine ap_go kc_33_23 ?_
    refine ap_aload_n rfl ?_; refine ap_getR ow_33 rf_8_29 rfl rfl rfl ?_; refine ap_iload_n rfl ?_; refine ai_laload (n := 121) rfl rfl (by decide) ?_ ?_; refine ap_nil ?_
    · exact am_weak (by first | exact am_le_0 | (repeat (first | exact am_le_0 | refine am_le_n ?_ | refine am_le_s ?_))) (j29 _ (by unfold spZ; first | rw [if_pos (by omega)] | rw [if_neg (by omega)]))
    all_goals (omega)
  · refine ap_go kc_33_14 ?_
    refine ap_aload_n rfl ?_; refine ap_getR ow_33 rf_8_35 rfl rfl rfl ?_; refine ap_iload_n rfl ?_; refine ai_laload (n := 121) rfl rfl (by decide) ?_ ?_; refine ap_goto rfl ?_
    · exact am_weak (by first | exact am_le_0 | (repeat (first | exact am_le_0 | refine am_le_n ?_ | refine am_le_s ?_))) (j29 _ (by unfold spZ; first | rw [if_pos (by omega)] | rw [if_neg (by omega)]))
    all_goals (omega)
  all_goals (omega)
theorem sp_34 {d L : Nat} {sw : Bool} {f g : Nat → Nat → Int} {Q : Option Value → am_H → Prop} {n : Int} (K : Q (some (.long (lZ (unZ f g n.toNat)))) (53, sh_lt L, iH f, jH g, sh_rt sw)) (hM : MOk f g) (hn : 0 ≤ n ∧ n < 61) : am_call (d + 1) 34 [.ref 31, .int (iZ n)] (53, sh_lt L, iH f, jH g, sh_rt sw) Q := by
  have m1 := hM.1
  have m2 := hM.2.2.1 n.toNat
  refine ap_call (by decide) (Nat.le_of_ble_eq_true rfl) rfl ?_
  refine ap_go kc_34_0 ?_
  refine ap_aload_n rfl ?_; refine ai_getI ow_34 rf_8_45 rfl rfl ?_; refine ai_iconst ?_
  refine ai_icne rfl rfl (fun hb0 => ?_) (fun hb0 => ?_) ?_
  · refine ap_go kc_34_19 ?_
    refine ai_ldc2 (-1) ow_34 kl_8_64 rfl ?_; refine ap_lret rfl ?_
    refine sql K ?_; unfold unZ; first | rw [if_pos (by omega)] | (rw [if_neg (by omega)]; first | rw [if_pos (by omega)] | rw [if_neg (by omega)])
  · refine ap_go kc_34_8 ?_
    refine ap_aload_n rfl ?_; refine ap_getR ow_34 rf_8_16 rfl rfl rfl ?_; refine ap_iload_n rfl ?_; refine ai_laload (n := 61) rfl rfl (by decide) ?_ ?_; refine ai_lconst 0 rfl ?_
    refine ai_lcne rfl rfl (fun hb1 => ?_) (fun hb1 => ?_) ?_
    · refine ap_go kc_34_23 ?_
      refine ap_aload_n rfl ?_; refine ap_getR ow_34 rf_8_16 rfl rfl rfl ?_; refine ap_iload_n rfl ?_; refine ai_laload (n := 61) rfl rfl (by decide) ?_ ?_; refine ai_ldc2 (1000) ow_34 kl_8_101 rfl ?_
      refine ai_lcle rfl rfl (fun hb2 => ?_) (fun hb2 => ?_) ?_
      · refine ap_go kc_34_40 ?_
        refine ai_ldc2 (1000) ow_34 kl_8_101 rfl ?_; refine ap_aload_n rfl ?_; refine ap_getR ow_34 rf_8_16 rfl rfl rfl ?_; refine ap_iload_n rfl ?_; refine ai_laload (n := 61) rfl rfl (by decide) ?_ ?_; refine ai_ldiv ?_ ?_; refine ap_nil ?_
        · refine ap_go kc_34_50 ?_
          refine ap_lret rfl ?_
          refine sql K ?_; unfold unZ; first | rw [if_pos (by omega)] | (rw [if_neg (by omega)]; first | rw [if_pos (by omega)] | rw [if_neg (by omega)])
        all_goals (omega)
      · refine ap_go kc_34_36 ?_
        refine ai_lconst 1 rfl ?_; refine ap_goto rfl ?_
        refine ap_go kc_34_50 ?_
        refine ap_lret rfl ?_
        refine sql K ?_; unfold unZ; first | rw [if_pos (by omega)] | (rw [if_neg (by omega)]; first | rw [if_pos (by omega)] | rw [if_neg (by omega)])
      all_goals (omega)
    · refine ap_go kc_34_19 ?_
      refine ai_ldc2 (-1) ow_34 kl_8_64 rfl ?_; refine ap_lret rfl ?_
      refine sql K ?_; unfold unZ; first | rw [if_pos (by omega)] | (rw [if_neg (by omega)]; first | rw [if_pos (by omega)] | rw [if_neg (by omega)])
    all_goals (omega)
  all_goals (omega)
theorem sp_35 {d L : Nat} {sw : Bool} {f g : Nat → Nat → Int} {Q : Option Value → am_H → Prop} (K : Q (some (.int (iZ (toZ f)))) (53, sh_lt L, iH f, jH g, sh_rt sw)) (hM : MOk f g) : am_call (d + 1) 35 [.ref 31] (53, sh_lt L, iH f, jH g, sh_rt sw) Q := by
  have m1 := hM.1
  refine ap_call (by decide) (Nat.le_of_ble_eq_true rfl) rfl ?_
  refine ap_go kc_35_0 ?_
  refine ap_aload_n rfl ?_; refine ai_getI ow_35 rf_8_45 rfl rfl ?_; refine ai_iconst ?_
  refine ai_icne rfl rfl (fun hb0 => ?_) (fun hb0 => ?_) ?_
  · refine ap_go kc_35_13 ?_
    refine ai_iconst ?_; refine ap_nil ?_
    refine ap_go kc_35_14 ?_
    refine ap_iret rfl ?_
    refine sq K ?_; unfold toZ; first | rw [if_pos (by omega)] | rw [if_neg (by omega)]
  · refine ap_go kc_35_8 ?_
    refine ai_bipush (by decide) ?_; refine ap_goto rfl ?_
    refine ap_go kc_35_14 ?_
    refine ap_iret rfl ?_
    refine sq K ?_; unfold toZ; first | rw [if_pos (by omega)] | rw [if_neg (by omega)]
  all_goals (omega)
theorem sp_36 {d L : Nat} {sw : Bool} {f g : Nat → Nat → Int} {Q : Option Value → am_H → Prop} {s : Int} (K : Q (some (.int (iZ (neZ f s.toNat)))) (53, sh_lt L, iH f, jH g, sh_rt sw)) (hM : MOk f g) (hs : 0 ≤ s ∧ s < 121) : am_call (d + 1) 36 [.ref 31, .int (iZ s)] (53, sh_lt L, iH f, jH g, sh_rt sw) Q := by
  have m1 := hM.1
  refine ap_call (by decide) (Nat.le_of_ble_eq_true rfl) rfl ?_
  refine ap_go kc_36_0 ?_
  refine ap_aload_n rfl ?_; refine ai_getI ow_36 rf_8_45 rfl rfl ?_; refine ai_iconst ?_
  refine ai_icne rfl rfl (fun hb0 => ?_) (fun hb0 => ?_) ?_
  · refine ap_go kc_36_17 ?_
    refine ai_iconst ?_; refine ap_nil ?_
    refine ap_go kc_36_18 ?_
    refine ap_iret rfl ?_
    refine sq K ?_; unfold neZ; first | rw [if_pos (by omega)] | rw [if_neg (by omega)]
  · refine ap_go kc_36_8 ?_
    refine ap_aload_n rfl ?_; refine ap_getR ow_36 rf_8_32 rfl rfl rfl ?_; refine ap_iload_n rfl ?_; refine ai_iaload (n := 121) rfl rfl (by decide) ?_ ?_; refine ap_goto rfl ?_
    · refine ap_go kc_36_18 ?_
      refine ap_iret rfl ?_
      refine sq K ?_; unfold neZ; first | rw [if_pos (by omega)] | rw [if_neg (by omega)]
    all_goals (omega)
  all_goals (omega)
theorem sp_37 {d L : Nat} {sw : Bool} {f g : Nat → Nat → Int} {Q : Option Value → am_H → Prop} {s : Int} (K : Q (some (.int (iZ (plZ f s.toNat)))) (53, sh_lt L, iH f, jH g, sh_rt sw)) (hs : 0 ≤ s ∧ s < 121) : am_call (d + 1) 37 [.ref 31, .int (iZ s)] (53, sh_lt L, iH f, jH g, sh_rt sw) Q := by
  refine ap_call (by decide) (Nat.le_of_ble_eq_true rfl) rfl ?_
  refine ap_go kc_37_0 ?_
  refine ap_iload_n rfl ?_
  refine ai_ifne rfl rfl (fun hb0 => ?_) (fun hb0 => ?_) ?_
  · refine ap_go kc_37_11 ?_
    refine ap_aload_n rfl ?_; refine ap_getR ow_37 rf_8_23 rfl rfl rfl ?_; refine ap_iload_n rfl ?_; refine ai_iaload (n := 121) rfl rfl (by decide) ?_ ?_; refine ap_nil ?_
    · refine ap_go kc_37_17 ?_
      refine ap_iret rfl ?_
      refine sq K ?_; unfold plZ; first | rw [if_pos (by omega)] | rw [if_neg (by omega)]
    all_goals (omega)
  · refine ap_go kc_37_4 ?_
    refine ap_aload_n rfl ?_; refine ai_getI ow_37 rf_8_113 rfl rfl ?_; refine ap_goto rfl ?_
    refine ap_go kc_37_17 ?_
    refine ap_iret rfl ?_
    refine sq K ?_; unfold plZ; first | rw [if_pos (by omega)] | rw [if_neg (by omega)]
  all_goals (omega)
theorem sp_38 {d L : Nat} {sw : Bool} {f g : Nat → Nat → Int} {Q : Option Value → am_H → Prop} {s e t : Int} (K : Q (some (.int (iZ (if goZ f g s.toNat e t.toNat = true then 1 else 0)))) (53, sh_lt L, iH f, jH g, sh_rt sw)) (hM : MOk f g) (hs : 0 ≤ s ∧ s < 121) (he : 0 ≤ e ∧ e ≤ 20) (ht : 0 ≤ t ∧ t < 121) : am_call (d + 2) 38 [.ref 31, .int (iZ s), .int (iZ e), .int (iZ t)] (53, sh_lt L, iH f, jH g, sh_rt sw) Q := by
  have p1 := prZ_in hM t.toNat
  have p2 := neZ_in hM t.toNat
  have p3 := plZ_in hM s.toNat
  have p4 := hM.2.1.1 t.toNat
  have p5 := hM.2.1.2.2.2 (121 * s.toNat + t.toNat)
  have p6 : (121 * s + t).toNat = 121 * s.toNat + t.toNat := by omega
  refine ap_call (by decide) (Nat.le_of_ble_eq_true rfl) rfl ?_
  refine ap_go kc_38_0 ?_
  refine ap_aload_n rfl ?_; refine ap_getR ow_38 rf_8_19 rfl rfl rfl ?_; refine ap_iload_n rfl ?_; refine ai_iaload (n := 121) rfl rfl (by decide) ?_ ?_; refine ap_aload_n rfl ?_; refine ap_iload_n rfl ?_; refine ap_callv0 ow_38 rm_8_116 na_37 mc_37 ms_37 rfl rfl (Nat.le_of_ble_eq_true rfl) (Nat.le_of_ble_eq_true rfl) (Or.inr rfl) (Nat.zero_le _) (Nat.zero_le _) ?_; refine sp_37 ?_ ?_; dsimp only [Option.toList_some, Option.toList_none, List.cons_append, List.nil_append]
  refine ai_icne rfl rfl (fun hb0 => ?_) (fun hb0 => ?_) ?_
  · refine ap_go kc_38_55 ?_
    refine ai_iconst ?_; refine ap_nil ?_
    refine ap_go kc_38_56 ?_
    refine ai_zret rfl ?_ ?_
    · (try rw [p6] at hb4); refine sq K ?_; unfold goZ; simp only [Bool.or_eq_true, Bool.and_eq_true, decide_eq_true_eq]; split <;> omega
    all_goals (first | omega | (rw [p6]; omega))
  · refine ap_go kc_38_14 ?_
    refine ap_aload_n rfl ?_; refine ap_iload_n rfl ?_; refine ap_callv0 ow_38 rm_8_120 na_33 mc_33 ms_33 rfl rfl (Nat.le_of_ble_eq_true rfl) (Nat.le_of_ble_eq_true rfl) (Or.inr rfl) (Nat.zero_le _) (Nat.zero_le _) ?_; refine sp_33 ?_ hM ?_; dsimp only [Option.toList_some, Option.toList_none, List.cons_append, List.nil_append]; refine ai_lconst 0 rfl ?_
    refine ai_lclt rfl rfl (fun hb1 => ?_) (fun hb1 => ?_) ?_
    · refine ap_go kc_38_55 ?_
      refine ai_iconst ?_; refine ap_nil ?_
      refine ap_go kc_38_56 ?_
      refine ai_zret rfl ?_ ?_
      · (try rw [p6] at hb4); refine sq K ?_; unfold goZ; simp only [Bool.or_eq_true, Bool.and_eq_true, decide_eq_true_eq]; split <;> omega
      all_goals (first | omega | (rw [p6]; omega))
    · refine ap_go kc_38_24 ?_
      refine ap_iload_n rfl ?_; refine ap_aload_n rfl ?_; refine ap_iload_n rfl ?_; refine ap_callv0 ow_38 rm_8_124 na_36 mc_36 ms_36 rfl rfl (Nat.le_of_ble_eq_true rfl) (Nat.le_of_ble_eq_true rfl) (Or.inr rfl) (Nat.zero_le _) (Nat.zero_le _) ?_; refine sp_36 ?_ hM ?_; dsimp only [Option.toList_some, Option.toList_none, List.cons_append, List.nil_append]
      refine ai_iclt rfl rfl (fun hb2 => ?_) (fun hb2 => ?_) ?_
      · refine ap_go kc_38_55 ?_
        refine ai_iconst ?_; refine ap_nil ?_
        refine ap_go kc_38_56 ?_
        refine ai_zret rfl ?_ ?_
        · (try rw [p6] at hb4); refine sq K ?_; unfold goZ; simp only [Bool.or_eq_true, Bool.and_eq_true, decide_eq_true_eq]; split <;> omega
        all_goals (first | omega | (rw [p6]; omega))
      · refine ap_go kc_38_33 ?_
        refine ap_iload_n rfl ?_
        refine ai_ifeq rfl rfl (fun hb3 => ?_) (fun hb3 => ?_) ?_
        · refine ap_go kc_38_51 ?_
          refine ai_iconst ?_; refine ap_goto rfl ?_
          refine ap_go kc_38_56 ?_
          refine ai_zret rfl ?_ ?_
          · (try rw [p6] at hb4); refine sq K ?_; unfold goZ; simp only [Bool.or_eq_true, Bool.and_eq_true, decide_eq_true_eq]; split <;> omega
          all_goals (first | omega | (rw [p6]; omega))
        · refine ap_go kc_38_37 ?_
          refine ap_aload_n rfl ?_; refine ap_getR ow_38 rf_8_41 rfl rfl rfl ?_; refine ai_bipush (by decide) ?_; refine ap_iload_n rfl ?_; refine ai_imul ?_; refine ap_iload_n rfl ?_; refine ai_iadd ?_; refine ai_baload (n := 14641) rfl rfl (by decide) ?_ ?_
          refine ai_ifne rfl rfl (fun hb4 => ?_) (fun hb4 => ?_) ?_
          · refine ap_go kc_38_55 ?_
            refine ai_iconst ?_; refine ap_nil ?_
            refine ap_go kc_38_56 ?_
            refine ai_zret rfl ?_ ?_
            · (try rw [p6] at hb4); refine sq K ?_; unfold goZ; simp only [Bool.or_eq_true, Bool.and_eq_true, decide_eq_true_eq]; split <;> omega
            all_goals (first | omega | (rw [p6]; omega))
          · refine ap_go kc_38_51 ?_
            refine ai_iconst ?_; refine ap_goto rfl ?_
            refine ap_go kc_38_56 ?_
            refine ai_zret rfl ?_ ?_
            · (try rw [p6] at hb4); refine sq K ?_; unfold goZ; simp only [Bool.or_eq_true, Bool.and_eq_true, decide_eq_true_eq]; split <;> omega
            all_goals (first | omega | (rw [p6]; omega))
          all_goals (first | omega | (rw [p6]; omega))
        all_goals (first | omega | (rw [p6]; omega))
      all_goals (first | omega | (rw [p6]; omega))
    all_goals (first | omega | (rw [p6]; omega))
  all_goals (first | omega | (rw [p6]; omega))
