/-! BITS, NAMES, PARTS, GEOMETRY of the class -/
abbrev aZ (x : Int) : Int := if 0 ≤ x then x else -x
def octZ (x y : Int) : Int := if 0 < x ∧ 0 ≤ y then (if y < x then 0 else 1) else if x ≤ 0 ∧ 0 < y then (if -x < y then 2 else 3) else if x < 0 then (if -y < -x then 4 else 5) else if y < 0 then (if x < -y then 6 else 7) else -1
def advZ (c d : Int) : Int := if 2 * (if 0 < c then c else -c) ≤ d then 0 else if 2 * (if 0 < c then c else -c) ≤ -d then 3 else if 0 < c then 2 else 1
def sqrZ (px py vx vy : Int) : Int := if px * vx + py * vy ≤ 0 ∨ vx * vx + vy * vy ≤ 0 then px * px + py * py else if vx * vx + vy * vy ≤ px * vx + py * vy then (px - vx) * (px - vx) + (py - vy) * (py - vy) else (px * vy - py * vx) * (px * vy - py * vx) / (vx * vx + vy * vy)

theorem sp_102 {d L : Nat} {sw : Bool} {f g : Nat → Nat → Int} {Q : Option Value → am_H → Prop} {s t : Int} (K : Q (some (.int (iZ (if w_bit (g 13 (2 * s + t / 64).toNat) (t % 64).toNat = true then 1 else 0)))) (53, sh_lt L, iH f, jH g, sh_rt sw)) (hs : 0 ≤ s ∧ s < 121) (ht : 0 ≤ t ∧ t < 121) : am_call (d + 1) 102 [.ref 5, .int (iZ s), .int (iZ t)] (53, sh_lt L, iH f, jH g, sh_rt sw) Q := by
  refine ap_call (by decide) (Nat.le_of_ble_eq_true rfl) rfl ?_
  have hb := w_bit_t (x := g 13 (s * 2 + t / 64).toNat) (s := (t % 64).toNat) (by omega)
  rw [show (((t % 64).toNat : Nat) : Int) = t % 64 by omega] at hb
  refine ap_go kc_102_0 ?_
  refine ap_aload_n rfl ?_; refine ap_getR ow_102 rf_4_34 rfl rfl rfl ?_; refine ap_iload_n rfl ?_; refine ai_iconst ?_; refine ai_imul ?_; refine ap_iload_n rfl ?_; refine ai_bipush (by decide) ?_; refine ai_idiv ?_ ?_; refine ai_iadd ?_; refine ai_laload (n := 242) rfl rfl (by decide) ?_ ?_; refine ap_iload_n rfl ?_; refine ai_bipush (by decide) ?_; refine ai_irem ?_ ?_; refine ai_lushr ?_; refine ai_lconst 1 rfl ?_; refine ai_land ?_; refine ai_lconst 0 rfl ?_
  refine ai_lceq rfl rfl (fun hc0 => ?_) (fun hc0 => ?_) ?_
  · refine ap_go kc_102_29 ?_
    refine ai_iconst ?_; refine ap_nil ?_
    refine ap_go kc_102_30 ?_
    refine ai_zret rfl ?_ ?_
    · rw [show (2 * s + t / 64) = s * 2 + t / 64 by omega] at K; first | (rw [if_pos (by cases hq : w_bit (g 13 (s * 2 + t / 64).toNat) (t % 64).toNat with | true => rfl | false => exact absurd (hb.mpr hq) hc0)] at K; exact K) | (rw [if_neg (by rw [hb.mp hc0]; decide)] at K; exact K)
    all_goals (first | omega | exact ⟨lR_T _, by decide, by decide⟩)
  · refine ap_go kc_102_25 ?_
    refine ai_iconst ?_; refine ap_goto rfl ?_
    refine ap_go kc_102_30 ?_
    refine ai_zret rfl ?_ ?_
    · rw [show (2 * s + t / 64) = s * 2 + t / 64 by omega] at K; first | (rw [if_pos (by cases hq : w_bit (g 13 (s * 2 + t / 64).toNat) (t % 64).toNat with | true => rfl | false => exact absurd (hb.mpr hq) hc0)] at K; exact K) | (rw [if_neg (by rw [hb.mp hc0]; decide)] at K; exact K)
    all_goals (first | omega | exact ⟨lR_T _, by decide, by decide⟩)
  all_goals (first | omega | exact ⟨lR_T _, by decide, by decide⟩)

theorem sp_103 {d L : Nat} {sw : Bool} {f g : Nat → Nat → Int} {Q : Option Value → am_H → Prop} {s t : Int} (K : Q none (53, sh_lt L, iH f, jH (am_up g 13 (s * 2 + t / 64).toNat (w_xor (g 13 (s * 2 + t / 64).toNat) (w_shl 1 (t % 64)))), sh_rt sw)) (hs : 0 ≤ s ∧ s < 121) (ht : 0 ≤ t ∧ t < 121) : am_call (d + 1) 103 [.ref 5, .int (iZ s), .int (iZ t)] (53, sh_lt L, iH f, jH g, sh_rt sw) Q := by
  refine ap_call (by decide) (Nat.le_of_ble_eq_true rfl) rfl ?_
  refine ap_go kc_103_0 ?_
  refine ap_aload_n rfl ?_; refine ap_getR ow_103 rf_4_34 rfl rfl rfl ?_; refine ap_iload_n rfl ?_; refine ai_iconst ?_; refine ai_imul ?_; refine ap_iload_n rfl ?_; refine ai_bipush (by decide) ?_; refine ai_idiv ?_ ?_; refine ai_iadd ?_; refine ap_dup2 rfl rfl ?_; refine ai_laload (n := 242) rfl rfl (by decide) ?_ ?_; refine ai_lconst 1 rfl ?_; refine ap_iload_n rfl ?_; refine ai_bipush (by decide) ?_; refine ai_irem ?_ ?_; refine ai_lshl ?_; refine ai_lxor ?_; refine ai_lastore (n := 242) rfl rfl (by decide) ?_ ?_; refine ap_vret rfl ?_
  · exact K
  all_goals (omega)

theorem sp_115_27 {d L : Nat} {sw : Bool} {f g : Nat → Nat → Int} {Q : Option Value → am_H → Prop} {i : Int} (K1 : (i < 0 ∨ f 27 1 ≤ i ∨ f 28 i.toNat < 0) → Q (some (.int (iZ 0))) (53, sh_lt L, iH f, jH g, sh_rt sw)) (K2 : ¬ (i < 0 ∨ f 27 1 ≤ i ∨ f 28 i.toNat < 0) → Q (some (.int (iZ 1))) (53, sh_lt L, iH (am_up f 28 i.toNat (-(f 28 i.toNat))), jH g, sh_rt sw)) (hi : iR i) (hs : 0 ≤ f 27 1 ∧ f 27 1 ≤ 2400) (hv : ∀ k, iR (f 28 k)) : am_call (d + 1) 115 [.ref 27, .int (iZ i)] (53, sh_lt L, iH f, jH g, sh_rt sw) Q := by
  refine ap_call (by decide) (Nat.le_of_ble_eq_true rfl) rfl ?_
  refine ap_go kc_115_0 ?_
  refine ap_iload_n rfl ?_
  refine ai_iflt rfl rfl (fun hc0 => ?_) (fun hc0 => ?_) ?_
  · refine ap_go kc_115_21 ?_
    refine ai_iconst ?_; refine ai_zret rfl ?_ ?_
    · first | exact K1 (by omega) | exact K2 (by omega)
    all_goals (first | omega | exact hv _)
  · refine ap_go kc_115_4 ?_
    refine ap_iload_n rfl ?_; refine ap_aload_n rfl ?_; refine ai_getI ow_115 rf_5_15 rfl rfl ?_
    refine ai_icge rfl rfl (fun hc1 => ?_) (fun hc1 => ?_) ?_
    · refine ap_go kc_115_21 ?_
      refine ai_iconst ?_; refine ai_zret rfl ?_ ?_
      · first | exact K1 (by omega) | exact K2 (by omega)
      all_goals (first | omega | exact hv _)
    · refine ap_go kc_115_12 ?_
      refine ap_aload_n rfl ?_; refine ap_getR ow_115 rf_5_9 rfl rfl rfl ?_; refine ap_iload_n rfl ?_; refine ai_iaload (n := 2400) rfl rfl (by decide) ?_ ?_
      refine ai_ifge rfl rfl (fun hc2 => ?_) (fun hc2 => ?_) ?_
      · refine ap_go kc_115_23 ?_
        refine ap_aload_n rfl ?_; refine ap_getR ow_115 rf_5_9 rfl rfl rfl ?_; refine ap_iload_n rfl ?_; refine ap_aload_n rfl ?_; refine ap_getR ow_115 rf_5_9 rfl rfl rfl ?_; refine ap_iload_n rfl ?_; refine ai_iaload (n := 2400) rfl rfl (by decide) ?_ ?_; refine ai_ineg ?_; refine ai_iastore (n := 2400) rfl rfl (by decide) ?_ ?_; refine ai_iconst ?_; refine ai_zret rfl ?_ ?_
        · first | exact K1 (by omega) | exact K2 (by omega)
        all_goals (first | omega | exact hv _)
      · refine ap_go kc_115_21 ?_
        refine ai_iconst ?_; refine ai_zret rfl ?_ ?_
        · first | exact K1 (by omega) | exact K2 (by omega)
        all_goals (first | omega | exact hv _)
      all_goals (first | omega | exact hv _)
    all_goals (first | omega | exact hv _)
  all_goals (first | omega | exact hv _)

theorem lp_116_27 {d L : Nat} {sw : Bool} {f g : Nat → Nat → Int} {Q : Option Value → am_H → Prop} (K : ∀ x : Int, (x = 1 ∧ (f 27 1 = f 29 1 ∧ ∀ i : Nat, (i : Int) < f 27 1 → aZ (f 28 i) = aZ (f 30 i)) ∨ x = 0 ∧ ¬ (f 27 1 = f 29 1 ∧ ∀ i : Nat, (i : Int) < f 27 1 → aZ (f 28 i) = aZ (f 30 i))) → Q (some (.int (iZ x))) (53, sh_lt L, iH f, jH g, sh_rt sw)) (h1 : 0 ≤ f 27 1 ∧ f 27 1 ≤ 2400) (h2 : f 27 1 = f 29 1) (hv : ∀ k, iR (f 28 k)) (hw : ∀ k, iR (f 30 k)) (hm : ∀ k, f 28 k ≠ -2147483648) (hm2 : ∀ k, f 30 k ≠ -2147483648) : ∀ (m k : Nat), (f 27 1).toNat = k + m → (∀ i : Nat, i < k → aZ (f 28 i) = aZ (f 30 i)) → ∀ i : Int, i = k → am_Wp (am_call (d + 1)) 116 Q 15 [some (.ref 27), some (.ref 29), some (.int (iZ i))] [] (53, sh_lt L, iH f, jH g, sh_rt sw) (0, 0) := by
  intro m
  induction m with
  | zero =>
    intro k hk hall i ei
    refine ap_go kc_116_15 ?_
    refine ap_iload_n rfl ?_; refine ap_aload_n rfl ?_; refine ai_getI ow_116 rf_5_15 rfl rfl ?_
    refine ai_icge rfl rfl (fun hc0 => ?_) (fun hc0 => ?_) ?_
    · refine ap_go kc_116_44 ?_
      refine ai_iconst ?_; refine ai_zret rfl ?_ ?_
      · exact K 1 (Or.inl ⟨rfl, h2, fun z hz => hall z (by omega)⟩)
      all_goals (omega)
    · exfalso; omega
    all_goals (omega)
  | succ m ih =>
    intro k hk hall i ei
    have e1 : i.toNat = k := by omega
    have q1 := hv k
    have q2 := hw k
    have q3 := hm k
    have q4 := hm2 k
    rw [← e1] at q1 q2 q3 q4
    refine ap_go kc_116_15 ?_
    refine ap_iload_n rfl ?_; refine ap_aload_n rfl ?_; refine ai_getI ow_116 rf_5_15 rfl rfl ?_
    refine ai_icge rfl rfl (fun hc0 => ?_) (fun hc0 => ?_) ?_
    · exfalso; omega
    · refine ap_go kc_116_23 ?_
      refine ap_aload_n rfl ?_; refine ap_iload_n rfl ?_; refine ap_callv0 ow_116 rm_5_33 na_111 mc_111 ms_111 rfl rfl (Nat.le_of_ble_eq_true rfl) (Nat.le_of_ble_eq_true rfl) (Or.inr rfl) (Nat.zero_le _) (Nat.zero_le _) ?_; (first | refine sp_111_27 ?_ ?_ ?_ ?_ | refine sp_111_29 ?_ ?_ ?_ ?_); dsimp only [Option.toList_some, Option.toList_none, List.cons_append, List.nil_append]; refine ap_aload_n rfl ?_; refine ap_iload_n rfl ?_; refine ap_callv0 ow_116 rm_5_33 na_111 mc_111 ms_111 rfl rfl (Nat.le_of_ble_eq_true rfl) (Nat.le_of_ble_eq_true rfl) (Or.inr rfl) (Nat.zero_le _) (Nat.zero_le _) ?_; (first | refine sp_111_27 ?_ ?_ ?_ ?_ | refine sp_111_29 ?_ ?_ ?_ ?_); dsimp only [Option.toList_some, Option.toList_none, List.cons_append, List.nil_append]
      refine ai_iceq rfl rfl (fun hc1 => ?_) (fun hc1 => ?_) ?_
      · refine ap_go kc_116_38 ?_
        refine ai_iinc rfl rfl ?_; refine ap_goto rfl ?_
        refine ih (k + 1) (by omega) (fun z hz => ?_) _ (by omega); rw [if_pos (show 0 ≤ i ∧ i < f 27 1 by omega), if_pos (show 0 ≤ i ∧ i < f 29 1 by omega), e1] at hc1; rcases Nat.lt_or_ge z k with hzk | hzk; exact hall z hzk; rw [show z = k by omega]; exact hc1
      · refine ap_go kc_116_36 ?_
        refine ai_iconst ?_; refine ai_zret rfl ?_ ?_
        · refine K 0 (Or.inr ⟨rfl, fun z => ?_⟩); have := z.2 k (by omega); rw [if_pos (show 0 ≤ i ∧ i < f 27 1 by omega), if_pos (show 0 ≤ i ∧ i < f 29 1 by omega), e1] at hc1; exact hc1 this
        all_goals (first | omega | exact hv | exact hw | (split <;> split <;> omega))
      all_goals (first | omega | exact hv | exact hw | (split <;> split <;> omega))
    all_goals (first | omega | exact hv | exact hw | (split <;> split <;> omega))
theorem sp_116_27 {d L : Nat} {sw : Bool} {f g : Nat → Nat → Int} {Q : Option Value → am_H → Prop} (K : ∀ x : Int, (x = 1 ∧ (f 27 1 = f 29 1 ∧ ∀ i : Nat, (i : Int) < f 27 1 → aZ (f 28 i) = aZ (f 30 i)) ∨ x = 0 ∧ ¬ (f 27 1 = f 29 1 ∧ ∀ i : Nat, (i : Int) < f 27 1 → aZ (f 28 i) = aZ (f 30 i))) → Q (some (.int (iZ x))) (53, sh_lt L, iH f, jH g, sh_rt sw)) (h1 : 0 ≤ f 27 1 ∧ f 27 1 ≤ 2400) (h2 : 0 ≤ f 29 1 ∧ f 29 1 ≤ 2400) (hv : ∀ k, iR (f 28 k)) (hw : ∀ k, iR (f 30 k)) (hm : ∀ k, f 28 k ≠ -2147483648) (hm2 : ∀ k, f 30 k ≠ -2147483648) : am_call (d + 2) 116 [.ref 27, .ref 29] (53, sh_lt L, iH f, jH g, sh_rt sw) Q := by
  refine ap_call (by decide) (Nat.le_of_ble_eq_true rfl) rfl ?_
  refine ap_go kc_116_0 ?_
  refine ap_aload_n rfl ?_; refine ai_getI ow_116 rf_5_15 rfl rfl ?_; refine ap_aload_n rfl ?_; refine ai_getI ow_116 rf_5_15 rfl rfl ?_
  refine ai_iceq rfl rfl (fun hc0 => ?_) (fun hc0 => ?_) ?_
  · refine ap_go kc_116_13 ?_
    refine ai_iconst ?_; refine ap_istore_n rfl ?_; refine ap_nil ?_
    exact lp_116_27 K h1 (by omega) hv hw hm hm2 (f 27 1).toNat 0 (by omega) (fun _ h => absurd h (by omega)) 0 rfl
  · refine ap_go kc_116_11 ?_
    refine ai_iconst ?_; refine ai_zret rfl ?_ ?_
    · exact K 0 (Or.inr ⟨rfl, fun z => by omega⟩)
    all_goals (omega)
  all_goals (omega)

theorem sp_115_29 {d L : Nat} {sw : Bool} {f g : Nat → Nat → Int} {Q : Option Value → am_H → Prop} {i : Int} (K1 : (i < 0 ∨ f 29 1 ≤ i ∨ f 30 i.toNat < 0) → Q (some (.int (iZ 0))) (53, sh_lt L, iH f, jH g, sh_rt sw)) (K2 : ¬ (i < 0 ∨ f 29 1 ≤ i ∨ f 30 i.toNat < 0) → Q (some (.int (iZ 1))) (53, sh_lt L, iH (am_up f 30 i.toNat (-(f 30 i.toNat))), jH g, sh_rt sw)) (hi : iR i) (hs : 0 ≤ f 29 1 ∧ f 29 1 ≤ 2400) (hv : ∀ k, iR (f 30 k)) : am_call (d + 1) 115 [.ref 29, .int (iZ i)] (53, sh_lt L, iH f, jH g, sh_rt sw) Q := by
  refine ap_call (by decide) (Nat.le_of_ble_eq_true rfl) rfl ?_
  refine ap_go kc_115_0 ?_
  refine ap_iload_n rfl ?_
  refine ai_iflt rfl rfl (fun hc0 => ?_) (fun hc0 => ?_) ?_
  · refine ap_go kc_115_21 ?_
    refine ai_iconst ?_; refine ai_zret rfl ?_ ?_
    · first | exact K1 (by omega) | exact K2 (by omega)
    all_goals (first | omega | exact hv _)
  · refine ap_go kc_115_4 ?_
    refine ap_iload_n rfl ?_; refine ap_aload_n rfl ?_; refine ai_getI ow_115 rf_5_15 rfl rfl ?_
    refine ai_icge rfl rfl (fun hc1 => ?_) (fun hc1 => ?_) ?_
    · refine ap_go kc_115_21 ?_
      refine ai_iconst ?_; refine ai_zret rfl ?_ ?_
      · first | exact K1 (by omega) | exact K2 (by omega)
      all_goals (first | omega | exact hv _)
    · refine ap_go kc_115_12 ?_
      refine ap_aload_n rfl ?_; refine ap_getR ow_115 rf_5_9 rfl rfl rfl ?_; refine ap_iload_n rfl ?_; refine ai_iaload (n := 2400) rfl rfl (by decide) ?_ ?_
      refine ai_ifge rfl rfl (fun hc2 => ?_) (fun hc2 => ?_) ?_
      · refine ap_go kc_115_23 ?_
        refine ap_aload_n rfl ?_; refine ap_getR ow_115 rf_5_9 rfl rfl rfl ?_; refine ap_iload_n rfl ?_; refine ap_aload_n rfl ?_; refine ap_getR ow_115 rf_5_9 rfl rfl rfl ?_; refine ap_iload_n rfl ?_; refine ai_iaload (n := 2400) rfl rfl (by decide) ?_ ?_; refine ai_ineg ?_; refine ai_iastore (n := 2400) rfl rfl (by decide) ?_ ?_; refine ai_iconst ?_; refine ai_zret rfl ?_ ?_
        · first | exact K1 (by omega) | exact K2 (by omega)
        all_goals (first | omega | exact hv _)
      · refine ap_go kc_115_21 ?_
        refine ai_iconst ?_; refine ai_zret rfl ?_ ?_
        · first | exact K1 (by omega) | exact K2 (by omega)
        all_goals (first | omega | exact hv _)
      all_goals (first | omega | exact hv _)
    all_goals (first | omega | exact hv _)
  all_goals (first | omega | exact hv _)

theorem lp_116_29 {d L : Nat} {sw : Bool} {f g : Nat → Nat → Int} {Q : Option Value → am_H → Prop} (K : ∀ x : Int, (x = 1 ∧ (f 29 1 = f 27 1 ∧ ∀ i : Nat, (i : Int) < f 29 1 → aZ (f 30 i) = aZ (f 28 i)) ∨ x = 0 ∧ ¬ (f 29 1 = f 27 1 ∧ ∀ i : Nat, (i : Int) < f 29 1 → aZ (f 30 i) = aZ (f 28 i))) → Q (some (.int (iZ x))) (53, sh_lt L, iH f, jH g, sh_rt sw)) (h1 : 0 ≤ f 29 1 ∧ f 29 1 ≤ 2400) (h2 : f 29 1 = f 27 1) (hv : ∀ k, iR (f 30 k)) (hw : ∀ k, iR (f 28 k)) (hm : ∀ k, f 30 k ≠ -2147483648) (hm2 : ∀ k, f 28 k ≠ -2147483648) : ∀ (m k : Nat), (f 29 1).toNat = k + m → (∀ i : Nat, i < k → aZ (f 30 i) = aZ (f 28 i)) → ∀ i : Int, i = k → am_Wp (am_call (d + 1)) 116 Q 15 [some (.ref 29), some (.ref 27), some (.int (iZ i))] [] (53, sh_lt L, iH f, jH g, sh_rt sw) (0, 0) := by
  intro m
  induction m with
  | zero =>
    intro k hk hall i ei
    refine ap_go kc_116_15 ?_
    refine ap_iload_n rfl ?_; refine ap_aload_n rfl ?_; refine ai_getI ow_116 rf_5_15 rfl rfl ?_
    refine ai_icge rfl rfl (fun hc0 => ?_) (fun hc0 => ?_) ?_
    · refine ap_go kc_116_44 ?_
      refine ai_iconst ?_; refine ai_zret rfl ?_ ?_
      · exact K 1 (Or.inl ⟨rfl, h2, fun z hz => hall z (by omega)⟩)
      all_goals (omega)
    · exfalso; omega
    all_goals (omega)
  | succ m ih =>
    intro k hk hall i ei
    have e1 : i.toNat = k := by omega
    have q1 := hv k
    have q2 := hw k
    have q3 := hm k
    have q4 := hm2 k
    rw [← e1] at q1 q2 q3 q4
    refine ap_go kc_116_15 ?_
    refine ap_iload_n rfl ?_; refine ap_aload_n rfl ?_; refine ai_getI ow_116 rf_5_15 rfl rfl ?_
    refine ai_icge rfl rfl (fun hc0 => ?_) (fun hc0 => ?_) ?_
    · exfalso; omega
    · refine ap_go kc_116_23 ?_
      refine ap_aload_n rfl ?_; refine ap_iload_n rfl ?_; refine ap_callv0 ow_116 rm_5_33 na_111 mc_111 ms_111 rfl rfl (Nat.le_of_ble_eq_true rfl) (Nat.le_of_ble_eq_true rfl) (Or.inr rfl) (Nat.zero_le _) (Nat.zero_le _) ?_; (first | refine sp_111_29 ?_ ?_ ?_ ?_ | refine sp_111_27 ?_ ?_ ?_ ?_); dsimp only [Option.toList_some, Option.toList_none, List.cons_append, List.nil_append]; refine ap_aload_n rfl ?_; refine ap_iload_n rfl ?_; refine ap_callv0 ow_116 rm_5_33 na_111 mc_111 ms_111 rfl rfl (Nat.le_of_ble_eq_true rfl) (Nat.le_of_ble_eq_true rfl) (Or.inr rfl) (Nat.zero_le _) (Nat.zero_le _) ?_; (first | refine sp_111_29 ?_ ?_ ?_ ?_ | refine sp_111_27 ?_ ?_ ?_ ?_); dsimp only [Option.toList_some, Option.toList_none, List.cons_append, List.nil_append]
      refine ai_iceq rfl rfl (fun hc1 => ?_) (fun hc1 => ?_) ?_
      · refine ap_go kc_116_38 ?_
        refine ai_iinc rfl rfl ?_; refine ap_goto rfl ?_
        refine ih (k + 1) (by omega) (fun z hz => ?_) _ (by omega); rw [if_pos (show 0 ≤ i ∧ i < f 29 1 by omega), if_pos (show 0 ≤ i ∧ i < f 27 1 by omega), e1] at hc1; rcases Nat.lt_or_ge z k with hzk | hzk; exact hall z hzk; rw [show z = k by omega]; exact hc1
      · refine ap_go kc_116_36 ?_
        refine ai_iconst ?_; refine ai_zret rfl ?_ ?_
        · refine K 0 (Or.inr ⟨rfl, fun z => ?_⟩); have := z.2 k (by omega); rw [if_pos (show 0 ≤ i ∧ i < f 29 1 by omega), if_pos (show 0 ≤ i ∧ i < f 27 1 by omega), e1] at hc1; exact hc1 this
        all_goals (first | omega | exact hv | exact hw | (split <;> split <;> omega))
      all_goals (first | omega | exact hv | exact hw | (split <;> split <;> omega))
    all_goals (first | omega | exact hv | exact hw | (split <;> split <;> omega))
theorem sp_116_29 {d L : Nat} {sw : Bool} {f g : Nat → Nat → Int} {Q : Option Value → am_H → Prop} (K : ∀ x : Int, (x = 1 ∧ (f 29 1 = f 27 1 ∧ ∀ i : Nat, (i : Int) < f 29 1 → aZ (f 30 i) = aZ (f 28 i)) ∨ x = 0 ∧ ¬ (f 29 1 = f 27 1 ∧ ∀ i : Nat, (i : Int) < f 29 1 → aZ (f 30 i) = aZ (f 28 i))) → Q (some (.int (iZ x))) (53, sh_lt L, iH f, jH g, sh_rt sw)) (h1 : 0 ≤ f 29 1 ∧ f 29 1 ≤ 2400) (h2 : 0 ≤ f 27 1 ∧ f 27 1 ≤ 2400) (hv : ∀ k, iR (f 30 k)) (hw : ∀ k, iR (f 28 k)) (hm : ∀ k, f 30 k ≠ -2147483648) (hm2 : ∀ k, f 28 k ≠ -2147483648) : am_call (d + 2) 116 [.ref 29, .ref 27] (53, sh_lt L, iH f, jH g, sh_rt sw) Q := by
  refine ap_call (by decide) (Nat.le_of_ble_eq_true rfl) rfl ?_
  refine ap_go kc_116_0 ?_
  refine ap_aload_n rfl ?_; refine ai_getI ow_116 rf_5_15 rfl rfl ?_; refine ap_aload_n rfl ?_; refine ai_getI ow_116 rf_5_15 rfl rfl ?_
  refine ai_iceq rfl rfl (fun hc0 => ?_) (fun hc0 => ?_) ?_
  · refine ap_go kc_116_13 ?_
    refine ai_iconst ?_; refine ap_istore_n rfl ?_; refine ap_nil ?_
    exact lp_116_29 K h1 (by omega) hv hw hm hm2 (f 29 1).toNat 0 (by omega) (fun _ h => absurd h (by omega)) 0 rfl
  · refine ap_go kc_116_11 ?_
    refine ai_iconst ?_; refine ai_zret rfl ?_ ?_
    · exact K 0 (Or.inr ⟨rfl, fun z => by omega⟩)
    all_goals (omega)
  all_goals (omega)

theorem sp_73 {d L : Nat} {sw : Bool} {f g : Nat → Nat → Int} {Q : Option Value → am_H → Prop} {c : Int} (K : Q (some (.int (iZ (if 97 ≤ c ∧ c ≤ 122 then 1 else 0)))) (53, sh_lt L, iH f, jH g, sh_rt sw)) (hc : iR c) : am_call (d + 1) 73 [.ref 24, .int (iZ c)] (53, sh_lt L, iH f, jH g, sh_rt sw) Q := by
  refine ap_call (by decide) (Nat.le_of_ble_eq_true rfl) rfl ?_
  refine ap_go kc_73_0 ?_
  refine ap_iload_n rfl ?_; refine ai_bipush (by decide) ?_
  refine ai_iclt rfl rfl (fun hb0 => ?_) (fun hb0 => ?_) ?_
  · refine ap_go kc_73_16 ?_
    refine ai_iconst ?_; refine ap_nil ?_
    refine ap_go kc_73_17 ?_
    refine ai_zret rfl ?_ ?_
    · exact sq K (by first | rfl | omega | (split <;> omega) | (split <;> split <;> omega))
    all_goals (omega)
  · refine ap_go kc_73_6 ?_
    refine ap_iload_n rfl ?_; refine ai_bipush (by decide) ?_
    refine ai_icgt rfl rfl (fun hb1 => ?_) (fun hb1 => ?_) ?_
    · refine ap_go kc_73_16 ?_
      refine ai_iconst ?_; refine ap_nil ?_
      refine ap_go kc_73_17 ?_
      refine ai_zret rfl ?_ ?_
      · exact sq K (by first | rfl | omega | (split <;> omega) | (split <;> split <;> omega))
      all_goals (omega)
    · refine ap_go kc_73_12 ?_
      refine ai_iconst ?_; refine ap_goto rfl ?_
      refine ap_go kc_73_17 ?_
      refine ai_zret rfl ?_ ?_
      · exact sq K (by first | rfl | omega | (split <;> omega) | (split <;> split <;> omega))
      all_goals (omega)
    all_goals (omega)
  all_goals (omega)

theorem sp_74 {d L : Nat} {sw : Bool} {f g : Nat → Nat → Int} {Q : Option Value → am_H → Prop}  (K : Q (some (.int (iZ (if 3 ≤ f 24 1 then 1 else 0)))) (53, sh_lt L, iH f, jH g, sh_rt sw)) (hc : iR (f 24 1)) : am_call (d + 1) 74 [.ref 24] (53, sh_lt L, iH f, jH g, sh_rt sw) Q := by
  refine ap_call (by decide) (Nat.le_of_ble_eq_true rfl) rfl ?_
  refine ap_go kc_74_0 ?_
  refine ap_aload_n rfl ?_; refine ai_getI ow_74 rf_2_13 rfl rfl ?_; refine ai_iconst ?_
  refine ai_iclt rfl rfl (fun hb0 => ?_) (fun hb0 => ?_) ?_
  · refine ap_go kc_74_12 ?_
    refine ai_iconst ?_; refine ap_nil ?_
    refine ap_go kc_74_13 ?_
    refine ai_zret rfl ?_ ?_
    · exact sq K (by first | rfl | omega | (split <;> omega) | (split <;> split <;> omega))
    all_goals (omega)
  · refine ap_go kc_74_8 ?_
    refine ai_iconst ?_; refine ap_goto rfl ?_
    refine ap_go kc_74_13 ?_
    refine ai_zret rfl ?_ ?_
    · exact sq K (by first | rfl | omega | (split <;> omega) | (split <;> split <;> omega))
    all_goals (omega)
  all_goals (omega)

theorem sp_75 {d L : Nat} {sw : Bool} {f g : Nat → Nat → Int} {Q : Option Value → am_H → Prop}  (K : Q none (53, sh_lt L, iH (am_up f 24 1 0), jH g, sh_rt sw))  : am_call (d + 1) 75 [.ref 24] (53, sh_lt L, iH f, jH g, sh_rt sw) Q := by
  refine ap_call (by decide) (Nat.le_of_ble_eq_true rfl) rfl ?_
  refine ap_go kc_75_0 ?_
  refine ap_aload_n rfl ?_; refine ai_iconst ?_; refine ai_putI ow_75 rf_2_13 rfl rfl rfl ?_; refine ap_vret rfl ?_
  exact K

theorem sp_76 {d L : Nat} {sw : Bool} {f g : Nat → Nat → Int} {Q : Option Value → am_H → Prop} {c : Int} (K : Q none (53, sh_lt L, iH (am_up (am_up f 25 (f 24 1).toNat (c - 97)) 24 1 (f 24 1 + 1)), jH g, sh_rt sw)) (hs : 0 ≤ f 24 1 ∧ f 24 1 < 3) : am_call (d + 1) 76 [.ref 24, .int (iZ c)] (53, sh_lt L, iH f, jH g, sh_rt sw) Q := by
  refine ap_call (by decide) (Nat.le_of_ble_eq_true rfl) rfl ?_
  refine ap_go kc_76_0 ?_
  refine ap_aload_n rfl ?_; refine ai_getI ow_76 rf_2_13 rfl rfl ?_; refine ai_iconst ?_
  refine ai_icge rfl rfl (fun hb0 => ?_) (fun hb0 => ?_) ?_
  · refine ap_go kc_76_31 ?_
    refine ap_vret rfl ?_
    first | exact K | (exfalso; omega)
  · refine ap_go kc_76_8 ?_
    refine ap_aload_n rfl ?_; refine ap_getR ow_76 rf_2_9 rfl rfl rfl ?_; refine ap_aload_n rfl ?_; refine ai_getI ow_76 rf_2_13 rfl rfl ?_; refine ap_iload_n rfl ?_; refine ai_bipush (by decide) ?_; refine ai_isub ?_; refine ai_iastore (n := 3) rfl rfl (by decide) ?_ ?_; refine ap_aload_n rfl ?_; refine ap_dup rfl ?_; refine ai_getI ow_76 rf_2_13 rfl rfl ?_; refine ai_iconst ?_; refine ai_iadd ?_; refine ai_putI ow_76 rf_2_13 rfl rfl rfl ?_; refine ap_nil ?_
    · refine ap_go kc_76_31 ?_
      refine ap_vret rfl ?_
      first | exact K | (exfalso; omega)
    all_goals (omega)
  all_goals (omega)

def letZ (n i : Int) : Int := if i = 0 then n / 676 else if i = 1 then n / 26 % 26 else n % 26
theorem sp_79 {d L : Nat} {sw : Bool} {f g : Nat → Nat → Int} {Q : Option Value → am_H → Prop} {n i : Int} (K : Q (some (.int (iZ (letZ n i)))) (53, sh_lt L, iH f, jH g, sh_rt sw)) (hn : 0 ≤ n ∧ n < 2147483648) (hi : iR i) : am_call (d + 1) 79 [.int (iZ n), .int (iZ i)] (53, sh_lt L, iH f, jH g, sh_rt sw) Q := by
  refine ap_call (by decide) (Nat.le_of_ble_eq_true rfl) rfl ?_
  refine ap_go kc_79_0 ?_
  refine ap_iload_n rfl ?_
  refine ai_lsw2 rfl rfl rfl (fun hb0 => ?_) (fun hb0 => ?_) (fun hb0 hb0' => ?_) ?_
  · refine ap_go kc_79_28 ?_
    refine ap_iload_n rfl ?_; refine ai_sipush (by decide) ?_; refine ai_idiv ?_ ?_; refine ap_iret rfl ?_
    · refine sq K ?_; unfold letZ; simp_all
    all_goals (omega)
  · refine ap_go kc_79_34 ?_
    refine ap_iload_n rfl ?_; refine ai_bipush (by decide) ?_; refine ai_idiv ?_ ?_; refine ai_bipush (by decide) ?_; refine ai_irem ?_ ?_; refine ap_iret rfl ?_
    · refine sq K ?_; unfold letZ; simp_all
    all_goals (omega)
  · refine ap_go kc_79_42 ?_
    refine ap_iload_n rfl ?_; refine ai_bipush (by decide) ?_; refine ai_irem ?_ ?_; refine ap_iret rfl ?_
    · refine sq K ?_; unfold letZ; simp_all
    all_goals (omega)
  all_goals (omega)

theorem sp_71 {d L : Nat} {sw : Bool} {f g : Nat → Nat → Int} {Q : Option Value → am_H → Prop} {e n : Int} (K1 : (f 26 1 = 0 ∨ f 26 1 = 255 ∧ f 26 0 < e) → Q (some (.int (iZ 1))) (53, sh_lt L, iH (am_up (am_up f 26 0 e) 26 1 (b_shl 1 n)), jH g, sh_rt sw)) (K2 : ¬ (f 26 1 = 0 ∨ f 26 1 = 255 ∧ f 26 0 < e) → (¬ e = f 26 0 ∨ ¬ b_and (b_shr (f 26 1) n) 1 = 0) → Q (some (.int (iZ 0))) (53, sh_lt L, iH f, jH g, sh_rt sw)) (K3 : ¬ (f 26 1 = 0 ∨ f 26 1 = 255 ∧ f 26 0 < e) → ¬ (¬ e = f 26 0 ∨ ¬ b_and (b_shr (f 26 1) n) 1 = 0) → Q (some (.int (iZ 1))) (53, sh_lt L, iH (am_up f 26 1 (b_or (f 26 1) (b_shl 1 n))), jH g, sh_rt sw)) (he : iR e) (h1 : iR (f 26 0)) (h2 : iR (f 26 1)) : am_call (d + 1) 71 [.ref 26, .int (iZ e), .int (iZ n)] (53, sh_lt L, iH f, jH g, sh_rt sw) Q := by
  refine ap_call (by decide) (Nat.le_of_ble_eq_true rfl) rfl ?_
  refine ap_go kc_71_0 ?_
  refine ap_aload_n rfl ?_; refine ai_getI ow_71 rf_1_13 rfl rfl ?_
  refine ai_ifeq rfl rfl (fun hb0 => ?_) (fun hb0 => ?_) ?_
  · refine ap_go kc_71_25 ?_
    refine ap_aload_n rfl ?_; refine ap_iload_n rfl ?_; refine ai_putI ow_71 rf_1_9 rfl rfl rfl ?_; refine ap_aload_n rfl ?_; refine ai_iconst ?_; refine ap_iload_n rfl ?_; refine ai_ishl ?_; refine ai_putI ow_71 rf_1_13 rfl rfl rfl ?_; refine ai_iconst ?_; refine ai_zret rfl ?_ ?_
    · first | exact K1 (by omega) | exact K2 (by omega) (by omega) | exact K3 (by omega) (by omega)
    all_goals (first | omega | exact iR_T _)
  · refine ap_go kc_71_7 ?_
    refine ap_aload_n rfl ?_; refine ai_getI ow_71 rf_1_13 rfl rfl ?_; refine ai_sipush (by decide) ?_
    refine ai_icne rfl rfl (fun hb1 => ?_) (fun hb1 => ?_) ?_
    · refine ap_go kc_71_39 ?_
      refine ap_iload_n rfl ?_; refine ap_aload_n rfl ?_; refine ai_getI ow_71 rf_1_9 rfl rfl ?_
      refine ai_icne rfl rfl (fun hb2 => ?_) (fun hb2 => ?_) ?_
      · refine ap_go kc_71_58 ?_
        refine ai_iconst ?_; refine ai_zret rfl ?_ ?_
        · first | exact K1 (by omega) | exact K2 (by omega) (by omega) | exact K3 (by omega) (by omega)
        all_goals (first | omega | exact iR_T _)
      · refine ap_go kc_71_47 ?_
        refine ap_aload_n rfl ?_; refine ai_getI ow_71 rf_1_13 rfl rfl ?_; refine ap_iload_n rfl ?_; refine ai_ishr ?_; refine ai_iconst ?_; refine ai_iand ?_
        refine ai_ifeq rfl rfl (fun hb3 => ?_) (fun hb3 => ?_) ?_
        · refine ap_go kc_71_60 ?_
          refine ap_aload_n rfl ?_; refine ap_dup rfl ?_; refine ai_getI ow_71 rf_1_13 rfl rfl ?_; refine ai_iconst ?_; refine ap_iload_n rfl ?_; refine ai_ishl ?_; refine ai_ior ?_; refine ai_putI ow_71 rf_1_13 rfl rfl rfl ?_; refine ai_iconst ?_; refine ai_zret rfl ?_ ?_
          · first | exact K1 (by omega) | exact K2 (by omega) (by omega) | exact K3 (by omega) (by omega)
          all_goals (first | omega | exact iR_T _)
        · refine ap_go kc_71_58 ?_
          refine ai_iconst ?_; refine ai_zret rfl ?_ ?_
          · first | exact K1 (by omega) | exact K2 (by omega) (by omega) | exact K3 (by omega) (by omega)
          all_goals (first | omega | exact iR_T _)
        all_goals (first | omega | exact iR_T _)
      all_goals (first | omega | exact iR_T _)
    · refine ap_go kc_71_17 ?_
      refine ap_iload_n rfl ?_; refine ap_aload_n rfl ?_; refine ai_getI ow_71 rf_1_9 rfl rfl ?_
      refine ai_icle rfl rfl (fun hb4 => ?_) (fun hb4 => ?_) ?_
      · refine ap_go kc_71_39 ?_
        refine ap_iload_n rfl ?_; refine ap_aload_n rfl ?_; refine ai_getI ow_71 rf_1_9 rfl rfl ?_
        refine ai_icne rfl rfl (fun hb5 => ?_) (fun hb5 => ?_) ?_
        · refine ap_go kc_71_58 ?_
          refine ai_iconst ?_; refine ai_zret rfl ?_ ?_
          · first | exact K1 (by omega) | exact K2 (by omega) (by omega) | exact K3 (by omega) (by omega)
          all_goals (first | omega | exact iR_T _)
        · refine ap_go kc_71_47 ?_
          refine ap_aload_n rfl ?_; refine ai_getI ow_71 rf_1_13 rfl rfl ?_; refine ap_iload_n rfl ?_; refine ai_ishr ?_; refine ai_iconst ?_; refine ai_iand ?_
          refine ai_ifeq rfl rfl (fun hb6 => ?_) (fun hb6 => ?_) ?_
          · refine ap_go kc_71_60 ?_
            refine ap_aload_n rfl ?_; refine ap_dup rfl ?_; refine ai_getI ow_71 rf_1_13 rfl rfl ?_; refine ai_iconst ?_; refine ap_iload_n rfl ?_; refine ai_ishl ?_; refine ai_ior ?_; refine ai_putI ow_71 rf_1_13 rfl rfl rfl ?_; refine ai_iconst ?_; refine ai_zret rfl ?_ ?_
            · first | exact K1 (by omega) | exact K2 (by omega) (by omega) | exact K3 (by omega) (by omega)
            all_goals (first | omega | exact iR_T _)
          · refine ap_go kc_71_58 ?_
            refine ai_iconst ?_; refine ai_zret rfl ?_ ?_
            · first | exact K1 (by omega) | exact K2 (by omega) (by omega) | exact K3 (by omega) (by omega)
            all_goals (first | omega | exact iR_T _)
          all_goals (first | omega | exact iR_T _)
        all_goals (first | omega | exact iR_T _)
      · refine ap_go kc_71_25 ?_
        refine ap_aload_n rfl ?_; refine ap_iload_n rfl ?_; refine ai_putI ow_71 rf_1_9 rfl rfl rfl ?_; refine ap_aload_n rfl ?_; refine ai_iconst ?_; refine ap_iload_n rfl ?_; refine ai_ishl ?_; refine ai_putI ow_71 rf_1_13 rfl rfl rfl ?_; refine ai_iconst ?_; refine ai_zret rfl ?_ ?_
        · first | exact K1 (by omega) | exact K2 (by omega) (by omega) | exact K3 (by omega) (by omega)
        all_goals (first | omega | exact iR_T _)
      all_goals (first | omega | exact iR_T _)
    all_goals (first | omega | exact iR_T _)
  all_goals (first | omega | exact iR_T _)

theorem sp_67 {d L : Nat} {sw : Bool} {f g : Nat → Nat → Int} {Q : Option Value → am_H → Prop} {ax ay bx b : Int} (K : Q (some (.int (iZ (advZ (ax * b - ay * bx) (ax * bx + ay * b))))) (53, sh_lt L, iH f, jH g, sh_rt sw)) (h1 : -2000000000 ≤ ax * b - ay * bx ∧ ax * b - ay * bx ≤ 2000000000) (h2 : -2000000000 ≤ ax * bx + ay * b ∧ ax * bx + ay * b ≤ 2000000000) : am_call (d + 1) 67 [.long (lZ ax), .long (lZ ay), .long (lZ bx), .long (lZ b)] (53, sh_lt L, iH f, jH g, sh_rt sw) Q := by
  refine ap_call (by decide) (Nat.le_of_ble_eq_true rfl) rfl ?_
  refine ap_go kc_67_0 ?_
  refine ap_lload_n rfl ?_; refine ap_lload rfl ?_; refine ai_lmul ?_; refine ap_lload_n rfl ?_; refine ap_lload rfl ?_; refine ai_lmul ?_; refine ai_lsub ?_; refine ap_lstore rfl ?_; refine ap_lload_n rfl ?_; refine ap_lload rfl ?_; refine ai_lmul ?_; refine ap_lload_n rfl ?_; refine ap_lload rfl ?_; refine ai_lmul ?_; refine ai_ladd ?_; refine ap_lstore rfl ?_; refine ai_ldc2 (2) ow_67 kl_9_7 rfl ?_; refine ap_lload rfl ?_; refine ai_mabsl ow_67 rm_9_9 (Nat.le_of_ble_eq_true rfl) ?_ ?_; refine ai_lmul ?_; refine ap_lstore rfl ?_; refine ap_lload rfl ?_; refine ap_lload rfl ?_
  refine ai_lcgt rfl rfl (fun hb0 => ?_) (fun hb0 => ?_) ?_
  · refine ap_go kc_67_43 ?_
    refine ap_lload rfl ?_; refine ap_lload rfl ?_; refine ai_lneg ?_
    refine ai_lcgt rfl rfl (fun hb1 => ?_) (fun hb1 => ?_) ?_
    · refine ap_go kc_67_54 ?_
      refine ap_lload rfl ?_; refine ai_lconst 0 rfl ?_
      refine ai_lcle rfl rfl (fun hb2 => ?_) (fun hb2 => ?_) ?_
      · refine ap_go kc_67_65 ?_
        refine ai_iconst ?_; refine ap_nil ?_
        refine ap_go kc_67_66 ?_
        refine ap_iret rfl ?_
        refine sq K ?_; unfold advZ; (repeat' split) <;> omega
      · refine ap_go kc_67_61 ?_
        refine ai_iconst ?_; refine ap_goto rfl ?_
        refine ap_go kc_67_66 ?_
        refine ap_iret rfl ?_
        refine sq K ?_; unfold advZ; (repeat' split) <;> omega
      all_goals (first | omega | (constructor <;> (split <;> omega)) | (split <;> omega))
    · refine ap_go kc_67_52 ?_
      refine ai_iconst ?_; refine ap_iret rfl ?_
      refine sq K ?_; unfold advZ; (repeat' split) <;> omega
    all_goals (first | omega | (constructor <;> (split <;> omega)) | (split <;> omega))
  · refine ap_go kc_67_41 ?_
    refine ai_iconst ?_; refine ap_iret rfl ?_
    refine sq K ?_; unfold advZ; (repeat' split) <;> omega
  all_goals (first | omega | (constructor <;> (split <;> omega)) | (split <;> omega))

theorem sp_68 {d L : Nat} {sw : Bool} {f g : Nat → Nat → Int} {Q : Option Value → am_H → Prop} {x y : Int} (K : Q (some (.int (iZ (octZ x y)))) (53, sh_lt L, iH f, jH g, sh_rt sw)) (hx : -100000 ≤ x ∧ x ≤ 100000) (hy : -100000 ≤ y ∧ y ≤ 100000) : am_call (d + 1) 68 [.long (lZ x), .long (lZ y)] (53, sh_lt L, iH f, jH g, sh_rt sw) Q := by
  refine ap_call (by decide) (Nat.le_of_ble_eq_true rfl) rfl ?_
  refine ap_go kc_68_0 ?_
  refine ap_lload_n rfl ?_; refine ai_lconst 0 rfl ?_
  refine ai_lcle rfl rfl (fun hb0 => ?_) (fun hb0 => ?_) ?_
  · refine ap_go kc_68_24 ?_
    refine ap_lload_n rfl ?_; refine ai_lconst 0 rfl ?_
    refine ai_lcgt rfl rfl (fun hb1 => ?_) (fun hb1 => ?_) ?_
    · refine ap_go kc_68_49 ?_
      refine ap_lload_n rfl ?_; refine ai_lconst 0 rfl ?_
      refine ai_lcge rfl rfl (fun hb2 => ?_) (fun hb2 => ?_) ?_
      · refine ap_go kc_68_69 ?_
        refine ap_lload_n rfl ?_; refine ai_lconst 0 rfl ?_
        refine ai_lcge rfl rfl (fun hb3 => ?_) (fun hb3 => ?_) ?_
        · refine ap_go kc_68_90 ?_
          refine ai_iconst ?_; refine ap_iret rfl ?_
          refine sq K ?_; unfold octZ; (repeat' split) <;> omega
        · refine ap_go kc_68_75 ?_
          refine ap_lload_n rfl ?_; refine ap_lload_n rfl ?_; refine ai_lneg ?_
          refine ai_lcge rfl rfl (fun hb4 => ?_) (fun hb4 => ?_) ?_
          · refine ap_go kc_68_87 ?_
            refine ai_bipush (by decide) ?_; refine ap_nil ?_
            refine ap_go kc_68_89 ?_
            refine ap_iret rfl ?_
            refine sq K ?_; unfold octZ; (repeat' split) <;> omega
          · refine ap_go kc_68_82 ?_
            refine ai_bipush (by decide) ?_; refine ap_goto rfl ?_
            refine ap_go kc_68_89 ?_
            refine ap_iret rfl ?_
            refine sq K ?_; unfold octZ; (repeat' split) <;> omega
          all_goals (omega)
        all_goals (omega)
      · refine ap_go kc_68_55 ?_
        refine ap_lload_n rfl ?_; refine ai_lneg ?_; refine ap_lload_n rfl ?_; refine ai_lneg ?_
        refine ai_lcge rfl rfl (fun hb5 => ?_) (fun hb5 => ?_) ?_
        · refine ap_go kc_68_67 ?_
          refine ai_iconst ?_; refine ap_nil ?_
          refine ap_go kc_68_68 ?_
          refine ap_iret rfl ?_
          refine sq K ?_; unfold octZ; (repeat' split) <;> omega
        · refine ap_go kc_68_63 ?_
          refine ai_iconst ?_; refine ap_goto rfl ?_
          refine ap_go kc_68_68 ?_
          refine ap_iret rfl ?_
          refine sq K ?_; unfold octZ; (repeat' split) <;> omega
        all_goals (omega)
      all_goals (omega)
    · refine ap_go kc_68_30 ?_
      refine ap_lload_n rfl ?_; refine ai_lconst 0 rfl ?_
      refine ai_lcle rfl rfl (fun hb6 => ?_) (fun hb6 => ?_) ?_
      · refine ap_go kc_68_49 ?_
        refine ap_lload_n rfl ?_; refine ai_lconst 0 rfl ?_
        refine ai_lcge rfl rfl (fun hb7 => ?_) (fun hb7 => ?_) ?_
        · refine ap_go kc_68_69 ?_
          refine ap_lload_n rfl ?_; refine ai_lconst 0 rfl ?_
          refine ai_lcge rfl rfl (fun hb8 => ?_) (fun hb8 => ?_) ?_
          · refine ap_go kc_68_90 ?_
            refine ai_iconst ?_; refine ap_iret rfl ?_
            refine sq K ?_; unfold octZ; (repeat' split) <;> omega
          · refine ap_go kc_68_75 ?_
            refine ap_lload_n rfl ?_; refine ap_lload_n rfl ?_; refine ai_lneg ?_
            refine ai_lcge rfl rfl (fun hb9 => ?_) (fun hb9 => ?_) ?_
            · refine ap_go kc_68_87 ?_
              refine ai_bipush (by decide) ?_; refine ap_nil ?_
              refine ap_go kc_68_89 ?_
              refine ap_iret rfl ?_
              refine sq K ?_; unfold octZ; (repeat' split) <;> omega
            · refine ap_go kc_68_82 ?_
              refine ai_bipush (by decide) ?_; refine ap_goto rfl ?_
              refine ap_go kc_68_89 ?_
              refine ap_iret rfl ?_
              refine sq K ?_; unfold octZ; (repeat' split) <;> omega
            all_goals (omega)
          all_goals (omega)
        · refine ap_go kc_68_55 ?_
          refine ap_lload_n rfl ?_; refine ai_lneg ?_; refine ap_lload_n rfl ?_; refine ai_lneg ?_
          refine ai_lcge rfl rfl (fun hb10 => ?_) (fun hb10 => ?_) ?_
          · refine ap_go kc_68_67 ?_
            refine ai_iconst ?_; refine ap_nil ?_
            refine ap_go kc_68_68 ?_
            refine ap_iret rfl ?_
            refine sq K ?_; unfold octZ; (repeat' split) <;> omega
          · refine ap_go kc_68_63 ?_
            refine ai_iconst ?_; refine ap_goto rfl ?_
            refine ap_go kc_68_68 ?_
            refine ap_iret rfl ?_
            refine sq K ?_; unfold octZ; (repeat' split) <;> omega
          all_goals (omega)
        all_goals (omega)
      · refine ap_go kc_68_36 ?_
        refine ap_lload_n rfl ?_; refine ai_lneg ?_; refine ap_lload_n rfl ?_
        refine ai_lcge rfl rfl (fun hb11 => ?_) (fun hb11 => ?_) ?_
        · refine ap_go kc_68_47 ?_
          refine ai_iconst ?_; refine ap_nil ?_
          refine ap_go kc_68_48 ?_
          refine ap_iret rfl ?_
          refine sq K ?_; unfold octZ; (repeat' split) <;> omega
        · refine ap_go kc_68_43 ?_
          refine ai_iconst ?_; refine ap_goto rfl ?_
          refine ap_go kc_68_48 ?_
          refine ap_iret rfl ?_
          refine sq K ?_; unfold octZ; (repeat' split) <;> omega
        all_goals (omega)
      all_goals (omega)
    all_goals (omega)
  · refine ap_go kc_68_6 ?_
    refine ap_lload_n rfl ?_; refine ai_lconst 0 rfl ?_
    refine ai_lclt rfl rfl (fun hb12 => ?_) (fun hb12 => ?_) ?_
    · refine ap_go kc_68_24 ?_
      refine ap_lload_n rfl ?_; refine ai_lconst 0 rfl ?_
      refine ai_lcgt rfl rfl (fun hb13 => ?_) (fun hb13 => ?_) ?_
      · refine ap_go kc_68_49 ?_
        refine ap_lload_n rfl ?_; refine ai_lconst 0 rfl ?_
        refine ai_lcge rfl rfl (fun hb14 => ?_) (fun hb14 => ?_) ?_
        · refine ap_go kc_68_69 ?_
          refine ap_lload_n rfl ?_; refine ai_lconst 0 rfl ?_
          refine ai_lcge rfl rfl (fun hb15 => ?_) (fun hb15 => ?_) ?_
          · refine ap_go kc_68_90 ?_
            refine ai_iconst ?_; refine ap_iret rfl ?_
            refine sq K ?_; unfold octZ; (repeat' split) <;> omega
          · refine ap_go kc_68_75 ?_
            refine ap_lload_n rfl ?_; refine ap_lload_n rfl ?_; refine ai_lneg ?_
            refine ai_lcge rfl rfl (fun hb16 => ?_) (fun hb16 => ?_) ?_
            · refine ap_go kc_68_87 ?_
              refine ai_bipush (by decide) ?_; refine ap_nil ?_
              refine ap_go kc_68_89 ?_
              refine ap_iret rfl ?_
              refine sq K ?_; unfold octZ; (repeat' split) <;> omega
            · refine ap_go kc_68_82 ?_
              refine ai_bipush (by decide) ?_; refine ap_goto rfl ?_
              refine ap_go kc_68_89 ?_
              refine ap_iret rfl ?_
              refine sq K ?_; unfold octZ; (repeat' split) <;> omega
            all_goals (omega)
          all_goals (omega)
        · refine ap_go kc_68_55 ?_
          refine ap_lload_n rfl ?_; refine ai_lneg ?_; refine ap_lload_n rfl ?_; refine ai_lneg ?_
          refine ai_lcge rfl rfl (fun hb17 => ?_) (fun hb17 => ?_) ?_
          · refine ap_go kc_68_67 ?_
            refine ai_iconst ?_; refine ap_nil ?_
            refine ap_go kc_68_68 ?_
            refine ap_iret rfl ?_
            refine sq K ?_; unfold octZ; (repeat' split) <;> omega
          · refine ap_go kc_68_63 ?_
            refine ai_iconst ?_; refine ap_goto rfl ?_
            refine ap_go kc_68_68 ?_
            refine ap_iret rfl ?_
            refine sq K ?_; unfold octZ; (repeat' split) <;> omega
          all_goals (omega)
        all_goals (omega)
      · refine ap_go kc_68_30 ?_
        refine ap_lload_n rfl ?_; refine ai_lconst 0 rfl ?_
        refine ai_lcle rfl rfl (fun hb18 => ?_) (fun hb18 => ?_) ?_
        · refine ap_go kc_68_49 ?_
          refine ap_lload_n rfl ?_; refine ai_lconst 0 rfl ?_
          refine ai_lcge rfl rfl (fun hb19 => ?_) (fun hb19 => ?_) ?_
          · refine ap_go kc_68_69 ?_
            refine ap_lload_n rfl ?_; refine ai_lconst 0 rfl ?_
            refine ai_lcge rfl rfl (fun hb20 => ?_) (fun hb20 => ?_) ?_
            · refine ap_go kc_68_90 ?_
              refine ai_iconst ?_; refine ap_iret rfl ?_
              refine sq K ?_; unfold octZ; (repeat' split) <;> omega
            · refine ap_go kc_68_75 ?_
              refine ap_lload_n rfl ?_; refine ap_lload_n rfl ?_; refine ai_lneg ?_
              refine ai_lcge rfl rfl (fun hb21 => ?_) (fun hb21 => ?_) ?_
              · refine ap_go kc_68_87 ?_
                refine ai_bipush (by decide) ?_; refine ap_nil ?_
                refine ap_go kc_68_89 ?_
                refine ap_iret rfl ?_
                refine sq K ?_; unfold octZ; (repeat' split) <;> omega
              · refine ap_go kc_68_82 ?_
                refine ai_bipush (by decide) ?_; refine ap_goto rfl ?_
                refine ap_go kc_68_89 ?_
                refine ap_iret rfl ?_
                refine sq K ?_; unfold octZ; (repeat' split) <;> omega
              all_goals (omega)
            all_goals (omega)
          · refine ap_go kc_68_55 ?_
            refine ap_lload_n rfl ?_; refine ai_lneg ?_; refine ap_lload_n rfl ?_; refine ai_lneg ?_
            refine ai_lcge rfl rfl (fun hb22 => ?_) (fun hb22 => ?_) ?_
            · refine ap_go kc_68_67 ?_
              refine ai_iconst ?_; refine ap_nil ?_
              refine ap_go kc_68_68 ?_
              refine ap_iret rfl ?_
              refine sq K ?_; unfold octZ; (repeat' split) <;> omega
            · refine ap_go kc_68_63 ?_
              refine ai_iconst ?_; refine ap_goto rfl ?_
              refine ap_go kc_68_68 ?_
              refine ap_iret rfl ?_
              refine sq K ?_; unfold octZ; (repeat' split) <;> omega
            all_goals (omega)
          all_goals (omega)
        · refine ap_go kc_68_36 ?_
          refine ap_lload_n rfl ?_; refine ai_lneg ?_; refine ap_lload_n rfl ?_
          refine ai_lcge rfl rfl (fun hb23 => ?_) (fun hb23 => ?_) ?_
          · refine ap_go kc_68_47 ?_
            refine ai_iconst ?_; refine ap_nil ?_
            refine ap_go kc_68_48 ?_
            refine ap_iret rfl ?_
            refine sq K ?_; unfold octZ; (repeat' split) <;> omega
          · refine ap_go kc_68_43 ?_
            refine ai_iconst ?_; refine ap_goto rfl ?_
            refine ap_go kc_68_48 ?_
            refine ap_iret rfl ?_
            refine sq K ?_; unfold octZ; (repeat' split) <;> omega
          all_goals (omega)
        all_goals (omega)
      all_goals (omega)
    · refine ap_go kc_68_12 ?_
      refine ap_lload_n rfl ?_; refine ap_lload_n rfl ?_
      refine ai_lcge rfl rfl (fun hb24 => ?_) (fun hb24 => ?_) ?_
      · refine ap_go kc_68_22 ?_
        refine ai_iconst ?_; refine ap_nil ?_
        refine ap_go kc_68_23 ?_
        refine ap_iret rfl ?_
        refine sq K ?_; unfold octZ; (repeat' split) <;> omega
      · refine ap_go kc_68_18 ?_
        refine ai_iconst ?_; refine ap_goto rfl ?_
        refine ap_go kc_68_23 ?_
        refine ap_iret rfl ?_
        refine sq K ?_; unfold octZ; (repeat' split) <;> omega
      all_goals (omega)
    all_goals (omega)
  all_goals (omega)

theorem sp_69 {d L : Nat} {sw : Bool} {f g : Nat → Nat → Int} {Q : Option Value → am_H → Prop} {px py vx vy : Int} (K : Q (some (.long (lZ (sqrZ px py vx vy)))) (53, sh_lt L, iH f, jH g, sh_rt sw)) (h1 : -10000000000 ≤ px * vx + py * vy ∧ px * vx + py * vy ≤ 10000000000) (h2 : 0 ≤ vx * vx + vy * vy ∧ vx * vx + vy * vy ≤ 10000000000) (h3 : 0 ≤ (px * vy - py * vx) * (px * vy - py * vx) ∧ (px * vy - py * vx) * (px * vy - py * vx) < 9223372036854775808) : am_call (d + 1) 69 [.long (lZ px), .long (lZ py), .long (lZ vx), .long (lZ vy)] (53, sh_lt L, iH f, jH g, sh_rt sw) Q := by
  refine ap_call (by decide) (Nat.le_of_ble_eq_true rfl) rfl ?_
  refine ap_go kc_69_0 ?_
  refine ap_lload_n rfl ?_; refine ap_lload rfl ?_; refine ai_lmul ?_; refine ap_lload_n rfl ?_; refine ap_lload rfl ?_; refine ai_lmul ?_; refine ai_ladd ?_; refine ap_lstore rfl ?_; refine ap_lload rfl ?_; refine ap_lload rfl ?_; refine ai_lmul ?_; refine ap_lload rfl ?_; refine ap_lload rfl ?_; refine ai_lmul ?_; refine ai_ladd ?_; refine ap_lstore rfl ?_; refine ap_lload rfl ?_; refine ai_lconst 0 rfl ?_
  refine ai_lcle rfl rfl (fun hb0 => ?_) (fun hb0 => ?_) ?_
  · refine ap_go kc_69_38 ?_
    refine ap_lload_n rfl ?_; refine ap_lload_n rfl ?_; refine ai_lmul ?_; refine ap_lload_n rfl ?_; refine ap_lload_n rfl ?_; refine ai_lmul ?_; refine ai_ladd ?_; refine ap_lret rfl ?_
    refine sql K ?_; unfold sqrZ; (repeat' split) <;> omega
  · refine ap_go kc_69_31 ?_
    refine ap_lload rfl ?_; refine ai_lconst 0 rfl ?_
    refine ai_lcgt rfl rfl (fun hb1 => ?_) (fun hb1 => ?_) ?_
    · refine ap_go kc_69_46 ?_
      refine ap_lload rfl ?_; refine ap_lload rfl ?_
      refine ai_lclt rfl rfl (fun hb2 => ?_) (fun hb2 => ?_) ?_
      · refine ap_go kc_69_74 ?_
        refine ap_lload_n rfl ?_; refine ap_lload rfl ?_; refine ai_lmul ?_; refine ap_lload_n rfl ?_; refine ap_lload rfl ?_; refine ai_lmul ?_; refine ai_lsub ?_; refine ap_lstore rfl ?_; refine ap_lload rfl ?_; refine ap_lload rfl ?_; refine ai_lmul ?_; refine ap_lload rfl ?_; refine ai_ldiv ?_ ?_; refine ap_lret rfl ?_
        · refine sql K ?_; unfold sqrZ; (repeat' split) <;> omega
        all_goals (omega)
      · refine ap_go kc_69_54 ?_
        refine ap_lload_n rfl ?_; refine ap_lload rfl ?_; refine ai_lsub ?_; refine ap_lload_n rfl ?_; refine ap_lload rfl ?_; refine ai_lsub ?_; refine ai_lmul ?_; refine ap_lload_n rfl ?_; refine ap_lload rfl ?_; refine ai_lsub ?_; refine ap_lload_n rfl ?_; refine ap_lload rfl ?_; refine ai_lsub ?_; refine ai_lmul ?_; refine ai_ladd ?_; refine ap_lret rfl ?_
        refine sql K ?_; unfold sqrZ; (repeat' split) <;> omega
      all_goals (omega)
    · refine ap_go kc_69_38 ?_
      refine ap_lload_n rfl ?_; refine ap_lload_n rfl ?_; refine ai_lmul ?_; refine ap_lload_n rfl ?_; refine ap_lload_n rfl ?_; refine ai_lmul ?_; refine ai_ladd ?_; refine ap_lret rfl ?_
      refine sql K ?_; unfold sqrZ; (repeat' split) <;> omega
    all_goals (omega)
  all_goals (omega)
