/-! SNAP of the class, of the reference -/
theorem sp_8 {d L : Nat} {sw : Bool} {f g : Nat → Nat → Int} {Q : Option Value → am_H → Prop} {x y h : Int} (K1 : ¬ (-20000 ≤ x ∧ x ≤ 20000 ∧ -20000 ≤ y ∧ y ≤ 20000 ∧ -1 ≤ h ∧ h ≤ 7) → Q (some (.int (iZ (-2)))) (53, sh_lt L, iH f, jH g, sh_rt sw)) (K2 : (-20000 ≤ x ∧ x ≤ 20000 ∧ -20000 ≤ y ∧ y ≤ 20000 ∧ -1 ≤ h ∧ h ≤ 7) → Q (some (.int (iZ ((snC (fitC f g h) (sqC f g x y) (f 5 8).toNat).1)))) (53, sh_lt L, iH f, jH g, sh_rt sw)) (hx : lR x) (hy : lR y) (hh : iR h) (hc : 0 ≤ f 5 8 ∧ f 5 8 ≤ 120) (hst : ∀ s : Nat, 1 ≤ s → (s : Int) ≤ f 5 8 → (0 ≤ f 6 s ∧ f 6 s < 61) ∧ (0 ≤ f 7 s ∧ f 7 s < 61)) (hX : ∀ k, -10000 ≤ g 2 k ∧ g 2 k ≤ 10000) (hY : ∀ k, -10000 ≤ g 3 k ∧ g 3 k ≤ 10000) : am_call (d + 4) 8 [.ref 0, .long (lZ x), .long (lZ y), .int (iZ h)] (53, sh_lt L, iH f, jH g, sh_rt sw) Q := by
  refine ap_call (by decide) (Nat.le_of_ble_eq_true rfl) rfl ?_
  refine ap_go kc_8_0 ?_
  refine ap_lload_n rfl ?_; refine ai_ldc2 (20000) ow_8 kl_7_159 rfl ?_; refine ap_calls0 ow_8 rm_7_72 na_15 mc_15 ms_15 rfl rfl (Nat.le_of_ble_eq_true rfl) (Nat.le_of_ble_eq_true rfl) rfl (Nat.zero_le _) (Nat.zero_le _) ?_; refine sp_15 ?_ ?_ ?_; dsimp only [Option.toList_some, Option.toList_none, List.cons_append, List.nil_append]
  refine ai_ifeq rfl rfl (fun hb0 => ?_) (fun hb0 => ?_) ?_
  · refine ap_go kc_8_20 ?_
    refine ai_bipush (by decide) ?_; refine ap_iret rfl ?_
    (try simp only [bz, Decidable.not_not] at *); first | exact K1  (by omega) | exact K2  (by omega)
  · refine ap_go kc_8_10 ?_
    refine ap_lload_n rfl ?_; refine ai_ldc2 (20000) ow_8 kl_7_159 rfl ?_; refine ap_calls0 ow_8 rm_7_72 na_15 mc_15 ms_15 rfl rfl (Nat.le_of_ble_eq_true rfl) (Nat.le_of_ble_eq_true rfl) rfl (Nat.zero_le _) (Nat.zero_le _) ?_; refine sp_15 ?_ ?_ ?_; dsimp only [Option.toList_some, Option.toList_none, List.cons_append, List.nil_append]
    refine ai_ifne rfl rfl (fun hb1 => ?_) (fun hb1 => ?_) ?_
    · refine ap_go kc_8_23 ?_
      refine ap_iload rfl ?_; refine ai_iconst ?_
      refine ai_iclt rfl rfl (fun hb2 => ?_) (fun hb2 => ?_) ?_
      · refine ap_go kc_8_36 ?_
        refine ai_bipush (by decide) ?_; refine ap_iret rfl ?_
        (try simp only [bz, Decidable.not_not] at *); first | exact K1  (by omega) | exact K2  (by omega)
      · refine ap_go kc_8_29 ?_
        refine ap_iload rfl ?_; refine ai_bipush (by decide) ?_
        refine ai_icle rfl rfl (fun hb3 => ?_) (fun hb3 => ?_) ?_
        · refine ap_go kc_8_39 ?_
          refine ai_iconst ?_; refine ap_istore rfl ?_; refine ai_ldc2 (2501) ow_8 kl_7_161 rfl ?_; refine ap_lstore rfl ?_; refine ai_iconst ?_; refine ap_istore rfl ?_; refine ap_nil ?_
          (try simp only [bz, Decidable.not_not] at *); exact am_weak (by first | exact am_le_0 | (repeat (first | exact am_le_0 | refine am_le_n ?_ | refine am_le_s ?_))) (lp_8 hc (by omega) (fun s a b => okS_of (by omega) (by omega) (hst s a b).1 (hst s a b).2 hX hY) (sqC_in (by omega) (by omega) hX hY) (K2 (by omega)) (f 5 8).toNat 0 0 2501 1 (by omega) rfl rfl rfl)
        · refine ap_go kc_8_36 ?_
          refine ai_bipush (by decide) ?_; refine ap_iret rfl ?_
          (try simp only [bz, Decidable.not_not] at *); first | exact K1  (by omega) | exact K2  (by omega)
        all_goals (first | omega | (split <;> omega) | (simp only [bz, Decidable.not_not] at *; omega))
      all_goals (first | omega | (split <;> omega) | (simp only [bz, Decidable.not_not] at *; omega))
    · refine ap_go kc_8_20 ?_
      refine ai_bipush (by decide) ?_; refine ap_iret rfl ?_
      (try simp only [bz, Decidable.not_not] at *); first | exact K1  (by omega) | exact K2  (by omega)
    all_goals (first | omega | (split <;> omega) | (simp only [bz, Decidable.not_not] at *; omega))
  all_goals (first | omega | (split <;> omega) | (simp only [bz, Decidable.not_not] at *; omega))

def fitMB (o h : Int) : Bool := decide (h < 0) || (decide (0 ≤ o) && (decide ((if o < h then h - o else o - h) < 2) || decide ((if o < h then h - o else o - h) = 7)))
theorem fit_same {o h : Int} (ho : -1 ≤ o ∧ o ≤ 7) (hh : -1 ≤ h ∧ h ≤ 7) : fitB o h = fitMB o h := by
  rw [Bool.eq_iff_iff]
  unfold fitB fitMB
  simp only [Bool.or_eq_true, Bool.and_eq_true, decide_eq_true_eq]
  split <;> omega
abbrev fitM (f g : Nat → Nat → Int) (h : Int) (s : Nat) : Bool := fitMB (octZ (eX f g s) (eY f g s)) h
abbrev sqM (f g : Nat → Nat → Int) (x y : Int) (s : Nat) : Int := sqmZ (x - g 32 (f 35 s).toNat) (y - g 33 (f 35 s).toNat) (eX f g s) (eY f g s) (x - g 32 (f 36 s).toNat) (y - g 33 (f 36 s).toNat)
theorem snM_f {fit : Nat → Bool} {sq : Nat → Int} {k : Nat} {dv : Int} (e : dv = if fit (k + 1) = true then sq (k + 1) else 2501) (h : ¬ (dv ≤ 2500 ∧ ((snM fit sq k).1 = 0 ∨ dv < (snM fit sq k).2))) : snM fit sq (k + 1) = snM fit sq k := by
  subst e; exact if_neg h
theorem snM_t {fit : Nat → Bool} {sq : Nat → Int} {k : Nat} {dv : Int} (e : dv = if fit (k + 1) = true then sq (k + 1) else 2501) (h : dv ≤ 2500 ∧ ((snM fit sq k).1 = 0 ∨ dv < (snM fit sq k).2)) : snM fit sq (k + 1) = ((k : Int) + 1, dv) := by
  subst e; exact (if_pos h).trans (by simp)
/-- what the reference's squares need of a street -/
def okM (f g : Nat → Nat → Int) (x y : Int) (s : Nat) : Prop := (0 ≤ f 35 s ∧ f 35 s < 61) ∧ (0 ≤ f 36 s ∧ f 36 s < 61) ∧ (-100000 ≤ eX f g s ∧ eX f g s ≤ 100000) ∧ (-100000 ≤ eY f g s ∧ eY f g s ≤ 100000) ∧
  lR ((x - g 32 (f 35 s).toNat) * eX f g s + (y - g 33 (f 35 s).toNat) * eY f g s) ∧ lR ((x - g 32 (f 36 s).toNat) * eX f g s + (y - g 33 (f 36 s).toNat) * eY f g s) ∧
  (0 ≤ ((x - g 32 (f 35 s).toNat) * eY f g s - (y - g 33 (f 35 s).toNat) * eX f g s) * ((x - g 32 (f 35 s).toNat) * eY f g s - (y - g 33 (f 35 s).toNat) * eX f g s) ∧ ((x - g 32 (f 35 s).toNat) * eY f g s - (y - g 33 (f 35 s).toNat) * eX f g s) * ((x - g 32 (f 35 s).toNat) * eY f g s - (y - g 33 (f 35 s).toNat) * eX f g s) < 9223372036854775808) ∧
  (0 ≤ eX f g s * eX f g s + eY f g s * eY f g s ∧ eX f g s * eX f g s + eY f g s * eY f g s < 9223372036854775808) ∧ (¬ (x - g 32 (f 35 s).toNat) * eX f g s + (y - g 33 (f 35 s).toNat) * eY f g s ≤ 0 → 0 < eX f g s * eX f g s + eY f g s * eY f g s)
theorem sq_0 {a : Int} (h : a * a = 0) : a = 0 := by
  rcases Int.mul_eq_zero.mp h with h | h <;> exact h
theorem okM_of {f g : Nat → Nat → Int} {x y : Int} {s : Nat} (hx : -20000 ≤ x ∧ x ≤ 20000) (hy : -20000 ≤ y ∧ y ≤ 20000) (h6 : 0 ≤ f 35 s ∧ f 35 s < 61) (h7 : 0 ≤ f 36 s ∧ f 36 s < 61) (hX : ∀ k, -10000 ≤ g 32 k ∧ g 32 k ≤ 10000) (hY : ∀ k, -10000 ≤ g 33 k ∧ g 33 k ≤ 10000) : okM f g x y s := by
  have a1 := hX (f 35 s).toNat
  have a2 := hX (f 36 s).toNat
  have a3 := hY (f 35 s).toNat
  have a4 := hY (f 36 s).toNat
  have p1 : -30000 ≤ x - g 32 (f 35 s).toNat ∧ x - g 32 (f 35 s).toNat ≤ 30000 := by omega
  have p2 : -30000 ≤ y - g 33 (f 35 s).toNat ∧ y - g 33 (f 35 s).toNat ≤ 30000 := by omega
  have p3 : -30000 ≤ x - g 32 (f 36 s).toNat ∧ x - g 32 (f 36 s).toNat ≤ 30000 := by omega
  have p4 : -30000 ≤ y - g 33 (f 36 s).toNat ∧ y - g 33 (f 36 s).toNat ≤ 30000 := by omega
  have v1 : -20000 ≤ eX f g s ∧ eX f g s ≤ 20000 := by unfold eX; omega
  have v2 : -20000 ≤ eY f g s ∧ eY f g s ≤ 20000 := by unfold eY; omega
  unfold okM
  generalize eX f g s = vx at v1 ⊢
  generalize eY f g s = vy at v2 ⊢
  generalize x - g 32 (f 35 s).toNat = px at p1 ⊢
  generalize y - g 33 (f 35 s).toNat = py at p2 ⊢
  generalize x - g 32 (f 36 s).toNat = qx at p3 ⊢
  generalize y - g 33 (f 36 s).toNat = qy at p4 ⊢
  have m1 := mul_bd p1 v1
  have m2 := mul_bd p2 v2
  have m3 := mul_bd p1 v2
  have m4 := mul_bd p2 v1
  have m5 := mul_bd v1 v1
  have m6 := mul_bd v2 v2
  have m7 := mul_bd p3 v1
  have m8 := mul_bd p4 v2
  have n1 := sq_nn vx
  have n2 := sq_nn vy
  have c1 : -1200000000 ≤ px * vy - py * vx ∧ px * vy - py * vx ≤ 1200000000 := by omega
  have c2 := mul_bd c1 c1
  refine ⟨h6, h7, by omega, by omega, by omega, by omega, ⟨sq_nn _, by omega⟩, by omega, fun hz => ?_⟩
  rcases Int.lt_or_le 0 (vx * vx + vy * vy) with q | q
  · exact q
  · exfalso
    have z1 := sq_0 (a := vx) (by omega)
    have z2 := sq_0 (a := vy) (by omega)
    subst z1; subst z2
    simp at hz
/-- the two squares are one -/
theorem sq_same {px py vx vy qx qy : Int} (e1 : qx = px - vx) (e2 : qy = py - vy) : sqrZ px py vx vy = sqmZ px py vx vy qx qy := by
  subst e1; subst e2
  unfold sqrZ sqmZ
  have n1 := sq_nn vx
  have n2 := sq_nn vy
  have e3 : (px - vx) * vx + (py - vy) * vy = (px * vx + py * vy) - (vx * vx + vy * vy) := by
    rw [Int.sub_mul, Int.sub_mul]; omega
  rw [e3]
  by_cases h : px * vx + py * vy ≤ 0
  · rw [if_pos (Or.inl h), if_pos h]
  · have hv : ¬ vx * vx + vy * vy ≤ 0 := fun q => by
      have z1 := sq_0 (a := vx) (by omega)
      have z2 := sq_0 (a := vy) (by omega)
      subst z1; subst z2
      simp at h
    rw [if_neg (fun q => q.elim h hv), if_neg h]
    by_cases h2 : vx * vx + vy * vy ≤ px * vx + py * vy
    · rw [if_pos h2, if_pos (by omega)]
    · rw [if_neg h2, if_neg (by omega)]
