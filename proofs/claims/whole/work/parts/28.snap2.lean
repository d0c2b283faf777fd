/-! SNAP: the loops -/
theorem mul_bd {a b A B : Int} (ha : -A ≤ a ∧ a ≤ A) (hb : -B ≤ b ∧ b ≤ B) : -(A * B) ≤ a * b ∧ a * b ≤ A * B := by
  have h1 : a.natAbs ≤ A.natAbs := by omega
  have h2 : b.natAbs ≤ B.natAbs := by omega
  have h3 : (a * b).natAbs ≤ (A * B).natAbs := by
    rw [Int.natAbs_mul, Int.natAbs_mul]
    exact Nat.mul_le_mul h1 h2
  have h4 : 0 ≤ A * B := Int.mul_nonneg (by omega) (by omega)
  omega
theorem sq_nn (a : Int) : 0 ≤ a * a := by
  rw [← Int.natAbs_mul_self]
  exact Int.natCast_nonneg _
/-- what the class's squares need of a street -/
def okS (f g : Nat → Nat → Int) (x y : Int) (s : Nat) : Prop := (0 ≤ f 6 s ∧ f 6 s < 61) ∧ (0 ≤ f 7 s ∧ f 7 s < 61) ∧ (-100000 ≤ dX f g s ∧ dX f g s ≤ 100000) ∧ (-100000 ≤ dY f g s ∧ dY f g s ≤ 100000) ∧
  (-10000000000 ≤ (x - g 2 (f 6 s).toNat) * dX f g s + (y - g 3 (f 6 s).toNat) * dY f g s ∧ (x - g 2 (f 6 s).toNat) * dX f g s + (y - g 3 (f 6 s).toNat) * dY f g s ≤ 10000000000) ∧ (0 ≤ dX f g s * dX f g s + dY f g s * dY f g s ∧ dX f g s * dX f g s + dY f g s * dY f g s ≤ 10000000000) ∧
  (0 ≤ ((x - g 2 (f 6 s).toNat) * dY f g s - (y - g 3 (f 6 s).toNat) * dX f g s) * ((x - g 2 (f 6 s).toNat) * dY f g s - (y - g 3 (f 6 s).toNat) * dX f g s) ∧ ((x - g 2 (f 6 s).toNat) * dY f g s - (y - g 3 (f 6 s).toNat) * dX f g s) * ((x - g 2 (f 6 s).toNat) * dY f g s - (y - g 3 (f 6 s).toNat) * dX f g s) < 9223372036854775808)
theorem okS_of {f g : Nat → Nat → Int} {x y : Int} {s : Nat} (hx : -20000 ≤ x ∧ x ≤ 20000) (hy : -20000 ≤ y ∧ y ≤ 20000) (h6 : 0 ≤ f 6 s ∧ f 6 s < 61) (h7 : 0 ≤ f 7 s ∧ f 7 s < 61) (hX : ∀ k, -10000 ≤ g 2 k ∧ g 2 k ≤ 10000) (hY : ∀ k, -10000 ≤ g 3 k ∧ g 3 k ≤ 10000) : okS f g x y s := by
  have a1 := hX (f 6 s).toNat
  have a2 := hX (f 7 s).toNat
  have a3 := hY (f 6 s).toNat
  have a4 := hY (f 7 s).toNat
  have p1 : -30000 ≤ x - g 2 (f 6 s).toNat ∧ x - g 2 (f 6 s).toNat ≤ 30000 := by omega
  have p2 : -30000 ≤ y - g 3 (f 6 s).toNat ∧ y - g 3 (f 6 s).toNat ≤ 30000 := by omega
  have v1 : -20000 ≤ dX f g s ∧ dX f g s ≤ 20000 := by unfold dX; omega
  have v2 : -20000 ≤ dY f g s ∧ dY f g s ≤ 20000 := by unfold dY; omega
  unfold okS
  generalize dX f g s = vx at v1 ⊢
  generalize dY f g s = vy at v2 ⊢
  generalize x - g 2 (f 6 s).toNat = px at p1 ⊢
  generalize y - g 3 (f 6 s).toNat = py at p2 ⊢
  have m1 := mul_bd p1 v1
  have m2 := mul_bd p2 v2
  have m3 := mul_bd p1 v2
  have m4 := mul_bd p2 v1
  have m5 := mul_bd v1 v1
  have m6 := mul_bd v2 v2
  have n1 := sq_nn vx
  have n2 := sq_nn vy
  refine ⟨h6, h7, by omega, by omega, by omega, by omega, sq_nn _, ?_⟩
  have c1 : -1200000000 ≤ px * vy - py * vx ∧ px * vy - py * vx ≤ 1200000000 := by omega
  have := mul_bd c1 c1
  omega
theorem snC_f {fit : Nat → Bool} {sq : Nat → Int} {k : Nat} (h : ¬ (fit (k + 1) = true ∧ sq (k + 1) < (snC fit sq k).2)) : snC fit sq (k + 1) = snC fit sq k := if_neg h
theorem snC_t {fit : Nat → Bool} {sq : Nat → Int} {k : Nat} (h : fit (k + 1) = true) (h2 : sq (k + 1) < (snC fit sq k).2) : snC fit sq (k + 1) = ((k : Int) + 1, sq (k + 1)) := (if_pos ⟨h, h2⟩).trans (by simp)
abbrev fitC (f g : Nat → Nat → Int) (h : Int) (s : Nat) : Bool := fitB (octZ (dX f g s) (dY f g s)) h
abbrev sqC (f g : Nat → Nat → Int) (x y : Int) (s : Nat) : Int := sqrZ (x - g 2 (f 6 s).toNat) (y - g 3 (f 6 s).toNat) (dX f g s) (dY f g s)
theorem sqr_in {px py vx vy : Int} (hp : -30000 ≤ px ∧ px ≤ 30000) (hq : -30000 ≤ py ∧ py ≤ 30000) (hv : -20000 ≤ vx ∧ vx ≤ 20000) (hw : -20000 ≤ vy ∧ vy ≤ 20000) : 0 ≤ sqrZ px py vx vy ∧ sqrZ px py vx vy < 9223372036854775808 := by
  have m1 := mul_bd hp hp
  have m2 := mul_bd hq hq
  have d1 : -50000 ≤ px - vx ∧ px - vx ≤ 50000 := by omega
  have d2 : -50000 ≤ py - vy ∧ py - vy ≤ 50000 := by omega
  have m3 := mul_bd d1 d1
  have m4 := mul_bd d2 d2
  have n1 := sq_nn px
  have n2 := sq_nn py
  have n3 := sq_nn (px - vx)
  have n4 := sq_nn (py - vy)
  unfold sqrZ
  split
  · omega
  · split
    · omega
    · rename_i h1 h2
      have c1 := mul_bd hp hw
      have c2 := mul_bd hq hv
      have c3 : -1200000000 ≤ px * vy - py * vx ∧ px * vy - py * vx ≤ 1200000000 := by omega
      have c4 := mul_bd c3 c3
      have n5 := sq_nn (px * vy - py * vx)
      have q1 := Int.ediv_nonneg (a := (px * vy - py * vx) * (px * vy - py * vx)) (b := vx * vx + vy * vy) n5 (by omega)
      have q2 := Int.ediv_le_self (a := (px * vy - py * vx) * (px * vy - py * vx)) (vx * vx + vy * vy) n5
      omega
theorem sqC_in {f g : Nat → Nat → Int} {x y : Int} (hx : -20000 ≤ x ∧ x ≤ 20000) (hy : -20000 ≤ y ∧ y ≤ 20000) (hX : ∀ k, -10000 ≤ g 2 k ∧ g 2 k ≤ 10000) (hY : ∀ k, -10000 ≤ g 3 k ∧ g 3 k ≤ 10000) (s : Nat) : lR (sqC f g x y s) := by
  have a1 := hX (f 6 s).toNat
  have a2 := hX (f 7 s).toNat
  have a3 := hY (f 6 s).toNat
  have a4 := hY (f 7 s).toNat
  have := sqr_in (px := x - g 2 (f 6 s).toNat) (py := y - g 3 (f 6 s).toNat) (vx := dX f g s) (vy := dY f g s) (by omega) (by omega) (by unfold dX; omega) (by unfold dY; omega)
  exact ⟨Int.le_trans (by decide) this.1, this.2⟩
theorem lp_8 {d L : Nat} {sw : Bool} {f g : Nat → Nat → Int} {Q : Option Value → am_H → Prop} {x y h : Int} (hc : 0 ≤ f 5 8 ∧ f 5 8 ≤ 120) (hh : -1 ≤ h ∧ h ≤ 7) (hok : ∀ s : Nat, 1 ≤ s → (s : Int) ≤ f 5 8 → okS f g x y s) (hsq : ∀ s, lR (sqC f g x y s)) (K : Q (some (.int (iZ (snC (fitC f g h) (sqC f g x y) (f 5 8).toNat).1))) (53, sh_lt L, iH f, jH g, sh_rt sw)) : ∀ (m k : Nat) (a l i : Int), (f 5 8).toNat = k + m → a = (snC (fitC f g h) (sqC f g x y) k).1 → l = (snC (fitC f g h) (sqC f g x y) k).2 → i = k + 1 → am_Wp (am_call (d + 3)) 8 Q 50 [some (.ref 0), some (.long (lZ x)), none, some (.long (lZ y)), none, some (.int (iZ h)), some (.int (iZ a)), some (.long (lZ l)), none, some (.int (iZ i)), none, none] [] (53, sh_lt L, iH f, jH g, sh_rt sw) (0, 0) := by
  intro m
  induction m with
  | zero =>
    intro k a l i hk ea el ei
    refine ap_go kc_8_50 ?_
    refine ap_iload rfl ?_; refine ap_aload_n rfl ?_; refine ap_getR ow_8 rf_7_21 rfl rfl rfl ?_; refine ap_callv0 ow_8 rm_7_163 na_93 mc_93 ms_93 rfl rfl (Nat.le_of_ble_eq_true rfl) (Nat.le_of_ble_eq_true rfl) (Or.inr rfl) (Nat.zero_le _) (Nat.zero_le _) ?_; refine sp_93 ?_; dsimp only [Option.toList_some, Option.toList_none, List.cons_append, List.nil_append]
    refine ai_icgt rfl rfl (fun hc0 => ?_) (fun hc0 => ?_) ?_
    · refine ap_go kc_8_105 ?_
      refine ap_iload rfl ?_; refine ap_iret rfl ?_
      rw [hk] at K; rw [ea]; exact K
    · exfalso; omega
    all_goals (omega)
  | succ m ih =>
    intro k a l i hk ea el ei
    have hin := snC_in hsq (fit := fitC f g h) k
    rw [← ea, ← el] at hin
    have ei' : i.toNat = k + 1 := by omega
    obtain ⟨o1, o2, o3, o4, o5, o6, o7⟩ := hok (k + 1) (by omega) (by omega)
    rw [← ei'] at o1 o2 o3 o4 o5 o6 o7
    have hsk := hsq i.toNat
    have sf := snC_f (fit := fitC f g h) (sq := sqC f g x y) (k := k)
    have stt := snC_t (fit := fitC f g h) (sq := sqC f g x y) (k := k)
    refine ap_go kc_8_50 ?_
    refine ap_iload rfl ?_; refine ap_aload_n rfl ?_; refine ap_getR ow_8 rf_7_21 rfl rfl rfl ?_; refine ap_callv0 ow_8 rm_7_163 na_93 mc_93 ms_93 rfl rfl (Nat.le_of_ble_eq_true rfl) (Nat.le_of_ble_eq_true rfl) (Or.inr rfl) (Nat.zero_le _) (Nat.zero_le _) ?_; refine sp_93 ?_; dsimp only [Option.toList_some, Option.toList_none, List.cons_append, List.nil_append]
    refine ai_icgt rfl rfl (fun hc0 => ?_) (fun hc0 => ?_) ?_
    · exfalso; omega
    · refine ap_go kc_8_62 ?_
      refine ap_aload_n rfl ?_; refine ap_iload rfl ?_; refine ap_iload rfl ?_; refine ap_callv0 ow_8 rm_7_166 na_22 mc_22 ms_22 rfl rfl (Nat.le_of_ble_eq_true rfl) (Nat.le_of_ble_eq_true rfl) (Or.inr rfl) (Nat.zero_le _) (Nat.zero_le _) ?_; refine sp_22 ?_ ?_ ?_ ?_ ?_ ?_ ?_; dsimp only [Option.toList_some, Option.toList_none, List.cons_append, List.nil_append]
      refine ai_ifeq rfl rfl (fun hc1 => ?_) (fun hc1 => ?_) ?_
      · refine ap_go kc_8_99 ?_
        refine ai_iinc rfl rfl ?_; refine ap_goto rfl ?_
        (try simp only [bz, Decidable.not_not] at hc1); rw [ei'] at hc1; first | exact am_weak (by first | exact am_le_0 | (repeat (first | exact am_le_0 | refine am_le_n ?_ | refine am_le_s ?_))) (ih (k + 1) a l _ (by omega) (ea.trans (congrArg Prod.fst (sf (fun q => hc1 q.1))).symm) (el.trans (congrArg Prod.snd (sf (fun q => hc1 q.1))).symm) (by omega)) | (rw [ei', el] at hc2; exact am_weak (by first | exact am_le_0 | (repeat (first | exact am_le_0 | refine am_le_n ?_ | refine am_le_s ?_))) (ih (k + 1) a l _ (by omega) (ea.trans (congrArg Prod.fst (sf (fun q => absurd q.2 (Int.not_lt.mpr hc2)))).symm) (el.trans (congrArg Prod.snd (sf (fun q => absurd q.2 (Int.not_lt.mpr hc2)))).symm) (by omega))) | (rw [ei', el] at hc2; exact am_weak (by first | exact am_le_0 | (repeat (first | exact am_le_0 | refine am_le_n ?_ | refine am_le_s ?_))) (ih (k + 1) i _ _ (by omega) (ei.trans (congrArg Prod.fst (stt hc1 (Int.not_le.mp hc2))).symm) ((congrArg (sqC f g x y) ei').trans (congrArg Prod.snd (stt hc1 (Int.not_le.mp hc2))).symm) (by omega)))
      · refine ap_go kc_8_73 ?_
        refine ap_aload_n rfl ?_; refine ap_iload rfl ?_; refine ap_lload_n rfl ?_; refine ap_lload_n rfl ?_; refine ap_callv0 ow_8 rm_7_169 na_23 mc_23 ms_23 rfl rfl (Nat.le_of_ble_eq_true rfl) (Nat.le_of_ble_eq_true rfl) (Or.inr rfl) (Nat.zero_le _) (Nat.zero_le _) ?_; refine sp_23 ?_ ?_ ?_ ?_ ?_ ?_ ?_; dsimp only [Option.toList_some, Option.toList_none, List.cons_append, List.nil_append]; refine ap_lstore rfl ?_; refine ap_lload rfl ?_; refine ap_lload rfl ?_
        refine ai_lcge rfl rfl (fun hc2 => ?_) (fun hc2 => ?_) ?_
        · refine ap_go kc_8_99 ?_
          refine ai_iinc rfl rfl ?_; refine ap_goto rfl ?_
          (try simp only [bz, Decidable.not_not] at hc1); rw [ei'] at hc1; first | exact am_weak (by first | exact am_le_0 | (repeat (first | exact am_le_0 | refine am_le_n ?_ | refine am_le_s ?_))) (ih (k + 1) a l _ (by omega) (ea.trans (congrArg Prod.fst (sf (fun q => hc1 q.1))).symm) (el.trans (congrArg Prod.snd (sf (fun q => hc1 q.1))).symm) (by omega)) | (rw [ei', el] at hc2; exact am_weak (by first | exact am_le_0 | (repeat (first | exact am_le_0 | refine am_le_n ?_ | refine am_le_s ?_))) (ih (k + 1) a l _ (by omega) (ea.trans (congrArg Prod.fst (sf (fun q => absurd q.2 (Int.not_lt.mpr hc2)))).symm) (el.trans (congrArg Prod.snd (sf (fun q => absurd q.2 (Int.not_lt.mpr hc2)))).symm) (by omega))) | (rw [ei', el] at hc2; exact am_weak (by first | exact am_le_0 | (repeat (first | exact am_le_0 | refine am_le_n ?_ | refine am_le_s ?_))) (ih (k + 1) i _ _ (by omega) (ei.trans (congrArg Prod.fst (stt hc1 (Int.not_le.mp hc2))).symm) ((congrArg (sqC f g x y) ei').trans (congrArg Prod.snd (stt hc1 (Int.not_le.mp hc2))).symm) (by omega)))
        · refine ap_go kc_8_91 ?_
          refine ap_lload rfl ?_; refine ap_lstore rfl ?_; refine ap_iload rfl ?_; refine ap_istore rfl ?_; refine ap_nil ?_
          refine ap_go kc_8_99 ?_
          refine ai_iinc rfl rfl ?_; refine ap_goto rfl ?_
          (try simp only [bz, Decidable.not_not] at hc1); rw [ei'] at hc1; first | exact am_weak (by first | exact am_le_0 | (repeat (first | exact am_le_0 | refine am_le_n ?_ | refine am_le_s ?_))) (ih (k + 1) a l _ (by omega) (ea.trans (congrArg Prod.fst (sf (fun q => hc1 q.1))).symm) (el.trans (congrArg Prod.snd (sf (fun q => hc1 q.1))).symm) (by omega)) | (rw [ei', el] at hc2; exact am_weak (by first | exact am_le_0 | (repeat (first | exact am_le_0 | refine am_le_n ?_ | refine am_le_s ?_))) (ih (k + 1) a l _ (by omega) (ea.trans (congrArg Prod.fst (sf (fun q => absurd q.2 (Int.not_lt.mpr hc2)))).symm) (el.trans (congrArg Prod.snd (sf (fun q => absurd q.2 (Int.not_lt.mpr hc2)))).symm) (by omega))) | (rw [ei', el] at hc2; exact am_weak (by first | exact am_le_0 | (repeat (first | exact am_le_0 | refine am_le_n ?_ | refine am_le_s ?_))) (ih (k + 1) i _ _ (by omega) (ei.trans (congrArg Prod.fst (stt hc1 (Int.not_le.mp hc2))).symm) ((congrArg (sqC f g x y) ei').trans (congrArg Prod.snd (stt hc1 (Int.not_le.mp hc2))).symm) (by omega)))
        all_goals (first | omega | assumption | (split <;> omega) | exact ⟨hsk, hin.2⟩)
      all_goals (first | omega | assumption | (split <;> omega) | exact ⟨hsk, hin.2⟩)
    all_goals (first | omega | assumption | (split <;> omega) | exact ⟨hsk, hin.2⟩)
