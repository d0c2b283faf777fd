/-! THE CALLS, PAIR BY PAIR: street -/
theorem LV_52 {N : Nat} {sw : Bool} {f g : Nat → Nat → Int} {x : Int} (h : LVq N sw f g) : LVq N sw f (am_up g 52 0 x) := by
  obtain ⟨h1, h2, h3, h4, h5, h6, h7⟩ := h
  exact ⟨LVn_cg h1 ⟨rfl, rfl⟩ ⟨(by first | rfl | (repeat rw [am_up_ne (by decide)])), (by first | rfl | (repeat rw [am_up_ne (by decide)])), (by first | rfl | (repeat rw [am_up_ne (by decide)])), (by first | rfl | (repeat rw [am_up_ne (by decide)])), (by first | rfl | (repeat rw [am_up_ne (by decide)])), (by first | rfl | (repeat rw [am_up_ne (by decide)]))⟩, LVs_cg h2 ⟨rfl, rfl, Int.le_refl _, rfl, fun _ _ => rfl, h2.2.2.2.2.2.2, rfl, rfl, rfl, rfl⟩ ⟨(by first | rfl | (repeat rw [am_up_ne (by decide)])), (by first | rfl | (repeat rw [am_up_ne (by decide)])), (by first | rfl | (repeat rw [am_up_ne (by decide)])), (by first | rfl | (repeat rw [am_up_ne (by decide)])), fun _ _ => (by first | rfl | (repeat rw [am_up_ne (by decide)]))⟩, LVt_cg h3 (Nat.le_refl _) ⟨(by first | rfl | (repeat rw [am_up_ne (by decide)])), (by first | rfl | (repeat rw [am_up_ne (by decide)])), (by first | rfl | (repeat rw [am_up_ne (by decide)])), (by first | rfl | (repeat rw [am_up_ne (by decide)])), (by first | rfl | (repeat rw [am_up_ne (by decide)])), (by first | rfl | (repeat rw [am_up_ne (by decide)]))⟩, LVb_cg h4 rfl (by first | rfl | (repeat rw [am_up_ne (by decide)])), h5, LVw_cg h6 ⟨rfl, rfl, rfl, rfl, rfl, rfl, rfl, rfl⟩ ⟨Int.le_refl _, rfl, fun _ _ _ => ⟨rfl, rfl⟩⟩ ⟨(by first | rfl | (repeat rw [am_up_ne (by cases sw <;> decide)])), (by first | rfl | (repeat rw [am_up_ne (by decide)]))⟩, h7⟩
/-- behind the class's street(), its answer kept in cell 52 -/
def MidS (L N d : Nat) (as : List Value) (v : Option Value) (h : am_H) : Prop := ∃ (x : Int) (F G : Nat → Nat → Int) (sw : Bool), iR x ∧ v = some (.int (iZ x)) ∧ h = (53, sh_lt L, iH F, jH G, sh_rt sw) ∧ am_call d 29 as (53, sh_lt L, iH F, jH (am_up G 52 0 x), sh_rt sw) (fun v' h' => v' = some (.int (iZ x)) ∧ ∃ F' G', h' = (53, sh_lt L, iH F', jH G', sh_rt sw) ∧ LVq N sw F' G' ∧ F' 31 0 = 0 ∧ G' 52 0 = x)
theorem mc_in {m c : Int} : 0 ≤ c → c ≤ 3 → 0 ≤ m → m ≤ 100000 → 0 ≤ m * c ∧ m * c ≤ 300000 := fun h1 h2 h3 h4 =>
  ⟨Int.mul_nonneg h3 h1, Int.mul_le_mul (a := m) (b := c) (c := 100000) (d := 3) h4 h2 h1 (by decide)⟩
/-- what is a street more -/
theorem LV_street {N : Nat} {sw : Bool} {f g : Nat → Nat → Int} {a b m v c x : Int} {k : Nat} (h : LVq N sw f g) (hk : f 31 5 + 1 = (k : Int)) (hk2 : f 31 5 < 120) (hn : (1 ≤ a ∧ a ≤ f 31 1 ∧ 1 ≤ b ∧ b ≤ f 31 1)) (hc : (¬ a = b ∧ 1 ≤ m ∧ m ≤ 100000 ∧ 0 ≤ v ∧ v ≤ 1000 ∧ 0 ≤ c ∧ c ≤ 3)) : LVq (N + 1) sw (am_up (am_up (am_up (am_up (am_up (am_up (am_up (am_up (am_up f 5 8 (f 31 5 + 1)) 6 k a) 7 k b) 10 k c) 31 0 0) 31 5 (f 31 5 + 1)) 35 k a) 36 k b) 39 k (1 + (m + m * c) / 20000)) (am_up (am_up (am_up (am_up (am_up (am_up g 8 k m) 9 k v) 52 0 x) 37 k m) 38 k v) 41 k (-1)) := by
  have eF : ∃ F, F = am_up (am_up (am_up (am_up (am_up (am_up (am_up (am_up (am_up f 5 8 (f 31 5 + 1)) 6 k a) 7 k b) 10 k c) 31 0 0) 31 5 (f 31 5 + 1)) 35 k a) 36 k b) 39 k (1 + (m + m * c) / 20000) := ⟨_, rfl⟩
  have eG : ∃ G, G = am_up (am_up (am_up (am_up (am_up (am_up g 8 k m) 9 k v) 52 0 x) 37 k m) 38 k v) 41 k (-1) := ⟨_, rfl⟩
  obtain ⟨F, eF⟩ := eF
  obtain ⟨G, eG⟩ := eG
  rw [← eF, ← eG]
  have a0 : ∀ y, y ≠ 5 → y ≠ 6 → y ≠ 7 → y ≠ 10 → y ≠ 31 → y ≠ 35 → y ≠ 36 → y ≠ 39 → F y = f y := fun y y1 y2 y3 y4 y5 y6 y7 y8 => by rw [eF, am_up_ne y8, am_up_ne y7, am_up_ne y6, am_up_ne y5, am_up_ne y5, am_up_ne y4, am_up_ne y3, am_up_ne y2, am_up_ne y1]
  have b0 : ∀ y, y ≠ 8 → y ≠ 9 → y ≠ 52 → y ≠ 37 → y ≠ 38 → y ≠ 41 → G y = g y := fun y y1 y2 y3 y4 y5 y6 => by rw [eG, am_up_ne y6, am_up_ne y5, am_up_ne y4, am_up_ne y3, am_up_ne y2, am_up_ne y1]
  have a31 : ∀ j, j ≠ 0 → j ≠ 5 → F 31 j = f 31 j := fun j j1 j2 => by rw [eF, am_up_ne (by decide), am_up_ne (by decide), am_up_ne (by decide), am_up_eq]; dsimp only; rw [if_neg j2, am_up_eq]; dsimp only; rw [if_neg j1, am_up_ne (by decide), am_up_ne (by decide), am_up_ne (by decide), am_up_ne (by decide)]
  have a5 : F 31 5 = f 31 5 + 1 := by rw [eF]; rfl
  have a58 : F 5 8 = f 31 5 + 1 := by rw [eF]; rfl
  have c6 : ∀ i, F 6 i = if i = k then a else f 6 i := fun i => by rw [eF, am_up_ne (by decide), am_up_ne (by decide), am_up_ne (by decide), am_up_ne (by decide), am_up_ne (by decide), am_up_ne (by decide), am_up_ne (by decide), am_up_eq, am_up_ne (by decide)]
  have c7 : ∀ i, F 7 i = if i = k then b else f 7 i := fun i => by rw [eF, am_up_ne (by decide), am_up_ne (by decide), am_up_ne (by decide), am_up_ne (by decide), am_up_ne (by decide), am_up_ne (by decide), am_up_eq, am_up_ne (by decide), am_up_ne (by decide)]
  have c10 : ∀ i, F 10 i = if i = k then c else f 10 i := fun i => by rw [eF, am_up_ne (by decide), am_up_ne (by decide), am_up_ne (by decide), am_up_ne (by decide), am_up_ne (by decide), am_up_eq, am_up_ne (by decide), am_up_ne (by decide), am_up_ne (by decide)]
  have c35 : ∀ i, F 35 i = if i = k then a else f 35 i := fun i => by rw [eF, am_up_ne (by decide), am_up_ne (by decide), am_up_eq, am_up_ne (by decide), am_up_ne (by decide), am_up_ne (by decide), am_up_ne (by decide), am_up_ne (by decide), am_up_ne (by decide)]
  have c36 : ∀ i, F 36 i = if i = k then b else f 36 i := fun i => by rw [eF, am_up_ne (by decide), am_up_eq, am_up_ne (by decide), am_up_ne (by decide), am_up_ne (by decide), am_up_ne (by decide), am_up_ne (by decide), am_up_ne (by decide), am_up_ne (by decide)]
  have c39 : ∀ i, F 39 i = if i = k then 1 + (m + m * c) / 20000 else f 39 i := fun i => by rw [eF, am_up_eq, am_up_ne (by decide), am_up_ne (by decide), am_up_ne (by decide), am_up_ne (by decide), am_up_ne (by decide), am_up_ne (by decide), am_up_ne (by decide), am_up_ne (by decide)]
  have d8 : ∀ i, G 8 i = if i = k then m else g 8 i := fun i => by rw [eG, am_up_ne (by decide), am_up_ne (by decide), am_up_ne (by decide), am_up_ne (by decide), am_up_ne (by decide), am_up_eq]
  have d9 : ∀ i, G 9 i = if i = k then v else g 9 i := fun i => by rw [eG, am_up_ne (by decide), am_up_ne (by decide), am_up_ne (by decide), am_up_ne (by decide), am_up_eq, am_up_ne (by decide)]
  have d37 : ∀ i, G 37 i = if i = k then m else g 37 i := fun i => by rw [eG, am_up_ne (by decide), am_up_ne (by decide), am_up_eq, am_up_ne (by decide), am_up_ne (by decide), am_up_ne (by decide)]
  have d38 : ∀ i, G 38 i = if i = k then v else g 38 i := fun i => by rw [eG, am_up_ne (by decide), am_up_eq, am_up_ne (by decide), am_up_ne (by decide), am_up_ne (by decide), am_up_ne (by decide)]
  have d41 : ∀ i, G 41 i = if i = k then -1 else g 41 i := fun i => by rw [eG, am_up_eq, am_up_ne (by decide), am_up_ne (by decide), am_up_ne (by decide), am_up_ne (by decide), am_up_ne (by decide)]
  clear eF eG
  have aa : ∀ y, (y = 1 ∨ y = 42 ∨ y = 0 ∨ y = 14 ∨ y = 27 ∨ y = 28 ∨ y = 29 ∨ y = 30 ∨ y = 47 ∨ y = 48 ∨ y = 24 ∨ y = 25 ∨ y = 26 ∨ y = 51) → F y = f y := fun y hy => a0 y (by omega) (by omega) (by omega) (by omega) (by omega) (by omega) (by omega) (by omega)
  have bb : ∀ y, (y = 2 ∨ y = 3 ∨ y = 4 ∨ y = 32 ∨ y = 33 ∨ y = 34 ∨ y = 11 ∨ y = 12 ∨ y = 40 ∨ y = 0 ∨ y = 31 ∨ y = 13 ∨ y = 27 ∨ y = 29) → G y = g y := fun y hy => b0 y (by omega) (by omega) (by omega) (by omega) (by omega) (by omega)
  obtain ⟨h1, h2, h3, h4, h5, h6, h7⟩ := h
  have hmc := mc_in hc.2.2.2.2.2.1 hc.2.2.2.2.2.2 (by omega) hc.2.2.1
  obtain ⟨s1, s2, s3, s4, s5, s6, s7⟩ := h2
  have e1c : 1 + (m + m * c) / 20000 = 1 + m * (1 + c) / 20000 := by rw [Int.mul_add, Int.mul_one]
  refine ⟨LVn_cg h1 ⟨by rw [aa 1 (by omega)], a31 1 (by decide) (by decide)⟩ ⟨bb 2 (by omega), bb 3 (by omega), bb 4 (by omega), bb 32 (by omega), bb 33 (by omega), bb 34 (by omega)⟩, ?_, ?_, LVb_cg h4 (aa 42 (by omega)) (bb 13 (by omega)), LVp_cg h5 ⟨by rw [aa 0 (by omega)], a31 15 (by decide) (by decide), a31 16 (by decide) (by decide), a31 17 (by decide) (by decide), a31 18 (by decide) (by decide), by rw [a31 1 (by decide) (by decide)]; exact Int.le_refl _, aa 14 (by omega), by rw [c7, if_neg (by omega)]⟩, LVw_cg h6 ⟨by cases sw; exact aa 27 (by omega); exact aa 29 (by omega), by cases sw; exact aa 28 (by omega); exact aa 30 (by omega), aa 28 (by omega), aa 30 (by omega), by rw [aa 0 (by omega)], a31 23 (by decide) (by decide), aa 47 (by omega), aa 48 (by omega)⟩ ⟨by rw [a5]; omega, a31 15 (by decide) (by decide), fun i _ hi => ⟨by rw [c35, if_neg (by omega)], by rw [c36, if_neg (by omega)]⟩⟩ ⟨by cases sw; exact bb 27 (by omega); exact bb 29 (by omega), by rw [bb 31 (by omega)]⟩, LVx_cg h7 ⟨aa 24 (by omega), aa 25 (by omega), aa 26 (by omega), aa 51 (by omega), a31 30 (by decide) (by decide), a31 32 (by decide) (by decide), a31 34 (by decide) (by decide), a31 35 (by decide) (by decide), by rw [aa 0 (by omega)]⟩⟩
  · refine ⟨⟨by rw [a58, a5], by rw [a5]; omega, by rw [a5]; omega⟩, fun i hi => ?_, fun i => ?_, fun i => ?_, fun i i1 i2 => ?_, ?_, ?_⟩
    · rw [c6, c7, c35, c36]
      by_cases z : i = k
      · rw [if_pos z, if_pos z, if_pos z, if_pos z]; exact ⟨rfl, rfl⟩
      · rw [if_neg z, if_neg z, if_neg z, if_neg z]; exact s2 i hi
    · rw [d8, d9, d37, d38, a5, bb 12 (by omega)]
      refine ⟨?_, ?_, fun q => (s3 i).2.2 (by omega)⟩
      · by_cases z : i = k
        · rw [if_pos z, if_pos z]
        · rw [if_neg z, if_neg z]; exact (s3 i).1
      · by_cases z : i = k
        · rw [if_pos z, if_pos z]
        · rw [if_neg z, if_neg z]; exact (s3 i).2.1
    · rw [c35, c36, c39, c10, d37, d38]
      by_cases z : i = k
      · rw [if_pos z, if_pos z, if_pos z, if_pos z, if_pos z, if_pos z]
        have := s4 k
        have := h1.1
        refine ⟨by omega, by omega, by omega, by omega, by omega, by omega⟩
      · rw [if_neg z, if_neg z, if_neg z, if_neg z, if_neg z, if_neg z]; exact s4 i
    · rw [c35, c36, c39, c10, d37, a31 1 (by decide) (by decide)]
      rw [a5] at i2
      by_cases z : i = k
      · rw [if_pos z, if_pos z, if_pos z, if_pos z, if_pos z]
        exact ⟨⟨hn.1, hn.2.1⟩, ⟨hn.2.2.1, hn.2.2.2⟩, e1c, by omega⟩
      · rw [if_neg z, if_neg z, if_neg z, if_neg z, if_neg z]; exact s5 i i1 (by omega)
    · rw [c6, if_neg (by omega)]; exact s6
    · rw [c7, if_neg (by omega)]; exact s7
  · obtain ⟨t1, t2, t3, t4⟩ := h3
    refine ⟨fun i => ?_, by rw [bb 0 (by omega), bb 31 (by omega)]; exact t2, by rw [bb 31 (by omega)]; exact t3, by rw [bb 31 (by omega)]; omega⟩
    rw [bb 11 (by omega), bb 12 (by omega), bb 40 (by omega), d41]
    by_cases z : i = k
    · rw [if_pos z]
      have q := (s3 i).2.2 (by omega)
      obtain ⟨_, q2, q3, q4, q5, q6⟩ := t1 i
      exact ⟨Or.inr ⟨q, by decide⟩, q2, q3, by decide, q5, q6⟩
    · rw [if_neg z]; exact t1 i
theorem pr_2 {d L N : Nat} {sw : Bool} {f g : Nat → Nat → Int} {a b m v c : Int} (h : LVq N sw f g) (ha : iR a) (hb : iR b) (hm : lR m) (hv : lR v) (hc : iR c) (hnt : ¬ ((1 ≤ a ∧ a ≤ f 31 1 ∧ 1 ≤ b ∧ b ≤ f 31 1) ∧ (¬ a = b ∧ 1 ≤ m ∧ m ≤ 100000 ∧ 0 ≤ v ∧ v ≤ 1000 ∧ 0 ≤ c ∧ c ≤ 3) ∧ f 31 5 < 120 ∧ v = 0)) : am_call (d + 7) 2 [.ref 0, .int (iZ a), .int (iZ b), .long (lZ m), .long (lZ v), .int (iZ c)] (53, sh_lt L, iH f, jH g, sh_rt sw) (MidS L (N + 1) (d + 7) [.ref 31, .int (iZ a), .int (iZ b), .long (lZ m), .long (lZ v), .int (iZ c)]) := by
  obtain ⟨n1, n1'⟩ := h.1.1
  obtain ⟨s1, s1'⟩ := h.2.1.1
  have h52 : ∀ x, LVq (N + 1) sw (am_up f 31 0 0) (am_up g 52 0 x) := fun x => LV_c0 (LV_52 h) (Nat.le_succ N)
  refine sp_2 (fun z => ⟨-1, f, g, sw, by decide, rfl, rfl, ?_⟩) (fun z => ⟨-2, f, g, sw, by decide, rfl, rfl, ?_⟩) (fun z => ⟨-4, f, g, sw, by decide, rfl, rfl, ?_⟩) (fun z => ⟨f 5 8 + 1, _, _, sw, by omega, rfl, rfl, ?_⟩) ha hb hm hv hc (by rw [n1]; exact n1') (by rw [s1]; exact s1') (by rw [n1, s1]; exact hnt)
  · rw [n1] at z
    exact sp_29 rfl (fun _ => ⟨rfl, _, _, rfl, h52 _, rfl, rfl⟩) (fun z2 => absurd z2.1 z) (fun z2 => absurd z2.1 z) (fun z2 => absurd z2.1 z) (fun z2 => absurd z2.1 z) ha hb hm hv hc n1' s1' mc_in
  · rw [n1] at z
    exact sp_29 rfl (fun z2 => absurd z.1 z2) (fun _ => ⟨rfl, _, _, rfl, h52 _, rfl, rfl⟩) (fun z2 => absurd z2.2.1 z.2) (fun z2 => absurd z2.2.1 z.2) (fun z2 => absurd z2.2.1 z.2) ha hb hm hv hc n1' s1' mc_in
  · rw [n1, s1] at z
    exact sp_29 rfl (fun z2 => absurd z.1 z2) (fun z2 => absurd z.2.1 z2.2) (fun _ => ⟨rfl, _, _, rfl, h52 _, rfl, rfl⟩) (fun z2 => by have q : f 31 5 < 120 := z2.2.2.1; have := z.2.2; omega) (fun z2 => by have q : f 31 5 < 120 := z2.2.2.1; have := z.2.2; omega) ha hb hm hv hc n1' s1' mc_in
  · rw [n1, s1] at z
    rw [s1]
    have hk : f 31 5 + 1 = (((f 31 5 + 1).toNat : Nat) : Int) := by omega
    refine sp_29 rfl (fun z2 => absurd z.1 z2) (fun z2 => absurd z.2.1 z2.2) (fun z2 => by have q : f 31 5 = 120 := z2.2.2; have := z.2.2.1; omega) (fun z2 => absurd z2.2.2.2 z.2.2.2) (fun _ => ⟨rfl, _, _, rfl, LV_street h hk z.2.2.1 z.1 z.2.1, rfl, rfl⟩) ha hb hm hv hc n1' s1' mc_in
/-- behind a throw of the class -/
theorem pr_2t {d L N : Nat} {sw : Bool} {f g : Nat → Nat → Int} {a b m v c : Int} (h : LVq N sw f g) (ha : iR a) (hb : iR b) (hm : lR m) (hv : lR v) (hc : iR c) (ht : (1 ≤ a ∧ a ≤ f 31 1 ∧ 1 ≤ b ∧ b ≤ f 31 1) ∧ (¬ a = b ∧ 1 ≤ m ∧ m ≤ 100000 ∧ 0 ≤ v ∧ v ≤ 1000 ∧ 0 ≤ c ∧ c ≤ 3) ∧ f 31 5 < 120 ∧ v = 0) : am_call (d + 7) 29 [.ref 31, .int (iZ a), .int (iZ b), .long (lZ m), .long (lZ v), .int (iZ c)] (53, sh_lt L, iH f, jH g, sh_rt sw) (fun v' h' => v' = some (.int (iZ 0)) ∧ ∃ F' G', h' = (53, sh_lt L, iH F', jH G', sh_rt sw) ∧ LVq (N + 1) sw F' G' ∧ F' 31 0 = 1) := by
  obtain ⟨n1, n1'⟩ := h.1.1
  obtain ⟨s1, s1'⟩ := h.2.1.1
  exact sp_29 rfl (fun z2 => absurd ht.1 z2) (fun z2 => absurd ht.2.1 z2.2) (fun z2 => by have q : f 31 5 = 120 := z2.2.2; have := ht.2.2.1; omega) (fun _ => ⟨rfl, _, _, rfl, LV_c0 (c := 1) (LV_c0 (c := 0) h (Nat.le_succ N)) (Nat.le_refl _), rfl⟩) (fun z2 => absurd ht.2.2.2 z2.2.2.2) ha hb hm hv hc n1' s1' mc_in
