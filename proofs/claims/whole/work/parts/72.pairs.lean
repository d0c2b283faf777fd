/-! THE CALLS, PAIR BY PAIR -/
theorem cZ_cg {p q : Nat → Bool} : ∀ n : Nat, (∀ k, 1 ≤ k → k ≤ n → p k = q k) → cZ p n = cZ q n
  | 0, _ => rfl
  | n + 1, h => by
    have e := h (n + 1) (by omega) (Nat.le_refl _)
    have ih := cZ_cg n (fun k a b => h k a (by omega))
    cases z : q (n + 1) with
    | true => rw [cZ_t (e.trans z), cZ_t z, ih]
    | false => rw [cZ_f (e.trans z), cZ_f z, ih]
theorem cZ_iR {p : Nat → Bool} {n : Nat} (h : n ≤ 120) : iR (cZ p n) := by
  have := cZ_in p n
  omega
theorem octZ_in (x y : Int) : -1 ≤ octZ x y ∧ octZ x y ≤ 7 := by
  unfold octZ
  repeat' split
  all_goals omega
theorem pr_13 {d L N : Nat} {sw : Bool} {f g : Nat → Nat → Int} (h : LVq N sw f g) : am_call (d + 7) 13 [.ref 0] (53, sh_lt L, iH f, jH g, sh_rt sw) (Mid L (N + 1) (d + 7) 52 [.ref 31]) := by
  have hx := h.2.2.2.2.2.2
  have e : f 0 9 = f 31 30 := hx.2.2.2.2.1
  have r : iR (f 31 30) := hx.2.2.2.2.2
  refine sp_13 ⟨f 0 9, f, g, sw, by rw [e]; exact r, rfl, rfl, ?_⟩
  exact sp_52 rfl ⟨by rw [e]; rfl, _, _, rfl, LV_c0 h (Nat.le_succ N)⟩
theorem pr_6_f {d L N : Nat} {f g : Nat → Nat → Int} {i : Int} (h : LVq N false f g) (hi : iR i) : am_call (d + 7) 6 [.ref 0, .int (iZ i)] (53, sh_lt L, iH f, jH g, sh_rt false) (Mid L (N + 1) (d + 7) 50 [.ref 31, .int (iZ i)]) := by
  obtain ⟨w1, w2, w3, ⟨w4, w5, w6⟩, w7, w8, w9, w10⟩ := h.2.2.2.2.2.1
  have w4' : f 27 1 = f 31 23 := w4
  have e : (if 0 ≤ i ∧ i < f 27 1 then (if 0 ≤ f 28 i.toNat then f 28 i.toNat else -f 28 i.toNat) else 0) = (if 0 ≤ i ∧ i < f 31 23 then f 47 i.toNat else 0) := by
    rw [w4']
    by_cases z : 0 ≤ i ∧ i < f 31 23
    · rw [if_pos z, if_pos z]; exact (w7 i.toNat (by omega)).1
    · rw [if_neg z, if_neg z]
  have r : iR (if 0 ≤ i ∧ i < f 31 23 then f 47 i.toNat else 0) := by
    split
    · rename_i z
      have := w9 i.toNat (by omega)
      have := h.2.1.1
      omega
    · decide
  refine sp_6_f ⟨_, f, g, false, by rw [e]; exact r, rfl, rfl, ?_⟩ hi (by rw [w4']; exact ⟨w5, w6⟩) (fun k => by have := w10 k; omega)
  exact sp_50 rfl ⟨by rw [e]; rfl, _, _, rfl, LV_c0 h (Nat.le_succ N)⟩ hi (show 0 ≤ f 31 23 ∧ f 31 23 ≤ 2600 by omega)
theorem pr_7_f {d L N : Nat} {f g : Nat → Nat → Int} (h : LVq N false f g) : am_call (d + 7) 7 [.ref 0] (53, sh_lt L, iH f, jH g, sh_rt false) (MidL L (N + 1) (d + 7) 51 [.ref 31]) := by
  obtain ⟨w1, w2, w3, ⟨w4, w5, w6⟩, w7, w8, w9, w10⟩ := h.2.2.2.2.2.1
  have w1' : f 27 3 = 0 ∨ f 27 3 = 1 := w1
  refine sp_7_f (fun z => ⟨-1, f, g, false, by decide, rfl, rfl, ?_⟩) (fun z => ⟨g 27 2, f, g, false, ?_, rfl, rfl, ?_⟩) w1'
  · exact sp_51 rfl ⟨by rw [(w3 z).1], _, _, rfl, LV_c0 h (Nat.le_succ N)⟩
  · have q := w2 (w1'.resolve_left z)
    have q2 : g 27 2 = g 31 25 := q.2.1
    rw [q2]
    have := q.1
    omega
  · have q := w2 (w1'.resolve_left z)
    have q2 : g 27 2 = g 31 25 := q.2.1
    exact sp_51 rfl ⟨by rw [q2], _, _, rfl, LV_c0 h (Nat.le_succ N)⟩
theorem pr_6_t {d L N : Nat} {f g : Nat → Nat → Int} {i : Int} (h : LVq N true f g) (hi : iR i) : am_call (d + 7) 6 [.ref 0, .int (iZ i)] (53, sh_lt L, iH f, jH g, sh_rt true) (Mid L (N + 1) (d + 7) 50 [.ref 31, .int (iZ i)]) := by
  obtain ⟨w1, w2, w3, ⟨w4, w5, w6⟩, w7, w8, w9, w10⟩ := h.2.2.2.2.2.1
  have w4' : f 29 1 = f 31 23 := w4
  have e : (if 0 ≤ i ∧ i < f 29 1 then (if 0 ≤ f 30 i.toNat then f 30 i.toNat else -f 30 i.toNat) else 0) = (if 0 ≤ i ∧ i < f 31 23 then f 47 i.toNat else 0) := by
    rw [w4']
    by_cases z : 0 ≤ i ∧ i < f 31 23
    · rw [if_pos z, if_pos z]; exact (w7 i.toNat (by omega)).1
    · rw [if_neg z, if_neg z]
  have r : iR (if 0 ≤ i ∧ i < f 31 23 then f 47 i.toNat else 0) := by
    split
    · rename_i z
      have := w9 i.toNat (by omega)
      have := h.2.1.1
      omega
    · decide
  refine sp_6_t ⟨_, f, g, true, by rw [e]; exact r, rfl, rfl, ?_⟩ hi (by rw [w4']; exact ⟨w5, w6⟩) (fun k => by have := w10 k; omega)
  exact sp_50 rfl ⟨by rw [e]; rfl, _, _, rfl, LV_c0 h (Nat.le_succ N)⟩ hi (show 0 ≤ f 31 23 ∧ f 31 23 ≤ 2600 by omega)
theorem pr_7_t {d L N : Nat} {f g : Nat → Nat → Int} (h : LVq N true f g) : am_call (d + 7) 7 [.ref 0] (53, sh_lt L, iH f, jH g, sh_rt true) (MidL L (N + 1) (d + 7) 51 [.ref 31]) := by
  obtain ⟨w1, w2, w3, ⟨w4, w5, w6⟩, w7, w8, w9, w10⟩ := h.2.2.2.2.2.1
  have w1' : f 29 3 = 0 ∨ f 29 3 = 1 := w1
  refine sp_7_t (fun z => ⟨-1, f, g, true, by decide, rfl, rfl, ?_⟩) (fun z => ⟨g 29 2, f, g, true, ?_, rfl, rfl, ?_⟩) w1'
  · exact sp_51 rfl ⟨by rw [(w3 z).1], _, _, rfl, LV_c0 h (Nat.le_succ N)⟩
  · have q := w2 (w1'.resolve_left z)
    have q2 : g 29 2 = g 31 25 := q.2.1
    rw [q2]
    have := q.1
    omega
  · have q := w2 (w1'.resolve_left z)
    have q2 : g 29 2 = g 31 25 := q.2.1
    exact sp_51 rfl ⟨by rw [q2], _, _, rfl, LV_c0 h (Nat.le_succ N)⟩
theorem pr_8 {d L N : Nat} {sw : Bool} {f g : Nat → Nat → Int} {x y hd : Int} (h : LVq N sw f g) (hx : lR x) (hy : lR y) (hh : iR hd) : am_call (d + 7) 8 [.ref 0, .long (lZ x), .long (lZ y), .int (iZ hd)] (53, sh_lt L, iH f, jH g, sh_rt sw) (Mid L (N + 1) (d + 7) 56 [.ref 31, .long (lZ x), .long (lZ y), .int (iZ hd)]) := by
  obtain ⟨n1, n2, n3, n4⟩ := h.1
  obtain ⟨s1, s2, s3, s4, s5, s6, s7⟩ := h.2.1
  have e2 : ∀ k, g 2 k = g 32 k := fun k => (n2 k).1
  have e3 : ∀ k, g 3 k = g 33 k := fun k => (n2 k).2.1
  have hX : ∀ k, -10000 ≤ g 32 k ∧ g 32 k ≤ 10000 := fun k => (n3 k).1
  have hY : ∀ k, -10000 ≤ g 33 k ∧ g 33 k ≤ 10000 := fun k => (n3 k).2
  have e5 : f 5 8 = f 31 5 := s1.1
  have hsn : (-20000 ≤ x ∧ x ≤ 20000 ∧ -20000 ≤ y ∧ y ≤ 20000 ∧ -1 ≤ hd ∧ hd ≤ 7) → (snC (fitC f g hd) (sqC f g x y) (f 5 8).toNat).1 = (snM (fitM (am_up f 31 0 0) g hd) (sqM (am_up f 31 0 0) g x y) (f 31 5).toNat).1 := by
    intro z
    rw [e5]
    refine (sn_same _ (fun k k1 k2 => ?_)).1
    obtain ⟨q6, q7⟩ := s2 k k1
    have ex : dX f g k = eX (am_up f 31 0 0) g k := by
      show g 2 (f 7 k).toNat - g 2 (f 6 k).toNat = g 32 (f 36 k).toNat - g 32 (f 35 k).toNat
      rw [q6, q7, e2, e2]
    have ey : dY f g k = eY (am_up f 31 0 0) g k := by
      show g 3 (f 7 k).toNat - g 3 (f 6 k).toNat = g 33 (f 36 k).toNat - g 33 (f 35 k).toNat
      rw [q6, q7, e3, e3]
    refine ⟨?_, ?_⟩
    · show fitB (octZ (dX f g k) (dY f g k)) hd = fitMB (octZ (eX (am_up f 31 0 0) g k) (eY (am_up f 31 0 0) g k)) hd
      rw [← ex, ← ey]
      exact fit_same (octZ_in _ _) ⟨z.2.2.2.2.1, z.2.2.2.2.2⟩
    · show sqrZ (x - g 2 (f 6 k).toNat) (y - g 3 (f 6 k).toNat) (dX f g k) (dY f g k) = sqmZ (x - g 32 (f 35 k).toNat) (y - g 33 (f 35 k).toNat) (eX (am_up f 31 0 0) g k) (eY (am_up f 31 0 0) g k) (x - g 32 (f 36 k).toNat) (y - g 33 (f 36 k).toNat)
      rw [← ex, ← ey, q6, e2, e3]
      refine sq_same ?_ ?_
      · show _ = _ - (g 2 (f 7 k).toNat - g 2 (f 6 k).toNat)
        rw [q6, q7, e2, e2]; omega
      · show _ = _ - (g 3 (f 7 k).toNat - g 3 (f 6 k).toNat)
        rw [q6, q7, e3, e3]; omega
  have hst : ∀ s : Nat, 1 ≤ s → (0 ≤ f 35 s ∧ f 35 s < 61) ∧ (0 ≤ f 36 s ∧ f 36 s < 61) := fun s _ => by have := s4 s; omega
  have hc : 0 ≤ f 31 5 ∧ f 31 5 ≤ 120 := s1.2
  refine sp_8 (fun z => ⟨-2, f, g, sw, by decide, rfl, rfl, ?_⟩) (fun z => ⟨_, f, g, sw, ?_, rfl, rfl, ?_⟩) hx hy hh (by rw [e5]; exact hc) (fun s q1 q2 => by rw [(s2 s q1).1, (s2 s q1).2]; exact hst s q1) (fun k => by rw [e2]; exact hX k) (fun k => by rw [e3]; exact hY k)
  · exact sp_56 rfl (fun _ => ⟨rfl, _, _, rfl, LV_c0 h (Nat.le_succ N)⟩) (fun z2 => absurd z2 z) hx hy hh hc (fun s q1 _ => hst s q1) hX hY
  · have := (snC_in (fit := fitC f g hd) (sq := sqC f g x y) (sqC_in ⟨z.1, z.2.1⟩ ⟨z.2.2.1, z.2.2.2.1⟩ (fun k => by rw [e2]; exact hX k) (fun k => by rw [e3]; exact hY k)) (f 5 8).toNat).1
    omega
  · exact sp_56 rfl (fun z2 => absurd z z2) (fun _ => ⟨by rw [hsn z]; rfl, _, _, rfl, LV_c0 h (Nat.le_succ N)⟩) hx hy hh hc (fun s q1 _ => hst s q1) hX hY
theorem pr_4 {d L N : Nat} {sw : Bool} {f g : Nat → Nat → Int} {n p : Int} (h : LVq N sw f g) (hn : iR n) (hp : lR p) : am_call (d + 7) 4 [.ref 0, .int (iZ n), .long (lZ p)] (53, sh_lt L, iH f, jH g, sh_rt sw) (Mid L (N + 1) (d + 7) 31 [.ref 31, .int (iZ n), .long (lZ p)]) := by
  obtain ⟨⟨n1, n1'⟩, n2, n3, n4⟩ := h.1
  have hc1 : 0 ≤ f 1 3 ∧ f 1 3 ≤ 60 := by rw [n1]; exact n1'
  have r4 : ∀ k, lR (g 4 k) := fun k => by rw [(n2 k).2.2]; have := n4 k; omega
  have r34 : ∀ k, lR (g 34 k) := fun k => by have := n4 k; omega
  refine sp_4 (fun z => ⟨-1, f, g, sw, by decide, rfl, rfl, ?_⟩) (fun z => ⟨-2, f, g, sw, by decide, rfl, rfl, ?_⟩) (fun z => ⟨_, f, am_up g 4 n.toNat p, sw, cZ_iR (by omega), rfl, rfl, ?_⟩) hn hp hc1 r4
  · rw [n1] at z
    exact sp_31 rfl (fun _ => ⟨rfl, _, _, rfl, LV_c0 h (Nat.le_succ N)⟩) (fun z2 => absurd z2.1 z) (fun z2 => absurd z2.1 z) hn hp n1' r34
  · rw [n1] at z
    exact sp_31 rfl (fun z2 => absurd z.1 z2) (fun _ => ⟨rfl, _, _, rfl, LV_c0 h (Nat.le_succ N)⟩) (fun z2 => absurd z2.2 z.2) hn hp n1' r34
  · rw [n1] at z
    have eq34 : am_up g 4 n.toNat p 34 = g 34 := am_up_ne (by decide)
    have e4 : ∀ k, am_up g 4 n.toNat p 4 k = am_up (am_up g 4 n.toNat p) 34 n.toNat p 34 k := by
      intro k
      rw [am_up_eq, am_up_eq, eq34]
      dsimp only
      by_cases y : k = n.toNat
      · rw [if_pos y, if_pos y]
      · rw [if_neg y, if_neg y, (n2 k).2.2]
    have ev : cZ (fun k => decide (0 < am_up g 4 n.toNat p 4 k)) (f 1 3).toNat = cZ (fun k => decide (0 < am_up (am_up g 4 n.toNat p) 34 n.toNat p 34 k)) (f 31 1).toNat := by
      rw [n1]
      exact cZ_cg _ (fun k _ _ => decide_eq_decide.mpr (by rw [e4 k]))
    refine sp_31 rfl (fun z2 => absurd z.1 z2) (fun z2 => absurd z.2 z2.2) (fun _ => ⟨by rw [ev]; rfl, _, _, rfl, ?_⟩) hn hp n1' (fun k => by rw [eq34]; exact r34 k)
    obtain ⟨h1, h2, h3, h4, h5, h6, h7⟩ := LV_c0 (c := 0) h (Nat.le_succ N)
    refine ⟨?_, LVs_cg h2 ⟨rfl, rfl, Int.le_refl _, rfl, fun _ _ => rfl, h2.2.2.2.2.2.2, rfl, rfl, rfl, rfl⟩ ⟨by rw [am_up_ne (by decide), am_up_ne (by decide)], by rw [am_up_ne (by decide), am_up_ne (by decide)], by rw [am_up_ne (by decide), am_up_ne (by decide)], by rw [am_up_ne (by decide), am_up_ne (by decide)], fun _ _ => by rw [am_up_ne (by decide), am_up_ne (by decide)]⟩, LVt_cg h3 (Nat.le_refl _) ⟨by rw [am_up_ne (by decide), am_up_ne (by decide)], by rw [am_up_ne (by decide), am_up_ne (by decide)], by rw [am_up_ne (by decide), am_up_ne (by decide)], by rw [am_up_ne (by decide), am_up_ne (by decide)], by rw [am_up_ne (by decide), am_up_ne (by decide)], by rw [am_up_ne (by decide), am_up_ne (by decide)]⟩, LVb_cg h4 rfl (by rw [am_up_ne (by decide), am_up_ne (by decide)]), h5, LVw_cg h6 ⟨rfl, rfl, rfl, rfl, rfl, rfl, rfl, rfl⟩ ⟨Int.le_refl _, rfl, fun _ _ _ => ⟨rfl, rfl⟩⟩ ⟨by rw [am_up_ne (by cases sw <;> decide), am_up_ne (by cases sw <;> decide)], by rw [am_up_ne (by decide), am_up_ne (by decide)]⟩, h7⟩
    refine ⟨⟨n1, n1'⟩, fun k => ?_, ?_, fun k => ?_⟩
    · rw [am_up_ne (by decide), am_up_ne (by decide), am_up_ne (by decide), am_up_ne (by decide), am_up_ne (by decide), am_up_ne (by decide), am_up_ne (by decide), am_up_ne (by decide)]
      refine ⟨(n2 k).1, (n2 k).2.1, ?_⟩
      rw [am_up_ne (by decide), am_up_eq, am_up_eq, eq34]
      dsimp only
      by_cases y : k = n.toNat
      · rw [if_pos y, if_pos y]
      · rw [if_neg y, if_neg y]; exact (n2 k).2.2
    · unfold XOk
      rw [am_up_ne (by decide), am_up_ne (by decide), am_up_ne (by decide), am_up_ne (by decide)]
      exact n3
    · rw [am_up_eq, eq34]
      dsimp only
      by_cases y : k = n.toNat
      · rw [if_pos y]; exact z.2
      · rw [if_neg y]; exact n4 k
