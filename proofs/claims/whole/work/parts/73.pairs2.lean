/-! THE CALLS, PAIR BY PAIR: traffic, node, turn -/
theorem pr_9 {d L N : Nat} {sw : Bool} {f g : Nat → Nat → Int} {s v w : Int} (h : LVq N sw f g) (hN : N ≤ 4096) (hs : iR s) (hv : lR v) (hw : lR w) : am_call (d + 7) 9 [.ref 0, .int (iZ s), .long (lZ v), .long (lZ w)] (53, sh_lt L, iH f, jH g, sh_rt sw) (Mid L (N + 1) (d + 7) 32 [.ref 31, .int (iZ s), .long (lZ v), .long (lZ w)]) := by
  obtain ⟨s1, s1'⟩ := h.2.1.1
  obtain ⟨t1, t2, t3, t4⟩ := h.2.2.1
  have hc1 : 0 ≤ f 5 8 ∧ f 5 8 ≤ 120 := by rw [s1]; exact s1'
  have r12 : ∀ k, lR (g 12 k) := fun k => (t1 k).2.1
  have r41 : ∀ k, lR (g 41 k) := fun k => (t1 k).2.2.2.1
  have rp : lR (g 31 14) := by omega
  refine sp_9 (fun z => ⟨-1, f, g, sw, by decide, rfl, rfl, ?_⟩) (fun z => ⟨-2, f, g, sw, by decide, rfl, rfl, ?_⟩) (fun z => ⟨_, f, am_up (am_up g 11 s.toNat v) 12 s.toNat w, sw, cZ_iR (by omega), rfl, rfl, ?_⟩) hs hv hw hc1 (by omega) r12
  · rw [s1] at z
    exact sp_32 rfl (fun _ => ⟨rfl, _, _, rfl, LV_c0 h (Nat.le_succ N)⟩) (fun z2 => absurd z2.1 z) (fun z2 => absurd z2.1 z) hs hv hw s1' rp r41
  · rw [s1] at z
    exact sp_32 rfl (fun z2 => absurd z.1 z2) (fun _ => ⟨rfl, _, _, rfl, LV_c0 h (Nat.le_succ N)⟩) (fun z2 => absurd z2.2 z.2) hs hv hw s1' rp r41
  · rw [s1] at z
    have e41 : am_up (am_up g 11 s.toNat v) 12 s.toNat w 41 = g 41 := (by first | rfl | (repeat rw [am_up_ne (by decide)]))
    have e40 : am_up (am_up g 11 s.toNat v) 12 s.toNat w 40 = g 40 := (by first | rfl | (repeat rw [am_up_ne (by decide)]))
    have ep : am_up (am_up g 11 s.toNat v) 12 s.toNat w 31 14 = g 31 14 := rfl
    have c12 : ∀ k, am_up (am_up g 11 s.toNat v) 12 s.toNat w 12 k = if k = s.toNat then w else g 12 k := fun k => by rw [am_up_eq, am_up_ne (by decide)]
    have c41 : ∀ k, am_up (am_up (am_up (am_up g 11 s.toNat v) 12 s.toNat w) 40 s.toNat v) 41 s.toNat w 41 k = if k = s.toNat then w else g 41 k := fun k => by rw [am_up_eq, am_up_ne (by decide), e41]
    have c11 : ∀ k, am_up (am_up (am_up (am_up g 11 s.toNat v) 12 s.toNat w) 40 s.toNat v) 41 s.toNat w 11 k = if k = s.toNat then v else g 11 k := fun k => by rw [am_up_ne (by decide), am_up_ne (by decide), am_up_ne (by decide), am_up_eq]
    have c40 : ∀ k, am_up (am_up (am_up (am_up g 11 s.toNat v) 12 s.toNat w) 40 s.toNat v) 41 s.toNat w 40 k = if k = s.toNat then v else g 40 k := fun k => by rw [am_up_ne (by decide), am_up_eq, e40]
    have c12b : ∀ k, am_up (am_up (am_up (am_up g 11 s.toNat v) 12 s.toNat w) 40 s.toNat v) 41 s.toNat w 12 k = if k = s.toNat then w else g 12 k := fun k => by rw [am_up_ne (by decide), am_up_ne (by decide)]; exact c12 k
    have ev : cZ (fun k => decide (g 0 8 + 1 ≤ am_up (am_up g 11 s.toNat v) 12 s.toNat w 12 k)) (f 5 8).toNat = cZ (fun k => decide (am_up (am_up g 11 s.toNat v) 12 s.toNat w 31 14 < am_up (am_up (am_up (am_up g 11 s.toNat v) 12 s.toNat w) 40 s.toNat v) 41 s.toNat w 41 k)) (f 31 5).toNat := by
      rw [s1]
      refine cZ_cg _ (fun k _ _ => decide_eq_decide.mpr ?_)
      rw [c12 k, c41 k, ep]
      by_cases y : k = s.toNat
      · rw [if_pos y, if_pos y]; omega
      · rw [if_neg y, if_neg y]
        rcases (t1 k).1 with ⟨_, q⟩ | ⟨q1, q2⟩ <;> omega
    refine sp_32 rfl (fun z2 => absurd z.1 z2) (fun z2 => absurd z.2 z2.2) (fun _ => ⟨by rw [ev]; rfl, _, _, rfl, ?_⟩) hs hv hw s1' (by rw [ep]; exact rp) (fun k => by rw [e41]; exact r41 k)
    obtain ⟨h1, h2, h3, h4, h5, h6, h7⟩ := LV_c0 (c := 0) h (Nat.le_succ N)
    refine ⟨LVn_cg h1 ⟨rfl, rfl⟩ ⟨(by first | rfl | (repeat rw [am_up_ne (by decide)])), (by first | rfl | (repeat rw [am_up_ne (by decide)])), (by first | rfl | (repeat rw [am_up_ne (by decide)])), (by first | rfl | (repeat rw [am_up_ne (by decide)])), (by first | rfl | (repeat rw [am_up_ne (by decide)])), (by first | rfl | (repeat rw [am_up_ne (by decide)]))⟩, LVs_cg h2 ⟨rfl, rfl, Int.le_refl _, rfl, fun _ _ => rfl, h2.2.2.2.2.2.2, rfl, rfl, rfl, rfl⟩ ⟨(by first | rfl | (repeat rw [am_up_ne (by decide)])), (by first | rfl | (repeat rw [am_up_ne (by decide)])), (by first | rfl | (repeat rw [am_up_ne (by decide)])), (by first | rfl | (repeat rw [am_up_ne (by decide)])), fun k hk => by rw [c12b, if_neg (by have hk' : f 31 5 < (k : Int) := hk; omega)]⟩, ?_, LVb_cg h4 rfl (by first | rfl | (repeat rw [am_up_ne (by decide)])), h5, LVw_cg h6 ⟨rfl, rfl, rfl, rfl, rfl, rfl, rfl, rfl⟩ ⟨Int.le_refl _, rfl, fun _ _ _ => ⟨rfl, rfl⟩⟩ ⟨(by first | rfl | (repeat rw [am_up_ne (by cases sw <;> decide)])), rfl⟩, h7⟩
    refine ⟨fun k => ?_, t2, t3, by show g 31 14 ≤ _; omega⟩
    rw [c11, c12b, c40, c41]
    by_cases y : k = s.toNat
    · rw [if_pos y, if_pos y, if_pos y, if_pos y]; exact ⟨Or.inl ⟨rfl, rfl⟩, hw, hv, hw, z.2.1, z.2.2.1⟩
    · rw [if_neg y, if_neg y, if_neg y, if_neg y]; exact t1 k
theorem pr_1 {d L N : Nat} {sw : Bool} {f g : Nat → Nat → Int} {x y : Int} (h : LVq N sw f g) (hx : lR x) (hy : lR y) : am_call (d + 7) 1 [.ref 0, .long (lZ x), .long (lZ y)] (53, sh_lt L, iH f, jH g, sh_rt sw) (Mid L (N + 1) (d + 7) 28 [.ref 31, .long (lZ x), .long (lZ y)]) := by
  obtain ⟨⟨n1, n1'⟩, n2, n3, n4⟩ := h.1
  have hc1 : 0 ≤ f 1 3 ∧ f 1 3 ≤ 60 := by rw [n1]; exact n1'
  refine sp_1 (fun z => ⟨-2, f, g, sw, by decide, rfl, rfl, ?_⟩) (fun z => ⟨-4, f, g, sw, by decide, rfl, rfl, ?_⟩) (fun z => ⟨f 1 3 + 1, am_up f 1 3 (f 1 3 + 1), am_up (am_up g 2 (f 1 3 + 1).toNat x) 3 (f 1 3 + 1).toNat y, sw, by omega, rfl, rfl, ?_⟩) hx hy hc1
  · exact sp_28 rfl (fun _ => ⟨rfl, _, _, rfl, LV_c0 h (Nat.le_succ N)⟩) (fun z2 => absurd z2.1 z) (fun z2 => absurd z2.1 z) hx hy n1'
  · rw [n1] at z
    exact sp_28 rfl (fun z2 => absurd z.1 z2) (fun _ => ⟨rfl, _, _, rfl, LV_c0 h (Nat.le_succ N)⟩) (fun z2 => by have q1 := z.2; have q2 : f 31 1 < 60 := z2.2; omega) hx hy n1'
  · rw [n1] at z ⊢
    have q : f 31 1 < 60 := z.2
    refine sp_28 rfl (fun z2 => absurd z.1 z2) (fun z2 => by have q2 : f 31 1 = 60 := z2.2; omega) (fun _ => ⟨rfl, _, _, rfl, ?_⟩) hx hy n1'
    show LVq (N + 1) sw (am_up (am_up (am_up f 1 3 (f 31 1 + 1)) 31 0 0) 31 1 (f 31 1 + 1)) (am_up (am_up (am_up (am_up g 2 (f 31 1 + 1).toNat x) 3 (f 31 1 + 1).toNat y) 32 (f 31 1 + 1).toNat x) 33 (f 31 1 + 1).toNat y)
    obtain ⟨h1, h2, h3, h4, h5, h6, h7⟩ := LV_c0 (c := 0) h (Nat.le_succ N)
    have le1 : (am_up f 31 0 0) 31 1 ≤ f 31 1 + 1 := by show f 31 1 ≤ _; omega
    refine ⟨?_, LVs_cg h2 ⟨rfl, rfl, le1, rfl, fun _ _ => rfl, h2.2.2.2.2.2.2, rfl, rfl, rfl, rfl⟩ ⟨(by first | rfl | (repeat rw [am_up_ne (by decide)])), (by first | rfl | (repeat rw [am_up_ne (by decide)])), (by first | rfl | (repeat rw [am_up_ne (by decide)])), (by first | rfl | (repeat rw [am_up_ne (by decide)])), fun _ _ => (by first | rfl | (repeat rw [am_up_ne (by decide)]))⟩, LVt_cg h3 (Nat.le_refl _) ⟨(by first | rfl | (repeat rw [am_up_ne (by decide)])), (by first | rfl | (repeat rw [am_up_ne (by decide)])), (by first | rfl | (repeat rw [am_up_ne (by decide)])), (by first | rfl | (repeat rw [am_up_ne (by decide)])), (by first | rfl | (repeat rw [am_up_ne (by decide)])), (by first | rfl | (repeat rw [am_up_ne (by decide)]))⟩, LVb_cg h4 rfl (by first | rfl | (repeat rw [am_up_ne (by decide)])), LVp_cg h5 ⟨rfl, rfl, rfl, rfl, rfl, le1, rfl, rfl⟩, LVw_cg h6 ⟨(by first | rfl | (repeat rw [am_up_ne (by cases sw <;> decide)])), (by first | rfl | (repeat rw [am_up_ne (by cases sw <;> decide)])), rfl, rfl, rfl, rfl, rfl, rfl⟩ ⟨Int.le_refl _, rfl, fun _ _ _ => ⟨rfl, rfl⟩⟩ ⟨(by first | rfl | (repeat rw [am_up_ne (by cases sw <;> decide)])), rfl⟩, LVx_cg h7 ⟨rfl, rfl, rfl, rfl, rfl, rfl, rfl, rfl, rfl⟩⟩
    have c2 : ∀ k, am_up (am_up (am_up (am_up g 2 (f 31 1 + 1).toNat x) 3 (f 31 1 + 1).toNat y) 32 (f 31 1 + 1).toNat x) 33 (f 31 1 + 1).toNat y 2 k = if k = (f 31 1 + 1).toNat then x else g 2 k := fun k => by rw [am_up_ne (by decide), am_up_ne (by decide), am_up_ne (by decide), am_up_eq]
    have c3 : ∀ k, am_up (am_up (am_up (am_up g 2 (f 31 1 + 1).toNat x) 3 (f 31 1 + 1).toNat y) 32 (f 31 1 + 1).toNat x) 33 (f 31 1 + 1).toNat y 3 k = if k = (f 31 1 + 1).toNat then y else g 3 k := fun k => by rw [am_up_ne (by decide), am_up_ne (by decide), am_up_eq, am_up_ne (by decide)]
    have c32 : ∀ k, am_up (am_up (am_up (am_up g 2 (f 31 1 + 1).toNat x) 3 (f 31 1 + 1).toNat y) 32 (f 31 1 + 1).toNat x) 33 (f 31 1 + 1).toNat y 32 k = if k = (f 31 1 + 1).toNat then x else g 32 k := fun k => by rw [am_up_ne (by decide), am_up_eq, am_up_ne (by decide), am_up_ne (by decide)]
    have c33 : ∀ k, am_up (am_up (am_up (am_up g 2 (f 31 1 + 1).toNat x) 3 (f 31 1 + 1).toNat y) 32 (f 31 1 + 1).toNat x) 33 (f 31 1 + 1).toNat y 33 k = if k = (f 31 1 + 1).toNat then y else g 33 k := fun k => by rw [am_up_eq, am_up_ne (by decide), am_up_ne (by decide), am_up_ne (by decide)]
    refine ⟨⟨rfl, by show 0 ≤ f 31 1 + 1; omega, by show f 31 1 + 1 ≤ 60; omega⟩, fun k => ?_, fun k => ?_, fun k => ?_⟩
    · rw [c2, c3, c32, c33]
      refine ⟨?_, ?_, (n2 k).2.2⟩
      · by_cases t : k = (f 31 1 + 1).toNat
        · rw [if_pos t, if_pos t]
        · rw [if_neg t, if_neg t]; exact (n2 k).1
      · by_cases t : k = (f 31 1 + 1).toNat
        · rw [if_pos t, if_pos t]
        · rw [if_neg t, if_neg t]; exact (n2 k).2.1
    · rw [c32, c33]
      by_cases t : k = (f 31 1 + 1).toNat
      · rw [if_pos t, if_pos t]; exact ⟨⟨z.1.1, z.1.2.1⟩, z.1.2.2.1, z.1.2.2.2⟩
      · rw [if_neg t, if_neg t]; exact n3 k
    · exact n4 k
theorem LV_b {N : Nat} {sw : Bool} {f g : Nat → Nat → Int} (h : LVq N sw f g) : ∀ (F G : Nat → Nat → Int), (∀ a, a ≠ 42 → F a = (am_up f 31 0 0) a) → (∀ a, a ≠ 13 → G a = g a) → LVb F G → LVq (N + 1) sw F G := by
  intro F G hF hG hB
  obtain ⟨h1, h2, h3, h4, h5, h6, h7⟩ := LV_c0 (c := 0) h (Nat.le_succ N)
  exact ⟨LVn_cg h1 ⟨by rw [hF 1 (by decide)], by rw [hF 31 (by decide)]⟩ ⟨hG 2 (by decide), hG 3 (by decide), hG 4 (by decide), hG 32 (by decide), hG 33 (by decide), hG 34 (by decide)⟩, LVs_cg h2 ⟨by rw [hF 5 (by decide)], by rw [hF 31 (by decide)], by rw [hF 31 (by decide)]; exact Int.le_refl _, hF 6 (by decide), fun _ _ => by rw [hF 7 (by decide)], by rw [hF 7 (by decide)]; exact h2.2.2.2.2.2.2, hF 35 (by decide), hF 36 (by decide), hF 39 (by decide), hF 10 (by decide)⟩ ⟨hG 8 (by decide), hG 9 (by decide), hG 37 (by decide), hG 38 (by decide), fun _ _ => by rw [hG 12 (by decide)]⟩, LVt_cg h3 (Nat.le_refl _) ⟨hG 11 (by decide), hG 12 (by decide), hG 40 (by decide), hG 41 (by decide), by rw [hG 0 (by decide)], by rw [hG 31 (by decide)]⟩, hB, LVp_cg h5 ⟨by rw [hF 0 (by decide)], by rw [hF 31 (by decide)], by rw [hF 31 (by decide)], by rw [hF 31 (by decide)], by rw [hF 31 (by decide)], by rw [hF 31 (by decide)]; exact Int.le_refl _, hF 14 (by decide), by rw [hF 7 (by decide)]⟩, LVw_cg h6 ⟨hF _ (by cases sw <;> decide), hF _ (by cases sw <;> decide), hF 28 (by decide), hF 30 (by decide), by rw [hF 0 (by decide)], by rw [hF 31 (by decide)], hF 47 (by decide), hF 48 (by decide)⟩ ⟨by rw [hF 31 (by decide)]; exact Int.le_refl _, by rw [hF 31 (by decide)], fun _ _ _ => ⟨by rw [hF 35 (by decide)], by rw [hF 36 (by decide)]⟩⟩ ⟨hG _ (by cases sw <;> decide), by rw [hG 31 (by decide)]⟩, LVx_cg h7 ⟨hF 24 (by decide), hF 25 (by decide), hF 26 (by decide), hF 51 (by decide), by rw [hF 31 (by decide)], by rw [hF 31 (by decide)], by rw [hF 31 (by decide)], by rw [hF 31 (by decide)], by rw [hF 0 (by decide)]⟩⟩
theorem LVb_flip {f g : Nat → Nat → Int} {s t : Nat} {b : Int} (hB : LVb f g) (hs : s ≤ 120) (hs1 : 1 ≤ s) (ht : t ≤ 120) (hb : b = 0 ∨ b = 1) (zb : ¬ f 42 (121 * s + t) = b) : LVb (am_up (am_up f 31 0 0) 42 (121 * s + t) b) (am_up g 13 (2 * s + t / 64) (w_xor (g 13 (2 * s + t / 64)) (w_shl 1 ((t % 64 : Nat) : Int)))) := by
  obtain ⟨b1, b2, b3⟩ := hB
  have c42 : ∀ i, am_up (am_up f 31 0 0) 42 (121 * s + t) b 42 i = if i = 121 * s + t then b else f 42 i := fun i => by rw [am_up_eq]; rfl
  refine ⟨fun i => ?_, fun s' t' hs' ht' => ?_, fun t' ht' => ?_⟩
  · rw [c42]
    split
    · exact hb
    · exact b1 i
  · rw [c42, am_up_eq]
    dsimp only
    have q := b2 s' t' hs' ht'
    by_cases y : 2 * s' + t' / 64 = 2 * s + t / 64
    · rw [if_pos y, w_flip (Nat.mod_lt _ (by decide)) (Nat.mod_lt _ (by decide))]
      have es : s' = s := by clear q; omega
      by_cases y2 : t' % 64 = t % 64
      · have et : t' = t := by clear q; omega
        rw [if_pos y2, if_pos (by rw [es, et])]
        subst es
        subst et
        have u := b1 (121 * s' + t')
        cases e : w_bit (g 13 (2 * s' + t' / 64)) (t' % 64) with
        | false =>
          have u0 : f 42 (121 * s' + t') = 0 := u.resolve_right (fun z => by rw [q.mpr z] at e; cases e)
          have b1' : b = 1 := hb.resolve_left (fun z => zb (by rw [u0, z]))
          exact ⟨fun _ => b1', fun _ => rfl⟩
        | true =>
          have u1 := q.mp e
          have b0 : b = 0 := hb.resolve_right (fun z => zb (by rw [u1, z]))
          exact ⟨fun z => (by cases z), fun z => by rw [b0] at z; exact absurd z (by decide)⟩
      · rw [if_neg y2, if_neg (fun z => y2 (by omega)), ← y]
        exact q
    · rw [if_neg y, if_neg (fun z => y (by omega))]
      exact q
  · rw [c42, if_neg (by omega)]
    exact b3 t' ht'
theorem pr_3 {d L N : Nat} {sw : Bool} {f g : Nat → Nat → Int} {s t b : Int} (h : LVq N sw f g) (hs : iR s) (ht : iR t) (hb : b = 0 ∨ b = 1) : am_call (d + 7) 3 [.ref 0, .int (iZ s), .int (iZ t), .int (iZ b)] (53, sh_lt L, iH f, jH g, sh_rt sw) (Mid L (N + 1) (d + 7) 30 [.ref 31, .int (iZ s), .int (iZ t), .int (iZ b)]) := by
  obtain ⟨⟨s1, s1'⟩, s2, s3, s4, s5, s6, s7⟩ := h.2.1
  obtain ⟨b1, b2, b3⟩ := h.2.2.2.1
  have hc1 : 0 ≤ f 5 8 ∧ f 5 8 ≤ 120 := by rw [s1]; exact s1'
  have r6 : ∀ k, iR (f 6 k) := fun k => by
    by_cases z : 1 ≤ k
    · rw [(s2 k z).1]; have := s4 k; omega
    · rw [show k = 0 by omega]; omega
  have r7 : ∀ k, iR (f 7 k) := fun k => by
    by_cases z : 1 ≤ k
    · rw [(s2 k z).2]; have := s4 k; omega
    · rw [show k = 0 by omega]; omega
  have r35 : ∀ k, iR (f 35 k) := fun k => by have := s4 k; omega
  have r36 : ∀ k, iR (f 36 k) := fun k => by have := s4 k; omega
  have key : ((1 ≤ s ∧ s ≤ f 5 8) ∧ (1 ≤ t ∧ t ≤ f 5 8)) → f 6 t.toNat = f 35 t.toNat ∧ f 7 s.toNat = f 36 s.toNat ∧ (2 * s + t / 64).toNat = 2 * s.toNat + t.toNat / 64 ∧ (s * 2 + t / 64).toNat = 2 * s.toNat + t.toNat / 64 ∧ (t % 64).toNat = t.toNat % 64 ∧ (121 * s + t).toNat = 121 * s.toNat + t.toNat ∧ (t % 64 = ((t.toNat % 64 : Nat) : Int)) ∧ s.toNat ≤ 120 ∧ t.toNat ≤ 120 ∧ 1 ≤ s.toNat := fun z => ⟨(s2 _ (by omega)).1, (s2 _ (by omega)).2, by omega, by omega, by omega, by omega, by omega, by omega, by omega, by omega⟩
  have ebit : ((1 ≤ s ∧ s ≤ f 5 8) ∧ (1 ≤ t ∧ t ≤ f 5 8)) → (if w_bit (g 13 (2 * s + t / 64).toNat) (t % 64).toNat = true then (1 : Int) else 0) = f 42 (121 * s + t).toNat := fun z => by
    obtain ⟨_, _, k3, _, k5, k6, _, k8, k9, _⟩ := key z
    rw [k3, k5, k6]
    have q := b2 s.toNat t.toNat k8 k9
    rcases b1 (121 * s.toNat + t.toNat) with y | y
    · rw [if_neg (fun e => by have := q.mp e; omega), y]
    · rw [if_pos (q.mpr y), y]
  refine sp_3 (fun z => ⟨-1, f, g, sw, by decide, rfl, rfl, ?_⟩) (fun z => ⟨-2, f, g, sw, by decide, rfl, rfl, ?_⟩) (fun z zb => ⟨0, f, g, sw, by decide, rfl, rfl, ?_⟩) (fun z zb => ⟨1, f, am_up g 13 (s * 2 + t / 64).toNat (w_xor (g 13 (s * 2 + t / 64).toNat) (w_shl 1 (t % 64))), sw, by decide, rfl, rfl, ?_⟩) hs ht hb hc1 r6 r7
  · rw [s1] at z
    exact sp_30 rfl (fun _ => ⟨rfl, _, _, rfl, LV_c0 h (Nat.le_succ N)⟩) (fun z2 => absurd z2.1 z) (fun z2 _ => absurd z2.1 z) (fun z2 _ => absurd z2.1 z) hs ht hb s1' r35 r36 b1
  · obtain ⟨k1, k2, _⟩ := key z.1
    rw [s1, k1, k2] at z
    exact sp_30 rfl (fun z2 => absurd z.1 z2) (fun _ => ⟨rfl, _, _, rfl, LV_c0 h (Nat.le_succ N)⟩) (fun z2 _ => absurd (Eq.symm z2.2) z.2) (fun z2 _ => absurd (Eq.symm z2.2) z.2) hs ht hb s1' r35 r36 b1
  · obtain ⟨k1, k2, _⟩ := key z.1
    rw [ebit z.1] at zb
    rw [s1, k1, k2] at z
    refine sp_30 rfl (fun z2 => absurd z.1 z2) (fun z2 => absurd z.2.symm z2.2) (fun _ _ => ⟨rfl, _, _, rfl, ?_⟩) (fun _ zb2 => absurd zb zb2) hs ht hb s1' r35 r36 b1
    refine LV_b h _ _ (fun a ha => am_up_ne ha) (fun _ _ => rfl) ?_
    have e42 : am_up (am_up f 31 0 0) 42 (121 * s + t).toNat b 42 = f 42 := by
      rw [am_up_eq]
      funext i
      by_cases y : i = (121 * s + t).toNat
      · rw [if_pos y, y]; exact zb.symm
      · rw [if_neg y]; rfl
    unfold LVb
    rw [e42]
    exact ⟨b1, b2, b3⟩
  · obtain ⟨k1, k2, k3, k4, k5, k6, k7, k8, k9, k10⟩ := key z.1
    rw [ebit z.1] at zb
    rw [s1, k1, k2] at z
    refine sp_30 rfl (fun z2 => absurd z.1 z2) (fun z2 => absurd z.2.symm z2.2) (fun _ zb2 => absurd zb2 zb) (fun _ _ => ⟨rfl, _, _, rfl, ?_⟩) hs ht hb s1' r35 r36 b1
    refine LV_b h _ _ (fun a ha => am_up_ne ha) (fun a ha => am_up_ne ha) ?_
    rw [k4, k6, k7]
    rw [k6] at zb
    exact LVb_flip ⟨b1, b2, b3⟩ k8 k10 k9 hb zb
