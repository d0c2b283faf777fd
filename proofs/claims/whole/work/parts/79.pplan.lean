/-! THE CALLS, PAIR BY PAIR: plan -/
theorem LV_mk {N : Nat} {sw sw' : Bool} {f g F G : Nat → Nat → Int} (h : LVq N sw f g) (a : ∀ y, (y = 1 ∨ y = 5 ∨ y = 6 ∨ y = 10 ∨ y = 35 ∨ y = 36 ∨ y = 39 ∨ y = 42 ∨ y = 24 ∨ y = 25 ∨ y = 26 ∨ y = 51) → F y = f y) (a7 : ∀ k, 1 ≤ k → F 7 k = f 7 k) (a70 : 0 ≤ F 7 0 ∧ F 7 0 ≤ 60) (a31 : ∀ j, (j = 1 ∨ j = 5 ∨ j = 32 ∨ j = 34 ∨ j = 35) → F 31 j = f 31 j) (b : ∀ y, (y = 2 ∨ y = 3 ∨ y = 4 ∨ y = 8 ∨ y = 9 ∨ y = 11 ∨ y = 12 ∨ y = 13 ∨ y = 32 ∨ y = 33 ∨ y = 34 ∨ y = 37 ∨ y = 38 ∨ y = 40 ∨ y = 41) → G y = g y) (bt : G 0 8 = G 31 14 ∧ 0 ≤ G 31 14 ∧ G 31 14 ≤ ((N + 1 : Nat) : Int)) (hp : LVp F) (hw : LVw (wyN sw') F G) (hl : F 0 9 = F 31 30 ∧ iR (F 31 30)) : LVq (N + 1) sw' F G := by
  obtain ⟨h1, h2, h3, h4, h5, h6, h7⟩ := h
  refine ⟨LVn_cg h1 ⟨by rw [a 1 (by omega)], a31 1 (by omega)⟩ ⟨b 2 (by omega), b 3 (by omega), b 4 (by omega), b 32 (by omega), b 33 (by omega), b 34 (by omega)⟩, LVs_cg h2 ⟨by rw [a 5 (by omega)], a31 5 (by omega), by rw [a31 1 (by omega)]; exact Int.le_refl _, a 6 (by omega), a7, a70, a 35 (by omega), a 36 (by omega), a 39 (by omega), a 10 (by omega)⟩ ⟨b 8 (by omega), b 9 (by omega), b 37 (by omega), b 38 (by omega), fun _ _ => by rw [b 12 (by omega)]⟩, ⟨?_, bt⟩, LVb_cg h4 (a 42 (by omega)) (b 13 (by omega)), hp, hw, ?_, ?_, ?_, ?_, hl⟩
  · rw [b 11 (by omega), b 12 (by omega), b 40 (by omega), b 41 (by omega)]; exact h3.1
  · rw [a 24 (by omega), a31 32 (by omega)]; exact h7.1
  · rw [a 25 (by omega), a 51 (by omega), a31 32 (by omega)]; exact h7.2.1
  · rw [a 25 (by omega), a 51 (by omega)]; exact h7.2.2.1
  · rw [a 26 (by omega), a31 34 (by omega), a31 35 (by omega)]; exact h7.2.2.2.1
/-- a new way, found by both -/
theorem LVw_new {f0 g0 F G : Nat → Nat → Int} {D : Nat → Option Nat} {D0 s s' v : Nat} {h h' r : Nat → Int} (hM : MOk f0 g0) (hR : Rw f0 g0 D D0 (F (v + 1)) (D0 % 4096) s h) (hR' : Rw f0 g0 D D0 r (D0 % 4096) s' h') (hr : ∀ i, i < D0 % 4096 → F 47 i = r i) (hb : D0 ≤ 1100000000000000) (hf : D0 % 4096 ≤ 2400)
    (h3 : F v 3 = 1) (h25 : G 31 25 = ((D0 / 4096 : Nat) : Int)) (hv2 : G v 2 = ((D0 / 4096 : Nat) : Int)) (h07 : F 0 7 = 1) (hv1 : F v 1 = ((D0 % 4096 : Nat) : Int)) (h23 : F 31 23 = ((D0 % 4096 : Nat) : Int)) (h48 : ∀ k, k < 2600 → F 48 k = 0) (hg : f0 31 5 = F 31 5 ∧ f0 31 15 = F 31 15 ∧ ∀ k, f0 35 k = F 35 k ∧ f0 36 k = F 36 k) (hrw : ∀ k, (-120 ≤ F 28 k ∧ F 28 k ≤ 120) ∧ -120 ≤ F 30 k ∧ F 30 k ≤ 120) : LVw v F G := by
  have hu := (Rw_uniq _ _ _ _ _ hR hR').2.2
  have hc := (Rw_ch _ s h hR).2
  refine ⟨Or.inr h3, fun _ => ⟨⟨by rw [h25]; omega, by rw [h25]; omega⟩, by rw [hv2, h25], h07⟩, fun z => by rw [h3] at z; exact absurd z (by decide), ⟨by rw [hv1, h23], by rw [h23]; omega, by rw [h23]; omega⟩, fun i hi => ?_, fun k hk => Or.inl (h48 k hk), ?_, hrw⟩
  · rw [h23] at hi
    have hi' : i < D0 % 4096 := by omega
    have q1 := (hc i hi').1
    rw [hr i hi', ← hu i hi', h48 i (by omega)]
    refine ⟨?_, fun z => by omega, fun z => absurd z (by decide)⟩
    unfold aZ
    rw [if_pos (by omega)]
  · have e : (F 31 23).toNat = D0 % 4096 := by omega
    rw [e]
    have hch : chO f0 (F 47) (D0 % 4096) := Rw_chO (Rw_ext _ _ _ (fun i hi => (hr i hi).symm) hR')
    exact chO_cg hch ⟨by rw [hg.1]; exact Int.le_refl _, hg.2.1.symm, fun k _ _ => ⟨(hg.2.2 k).1.symm, (hg.2.2 k).2.symm⟩⟩
theorem pr_5_f {d L N : Nat} {f g : Nat → Nat → Int} {a b k e : Int} (h : LVq N false f g) (hN : N ≤ 4095) (hr : iR a ∧ iR b ∧ iR k ∧ lR e) : am_call (d + 7) 5 [.ref 0, .int (iZ a), .int (iZ b), .int (iZ k), .long (lZ e)] (53, sh_lt L, iH f, jH g, sh_rt false) (Mid L (N + 1) (d + 7) 47 [.ref 31, .int (iZ a), .int (iZ b), .int (iZ k), .long (lZ e)]) := by
  obtain ⟨n1, n1'⟩ := h.1.1
  have hX : XOk g := h.1.2.2.1
  obtain ⟨t1, t2, t3, t4⟩ := h.2.2.1
  have hwo : LVw 27 f g := h.2.2.2.2.2.1
  have hrows := hwo.2.2.2.2.2.2.2
  obtain ⟨f5, ef5⟩ : ∃ f5, f5 = am_up (am_up (am_up (am_up (am_up f 31 0 0) 31 15 a) 31 16 b) 31 17 k) 31 18 (if k = 2 then e else 0) := ⟨_, rfl⟩
  obtain ⟨g5, eg5⟩ : ∃ g5, g5 = am_up g 31 14 (g 31 14 + 1) := ⟨_, rfl⟩
  obtain ⟨f2, ef2⟩ : ∃ f2, f2 = am_up (am_up (am_up (am_up (am_up (am_up f 14 8 a) 14 9 b) 14 10 k) 14 11 (if k = 2 then e else 0)) 7 0 a) 0 7 1 := ⟨_, rfl⟩
  obtain ⟨D, hD⟩ := mg_ex (mE f5 g5) (mT f5)
  have hD' : mg_D (mE (can f5) (can g5)) (mT (can f5)) D := hD
  have q15 : f5 31 15 = a := by rw [ef5]; rfl
  have q16 : f5 31 16 = b := by rw [ef5]; rfl
  have q17 : f5 31 17 = k := by rw [ef5]; rfl
  have q18 : f5 31 18 = (if k = 2 then e else 0) := by rw [ef5]; rfl
  have q1 : f5 31 1 = f 31 1 := by rw [ef5]; rfl
  have q5 : f5 31 5 = f 31 5 := by rw [ef5]; rfl
  have hgh : plOk (f 31 1) a b k e → MOk (can f5) (can g5) ∧ UOk (can f5) ∧ XOk (can g5) ∧ CW (can f5) (can g5) f2 g ∧ CL (can f5) (can g5) f2 g ∧ (can g5) 31 14 = g 0 8 + 1 ∧ (can f5) 31 18 ≤ toZ (can f5) := by
    intro ok
    obtain ⟨o1, o2, o3, o4, o5⟩ := ok
    have := LV_gh (f5 := f5) (f2 := f2) h (by omega) ⟨by rw [ef5]; rfl, by rw [ef5]; rfl, by rw [ef5]; rfl, by rw [ef5]; rfl, q1, q5⟩ ⟨by rw [q15]; exact o1, by rw [q16]; exact o2, by rw [q17]; exact ⟨o3, o4⟩, by rw [q18]; split; (have := o5 (by assumption); omega); omega, by unfold toZ; rw [q17, q18]; by_cases z : k = 2; (rw [if_pos z, if_pos z]; exact (o5 z).2); rw [if_neg z, if_neg z]; exact Int.le_refl _⟩ ⟨by rw [ef2]; rfl, by rw [ef2]; rfl, by rw [ef2]; rfl, by rw [ef2]; rfl, fun j hj => by (rw [ef2, am_up_ne (by decide), am_up_eq]; dsimp only; rw [if_neg (by omega)]; rfl), by rw [q15, ef2]; rfl, by rw [q15, ef2]; rfl, by rw [q16, ef2]; rfl, by rw [q17, ef2]; rfl, by rw [q18, ef2]; rfl⟩
    rw [← eg5] at this
    exact this
  have ha0 : plOk (f 31 1) a b k e → (if k = 2 then e else 0) = (((can f5) 31 18).toNat : Int) := fun ok => by
    have e1 : (can f5) 31 18 = (if k = 2 then e else 0) := q18
    rw [e1]
    split
    · have := ok.2.2.2.2 (by assumption)
      omega
    · rfl
  have f2a : ∀ y, y ≠ 14 → y ≠ 7 → y ≠ 0 → f2 y = f y := fun y y1 y2 y3 => by rw [ef2, am_up_ne y3, am_up_ne y2, am_up_ne y1, am_up_ne y1, am_up_ne y1, am_up_ne y1]
  have f214 : f2 14 8 = a ∧ f2 14 9 = b ∧ f2 14 10 = k ∧ f2 14 11 = (if k = 2 then e else 0) ∧ f2 7 0 = a ∧ f2 0 7 = 1 := by rw [ef2]; exact ⟨rfl, rfl, rfl, rfl, rfl, rfl⟩
  have f27 : ∀ j, 1 ≤ j → f2 7 j = f 7 j := fun j hj => by rw [ef2, am_up_ne (by decide), am_up_eq]; dsimp only; rw [if_neg (by omega)]; rfl
  -- the reference's plan() from a heap that is the same to it
  have ref : ∀ (F G : Nat → Nat → Int) (sw' : Bool) {Q : Option Value → am_H → Prop}, AG F f → AG G g → (plOk (f 31 1) a b k e → ∀ x F2 G2 (fq : Nat → Nat → Int), fq = am_up (am_up (am_up (am_up (am_up F 31 0 0) 31 15 a) 31 16 b) 31 17 k) 31 18 (if k = 2 then e else 0) → can fq = can f5 → can (am_up G 31 14 (G 31 14 + 1)) = can g5 → PR fq G D ((can f5) 31 18).toNat x F2 G2 → Q (some (.int (iZ x))) (53, sh_lt L, iH F2, jH G2, sh_rt sw')) → plOk (f 31 1) a b k e → am_call (d + 7) 47 [.ref 31, .int (iZ a), .int (iZ b), .int (iZ k), .long (lZ e)] (53, sh_lt L, iH F, jH G, sh_rt sw') Q := by
    intro F G sw' Q hF hG K ok
    obtain ⟨fq, efq⟩ : ∃ fq, fq = am_up (am_up (am_up (am_up (am_up F 31 0 0) 31 15 a) 31 16 b) 31 17 k) 31 18 (if k = 2 then e else 0) := ⟨_, rfl⟩
    have c1 : can fq = can f5 := by rw [efq, ef5]; exact AG_can (AG_up (AG_up (AG_up (AG_up (AG_up hF)))))
    have g14 : G 31 14 = g 31 14 := by rw [hG 31 (by decide) (by decide)]
    have c2 : can (am_up G 31 14 (G 31 14 + 1)) = can g5 := by rw [g14, eg5]; exact AG_can (AG_up hG)
    have e1 : F 31 1 = f 31 1 := by rw [hF 31 (by decide) (by decide)]
    have hDq : mg_D (mE fq (am_up G 31 14 (G 31 14 + 1))) (mT fq) D := by rw [← can_E, ← can_T, c1, c2]; exact hD'
    have hMq : MOk fq (am_up G 31 14 (G 31 14 + 1)) := by
      have := (hgh ok).1
      rw [← c1, ← c2] at this
      exact this
    exact sp_47 (D := D) (a0 := ((can f5) 31 18).toNat) efq hDq (fun z => absurd (by rw [e1]; exact ok) z) (fun _ x F2 G2 hP => K ok x F2 G2 fq efq c1 c2 hP) hr (by rw [e1]; exact n1') (fun _ => hMq) (by unfold XOk; rw [hG 32 (by decide) (by decide), hG 33 (by decide) (by decide)]; exact hX) (fun _ => ha0 ok)
  rw [ef2] at hgh
  refine sp_5_false (f0 := can f5) (g0 := can g5) (D := D) rfl (fun z => ⟨-2, f, g, false, by decide, rfl, rfl, ?_⟩) (fun z F G hS => ⟨-1, _, _, false, by decide, rfl, rfl, ?_⟩) (fun z F G hS => ⟨F 29 1, F, G, true, ?_, rfl, rfl, ?_⟩) hr (by rw [n1]; exact n1') (fun z => by rw [n1] at z; obtain ⟨y1, y2, y3, y4, y5, y6, y7⟩ := hgh z; exact ⟨y1, y2, y3, hD', y4, y5, y6, y7⟩)
  · rw [n1] at z
    exact sp_47 (D := D) (a0 := 0) ef5 (by rw [eg5] at hD; exact hD) (fun _ => ⟨rfl, _, _, rfl, LV_c0 h (Nat.le_succ N)⟩) (fun ok => absurd ok z) hr n1' (fun ok => absurd ok z) hX (fun ok => absurd ok z)
  · rw [n1] at z
    rw [← ef2] at hS hgh
    obtain ⟨⟨s1, s2, s3, s4, s5, s6⟩, hS2⟩ := hS
    obtain ⟨_, y1, y2, y3, y4, l, y5, y6, y7⟩ := hS2.resolve_right (fun q => absurd q.1 (by decide))
    have agF : AG (am_up (am_up F 27 3 0) 27 1 0) f := AG_ne (by decide) (AG_ne (by decide) (fun x x1 x2 => (s1 x (by omega) (by omega) (by omega) (by omega) (by omega) (by omega) (by omega) (by omega)).trans (f2a x (by omega) (by omega) (by omega))))
    have agG : AG (am_up G 27 2 0) g := AG_ne (by decide) (fun x x1 x2 => s3 x (by omega) (by omega) (by omega) (by omega) (by omega) (by omega))
    refine ref _ _ false agF agG ?_ z
    intro ok x F2 G2 fq efq c1 c2 hP
    obtain ⟨⟨p1, p2, p3, p4, p5⟩, p6, p7⟩ := hP
    obtain ⟨u1, u2, u3, u4, l', u5, u6, u7⟩ := p7.resolve_right (fun ⟨D0, _, _, _, u2, _⟩ => by rw [y1] at u2; cases u2)
    subst u1
    obtain ⟨o1, o2, o3, o4, o5⟩ := ok
    have fqa : ∀ y, (y ≠ 31 ∧ y ≠ 27) → fq y = F y := fun y hy => by rw [efq, am_up_ne hy.1, am_up_ne hy.1, am_up_ne hy.1, am_up_ne hy.1, am_up_ne hy.1, am_up_ne hy.2, am_up_ne hy.2]
    have fqw : fq 27 = (am_up (am_up F 27 3 0) 27 1 0) 27 := by rw [efq, am_up_ne (by decide), am_up_ne (by decide), am_up_ne (by decide), am_up_ne (by decide), am_up_ne (by decide)]
    have cj : ∀ j, fq 31 j = f5 31 j := fun j => by have := congrFun (congrFun c1 31) j; exact this
    have k1 : ∀ y, (y = 1 ∨ y = 5 ∨ y = 6 ∨ y = 10 ∨ y = 35 ∨ y = 36 ∨ y = 39 ∨ y = 42 ∨ y = 24 ∨ y = 25 ∨ y = 26 ∨ y = 51 ∨ y = 28) → F2 y = f y := fun y hy => (p1 y (by omega) (by omega) (by omega) (by omega) (by omega) (by omega) (by omega)).trans ((fqa y (by omega)).trans ((s1 y (by omega) (by omega) (by omega) (by omega) (by omega) (by omega) (by omega) (by omega)).trans (f2a y (by omega) (by omega) (by omega))))
    have k7 : F2 7 = f2 7 := (p1 7 (by decide) (by decide) (by decide) (by decide) (by decide) (by decide) (by decide)).trans ((fqa 7 (by decide)).trans (s1 7 (by decide) (by decide) (by decide) (by decide) (by decide) (by decide) (by decide) (by decide)))
    have k14 : F2 14 = f2 14 := (p1 14 (by decide) (by decide) (by decide) (by decide) (by decide) (by decide) (by decide)).trans ((fqa 14 (by decide)).trans (s1 14 (by decide) (by decide) (by decide) (by decide) (by decide) (by decide) (by decide) (by decide)))
    have kV : F2 30 = F 30 := (p1 30 (by decide) (by decide) (by decide) (by decide) (by decide) (by decide) (by decide)).trans (fqa 30 (by decide))
    have k0 : F2 0 = F 0 := (p1 0 (by decide) (by decide) (by decide) (by decide) (by decide) (by decide) (by decide)).trans (fqa 0 (by decide))
    have kW : F2 27 = (am_up (am_up F 27 3 0) 27 1 0) 27 := (p1 27 (by decide) (by decide) (by decide) (by decide) (by decide) (by decide) (by decide)).trans fqw
    have m31 : ∀ j, (j = 1 ∨ j = 5 ∨ j = 15 ∨ j = 16 ∨ j = 17 ∨ j = 18 ∨ j = 32 ∨ j = 34 ∨ j = 35) → F2 31 j = f5 31 j := fun j hj => (p2 j (by omega) (by omega) (by omega)).trans (cj j)
    have f5j : ∀ j, (j = 1 ∨ j = 5 ∨ j = 32 ∨ j = 34 ∨ j = 35) → f5 31 j = f 31 j := fun j hj => by rcases hj with q | q | q | q | q <;> (rw [q, ef5]; rfl)
    have kg : ∀ y, (y = 2 ∨ y = 3 ∨ y = 4 ∨ y = 8 ∨ y = 9 ∨ y = 11 ∨ y = 12 ∨ y = 13 ∨ y = 32 ∨ y = 33 ∨ y = 34 ∨ y = 37 ∨ y = 38 ∨ y = 40 ∨ y = 41) → G2 y = g y := fun y hy => (p3 y (by omega) (by omega)).trans ((am_up_ne (by omega)).trans (s3 y (by omega) (by omega) (by omega) (by omega) (by omega) (by omega)))
    have g08 : G2 0 8 = g 0 8 + 1 := by rw [p3 0 (by decide) (by decide), am_up_ne (by decide)]; exact s5
    have g14 : G2 31 14 = g 31 14 + 1 := by rw [p5, am_up_ne (by decide), s3 31 (by decide) (by decide) (by decide) (by decide) (by decide) (by decide)]
    have r07 : F2 0 7 = 1 := by rw [k0, s2 7 (by decide)]; exact f214.2.2.2.2.2
    have hlast : F2 0 9 = F2 31 30 ∧ iR (F2 31 30) := by
      rw [k0, y5, u5]
      have e17 : (can f5) 31 17 = k := q17
      have e17q : fq 31 17 = k := (cj 17).trans q17
      by_cases hk : k = 2
      · have z1 := y6 (e17.trans hk)
        have z2 := u6 (e17q.trans hk)
        rw [← can_O, ← can_F fq (am_up G 27 2 0) ((am_up G 27 2 0) 31 14 + 1), c1, c2, show fq 31 1 = (can f5) 31 1 from (cj 1)] at z2
        have el := nsL_uniq _ _ _ z1 z2
        have := nsL_le _ _ z1
        have e1 : (can f5) 31 1 = f 31 1 := q1
        exact ⟨by rw [el], by omega⟩
      · rw [y7 (fun q => hk (e17.symm.trans q)), u7 (fun q => hk (e17q.symm.trans q))]
        exact ⟨rfl, by decide⟩
    refine ⟨rfl, F2, G2, rfl, LV_mk h (fun y hy => k1 y (by omega)) (fun j hj => by rw [k7]; exact f27 j hj) (by rw [k7, f214.2.2.2.2.1]; omega) (fun j hj => (m31 j (by omega)).trans (f5j j hj)) kg ⟨by rw [g08, g14, t2], by rw [g14]; omega, by rw [g14]; omega⟩ ?_ ?_ hlast⟩
    · refine Or.inr ⟨r07, by rw [m31 17 (by omega), q17]; exact ⟨o3, o4⟩, by rw [k14, k7, m31 15 (by omega), m31 16 (by omega), m31 17 (by omega), m31 18 (by omega), q15, q16, q17, q18]; exact ⟨f214.1, f214.2.1, f214.2.2.1, f214.2.2.2.1, f214.2.2.2.2.1⟩, by rw [m31 15 (by omega), m31 1 (by omega), q15, q1]; exact o1, by rw [m31 16 (by omega), m31 1 (by omega), q16, q1]; exact o2, ?_⟩
      unfold toZ
      rw [m31 17 (by omega), m31 18 (by omega), q17, q18]
      by_cases hk : k = 2
      · rw [if_pos hk, if_pos hk]; exact o5 hk
      · rw [if_neg hk, if_neg hk]; exact ⟨Int.le_refl _, Int.le_refl _⟩
    · have w3 : F2 27 3 = 0 := by rw [kW, am_up_eq, am_up_eq]; rfl
      have w1 : F2 27 1 = 0 := by rw [kW, am_up_eq]; rfl
      refine ⟨Or.inl w3, fun q => by rw [show F2 (wyN false) 3 = F2 27 3 from rfl, w3] at q; exact absurd q (by decide), fun _ => ⟨u4, u3⟩, ⟨by rw [u3]; exact w1, by rw [u3]; exact ⟨by decide, by decide⟩⟩, fun i hi => by rw [u3] at hi; omega, fun j hj => Or.inl (p6 j hj), fun i hi => by rw [u3] at hi; exact absurd hi (Nat.not_lt_zero i), fun j => ?_⟩
      have e1 : F2 28 = f 28 := k1 28 (by omega)
      have e2 : F2 30 = f 30 := kV.trans (y4.trans (f2a 30 (by decide) (by decide) (by decide)))
      have := hrows j
      rw [e1, e2]
      exact this
  · rw [n1] at z
    obtain ⟨y1, y2, -⟩ := hgh z
    obtain ⟨-, hS2⟩ := hS
    rcases hS2 with ⟨q, _⟩ | ⟨_, y3, D0, s, hh, y4, y5, y6, _⟩
    · exact absurd q (by decide)
    rw [y6]
    omega
  · rw [n1] at z
    rw [← ef2] at hS hgh
    obtain ⟨⟨s1, s2, s3, s4, s5, s6⟩, hS2⟩ := hS
    rcases hS2 with ⟨q, _⟩ | ⟨_, y3, D0, s, hh, y4, y5, y6, y7, y8, y9⟩
    · exact absurd q (by decide)
    have agF : AG F f := fun x x1 x2 => (s1 x (by omega) (by omega) (by omega) (by omega) (by omega) (by omega) (by omega) (by omega)).trans (f2a x (by omega) (by omega) (by omega))
    have agG : AG G g := fun x x1 x2 => s3 x (by omega) (by omega) (by omega) (by omega) (by omega) (by omega)
    refine ref _ _ true agF agG ?_ z
    intro ok x F2 G2 fq efq c1 c2 hP
    obtain ⟨⟨p1, p2, p3, p4, p5⟩, p6, p7⟩ := hP
    rcases p7 with ⟨u1, u2, _⟩ | ⟨D1, s', h', u1, u2, u3, u4, u5, u6, u7⟩
    · rw [y4] at u2; cases u2
    rw [y4] at u2
    cases u2
    rw [u1, ← y6]
    have hMO := hgh ok
    obtain ⟨o1, o2, o3, o4, o5⟩ := ok
    have fqa : ∀ y, y ≠ 31 → fq y = F y := fun y hy => by rw [efq, am_up_ne hy, am_up_ne hy, am_up_ne hy, am_up_ne hy, am_up_ne hy]
    have cj : ∀ j, fq 31 j = f5 31 j := fun j => by have := congrFun (congrFun c1 31) j; exact this
    have k1 : ∀ y, (y = 1 ∨ y = 5 ∨ y = 6 ∨ y = 10 ∨ y = 35 ∨ y = 36 ∨ y = 39 ∨ y = 42 ∨ y = 24 ∨ y = 25 ∨ y = 26 ∨ y = 51 ∨ y = 28) → F2 y = f y := fun y hy => (p1 y (by omega) (by omega) (by omega) (by omega) (by omega) (by omega) (by omega)).trans ((fqa y (by omega)).trans ((s1 y (by omega) (by omega) (by omega) (by omega) (by omega) (by omega) (by omega) (by omega)).trans (f2a y (by omega) (by omega) (by omega))))
    have k7 : F2 7 = f2 7 := (p1 7 (by decide) (by decide) (by decide) (by decide) (by decide) (by decide) (by decide)).trans ((fqa 7 (by decide)).trans (s1 7 (by decide) (by decide) (by decide) (by decide) (by decide) (by decide) (by decide) (by decide)))
    have k14 : F2 14 = f2 14 := (p1 14 (by decide) (by decide) (by decide) (by decide) (by decide) (by decide) (by decide)).trans ((fqa 14 (by decide)).trans (s1 14 (by decide) (by decide) (by decide) (by decide) (by decide) (by decide) (by decide) (by decide)))
    have kF : ∀ y, (y = 29 ∨ y = 30 ∨ y = 0) → F2 y = F y := fun y hy => (p1 y (by omega) (by omega) (by omega) (by omega) (by omega) (by omega) (by omega)).trans (fqa y (by omega))
    have m31 : ∀ j, (j = 1 ∨ j = 5 ∨ j = 15 ∨ j = 16 ∨ j = 17 ∨ j = 18 ∨ j = 32 ∨ j = 34 ∨ j = 35) → F2 31 j = f5 31 j := fun j hj => (p2 j (by omega) (by omega) (by omega)).trans (cj j)
    have f5j : ∀ j, (j = 1 ∨ j = 5 ∨ j = 32 ∨ j = 34 ∨ j = 35) → f5 31 j = f 31 j := fun j hj => by rcases hj with q | q | q | q | q <;> (rw [q, ef5]; rfl)
    have kg : ∀ y, (y = 2 ∨ y = 3 ∨ y = 4 ∨ y = 8 ∨ y = 9 ∨ y = 11 ∨ y = 12 ∨ y = 13 ∨ y = 32 ∨ y = 33 ∨ y = 34 ∨ y = 37 ∨ y = 38 ∨ y = 40 ∨ y = 41) → G2 y = g y := fun y hy => (p3 y (by omega) (by omega)).trans (s3 y (by omega) (by omega) (by omega) (by omega) (by omega) (by omega))
    have g08 : G2 0 8 = g 0 8 + 1 := by rw [p3 0 (by decide) (by decide)]; exact s5
    have g14 : G2 31 14 = g 31 14 + 1 := by rw [p5, s3 31 (by decide) (by decide) (by decide) (by decide) (by decide) (by decide)]
    have r07 : F2 0 7 = 1 := by rw [kF 0 (by omega), s2 7 (by decide)]; exact f214.2.2.2.2.2
    have hlast : F2 0 9 = F2 31 30 ∧ iR (F2 31 30) := by rw [kF 0 (by omega), y3, u7]; exact ⟨rfl, by decide⟩
    refine ⟨rfl, F2, G2, rfl, LV_mk h (fun y hy => k1 y (by omega)) (fun j hj => by rw [k7]; exact f27 j hj) (by rw [k7, f214.2.2.2.2.1]; omega) (fun j hj => (m31 j (by omega)).trans (f5j j hj)) kg ⟨by rw [g08, g14, t2], by rw [g14]; omega, by rw [g14]; omega⟩ ?_ ?_ hlast⟩
    · refine Or.inr ⟨r07, by rw [m31 17 (by omega), q17]; exact ⟨o3, o4⟩, by rw [k14, k7, m31 15 (by omega), m31 16 (by omega), m31 17 (by omega), m31 18 (by omega), q15, q16, q17, q18]; exact ⟨f214.1, f214.2.1, f214.2.2.1, f214.2.2.2.1, f214.2.2.2.2.1⟩, by rw [m31 15 (by omega), m31 1 (by omega), q15, q1]; exact o1, by rw [m31 16 (by omega), m31 1 (by omega), q16, q1]; exact o2, ?_⟩
      unfold toZ
      rw [m31 17 (by omega), m31 18 (by omega), q17, q18]
      by_cases hk : k = 2
      · rw [if_pos hk, if_pos hk]; exact o5 hk
      · rw [if_neg hk, if_neg hk]; exact ⟨Int.le_refl _, Int.le_refl _⟩
    · have h20 := toZ_in (can f5)
      have hM0 := hMO.1
      have hb := (D_mod hM0 hD' (v := ((can f5) 31 18).toNat) (by have := hM0.1.2.2.2.2.2; omega) y4).2
      have hf := D_few hM0 hMO.2.1 hD' (v := ((can f5) 31 18).toNat) (by have := hM0.1.2.2.2.2.2; omega) y4
      have hRr : Rw (can f5) (can g5) D D0 (F2 47) (D0 % 4096) s' h' := by
        rw [← c1, ← c2]
        exact (can_R _ _ _).mpr u4
      have hrv : ∀ k, -120 ≤ F 30 k ∧ F 30 k ≤ 120 := rw_in hM0 y5 (fun i hi => (y9 i hi).trans (by show f2 30 i = f 30 i; rw [f2a 30 (by decide) (by decide) (by decide)])) (fun j => by have := hrows j; exact ⟨by omega, by omega⟩)
      refine LVw_new (v := 29) hM0 (by rw [kF (29 + 1) (by omega)]; exact y5) hRr (fun _ _ => rfl) hb hf (by rw [kF 29 (by omega)]; exact y7) u6 (by rw [p3 29 (by decide) (by decide)]; exact y8) r07 (by rw [kF 29 (by omega)]; exact y6) u3 p6 ⟨by rw [m31 5 (by omega)]; rfl, by rw [m31 15 (by omega)]; rfl, fun j => ⟨by rw [k1 35 (by omega)]; show f5 35 j = f 35 j; rw [ef5]; rfl, by rw [k1 36 (by omega)]; show f5 36 j = f 36 j; rw [ef5]; rfl⟩⟩ (fun j => ?_)
      have e1 : F2 28 = f 28 := k1 28 (by omega)
      have e2 : F2 30 = F 30 := kF 30 (by omega)
      have q1 := hrows j
      have q2 := hrv j
      rw [e1, e2]
      exact ⟨by omega, by omega⟩
theorem pr_5_t {d L N : Nat} {f g : Nat → Nat → Int} {a b k e : Int} (h : LVq N true f g) (hN : N ≤ 4095) (hr : iR a ∧ iR b ∧ iR k ∧ lR e) : am_call (d + 7) 5 [.ref 0, .int (iZ a), .int (iZ b), .int (iZ k), .long (lZ e)] (53, sh_lt L, iH f, jH g, sh_rt true) (Mid L (N + 1) (d + 7) 47 [.ref 31, .int (iZ a), .int (iZ b), .int (iZ k), .long (lZ e)]) := by
  obtain ⟨n1, n1'⟩ := h.1.1
  have hX : XOk g := h.1.2.2.1
  obtain ⟨t1, t2, t3, t4⟩ := h.2.2.1
  have hwo : LVw 29 f g := h.2.2.2.2.2.1
  have hrows := hwo.2.2.2.2.2.2.2
  obtain ⟨f5, ef5⟩ : ∃ f5, f5 = am_up (am_up (am_up (am_up (am_up f 31 0 0) 31 15 a) 31 16 b) 31 17 k) 31 18 (if k = 2 then e else 0) := ⟨_, rfl⟩
  obtain ⟨g5, eg5⟩ : ∃ g5, g5 = am_up g 31 14 (g 31 14 + 1) := ⟨_, rfl⟩
  obtain ⟨f2, ef2⟩ : ∃ f2, f2 = am_up (am_up (am_up (am_up (am_up (am_up f 14 8 a) 14 9 b) 14 10 k) 14 11 (if k = 2 then e else 0)) 7 0 a) 0 7 1 := ⟨_, rfl⟩
  obtain ⟨D, hD⟩ := mg_ex (mE f5 g5) (mT f5)
  have hD' : mg_D (mE (can f5) (can g5)) (mT (can f5)) D := hD
  have q15 : f5 31 15 = a := by rw [ef5]; rfl
  have q16 : f5 31 16 = b := by rw [ef5]; rfl
  have q17 : f5 31 17 = k := by rw [ef5]; rfl
  have q18 : f5 31 18 = (if k = 2 then e else 0) := by rw [ef5]; rfl
  have q1 : f5 31 1 = f 31 1 := by rw [ef5]; rfl
  have q5 : f5 31 5 = f 31 5 := by rw [ef5]; rfl
  have hgh : plOk (f 31 1) a b k e → MOk (can f5) (can g5) ∧ UOk (can f5) ∧ XOk (can g5) ∧ CW (can f5) (can g5) f2 g ∧ CL (can f5) (can g5) f2 g ∧ (can g5) 31 14 = g 0 8 + 1 ∧ (can f5) 31 18 ≤ toZ (can f5) := by
    intro ok
    obtain ⟨o1, o2, o3, o4, o5⟩ := ok
    have := LV_gh (f5 := f5) (f2 := f2) h (by omega) ⟨by rw [ef5]; rfl, by rw [ef5]; rfl, by rw [ef5]; rfl, by rw [ef5]; rfl, q1, q5⟩ ⟨by rw [q15]; exact o1, by rw [q16]; exact o2, by rw [q17]; exact ⟨o3, o4⟩, by rw [q18]; split; (have := o5 (by assumption); omega); omega, by unfold toZ; rw [q17, q18]; by_cases z : k = 2; (rw [if_pos z, if_pos z]; exact (o5 z).2); rw [if_neg z, if_neg z]; exact Int.le_refl _⟩ ⟨by rw [ef2]; rfl, by rw [ef2]; rfl, by rw [ef2]; rfl, by rw [ef2]; rfl, fun j hj => by (rw [ef2, am_up_ne (by decide), am_up_eq]; dsimp only; rw [if_neg (by omega)]; rfl), by rw [q15, ef2]; rfl, by rw [q15, ef2]; rfl, by rw [q16, ef2]; rfl, by rw [q17, ef2]; rfl, by rw [q18, ef2]; rfl⟩
    rw [← eg5] at this
    exact this
  have ha0 : plOk (f 31 1) a b k e → (if k = 2 then e else 0) = (((can f5) 31 18).toNat : Int) := fun ok => by
    have e1 : (can f5) 31 18 = (if k = 2 then e else 0) := q18
    rw [e1]
    split
    · have := ok.2.2.2.2 (by assumption)
      omega
    · rfl
  have f2a : ∀ y, y ≠ 14 → y ≠ 7 → y ≠ 0 → f2 y = f y := fun y y1 y2 y3 => by rw [ef2, am_up_ne y3, am_up_ne y2, am_up_ne y1, am_up_ne y1, am_up_ne y1, am_up_ne y1]
  have f214 : f2 14 8 = a ∧ f2 14 9 = b ∧ f2 14 10 = k ∧ f2 14 11 = (if k = 2 then e else 0) ∧ f2 7 0 = a ∧ f2 0 7 = 1 := by rw [ef2]; exact ⟨rfl, rfl, rfl, rfl, rfl, rfl⟩
  have f27 : ∀ j, 1 ≤ j → f2 7 j = f 7 j := fun j hj => by rw [ef2, am_up_ne (by decide), am_up_eq]; dsimp only; rw [if_neg (by omega)]; rfl
  -- the reference's plan() from a heap that is the same to it
  have ref : ∀ (F G : Nat → Nat → Int) (sw' : Bool) {Q : Option Value → am_H → Prop}, AG F f → AG G g → (plOk (f 31 1) a b k e → ∀ x F2 G2 (fq : Nat → Nat → Int), fq = am_up (am_up (am_up (am_up (am_up F 31 0 0) 31 15 a) 31 16 b) 31 17 k) 31 18 (if k = 2 then e else 0) → can fq = can f5 → can (am_up G 31 14 (G 31 14 + 1)) = can g5 → PR fq G D ((can f5) 31 18).toNat x F2 G2 → Q (some (.int (iZ x))) (53, sh_lt L, iH F2, jH G2, sh_rt sw')) → plOk (f 31 1) a b k e → am_call (d + 7) 47 [.ref 31, .int (iZ a), .int (iZ b), .int (iZ k), .long (lZ e)] (53, sh_lt L, iH F, jH G, sh_rt sw') Q := by
    intro F G sw' Q hF hG K ok
    obtain ⟨fq, efq⟩ : ∃ fq, fq = am_up (am_up (am_up (am_up (am_up F 31 0 0) 31 15 a) 31 16 b) 31 17 k) 31 18 (if k = 2 then e else 0) := ⟨_, rfl⟩
    have c1 : can fq = can f5 := by rw [efq, ef5]; exact AG_can (AG_up (AG_up (AG_up (AG_up (AG_up hF)))))
    have g14 : G 31 14 = g 31 14 := by rw [hG 31 (by decide) (by decide)]
    have c2 : can (am_up G 31 14 (G 31 14 + 1)) = can g5 := by rw [g14, eg5]; exact AG_can (AG_up hG)
    have e1 : F 31 1 = f 31 1 := by rw [hF 31 (by decide) (by decide)]
    have hDq : mg_D (mE fq (am_up G 31 14 (G 31 14 + 1))) (mT fq) D := by rw [← can_E, ← can_T, c1, c2]; exact hD'
    have hMq : MOk fq (am_up G 31 14 (G 31 14 + 1)) := by
      have := (hgh ok).1
      rw [← c1, ← c2] at this
      exact this
    exact sp_47 (D := D) (a0 := ((can f5) 31 18).toNat) efq hDq (fun z => absurd (by rw [e1]; exact ok) z) (fun _ x F2 G2 hP => K ok x F2 G2 fq efq c1 c2 hP) hr (by rw [e1]; exact n1') (fun _ => hMq) (by unfold XOk; rw [hG 32 (by decide) (by decide), hG 33 (by decide) (by decide)]; exact hX) (fun _ => ha0 ok)
  rw [ef2] at hgh
  refine sp_5_true (f0 := can f5) (g0 := can g5) (D := D) rfl (fun z => ⟨-2, f, g, true, by decide, rfl, rfl, ?_⟩) (fun z F G hS => ⟨-1, _, _, true, by decide, rfl, rfl, ?_⟩) (fun z F G hS => ⟨F 27 1, F, G, false, ?_, rfl, rfl, ?_⟩) hr (by rw [n1]; exact n1') (fun z => by rw [n1] at z; obtain ⟨y1, y2, y3, y4, y5, y6, y7⟩ := hgh z; exact ⟨y1, y2, y3, hD', y4, y5, y6, y7⟩)
  · rw [n1] at z
    exact sp_47 (D := D) (a0 := 0) ef5 (by rw [eg5] at hD; exact hD) (fun _ => ⟨rfl, _, _, rfl, LV_c0 h (Nat.le_succ N)⟩) (fun ok => absurd ok z) hr n1' (fun ok => absurd ok z) hX (fun ok => absurd ok z)
  · rw [n1] at z
    rw [← ef2] at hS hgh
    obtain ⟨⟨s1, s2, s3, s4, s5, s6⟩, hS2⟩ := hS
    obtain ⟨_, y1, y2, y3, y4, l, y5, y6, y7⟩ := hS2.resolve_right (fun q => absurd q.1 (by decide))
    have agF : AG (am_up (am_up F 29 3 0) 29 1 0) f := AG_ne (by decide) (AG_ne (by decide) (fun x x1 x2 => (s1 x (by omega) (by omega) (by omega) (by omega) (by omega) (by omega) (by omega) (by omega)).trans (f2a x (by omega) (by omega) (by omega))))
    have agG : AG (am_up G 29 2 0) g := AG_ne (by decide) (fun x x1 x2 => s3 x (by omega) (by omega) (by omega) (by omega) (by omega) (by omega))
    refine ref _ _ true agF agG ?_ z
    intro ok x F2 G2 fq efq c1 c2 hP
    obtain ⟨⟨p1, p2, p3, p4, p5⟩, p6, p7⟩ := hP
    obtain ⟨u1, u2, u3, u4, l', u5, u6, u7⟩ := p7.resolve_right (fun ⟨D0, _, _, _, u2, _⟩ => by rw [y1] at u2; cases u2)
    subst u1
    obtain ⟨o1, o2, o3, o4, o5⟩ := ok
    have fqa : ∀ y, (y ≠ 31 ∧ y ≠ 29) → fq y = F y := fun y hy => by rw [efq, am_up_ne hy.1, am_up_ne hy.1, am_up_ne hy.1, am_up_ne hy.1, am_up_ne hy.1, am_up_ne hy.2, am_up_ne hy.2]
    have fqw : fq 29 = (am_up (am_up F 29 3 0) 29 1 0) 29 := by rw [efq, am_up_ne (by decide), am_up_ne (by decide), am_up_ne (by decide), am_up_ne (by decide), am_up_ne (by decide)]
    have cj : ∀ j, fq 31 j = f5 31 j := fun j => by have := congrFun (congrFun c1 31) j; exact this
    have k1 : ∀ y, (y = 1 ∨ y = 5 ∨ y = 6 ∨ y = 10 ∨ y = 35 ∨ y = 36 ∨ y = 39 ∨ y = 42 ∨ y = 24 ∨ y = 25 ∨ y = 26 ∨ y = 51 ∨ y = 30) → F2 y = f y := fun y hy => (p1 y (by omega) (by omega) (by omega) (by omega) (by omega) (by omega) (by omega)).trans ((fqa y (by omega)).trans ((s1 y (by omega) (by omega) (by omega) (by omega) (by omega) (by omega) (by omega) (by omega)).trans (f2a y (by omega) (by omega) (by omega))))
    have k7 : F2 7 = f2 7 := (p1 7 (by decide) (by decide) (by decide) (by decide) (by decide) (by decide) (by decide)).trans ((fqa 7 (by decide)).trans (s1 7 (by decide) (by decide) (by decide) (by decide) (by decide) (by decide) (by decide) (by decide)))
    have k14 : F2 14 = f2 14 := (p1 14 (by decide) (by decide) (by decide) (by decide) (by decide) (by decide) (by decide)).trans ((fqa 14 (by decide)).trans (s1 14 (by decide) (by decide) (by decide) (by decide) (by decide) (by decide) (by decide) (by decide)))
    have kV : F2 28 = F 28 := (p1 28 (by decide) (by decide) (by decide) (by decide) (by decide) (by decide) (by decide)).trans (fqa 28 (by decide))
    have k0 : F2 0 = F 0 := (p1 0 (by decide) (by decide) (by decide) (by decide) (by decide) (by decide) (by decide)).trans (fqa 0 (by decide))
    have kW : F2 29 = (am_up (am_up F 29 3 0) 29 1 0) 29 := (p1 29 (by decide) (by decide) (by decide) (by decide) (by decide) (by decide) (by decide)).trans fqw
    have m31 : ∀ j, (j = 1 ∨ j = 5 ∨ j = 15 ∨ j = 16 ∨ j = 17 ∨ j = 18 ∨ j = 32 ∨ j = 34 ∨ j = 35) → F2 31 j = f5 31 j := fun j hj => (p2 j (by omega) (by omega) (by omega)).trans (cj j)
    have f5j : ∀ j, (j = 1 ∨ j = 5 ∨ j = 32 ∨ j = 34 ∨ j = 35) → f5 31 j = f 31 j := fun j hj => by rcases hj with q | q | q | q | q <;> (rw [q, ef5]; rfl)
    have kg : ∀ y, (y = 2 ∨ y = 3 ∨ y = 4 ∨ y = 8 ∨ y = 9 ∨ y = 11 ∨ y = 12 ∨ y = 13 ∨ y = 32 ∨ y = 33 ∨ y = 34 ∨ y = 37 ∨ y = 38 ∨ y = 40 ∨ y = 41) → G2 y = g y := fun y hy => (p3 y (by omega) (by omega)).trans ((am_up_ne (by omega)).trans (s3 y (by omega) (by omega) (by omega) (by omega) (by omega) (by omega)))
    have g08 : G2 0 8 = g 0 8 + 1 := by rw [p3 0 (by decide) (by decide), am_up_ne (by decide)]; exact s5
    have g14 : G2 31 14 = g 31 14 + 1 := by rw [p5, am_up_ne (by decide), s3 31 (by decide) (by decide) (by decide) (by decide) (by decide) (by decide)]
    have r07 : F2 0 7 = 1 := by rw [k0, s2 7 (by decide)]; exact f214.2.2.2.2.2
    have hlast : F2 0 9 = F2 31 30 ∧ iR (F2 31 30) := by
      rw [k0, y5, u5]
      have e17 : (can f5) 31 17 = k := q17
      have e17q : fq 31 17 = k := (cj 17).trans q17
      by_cases hk : k = 2
      · have z1 := y6 (e17.trans hk)
        have z2 := u6 (e17q.trans hk)
        rw [← can_O, ← can_F fq (am_up G 29 2 0) ((am_up G 29 2 0) 31 14 + 1), c1, c2, show fq 31 1 = (can f5) 31 1 from (cj 1)] at z2
        have el := nsL_uniq _ _ _ z1 z2
        have := nsL_le _ _ z1
        have e1 : (can f5) 31 1 = f 31 1 := q1
        exact ⟨by rw [el], by omega⟩
      · rw [y7 (fun q => hk (e17.symm.trans q)), u7 (fun q => hk (e17q.symm.trans q))]
        exact ⟨rfl, by decide⟩
    refine ⟨rfl, F2, G2, rfl, LV_mk h (fun y hy => k1 y (by omega)) (fun j hj => by rw [k7]; exact f27 j hj) (by rw [k7, f214.2.2.2.2.1]; omega) (fun j hj => (m31 j (by omega)).trans (f5j j hj)) kg ⟨by rw [g08, g14, t2], by rw [g14]; omega, by rw [g14]; omega⟩ ?_ ?_ hlast⟩
    · refine Or.inr ⟨r07, by rw [m31 17 (by omega), q17]; exact ⟨o3, o4⟩, by rw [k14, k7, m31 15 (by omega), m31 16 (by omega), m31 17 (by omega), m31 18 (by omega), q15, q16, q17, q18]; exact ⟨f214.1, f214.2.1, f214.2.2.1, f214.2.2.2.1, f214.2.2.2.2.1⟩, by rw [m31 15 (by omega), m31 1 (by omega), q15, q1]; exact o1, by rw [m31 16 (by omega), m31 1 (by omega), q16, q1]; exact o2, ?_⟩
      unfold toZ
      rw [m31 17 (by omega), m31 18 (by omega), q17, q18]
      by_cases hk : k = 2
      · rw [if_pos hk, if_pos hk]; exact o5 hk
      · rw [if_neg hk, if_neg hk]; exact ⟨Int.le_refl _, Int.le_refl _⟩
    · have w3 : F2 29 3 = 0 := by rw [kW, am_up_eq, am_up_eq]; rfl
      have w1 : F2 29 1 = 0 := by rw [kW, am_up_eq]; rfl
      refine ⟨Or.inl w3, fun q => by rw [show F2 (wyN true) 3 = F2 29 3 from rfl, w3] at q; exact absurd q (by decide), fun _ => ⟨u4, u3⟩, ⟨by rw [u3]; exact w1, by rw [u3]; exact ⟨by decide, by decide⟩⟩, fun i hi => by rw [u3] at hi; omega, fun j hj => Or.inl (p6 j hj), fun i hi => by rw [u3] at hi; exact absurd hi (Nat.not_lt_zero i), fun j => ?_⟩
      have e1 : F2 30 = f 30 := k1 30 (by omega)
      have e2 : F2 28 = f 28 := kV.trans (y4.trans (f2a 28 (by decide) (by decide) (by decide)))
      have := hrows j
      rw [e1, e2]
      exact this
  · rw [n1] at z
    obtain ⟨y1, y2, -⟩ := hgh z
    obtain ⟨-, hS2⟩ := hS
    rcases hS2 with ⟨q, _⟩ | ⟨_, y3, D0, s, hh, y4, y5, y6, _⟩
    · exact absurd q (by decide)
    rw [y6]
    omega
  · rw [n1] at z
    rw [← ef2] at hS hgh
    obtain ⟨⟨s1, s2, s3, s4, s5, s6⟩, hS2⟩ := hS
    rcases hS2 with ⟨q, _⟩ | ⟨_, y3, D0, s, hh, y4, y5, y6, y7, y8, y9⟩
    · exact absurd q (by decide)
    have agF : AG F f := fun x x1 x2 => (s1 x (by omega) (by omega) (by omega) (by omega) (by omega) (by omega) (by omega) (by omega)).trans (f2a x (by omega) (by omega) (by omega))
    have agG : AG G g := fun x x1 x2 => s3 x (by omega) (by omega) (by omega) (by omega) (by omega) (by omega)
    refine ref _ _ false agF agG ?_ z
    intro ok x F2 G2 fq efq c1 c2 hP
    obtain ⟨⟨p1, p2, p3, p4, p5⟩, p6, p7⟩ := hP
    rcases p7 with ⟨u1, u2, _⟩ | ⟨D1, s', h', u1, u2, u3, u4, u5, u6, u7⟩
    · rw [y4] at u2; cases u2
    rw [y4] at u2
    cases u2
    rw [u1, ← y6]
    have hMO := hgh ok
    obtain ⟨o1, o2, o3, o4, o5⟩ := ok
    have fqa : ∀ y, y ≠ 31 → fq y = F y := fun y hy => by rw [efq, am_up_ne hy, am_up_ne hy, am_up_ne hy, am_up_ne hy, am_up_ne hy]
    have cj : ∀ j, fq 31 j = f5 31 j := fun j => by have := congrFun (congrFun c1 31) j; exact this
    have k1 : ∀ y, (y = 1 ∨ y = 5 ∨ y = 6 ∨ y = 10 ∨ y = 35 ∨ y = 36 ∨ y = 39 ∨ y = 42 ∨ y = 24 ∨ y = 25 ∨ y = 26 ∨ y = 51 ∨ y = 30) → F2 y = f y := fun y hy => (p1 y (by omega) (by omega) (by omega) (by omega) (by omega) (by omega) (by omega)).trans ((fqa y (by omega)).trans ((s1 y (by omega) (by omega) (by omega) (by omega) (by omega) (by omega) (by omega) (by omega)).trans (f2a y (by omega) (by omega) (by omega))))
    have k7 : F2 7 = f2 7 := (p1 7 (by decide) (by decide) (by decide) (by decide) (by decide) (by decide) (by decide)).trans ((fqa 7 (by decide)).trans (s1 7 (by decide) (by decide) (by decide) (by decide) (by decide) (by decide) (by decide) (by decide)))
    have k14 : F2 14 = f2 14 := (p1 14 (by decide) (by decide) (by decide) (by decide) (by decide) (by decide) (by decide)).trans ((fqa 14 (by decide)).trans (s1 14 (by decide) (by decide) (by decide) (by decide) (by decide) (by decide) (by decide) (by decide)))
    have kF : ∀ y, (y = 27 ∨ y = 28 ∨ y = 0) → F2 y = F y := fun y hy => (p1 y (by omega) (by omega) (by omega) (by omega) (by omega) (by omega) (by omega)).trans (fqa y (by omega))
    have m31 : ∀ j, (j = 1 ∨ j = 5 ∨ j = 15 ∨ j = 16 ∨ j = 17 ∨ j = 18 ∨ j = 32 ∨ j = 34 ∨ j = 35) → F2 31 j = f5 31 j := fun j hj => (p2 j (by omega) (by omega) (by omega)).trans (cj j)
    have f5j : ∀ j, (j = 1 ∨ j = 5 ∨ j = 32 ∨ j = 34 ∨ j = 35) → f5 31 j = f 31 j := fun j hj => by rcases hj with q | q | q | q | q <;> (rw [q, ef5]; rfl)
    have kg : ∀ y, (y = 2 ∨ y = 3 ∨ y = 4 ∨ y = 8 ∨ y = 9 ∨ y = 11 ∨ y = 12 ∨ y = 13 ∨ y = 32 ∨ y = 33 ∨ y = 34 ∨ y = 37 ∨ y = 38 ∨ y = 40 ∨ y = 41) → G2 y = g y := fun y hy => (p3 y (by omega) (by omega)).trans (s3 y (by omega) (by omega) (by omega) (by omega) (by omega) (by omega))
    have g08 : G2 0 8 = g 0 8 + 1 := by rw [p3 0 (by decide) (by decide)]; exact s5
    have g14 : G2 31 14 = g 31 14 + 1 := by rw [p5, s3 31 (by decide) (by decide) (by decide) (by decide) (by decide) (by decide)]
    have r07 : F2 0 7 = 1 := by rw [kF 0 (by omega), s2 7 (by decide)]; exact f214.2.2.2.2.2
    have hlast : F2 0 9 = F2 31 30 ∧ iR (F2 31 30) := by rw [kF 0 (by omega), y3, u7]; exact ⟨rfl, by decide⟩
    refine ⟨rfl, F2, G2, rfl, LV_mk h (fun y hy => k1 y (by omega)) (fun j hj => by rw [k7]; exact f27 j hj) (by rw [k7, f214.2.2.2.2.1]; omega) (fun j hj => (m31 j (by omega)).trans (f5j j hj)) kg ⟨by rw [g08, g14, t2], by rw [g14]; omega, by rw [g14]; omega⟩ ?_ ?_ hlast⟩
    · refine Or.inr ⟨r07, by rw [m31 17 (by omega), q17]; exact ⟨o3, o4⟩, by rw [k14, k7, m31 15 (by omega), m31 16 (by omega), m31 17 (by omega), m31 18 (by omega), q15, q16, q17, q18]; exact ⟨f214.1, f214.2.1, f214.2.2.1, f214.2.2.2.1, f214.2.2.2.2.1⟩, by rw [m31 15 (by omega), m31 1 (by omega), q15, q1]; exact o1, by rw [m31 16 (by omega), m31 1 (by omega), q16, q1]; exact o2, ?_⟩
      unfold toZ
      rw [m31 17 (by omega), m31 18 (by omega), q17, q18]
      by_cases hk : k = 2
      · rw [if_pos hk, if_pos hk]; exact o5 hk
      · rw [if_neg hk, if_neg hk]; exact ⟨Int.le_refl _, Int.le_refl _⟩
    · have h20 := toZ_in (can f5)
      have hM0 := hMO.1
      have hb := (D_mod hM0 hD' (v := ((can f5) 31 18).toNat) (by have := hM0.1.2.2.2.2.2; omega) y4).2
      have hf := D_few hM0 hMO.2.1 hD' (v := ((can f5) 31 18).toNat) (by have := hM0.1.2.2.2.2.2; omega) y4
      have hRr : Rw (can f5) (can g5) D D0 (F2 47) (D0 % 4096) s' h' := by
        rw [← c1, ← c2]
        exact (can_R _ _ _).mpr u4
      have hrv : ∀ k, -120 ≤ F 28 k ∧ F 28 k ≤ 120 := rw_in hM0 y5 (fun i hi => (y9 i hi).trans (by show f2 28 i = f 28 i; rw [f2a 28 (by decide) (by decide) (by decide)])) (fun j => by have := hrows j; exact ⟨by omega, by omega⟩)
      refine LVw_new (v := 27) hM0 (by rw [kF (27 + 1) (by omega)]; exact y5) hRr (fun _ _ => rfl) hb hf (by rw [kF 27 (by omega)]; exact y7) u6 (by rw [p3 27 (by decide) (by decide)]; exact y8) r07 (by rw [kF 27 (by omega)]; exact y6) u3 p6 ⟨by rw [m31 5 (by omega)]; rfl, by rw [m31 15 (by omega)]; rfl, fun j => ⟨by rw [k1 35 (by omega)]; show f5 35 j = f 35 j; rw [ef5]; rfl, by rw [k1 36 (by omega)]; show f5 36 j = f 36 j; rw [ef5]; rfl⟩⟩ (fun j => ?_)
      have e1 : F2 30 = f 30 := k1 30 (by omega)
      have e2 : F2 28 = F 28 := kF 28 (by omega)
      have q1 := hrows j
      have q2 := hrv j
      rw [e1, e2]
      exact ⟨by omega, by omega⟩
