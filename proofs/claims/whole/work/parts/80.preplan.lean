/-! THE CALLS, PAIR BY PAIR: replan -/
theorem sP_ext {w w' : Nat → Int} : ∀ i : Nat, (∀ j, j < i → w j = w' j) → sP w i = sP w' i
  | 0, _ => rfl
  | i + 1, h => by show (w i).toNat = (w' i).toNat; rw [h i (Nat.lt_succ_self i)]
theorem HW_ext {f g : Nat → Nat → Int} {w w' : Nat → Int} : ∀ n : Nat, (∀ j, j < n → w j = w' j) → HW f g w n = HW f g w' n
  | 0, _ => rfl
  | n + 1, h => by
    simp only [HW]
    rw [HW_ext n (fun j hj => h j (by omega)), h n (Nat.lt_succ_self n), sP_ext n (fun j hj => h j (by omega))]
theorem TN_ext {f g : Nat → Nat → Int} {w w' : Nat → Int} {n : Nat} {v : Int} (h : ∀ j, j < n → w j = w' j) (hT : TN f g w n v) : TN f g w' n v := by
  have e : tnO f g w n ↔ tnO f g w' n := by
    unfold tnO
    constructor
    · intro q i hi
      have := q i hi
      rw [h i hi, sP_ext i (fun j hj => h j (by omega))] at this
      exact this
    · intro q i hi
      have := q i hi
      rw [← h i hi, ← sP_ext i (fun j hj => h j (by omega))] at this
      exact this
  unfold TN at hT ⊢
  rw [← e, ← HW_ext n h]
  exact hT
/-- what the class thinks worth is what the reference doesn't keep -/
theorem wr_kp {f0 g0 fq gq F G : Nat → Nat → Int} {D0 w v n : Nat} {r : Nat → Int} {gn x cost : Int} (hwr : wrZ f0 g0 w v F G gn x) (hT : ∀ c, TN f0 g0 (fun i => aZ (F (w + 1) i)) n c → TN fq gq (fq 47) n c) (hn : F w 1 = (n : Int)) (h31 : F w 3 = 1 → 0 ≤ cost) (h30 : F w 3 = 0 → cost < 0) (hG : G v 2 = ((D0 / 4096 : Nat) : Int)) (hs : (F w 1 = F v 1 ∧ ∀ i : Nat, (i : Int) < F w 1 → aZ (F (w + 1) i) = aZ (F (v + 1) i)) ↔ (n = D0 % 4096 ∧ ∀ i, i < n → fq 47 i = r i)) : x = 1 ↔ ¬ kpZ fq gq (fq 47) n cost gn D0 r := by
  rcases hwr with ⟨h3, hx⟩ | ⟨h3, n', c, q1, q2, q3⟩
  · refine ⟨fun _ => ?_, fun _ => hx⟩
    rintro ⟨v', z1, z2, _⟩
    have := h30 h3
    rcases z1 with ⟨_, z⟩ | ⟨z, _⟩ <;> omega
  · have en : n' = n := by omega
    subst en
    have hk := kp_iff (gn := gn) (D0 := D0) (r := r) (Or.inr ⟨h31 h3, hT c q2⟩ : (cost < 0 ∧ c = -1) ∨ (0 ≤ cost ∧ TN fq gq (fq 47) n' c))
    rw [hk, q3.2, hG]
    constructor
    · rintro (z | ⟨z1, z2⟩) ⟨y1, y2⟩
      · omega
      · rcases y2 with y | y
        · exact z2 (hs.mpr y)
        · omega
    · intro z
      by_cases hc : c < 0
      · exact Or.inl hc
      · right
        refine ⟨?_, fun y => z ⟨by omega, Or.inl (hs.mp y)⟩⟩
        apply Classical.byContradiction
        intro y
        exact z ⟨by omega, Or.inr (by omega)⟩
theorem LVw_cg2 {f g F G : Nat → Nat → Int} {w : Nat} (h : LVw w f g) (a : F w = f w ∧ F (w + 1) = f (w + 1) ∧ F 0 7 = f 0 7 ∧ F 31 23 = f 31 23 ∧ F 47 = f 47 ∧ F 48 = f 48) (r : ∀ k, (-120 ≤ F 28 k ∧ F 28 k ≤ 120) ∧ -120 ≤ F 30 k ∧ F 30 k ≤ 120) (c : f 31 5 ≤ F 31 5 ∧ F 31 15 = f 31 15 ∧ ∀ k : Nat, 1 ≤ k → (k : Int) ≤ f 31 5 → F 35 k = f 35 k ∧ F 36 k = f 36 k) (b : G w = g w ∧ G 31 25 = g 31 25) : LVw w F G := by
  obtain ⟨a1, a2, a5, a6, a7, a8⟩ := a
  unfold LVw at h ⊢
  rw [a1, a2, a5, a6, a7, a8, b.1, b.2]
  obtain ⟨h1, h2, h3, h4, h5, h6, h7, h8⟩ := h
  exact ⟨h1, h2, h3, h4, h5, h6, chO_cg h7 c, r⟩
theorem LVp_on {f : Nat → Nat → Int} (h : LVp f) (h7 : f 0 7 = 1) : (0 ≤ f 31 17 ∧ f 31 17 ≤ 2) ∧ (f 14 8 = f 31 15 ∧ f 14 9 = f 31 16 ∧ f 14 10 = f 31 17 ∧ f 14 11 = f 31 18 ∧ f 7 0 = f 31 15) ∧ (1 ≤ f 31 15 ∧ f 31 15 ≤ f 31 1) ∧ (1 ≤ f 31 16 ∧ f 31 16 ≤ f 31 1) ∧ 0 ≤ f 31 18 ∧ f 31 18 ≤ toZ f := by
  rcases h with h | h
  · omega
  · exact h.2
theorem pr_10_f {d L N : Nat} {f g : Nat → Nat → Int} {gn : Int} (h : LVq N false f g) (hN : N ≤ 4095) (hgn : lR gn) : am_call (d + 7) 10 [.ref 0, .long (lZ gn)] (53, sh_lt L, iH f, jH g, sh_rt false) (Mid L (N + 1) (d + 7) 49 [.ref 31, .long (lZ gn)]) := by
  obtain ⟨n1, n1'⟩ := h.1.1
  have hX : XOk g := h.1.2.2.1
  obtain ⟨t1, t2, t3, t4⟩ := h.2.2.1
  have hp : LVp f := h.2.2.2.2.1
  have hwo : LVw 27 f g := h.2.2.2.2.2.1
  obtain ⟨w1, w2, w3, w4, w5, w6, w7, hrows⟩ := hwo
  have hwo : LVw 27 f g := h.2.2.2.2.2.1
  obtain ⟨n, en⟩ : ∃ n : Nat, f 31 23 = (n : Int) := ⟨(f 31 23).toNat, by omega⟩
  have en' : (f 31 23).toNat = n := by omega
  rw [en'] at w7
  have hn24 : n ≤ 2400 := by omega
  have hr30 : ∀ j, -120 ≤ f 30 j ∧ f 30 j ≤ 120 := fun j => by have := hrows j; exact ⟨by omega, by omega⟩
  have w5' : ∀ i, i < n → aZ (f 28 i) = f 47 i := fun i hi => (w5 i (by omega)).1
  obtain ⟨f5, ef5⟩ : ∃ f5, f5 = am_up f 31 0 0 := ⟨_, rfl⟩
  obtain ⟨g5, eg5⟩ : ∃ g5, g5 = am_up g 31 14 (g 31 14 + 1) := ⟨_, rfl⟩
  obtain ⟨D, hD⟩ := mg_ex (mE f5 g5) (mT f5)
  have hD' : mg_D (mE (can f5) (can g5)) (mT (can f5)) D := hD
  have q31 : ∀ j, j ≠ 0 → f5 31 j = f 31 j := fun j hj => by rw [ef5, am_up_eq]; dsimp only; rw [if_neg hj]
  have to5 : toZ f5 = toZ f := by unfold toZ; rw [q31 17 (by decide)]
  have hgh : f 0 7 = 1 → MOk (can f5) (can g5) ∧ UOk (can f5) ∧ XOk (can g5) ∧ CW (can f5) (can g5) f g ∧ CL (can f5) (can g5) f g ∧ (can g5) 31 14 = g 0 8 + 1 ∧ (can f5) 31 18 ≤ toZ (can f5) := by
    intro h7
    obtain ⟨o1, o2, o3, o4, o5⟩ := LVp_on hp h7
    have := LV_gh (f5 := f5) (f2 := f) h (by omega) ⟨by rw [ef5]; rfl, by rw [ef5]; rfl, by rw [ef5]; rfl, by rw [ef5]; rfl, q31 1 (by decide), q31 5 (by decide)⟩ ⟨by rw [q31 15 (by decide)]; exact o3, by rw [q31 16 (by decide)]; exact o4, by rw [q31 17 (by decide)]; exact o1, by rw [q31 18 (by decide), to5]; exact o5⟩ ⟨rfl, rfl, rfl, rfl, fun _ _ => rfl, by rw [q31 15 (by decide)]; exact o2.2.2.2.2, by rw [q31 15 (by decide)]; exact o2.1, by rw [q31 16 (by decide)]; exact o2.2.1, by rw [q31 17 (by decide)]; exact o2.2.2.1, by rw [q31 18 (by decide)]; exact o2.2.2.2.1⟩
    rw [← eg5] at this
    exact this
  have c18 : (can f5) 31 18 = f 31 18 := q31 18 (by decide)
  have hch0 : chO (can f5) (f 47) n := chO_cg w7 ⟨by show f 31 5 ≤ f5 31 5; rw [q31 5 (by decide)]; exact Int.le_refl _, q31 15 (by decide), fun j _ _ => ⟨by show f5 35 j = f 35 j; rw [ef5]; rfl, by show f5 36 j = f 36 j; rw [ef5]; rfl⟩⟩
  have hchA : chO (can f5) (fun i => aZ (f 28 i)) n := by
    intro i hi
    have := hch0 i hi
    rw [sP_ext (w := fun i => aZ (f 28 i)) (w' := f 47) i (fun j hj => w5' j (by omega))]
    rw [show (fun i => aZ (f 28 i)) i = f 47 i from w5' i hi]
    exact this
  have wc1 : f 27 3 = 1 → 0 ≤ g 31 25 := fun q => (w2 q).1.1
  have wc0 : f 27 3 = 0 → g 31 25 < 0 := fun q => by rw [(w3 q).1]; decide
  have g25r : lR (g 31 25) := by
    rcases w1 with q | q
    · rw [(w3 q).1]; decide
    · have := (w2 q).1; omega
  -- the reference's replan() from a heap that is the same to it
  have ref : ∀ (F G : Nat → Nat → Int) (sw' : Bool) {Q : Option Value → am_H → Prop}, AG F f → AG G g → (0 ≤ gn ∧ f 0 7 = 1) → (∀ x F2 G2 (fq : Nat → Nat → Int), fq = am_up F 31 0 0 → can fq = can f5 → can (am_up G 31 14 (G 31 14 + 1)) = can g5 → QR fq G D ((can f5) 31 18).toNat n gn x F2 G2 → Q (some (.int (iZ x))) (53, sh_lt L, iH F2, jH G2, sh_rt sw')) → am_call (d + 7) 49 [.ref 31, .long (lZ gn)] (53, sh_lt L, iH F, jH G, sh_rt sw') Q := by
    intro F G sw' Q hF hG hok K
    obtain ⟨o1, o2, o3, o4, o5⟩ := LVp_on hp hok.2
    obtain ⟨fq, efq⟩ : ∃ fq, fq = am_up F 31 0 0 := ⟨_, rfl⟩
    have c1 : can fq = can f5 := by rw [efq, ef5]; exact AG_can (AG_up hF)
    have F31 : F 31 = f 31 := hF 31 (by decide) (by decide)
    have g14 : G 31 14 = g 31 14 := by rw [hG 31 (by decide) (by decide)]
    have c2 : can (am_up G 31 14 (G 31 14 + 1)) = can g5 := by rw [g14, eg5]; exact AG_can (AG_up hG)
    have hDq : mg_D (mE fq (am_up G 31 14 (G 31 14 + 1))) (mT fq) D := by rw [← can_E, ← can_T, c1, c2]; exact hD'
    have hMq : MOk fq (am_up G 31 14 (G 31 14 + 1)) := by
      have := (hgh hok.2).1
      rw [← c1, ← c2] at this
      exact this
    have toq : toZ fq = toZ f := by
      have : toZ (can fq) = toZ (can f5) := by rw [c1]
      exact (show toZ fq = toZ f5 from this).trans to5
    have hchq : chO fq (F 47) n := by
      rw [hF 47 (by decide) (by decide)]
      have : chO (can fq) (f 47) n := by rw [c1]; exact hch0
      exact this
    exact sp_49 (D := D) (a0 := ((can f5) 31 18).toNat) (n := n) efq hDq (fun z => by omega) (fun z => by rw [F31] at z; omega) (fun _ x F2 G2 hQ => K x F2 G2 fq efq c1 c2 hQ) ⟨hgn, by rw [F31]; omega⟩ (fun _ => hMq) (by unfold XOk; rw [hG 32 (by decide) (by decide), hG 33 (by decide) (by decide)]; exact hX) (fun _ => ⟨by rw [F31, c18]; omega, by rw [F31, toq]; exact o5.2⟩) (by rw [F31]; exact en) (by omega) (fun _ => hchq) (by rw [hG 31 (by decide) (by decide)]; exact g25r)
  have ref0 : ∀ {Q : Option Value → am_H → Prop}, (gn < 0 → Q (some (.int (iZ (-2)))) (53, sh_lt L, iH f5, jH g, sh_rt false)) → (0 ≤ gn ∧ f 31 17 < 0 → Q (some (.int (iZ (-3)))) (53, sh_lt L, iH f5, jH g, sh_rt false)) → ¬ (0 ≤ gn ∧ 0 ≤ f 31 17) → am_call (d + 7) 49 [.ref 31, .long (lZ gn)] (53, sh_lt L, iH f, jH g, sh_rt false) Q := by
    intro Q K1 K2 hno
    have h7 : 0 ≤ f 31 17 → f 0 7 = 1 := fun y => by
      rcases hp with q | q
      · omega
      · exact q.1
    exact sp_49 (D := D) (a0 := ((can f5) 31 18).toNat) (n := n) ef5 (by rw [eg5] at hD; exact hD) K1 K2 (fun y => absurd y hno) ⟨hgn, by rcases hp with q | q; (have := q.2; omega); (have := q.2.1; omega)⟩ (fun y => by have q2 := (hgh (h7 y)).1; rw [eg5] at q2; exact q2) hX (fun y => by have := (LVp_on hp (h7 y)).2.2.2.2; rw [c18, to5]; exact ⟨by omega, by omega⟩) en (by omega) (fun _ => hch0) g25r
  -- nothing is taken
  have keep : ∀ (F G F2 G2 fq : Nat → Nat → Int), AG F f → AG G g → fq = am_up F 31 0 0 → PQ fq G F2 G2 → wyS fq G F2 G2 → (∀ y, (y = 1 ∨ y = 5 ∨ y = 6 ∨ y = 7 ∨ y = 10 ∨ y = 14 ∨ y = 35 ∨ y = 36 ∨ y = 39 ∨ y = 42 ∨ y = 24 ∨ y = 25 ∨ y = 26 ∨ y = 51 ∨ y = 27 ∨ y = 28 ∨ y = 47 ∨ y = 48) → F y = f y) → F 0 7 = f 0 7 → G 0 8 = g 0 8 + 1 → (∀ y, (y = 2 ∨ y = 3 ∨ y = 4 ∨ y = 8 ∨ y = 9 ∨ y = 11 ∨ y = 12 ∨ y = 13 ∨ y = 32 ∨ y = 33 ∨ y = 34 ∨ y = 37 ∨ y = 38 ∨ y = 40 ∨ y = 41 ∨ y = 27 ∨ y = 31) → G y = g y) → (∀ j, -120 ≤ F 30 j ∧ F 30 j ≤ 120) → (F2 0 9 = F2 31 30 ∧ iR (F2 31 30)) → LVq (N + 1) false F2 G2 := by
    intro F G F2 G2 fq agF agG efq hPQ hwy kF k07 k08 kG hrv hlast
    obtain ⟨p1, p2, p3, p4, p5⟩ := hPQ
    obtain ⟨e1, e2, e3, e4⟩ := hwy
    have fqa : ∀ y, y ≠ 31 → fq y = F y := fun y hy => by rw [efq, am_up_ne hy]
    have F31 : F 31 = f 31 := agF 31 (by decide) (by decide)
    have fqj : ∀ j, j ≠ 0 → fq 31 j = f 31 j := fun j hj => by rw [efq, am_up_eq]; dsimp only; rw [if_neg hj, F31]
    have k1 : ∀ y, (y = 1 ∨ y = 5 ∨ y = 6 ∨ y = 7 ∨ y = 10 ∨ y = 14 ∨ y = 35 ∨ y = 36 ∨ y = 39 ∨ y = 42 ∨ y = 24 ∨ y = 25 ∨ y = 26 ∨ y = 51 ∨ y = 27 ∨ y = 28) → F2 y = f y := fun y hy => (p1 y (by omega) (by omega) (by omega) (by omega) (by omega) (by omega) (by omega)).trans ((fqa y (by omega)).trans (kF y (by omega)))
    have kV : F2 30 = F 30 := (p1 30 (by decide) (by decide) (by decide) (by decide) (by decide) (by decide) (by decide)).trans (fqa 30 (by decide))
    have k0 : F2 0 = F 0 := (p1 0 (by decide) (by decide) (by decide) (by decide) (by decide) (by decide) (by decide)).trans (fqa 0 (by decide))
    have m31 : ∀ j, (j = 1 ∨ j = 5 ∨ j = 15 ∨ j = 16 ∨ j = 17 ∨ j = 18 ∨ j = 32 ∨ j = 34 ∨ j = 35) → F2 31 j = f 31 j := fun j hj => (p2 j (by omega) (by omega) (by omega)).trans (fqj j (by omega))
    have kg : ∀ y, (y = 2 ∨ y = 3 ∨ y = 4 ∨ y = 8 ∨ y = 9 ∨ y = 11 ∨ y = 12 ∨ y = 13 ∨ y = 32 ∨ y = 33 ∨ y = 34 ∨ y = 37 ∨ y = 38 ∨ y = 40 ∨ y = 41 ∨ y = 27) → G2 y = g y := fun y hy => (p3 y (by omega) (by omega) (by omega)).trans (kG y (by omega))
    have g08 : G2 0 8 = g 0 8 + 1 := by rw [p3 0 (by decide) (by decide) (by decide)]; exact k08
    have g14 : G2 31 14 = g 31 14 + 1 := by rw [p5, kG 31 (by omega)]
    refine LV_mk h (fun y hy => k1 y (by omega)) (fun j _ => by rw [k1 7 (by omega)]) (by rw [k1 7 (by omega)]; exact h.2.1.2.2.2.2.2.2) (fun j hj => m31 j (by omega)) (fun y hy => kg y (by omega)) ⟨by rw [g08, g14, t2], by rw [g14]; omega, by rw [g14]; omega⟩ (LVp_cg hp ⟨by rw [k0]; exact k07, m31 15 (by omega), m31 16 (by omega), m31 17 (by omega), m31 18 (by omega), by rw [m31 1 (by omega)]; exact Int.le_refl _, k1 14 (by omega), by rw [k1 7 (by omega)]⟩) (LVw_cg2 (w := 27) hwo ⟨k1 27 (by omega), k1 28 (by omega), by rw [k0]; exact k07, e3.trans (fqj 23 (by decide)), e1.trans ((fqa 47 (by decide)).trans (kF 47 (by omega))), e2.trans ((fqa 48 (by decide)).trans (kF 48 (by omega)))⟩ (fun j => ?_) ⟨by rw [m31 5 (by omega)]; exact Int.le_refl _, m31 15 (by omega), fun j _ _ => ⟨by rw [k1 35 (by omega)], by rw [k1 36 (by omega)]⟩⟩ ⟨kg 27 (by omega), by rw [e4, kG 31 (by omega)]⟩) hlast
    have q1 := hrows j
    have q2 := hrv j
    rw [k1 28 (by omega), kV]
    exact ⟨by omega, by omega⟩
  have w4' : f 27 1 = (n : Int) := by rw [← en]; exact w4.1
  have wkp : ∀ (F G G2 fq : Nat → Nat → Int) (D0 s s' : Nat) (hh h' r : Nat → Int) (x : Int), AG F f → AG G2 g → fq = am_up F 31 0 0 → can fq = can f5 → can (am_up G2 31 14 (G2 31 14 + 1)) = can g5 → F 27 = f 27 → F 28 = f 28 → Rw (can f5) (can g5) D D0 (F (29 + 1)) (D0 % 4096) s hh → F 29 1 = ((D0 % 4096 : Nat) : Int) → G 29 2 = ((D0 / 4096 : Nat) : Int) → Rw fq (am_up G2 31 14 (G2 31 14 + 1)) D D0 r (D0 % 4096) s' h' → wrZ (can f5) (can g5) 27 29 F G gn x → (x = 1 ↔ ¬ kpZ fq (am_up G2 31 14 (G2 31 14 + 1)) (fq 47) n (G2 31 25) gn D0 r) := by
    intro F G G2 fq D0 s s' hh h' r x agF agG efq c1 c2 eW eR hR hv1 hv2 hRr hwr
    have g25 : G2 31 25 = g 31 25 := by rw [agG 31 (by decide) (by decide)]
    have e47 : fq 47 = f 47 := by rw [efq, am_up_ne (by decide)]; exact agF 47 (by decide) (by decide)
    have hRr' : Rw (can f5) (can g5) D D0 r (D0 % 4096) s' h' := by rw [← c1, ← c2]; exact (can_R _ _ _).mpr hRr
    have hu := (Rw_uniq _ _ _ _ _ hR hRr').2.2
    have hc := (Rw_ch _ s hh hR).2
    refine wr_kp hwr (fun c hT => ?_) (by rw [eW]; exact w4') (by rw [eW, g25]; exact wc1) (by rw [eW, g25]; exact wc0) hv2 ?_
    · rw [← c1, ← c2] at hT
      have hT2 := can_TN.mp hT
      refine TN_ext (fun j hj => ?_) hT2
      show aZ (F 28 j) = fq 47 j
      rw [eR, e47]
      exact w5' j hj
    · rw [eW, hv1, w4', e47]
      show ((n : Int) = ((D0 % 4096 : Nat) : Int) ∧ ∀ i : Nat, (i : Int) < (n : Int) → aZ (F 28 i) = aZ (F 30 i)) ↔ _
      rw [eR]
      have key : n = D0 % 4096 → ∀ i, i < n → (aZ (f 28 i) = aZ (F 30 i) ↔ f 47 i = r i) := by
        intro z i hi
        have q1 := (hc i (by omega)).1
        have q2 := hu i (by omega)
        have q1' : 1 ≤ F 30 i := q1
        have q2' : F 30 i = r i := q2
        rw [w5' i hi, ← q2']
        unfold aZ
        rw [if_pos (by omega)]
      constructor
      · rintro ⟨z1, z2⟩
        have z : n = D0 % 4096 := by omega
        exact ⟨z, fun i hi => (key z i hi).mp (z2 i (by omega))⟩
      · rintro ⟨z1, z2⟩
        exact ⟨by omega, fun i hi => (key z1 i (by omega)).mpr (z2 i (by omega))⟩
  refine sp_10_false (f0 := can f5) (g0 := can g5) (D := D) (n := n) (fun z => ⟨-2, f, g, false, by decide, rfl, rfl, ?_⟩) (fun z => ⟨-3, f, g, false, by decide, rfl, rfl, ?_⟩) (fun z F G hS => ⟨0, F, G, false, by decide, rfl, rfl, ?_⟩) (fun z F G G2 hS hG2 hwr => ⟨0, F, G2, false, by decide, rfl, rfl, ?_⟩) (fun z F G G2 hS hG2 hwr => ⟨1, F, G2, true, by decide, rfl, rfl, ?_⟩) hgn (by rcases hp with q | q; exact Or.inl q.1; exact Or.inr q.1) (fun z => by obtain ⟨y1, y2, y3, y4, y5, y6, y7⟩ := hgh z; exact ⟨y1, y2, y3, hD', y4, y5, y6, y7⟩) w1 w4' hn24 (fun j => by have := hrows j; exact ⟨by omega, by omega⟩) (fun j => by have := hrows j; exact ⟨by omega, by omega⟩) (fun _ _ => hchA)
  · exact ref0 (fun _ => ⟨rfl, _, _, rfl, by rw [ef5]; exact LV_c0 h (Nat.le_succ N)⟩) (fun y => by omega) (fun y => by omega)
  · have q17 : f 31 17 = -1 := by
      rcases hp with q | q
      · exact q.2
      · omega
    exact ref0 (fun y => by omega) (fun _ => ⟨rfl, _, _, rfl, by rw [ef5]; exact LV_c0 h (Nat.le_succ N)⟩) (fun y => by omega)
  · obtain ⟨⟨s1, s2, s3, s4, s5, s6⟩, hS2⟩ := hS
    obtain ⟨_, y1, y2, y3, y4, l, y5, y6, y7⟩ := hS2.resolve_right (fun q => absurd q.1 (by decide))
    have agF : AG F f := fun x x1 x2 => s1 x (by omega) (by omega) (by omega) (by omega) (by omega) (by omega) (by omega) (by omega)
    have agG : AG G g := fun x x1 x2 => s3 x (by omega) (by omega) (by omega) (by omega) (by omega) (by omega)
    refine ref F G false agF agG z ?_
    intro x F2 G2 fq efq c1 c2 hQ
    obtain ⟨hPQ, p7⟩ := hQ
    obtain ⟨u1, u2, u3, l', u5, u6, u7⟩ := p7.resolve_right (fun ⟨D0, _, _, _, u2, _⟩ => by rw [y1] at u2; cases u2)
    subst u1
    refine ⟨rfl, F2, G2, rfl, keep F G F2 G2 fq agF agG efq hPQ u3 (fun y hy => s1 y (by omega) (by omega) (by omega) (by omega) (by omega) (by omega) (by omega) (by omega)) (s2 7 (by decide)) s5 (fun y hy => s3 y (by omega) (by omega) (by omega) (by omega) (by omega) (by omega)) (fun j => by rw [show F 30 = f 30 from y4]; exact hr30 j) ?_⟩
    obtain ⟨p1, p2, p3, p4, p5⟩ := hPQ
    have cj : ∀ j, fq 31 j = f5 31 j := fun j => by have := congrFun (congrFun c1 31) j; exact this
    have k0 : F2 0 = F 0 := (p1 0 (by decide) (by decide) (by decide) (by decide) (by decide) (by decide) (by decide)).trans (by rw [efq, am_up_ne (by decide)])
    rw [k0, y5, u5]
    have e17 : (can f5) 31 17 = fq 31 17 := (cj 17).symm
    by_cases hk : fq 31 17 = 2
    · have z1 := y6 (e17.trans hk)
      have z2 := u6 hk
      rw [← can_O, ← can_F fq G (G 31 14 + 1), c1, c2, show fq 31 1 = (can f5) 31 1 from (cj 1)] at z2
      have el := nsL_uniq _ _ _ z1 z2
      have := nsL_le _ _ z1
      have e1 : (can f5) 31 1 = f 31 1 := q31 1 (by decide)
      exact ⟨by rw [el], by omega⟩
    · rw [y7 (fun q => hk (e17.symm.trans q)), u7 hk]
      exact ⟨rfl, by decide⟩
  · obtain ⟨⟨s1, s2, s3, s4, s5, s6⟩, hS2⟩ := hS
    rcases hS2 with ⟨q, _⟩ | ⟨_, y3, D0, s, hh, y4, y5, y6, y7, y8, y9⟩
    · exact absurd q (by decide)
    have hG2' : ∀ a, a ≠ 0 → a ≠ 16 → a ≠ 19 → a ≠ 21 → a ≠ 23 → a ≠ 29 → G2 a = g a := fun a a1 a2 a3 a4 a5 a6 => (hG2 a a5).trans (s3 a a1 a2 a3 a4 a5 a6)
    have agF : AG F f := fun x x1 x2 => s1 x (by omega) (by omega) (by omega) (by omega) (by omega) (by omega) (by omega) (by omega)
    have agG : AG G2 g := fun x x1 x2 => hG2' x (by omega) (by omega) (by omega) (by omega) (by omega) (by omega)
    have hM0 := (hgh z.2).1
    refine ref F G2 false agF agG z ?_
    intro x F2 G3 fq efq c1 c2 hQ
    obtain ⟨hPQ, p7⟩ := hQ
    rcases p7 with ⟨_, u2, _⟩ | ⟨D1, s', h', r, u2, u3, u4, u5, u6⟩
    · rw [y4] at u2; cases u2
    rw [y4] at u2
    cases u2
    have hwk := wkp F G G2 fq D0 s s' hh h' r (0 : Int) agF agG efq c1 c2 (s1 27 (by decide) (by decide) (by decide) (by decide) (by decide) (by decide) (by decide) (by decide)) (s1 28 (by decide) (by decide) (by decide) (by decide) (by decide) (by decide) (by decide) (by decide)) y5 y6 y8 u3 hwr
    rcases u6 with ⟨v1, v2, v3⟩ | ⟨v1, v2, _⟩
    · subst v1
      refine ⟨rfl, F2, G3, rfl, keep F G2 F2 G3 fq agF agG efq hPQ v3 (fun y hy => s1 y (by omega) (by omega) (by omega) (by omega) (by omega) (by omega) (by omega) (by omega)) (s2 7 (by decide)) (by rw [hG2 0 (by decide)]; exact s5) (fun y hy => hG2' y (by omega) (by omega) (by omega) (by omega) (by omega) (by omega)) (rw_in hM0 y5 y9 hr30) ?_⟩
      have k0 : F2 0 = F 0 := (hPQ.1 0 (by decide) (by decide) (by decide) (by decide) (by decide) (by decide) (by decide)).trans (by rw [efq, am_up_ne (by decide)])
      rw [k0, y3, u5]
      exact ⟨rfl, by decide⟩
    · exact absurd (hwk.mpr v2) (by decide)
  · obtain ⟨⟨s1, s2, s3, s4, s5, s6⟩, hS2⟩ := hS
    rcases hS2 with ⟨q, _⟩ | ⟨_, y3, D0, s, hh, y4, y5, y6, y7, y8, y9⟩
    · exact absurd q (by decide)
    have hG2' : ∀ a, a ≠ 0 → a ≠ 16 → a ≠ 19 → a ≠ 21 → a ≠ 23 → a ≠ 29 → G2 a = g a := fun a a1 a2 a3 a4 a5 a6 => (hG2 a a5).trans (s3 a a1 a2 a3 a4 a5 a6)
    have agF : AG F f := fun x x1 x2 => s1 x (by omega) (by omega) (by omega) (by omega) (by omega) (by omega) (by omega) (by omega)
    have agG : AG G2 g := fun x x1 x2 => hG2' x (by omega) (by omega) (by omega) (by omega) (by omega) (by omega)
    have hM0 := (hgh z.2).1
    refine ref F G2 true agF agG z ?_
    intro x F2 G3 fq efq c1 c2 hQ
    obtain ⟨hPQ, p7⟩ := hQ
    rcases p7 with ⟨_, u2, _⟩ | ⟨D1, s', h', r, u2, u3, u4, u5, u6⟩
    · rw [y4] at u2; cases u2
    rw [y4] at u2
    cases u2
    have hwk := wkp F G G2 fq D0 s s' hh h' r (1 : Int) agF agG efq c1 c2 (s1 27 (by decide) (by decide) (by decide) (by decide) (by decide) (by decide) (by decide) (by decide)) (s1 28 (by decide) (by decide) (by decide) (by decide) (by decide) (by decide) (by decide) (by decide)) y5 y6 y8 u3 hwr
    rcases u6 with ⟨v1, v2, _⟩ | ⟨v1, v2, v3, v4, v5, v6⟩
    · exact absurd v2 (hwk.mp rfl)
    subst v1
    obtain ⟨p1, p2, p3, p4, p5⟩ := hPQ
    obtain ⟨o1, o2, o3, o4, o5⟩ := LVp_on hp z.2
    have fqa : ∀ y, y ≠ 31 → fq y = F y := fun y hy => by rw [efq, am_up_ne hy]
    have cj : ∀ j, fq 31 j = f5 31 j := fun j => by have := congrFun (congrFun c1 31) j; exact this
    have k1 : ∀ y, (y = 1 ∨ y = 5 ∨ y = 6 ∨ y = 7 ∨ y = 10 ∨ y = 14 ∨ y = 35 ∨ y = 36 ∨ y = 39 ∨ y = 42 ∨ y = 24 ∨ y = 25 ∨ y = 26 ∨ y = 51 ∨ y = 28) → F2 y = f y := fun y hy => (p1 y (by omega) (by omega) (by omega) (by omega) (by omega) (by omega) (by omega)).trans ((fqa y (by omega)).trans (s1 y (by omega) (by omega) (by omega) (by omega) (by omega) (by omega) (by omega) (by omega)))
    have kF : ∀ y, (y = 29 ∨ y = 30 ∨ y = 0) → F2 y = F y := fun y hy => (p1 y (by omega) (by omega) (by omega) (by omega) (by omega) (by omega) (by omega)).trans (fqa y (by omega))
    have m31 : ∀ j, (j = 1 ∨ j = 5 ∨ j = 15 ∨ j = 16 ∨ j = 17 ∨ j = 18 ∨ j = 32 ∨ j = 34 ∨ j = 35) → F2 31 j = f 31 j := fun j hj => (p2 j (by omega) (by omega) (by omega)).trans ((cj j).trans (q31 j (by omega)))
    have kg : ∀ y, (y = 2 ∨ y = 3 ∨ y = 4 ∨ y = 8 ∨ y = 9 ∨ y = 11 ∨ y = 12 ∨ y = 13 ∨ y = 32 ∨ y = 33 ∨ y = 34 ∨ y = 37 ∨ y = 38 ∨ y = 40 ∨ y = 41) → G3 y = g y := fun y hy => (p3 y (by omega) (by omega) (by omega)).trans (hG2' y (by omega) (by omega) (by omega) (by omega) (by omega) (by omega))
    have g08 : G3 0 8 = g 0 8 + 1 := by rw [p3 0 (by decide) (by decide) (by decide), hG2 0 (by decide)]; exact s5
    have g14 : G3 31 14 = g 31 14 + 1 := by rw [p5, hG2' 31 (by decide) (by decide) (by decide) (by decide) (by decide) (by decide)]
    have r07 : F2 0 7 = 1 := by rw [kF 0 (by omega), s2 7 (by decide)]; exact z.2
    have hlast : F2 0 9 = F2 31 30 ∧ iR (F2 31 30) := by rw [kF 0 (by omega), y3, u5]; exact ⟨rfl, by decide⟩
    refine ⟨rfl, F2, G3, rfl, LV_mk h (fun y hy => k1 y (by omega)) (fun j _ => by rw [k1 7 (by omega)]) (by rw [k1 7 (by omega)]; exact h.2.1.2.2.2.2.2.2) (fun j hj => m31 j (by omega)) kg ⟨by rw [g08, g14, t2], by rw [g14]; omega, by rw [g14]; omega⟩ (LVp_cg hp ⟨by rw [r07]; exact z.2.symm, m31 15 (by omega), m31 16 (by omega), m31 17 (by omega), m31 18 (by omega), by rw [m31 1 (by omega)]; exact Int.le_refl _, k1 14 (by omega), by rw [k1 7 (by omega)]⟩) ?_ hlast⟩
    have h20 := toZ_in (can f5)
    have hb := (D_mod hM0 hD' (v := ((can f5) 31 18).toNat) (by have := hM0.1.2.2.2.2.2; omega) y4).2
    have hf := D_few hM0 (hgh z.2).2.1 hD' (v := ((can f5) 31 18).toNat) (by have := hM0.1.2.2.2.2.2; omega) y4
    have hRr : Rw (can f5) (can g5) D D0 r (D0 % 4096) s' h' := by
      rw [← c1, ← c2]
      exact (can_R _ _ _).mpr u3
    have hrv : ∀ k, -120 ≤ F 30 k ∧ F 30 k ≤ 120 := rw_in hM0 y5 y9 hr30
    refine LVw_new (v := 29) hM0 (by rw [kF (29 + 1) (by omega)]; exact y5) hRr v4 hb hf (by rw [kF 29 (by omega)]; exact y7) v6 (by rw [p3 29 (by decide) (by decide) (by decide), hG2 29 (by decide)]; exact y8) r07 (by rw [kF 29 (by omega)]; exact y6) v3 v5 ⟨by rw [m31 5 (by omega)]; exact q31 5 (by decide), by rw [m31 15 (by omega)]; exact q31 15 (by decide), fun j => ⟨by rw [k1 35 (by omega)]; show f5 35 j = f 35 j; rw [ef5]; rfl, by rw [k1 36 (by omega)]; show f5 36 j = f 36 j; rw [ef5]; rfl⟩⟩ (fun j => ?_)
    have e1 : F2 28 = f 28 := k1 28 (by omega)
    have e2 : F2 30 = F 30 := kF 30 (by omega)
    have q1 := hrows j
    have q2 := hrv j
    rw [e1, e2]
    exact ⟨by omega, by omega⟩
theorem pr_10_t {d L N : Nat} {f g : Nat → Nat → Int} {gn : Int} (h : LVq N true f g) (hN : N ≤ 4095) (hgn : lR gn) : am_call (d + 7) 10 [.ref 0, .long (lZ gn)] (53, sh_lt L, iH f, jH g, sh_rt true) (Mid L (N + 1) (d + 7) 49 [.ref 31, .long (lZ gn)]) := by
  obtain ⟨n1, n1'⟩ := h.1.1
  have hX : XOk g := h.1.2.2.1
  obtain ⟨t1, t2, t3, t4⟩ := h.2.2.1
  have hp : LVp f := h.2.2.2.2.1
  have hwo : LVw 29 f g := h.2.2.2.2.2.1
  obtain ⟨w1, w2, w3, w4, w5, w6, w7, hrows⟩ := hwo
  have hwo : LVw 29 f g := h.2.2.2.2.2.1
  obtain ⟨n, en⟩ : ∃ n : Nat, f 31 23 = (n : Int) := ⟨(f 31 23).toNat, by omega⟩
  have en' : (f 31 23).toNat = n := by omega
  rw [en'] at w7
  have hn24 : n ≤ 2400 := by omega
  have hr28 : ∀ j, -120 ≤ f 28 j ∧ f 28 j ≤ 120 := fun j => by have := hrows j; exact ⟨by omega, by omega⟩
  have w5' : ∀ i, i < n → aZ (f 30 i) = f 47 i := fun i hi => (w5 i (by omega)).1
  obtain ⟨f5, ef5⟩ : ∃ f5, f5 = am_up f 31 0 0 := ⟨_, rfl⟩
  obtain ⟨g5, eg5⟩ : ∃ g5, g5 = am_up g 31 14 (g 31 14 + 1) := ⟨_, rfl⟩
  obtain ⟨D, hD⟩ := mg_ex (mE f5 g5) (mT f5)
  have hD' : mg_D (mE (can f5) (can g5)) (mT (can f5)) D := hD
  have q31 : ∀ j, j ≠ 0 → f5 31 j = f 31 j := fun j hj => by rw [ef5, am_up_eq]; dsimp only; rw [if_neg hj]
  have to5 : toZ f5 = toZ f := by unfold toZ; rw [q31 17 (by decide)]
  have hgh : f 0 7 = 1 → MOk (can f5) (can g5) ∧ UOk (can f5) ∧ XOk (can g5) ∧ CW (can f5) (can g5) f g ∧ CL (can f5) (can g5) f g ∧ (can g5) 31 14 = g 0 8 + 1 ∧ (can f5) 31 18 ≤ toZ (can f5) := by
    intro h7
    obtain ⟨o1, o2, o3, o4, o5⟩ := LVp_on hp h7
    have := LV_gh (f5 := f5) (f2 := f) h (by omega) ⟨by rw [ef5]; rfl, by rw [ef5]; rfl, by rw [ef5]; rfl, by rw [ef5]; rfl, q31 1 (by decide), q31 5 (by decide)⟩ ⟨by rw [q31 15 (by decide)]; exact o3, by rw [q31 16 (by decide)]; exact o4, by rw [q31 17 (by decide)]; exact o1, by rw [q31 18 (by decide), to5]; exact o5⟩ ⟨rfl, rfl, rfl, rfl, fun _ _ => rfl, by rw [q31 15 (by decide)]; exact o2.2.2.2.2, by rw [q31 15 (by decide)]; exact o2.1, by rw [q31 16 (by decide)]; exact o2.2.1, by rw [q31 17 (by decide)]; exact o2.2.2.1, by rw [q31 18 (by decide)]; exact o2.2.2.2.1⟩
    rw [← eg5] at this
    exact this
  have c18 : (can f5) 31 18 = f 31 18 := q31 18 (by decide)
  have hch0 : chO (can f5) (f 47) n := chO_cg w7 ⟨by show f 31 5 ≤ f5 31 5; rw [q31 5 (by decide)]; exact Int.le_refl _, q31 15 (by decide), fun j _ _ => ⟨by show f5 35 j = f 35 j; rw [ef5]; rfl, by show f5 36 j = f 36 j; rw [ef5]; rfl⟩⟩
  have hchA : chO (can f5) (fun i => aZ (f 30 i)) n := by
    intro i hi
    have := hch0 i hi
    rw [sP_ext (w := fun i => aZ (f 30 i)) (w' := f 47) i (fun j hj => w5' j (by omega))]
    rw [show (fun i => aZ (f 30 i)) i = f 47 i from w5' i hi]
    exact this
  have wc1 : f 29 3 = 1 → 0 ≤ g 31 25 := fun q => (w2 q).1.1
  have wc0 : f 29 3 = 0 → g 31 25 < 0 := fun q => by rw [(w3 q).1]; decide
  have g25r : lR (g 31 25) := by
    rcases w1 with q | q
    · rw [(w3 q).1]; decide
    · have := (w2 q).1; omega
  -- the reference's replan() from a heap that is the same to it
  have ref : ∀ (F G : Nat → Nat → Int) (sw' : Bool) {Q : Option Value → am_H → Prop}, AG F f → AG G g → (0 ≤ gn ∧ f 0 7 = 1) → (∀ x F2 G2 (fq : Nat → Nat → Int), fq = am_up F 31 0 0 → can fq = can f5 → can (am_up G 31 14 (G 31 14 + 1)) = can g5 → QR fq G D ((can f5) 31 18).toNat n gn x F2 G2 → Q (some (.int (iZ x))) (53, sh_lt L, iH F2, jH G2, sh_rt sw')) → am_call (d + 7) 49 [.ref 31, .long (lZ gn)] (53, sh_lt L, iH F, jH G, sh_rt sw') Q := by
    intro F G sw' Q hF hG hok K
    obtain ⟨o1, o2, o3, o4, o5⟩ := LVp_on hp hok.2
    obtain ⟨fq, efq⟩ : ∃ fq, fq = am_up F 31 0 0 := ⟨_, rfl⟩
    have c1 : can fq = can f5 := by rw [efq, ef5]; exact AG_can (AG_up hF)
    have F31 : F 31 = f 31 := hF 31 (by decide) (by decide)
    have g14 : G 31 14 = g 31 14 := by rw [hG 31 (by decide) (by decide)]
    have c2 : can (am_up G 31 14 (G 31 14 + 1)) = can g5 := by rw [g14, eg5]; exact AG_can (AG_up hG)
    have hDq : mg_D (mE fq (am_up G 31 14 (G 31 14 + 1))) (mT fq) D := by rw [← can_E, ← can_T, c1, c2]; exact hD'
    have hMq : MOk fq (am_up G 31 14 (G 31 14 + 1)) := by
      have := (hgh hok.2).1
      rw [← c1, ← c2] at this
      exact this
    have toq : toZ fq = toZ f := by
      have : toZ (can fq) = toZ (can f5) := by rw [c1]
      exact (show toZ fq = toZ f5 from this).trans to5
    have hchq : chO fq (F 47) n := by
      rw [hF 47 (by decide) (by decide)]
      have : chO (can fq) (f 47) n := by rw [c1]; exact hch0
      exact this
    exact sp_49 (D := D) (a0 := ((can f5) 31 18).toNat) (n := n) efq hDq (fun z => by omega) (fun z => by rw [F31] at z; omega) (fun _ x F2 G2 hQ => K x F2 G2 fq efq c1 c2 hQ) ⟨hgn, by rw [F31]; omega⟩ (fun _ => hMq) (by unfold XOk; rw [hG 32 (by decide) (by decide), hG 33 (by decide) (by decide)]; exact hX) (fun _ => ⟨by rw [F31, c18]; omega, by rw [F31, toq]; exact o5.2⟩) (by rw [F31]; exact en) (by omega) (fun _ => hchq) (by rw [hG 31 (by decide) (by decide)]; exact g25r)
  have ref0 : ∀ {Q : Option Value → am_H → Prop}, (gn < 0 → Q (some (.int (iZ (-2)))) (53, sh_lt L, iH f5, jH g, sh_rt true)) → (0 ≤ gn ∧ f 31 17 < 0 → Q (some (.int (iZ (-3)))) (53, sh_lt L, iH f5, jH g, sh_rt true)) → ¬ (0 ≤ gn ∧ 0 ≤ f 31 17) → am_call (d + 7) 49 [.ref 31, .long (lZ gn)] (53, sh_lt L, iH f, jH g, sh_rt true) Q := by
    intro Q K1 K2 hno
    have h7 : 0 ≤ f 31 17 → f 0 7 = 1 := fun y => by
      rcases hp with q | q
      · omega
      · exact q.1
    exact sp_49 (D := D) (a0 := ((can f5) 31 18).toNat) (n := n) ef5 (by rw [eg5] at hD; exact hD) K1 K2 (fun y => absurd y hno) ⟨hgn, by rcases hp with q | q; (have := q.2; omega); (have := q.2.1; omega)⟩ (fun y => by have q2 := (hgh (h7 y)).1; rw [eg5] at q2; exact q2) hX (fun y => by have := (LVp_on hp (h7 y)).2.2.2.2; rw [c18, to5]; exact ⟨by omega, by omega⟩) en (by omega) (fun _ => hch0) g25r
  -- nothing is taken
  have keep : ∀ (F G F2 G2 fq : Nat → Nat → Int), AG F f → AG G g → fq = am_up F 31 0 0 → PQ fq G F2 G2 → wyS fq G F2 G2 → (∀ y, (y = 1 ∨ y = 5 ∨ y = 6 ∨ y = 7 ∨ y = 10 ∨ y = 14 ∨ y = 35 ∨ y = 36 ∨ y = 39 ∨ y = 42 ∨ y = 24 ∨ y = 25 ∨ y = 26 ∨ y = 51 ∨ y = 29 ∨ y = 30 ∨ y = 47 ∨ y = 48) → F y = f y) → F 0 7 = f 0 7 → G 0 8 = g 0 8 + 1 → (∀ y, (y = 2 ∨ y = 3 ∨ y = 4 ∨ y = 8 ∨ y = 9 ∨ y = 11 ∨ y = 12 ∨ y = 13 ∨ y = 32 ∨ y = 33 ∨ y = 34 ∨ y = 37 ∨ y = 38 ∨ y = 40 ∨ y = 41 ∨ y = 29 ∨ y = 31) → G y = g y) → (∀ j, -120 ≤ F 28 j ∧ F 28 j ≤ 120) → (F2 0 9 = F2 31 30 ∧ iR (F2 31 30)) → LVq (N + 1) true F2 G2 := by
    intro F G F2 G2 fq agF agG efq hPQ hwy kF k07 k08 kG hrv hlast
    obtain ⟨p1, p2, p3, p4, p5⟩ := hPQ
    obtain ⟨e1, e2, e3, e4⟩ := hwy
    have fqa : ∀ y, y ≠ 31 → fq y = F y := fun y hy => by rw [efq, am_up_ne hy]
    have F31 : F 31 = f 31 := agF 31 (by decide) (by decide)
    have fqj : ∀ j, j ≠ 0 → fq 31 j = f 31 j := fun j hj => by rw [efq, am_up_eq]; dsimp only; rw [if_neg hj, F31]
    have k1 : ∀ y, (y = 1 ∨ y = 5 ∨ y = 6 ∨ y = 7 ∨ y = 10 ∨ y = 14 ∨ y = 35 ∨ y = 36 ∨ y = 39 ∨ y = 42 ∨ y = 24 ∨ y = 25 ∨ y = 26 ∨ y = 51 ∨ y = 29 ∨ y = 30) → F2 y = f y := fun y hy => (p1 y (by omega) (by omega) (by omega) (by omega) (by omega) (by omega) (by omega)).trans ((fqa y (by omega)).trans (kF y (by omega)))
    have kV : F2 28 = F 28 := (p1 28 (by decide) (by decide) (by decide) (by decide) (by decide) (by decide) (by decide)).trans (fqa 28 (by decide))
    have k0 : F2 0 = F 0 := (p1 0 (by decide) (by decide) (by decide) (by decide) (by decide) (by decide) (by decide)).trans (fqa 0 (by decide))
    have m31 : ∀ j, (j = 1 ∨ j = 5 ∨ j = 15 ∨ j = 16 ∨ j = 17 ∨ j = 18 ∨ j = 32 ∨ j = 34 ∨ j = 35) → F2 31 j = f 31 j := fun j hj => (p2 j (by omega) (by omega) (by omega)).trans (fqj j (by omega))
    have kg : ∀ y, (y = 2 ∨ y = 3 ∨ y = 4 ∨ y = 8 ∨ y = 9 ∨ y = 11 ∨ y = 12 ∨ y = 13 ∨ y = 32 ∨ y = 33 ∨ y = 34 ∨ y = 37 ∨ y = 38 ∨ y = 40 ∨ y = 41 ∨ y = 29) → G2 y = g y := fun y hy => (p3 y (by omega) (by omega) (by omega)).trans (kG y (by omega))
    have g08 : G2 0 8 = g 0 8 + 1 := by rw [p3 0 (by decide) (by decide) (by decide)]; exact k08
    have g14 : G2 31 14 = g 31 14 + 1 := by rw [p5, kG 31 (by omega)]
    refine LV_mk h (fun y hy => k1 y (by omega)) (fun j _ => by rw [k1 7 (by omega)]) (by rw [k1 7 (by omega)]; exact h.2.1.2.2.2.2.2.2) (fun j hj => m31 j (by omega)) (fun y hy => kg y (by omega)) ⟨by rw [g08, g14, t2], by rw [g14]; omega, by rw [g14]; omega⟩ (LVp_cg hp ⟨by rw [k0]; exact k07, m31 15 (by omega), m31 16 (by omega), m31 17 (by omega), m31 18 (by omega), by rw [m31 1 (by omega)]; exact Int.le_refl _, k1 14 (by omega), by rw [k1 7 (by omega)]⟩) (LVw_cg2 (w := 29) hwo ⟨k1 29 (by omega), k1 30 (by omega), by rw [k0]; exact k07, e3.trans (fqj 23 (by decide)), e1.trans ((fqa 47 (by decide)).trans (kF 47 (by omega))), e2.trans ((fqa 48 (by decide)).trans (kF 48 (by omega)))⟩ (fun j => ?_) ⟨by rw [m31 5 (by omega)]; exact Int.le_refl _, m31 15 (by omega), fun j _ _ => ⟨by rw [k1 35 (by omega)], by rw [k1 36 (by omega)]⟩⟩ ⟨kg 29 (by omega), by rw [e4, kG 31 (by omega)]⟩) hlast
    have q1 := hrows j
    have q2 := hrv j
    rw [k1 30 (by omega), kV]
    exact ⟨by omega, by omega⟩
  have w4' : f 29 1 = (n : Int) := by rw [← en]; exact w4.1
  have wkp : ∀ (F G G2 fq : Nat → Nat → Int) (D0 s s' : Nat) (hh h' r : Nat → Int) (x : Int), AG F f → AG G2 g → fq = am_up F 31 0 0 → can fq = can f5 → can (am_up G2 31 14 (G2 31 14 + 1)) = can g5 → F 29 = f 29 → F 30 = f 30 → Rw (can f5) (can g5) D D0 (F (27 + 1)) (D0 % 4096) s hh → F 27 1 = ((D0 % 4096 : Nat) : Int) → G 27 2 = ((D0 / 4096 : Nat) : Int) → Rw fq (am_up G2 31 14 (G2 31 14 + 1)) D D0 r (D0 % 4096) s' h' → wrZ (can f5) (can g5) 29 27 F G gn x → (x = 1 ↔ ¬ kpZ fq (am_up G2 31 14 (G2 31 14 + 1)) (fq 47) n (G2 31 25) gn D0 r) := by
    intro F G G2 fq D0 s s' hh h' r x agF agG efq c1 c2 eW eR hR hv1 hv2 hRr hwr
    have g25 : G2 31 25 = g 31 25 := by rw [agG 31 (by decide) (by decide)]
    have e47 : fq 47 = f 47 := by rw [efq, am_up_ne (by decide)]; exact agF 47 (by decide) (by decide)
    have hRr' : Rw (can f5) (can g5) D D0 r (D0 % 4096) s' h' := by rw [← c1, ← c2]; exact (can_R _ _ _).mpr hRr
    have hu := (Rw_uniq _ _ _ _ _ hR hRr').2.2
    have hc := (Rw_ch _ s hh hR).2
    refine wr_kp hwr (fun c hT => ?_) (by rw [eW]; exact w4') (by rw [eW, g25]; exact wc1) (by rw [eW, g25]; exact wc0) hv2 ?_
    · rw [← c1, ← c2] at hT
      have hT2 := can_TN.mp hT
      refine TN_ext (fun j hj => ?_) hT2
      show aZ (F 30 j) = fq 47 j
      rw [eR, e47]
      exact w5' j hj
    · rw [eW, hv1, w4', e47]
      show ((n : Int) = ((D0 % 4096 : Nat) : Int) ∧ ∀ i : Nat, (i : Int) < (n : Int) → aZ (F 30 i) = aZ (F 28 i)) ↔ _
      rw [eR]
      have key : n = D0 % 4096 → ∀ i, i < n → (aZ (f 30 i) = aZ (F 28 i) ↔ f 47 i = r i) := by
        intro z i hi
        have q1 := (hc i (by omega)).1
        have q2 := hu i (by omega)
        have q1' : 1 ≤ F 28 i := q1
        have q2' : F 28 i = r i := q2
        rw [w5' i hi, ← q2']
        unfold aZ
        rw [if_pos (by omega)]
      constructor
      · rintro ⟨z1, z2⟩
        have z : n = D0 % 4096 := by omega
        exact ⟨z, fun i hi => (key z i hi).mp (z2 i (by omega))⟩
      · rintro ⟨z1, z2⟩
        exact ⟨by omega, fun i hi => (key z1 i (by omega)).mpr (z2 i (by omega))⟩
  refine sp_10_true (f0 := can f5) (g0 := can g5) (D := D) (n := n) (fun z => ⟨-2, f, g, true, by decide, rfl, rfl, ?_⟩) (fun z => ⟨-3, f, g, true, by decide, rfl, rfl, ?_⟩) (fun z F G hS => ⟨0, F, G, true, by decide, rfl, rfl, ?_⟩) (fun z F G G2 hS hG2 hwr => ⟨0, F, G2, true, by decide, rfl, rfl, ?_⟩) (fun z F G G2 hS hG2 hwr => ⟨1, F, G2, false, by decide, rfl, rfl, ?_⟩) hgn (by rcases hp with q | q; exact Or.inl q.1; exact Or.inr q.1) (fun z => by obtain ⟨y1, y2, y3, y4, y5, y6, y7⟩ := hgh z; exact ⟨y1, y2, y3, hD', y4, y5, y6, y7⟩) w1 w4' hn24 (fun j => by have := hrows j; exact ⟨by omega, by omega⟩) (fun j => by have := hrows j; exact ⟨by omega, by omega⟩) (fun _ _ => hchA)
  · exact ref0 (fun _ => ⟨rfl, _, _, rfl, by rw [ef5]; exact LV_c0 h (Nat.le_succ N)⟩) (fun y => by omega) (fun y => by omega)
  · have q17 : f 31 17 = -1 := by
      rcases hp with q | q
      · exact q.2
      · omega
    exact ref0 (fun y => by omega) (fun _ => ⟨rfl, _, _, rfl, by rw [ef5]; exact LV_c0 h (Nat.le_succ N)⟩) (fun y => by omega)
  · obtain ⟨⟨s1, s2, s3, s4, s5, s6⟩, hS2⟩ := hS
    obtain ⟨_, y1, y2, y3, y4, l, y5, y6, y7⟩ := hS2.resolve_right (fun q => absurd q.1 (by decide))
    have agF : AG F f := fun x x1 x2 => s1 x (by omega) (by omega) (by omega) (by omega) (by omega) (by omega) (by omega) (by omega)
    have agG : AG G g := fun x x1 x2 => s3 x (by omega) (by omega) (by omega) (by omega) (by omega) (by omega)
    refine ref F G true agF agG z ?_
    intro x F2 G2 fq efq c1 c2 hQ
    obtain ⟨hPQ, p7⟩ := hQ
    obtain ⟨u1, u2, u3, l', u5, u6, u7⟩ := p7.resolve_right (fun ⟨D0, _, _, _, u2, _⟩ => by rw [y1] at u2; cases u2)
    subst u1
    refine ⟨rfl, F2, G2, rfl, keep F G F2 G2 fq agF agG efq hPQ u3 (fun y hy => s1 y (by omega) (by omega) (by omega) (by omega) (by omega) (by omega) (by omega) (by omega)) (s2 7 (by decide)) s5 (fun y hy => s3 y (by omega) (by omega) (by omega) (by omega) (by omega) (by omega)) (fun j => by rw [show F 28 = f 28 from y4]; exact hr28 j) ?_⟩
    obtain ⟨p1, p2, p3, p4, p5⟩ := hPQ
    have cj : ∀ j, fq 31 j = f5 31 j := fun j => by have := congrFun (congrFun c1 31) j; exact this
    have k0 : F2 0 = F 0 := (p1 0 (by decide) (by decide) (by decide) (by decide) (by decide) (by decide) (by decide)).trans (by rw [efq, am_up_ne (by decide)])
    rw [k0, y5, u5]
    have e17 : (can f5) 31 17 = fq 31 17 := (cj 17).symm
    by_cases hk : fq 31 17 = 2
    · have z1 := y6 (e17.trans hk)
      have z2 := u6 hk
      rw [← can_O, ← can_F fq G (G 31 14 + 1), c1, c2, show fq 31 1 = (can f5) 31 1 from (cj 1)] at z2
      have el := nsL_uniq _ _ _ z1 z2
      have := nsL_le _ _ z1
      have e1 : (can f5) 31 1 = f 31 1 := q31 1 (by decide)
      exact ⟨by rw [el], by omega⟩
    · rw [y7 (fun q => hk (e17.symm.trans q)), u7 hk]
      exact ⟨rfl, by decide⟩
  · obtain ⟨⟨s1, s2, s3, s4, s5, s6⟩, hS2⟩ := hS
    rcases hS2 with ⟨q, _⟩ | ⟨_, y3, D0, s, hh, y4, y5, y6, y7, y8, y9⟩
    · exact absurd q (by decide)
    have hG2' : ∀ a, a ≠ 0 → a ≠ 16 → a ≠ 19 → a ≠ 21 → a ≠ 23 → a ≠ 27 → G2 a = g a := fun a a1 a2 a3 a4 a5 a6 => (hG2 a a5).trans (s3 a a1 a2 a3 a4 a5 a6)
    have agF : AG F f := fun x x1 x2 => s1 x (by omega) (by omega) (by omega) (by omega) (by omega) (by omega) (by omega) (by omega)
    have agG : AG G2 g := fun x x1 x2 => hG2' x (by omega) (by omega) (by omega) (by omega) (by omega) (by omega)
    have hM0 := (hgh z.2).1
    refine ref F G2 true agF agG z ?_
    intro x F2 G3 fq efq c1 c2 hQ
    obtain ⟨hPQ, p7⟩ := hQ
    rcases p7 with ⟨_, u2, _⟩ | ⟨D1, s', h', r, u2, u3, u4, u5, u6⟩
    · rw [y4] at u2; cases u2
    rw [y4] at u2
    cases u2
    have hwk := wkp F G G2 fq D0 s s' hh h' r (0 : Int) agF agG efq c1 c2 (s1 29 (by decide) (by decide) (by decide) (by decide) (by decide) (by decide) (by decide) (by decide)) (s1 30 (by decide) (by decide) (by decide) (by decide) (by decide) (by decide) (by decide) (by decide)) y5 y6 y8 u3 hwr
    rcases u6 with ⟨v1, v2, v3⟩ | ⟨v1, v2, _⟩
    · subst v1
      refine ⟨rfl, F2, G3, rfl, keep F G2 F2 G3 fq agF agG efq hPQ v3 (fun y hy => s1 y (by omega) (by omega) (by omega) (by omega) (by omega) (by omega) (by omega) (by omega)) (s2 7 (by decide)) (by rw [hG2 0 (by decide)]; exact s5) (fun y hy => hG2' y (by omega) (by omega) (by omega) (by omega) (by omega) (by omega)) (rw_in hM0 y5 y9 hr28) ?_⟩
      have k0 : F2 0 = F 0 := (hPQ.1 0 (by decide) (by decide) (by decide) (by decide) (by decide) (by decide) (by decide)).trans (by rw [efq, am_up_ne (by decide)])
      rw [k0, y3, u5]
      exact ⟨rfl, by decide⟩
    · exact absurd (hwk.mpr v2) (by decide)
  · obtain ⟨⟨s1, s2, s3, s4, s5, s6⟩, hS2⟩ := hS
    rcases hS2 with ⟨q, _⟩ | ⟨_, y3, D0, s, hh, y4, y5, y6, y7, y8, y9⟩
    · exact absurd q (by decide)
    have hG2' : ∀ a, a ≠ 0 → a ≠ 16 → a ≠ 19 → a ≠ 21 → a ≠ 23 → a ≠ 27 → G2 a = g a := fun a a1 a2 a3 a4 a5 a6 => (hG2 a a5).trans (s3 a a1 a2 a3 a4 a5 a6)
    have agF : AG F f := fun x x1 x2 => s1 x (by omega) (by omega) (by omega) (by omega) (by omega) (by omega) (by omega) (by omega)
    have agG : AG G2 g := fun x x1 x2 => hG2' x (by omega) (by omega) (by omega) (by omega) (by omega) (by omega)
    have hM0 := (hgh z.2).1
    refine ref F G2 false agF agG z ?_
    intro x F2 G3 fq efq c1 c2 hQ
    obtain ⟨hPQ, p7⟩ := hQ
    rcases p7 with ⟨_, u2, _⟩ | ⟨D1, s', h', r, u2, u3, u4, u5, u6⟩
    · rw [y4] at u2; cases u2
    rw [y4] at u2
    cases u2
    have hwk := wkp F G G2 fq D0 s s' hh h' r (1 : Int) agF agG efq c1 c2 (s1 29 (by decide) (by decide) (by decide) (by decide) (by decide) (by decide) (by decide) (by decide)) (s1 30 (by decide) (by decide) (by decide) (by decide) (by decide) (by decide) (by decide) (by decide)) y5 y6 y8 u3 hwr
    rcases u6 with ⟨v1, v2, _⟩ | ⟨v1, v2, v3, v4, v5, v6⟩
    · exact absurd v2 (hwk.mp rfl)
    subst v1
    obtain ⟨p1, p2, p3, p4, p5⟩ := hPQ
    obtain ⟨o1, o2, o3, o4, o5⟩ := LVp_on hp z.2
    have fqa : ∀ y, y ≠ 31 → fq y = F y := fun y hy => by rw [efq, am_up_ne hy]
    have cj : ∀ j, fq 31 j = f5 31 j := fun j => by have := congrFun (congrFun c1 31) j; exact this
    have k1 : ∀ y, (y = 1 ∨ y = 5 ∨ y = 6 ∨ y = 7 ∨ y = 10 ∨ y = 14 ∨ y = 35 ∨ y = 36 ∨ y = 39 ∨ y = 42 ∨ y = 24 ∨ y = 25 ∨ y = 26 ∨ y = 51 ∨ y = 30) → F2 y = f y := fun y hy => (p1 y (by omega) (by omega) (by omega) (by omega) (by omega) (by omega) (by omega)).trans ((fqa y (by omega)).trans (s1 y (by omega) (by omega) (by omega) (by omega) (by omega) (by omega) (by omega) (by omega)))
    have kF : ∀ y, (y = 27 ∨ y = 28 ∨ y = 0) → F2 y = F y := fun y hy => (p1 y (by omega) (by omega) (by omega) (by omega) (by omega) (by omega) (by omega)).trans (fqa y (by omega))
    have m31 : ∀ j, (j = 1 ∨ j = 5 ∨ j = 15 ∨ j = 16 ∨ j = 17 ∨ j = 18 ∨ j = 32 ∨ j = 34 ∨ j = 35) → F2 31 j = f 31 j := fun j hj => (p2 j (by omega) (by omega) (by omega)).trans ((cj j).trans (q31 j (by omega)))
    have kg : ∀ y, (y = 2 ∨ y = 3 ∨ y = 4 ∨ y = 8 ∨ y = 9 ∨ y = 11 ∨ y = 12 ∨ y = 13 ∨ y = 32 ∨ y = 33 ∨ y = 34 ∨ y = 37 ∨ y = 38 ∨ y = 40 ∨ y = 41) → G3 y = g y := fun y hy => (p3 y (by omega) (by omega) (by omega)).trans (hG2' y (by omega) (by omega) (by omega) (by omega) (by omega) (by omega))
    have g08 : G3 0 8 = g 0 8 + 1 := by rw [p3 0 (by decide) (by decide) (by decide), hG2 0 (by decide)]; exact s5
    have g14 : G3 31 14 = g 31 14 + 1 := by rw [p5, hG2' 31 (by decide) (by decide) (by decide) (by decide) (by decide) (by decide)]
    have r07 : F2 0 7 = 1 := by rw [kF 0 (by omega), s2 7 (by decide)]; exact z.2
    have hlast : F2 0 9 = F2 31 30 ∧ iR (F2 31 30) := by rw [kF 0 (by omega), y3, u5]; exact ⟨rfl, by decide⟩
    refine ⟨rfl, F2, G3, rfl, LV_mk h (fun y hy => k1 y (by omega)) (fun j _ => by rw [k1 7 (by omega)]) (by rw [k1 7 (by omega)]; exact h.2.1.2.2.2.2.2.2) (fun j hj => m31 j (by omega)) kg ⟨by rw [g08, g14, t2], by rw [g14]; omega, by rw [g14]; omega⟩ (LVp_cg hp ⟨by rw [r07]; exact z.2.symm, m31 15 (by omega), m31 16 (by omega), m31 17 (by omega), m31 18 (by omega), by rw [m31 1 (by omega)]; exact Int.le_refl _, k1 14 (by omega), by rw [k1 7 (by omega)]⟩) ?_ hlast⟩
    have h20 := toZ_in (can f5)
    have hb := (D_mod hM0 hD' (v := ((can f5) 31 18).toNat) (by have := hM0.1.2.2.2.2.2; omega) y4).2
    have hf := D_few hM0 (hgh z.2).2.1 hD' (v := ((can f5) 31 18).toNat) (by have := hM0.1.2.2.2.2.2; omega) y4
    have hRr : Rw (can f5) (can g5) D D0 r (D0 % 4096) s' h' := by
      rw [← c1, ← c2]
      exact (can_R _ _ _).mpr u3
    have hrv : ∀ k, -120 ≤ F 28 k ∧ F 28 k ≤ 120 := rw_in hM0 y5 y9 hr28
    refine LVw_new (v := 27) hM0 (by rw [kF (27 + 1) (by omega)]; exact y5) hRr v4 hb hf (by rw [kF 27 (by omega)]; exact y7) v6 (by rw [p3 27 (by decide) (by decide) (by decide), hG2 27 (by decide)]; exact y8) r07 (by rw [kF 27 (by omega)]; exact y6) v3 v5 ⟨by rw [m31 5 (by omega)]; exact q31 5 (by decide), by rw [m31 15 (by omega)]; exact q31 15 (by decide), fun j => ⟨by rw [k1 35 (by omega)]; show f5 35 j = f 35 j; rw [ef5]; rfl, by rw [k1 36 (by omega)]; show f5 36 j = f 36 j; rw [ef5]; rfl⟩⟩ (fun j => ?_)
    have e1 : F2 30 = f 30 := k1 30 (by omega)
    have e2 : F2 28 = F 28 := kF 28 (by omega)
    have q1 := hrows j
    have q2 := hrv j
    rw [e1, e2]
    exact ⟨by omega, by omega⟩
