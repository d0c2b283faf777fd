/-! THE CALLS, PAIR BY PAIR: part, street, advice -/
theorem b_and_1 (x : Int) : b_and x 1 = 0 ∨ b_and x 1 = 1 := by
  unfold b_and
  generalize iZ x = w
  have e : (w &&& iZ 1).toBitVec = w.toBitVec &&& 1#32 := by rw [Int32.toBitVec_and]; rfl
  by_cases q : w.toBitVec.getLsbD 0 = true
  · right
    have : w &&& iZ 1 = 1 := by
      apply Int32.toBitVec_inj.mp
      rw [e]
      apply BitVec.eq_of_getLsbD_eq
      intro i hi
      by_cases h0 : i = 0
      · subst h0; rw [BitVec.getLsbD_and, q]; rfl
      · have : (Int32.toBitVec 1).getLsbD i = false := by show (1#32).getLsbD i = false; simp [h0]
        rw [this]; simp [h0]
    rw [this]; rfl
  · left
    have : w &&& iZ 1 = 0 := by
      apply Int32.toBitVec_inj.mp
      rw [e]
      apply BitVec.eq_of_getLsbD_eq
      intro i hi
      by_cases h0 : i = 0
      · subst h0; rw [BitVec.getLsbD_and, Bool.eq_false_iff.mpr q]; rfl
      · have : (Int32.toBitVec 0).getLsbD i = false := by show (0#32).getLsbD i = false; simp
        rw [this]; simp [h0]
    rw [this]; rfl
theorem b_n8 {n : Int} (h : 0 ≤ n ∧ n < 8) : b_and (b_shr 255 n) 1 = 1 ∧ b_shl 1 n ≠ 0 ∧ (iZ (b_shl 1 n)).toBitVec ≠ 0#32 ∧ iR (b_shl 1 n) := by
  have : n = 0 ∨ n = 1 ∨ n = 2 ∨ n = 3 ∨ n = 4 ∨ n = 5 ∨ n = 6 ∨ n = 7 := by omega
  rcases this with rfl | rfl | rfl | rfl | rfl | rfl | rfl | rfl <;> decide +kernel
theorem b_or_n {m n : Int} (h : 0 ≤ n ∧ n < 8) : b_or m (b_shl 1 n) ≠ 0 := by
  intro z
  unfold b_or at z
  have e : iZ m ||| iZ (b_shl 1 n) = 0 := Int32.toInt_inj.mp z
  have e2 := congrArg Int32.toBitVec e
  rw [Int32.toBitVec_or] at e2
  have e3 : (iZ m).toBitVec ||| (iZ (b_shl 1 n)).toBitVec = 0#32 := e2
  exact (b_n8 h).2.2.1 (BitVec.or_eq_zero_iff.mp e3).2
theorem b_or_r (m n : Int) : iR (b_or m n) := by
  unfold b_or
  exact ⟨Int32.le_toInt _, Int32.toInt_lt _⟩
theorem pr_14 {d L N : Nat} {sw : Bool} {f g : Nat → Nat → Int} {e n : Int} (h : LVq N sw f g) (he : iR e) (hn : iR n) : am_call (d + 7) 14 [.ref 0, .int (iZ e), .int (iZ n)] (53, sh_lt L, iH f, jH g, sh_rt sw) (Mid L (N + 1) (d + 7) 59 [.ref 31, .int (iZ e), .int (iZ n)]) := by
  have hx := h.2.2.2.2.2.2
  obtain ⟨x1, x2, x3, ⟨x4, x5, x6, x7, x8⟩, x9⟩ := hx
  have LVX : ∀ F, (∀ a, a ≠ 26 → a ≠ 31 → F a = f a) → (∀ j, j ≠ 0 → j ≠ 34 → j ≠ 35 → F 31 j = f 31 j) → (F 26 0 = F 31 34 ∧ F 26 1 = F 31 35 ∧ iR (F 31 34) ∧ iR (F 31 35) ∧ (F 31 35 = 0 → F 31 34 = 0)) → LVq (N + 1) sw F g := by
    intro F a b c1
    obtain ⟨h1, h2, h3, h4, h5, h6, h7⟩ := h
    have a' : ∀ x, (x = 1 ∨ x = 5 ∨ x = 6 ∨ x = 7 ∨ x = 35 ∨ x = 36 ∨ x = 39 ∨ x = 10 ∨ x = 42 ∨ x = 0 ∨ x = 14 ∨ x = 28 ∨ x = 30 ∨ x = 47 ∨ x = 48 ∨ x = 24 ∨ x = 25 ∨ x = 51 ∨ x = 27 ∨ x = 29) → F x = f x := fun x hx => a x (by omega) (by omega)
    have b' : ∀ x, (x = 1 ∨ x = 5 ∨ x = 15 ∨ x = 16 ∨ x = 17 ∨ x = 18 ∨ x = 23 ∨ x = 30 ∨ x = 32) → F 31 x = f 31 x := fun x hx => b x (by omega) (by omega) (by omega)
    refine ⟨LVn_cg h1 ⟨by rw [a' 1 (by omega)], b' 1 (by omega)⟩ ⟨rfl, rfl, rfl, rfl, rfl, rfl⟩, LVs_cg h2 ⟨by rw [a' 5 (by omega)], b' 5 (by omega), by rw [b' 1 (by omega)]; exact Int.le_refl _, a' 6 (by omega), fun _ _ => by rw [a' 7 (by omega)], by rw [a' 7 (by omega)]; exact h2.2.2.2.2.2.2, a' 35 (by omega), a' 36 (by omega), a' 39 (by omega), a' 10 (by omega)⟩ ⟨rfl, rfl, rfl, rfl, fun _ _ => rfl⟩, LVt_cg h3 (Nat.le_succ N) ⟨rfl, rfl, rfl, rfl, rfl, rfl⟩, LVb_cg h4 (a' 42 (by omega)) rfl, LVp_cg h5 ⟨by rw [a' 0 (by omega)], b' 15 (by omega), b' 16 (by omega), b' 17 (by omega), b' 18 (by omega), by rw [b' 1 (by omega)]; exact Int.le_refl _, a' 14 (by omega), by rw [a' 7 (by omega)]⟩, LVw_cg h6 ⟨by cases sw; exact a' 27 (by omega); exact a' 29 (by omega), by cases sw; exact a' 28 (by omega); exact a' 30 (by omega), a' 28 (by omega), a' 30 (by omega), by rw [a' 0 (by omega)], b' 23 (by omega), a' 47 (by omega), a' 48 (by omega)⟩ ⟨by rw [b' 5 (by omega)]; exact Int.le_refl _, b' 15 (by omega), fun _ _ _ => ⟨by rw [a' 35 (by omega)], by rw [a' 36 (by omega)]⟩⟩ ⟨rfl, rfl⟩, ?_, ?_, ?_, c1, ?_⟩
    · rw [a' 24 (by omega), b' 32 (by omega)]; exact h7.1
    · rw [a' 25 (by omega), a' 51 (by omega), b' 32 (by omega)]; exact h7.2.1
    · rw [a' 25 (by omega), a' 51 (by omega)]; exact h7.2.2.1
    · rw [a' 0 (by omega), b' 30 (by omega)]; exact h7.2.2.2.2
  refine sp_14 (fun z => ⟨-2, f, g, sw, by decide, rfl, rfl, ?_⟩) (fun z x f2 hT => ⟨x, f2, g, sw, (tkR_x hT).elim (fun q => by rw [q]; decide) (fun q => by rw [q]; decide), rfl, rfl, ?_⟩) he hn (by rw [x4]; exact x6) (by rw [x5]; exact x7)
  · exact sp_59 rfl (fun _ => ⟨rfl, _, _, rfl, LV_c0 h (Nat.le_succ N)⟩) (fun z2 => absurd z2.1 z) (fun z2 => absurd z2.1 z) (fun z2 => absurd z2.1 z) he hn x6 x7
  · have hn8 := b_n8 (n := n) ⟨z.1, z.2.1⟩
    unfold tkR at hT
    rw [x4, x5] at hT
    have hb1 := b_and_1 (b_shr (f 31 35) n)
    rcases hT with ⟨q1, q2, q3⟩ | ⟨q1, q2, q3, q4⟩ | ⟨q1, q2, q3, q4⟩
    · subst q2
      subst q3
      have hcm : f 31 35 = 0 ∨ f 31 35 = 255 := q1.imp id (fun y => y.1)
      have hlt : ¬ e ≤ f 31 34 := by
        rcases q1 with y | y
        · have := x8 y; have := z.2.2; omega
        · have := y.2; omega
      refine sp_59 rfl (fun z2 => absurd z z2) (fun z2 => (z2.2.elim (fun y => absurd y.2 hlt) (fun y => absurd hcm y.1))) (fun _ => ⟨rfl, _, _, rfl, ?_⟩) (fun z2 => absurd hcm z2.2.2) he hn x6 x7
      exact LVX _ (fun a a1 a2 => by rw [am_up_ne a2, am_up_ne a2, am_up_ne a2, am_up_ne a1, am_up_ne a1]) (fun j j1 j2 j3 => by rw [am_up_eq]; dsimp only; rw [if_neg j2, am_up_eq]; dsimp only; rw [if_neg j3, am_up_eq]; dsimp only; rw [if_neg j1, am_up_ne (by decide), am_up_ne (by decide)]) ⟨rfl, rfl, he, hn8.2.2.2, fun y => absurd y hn8.2.1⟩
    · rw [q3, q4]
      have hyes : ((f 31 35 = 0 ∨ f 31 35 = 255) ∧ e ≤ f 31 34 ∨ ¬ (f 31 35 = 0 ∨ f 31 35 = 255) ∧ (¬ e = f 31 34 ∨ b_and (b_shr (f 31 35) n) 1 = 1)) := by
        by_cases y : f 31 35 = 255
        · refine Or.inl ⟨Or.inr y, ?_⟩
          apply Classical.byContradiction
          intro y2
          exact q1 (Or.inr ⟨y, by omega⟩)
        · refine Or.inr ⟨fun y2 => y2.elim (fun y3 => q1 (Or.inl y3)) y, q2.imp id (fun y3 => hb1.resolve_left y3)⟩
      exact sp_59 rfl (fun z2 => absurd z z2) (fun _ => ⟨rfl, _, _, rfl, LV_c0 h (Nat.le_succ N)⟩) (fun z2 => absurd hyes z2.2.1) (fun z2 => absurd hyes z2.2.1) he hn x6 x7
    · subst q3
      subst q4
      have hed : e = f 31 34 := Classical.byContradiction (fun y => q2 (Or.inl y))
      have hbt : b_and (b_shr (f 31 35) n) 1 = 0 := Classical.byContradiction (fun y => q2 (Or.inr y))
      have hnc : ¬ (f 31 35 = 0 ∨ f 31 35 = 255) := by
        rintro (y | y)
        · exact q1 (Or.inl y)
        · rw [y, hn8.1] at hbt; exact absurd hbt (by decide)
      have hno : ¬ ((f 31 35 = 0 ∨ f 31 35 = 255) ∧ e ≤ f 31 34 ∨ ¬ (f 31 35 = 0 ∨ f 31 35 = 255) ∧ (¬ e = f 31 34 ∨ b_and (b_shr (f 31 35) n) 1 = 1)) := by
        rintro (y | y)
        · exact hnc y.1
        · rcases y.2 with y2 | y2
          · exact y2 hed
          · rw [hbt] at y2; exact absurd y2 (by decide)
      refine sp_59 rfl (fun z2 => absurd z z2) (fun z2 => absurd z2.2 hno) (fun z2 => absurd z2.2.2 hnc) (fun _ => ⟨rfl, _, _, rfl, ?_⟩) he hn x6 x7
      exact LVX _ (fun a a1 a2 => by rw [am_up_ne a2, am_up_ne a2, am_up_ne a2, am_up_ne a1]) (fun j j1 j2 j3 => by rw [am_up_eq]; dsimp only; rw [if_neg j2, am_up_eq]; dsimp only; rw [if_neg j3, am_up_eq]; dsimp only; rw [if_neg j1, am_up_ne (by decide)]) ⟨by show f 26 0 = e; rw [x4, hed], rfl, he, b_or_r _ _, fun y => absurd y (b_or_n ⟨z.1, z.2.1⟩)⟩
