/-! THE CALLS, PAIR BY PAIR: search -/
theorem bAll_cg {p q : Nat → Bool} : ∀ n : Nat, (∀ k, k < n → p k = q k) → bAll p n = bAll q n
  | 0, _ => rfl
  | n + 1, h => by
    simp only [bAll]
    rw [bAll_cg n (fun k a => h k (by omega)), h n (by omega)]
theorem pr_12 {d L N : Nat} {sw : Bool} {f g : Nat → Nat → Int} {c : Int} (h : LVq N sw f g) (hc : iR c) : am_call (d + 7) 12 [.ref 0, .int (iZ c)] (53, sh_lt L, iH f, jH g, sh_rt sw) (Mid L (N + 1) (d + 7) 58 [.ref 31, .int (iZ c)]) := by
  obtain ⟨⟨n1, n1'⟩, -⟩ := h.1
  have hx := h.2.2.2.2.2.2
  obtain ⟨⟨x1, x1'⟩, x2, x3, x4, x5⟩ := hx
  have hc1 : 0 ≤ f 1 3 ∧ f 1 3 ≤ 60 := by rw [n1]; exact n1'
  have LVX : ∀ F, (∀ a, a ≠ 24 → a ≠ 25 → a ≠ 51 → a ≠ 31 → F a = f a) → (∀ j, j ≠ 0 → j ≠ 32 → F 31 j = f 31 j) → F 24 1 = F 31 32 → (0 ≤ F 31 32 ∧ F 31 32 ≤ 3) → (∀ i : Nat, (i : Int) < F 31 32 → F 25 i + 97 = F 51 i) → (∀ k, iR (F 25 k) ∧ iR (F 51 k)) → LVq (N + 1) sw F g := by
    intro F a b c1 c2 c3 c4
    obtain ⟨h1, h2, h3, h4, h5, h6, h7⟩ := h
    have a' : ∀ x, (x = 1 ∨ x = 5 ∨ x = 6 ∨ x = 7 ∨ x = 35 ∨ x = 36 ∨ x = 39 ∨ x = 10 ∨ x = 42 ∨ x = 0 ∨ x = 14 ∨ x = 28 ∨ x = 30 ∨ x = 47 ∨ x = 48 ∨ x = 26 ∨ x = 27 ∨ x = 29) → F x = f x := fun x hx => a x (by omega) (by omega) (by omega) (by omega)
    have b' : ∀ x, (x = 1 ∨ x = 5 ∨ x = 15 ∨ x = 16 ∨ x = 17 ∨ x = 18 ∨ x = 23 ∨ x = 30 ∨ x = 34 ∨ x = 35) → F 31 x = f 31 x := fun x hx => b x (by omega) (by omega)
    refine ⟨LVn_cg h1 ⟨by rw [a' 1 (by omega)], b' 1 (by omega)⟩ ⟨rfl, rfl, rfl, rfl, rfl, rfl⟩, LVs_cg h2 ⟨by rw [a' 5 (by omega)], b' 5 (by omega), by rw [b' 1 (by omega)]; exact Int.le_refl _, a' 6 (by omega), fun _ _ => by rw [a' 7 (by omega)], by rw [a' 7 (by omega)]; exact h2.2.2.2.2.2.2, a' 35 (by omega), a' 36 (by omega), a' 39 (by omega), a' 10 (by omega)⟩ ⟨rfl, rfl, rfl, rfl, fun _ _ => rfl⟩, LVt_cg h3 (Nat.le_succ N) ⟨rfl, rfl, rfl, rfl, rfl, rfl⟩, LVb_cg h4 (a' 42 (by omega)) rfl, LVp_cg h5 ⟨by rw [a' 0 (by omega)], b' 15 (by omega), b' 16 (by omega), b' 17 (by omega), b' 18 (by omega), by rw [b' 1 (by omega)]; exact Int.le_refl _, a' 14 (by omega), by rw [a' 7 (by omega)]⟩, LVw_cg h6 ⟨by cases sw; exact a' 27 (by omega); exact a' 29 (by omega), by cases sw; exact a' 28 (by omega); exact a' 30 (by omega), a' 28 (by omega), a' 30 (by omega), by rw [a' 0 (by omega)], b' 23 (by omega), a' 47 (by omega), a' 48 (by omega)⟩ ⟨by rw [b' 5 (by omega)]; exact Int.le_refl _, b' 15 (by omega), fun _ _ _ => ⟨by rw [a' 35 (by omega)], by rw [a' 36 (by omega)]⟩⟩ ⟨rfl, rfl⟩, ⟨c1, c2⟩, c3, c4, ?_, ?_⟩
    · rw [a' 26 (by omega), b' 34 (by omega), b' 35 (by omega)]; exact h7.2.2.2.1
    · rw [a' 0 (by omega), b' 30 (by omega)]; exact h7.2.2.2.2
  refine sp_12 (fun z => ⟨-2, f, g, sw, by decide, rfl, rfl, ?_⟩) (fun z => ⟨-3, f, g, sw, by decide, rfl, rfl, ?_⟩) (fun z => ⟨_, am_up f 24 1 0, g, sw, cZ_iR (by omega), rfl, rfl, ?_⟩) (fun z => ⟨_, am_up (am_up f 25 (f 24 1).toNat (c - 97)) 24 1 (f 24 1 + 1), g, sw, cZ_iR (by omega), rfl, rfl, ?_⟩) hc (by rw [x1]; exact x1') hc1 (fun k => (x3 k).1)
  · exact sp_58 rfl (fun _ => ⟨rfl, _, _, rfl, LV_c0 h (Nat.le_succ N)⟩) (fun z2 => absurd (Or.inr ⟨z2.1, z2.2.1⟩) z) (fun z2 => absurd (Or.inl z2) z) (fun z2 => absurd (Or.inr ⟨z2.1, z2.2.1⟩) z) hc x1' n1' (fun k => (x3 k).2)
  · rw [x1] at z
    exact sp_58 rfl (fun z2 => absurd (Or.inr ⟨z.1, z.2.1⟩) z2) (fun _ => ⟨rfl, _, _, rfl, LV_c0 h (Nat.le_succ N)⟩) (fun z2 => by omega) (fun z2 => by have q : f 31 32 < 3 := z2.2.2; omega) hc x1' n1' (fun k => (x3 k).2)
  · refine sp_58 rfl (fun z2 => absurd (Or.inl z) z2) (fun z2 => by omega) (fun _ => ⟨by rw [n1]; rfl, _, _, rfl, ?_⟩) (fun z2 => by omega) hc x1' n1' (fun k => (x3 k).2)
    refine LVX _ (fun a a1 a2 a3 a4 => by rw [am_up_ne a4, am_up_ne a4, am_up_ne a1]) (fun j j1 j2 => by rw [am_up_eq]; dsimp only; rw [if_neg j2, am_up_eq]; dsimp only; rw [if_neg j1, am_up_ne (by decide)]) rfl ⟨by show (0 : Int) ≤ 0; decide, by show (0 : Int) ≤ 3; decide⟩ (fun i hi => absurd hi (by show ¬ (i : Int) < 0; omega)) (fun k => x3 k)
  · rw [x1] at z ⊢
    have q : f 31 32 < 3 := z.2.2
    have ev : cZ (fun n => begB (am_up (am_up f 25 (f 31 32).toNat (c - 97)) 24 1 (f 31 32 + 1)) n) (f 1 3).toNat = cZ (fun n => begM (am_up (am_up (am_up (am_up (am_up f 25 (f 31 32).toNat (c - 97)) 24 1 (f 31 32 + 1)) 31 0 0) 51 (f 31 32).toNat c) 31 32 (f 31 32 + 1)) n) (f 31 1).toNat := by
      rw [n1]
      refine cZ_cg _ (fun n _ _ => ?_)
      show bAll _ (f 31 32 + 1).toNat = bAll _ (f 31 32 + 1).toNat
      refine bAll_cg _ (fun k hk => decide_eq_decide.mpr ?_)
      have c25 : am_up (am_up f 25 (f 31 32).toNat (c - 97)) 24 1 (f 31 32 + 1) 25 k = if k = (f 31 32).toNat then c - 97 else f 25 k := by rw [am_up_ne (by decide), am_up_eq]
      have c51 : am_up (am_up (am_up (am_up (am_up f 25 (f 31 32).toNat (c - 97)) 24 1 (f 31 32 + 1)) 31 0 0) 51 (f 31 32).toNat c) 31 32 (f 31 32 + 1) 51 k = if k = (f 31 32).toNat then c else f 51 k := by rw [am_up_ne (by decide), am_up_eq, am_up_ne (by decide), am_up_ne (by decide), am_up_ne (by decide)]
      rw [c25, c51]
      by_cases y : k = (f 31 32).toNat
      · rw [if_pos y, if_pos y]; omega
      · rw [if_neg y, if_neg y]
        have := x2 k (by omega)
        omega
    refine sp_58 rfl (fun z2 => absurd (Or.inr ⟨z.1, z.2.1⟩) z2) (fun z2 => by have q2 : f 31 32 = 3 := z2.2.2; omega) (fun z2 => by omega) (fun _ => ⟨by rw [ev]; rfl, _, _, rfl, ?_⟩) hc x1' n1' (fun k => (x3 k).2)
    show LVq (N + 1) sw (am_up (am_up (am_up (am_up (am_up f 25 (f 31 32).toNat (c - 97)) 24 1 (f 31 32 + 1)) 31 0 0) 51 (f 31 32).toNat c) 31 32 (f 31 32 + 1)) g
    have c25 : ∀ k, am_up (am_up (am_up (am_up (am_up f 25 (f 31 32).toNat (c - 97)) 24 1 (f 31 32 + 1)) 31 0 0) 51 (f 31 32).toNat c) 31 32 (f 31 32 + 1) 25 k = if k = (f 31 32).toNat then c - 97 else f 25 k := fun k => by rw [am_up_ne (by decide), am_up_ne (by decide), am_up_ne (by decide), am_up_ne (by decide), am_up_eq]
    have c51 : ∀ k, am_up (am_up (am_up (am_up (am_up f 25 (f 31 32).toNat (c - 97)) 24 1 (f 31 32 + 1)) 31 0 0) 51 (f 31 32).toNat c) 31 32 (f 31 32 + 1) 51 k = if k = (f 31 32).toNat then c else f 51 k := fun k => by rw [am_up_ne (by decide), am_up_eq, am_up_ne (by decide), am_up_ne (by decide), am_up_ne (by decide)]
    refine LVX _ (fun a a1 a2 a3 a4 => by rw [am_up_ne a4, am_up_ne a3, am_up_ne a4, am_up_ne a1, am_up_ne a2]) (fun j j1 j2 => by rw [am_up_eq]; dsimp only; rw [if_neg j2, am_up_ne (by decide), am_up_eq]; dsimp only; rw [if_neg j1, am_up_ne (by decide), am_up_ne (by decide)]) rfl ⟨by show 0 ≤ f 31 32 + 1; omega, by show f 31 32 + 1 ≤ 3; omega⟩ (fun i hi => ?_) (fun k => ?_)
    · rw [c25, c51]
      have hi' : (i : Int) < f 31 32 + 1 := hi
      by_cases y : i = (f 31 32).toNat
      · rw [if_pos y, if_pos y]; omega
      · rw [if_neg y, if_neg y]; exact x2 i (by omega)
    · rw [c25, c51]
      by_cases y : k = (f 31 32).toNat
      · rw [if_pos y, if_pos y]; omega
      · rw [if_neg y, if_neg y]; exact x3 k
