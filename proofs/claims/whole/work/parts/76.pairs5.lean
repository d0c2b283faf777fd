/-! THE CALLS, PAIR BY PAIR: advice, street -/
theorem advZ_in (c d : Int) : 0 ≤ advZ c d ∧ advZ c d ≤ 3 := by
  unfold advZ
  repeat' split
  all_goals omega
theorem LV_w_f {N : Nat} {f g F : Nat → Nat → Int} (h : LVq N false f g) (a : ∀ a, a ≠ 28 → a ≠ 48 → F a = (am_up f 31 0 0) a) (hw : LVw 27 F g) : LVq (N + 1) false F g := by
  obtain ⟨h1, h2, h3, h4, h5, h6, h7⟩ := LV_c0 (c := 0) h (Nat.le_succ N)
  have a' : ∀ x, (x = 1 ∨ x = 5 ∨ x = 6 ∨ x = 7 ∨ x = 35 ∨ x = 36 ∨ x = 39 ∨ x = 10 ∨ x = 42 ∨ x = 0 ∨ x = 14 ∨ x = 24 ∨ x = 25 ∨ x = 26 ∨ x = 51 ∨ x = 31) → F x = (am_up f 31 0 0) x := fun x hx => a x (by omega) (by omega)
  exact ⟨LVn_cg h1 ⟨by rw [a' 1 (by omega)], by rw [a' 31 (by omega)]⟩ ⟨rfl, rfl, rfl, rfl, rfl, rfl⟩, LVs_cg h2 ⟨by rw [a' 5 (by omega)], by rw [a' 31 (by omega)], by rw [a' 31 (by omega)]; exact Int.le_refl _, a' 6 (by omega), fun _ _ => by rw [a' 7 (by omega)], by rw [a' 7 (by omega)]; exact h2.2.2.2.2.2.2, a' 35 (by omega), a' 36 (by omega), a' 39 (by omega), a' 10 (by omega)⟩ ⟨rfl, rfl, rfl, rfl, fun _ _ => rfl⟩, LVt_cg h3 (Nat.le_refl _) ⟨rfl, rfl, rfl, rfl, rfl, rfl⟩, LVb_cg h4 (a' 42 (by omega)) rfl, LVp_cg h5 ⟨by rw [a' 0 (by omega)], by rw [a' 31 (by omega)], by rw [a' 31 (by omega)], by rw [a' 31 (by omega)], by rw [a' 31 (by omega)], by rw [a' 31 (by omega)]; exact Int.le_refl _, a' 14 (by omega), by rw [a' 7 (by omega)]⟩, hw, LVx_cg h7 ⟨a' 24 (by omega), a' 25 (by omega), a' 26 (by omega), a' 51 (by omega), by rw [a' 31 (by omega)], by rw [a' 31 (by omega)], by rw [a' 31 (by omega)], by rw [a' 31 (by omega)], by rw [a' 0 (by omega)]⟩⟩
/-- one more advice is asked for -/
theorem LVw_ask_f {f g F : Nat → Nat → Int} {i : Nat} {x : Int} (h : LVw 27 f g) (hi : (i : Int) < f 31 23) (hx : x < 0) (hx2 : aZ x = aZ (f 28 i)) (eF : F = am_up (am_up (am_up f 28 i x) 31 0 0) 48 i 1) : LVw 27 F g := by
  obtain ⟨w1, w2, w3, w4, w5, w6, w7, w8⟩ := h
  have cR : ∀ k, F 28 k = if k = i then x else f 28 k := fun k => by rw [eF, am_up_ne (by decide), am_up_ne (by decide), am_up_eq]
  have c48 : ∀ k, F 48 k = if k = i then 1 else f 48 k := fun k => by rw [eF, am_up_eq, am_up_ne (by decide), am_up_ne (by decide)]
  have cV : F 30 = f 30 := by rw [eF, am_up_ne (by decide), am_up_ne (by decide), am_up_ne (by decide)]
  have e47 : F 47 = f 47 := by rw [eF, am_up_ne (by decide), am_up_ne (by decide), am_up_ne (by decide)]
  have eW : F 27 = f 27 := by rw [eF, am_up_ne (by decide), am_up_ne (by decide), am_up_ne (by decide)]
  have e23 : F 31 23 = f 31 23 := by rw [eF]; rfl
  have e07 : F 0 7 = f 0 7 := by rw [eF]; rfl
  have w8' : ∀ k, (-120 ≤ f 28 k ∧ f 28 k ≤ 120) ∧ -120 ≤ f 30 k ∧ f 30 k ≤ 120 := fun k => by have := w8 k; exact ⟨by omega, by omega⟩
  have hR := w8' i
  have q : ∀ k, (-120 ≤ F 28 k ∧ F 28 k ≤ 120) ∧ -120 ≤ F 30 k ∧ F 30 k ≤ 120 := fun k => by
    rw [cR, cV]
    by_cases z : k = i
    · rw [if_pos z]
      refine ⟨?_, (w8' k).2⟩
      unfold aZ at hx2
      rw [if_neg (by omega)] at hx2
      split at hx2 <;> omega
    · rw [if_neg z]; exact w8' k
  refine ⟨by rw [eW]; exact w1, by rw [eW, e07]; exact w2, by rw [eW, e23]; exact w3, by rw [eW, e23]; exact w4, fun k hk => ?_, fun k hk => ?_, ?_, fun k => by have := q k; exact ⟨by omega, by omega⟩⟩
  · rw [e23] at hk
    show aZ (F 28 k) = F 47 k ∧ (F 28 k < 0 ↔ F 48 k = 1)
    rw [cR, c48, e47]
    have w5k : aZ (f 28 k) = f 47 k ∧ (f 28 k < 0 ↔ f 48 k = 1) := w5 k hk
    by_cases z : k = i
    · rw [if_pos z, if_pos z]
      refine ⟨?_, fun _ => rfl, fun _ => hx⟩
      rw [hx2, z]
      rw [z] at w5k
      exact w5k.1
    · rw [if_neg z, if_neg z]; exact w5k
  · rw [c48]
    by_cases z : k = i
    · rw [if_pos z]; exact Or.inr rfl
    · rw [if_neg z]; exact w6 k hk
  · rw [e47, e23]
    refine chO_cg w7 ⟨by rw [eF]; exact Int.le_refl _, by rw [eF]; rfl, fun k _ _ => ⟨by rw [eF]; rfl, by rw [eF]; rfl⟩⟩
theorem pr_11_f {d L N : Nat} {f g : Nat → Nat → Int} {i q : Int} (h : LVq N false f g) (hi : iR i) (hq : iR q) : am_call (d + 7) 11 [.ref 0, .int (iZ i), .int (iZ q)] (53, sh_lt L, iH f, jH g, sh_rt false) (Mid L (N + 1) (d + 7) 53 [.ref 31, .int (iZ i), .int (iZ q)]) := by
  obtain ⟨n1, n2, n3, n4⟩ := h.1
  obtain ⟨s1, s2, s3, s4, s5, s6, s7⟩ := h.2.1
  have hW : LVw 27 f g := h.2.2.2.2.2.1
  obtain ⟨w1, w2, w3, ⟨w4, w5, w6⟩, w7, w8, w9, w10⟩ := hW
  have hW : LVw 27 f g := h.2.2.2.2.2.1
  have e2 : ∀ k, g 2 k = g 32 k := fun k => (n2 k).1
  have e3 : ∀ k, g 3 k = g 33 k := fun k => (n2 k).2.1
  have hX : ∀ k, -10000 ≤ g 32 k ∧ g 32 k ≤ 10000 := fun k => (n3 k).1
  have hY : ∀ k, -10000 ≤ g 33 k ∧ g 33 k ≤ 10000 := fun k => (n3 k).2
  have e5 : f 5 8 = f 31 5 := s1.1
  have r47 : ∀ k : Nat, (k : Int) < f 31 23 → 1 ≤ f 47 k ∧ f 47 k ≤ f 31 5 := fun k hk => by have := w9 k (by omega); exact ⟨this.1, this.2.1⟩
  have w7' : ∀ k : Nat, (k : Int) < f 31 23 → aZ (f 28 k) = f 47 k ∧ (f 28 k < 0 ↔ f 48 k = 1) := w7
  have wv : ∀ k, -120 ≤ f 28 k ∧ f 28 k ≤ 120 := fun k => by have := w10 k; omega
  have hst : ∀ s : Nat, (0 ≤ f 35 s ∧ f 35 s < 61) ∧ (0 ≤ f 36 s ∧ f 36 s < 61) := fun s => by have := s4 s; omega
  have hM : ∀ {Q : Option Value → am_H → Prop} {f1 : Nat → Nat → Int} (F : Nat → Nat → Int) (hf : am_up F 31 0 0 = f1) (hF23 : F 31 23 = f 31 23) (hF47 : F 47 = f 47) (hF48 : F 48 = f 48) (hF35 : F 35 = f 35) (hF36 : F 36 = f 36)
      (K1 : ¬ (0 ≤ i ∧ i ≤ f 31 23 - 2) → Q (some (.int (iZ (-1)))) (53, sh_lt L, iH f1, jH g, sh_rt false)) (K2 : (0 ≤ i ∧ i ≤ f 31 23 - 2) ∧ (q < 0 ∨ 2 < q) → Q (some (.int (iZ (-2)))) (53, sh_lt L, iH f1, jH g, sh_rt false))
      (K3 : (0 ≤ i ∧ i ≤ f 31 23 - 2) ∧ q = 0 → Q (some (.int (iZ (advZ ((g 32 (f 36 (f 47 i.toNat).toNat).toNat - g 32 (f 35 (f 47 i.toNat).toNat).toNat) * (g 33 (f 36 (f 47 (i + 1).toNat).toNat).toNat - g 33 (f 35 (f 47 (i + 1).toNat).toNat).toNat) - (g 33 (f 36 (f 47 i.toNat).toNat).toNat - g 33 (f 35 (f 47 i.toNat).toNat).toNat) * (g 32 (f 36 (f 47 (i + 1).toNat).toNat).toNat - g 32 (f 35 (f 47 (i + 1).toNat).toNat).toNat)) ((g 32 (f 36 (f 47 i.toNat).toNat).toNat - g 32 (f 35 (f 47 i.toNat).toNat).toNat) * (g 32 (f 36 (f 47 (i + 1).toNat).toNat).toNat - g 32 (f 35 (f 47 (i + 1).toNat).toNat).toNat) + (g 33 (f 36 (f 47 i.toNat).toNat).toNat - g 33 (f 35 (f 47 i.toNat).toNat).toNat) * (g 33 (f 36 (f 47 (i + 1).toNat).toNat).toNat - g 33 (f 35 (f 47 (i + 1).toNat).toNat).toNat)))))) (53, sh_lt L, iH f1, jH g, sh_rt false)) (K4 : (0 ≤ i ∧ i ≤ f 31 23 - 2) ∧ q = 1 → Q (some (.int (iZ (f 47 (i + 1).toNat)))) (53, sh_lt L, iH f1, jH g, sh_rt false))
      (K5 : (0 ≤ i ∧ i ≤ f 31 23 - 2) ∧ q = 2 ∧ ¬ f 48 i.toNat = 0 → Q (some (.int (iZ 0))) (53, sh_lt L, iH (am_up f1 48 i.toNat 1), jH g, sh_rt false)) (K6 : (0 ≤ i ∧ i ≤ f 31 23 - 2) ∧ q = 2 ∧ f 48 i.toNat = 0 → Q (some (.int (iZ 1))) (53, sh_lt L, iH (am_up f1 48 i.toNat 1), jH g, sh_rt false)), am_call (d + 7) 53 [.ref 31, .int (iZ i), .int (iZ q)] (53, sh_lt L, iH F, jH g, sh_rt false) Q := by
    intro Q f1 F hf hF23 hF47 hF48 hF35 hF36 K1 K2 K3 K4 K5 K6
    have q23 : f1 31 23 = f 31 23 := by rw [← hf]; exact hF23
    have q47 : f1 47 = f 47 := by rw [← hf, am_up_ne (by decide)]; exact hF47
    have q48 : f1 48 = f 48 := by rw [← hf, am_up_ne (by decide)]; exact hF48
    have q35 : f1 35 = f 35 := by rw [← hf, am_up_ne (by decide)]; exact hF35
    have q36 : f1 36 = f 36 := by rw [← hf, am_up_ne (by decide)]; exact hF36
    exact sp_53b hf (by rw [q23]; exact K1) (by rw [q23]; exact K2) (by rw [q23, q47, q35, q36]; exact K3) (by rw [q23, q47]; exact K4) (by rw [q23, q48]; exact K5) (by rw [q23, q48]; exact K6) hi hq (by rw [q23]; omega) (by rw [q23, q47]; exact fun k hk => ⟨(r47 k hk).1, by have := (r47 k hk).2; have := s1.2.2; omega⟩) (by rw [q48]; exact w8) (by rw [q35, q36]; exact fun s _ _ => hst s) hX hY
  have w4' : f 27 1 = f 31 23 := w4
  refine sp_11_f (fun z => ⟨-1, f, g, false, by decide, rfl, rfl, ?_⟩) (fun z => ⟨-2, f, g, false, by decide, rfl, rfl, ?_⟩) (fun z => ⟨_, f, g, false, by have := advZ_in (dX f g (aZ (f 28 i.toNat)).toNat * dY f g (aZ (f 28 (i + 1).toNat)).toNat - dY f g (aZ (f 28 i.toNat)).toNat * dX f g (aZ (f 28 (i + 1).toNat)).toNat) (dX f g (aZ (f 28 i.toNat)).toNat * dX f g (aZ (f 28 (i + 1).toNat)).toNat + dY f g (aZ (f 28 i.toNat)).toNat * dY f g (aZ (f 28 (i + 1).toNat)).toNat); omega, rfl, rfl, ?_⟩) (fun z => ⟨_, f, g, false, ?_, rfl, rfl, ?_⟩) (fun z => ⟨0, f, g, false, by decide, rfl, rfl, ?_⟩) (fun z => ⟨1, am_up f 28 i.toNat (-(f 28 i.toNat)), g, false, by decide, rfl, rfl, ?_⟩) hi hq (by rw [w4']; omega) (by rw [e5]; exact s1.2) (fun k hk => by rw [w4'] at hk; rw [(w7' k hk).1, e5]; exact r47 k hk) (fun k => by have := wv k; omega) (fun s q1 q2 => by rw [(s2 s q1).1, (s2 s q1).2]; exact hst s) (fun k => by rw [e2]; exact hX k) (fun k => by rw [e3]; exact hY k)
  · rw [w4'] at z
    exact hM f rfl rfl rfl rfl rfl rfl (fun _ => ⟨rfl, _, _, rfl, LV_c0 h (Nat.le_succ N)⟩) (fun z2 => by omega) (fun z2 => by omega) (fun z2 => by omega) (fun z2 => by omega) (fun z2 => by omega)
  · rw [w4'] at z
    exact hM f rfl rfl rfl rfl rfl rfl (fun z2 => by omega) (fun _ => ⟨rfl, _, _, rfl, LV_c0 h (Nat.le_succ N)⟩) (fun z2 => by omega) (fun z2 => by omega) (fun z2 => by omega) (fun z2 => by omega)
  · rw [w4'] at z
    have ea := (w7' i.toNat (by omega)).1
    have eb := (w7' (i + 1).toNat (by omega)).1
    have ra := r47 i.toNat (by omega)
    have rb := r47 (i + 1).toNat (by omega)
    have dx : ∀ s : Nat, 1 ≤ s → dX f g s = g 32 (f 36 s).toNat - g 32 (f 35 s).toNat := fun s hs => by
      show g 2 (f 7 s).toNat - g 2 (f 6 s).toNat = _
      rw [(s2 s hs).1, (s2 s hs).2, e2, e2]
    have dy : ∀ s : Nat, 1 ≤ s → dY f g s = g 33 (f 36 s).toNat - g 33 (f 35 s).toNat := fun s hs => by
      show g 3 (f 7 s).toNat - g 3 (f 6 s).toNat = _
      rw [(s2 s hs).1, (s2 s hs).2, e3, e3]
    rw [ea, eb, dx _ (by omega), dx _ (by omega), dy _ (by omega), dy _ (by omega)]
    exact hM f rfl rfl rfl rfl rfl rfl (fun z2 => by omega) (fun z2 => by omega) (fun _ => ⟨rfl, _, _, rfl, LV_c0 h (Nat.le_succ N)⟩) (fun z2 => by omega) (fun z2 => by omega) (fun z2 => by omega)
  · rw [w4'] at z
    rw [(w7' (i + 1).toNat (by omega)).1]
    have := r47 (i + 1).toNat (by omega)
    omega
  · rw [w4'] at z
    rw [(w7' (i + 1).toNat (by omega)).1]
    exact hM f rfl rfl rfl rfl rfl rfl (fun z2 => by omega) (fun z2 => by omega) (fun z2 => by omega) (fun _ => ⟨rfl, _, _, rfl, LV_c0 h (Nat.le_succ N)⟩) (fun z2 => by omega) (fun z2 => by omega)
  · rw [w4'] at z
    obtain ⟨z1, z2, z3⟩ := z
    have e48 := (w7' i.toNat (by omega)).2.mp z3
    refine hM f rfl rfl rfl rfl rfl rfl (fun y => by omega) (fun y => by omega) (fun y => by omega) (fun y => by omega) (fun _ => ⟨rfl, _, _, rfl, ?_⟩) (fun y => by omega)
    refine LV_w_f h (fun a _ a2 => am_up_ne a2) (LVw_ask_f hW (i := i.toNat) (x := f 28 i.toNat) (by omega) z3 rfl ?_)
    rw [up_id]
  · rw [w4'] at z
    obtain ⟨z1, z2, z3⟩ := z
    have e7 := w7' i.toNat (by omega)
    have r7 := r47 i.toNat (by omega)
    have e48 : f 48 i.toNat = 0 := (w8 i.toNat (by omega)).resolve_right (fun y => z3 (e7.2.mpr y))
    have epos : f 28 i.toNat = f 47 i.toNat := by
      have := e7.1
      unfold aZ at this
      rw [if_pos (by omega)] at this
      exact this
    refine hM _ rfl rfl (am_up_ne (by decide)) (am_up_ne (by decide)) (am_up_ne (by decide)) (am_up_ne (by decide)) (fun y => by omega) (fun y => by omega) (fun y => by omega) (fun y => by omega) (fun y => absurd e48 y.2.2) (fun _ => ⟨rfl, _, _, rfl, ?_⟩)
    refine LV_w_f h (fun a a1 a2 => ?_) (LVw_ask_f hW (i := i.toNat) (x := -(f 28 i.toNat)) (by omega) (by omega) ?_ rfl)
    · rw [am_up_ne a2]
      by_cases y : a = 31
      · subst y
        funext j
        rw [am_up_eq, am_up_eq, am_up_ne (by decide)]
      · rw [am_up_ne y, am_up_ne y, am_up_ne a1]
    · unfold aZ
      rw [if_neg (by omega), if_pos (by omega)]
      omega
theorem LV_w_t {N : Nat} {f g F : Nat → Nat → Int} (h : LVq N true f g) (a : ∀ a, a ≠ 30 → a ≠ 48 → F a = (am_up f 31 0 0) a) (hw : LVw 29 F g) : LVq (N + 1) true F g := by
  obtain ⟨h1, h2, h3, h4, h5, h6, h7⟩ := LV_c0 (c := 0) h (Nat.le_succ N)
  have a' : ∀ x, (x = 1 ∨ x = 5 ∨ x = 6 ∨ x = 7 ∨ x = 35 ∨ x = 36 ∨ x = 39 ∨ x = 10 ∨ x = 42 ∨ x = 0 ∨ x = 14 ∨ x = 24 ∨ x = 25 ∨ x = 26 ∨ x = 51 ∨ x = 31) → F x = (am_up f 31 0 0) x := fun x hx => a x (by omega) (by omega)
  exact ⟨LVn_cg h1 ⟨by rw [a' 1 (by omega)], by rw [a' 31 (by omega)]⟩ ⟨rfl, rfl, rfl, rfl, rfl, rfl⟩, LVs_cg h2 ⟨by rw [a' 5 (by omega)], by rw [a' 31 (by omega)], by rw [a' 31 (by omega)]; exact Int.le_refl _, a' 6 (by omega), fun _ _ => by rw [a' 7 (by omega)], by rw [a' 7 (by omega)]; exact h2.2.2.2.2.2.2, a' 35 (by omega), a' 36 (by omega), a' 39 (by omega), a' 10 (by omega)⟩ ⟨rfl, rfl, rfl, rfl, fun _ _ => rfl⟩, LVt_cg h3 (Nat.le_refl _) ⟨rfl, rfl, rfl, rfl, rfl, rfl⟩, LVb_cg h4 (a' 42 (by omega)) rfl, LVp_cg h5 ⟨by rw [a' 0 (by omega)], by rw [a' 31 (by omega)], by rw [a' 31 (by omega)], by rw [a' 31 (by omega)], by rw [a' 31 (by omega)], by rw [a' 31 (by omega)]; exact Int.le_refl _, a' 14 (by omega), by rw [a' 7 (by omega)]⟩, hw, LVx_cg h7 ⟨a' 24 (by omega), a' 25 (by omega), a' 26 (by omega), a' 51 (by omega), by rw [a' 31 (by omega)], by rw [a' 31 (by omega)], by rw [a' 31 (by omega)], by rw [a' 31 (by omega)], by rw [a' 0 (by omega)]⟩⟩
/-- one more advice is asked for -/
theorem LVw_ask_t {f g F : Nat → Nat → Int} {i : Nat} {x : Int} (h : LVw 29 f g) (hi : (i : Int) < f 31 23) (hx : x < 0) (hx2 : aZ x = aZ (f 30 i)) (eF : F = am_up (am_up (am_up f 30 i x) 31 0 0) 48 i 1) : LVw 29 F g := by
  obtain ⟨w1, w2, w3, w4, w5, w6, w7, w8⟩ := h
  have cR : ∀ k, F 30 k = if k = i then x else f 30 k := fun k => by rw [eF, am_up_ne (by decide), am_up_ne (by decide), am_up_eq]
  have c48 : ∀ k, F 48 k = if k = i then 1 else f 48 k := fun k => by rw [eF, am_up_eq, am_up_ne (by decide), am_up_ne (by decide)]
  have cV : F 28 = f 28 := by rw [eF, am_up_ne (by decide), am_up_ne (by decide), am_up_ne (by decide)]
  have e47 : F 47 = f 47 := by rw [eF, am_up_ne (by decide), am_up_ne (by decide), am_up_ne (by decide)]
  have eW : F 29 = f 29 := by rw [eF, am_up_ne (by decide), am_up_ne (by decide), am_up_ne (by decide)]
  have e23 : F 31 23 = f 31 23 := by rw [eF]; rfl
  have e07 : F 0 7 = f 0 7 := by rw [eF]; rfl
  have w8' : ∀ k, (-120 ≤ f 30 k ∧ f 30 k ≤ 120) ∧ -120 ≤ f 28 k ∧ f 28 k ≤ 120 := fun k => by have := w8 k; exact ⟨by omega, by omega⟩
  have hR := w8' i
  have q : ∀ k, (-120 ≤ F 30 k ∧ F 30 k ≤ 120) ∧ -120 ≤ F 28 k ∧ F 28 k ≤ 120 := fun k => by
    rw [cR, cV]
    by_cases z : k = i
    · rw [if_pos z]
      refine ⟨?_, (w8' k).2⟩
      unfold aZ at hx2
      rw [if_neg (by omega)] at hx2
      split at hx2 <;> omega
    · rw [if_neg z]; exact w8' k
  refine ⟨by rw [eW]; exact w1, by rw [eW, e07]; exact w2, by rw [eW, e23]; exact w3, by rw [eW, e23]; exact w4, fun k hk => ?_, fun k hk => ?_, ?_, fun k => by have := q k; exact ⟨by omega, by omega⟩⟩
  · rw [e23] at hk
    show aZ (F 30 k) = F 47 k ∧ (F 30 k < 0 ↔ F 48 k = 1)
    rw [cR, c48, e47]
    have w5k : aZ (f 30 k) = f 47 k ∧ (f 30 k < 0 ↔ f 48 k = 1) := w5 k hk
    by_cases z : k = i
    · rw [if_pos z, if_pos z]
      refine ⟨?_, fun _ => rfl, fun _ => hx⟩
      rw [hx2, z]
      rw [z] at w5k
      exact w5k.1
    · rw [if_neg z, if_neg z]; exact w5k
  · rw [c48]
    by_cases z : k = i
    · rw [if_pos z]; exact Or.inr rfl
    · rw [if_neg z]; exact w6 k hk
  · rw [e47, e23]
    refine chO_cg w7 ⟨by rw [eF]; exact Int.le_refl _, by rw [eF]; rfl, fun k _ _ => ⟨by rw [eF]; rfl, by rw [eF]; rfl⟩⟩
theorem pr_11_t {d L N : Nat} {f g : Nat → Nat → Int} {i q : Int} (h : LVq N true f g) (hi : iR i) (hq : iR q) : am_call (d + 7) 11 [.ref 0, .int (iZ i), .int (iZ q)] (53, sh_lt L, iH f, jH g, sh_rt true) (Mid L (N + 1) (d + 7) 53 [.ref 31, .int (iZ i), .int (iZ q)]) := by
  obtain ⟨n1, n2, n3, n4⟩ := h.1
  obtain ⟨s1, s2, s3, s4, s5, s6, s7⟩ := h.2.1
  have hW : LVw 29 f g := h.2.2.2.2.2.1
  obtain ⟨w1, w2, w3, ⟨w4, w5, w6⟩, w7, w8, w9, w10⟩ := hW
  have hW : LVw 29 f g := h.2.2.2.2.2.1
  have e2 : ∀ k, g 2 k = g 32 k := fun k => (n2 k).1
  have e3 : ∀ k, g 3 k = g 33 k := fun k => (n2 k).2.1
  have hX : ∀ k, -10000 ≤ g 32 k ∧ g 32 k ≤ 10000 := fun k => (n3 k).1
  have hY : ∀ k, -10000 ≤ g 33 k ∧ g 33 k ≤ 10000 := fun k => (n3 k).2
  have e5 : f 5 8 = f 31 5 := s1.1
  have r47 : ∀ k : Nat, (k : Int) < f 31 23 → 1 ≤ f 47 k ∧ f 47 k ≤ f 31 5 := fun k hk => by have := w9 k (by omega); exact ⟨this.1, this.2.1⟩
  have w7' : ∀ k : Nat, (k : Int) < f 31 23 → aZ (f 30 k) = f 47 k ∧ (f 30 k < 0 ↔ f 48 k = 1) := w7
  have wv : ∀ k, -120 ≤ f 30 k ∧ f 30 k ≤ 120 := fun k => by have := w10 k; omega
  have hst : ∀ s : Nat, (0 ≤ f 35 s ∧ f 35 s < 61) ∧ (0 ≤ f 36 s ∧ f 36 s < 61) := fun s => by have := s4 s; omega
  have hM : ∀ {Q : Option Value → am_H → Prop} {f1 : Nat → Nat → Int} (F : Nat → Nat → Int) (hf : am_up F 31 0 0 = f1) (hF23 : F 31 23 = f 31 23) (hF47 : F 47 = f 47) (hF48 : F 48 = f 48) (hF35 : F 35 = f 35) (hF36 : F 36 = f 36)
      (K1 : ¬ (0 ≤ i ∧ i ≤ f 31 23 - 2) → Q (some (.int (iZ (-1)))) (53, sh_lt L, iH f1, jH g, sh_rt true)) (K2 : (0 ≤ i ∧ i ≤ f 31 23 - 2) ∧ (q < 0 ∨ 2 < q) → Q (some (.int (iZ (-2)))) (53, sh_lt L, iH f1, jH g, sh_rt true))
      (K3 : (0 ≤ i ∧ i ≤ f 31 23 - 2) ∧ q = 0 → Q (some (.int (iZ (advZ ((g 32 (f 36 (f 47 i.toNat).toNat).toNat - g 32 (f 35 (f 47 i.toNat).toNat).toNat) * (g 33 (f 36 (f 47 (i + 1).toNat).toNat).toNat - g 33 (f 35 (f 47 (i + 1).toNat).toNat).toNat) - (g 33 (f 36 (f 47 i.toNat).toNat).toNat - g 33 (f 35 (f 47 i.toNat).toNat).toNat) * (g 32 (f 36 (f 47 (i + 1).toNat).toNat).toNat - g 32 (f 35 (f 47 (i + 1).toNat).toNat).toNat)) ((g 32 (f 36 (f 47 i.toNat).toNat).toNat - g 32 (f 35 (f 47 i.toNat).toNat).toNat) * (g 32 (f 36 (f 47 (i + 1).toNat).toNat).toNat - g 32 (f 35 (f 47 (i + 1).toNat).toNat).toNat) + (g 33 (f 36 (f 47 i.toNat).toNat).toNat - g 33 (f 35 (f 47 i.toNat).toNat).toNat) * (g 33 (f 36 (f 47 (i + 1).toNat).toNat).toNat - g 33 (f 35 (f 47 (i + 1).toNat).toNat).toNat)))))) (53, sh_lt L, iH f1, jH g, sh_rt true)) (K4 : (0 ≤ i ∧ i ≤ f 31 23 - 2) ∧ q = 1 → Q (some (.int (iZ (f 47 (i + 1).toNat)))) (53, sh_lt L, iH f1, jH g, sh_rt true))
      (K5 : (0 ≤ i ∧ i ≤ f 31 23 - 2) ∧ q = 2 ∧ ¬ f 48 i.toNat = 0 → Q (some (.int (iZ 0))) (53, sh_lt L, iH (am_up f1 48 i.toNat 1), jH g, sh_rt true)) (K6 : (0 ≤ i ∧ i ≤ f 31 23 - 2) ∧ q = 2 ∧ f 48 i.toNat = 0 → Q (some (.int (iZ 1))) (53, sh_lt L, iH (am_up f1 48 i.toNat 1), jH g, sh_rt true)), am_call (d + 7) 53 [.ref 31, .int (iZ i), .int (iZ q)] (53, sh_lt L, iH F, jH g, sh_rt true) Q := by
    intro Q f1 F hf hF23 hF47 hF48 hF35 hF36 K1 K2 K3 K4 K5 K6
    have q23 : f1 31 23 = f 31 23 := by rw [← hf]; exact hF23
    have q47 : f1 47 = f 47 := by rw [← hf, am_up_ne (by decide)]; exact hF47
    have q48 : f1 48 = f 48 := by rw [← hf, am_up_ne (by decide)]; exact hF48
    have q35 : f1 35 = f 35 := by rw [← hf, am_up_ne (by decide)]; exact hF35
    have q36 : f1 36 = f 36 := by rw [← hf, am_up_ne (by decide)]; exact hF36
    exact sp_53b hf (by rw [q23]; exact K1) (by rw [q23]; exact K2) (by rw [q23, q47, q35, q36]; exact K3) (by rw [q23, q47]; exact K4) (by rw [q23, q48]; exact K5) (by rw [q23, q48]; exact K6) hi hq (by rw [q23]; omega) (by rw [q23, q47]; exact fun k hk => ⟨(r47 k hk).1, by have := (r47 k hk).2; have := s1.2.2; omega⟩) (by rw [q48]; exact w8) (by rw [q35, q36]; exact fun s _ _ => hst s) hX hY
  have w4' : f 29 1 = f 31 23 := w4
  refine sp_11_t (fun z => ⟨-1, f, g, true, by decide, rfl, rfl, ?_⟩) (fun z => ⟨-2, f, g, true, by decide, rfl, rfl, ?_⟩) (fun z => ⟨_, f, g, true, by have := advZ_in (dX f g (aZ (f 30 i.toNat)).toNat * dY f g (aZ (f 30 (i + 1).toNat)).toNat - dY f g (aZ (f 30 i.toNat)).toNat * dX f g (aZ (f 30 (i + 1).toNat)).toNat) (dX f g (aZ (f 30 i.toNat)).toNat * dX f g (aZ (f 30 (i + 1).toNat)).toNat + dY f g (aZ (f 30 i.toNat)).toNat * dY f g (aZ (f 30 (i + 1).toNat)).toNat); omega, rfl, rfl, ?_⟩) (fun z => ⟨_, f, g, true, ?_, rfl, rfl, ?_⟩) (fun z => ⟨0, f, g, true, by decide, rfl, rfl, ?_⟩) (fun z => ⟨1, am_up f 30 i.toNat (-(f 30 i.toNat)), g, true, by decide, rfl, rfl, ?_⟩) hi hq (by rw [w4']; omega) (by rw [e5]; exact s1.2) (fun k hk => by rw [w4'] at hk; rw [(w7' k hk).1, e5]; exact r47 k hk) (fun k => by have := wv k; omega) (fun s q1 q2 => by rw [(s2 s q1).1, (s2 s q1).2]; exact hst s) (fun k => by rw [e2]; exact hX k) (fun k => by rw [e3]; exact hY k)
  · rw [w4'] at z
    exact hM f rfl rfl rfl rfl rfl rfl (fun _ => ⟨rfl, _, _, rfl, LV_c0 h (Nat.le_succ N)⟩) (fun z2 => by omega) (fun z2 => by omega) (fun z2 => by omega) (fun z2 => by omega) (fun z2 => by omega)
  · rw [w4'] at z
    exact hM f rfl rfl rfl rfl rfl rfl (fun z2 => by omega) (fun _ => ⟨rfl, _, _, rfl, LV_c0 h (Nat.le_succ N)⟩) (fun z2 => by omega) (fun z2 => by omega) (fun z2 => by omega) (fun z2 => by omega)
  · rw [w4'] at z
    have ea := (w7' i.toNat (by omega)).1
    have eb := (w7' (i + 1).toNat (by omega)).1
    have ra := r47 i.toNat (by omega)
    have rb := r47 (i + 1).toNat (by omega)
    have dx : ∀ s : Nat, 1 ≤ s → dX f g s = g 32 (f 36 s).toNat - g 32 (f 35 s).toNat := fun s hs => by
      show g 2 (f 7 s).toNat - g 2 (f 6 s).toNat = _
      rw [(s2 s hs).1, (s2 s hs).2, e2, e2]
    have dy : ∀ s : Nat, 1 ≤ s → dY f g s = g 33 (f 36 s).toNat - g 33 (f 35 s).toNat := fun s hs => by
      show g 3 (f 7 s).toNat - g 3 (f 6 s).toNat = _
      rw [(s2 s hs).1, (s2 s hs).2, e3, e3]
    rw [ea, eb, dx _ (by omega), dx _ (by omega), dy _ (by omega), dy _ (by omega)]
    exact hM f rfl rfl rfl rfl rfl rfl (fun z2 => by omega) (fun z2 => by omega) (fun _ => ⟨rfl, _, _, rfl, LV_c0 h (Nat.le_succ N)⟩) (fun z2 => by omega) (fun z2 => by omega) (fun z2 => by omega)
  · rw [w4'] at z
    rw [(w7' (i + 1).toNat (by omega)).1]
    have := r47 (i + 1).toNat (by omega)
    omega
  · rw [w4'] at z
    rw [(w7' (i + 1).toNat (by omega)).1]
    exact hM f rfl rfl rfl rfl rfl rfl (fun z2 => by omega) (fun z2 => by omega) (fun z2 => by omega) (fun _ => ⟨rfl, _, _, rfl, LV_c0 h (Nat.le_succ N)⟩) (fun z2 => by omega) (fun z2 => by omega)
  · rw [w4'] at z
    obtain ⟨z1, z2, z3⟩ := z
    have e48 := (w7' i.toNat (by omega)).2.mp z3
    refine hM f rfl rfl rfl rfl rfl rfl (fun y => by omega) (fun y => by omega) (fun y => by omega) (fun y => by omega) (fun _ => ⟨rfl, _, _, rfl, ?_⟩) (fun y => by omega)
    refine LV_w_t h (fun a _ a2 => am_up_ne a2) (LVw_ask_t hW (i := i.toNat) (x := f 30 i.toNat) (by omega) z3 rfl ?_)
    rw [up_id]
  · rw [w4'] at z
    obtain ⟨z1, z2, z3⟩ := z
    have e7 := w7' i.toNat (by omega)
    have r7 := r47 i.toNat (by omega)
    have e48 : f 48 i.toNat = 0 := (w8 i.toNat (by omega)).resolve_right (fun y => z3 (e7.2.mpr y))
    have epos : f 30 i.toNat = f 47 i.toNat := by
      have := e7.1
      unfold aZ at this
      rw [if_pos (by omega)] at this
      exact this
    refine hM _ rfl rfl (am_up_ne (by decide)) (am_up_ne (by decide)) (am_up_ne (by decide)) (am_up_ne (by decide)) (fun y => by omega) (fun y => by omega) (fun y => by omega) (fun y => by omega) (fun y => absurd e48 y.2.2) (fun _ => ⟨rfl, _, _, rfl, ?_⟩)
    refine LV_w_t h (fun a a1 a2 => ?_) (LVw_ask_t hW (i := i.toNat) (x := -(f 30 i.toNat)) (by omega) (by omega) ?_ rfl)
    · rw [am_up_ne a2]
      by_cases y : a = 31
      · subst y
        funext j
        rw [am_up_eq, am_up_eq, am_up_ne (by decide)]
      · rw [am_up_ne y, am_up_ne y, am_up_ne a1]
    · unfold aZ
      rw [if_neg (by omega), if_pos (by omega)]
      omega
