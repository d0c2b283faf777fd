/-! THE LAW'S INVARIANT: one heap holds both objects -/
def wyN (sw : Bool) : Nat := if sw = true then 29 else 27
def LVn (f g : Nat → Nat → Int) : Prop := (f 1 3 = f 31 1 ∧ 0 ≤ f 31 1 ∧ f 31 1 ≤ 60) ∧ (∀ k, g 2 k = g 32 k ∧ g 3 k = g 33 k ∧ g 4 k = g 34 k) ∧ XOk g ∧ ∀ k, 0 ≤ g 34 k ∧ g 34 k ≤ 1000000
def LVs (f g : Nat → Nat → Int) : Prop := (f 5 8 = f 31 5 ∧ 0 ≤ f 31 5 ∧ f 31 5 ≤ 120) ∧ (∀ k, 1 ≤ k → f 6 k = f 35 k ∧ f 7 k = f 36 k) ∧ (∀ k : Nat, g 8 k = g 37 k ∧ g 9 k = g 38 k ∧ (f 31 5 < (k : Int) → g 12 k ≤ 0)) ∧
  (∀ k, (0 ≤ f 35 k ∧ f 35 k ≤ 60) ∧ (0 ≤ f 36 k ∧ f 36 k ≤ 60) ∧ (0 ≤ f 39 k ∧ f 39 k ≤ 21) ∧ (0 ≤ f 10 k ∧ f 10 k ≤ 3) ∧ (0 ≤ g 37 k ∧ g 37 k ≤ 100000) ∧ (0 ≤ g 38 k ∧ g 38 k ≤ 1000)) ∧
  (∀ k : Nat, 1 ≤ k → (k : Int) ≤ f 31 5 → (1 ≤ f 35 k ∧ f 35 k ≤ f 31 1) ∧ (1 ≤ f 36 k ∧ f 36 k ≤ f 31 1) ∧ f 39 k = 1 + g 37 k * (1 + f 10 k) / 20000 ∧ 1 ≤ f 39 k) ∧ (0 ≤ f 6 0 ∧ f 6 0 ≤ 60) ∧ (0 ≤ f 7 0 ∧ f 7 0 ≤ 60)
def LVt (N : Nat) (g : Nat → Nat → Int) : Prop := (∀ k, ((g 11 k = g 40 k ∧ g 12 k = g 41 k) ∨ (g 12 k ≤ 0 ∧ g 41 k ≤ 0)) ∧ lR (g 12 k) ∧ lR (g 11 k) ∧ lR (g 41 k) ∧ 0 ≤ g 40 k ∧ g 40 k ≤ 1000) ∧ g 0 8 = g 31 14 ∧ 0 ≤ g 31 14 ∧ g 31 14 ≤ N
def LVb (f g : Nat → Nat → Int) : Prop := (∀ k, f 42 k = 0 ∨ f 42 k = 1) ∧ (∀ s t : Nat, s ≤ 120 → t ≤ 120 → (w_bit (g 13 (2 * s + t / 64)) (t % 64) = true ↔ f 42 (121 * s + t) = 1)) ∧ ∀ t, t ≤ 120 → f 42 t = 0
def LVp (f : Nat → Nat → Int) : Prop := (f 0 7 = 0 ∧ f 31 17 = -1) ∨ (f 0 7 = 1 ∧ (0 ≤ f 31 17 ∧ f 31 17 ≤ 2) ∧ (f 14 8 = f 31 15 ∧ f 14 9 = f 31 16 ∧ f 14 10 = f 31 17 ∧ f 14 11 = f 31 18 ∧ f 7 0 = f 31 15) ∧ (1 ≤ f 31 15 ∧ f 31 15 ≤ f 31 1) ∧ (1 ≤ f 31 16 ∧ f 31 16 ≤ f 31 1) ∧ 0 ≤ f 31 18 ∧ f 31 18 ≤ toZ f)
def LVw (w : Nat) (f g : Nat → Nat → Int) : Prop := (f w 3 = 0 ∨ f w 3 = 1) ∧ (f w 3 = 1 → (0 ≤ g 31 25 ∧ g 31 25 ≤ 1000000000000000) ∧ g w 2 = g 31 25 ∧ f 0 7 = 1) ∧ (f w 3 = 0 → g 31 25 = -1 ∧ f 31 23 = 0) ∧ (f w 1 = f 31 23 ∧ 0 ≤ f 31 23 ∧ f 31 23 ≤ 2400) ∧
  (∀ i : Nat, (i : Int) < f 31 23 → aZ (f (w + 1) i) = f 47 i ∧ (f (w + 1) i < 0 ↔ f 48 i = 1)) ∧ (∀ k, k < 2600 → f 48 k = 0 ∨ f 48 k = 1) ∧ chO f (f 47) (f 31 23).toNat ∧ ∀ k, (-120 ≤ f 28 k ∧ f 28 k ≤ 120) ∧ -120 ≤ f 30 k ∧ f 30 k ≤ 120
def LVx (f : Nat → Nat → Int) : Prop := (f 24 1 = f 31 32 ∧ 0 ≤ f 31 32 ∧ f 31 32 ≤ 3) ∧ (∀ i : Nat, (i : Int) < f 31 32 → f 25 i + 97 = f 51 i) ∧ (∀ k, iR (f 25 k) ∧ iR (f 51 k)) ∧ (f 26 0 = f 31 34 ∧ f 26 1 = f 31 35 ∧ iR (f 31 34) ∧ iR (f 31 35) ∧ (f 31 35 = 0 → f 31 34 = 0)) ∧ f 0 9 = f 31 30 ∧ iR (f 31 30)
def LV (N w : Nat) (f g : Nat → Nat → Int) : Prop := LVn f g ∧ LVs f g ∧ LVt N g ∧ LVb f g ∧ LVp f ∧ LVw w f g ∧ LVx f
section LVC
variable {f g F G : Nat → Nat → Int} {N N' w : Nat}
theorem LVn_cg (h : LVn f g) (a : F 1 3 = f 1 3 ∧ F 31 1 = f 31 1) (b : G 2 = g 2 ∧ G 3 = g 3 ∧ G 4 = g 4 ∧ G 32 = g 32 ∧ G 33 = g 33 ∧ G 34 = g 34) : LVn F G := by
  unfold LVn XOk at h ⊢
  rw [a.1, a.2, b.1, b.2.1, b.2.2.1, b.2.2.2.1, b.2.2.2.2.1, b.2.2.2.2.2]
  exact h
theorem LVs_cg (h : LVs f g) (a : F 5 8 = f 5 8 ∧ F 31 5 = f 31 5 ∧ f 31 1 ≤ F 31 1 ∧ F 6 = f 6 ∧ (∀ k, 1 ≤ k → F 7 k = f 7 k) ∧ (0 ≤ F 7 0 ∧ F 7 0 ≤ 60) ∧ F 35 = f 35 ∧ F 36 = f 36 ∧ F 39 = f 39 ∧ F 10 = f 10) (b : G 8 = g 8 ∧ G 9 = g 9 ∧ G 37 = g 37 ∧ G 38 = g 38 ∧ ∀ k : Nat, f 31 5 < (k : Int) → G 12 k = g 12 k) : LVs F G := by
  obtain ⟨a1, a2, a3, a4, a5, a6, a7, a8, a9, a10⟩ := a
  obtain ⟨b1, b2, b3, b4, b5⟩ := b
  unfold LVs at h ⊢
  rw [a1, a2, a4, a7, a8, a9, a10, b1, b2, b3, b4]
  obtain ⟨h1, h2, h3, h4, h5, h6, h7⟩ := h
  refine ⟨h1, fun k hk => by rw [a5 k hk]; exact h2 k hk, fun k => ⟨(h3 k).1, (h3 k).2.1, fun q => by rw [b5 k q]; exact (h3 k).2.2 q⟩, h4, fun k k1 k2 => ?_, h6, a6⟩
  obtain ⟨q1, q2, q3, q4⟩ := h5 k k1 k2
  exact ⟨⟨q1.1, by omega⟩, ⟨q2.1, by omega⟩, q3, q4⟩
theorem LVt_cg (h : LVt N g) (hN : N ≤ N') (b : G 11 = g 11 ∧ G 12 = g 12 ∧ G 40 = g 40 ∧ G 41 = g 41 ∧ G 0 8 = g 0 8 ∧ G 31 14 = g 31 14) : LVt N' G := by
  obtain ⟨b1, b2, b3, b4, b5, b6⟩ := b
  unfold LVt at h ⊢
  rw [b1, b2, b3, b4, b5, b6]
  obtain ⟨h1, h2, h3, h4⟩ := h
  exact ⟨h1, h2, h3, by omega⟩
theorem LVb_cg (h : LVb f g) (a : F 42 = f 42) (b : G 13 = g 13) : LVb F G := by
  unfold LVb at h ⊢
  rw [a, b]
  exact h
theorem LVp_cg (h : LVp f) (a : F 0 7 = f 0 7 ∧ F 31 15 = f 31 15 ∧ F 31 16 = f 31 16 ∧ F 31 17 = f 31 17 ∧ F 31 18 = f 31 18 ∧ f 31 1 ≤ F 31 1 ∧ F 14 = f 14 ∧ F 7 0 = f 7 0) : LVp F := by
  obtain ⟨a1, a2, a3, a4, a5, a6, a7, a8⟩ := a
  unfold LVp toZ at h ⊢
  rw [a1, a2, a3, a4, a5, a7, a8]
  rcases h with h | ⟨h1, h2, h3, h4, h5, h6⟩
  · exact Or.inl h
  · exact Or.inr ⟨h1, h2, h3, ⟨h4.1, by omega⟩, ⟨h5.1, by omega⟩, h6⟩
theorem chO_cg {r : Nat → Int} {n : Nat} (h : chO f r n) (a : f 31 5 ≤ F 31 5 ∧ F 31 15 = f 31 15 ∧ ∀ k : Nat, 1 ≤ k → (k : Int) ≤ f 31 5 → F 35 k = f 35 k ∧ F 36 k = f 36 k) : chO F r n := by
  intro i hi
  obtain ⟨h1, h2, h3⟩ := h i hi
  refine ⟨h1, by omega, ?_⟩
  rw [(a.2.2 (r i).toNat (by omega) (by omega)).1, h3]
  unfold plZ
  cases i with
  | zero => show (if (0 : Nat) = 0 then f 31 15 else _) = (if (0 : Nat) = 0 then F 31 15 else _); rw [if_pos rfl, if_pos rfl, a.2.1]
  | succ j =>
    obtain ⟨q1, q2, -⟩ := h j (by omega)
    have e : sP r (j + 1) = (r j).toNat := rfl
    rw [e, if_neg (by omega), if_neg (by omega), (a.2.2 (r j).toNat (by omega) (by omega)).2]
theorem LVw_cg (h : LVw w f g) (a : F w = f w ∧ F (w + 1) = f (w + 1) ∧ F 28 = f 28 ∧ F 30 = f 30 ∧ F 0 7 = f 0 7 ∧ F 31 23 = f 31 23 ∧ F 47 = f 47 ∧ F 48 = f 48) (c : f 31 5 ≤ F 31 5 ∧ F 31 15 = f 31 15 ∧ ∀ k : Nat, 1 ≤ k → (k : Int) ≤ f 31 5 → F 35 k = f 35 k ∧ F 36 k = f 36 k) (b : G w = g w ∧ G 31 25 = g 31 25) : LVw w F G := by
  obtain ⟨a1, a2, a3, a4, a5, a6, a7, a8⟩ := a
  unfold LVw at h ⊢
  rw [a1, a2, a3, a4, a5, a6, a7, a8, b.1, b.2]
  obtain ⟨h1, h2, h3, h4, h5, h6, h7, h8⟩ := h
  exact ⟨h1, h2, h3, h4, h5, h6, chO_cg h7 c, h8⟩
theorem LVx_cg (h : LVx f) (a : F 24 = f 24 ∧ F 25 = f 25 ∧ F 26 = f 26 ∧ F 51 = f 51 ∧ F 31 30 = f 31 30 ∧ F 31 32 = f 31 32 ∧ F 31 34 = f 31 34 ∧ F 31 35 = f 31 35 ∧ F 0 9 = f 0 9) : LVx F := by
  obtain ⟨a1, a2, a3, a4, a5, a6, a7, a8, a9⟩ := a
  unfold LVx at h ⊢
  rw [a1, a2, a3, a4, a5, a6, a7, a8, a9]
  exact h
/-- the reference's code alone changes -/
theorem LV_code (h : LV N w f g) (hw : w ≠ 31 ∧ w ≠ 30) (hN : N ≤ N') (a : ∀ a, a ≠ 31 → F a = f a) (b : ∀ j, j ≠ 0 → F 31 j = f 31 j) : LV N' w F g := by
  obtain ⟨h1, h2, h3, h4, h5, h6, h7⟩ := h
  refine ⟨LVn_cg h1 ⟨by rw [a 1 (by decide)], b 1 (by decide)⟩ ⟨rfl, rfl, rfl, rfl, rfl, rfl⟩, LVs_cg h2 ⟨by rw [a 5 (by decide)], b 5 (by decide), by rw [b 1 (by decide)]; exact Int.le_refl _, a 6 (by decide), fun k _ => by rw [a 7 (by decide)], by rw [a 7 (by decide)]; exact h2.2.2.2.2.2.2, a 35 (by decide), a 36 (by decide), a 39 (by decide), a 10 (by decide)⟩ ⟨rfl, rfl, rfl, rfl, fun _ _ => rfl⟩, LVt_cg h3 hN ⟨rfl, rfl, rfl, rfl, rfl, rfl⟩, LVb_cg h4 (a 42 (by decide)) rfl, LVp_cg h5 ⟨by rw [a 0 (by decide)], b 15 (by decide), b 16 (by decide), b 17 (by decide), b 18 (by decide), by rw [b 1 (by decide)]; exact Int.le_refl _, a 14 (by decide), by rw [a 7 (by decide)]⟩, LVw_cg h6 ⟨a w hw.1, a (w + 1) (by omega), a 28 (by decide), a 30 (by decide), by rw [a 0 (by decide)], b 23 (by decide), a 47 (by decide), a 48 (by decide)⟩ ⟨by rw [b 5 (by decide)]; exact Int.le_refl _, b 15 (by decide), fun k _ _ => ⟨by rw [a 35 (by decide)], by rw [a 36 (by decide)]⟩⟩ ⟨rfl, rfl⟩, LVx_cg h7 ⟨a 24 (by decide), a 25 (by decide), a 26 (by decide), a 51 (by decide), b 30 (by decide), b 32 (by decide), b 34 (by decide), b 35 (by decide), by rw [a 0 (by decide)]⟩⟩
end LVC
theorem wy_ne (sw : Bool) : wyN sw ≠ 31 ∧ wyN sw ≠ 30 := by cases sw <;> decide
def LVq (N : Nat) (sw : Bool) (f g : Nat → Nat → Int) : Prop := LV N (wyN sw) f g
theorem LV_c0 {N N' : Nat} {sw : Bool} {f g : Nat → Nat → Int} {c : Int} (h : LVq N sw f g) (hN : N ≤ N') : LVq N' sw (am_up f 31 0 c) g := LV_code h (wy_ne sw) hN (fun a ha => am_up_ne ha) (fun j hj => by rw [am_up_eq]; dsimp only; rw [if_neg hj])
/-- behind the class's call: its answer, and how the reference's call goes on from there -/
def Mid (L N d m : Nat) (as : List Value) (v : Option Value) (h : am_H) : Prop := ∃ (x : Int) (F G : Nat → Nat → Int) (sw : Bool), iR x ∧ v = some (.int (iZ x)) ∧ h = (53, sh_lt L, iH F, jH G, sh_rt sw) ∧ am_call d m as (53, sh_lt L, iH F, jH G, sh_rt sw) (fun v' h' => v' = some (.int (iZ x)) ∧ ∃ F' G', h' = (53, sh_lt L, iH F', jH G', sh_rt sw) ∧ LVq N sw F' G')
def MidL (L N d m : Nat) (as : List Value) (v : Option Value) (h : am_H) : Prop := ∃ (x : Int) (F G : Nat → Nat → Int) (sw : Bool), lR x ∧ v = some (.long (lZ x)) ∧ h = (53, sh_lt L, iH F, jH G, sh_rt sw) ∧ am_call d m as (53, sh_lt L, iH F, jH G, sh_rt sw) (fun v' h' => v' = some (.long (lZ x)) ∧ ∃ F' G', h' = (53, sh_lt L, iH F', jH G', sh_rt sw) ∧ LVq N sw F' G')
