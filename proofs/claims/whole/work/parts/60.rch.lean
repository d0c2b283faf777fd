/-! THE CLASS'S REACH: the most energy at the end of each street, pure -/
/-- what is had at the end of street t with e left -/
def tpZ (f g : Nat → Nat → Int) (t : Nat) (e : Int) : Int := if 0 < g 34 (plZ f t).toNat then 20 else e
def SR (f0 g0 : Nat → Nat → Int) (a0 : Nat) (r : Nat → Int) : Prop :=
  (a0 : Int) ≤ r 0 ∧ ∀ s : Nat, (s : Int) ≤ f0 31 5 → -1 ≤ r s ∧ r s ≤ 20 ∧ (1 ≤ s → ¬ 0 < g0 34 (plZ f0 s).toNat → r s ≤ 19) ∧ (0 ≤ r s → RS f0 g0 a0 (21 * s + (r s).toNat) ∧ (0 < g0 34 (plZ f0 s).toNat → r s = 20))
/-- what a street can still gain -/
def psA (f g : Nat → Nat → Int) (t : Nat) (x : Int) : Nat := if 0 < g 34 (plZ f t).toNat then (if x < 0 then 1 else 0) else (19 - x).toNat
def psS (f g : Nat → Nat → Int) (r : Nat → Int) : Nat → Nat
  | 0 => 0
  | k + 1 => psS f g r k + psA f g (k + 1) (r (k + 1))
/-- it holds behind the street s on t, in a round that began with rs -/
def SI (f0 g0 : Nat → Nat → Int) (a0 : Nat) (rs : Nat → Int) (Dn : Nat → Nat → Prop) (more : Int) (r : Nat → Int) : Prop :=
  SR f0 g0 a0 r ∧ ((more = 0 ∧ r = rs ∧ ∀ s t : Nat, (s : Int) ≤ f0 31 5 → 1 ≤ t → (t : Int) ≤ f0 31 5 → Dn s t → 0 ≤ r s → mfZ f0 g0 s t → neZ f0 t ≤ r s → tpZ f0 g0 t (r s - neZ f0 t) ≤ r t) ∨ (more = 1 ∧ psS f0 g0 r (f0 31 5).toNat < psS f0 g0 rs (f0 31 5).toNat))
section RCH
variable {f0 g0 : Nat → Nat → Int} {a0 : Nat} {r rs : Nat → Int} {Dn Dn' : Nat → Nat → Prop} {more : Int}
theorem psS_same {r' : Nat → Int} {t : Nat} (h : ∀ x, x ≠ t → r' x = r x) : ∀ k, k < t → psS f0 g0 r' k = psS f0 g0 r k
  | 0, _ => rfl
  | k + 1, hk => by simp only [psS]; rw [psS_same h k (by omega), h (k + 1) (by omega)]
theorem psS_lt {r' : Nat → Int} {t : Nat} (h : ∀ x, x ≠ t → r' x = r x) (h1 : 1 ≤ t) (h2 : psA f0 g0 t (r' t) < psA f0 g0 t (r t)) : ∀ k, t ≤ k → psS f0 g0 r' k < psS f0 g0 r k
  | 0, hk => by omega
  | k + 1, hk => by
    simp only [psS]
    by_cases e : t = k + 1
    · subst e
      rw [psS_same h k (by omega)]
      omega
    · have := psS_lt h h1 h2 k (by omega)
      rw [h (k + 1) (fun q => e q.symm)]
      omega
theorem psS_le (hr : ∀ t : Nat, 1 ≤ t → t ≤ (f0 31 5).toNat → -1 ≤ r t) : ∀ k, k ≤ (f0 31 5).toNat → psS f0 g0 r k ≤ 20 * k
  | 0, _ => Nat.le_refl _
  | k + 1, hk => by
    have := psS_le hr k (by omega)
    have := hr (k + 1) (by omega) hk
    simp only [psS, psA]
    split
    · split <;> omega
    · omega
theorem SI_more (h : SI f0 g0 a0 rs Dn more r) : more = 0 ∨ more = 1 := h.2.imp (fun q => q.1) (fun q => q.1)
theorem SI_skip (h : SI f0 g0 a0 rs Dn more r) (hD : ∀ s t : Nat, (s : Int) ≤ f0 31 5 → 1 ≤ t → (t : Int) ≤ f0 31 5 → Dn' s t → 0 ≤ r s → mfZ f0 g0 s t → neZ f0 t ≤ r s → Dn s t ∨ tpZ f0 g0 t (r s - neZ f0 t) ≤ r t) : SI f0 g0 a0 rs Dn' more r := by
  obtain ⟨h1, h2⟩ := h
  refine ⟨h1, h2.imp (fun ⟨q1, q2, q3⟩ => ⟨q1, q2, fun s t z1 z2 z3 z4 z5 z6 z7 => ?_⟩) id⟩
  rcases hD s t z1 z2 z3 z4 z5 z6 z7 with y | y
  · exact q3 s t z1 z2 z3 y z5 z6 z7
  · exact y
theorem RS_up (hM : MOk f0 g0) (hK : toZ f0 = 20) {s : Nat} (hs : (s : Int) ≤ f0 31 5) (hc : 0 < g0 34 (plZ f0 s).toNat) : ∀ k e : Nat, e + k = 20 → RS f0 g0 a0 (21 * s + e) → RS f0 g0 a0 (21 * s + 20)
  | 0, e, he, h => by rw [← he]; exact h
  | k + 1, e, he, h => by
    refine RS_up hM hK hs hc k (e + 1) (by omega) (RS_s (q := 0) (w := 4096 * (unZ f0 g0 (plZ f0 s).toNat).toNat) ⟨s, e, rfl, hs, by omega, Or.inl ⟨rfl, by omega, ?_, by omega, rfl⟩⟩ h)
    have hk2 : f0 31 17 = 2 := by
      unfold toZ at hK
      by_cases z : f0 31 17 = 2
      · exact z
      · rw [if_neg z] at hK; omega
    unfold unZ
    rw [if_neg (by rintro (z | z); exact z hk2; omega)]
    split
    · omega
    · exact Int.ediv_nonneg (by omega) (by omega)
theorem SR_set (hM : MOk f0 g0) (hU : UOk f0) (hK : toZ f0 = 20) (h : SR f0 g0 a0 r) {s t : Nat} (hs : (s : Int) ≤ f0 31 5) (ht : 1 ≤ t) (ht2 : (t : Int) ≤ f0 31 5) (h0 : 0 ≤ r s) (hm : mfZ f0 g0 s t) (hn : neZ f0 t ≤ r s) : SR f0 g0 a0 (fun x => if x = t then tpZ f0 g0 t (r s - neZ f0 t) else r x) := by
  obtain ⟨h1, h2⟩ := h
  have hne := neZ_in hM t
  have hs2 := h2 s hs
  have hk2 : f0 31 17 = 2 := by
    unfold toZ at hK
    by_cases z : f0 31 17 = 2
    · exact z
    · rw [if_neg z] at hK; omega
  have hne1 : 1 ≤ neZ f0 t := by
    have := hU t ht ht2
    unfold neZ
    rw [if_pos hk2]
    exact this
  have hR : RS f0 g0 a0 (21 * t + (r s - neZ f0 t).toNat) := by
    refine RS_s (q := t) (w := 4096 * (prZ f0 g0 t).toNat + 1) ⟨s, (r s).toNat, rfl, hs, by omega, Or.inr ⟨ht, ht2, goZ_mf.mpr ⟨hm, by omega⟩, by omega, rfl⟩⟩ (hs2.2.2.2 h0).1
  refine ⟨?_, fun u hu => ?_⟩
  · dsimp only; rw [if_neg (by omega)]; exact h1
  · dsimp only
    by_cases z : u = t
    · subst z
      rw [if_pos rfl]
      unfold tpZ
      by_cases c : 0 < g0 34 (plZ f0 u).toNat
      · rw [if_pos c]
        exact ⟨by omega, by omega, fun _ q => absurd c q, fun _ => ⟨RS_up hM hK hu c (20 - (r s - neZ f0 u).toNat) _ (by omega) hR, fun _ => rfl⟩⟩
      · rw [if_neg c]
        exact ⟨by omega, by omega, fun _ _ => by omega, fun _ => ⟨hR, fun q => absurd q c⟩⟩
    · rw [if_neg z]
      exact h2 u hu
theorem SI_set (hM : MOk f0 g0) (hU : UOk f0) (hK : toZ f0 = 20) (h : SI f0 g0 a0 rs Dn more r) {s t : Nat} (hs : (s : Int) ≤ f0 31 5) (ht : 1 ≤ t) (ht2 : (t : Int) ≤ f0 31 5) (h0 : 0 ≤ r s) (hm : mfZ f0 g0 s t) (hn : neZ f0 t ≤ r s) (hl : r t < tpZ f0 g0 t (r s - neZ f0 t)) : SI f0 g0 a0 rs Dn' 1 (fun x => if x = t then tpZ f0 g0 t (r s - neZ f0 t) else r x) := by
  have hS := SR_set hM hU hK h.1 hs ht ht2 h0 hm hn
  refine ⟨hS, Or.inr ⟨rfl, ?_⟩⟩
  have ho := h.1.2 t ht2
  have hn2 := hS.2 t ht2
  dsimp only at hn2
  rw [if_pos rfl] at hn2
  have hlt := psS_lt (f0 := f0) (g0 := g0) (r := r) (r' := fun x => if x = t then tpZ f0 g0 t (r s - neZ f0 t) else r x) (t := t) (fun x hx => if_neg hx) ht (by
    rw [if_pos rfl]
    unfold psA
    by_cases c : 0 < g0 34 (plZ f0 t).toNat
    · rw [if_pos c, if_pos c]
      unfold tpZ at hl ⊢
      rw [if_pos c] at hl ⊢
      have : r t < 0 := by
        apply Classical.byContradiction
        intro z
        have := (ho.2.2.2 (by omega)).2 c
        omega
      rw [if_pos this]
      decide
    · rw [if_neg c, if_neg c]
      have := hn2.2.2.1 ht c
      omega) (f0 31 5).toNat (by omega)
  rcases h.2 with ⟨_, q2, _⟩ | ⟨_, q2⟩
  · rw [← q2]; exact hlt
  · omega
/-- at the end: what is in reach is what is had -/
theorem SI_fin (hM : MOk f0 g0) (hK : toZ f0 = 20) (hS : SR f0 g0 a0 r) (ha : a0 ≤ 20) (h : ∀ s t : Nat, (s : Int) ≤ f0 31 5 → 1 ≤ t → (t : Int) ≤ f0 31 5 → 0 ≤ r s → mfZ f0 g0 s t → neZ f0 t ≤ r s → tpZ f0 g0 t (r s - neZ f0 t) ≤ r t) (n : Nat) : (∃ s : Nat, (s : Int) ≤ f0 31 5 ∧ 0 ≤ r s ∧ plZ f0 s = n) ↔ ∃ v, RS f0 g0 a0 v ∧ plZ f0 (v / 21) = n := by
  constructor
  · rintro ⟨s, h1, h2, h3⟩
    have h4 := hS.2 s h1
    exact ⟨21 * s + (r s).toNat, (h4.2.2.2 h2).1, by rw [show (21 * s + (r s).toNat) / 21 = s by omega]; exact h3⟩
  · rintro ⟨v, h1, h2⟩
    have key : (((v / 21 : Nat)) : Int) ≤ f0 31 5 ∧ ((v % 21 : Nat) : Int) ≤ r (v / 21) := by
      refine h1 (fun v => (((v / 21 : Nat)) : Int) ≤ f0 31 5 ∧ ((v % 21 : Nat) : Int) ≤ r (v / 21)) ?_ ?_
      · have := hM.1.2.1
        refine ⟨by omega, ?_⟩
        rw [show a0 / 21 = 0 by omega, show a0 % 21 = a0 by omega]
        exact hS.1
      · intro q v u w hE hX
        obtain ⟨s, e, q1, q2, q3, q4⟩ := hE
        have es : v / 21 = s := by omega
        have ee : v % 21 = e := by omega
        rw [es, ee] at hX
        have hs := hS.2 s q2
        rcases q4 with ⟨-, z1, z2, z3, z4⟩ | ⟨z1, z2, z3, z4, z5⟩
        · have c : 0 < g0 34 (plZ f0 s).toNat := by
            have hg := hM.2.2.1 (plZ f0 s).toNat
            unfold unZ at z2
            by_cases y : ¬ f0 31 17 = 2 ∨ g0 34 (plZ f0 s).toNat = 0
            · rw [if_pos y] at z2; omega
            · have : ¬ g0 34 (plZ f0 s).toNat = 0 := fun y2 => y (Or.inr y2)
              omega
          have := (hs.2.2.2 (by omega)).2 c
          show ((u / 21 : Nat) : Int) ≤ _ ∧ ((u % 21 : Nat) : Int) ≤ r (u / 21)
          rw [show u / 21 = s by omega, show u % 21 = e + 1 by omega]
          exact ⟨q2, by omega⟩
        · have hg := goZ_mf.mp z3
          have hn := neZ_in hM q
          have hh := h s q q2 z1 z2 (by omega) hg.1 (by omega)
          show ((u / 21 : Nat) : Int) ≤ _ ∧ ((u % 21 : Nat) : Int) ≤ r (u / 21)
          rw [show u / 21 = q by omega, show u % 21 = e - (neZ f0 q).toNat by omega]
          refine ⟨z2, Int.le_trans ?_ hh⟩
          unfold tpZ
          split <;> omega
    exact ⟨v / 21, key.1, by omega, h2⟩
end RCH
