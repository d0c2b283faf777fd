/-! ONE MAP FOR BOTH: the ghost -/
/-- the reference's cells alone -/
def can (f : Nat → Nat → Int) (a j : Nat) : Int := if 31 ≤ a ∧ a ≤ 51 then f a j else 0
def AG (F f : Nat → Nat → Int) : Prop := ∀ a, 31 ≤ a → a ≤ 51 → F a = f a
theorem AG_up {F f : Nat → Nat → Int} {c j : Nat} {x : Int} (h : AG F f) : AG (am_up F c j x) (am_up f c j x) := fun a h1 h2 => by
  by_cases z : a = c
  · subst z
    rw [am_up_eq, am_up_eq, h a h1 h2]
  · rw [am_up_ne z, am_up_ne z]; exact h a h1 h2
theorem AG_ne {F f : Nat → Nat → Int} {c j : Nat} {x : Int} (hc : c < 31) (h : AG F f) : AG (am_up F c j x) f := fun a h1 h2 => by
  rw [am_up_ne (by omega)]; exact h a h1 h2
theorem AG_can {F f : Nat → Nat → Int} (h : AG F f) : can F = can f := by
  funext a j
  unfold can
  by_cases z : 31 ≤ a ∧ a ≤ 51
  · rw [if_pos z, if_pos z, h a z.1 z.2]
  · rw [if_neg z, if_neg z]
theorem can_E (f g : Nat → Nat → Int) : mE (can f) (can g) = mE f g := rfl
theorem can_T (f : Nat → Nat → Int) : mT (can f) = mT f := rfl
theorem can_O (f g : Nat → Nat → Int) (a : Nat) : okZ (can f) (can g) a = okZ f g a := rfl
theorem can_F (f g : Nat → Nat → Int) (x : Int) : frZ (can f) (can (am_up g 31 14 x)) = frZ f g := rfl
theorem can_RS (f g : Nat → Nat → Int) (D : Nat → Option Nat) (D0 s : Nat) (h : Nat → Int) (t : Nat) (h' : Nat → Int) : RwS (can f) (can g) D D0 s h t h' = RwS f g D D0 s h t h' := rfl
theorem can_R {f g : Nat → Nat → Int} {D : Nat → Option Nat} {D0 : Nat} {r : Nat → Int} : ∀ (n s : Nat) (h : Nat → Int), Rw (can f) (can g) D D0 r n s h ↔ Rw f g D D0 r n s h
  | 0, _, _ => Iff.rfl
  | n + 1, s, h => by
    constructor
    · rintro ⟨s1, h1, q1, q2, q3⟩
      exact ⟨s1, h1, (can_R n s1 h1).mp q1, q2, q3⟩
    · rintro ⟨s1, h1, q1, q2, q3⟩
      exact ⟨s1, h1, (can_R n s1 h1).mpr q1, q2, q3⟩
theorem can_HW {f g : Nat → Nat → Int} {w : Nat → Int} : ∀ n, HW (can f) (can g) w n = HW f g w n
  | 0 => rfl
  | n + 1 => by
    show drZ (neZ f (w n).toNat).toNat (wZ f g (w n).toNat) (chZ (uZ f g (plZ f (sP w n)).toNat) (HW (can f) (can g) w n)) = _
    rw [can_HW n]
    rfl
theorem can_TN {f g : Nat → Nat → Int} {w : Nat → Int} {n : Nat} {v : Int} : TN (can f) (can g) w n v ↔ TN f g w n v := by
  unfold TN
  rw [can_HW]
  exact Iff.rfl
/-- a row is a chain -/
theorem Rw_chO {f0 g0 : Nat → Nat → Int} {D : Nat → Option Nat} {D0 n s : Nat} {h r : Nat → Int} (hR : Rw f0 g0 D D0 r n s h) : chO f0 r n := by
  intro i hi
  obtain ⟨h1, h2, h3⟩ := (Rw_ch n s h hR).2 i hi
  refine ⟨h1, h2, ?_⟩
  rw [h3]
  cases i with
  | zero => rfl
  | succ j => rw [if_neg (by omega)]; rfl
/-- what both sides need, from the invariant -/
theorem LV_gh {N : Nat} {sw : Bool} {f g f5 f2 : Nat → Nat → Int} (h : LVq N sw f g) (hN : N ≤ 4096) (a35 : f5 35 = f 35 ∧ f5 36 = f 36 ∧ f5 39 = f 39 ∧ f5 42 = f 42 ∧ f5 31 1 = f 31 1 ∧ f5 31 5 = f 31 5)
    (ap : (1 ≤ f5 31 15 ∧ f5 31 15 ≤ f 31 1) ∧ (1 ≤ f5 31 16 ∧ f5 31 16 ≤ f 31 1) ∧ (0 ≤ f5 31 17 ∧ f5 31 17 ≤ 2) ∧ 0 ≤ f5 31 18 ∧ f5 31 18 ≤ toZ f5)
    (b : f2 1 3 = f 1 3 ∧ f2 5 8 = f 5 8 ∧ f2 6 = f 6 ∧ f2 10 = f 10 ∧ (∀ k, 1 ≤ k → f2 7 k = f 7 k) ∧ f2 7 0 = f5 31 15 ∧ f2 14 8 = f5 31 15 ∧ f2 14 9 = f5 31 16 ∧ f2 14 10 = f5 31 17 ∧ f2 14 11 = f5 31 18) :
    MOk (can f5) (can (am_up g 31 14 (g 31 14 + 1))) ∧ UOk (can f5) ∧ XOk (can (am_up g 31 14 (g 31 14 + 1))) ∧ CW (can f5) (can (am_up g 31 14 (g 31 14 + 1))) f2 g ∧ CL (can f5) (can (am_up g 31 14 (g 31 14 + 1))) f2 g ∧ (can (am_up g 31 14 (g 31 14 + 1))) 31 14 = g 0 8 + 1 ∧ (can f5) 31 18 ≤ toZ (can f5) := by
  obtain ⟨⟨n1, n2, n3, n4⟩, ⟨s1, s2, s3, s4, s5, s6, s7⟩, ⟨t1, t2, t3, t4⟩, ⟨b1, b2, b3⟩, -, -, -⟩ := h
  obtain ⟨a1, a2, a3, a4, a5, a6⟩ := a35
  obtain ⟨p1, p2, p3, p4, p5⟩ := ap
  obtain ⟨c1, c2, c3, c4, c5, c6, c7, c8, c9, c10⟩ := b
  have h20 := toZ_in f5
  have k35 : ∀ k, (can f5) 35 k = f 35 k := fun k => by show f5 35 k = _; rw [a1]
  have k36 : ∀ k, (can f5) 36 k = f 36 k := fun k => by show f5 36 k = _; rw [a2]
  have k39 : ∀ k, (can f5) 39 k = f 39 k := fun k => by show f5 39 k = _; rw [a3]
  have k42 : ∀ k, (can f5) 42 k = f 42 k := fun k => by show f5 42 k = _; rw [a4]
  have k1 : (can f5) 31 1 = f 31 1 := a5
  have k5 : (can f5) 31 5 = f 31 5 := a6
  refine ⟨⟨⟨by rw [k1]; exact n1.2, by rw [k5]; exact s1.2, by show 0 ≤ f5 31 15 ∧ f5 31 15 ≤ 60; omega, by show 0 ≤ f5 31 16 ∧ f5 31 16 ≤ 60; omega, p3, by show 0 ≤ f5 31 18 ∧ f5 31 18 ≤ 20; omega⟩, ⟨fun k => by rw [k35]; exact (s4 k).1, fun k => by rw [k36]; exact (s4 k).2.1, fun k => by rw [k39]; exact (s4 k).2.2.1, fun k => by rw [k42]; exact b1 k⟩, n4, fun k => (s4 k).2.2.2.2.1, fun k => (s4 k).2.2.2.2.2, fun k => (t1 k).2.2.2.2, fun k => (t1 k).2.2.2.1, by show lR (g 31 14 + 1); omega⟩, fun q q1 q2 => by rw [k39]; rw [k5] at q2; exact (s5 q q1 q2).2.2.2, n3, ⟨⟨by rw [k5, c2]; exact s1.1, by rw [k1, c1]; exact n1.1, c7, c8, c9, c10⟩, fun t t1 t2 => by rw [k35, c3]; exact (s2 t t1).1, fun s hs => ?_, fun s t hs ht ht2 => ?_, fun n => n2 n⟩, ⟨by show 1 ≤ g 31 14 + 1; omega, fun t t1' t2' => ?_⟩, by show g 31 14 + 1 = g 0 8 + 1; rw [t2], p5⟩
  · rw [k5] at hs
    by_cases z : s = 0
    · subst z
      exact ⟨c6, p1.1, by rw [k1]; exact p1.2⟩
    · have e : plZ (can f5) s = f 36 s := by unfold plZ; rw [if_neg z, k36]
      rw [e, c5 s (by omega), k1]
      have := s5 s (by omega) hs
      exact ⟨(s2 s (by omega)).2, this.2.1.1, this.2.1.2⟩
  · rw [k5] at hs ht2
    rw [k42]
    have q := b2 s t (by omega) (by omega)
    rw [q]
    constructor
    · rintro z (y | y)
      · subst y
        have := b3 t (by omega)
        rw [Nat.mul_zero, Nat.zero_add] at z
        omega
      · omega
    · intro z
      exact (b1 _).resolve_left (fun y => z (Or.inr y))
  · rw [k5] at t2'
    rw [k39, c4]
    obtain ⟨q1, q2, q3⟩ := s3 t
    obtain ⟨r1, r2, r3, r4, r5, r6⟩ := t1 t
    refine ⟨q1, q2, r1, ⟨r2, r3⟩, (s4 t).2.2.2.1, ?_⟩
    rw [q1]
    exact (s5 t t1' t2').2.2.1
