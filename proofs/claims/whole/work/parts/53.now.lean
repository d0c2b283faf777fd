/-! WHAT A WAY COSTS NOW: pure, and of the reference -/
def sP (w : Nat → Int) : Nat → Nat
  | 0 => 0
  | i + 1 => (w i).toNat
def HW (f g : Nat → Nat → Int) (w : Nat → Int) : Nat → Nat → Int
  | 0 => sZ f
  | i + 1 => drZ (neZ f (w i).toNat).toNat (wZ f g (w i).toNat) (chZ (uZ f g (plZ f (sP w i)).toNat) (HW f g w i))
def lsZ (h : Nat → Int) : Nat → Int
  | 0 => 2305843009213693951
  | k + 1 => if h k < lsZ h k then h k else lsZ h k
def tnO (f g : Nat → Nat → Int) (w : Nat → Int) (n : Nat) : Prop := ∀ i, i < n → mfZ f g (sP w i) (w i).toNat
/-- what a way of n streets costs now; -1 if it is none any more -/
def TN (f g : Nat → Nat → Int) (w : Nat → Int) (n : Nat) (v : Int) : Prop := (tnO f g w n → v = if 2305843009213693951 ≤ lsZ (HW f g w n) 21 then -1 else lsZ (HW f g w n) 21 / 4096) ∧ (¬ tnO f g w n → v = -1)
theorem TN_uniq {f g : Nat → Nat → Int} {w : Nat → Int} {n : Nat} {v v' : Int} (a : TN f g w n v) (b : TN f g w n v') : v = v' := by
  by_cases h : tnO f g w n
  · exact (a.1 h).trans (b.1 h).symm
  · exact (a.2 h).trans (b.2 h).symm
/-- the way is a chain of streets -/
def chO (f : Nat → Nat → Int) (w : Nat → Int) (n : Nat) : Prop := ∀ i, i < n → 1 ≤ w i ∧ w i ≤ f 31 5 ∧ f 35 (w i).toNat = plZ f (sP w i)
/-- held and rest: the same but for the scale and the number of streets -/
def rlZ (i : Nat) (x r : Int) : Prop := (x = 2305843009213693951 ∧ r = -1) ∨ (0 ≤ r ∧ x = 4096 * r + i ∧ x < 2305843009213693951)
def RR (i : Nat) (h R : Nat → Int) : Prop := ∀ e, e ≤ 20 → rlZ i (h e) (R e)
/-- bounds of what is held -/
def HB (f : Nat → Nat → Int) (i : Nat) (h : Nat → Int) : Prop := (∀ e, 0 ≤ h e ∧ h e ≤ 2305843009213693951 ∧ (h e < 2305843009213693951 → h e ≤ 500000000000 * i)) ∧ (toZ f = 20 ∨ ∀ e, 1 ≤ e → h e = 2305843009213693951)
def HC (f : Nat → Nat → Int) (i : Nat) (h : Nat → Int) : Prop := (∀ e : Nat, 0 ≤ h e ∧ h e ≤ 2305843009213693951 ∧ (h e < 2305843009213693951 → h e ≤ 500000000000 * i + 4096000 * e)) ∧ (toZ f = 20 ∨ ∀ e, 1 ≤ e → h e = 2305843009213693951)
section HBS
variable {f g : Nat → Nat → Int} {i t : Nat} {h R : Nat → Int}
theorem toZ_or (f : Nat → Nat → Int) : (f 31 17 = 2 ∧ toZ f = 20 ∧ ∀ t, neZ f t = f 39 t) ∨ (f 31 17 ≠ 2 ∧ toZ f = 0 ∧ ∀ t, neZ f t = 0) := by
  unfold toZ neZ
  by_cases z : f 31 17 = 2
  · simp only [if_pos z]; exact Or.inl ⟨z, trivial, fun _ => trivial⟩
  · simp only [if_neg z]; exact Or.inr ⟨z, trivial, fun _ => trivial⟩
theorem HB_st (hM : MOk f g) (h18 : f 31 18 ≤ toZ f) : HB f 0 (sZ f) := by
  have h8 := hM.1.2.2.2.2.2
  refine ⟨fun e => ?_, ?_⟩
  · unfold sZ; split <;> omega
  · rcases toZ_or f with ⟨_, z, _⟩ | ⟨_, z, _⟩
    · exact Or.inl z
    · refine Or.inr (fun e he => ?_)
      unfold sZ
      rw [if_neg (by omega)]
theorem HB_HC (hM : MOk f g) (n : Nat) (hH : HB f i h) : HC f i (chZ (uZ f g n) h) := by
  refine ⟨chZ_low (uZ_in hM _) hH.1, ?_⟩
  rcases toZ_or f with ⟨_, z, _⟩ | ⟨_, z, _⟩
  · exact Or.inl z
  · refine Or.inr (fun e he => ?_)
    by_cases hu : uZ f g n = 0
    · rw [hu, chZ_0]
      rcases hH.2 with y | y
      · omega
      · exact y e he
    · have := (uZ_ne hM hu).2.2
      omega
theorem HC_HB (hM : MOk f g) (hi : i ≤ 4096) (hp : 0 ≤ prZ f g t) (hH : HC f i h) : HB f (i + 1) (drZ (neZ f t).toNat (wZ f g t) h) := by
  have hpr := prZ_in hM t
  have hwZ : wZ f g t = 4096 * prZ f g t + 1 := rfl
  refine ⟨fun e => ?_, ?_⟩
  · have := hH.1 (e + (neZ f t).toNat)
    unfold drZ
    split <;> omega
  · rcases hH.2 with y | y
    · exact Or.inl y
    · refine Or.inr (fun e he => ?_)
      unfold drZ
      rw [if_neg]
      rintro ⟨_, z⟩
      have := y (e + (neZ f t).toNat) (by omega)
      omega
/-- a charging step -/
theorem RR_ch (hM : MOk f g) {n e : Nat} (hi : i ≤ 4096) (hH : HB f i h) (hu : uZ f g n ≠ 0) (he : e < 20) (hR : RR i (chP (uZ f g n) h e) R) :
    ((0 ≤ R e ∧ (R (e + 1) < 0 ∨ R e + unZ f g n < R (e + 1))) → RR i (chP (uZ f g n) h (e + 1)) (fun x => if x = e + 1 then R e + unZ f g n else R x)) ∧
    (¬ (0 ≤ R e ∧ (R (e + 1) < 0 ∨ R e + unZ f g n < R (e + 1))) → RR i (chP (uZ f g n) h (e + 1)) R) := by
  obtain ⟨u1, u2, u3⟩ := uZ_ne hM hu
  have hun := unZ_in hM n
  have r1 := hR e (by omega)
  have r2 := hR (e + 1) (by omega)
  have hc := (HB_HC hM n hH).1 e
  have e1 : chP (uZ f g n) h e e = chZ (uZ f g n) h e := if_pos (Nat.le_refl e)
  have e2 : chP (uZ f g n) h e (e + 1) = h (e + 1) := if_neg (by omega)
  have e3 : chP (uZ f g n) h (e + 1) (e + 1) = if chZ (uZ f g n) h e + uZ f g n < h (e + 1) then chZ (uZ f g n) h e + uZ f g n else h (e + 1) := by
    unfold chP
    rw [if_pos (Nat.le_refl _)]
    simp only [chZ]
    rw [if_neg hu]
  have e4 : ∀ j, j ≠ e + 1 → chP (uZ f g n) h (e + 1) j = chP (uZ f g n) h e j := by
    intro j hj
    unfold chP
    by_cases z : j ≤ e
    · rw [if_pos z, if_pos (by omega)]
    · rw [if_neg z, if_neg (by omega)]
  rw [e1] at r1
  rw [e2] at r2
  unfold rlZ at r1 r2
  refine ⟨fun hcc j hj => ?_, fun hcc j hj => ?_⟩
  · by_cases z : j = e + 1
    · subst z
      rw [e3]
      simp only [if_true]
      unfold rlZ
      split <;> omega
    · simp only [if_neg z]
      rw [e4 j z]; exact hR j hj
  · by_cases z : j = e + 1
    · subst z
      rw [e3]
      unfold rlZ
      split <;> omega
    · rw [e4 j z]; exact hR j hj
/-- a driving step -/
def RD (i cur : Nat) (h h2 R : Nat → Int) : Prop := ∀ e, e ≤ 20 → (e < cur → rlZ (i + 1) (h2 e) (R e)) ∧ (cur ≤ e → rlZ i (h e) (R e))
theorem RD_st (hM : MOk f g) {e : Nat} {x : Int} (hi : i ≤ 4096) (hp : 0 ≤ prZ f g t) (hH : HC f i h) (he : (e : Int) ≤ toZ f) (hR : RD i e h (drZ (neZ f t).toNat (wZ f g t) h) R)
    (hx : (e + neZ f t ≤ toZ f ∧ 0 ≤ R ((e : Int) + neZ f t).toNat ∧ x = R ((e : Int) + neZ f t).toNat + prZ f g t) ∨ (¬ (e + neZ f t ≤ toZ f ∧ 0 ≤ R ((e : Int) + neZ f t).toNat) ∧ x = -1)) : RD i (e + 1) h (drZ (neZ f t).toNat (wZ f g t) h) (fun j => if j = e then x else R j) := by
  have h20 := toZ_in f
  have hne := neZ_in hM t
  have hpr := prZ_in hM t
  have hwZ : wZ f g t = 4096 * prZ f g t + 1 := rfl
  intro j hj
  by_cases z : j = e
  · subst z
    simp only [if_true]
    refine ⟨fun _ => ?_, fun z => by omega⟩
    have ei : ((j : Int) + neZ f t).toNat = j + (neZ f t).toNat := by omega
    rw [ei] at hx
    unfold drZ
    have hB := hH.1 (j + (neZ f t).toNat)
    have hto := toZ_or f
    by_cases y : j + (neZ f t).toNat ≤ 20
    · have r := (hR (j + (neZ f t).toNat) y).2 (by omega)
      unfold rlZ at r ⊢
      rcases hto with ⟨_, k1, k2⟩ | ⟨_, k1, k2⟩
      · split <;> omega
      · have := k2 t
        split <;> omega
    · rw [if_neg (by omega)]
      unfold rlZ
      omega
  · simp only [if_neg z]
    exact ⟨fun y => (hR j hj).1 (by omega), fun y => (hR j hj).2 (by omega)⟩
theorem RD_end (hH : HC f i h) (hR : RD i ((toZ f).toNat + 1) h (drZ (neZ f t).toNat (wZ f g t) h) R) : RR (i + 1) (drZ (neZ f t).toNat (wZ f g t) h) R := by
  intro e he
  have h20 := toZ_in f
  by_cases z : e < (toZ f).toNat + 1
  · exact (hR e he).1 z
  · have r := (hR e he).2 (by omega)
    rcases hH.2 with y | y
    · omega
    · have y1 := y e (by omega)
      have y2 := y (e + (neZ f t).toNat) (by omega)
      unfold rlZ at r ⊢
      unfold drZ
      rw [if_neg (by omega)]
      omega
/-- the least, of both -/
theorem ls_st {e : Nat} {l : Int} (hn : 0 ≤ i) (hR : RR i h R) (he : e ≤ 20) (hl : rlZ i (lsZ h e) l) : rlZ i (lsZ h (e + 1)) (if 0 ≤ R e ∧ (l < 0 ∨ R e < l) then R e else l) := by
  have r := hR e he
  unfold rlZ at *
  simp only [lsZ]
  split <;> split <;> omega
theorem ls_le (h : Nat → Int) : ∀ k, lsZ h k ≤ 2305843009213693951
  | 0 => Int.le_refl _
  | k + 1 => by
    have := ls_le h k
    simp only [lsZ]
    split <;> omega
theorem ls_one (hh : ∀ e, 1 ≤ e → h e = 2305843009213693951) : ∀ k, lsZ h (k + 1) = lsZ h 1
  | 0 => rfl
  | k + 1 => by
    have ih := ls_one hh k
    have h1 := ls_le h (k + 1)
    have h2 := hh (k + 1) (by omega)
    rw [← ih]
    show (if h (k + 1) < lsZ h (k + 1) then h (k + 1) else lsZ h (k + 1)) = _
    rw [if_neg (by omega)]
theorem ls_end (hH : HB f i h) : lsZ h ((toZ f).toNat + 1) = lsZ h 21 := by
  rcases toZ_or f with ⟨_, z, _⟩ | ⟨_, z, _⟩
  · rw [z]; rfl
  · rw [z]
    rcases hH.2 with y | y
    · omega
    · exact (ls_one y 20).symm
end HBS
