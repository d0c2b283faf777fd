/-! THE REFERENCE'S LABELS: states 21 s + e, edges by charging (0) and by street t; labels out of costs and counts; a pass over all edges -/
def labZ (c n : Nat → Int) (v : Nat) : Option Nat := if c v < 0 ∨ 2541 ≤ v then none else some (4096 * (c v).toNat + (n v).toNat)
def phA (o : Option Nat) : Nat := match o with
  | none => 2000000000000000
  | some d => d
def phS (lab : Nat → Option Nat) : Nat → Nat
  | 0 => 0
  | k + 1 => phS lab k + phA (lab k)
theorem phS_same {l l' : Nat → Option Nat} {v : Nat} (h : ∀ x, x ≠ v → l' x = l x) : ∀ k, k ≤ v → phS l' k = phS l k
  | 0, _ => rfl
  | k + 1, hk => by simp only [phS]; rw [phS_same h k (by omega), h k (by omega)]
theorem phS_lt {l l' : Nat → Option Nat} {v : Nat} (h : ∀ x, x ≠ v → l' x = l x) (hv : phA (l' v) < phA (l v)) : ∀ k, v < k → phS l' k < phS l k
  | 0, hk => absurd hk (Nat.not_lt_zero _)
  | k + 1, hk => by
    simp only [phS]
    by_cases e : v = k
    · subst e
      rw [phS_same h v (Nat.le_refl v)]
      omega
    · have := phS_lt h hv k (by omega)
      rw [h k (fun q => e q.symm)]
      omega
/-- an edge of the reference's map: by charging, or by street t -/
def mEk (f g : Nat → Nat → Int) (q v u w : Nat) : Prop := ∃ s e : Nat, v = 21 * s + e ∧ (s : Int) ≤ f 31 5 ∧ (e : Int) ≤ toZ f ∧
  ((q = 0 ∧ e < 20 ∧ 0 ≤ unZ f g (plZ f s).toNat ∧ u = v + 1 ∧ w = 4096 * (unZ f g (plZ f s).toNat).toNat) ∨
   (1 ≤ q ∧ (q : Int) ≤ f 31 5 ∧ goZ f g s e q = true ∧ (u : Int) = 21 * q + e - neZ f q ∧ w = 4096 * (prZ f g q).toNat + 1))
def mE (f g : Nat → Nat → Int) (v u w : Nat) : Prop := ∃ q, mEk f g q v u w
def mT (f : Nat → Nat → Int) (v : Nat) : Prop := ∃ s e : Nat, v = 21 * s + e ∧ (s : Int) ≤ f 31 5 ∧ (e : Int) ≤ toZ f ∧ plZ f s = f 31 16
theorem goZ_ne {f g : Nat → Nat → Int} {s t : Nat} {e : Int} (h : goZ f g s e t = true) : 0 ≤ prZ f g t ∧ neZ f t ≤ e := by
  unfold goZ at h
  simp only [Bool.and_eq_true, decide_eq_true_eq] at h
  exact ⟨h.1.1.2, h.1.2⟩
theorem unZ_pos {f g : Nat → Nat → Int} (hM : MOk f g) {n : Nat} (h : 0 ≤ unZ f g n) : 1 ≤ unZ f g n := by
  have h2 := hM.2.2.1 n
  unfold unZ at h ⊢
  split
  · rename_i q; rw [if_pos q] at h; omega
  · split
    · omega
    · rename_i q1 q2
      have : 1 ≤ 1000 / g 34 n := by
        rw [Int.le_ediv_iff_mul_le (by omega)]
        omega
      exact this
theorem mE_lt {f g : Nat → Nat → Int} (hM : MOk f g) {v u w : Nat} (h : mE f g v u w) : v < 2541 ∧ u < 2541 := by
  obtain ⟨q, s, e, h1, h2, h3, h4⟩ := h
  have hm := hM.1.2.1
  have ht := toZ_in f
  rcases h4 with ⟨-, h5, -, h6, -⟩ | ⟨h5, h6, h7, h8, -⟩
  · omega
  · have hn := neZ_in hM q
    have hg := goZ_ne h7
    omega
theorem mE_wt {f g : Nat → Nat → Int} (hM : MOk f g) {v u w : Nat} (h : mE f g v u w) : ∃ p q, w = 4096 * p + q ∧ p ≤ 100000000 ∧ q ≤ 1 := by
  obtain ⟨q, s, e, h1, h2, h3, h4⟩ := h
  rcases h4 with ⟨-, h5, h7, h6, h8⟩ | ⟨h5, h6, h7, h8, h9⟩
  · have := unZ_in hM (plZ f s).toNat
    exact ⟨_, 0, h8, by omega, Nat.zero_le 1⟩
  · have := prZ_in hM q
    exact ⟨_, 1, h9, by omega, Nat.le_refl 1⟩
theorem mE_pos {f g : Nat → Nat → Int} (hM : MOk f g) {v u w : Nat} (h : mE f g v u w) : 0 < w := by
  obtain ⟨q, s, e, h1, h2, h3, h4⟩ := h
  rcases h4 with ⟨-, h5, h7, h6, h8⟩ | ⟨h5, h6, h7, h8, h9⟩
  · have := unZ_pos hM h7
    omega
  · omega
/-- labels are well formed, and each is a walk's -/
def LI (f0 g0 : Nat → Nat → Int) (c n : Nat → Int) : Prop := (∀ v, v < 2541 → -1 ≤ c v ∧ 0 ≤ n v ∧ n v < 4096) ∧ mg_I (mE f0 g0) (mT f0) (labZ c n)
theorem LI_bd {f0 g0 : Nat → Nat → Int} {c n : Nat → Int} (hM : MOk f0 g0) (h : LI f0 g0 c n) {v : Nat} (hv2 : v < 2541) (hv : 0 ≤ c v) : n v < 2541 ∧ c v ≤ 254100000000 := by
  obtain ⟨h1, h2⟩ := h
  have hl : labZ c n v = some (4096 * (c v).toNat + (n v).toNat) := if_neg (by omega)
  obtain ⟨C, N, q1, q2, q3⟩ := mg_bd (fun _ _ _ h => mE_lt hM h) (fun _ _ _ h => mE_wt hM h) h2 hv2 hl
  have := h1 v hv2
  omega
/-- a pass: either nothing was bettered, and all edges so far hold; or the labels went down -/
def PI (f0 g0 : Nat → Nat → Int) (cs ns : Nat → Int) (Dn : Nat → Nat → Prop) (more : Int) (c n : Nat → Int) : Prop := LI f0 g0 c n ∧ ((more = 0 ∧ c = cs ∧ n = ns ∧ ∀ q v u w k, mEk f0 g0 q v u w → Dn q v → labZ c n u = some k → ∃ d, labZ c n v = some d ∧ d ≤ w + k) ∨ (more = 1 ∧ phS (labZ c n) 2541 < phS (labZ cs ns) 2541))
theorem PI_more {f0 g0 : Nat → Nat → Int} {cs ns c n : Nat → Int} {Dn : Nat → Nat → Prop} {more : Int} (h : PI f0 g0 cs ns Dn more c n) : more = 0 ∨ more = 1 := h.2.imp (fun q => q.1) (fun q => q.1)
/-- nothing to do at an edge: there is none, or its end has no label -/
theorem PI_skip {f0 g0 : Nat → Nat → Int} {cs ns c n : Nat → Int} {Dn Dn' : Nat → Nat → Prop} {more : Int} (h : PI f0 g0 cs ns Dn more c n) (hD : ∀ q v u w k, mEk f0 g0 q v u w → Dn' q v → labZ c n u = some k → Dn q v ∨ ∃ d, labZ c n v = some d ∧ d ≤ w + k) : PI f0 g0 cs ns Dn' more c n := by
  refine ⟨h.1, h.2.imp (fun ⟨q1, q2, q3, q4⟩ => ⟨q1, q2, q3, fun q v u w k e1 e2 e3 => ?_⟩) id⟩
  rcases hD q v u w k e1 e2 e3 with z | z
  · exact q4 q v u w k e1 z e3
  · exact z
/-- a label is kept by less() just where the edge holds -/
theorem keep_iff {c n : Nat → Int} {v C N : Nat} (hv2 : v < 2541) (hv : 0 ≤ n v ∧ n v < 4096) (hN : N < 4096) : (0 ≤ c v ∧ (c v < C ∨ c v = C ∧ n v ≤ N)) ↔ ∃ d, labZ c n v = some d ∧ d ≤ 4096 * C + N := by
  unfold labZ
  constructor
  · rintro ⟨h1, h2⟩
    exact ⟨_, if_neg (by omega), by omega⟩
  · rintro ⟨d, h1, h2⟩
    by_cases hc : c v < 0
    · rw [if_pos (Or.inl hc)] at h1; cases h1
    · rw [if_neg (by omega)] at h1
      cases h1
      exact ⟨by omega, by omega⟩
theorem labZ_up {c n : Nat → Int} {v C N : Nat} (hv2 : v < 2541) : labZ (fun x => if x = v then (C : Int) else c x) (fun x => if x = v then (N : Int) else n x) = fun x => if x = v then some (4096 * C + N) else labZ c n x := by
  funext x
  unfold labZ
  by_cases hx : x = v
  · simp only [if_pos hx]
    rw [if_neg (by omega)]
    simp
  · simp only [if_neg hx]
/-- a label is bettered: the pass goes on with 'more' -/
theorem PI_up {f0 g0 : Nat → Nat → Int} {cs ns c n : Nat → Int} {Dn Dn' : Nat → Nat → Prop} {more : Int} (hM : MOk f0 g0) (h : PI f0 g0 cs ns Dn more c n) {v u w k C N : Nat} (hE : mE f0 g0 v u w) (hu : labZ c n u = some k) (hk : w + k = 4096 * C + N) (hN : N < 4096) (hb : ¬ ∃ d, labZ c n v = some d ∧ d ≤ w + k) : PI f0 g0 cs ns Dn' 1 (fun x => if x = v then (C : Int) else c x) (fun x => if x = v then (N : Int) else n x) := by
  obtain ⟨⟨h1, h2⟩, h3⟩ := h
  have hlt := mE_lt hM hE
  have hstep := mg_step h2 hE (mE_pos hM hE) hu (fun d hd => Nat.lt_of_not_le fun q => hb ⟨d, hd, q⟩)
  rw [hk, ← labZ_up hlt.1] at hstep
  have hI : LI f0 g0 (fun x => if x = v then (C : Int) else c x) (fun x => if x = v then (N : Int) else n x) := by
    refine ⟨fun x hx2 => ?_, hstep⟩
    by_cases hx : x = v
    · simp only [if_pos hx]
      omega
    · simp only [if_neg hx]
      exact h1 x hx2
  refine ⟨hI, Or.inr ⟨rfl, ?_⟩⟩
  have hlow : phS (labZ (fun x => if x = v then (C : Int) else c x) (fun x => if x = v then (N : Int) else n x)) 2541 < phS (labZ c n) 2541 := by
    refine phS_lt (v := v) (fun x hx => ?_) ?_ 2541 hlt.1
    · rw [labZ_up hlt.1]; exact if_neg hx
    · have e1 : labZ (fun x => if x = v then (C : Int) else c x) (fun x => if x = v then (N : Int) else n x) v = some (4096 * C + N) := by rw [labZ_up hlt.1]; exact if_pos rfl
      rw [e1]
      cases hl : labZ c n v with
      | some d =>
        have : ¬ d ≤ w + k := fun q => hb ⟨d, hl, q⟩
        show 4096 * C + N < d
        omega
      | none =>
        show 4096 * C + N < 2000000000000000
        have hc : 0 ≤ (fun x => if x = v then (C : Int) else c x) v := by simp only [if_true]; omega
        have hbd := (LI_bd hM hI hlt.1 hc).2
        simp only [if_true] at hbd
        omega
  rcases h3 with ⟨-, rfl, rfl, -⟩ | ⟨-, h4⟩
  · exact hlow
  · omega
