/-! THE FRONTIER: a binary heap with the place of each state, pure -/
def fq_u (f : Nat → Int) (i : Nat) (x : Int) (j : Nat) : Int := if j = i then x else f j
theorem fq_ue (f : Nat → Int) (i : Nat) (x : Int) : fq_u f i x i = x := if_pos rfl
theorem fq_un (f : Nat → Int) {i j : Nat} (x : Int) (h : j ≠ i) : fq_u f i x j = f j := if_neg h
def HI (N : Nat) (l : List Nat) (k p h : Nat → Int) (n : Nat) : Prop :=
  (∀ i, 1 ≤ i → i ≤ n → 0 ≤ h i ∧ h i < N ∧ p (h i).toNat = i ∧ (h i).toNat ∉ l) ∧
  (∀ u, u < N → u ∉ l → (p u = 0 ∧ k u = 2305843009213693951) ∨ (1 ≤ p u ∧ p u ≤ n ∧ h (p u).toNat = u ∧ k u < 2305843009213693951)) ∧
  (∀ i, 2 ≤ i → i ≤ n → k (h (i / 2)).toNat ≤ k (h i).toNat)
/-- with a hole at w, for v -/
def HO (N : Nat) (l : List Nat) (k p h : Nat → Int) (n v w : Nat) : Prop :=
  (1 ≤ w ∧ w ≤ n ∧ v < N ∧ v ∉ l ∧ k v < 2305843009213693951) ∧
  (∀ i, 1 ≤ i → i ≤ n → i ≠ w → 0 ≤ h i ∧ h i < N ∧ p (h i).toNat = i ∧ (h i).toNat ∉ l ∧ (h i).toNat ≠ v) ∧
  (∀ u, u < N → u ∉ l → u ≠ v → (p u = 0 ∧ k u = 2305843009213693951) ∨ (1 ≤ p u ∧ p u ≤ n ∧ p u ≠ w ∧ h (p u).toNat = u ∧ k u < 2305843009213693951)) ∧
  (∀ i, 2 ≤ i → i ≤ n → i ≠ w → i / 2 ≠ w → k (h (i / 2)).toNat ≤ k (h i).toNat) ∧
  (∀ i, i ≤ n → i / 2 = w → 2 ≤ w → k (h (w / 2)).toNat ≤ k (h i).toNat)
section HEAP
variable {N : Nat} {l : List Nat} {k p h : Nat → Int} {n v w : Nat}
theorem fq_fill (H : HO N l k p h n v w) (h1 : 2 ≤ w → k (h (w / 2)).toNat ≤ k v) (h2 : ∀ i, i ≤ n → i / 2 = w → k v ≤ k (h i).toNat) : HI N l k (fq_u p v w) (fq_u h w v) n := by
  obtain ⟨⟨a1, a2, a3, a4, a5⟩, b, c, d, e⟩ := H
  refine ⟨fun i q1 q2 => ?_, fun u q1 q2 => ?_, fun i q1 q2 => ?_⟩
  · by_cases z : i = w
    · subst z
      rw [fq_ue, Int.toNat_natCast, fq_ue]
      exact ⟨by omega, by omega, rfl, a4⟩
    · rw [fq_un _ _ z]
      obtain ⟨y1, y2, y3, y4, y5⟩ := b i q1 q2 z
      rw [fq_un _ _ y5]
      exact ⟨y1, y2, y3, y4⟩
  · by_cases z : u = v
    · subst z
      right
      rw [fq_ue, Int.toNat_natCast, fq_ue]
      exact ⟨by omega, by omega, rfl, a5⟩
    · rw [fq_un _ _ z]
      rcases c u q1 q2 z with y | ⟨y1, y2, y3, y4, y5⟩
      · exact Or.inl y
      · right
        rw [fq_un _ _ (by omega)]
        exact ⟨y1, y2, y4, y5⟩
  · by_cases z : i = w
    · subst z
      rw [fq_ue, fq_un _ _ (show i / 2 ≠ i by omega), Int.toNat_natCast]
      exact h1 q1
    · rw [fq_un _ _ z]
      by_cases z2 : i / 2 = w
      · rw [z2, fq_ue, Int.toNat_natCast]
        exact h2 i q2 z2
      · rw [fq_un _ _ z2]
        exact d i q1 q2 z z2
theorem fq_up (H : HO N l k p h n v w) (hw : 2 ≤ w) (h1 : k v < k (h (w / 2)).toNat) (h2 : ∀ i, i ≤ n → i / 2 = w → k v ≤ k (h i).toNat) : HO N l k (fq_u p (h (w / 2)).toNat w) (fq_u h w (h (w / 2))) n v (w / 2) ∧ ∀ i, i ≤ n → i / 2 = w / 2 → k v ≤ k (fq_u h w (h (w / 2)) i).toNat := by
  obtain ⟨⟨a1, a2, a3, a4, a5⟩, b, c, d, e⟩ := H
  obtain ⟨y1, y2, y3, y4, y5⟩ := b (w / 2) (by omega) (by omega) (by omega)
  have hw2 : w / 2 ≠ w := by omega
  refine ⟨⟨⟨by omega, by omega, a3, a4, a5⟩, fun i q1 q2 q3 => ?_, fun u q1 q2 q3 => ?_, fun i q1 q2 q3 q4 => ?_, fun i q1 q2 q3 => ?_⟩, fun i q1 q2 => ?_⟩
  · by_cases z : i = w
    · subst z
      rw [fq_ue, fq_ue]
      exact ⟨y1, y2, rfl, y4, y5⟩
    · rw [fq_un _ _ z]
      obtain ⟨x1, x2, x3, x4, x5⟩ := b i q1 q2 z
      have : (h i).toNat ≠ (h (w / 2)).toNat := by
        intro z2
        rw [z2] at x3
        omega
      rw [fq_un _ _ this]
      exact ⟨x1, x2, x3, x4, x5⟩
  · by_cases z : u = (h (w / 2)).toNat
    · subst z
      right
      rw [fq_ue, Int.toNat_natCast, fq_ue]
      refine ⟨by omega, by omega, by omega, by omega, ?_⟩
      rcases c _ q1 q2 q3 with x | x
      · omega
      · exact x.2.2.2.2
    · rw [fq_un _ _ z]
      rcases c u q1 q2 q3 with x | ⟨x1, x2, x3, x4, x5⟩
      · exact Or.inl x
      · right
        rw [fq_un _ _ (by omega)]
        refine ⟨x1, x2, fun x => z ?_, x4, x5⟩
        have : (p u).toNat = w / 2 := by omega
        rw [this] at x4
        omega
  · by_cases z : i = w
    · exact absurd (by rw [z]) q4
    · rw [fq_un _ _ z]
      by_cases z2 : i / 2 = w
      · rw [z2, fq_ue]
        exact e i q2 z2 hw
      · rw [fq_un _ _ z2]
        exact d i q1 q2 z z2
  · have t := d (w / 2) (by omega) (by omega) (by omega) (by omega)
    rw [fq_un _ _ (show w / 2 / 2 ≠ w by omega)]
    by_cases z : i = w
    · rw [z, fq_ue]; exact t
    · rw [fq_un _ _ z]
      have := d i (by omega) q1 z (by omega)
      rw [q2] at this
      exact Int.le_trans t this
  · by_cases z : i = w
    · rw [z, fq_ue]; exact Int.le_of_lt h1
    · rw [fq_un _ _ z]
      have := d i (by omega) q1 z (by omega)
      rw [q2] at this
      exact Int.le_trans (Int.le_of_lt h1) this
theorem fq_dn {c : Nat} (H : HO N l k p h n v w) (hc : c / 2 = w) (hn : c ≤ n) (h0 : ∀ i, i ≤ n → i / 2 = w → k (h c).toNat ≤ k (h i).toNat) (h1 : k (h c).toNat < k v) : HO N l k (fq_u p (h c).toNat w) (fq_u h w (h c)) n v c ∧ k (fq_u h w (h c) (c / 2)).toNat ≤ k v := by
  obtain ⟨⟨a1, a2, a3, a4, a5⟩, b, cc, d, e⟩ := H
  obtain ⟨y1, y2, y3, y4, y5⟩ := b c (by omega) (by omega) (by omega)
  refine ⟨⟨⟨by omega, by omega, a3, a4, a5⟩, fun i q1 q2 q3 => ?_, fun u q1 q2 q3 => ?_, fun i q1 q2 q3 q4 => ?_, fun i q1 q2 q3 => ?_⟩, ?_⟩
  · by_cases z : i = w
    · subst z
      rw [fq_ue, fq_ue]
      exact ⟨y1, y2, rfl, y4, y5⟩
    · rw [fq_un _ _ z]
      obtain ⟨x1, x2, x3, x4, x5⟩ := b i q1 q2 z
      have : (h i).toNat ≠ (h c).toNat := by
        intro z2
        rw [z2] at x3
        omega
      rw [fq_un _ _ this]
      exact ⟨x1, x2, x3, x4, x5⟩
  · by_cases z : u = (h c).toNat
    · subst z
      right
      rw [fq_ue, Int.toNat_natCast, fq_ue]
      refine ⟨by omega, by omega, by omega, by omega, ?_⟩
      rcases cc _ q1 q2 q3 with x | x
      · omega
      · exact x.2.2.2.2
    · rw [fq_un _ _ z]
      rcases cc u q1 q2 q3 with x | ⟨x1, x2, x3, x4, x5⟩
      · exact Or.inl x
      · right
        rw [fq_un _ _ (by omega)]
        refine ⟨x1, x2, fun x => z ?_, x4, x5⟩
        have : (p u).toNat = c := by omega
        rw [this] at x4
        omega
  · by_cases z : i = w
    · rw [z, fq_ue, fq_un _ _ (show w / 2 ≠ w by omega)]
      exact e c hn hc (by omega)
    · rw [fq_un _ _ z]
      by_cases z2 : i / 2 = w
      · rw [z2, fq_ue]
        exact h0 i q2 z2
      · rw [fq_un _ _ z2]
        exact d i q1 q2 z z2
  · rw [hc, fq_ue, fq_un _ _ (show i ≠ w by omega)]
    have := d i (by omega) q1 (by omega) (by omega)
    rw [q2] at this
    exact this
  · rw [hc, fq_ue]
    exact Int.le_of_lt h1
theorem fq_least (H : HI N l k p h n) : ∀ i, 1 ≤ i → i ≤ n → k (h 1).toNat ≤ k (h i).toNat := by
  intro i
  induction i using Nat.strongRecOn with
  | _ i ih =>
    intro h1 h2
    by_cases z : i = 1
    · rw [z]; exact Int.le_refl _
    · exact Int.le_trans (ih (i / 2) (by omega) (by omega) (by omega)) (H.2.2 i (by omega) h2)
theorem fq_pig : ∀ (m M : Nat) (q : Nat → Nat), (∀ i, i < m → q i < M) → (∀ i j, i < m → j < i → q i ≠ q j) → m ≤ M := by
  intro m M q h1 h2
  have hnd : ∀ t, t ≤ m → ((List.range t).map q).Nodup := by
    intro t
    induction t with
    | zero => intro _; exact List.nodup_nil
    | succ t ih =>
      intro ht
      rw [List.range_succ, List.map_append, List.nodup_append]
      refine ⟨ih (by omega), List.nodup_cons.mpr ⟨List.not_mem_nil, List.nodup_nil⟩, fun a ha b hb => ?_⟩
      obtain ⟨x, hx, rfl⟩ := List.mem_map.mp ha
      obtain ⟨y, hy, rfl⟩ := List.mem_map.mp hb
      have hx' := List.mem_range.mp hx
      have hy' : y = t := List.mem_singleton.mp hy
      subst hy'
      exact fun z => h2 y x (by omega) hx' z.symm
  have := mg_few M ((List.range m).map q) (hnd m (Nat.le_refl _)) (fun x hx => by
    obtain ⟨y, hy, rfl⟩ := List.mem_map.mp hx
    exact h1 y (List.mem_range.mp hy))
  rw [List.length_map, List.length_range] at this
  exact this
theorem fq_n (H : HI N l k p h n) : n ≤ N := by
  refine fq_pig n N (fun i => (h (i + 1)).toNat) (fun i hi => ?_) (fun i j hi hj z => ?_)
  · have := H.1 (i + 1) (by omega) (by omega)
    omega
  · have h1 := H.1 (i + 1) (by omega) (by omega)
    have h2 := H.1 (j + 1) (by omega) (by omega)
    rw [z] at h1
    omega
theorem fq_n1 (H : HI N l k p h n) (hv : v < N) (hp : p v = 0) : n + 1 ≤ N := by
  refine fq_pig (n + 1) N (fun i => if i = n then v else (h (i + 1)).toNat) (fun i hi => ?_) (fun i j hi hj z => ?_)
  · split
    · exact hv
    · have := H.1 (i + 1) (by omega) (by omega)
      omega
  · have h2 := H.1 (j + 1) (by omega) (by omega)
    rw [if_neg (show j ≠ n by omega)] at z
    by_cases y : i = n
    · rw [if_pos y] at z
      rw [z] at hp
      omega
    · rw [if_neg y] at z
      have h1 := H.1 (i + 1) (by omega) (by omega)
      rw [z] at h1
      omega
theorem fq_open (H : HI N l k p h n) (hv : v < N) (hl : v ∉ l) {x : Int} (hx : x < k v) (hp : p v ≠ 0) : HO N l (fq_u k v x) p h n v (p v).toNat ∧ ∀ i, i ≤ n → i / 2 = (p v).toNat → fq_u k v x v ≤ fq_u k v x (h i).toNat := by
  obtain ⟨b, c, d⟩ := H
  obtain ⟨w, hw⟩ : ∃ w, w = (p v).toNat := ⟨_, rfl⟩
  rw [← hw]
  rcases c v hv hl with z | ⟨z1, z2, z3, z4⟩
  · exact absurd z.1 hp
  rw [← hw] at z3
  have hne : ∀ i, 1 ≤ i → i ≤ n → i ≠ w → (h i).toNat ≠ v := by
    intro i q1 q2 q3 q4
    have := b i q1 q2
    rw [q4] at this
    omega
  refine ⟨⟨⟨by omega, by omega, hv, hl, by rw [fq_ue]; omega⟩, fun i q1 q2 q3 => ?_, fun u q1 q2 q3 => ?_, fun i q1 q2 q3 q4 => ?_, fun i q1 q2 q3 => ?_⟩, fun i q1 q2 => ?_⟩
  · obtain ⟨x1, x2, x3, x4⟩ := b i q1 q2
    exact ⟨x1, x2, x3, x4, hne i q1 q2 q3⟩
  · rw [fq_un _ _ q3]
    rcases c u q1 q2 with y | ⟨y1, y2, y3, y4⟩
    · exact Or.inl y
    · right
      refine ⟨y1, y2, fun y => q3 ?_, y3, y4⟩
      have : (p u).toNat = w := by omega
      rw [this] at y3
      omega
  · rw [fq_un _ _ (hne i (by omega) q2 q3), fq_un _ _ (hne (i / 2) (by omega) (by omega) q4)]
    exact d i q1 q2
  · rw [fq_un _ _ (hne i (by omega) q1 (by omega)), fq_un _ _ (hne (w / 2) (by omega) (by omega) (by omega))]
    have t1 := d i (by omega) q1
    have t2 := d w q3 (by omega)
    rw [q2] at t1
    exact Int.le_trans t2 t1
  · rw [fq_ue, fq_un _ _ (hne i (by omega) q1 (by omega))]
    have t1 := d i (by omega) q1
    rw [q2, z3, Int.toNat_natCast] at t1
    omega
theorem fq_new (H : HI N l k p h n) (hv : v < N) (hl : v ∉ l) {x : Int} (hx : x < k v) (hp : p v = 0) : HO N l (fq_u k v x) (fq_u p v ((n : Int) + 1)) h (n + 1) v (n + 1) := by
  obtain ⟨b, c, d⟩ := H
  have hne : ∀ i, 1 ≤ i → i ≤ n → (h i).toNat ≠ v := by
    intro i q1 q2 q4
    have := b i q1 q2
    rw [q4] at this
    omega
  have hk : k v = 2305843009213693951 := by
    rcases c v hv hl with z | z
    · exact z.2
    · omega
  refine ⟨⟨by omega, by omega, hv, hl, by rw [fq_ue]; omega⟩, fun i q1 q2 q3 => ?_, fun u q1 q2 q3 => ?_, fun i q1 q2 q3 q4 => ?_, fun i q1 q2 q3 => ?_⟩
  · obtain ⟨x1, x2, x3, x4⟩ := b i q1 (by omega)
    have := hne i q1 (by omega)
    rw [fq_un _ _ this]
    exact ⟨x1, x2, x3, x4, this⟩
  · rw [fq_un _ _ q3, fq_un _ _ q3]
    rcases c u q1 q2 with y | ⟨y1, y2, y3, y4⟩
    · exact Or.inl y
    · exact Or.inr ⟨y1, by omega, by omega, y3, y4⟩
  · rw [fq_un _ _ (hne i (by omega) (by omega)), fq_un _ _ (hne (i / 2) (by omega) (by omega))]
    exact d i q1 (by omega)
  · omega
theorem fq_take1 (H : HI N l k p h 1) : HI N ((h 1).toNat :: l) k p h 0 := by
  obtain ⟨b, c, d⟩ := H
  refine ⟨fun i q1 q2 => by omega, fun u q1 q2 => ?_, fun i q1 q2 => by omega⟩
  have q3 := List.not_mem_of_not_mem_cons q2
  rcases c u q1 q3 with y | ⟨y1, y2, y3, y4⟩
  · exact Or.inl y
  · have : (p u).toNat = 1 := by omega
    rw [this] at y3
    exact absurd (by rw [y3, Int.toNat_natCast]; exact List.mem_cons_self) q2
theorem fq_take (H : HI N l k p h (n + 2)) : HO N ((h 1).toNat :: l) k p h (n + 1) (h (n + 2)).toNat 1 := by
  obtain ⟨b, c, d⟩ := H
  obtain ⟨m1, m2, m3, m4⟩ := b (n + 2) (by omega) (by omega)
  obtain ⟨l1, l2, l3, l4⟩ := b 1 (by omega) (by omega)
  have hml : (h (n + 2)).toNat ≠ (h 1).toNat := by
    intro z
    rw [z] at m3
    omega
  have hk : k (h (n + 2)).toNat < 2305843009213693951 := by
    rcases c (h (n + 2)).toNat (by omega) m4 with z | z
    · omega
    · exact z.2.2.2
  refine ⟨⟨by omega, by omega, by omega, ?_, hk⟩, fun i q1 q2 q3 => ?_, fun u q1 q2 q3 => ?_, fun i q1 q2 q3 q4 => d i q1 (by omega), fun i q1 q2 q3 => by omega⟩
  · intro z
    rcases List.mem_cons.mp z with z | z
    · exact hml z
    · exact m4 z
  · obtain ⟨x1, x2, x3, x4⟩ := b i q1 (by omega)
    refine ⟨x1, x2, x3, fun z => ?_, fun z => ?_⟩
    · rcases List.mem_cons.mp z with z | z
      · rw [z] at x3; omega
      · exact x4 z
    · rw [z] at x3; omega
  · have q4 := List.not_mem_of_not_mem_cons q2
    rcases c u q1 q4 with y | ⟨y1, y2, y3, y4⟩
    · exact Or.inl y
    · right
      refine ⟨y1, ?_, ?_, y3, y4⟩
      · by_cases z : p u = ((n + 2 : Nat) : Int)
        · rw [z, Int.toNat_natCast] at y3
          omega
        · omega
      · intro z
        rw [z] at y3
        refine absurd ?_ q2
        have : h 1 = (u : Int) := y3
        rw [this, Int.toNat_natCast]
        exact List.mem_cons_self
theorem fq_min (H : HI N l k p h n) (hn : 1 ≤ n) : ∀ u, u < N → u ∉ l → k (h 1).toNat ≤ k u := by
  intro u h1 h2
  have h3 : k (h 1).toNat < 2305843009213693951 := by
    obtain ⟨b1, b2, b3, b4⟩ := H.1 1 (by omega) hn
    rcases H.2.1 (h 1).toNat (by omega) b4 with z | z
    · omega
    · exact z.2.2.2
  rcases H.2.1 u h1 h2 with z | ⟨z1, z2, z3, z4⟩
  · omega
  · have := fq_least H (p u).toNat (by omega) (by omega)
    rw [z3, Int.toNat_natCast] at this
    exact this
theorem fq_0 : ∀ (N : Nat) (k p h : Nat → Int), (∀ u, u < N → p u = 0 ∧ k u = 2305843009213693951) → HI N [] k p h 0 :=
  fun N k p h H => ⟨fun i q1 q2 => by omega, fun u q1 _ => Or.inl (H u q1), fun i q1 q2 => by omega⟩
end HEAP
