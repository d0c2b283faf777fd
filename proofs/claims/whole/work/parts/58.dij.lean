/-! THE CLASS'S LEAST KEYS: taking the least state again and again, pure -/
/-- a labelling, state by state -/
def BE (E : Nat → Nat → Nat → Prop) (T : Nat → Prop) (D : Nat → Option Nat) (N : Nat) : Prop :=
  (∀ v, v < N → T v → D v = some 0) ∧ (∀ v u a b, v < N → u < N → E v u a → D u = some b → ∃ d, D v = some d ∧ d ≤ a + b) ∧
  (∀ v d, v < N → D v = some d → (T v ∧ d = 0) ∨ ∃ u a b, u < N ∧ E v u a ∧ 0 < a ∧ D u = some b ∧ d = a + b) ∧ (∀ v d, v < N → D v = some d → d < 2305843009213693951)
def DK (D : Nat → Option Nat) (N : Nat) (k : Nat → Int) : Prop := ∀ v, v < N → 0 ≤ k v ∧ k v ≤ 2305843009213693951 ∧ (k v < 2305843009213693951 → ∃ d : Nat, D v = some d ∧ (d : Int) ≤ k v)
def DJ (E : Nat → Nat → Nat → Prop) (T : Nat → Prop) (D : Nat → Option Nat) (N : Nat) (l : List Nat) (k : Nat → Int) : Prop :=
  DK D N k ∧ (∀ v, v < N → T v → k v = 0) ∧ (∀ u, u ∈ l → u < N ∧ k u < 2305843009213693951 ∧ D u = some (k u).toNat) ∧
  (∀ v u a, v < N → u ∈ l → E v u a → k v ≤ a + k u) ∧ (∀ u v, u ∈ l → v < N → v ∉ l → k u ≤ k v)
/-- while the least state x is spread: the edges R are done -/
def DX (E : Nat → Nat → Nat → Prop) (T : Nat → Prop) (D : Nat → Option Nat) (N : Nat) (l : List Nat) (x : Nat) (R : Nat → Nat → Prop) (k : Nat → Int) : Prop :=
  DK D N k ∧ (∀ v, v < N → T v → k v = 0) ∧ (∀ u, u ∈ x :: l → u < N ∧ k u < 2305843009213693951 ∧ D u = some (k u).toNat) ∧
  (∀ v u a, v < N → u ∈ l → E v u a → k v ≤ a + k u) ∧ (∀ u, u ∈ x :: l → k u ≤ k x) ∧ (∀ v, v < N → v ∉ x :: l → k x ≤ k v) ∧ (∀ v a, v < N → E v x a → R v a → k v ≤ a + k x)
def fq_l (k : Nat → Int) (v : Nat) (x : Int) : Nat → Int := if x < k v then fq_u k v x else k
/-- what is left behind -/
def FD (D : Nat → Option Nat) (N st : Nat) (k : Nat → Int) : Prop :=
  DK D N k ∧ ((D st = none ∧ k st = 2305843009213693951) ∨ ∃ D0 : Nat, D st = some D0 ∧ k st = D0 ∧ ∀ v d, v < N → D v = some d → d < D0 → k v = (d : Int))
section DIJ
variable {E : Nat → Nat → Nat → Prop} {T : Nat → Prop} {D : Nat → Option Nat} {N : Nat} {l : List Nat} {k : Nat → Int} {x : Nat}
theorem dj_lb (B : BE E T D N) (J : DJ E T D N l k) {m : Int} (hm : ∀ v, v < N → v ∉ l → m ≤ k v) : ∀ d v : Nat, v < N → v ∉ l → D v = some d → m ≤ d := by
  intro d
  induction d using Nat.strongRecOn with
  | _ d ih =>
    intro v hv hl hd
    rcases B.2.2.1 v d hv hd with ⟨h1, h2⟩ | ⟨u, a, b, h1, h2, h3, h4, h5⟩
    · have := J.2.1 v hv h1
      have := hm v hv hl
      omega
    · by_cases z : u ∈ l
      · have y1 := J.2.2.2.1 v u a hv z h2
        have y2 := hm v hv hl
        have y3 := (J.2.2.1 u z).2.2
        have y4 := (J.1 u h1).1
        rw [h4] at y3
        cases y3
        omega
      · have := ih b (by omega) u h1 z h4
        omega
theorem dj_take (B : BE E T D N) (J : DJ E T D N l k) (hx : x < N) (hl : x ∉ l) (hk : k x < 2305843009213693951) (hm : ∀ v, v < N → v ∉ l → k x ≤ k v) : DX E T D N l x (fun _ _ => False) k := by
  have hD : D x = some (k x).toNat := by
    obtain ⟨y1, y2, y3⟩ := J.1 x hx
    obtain ⟨d, h1, h2⟩ := y3 hk
    have := dj_lb B J hm d x hx hl h1
    rw [h1]
    exact congrArg some (by omega)
  refine ⟨J.1, J.2.1, fun u hu => ?_, J.2.2.2.1, fun u hu => ?_, fun v hv h => hm v hv (List.not_mem_of_not_mem_cons h), fun _ _ _ _ h => h.elim⟩
  · rcases List.mem_cons.mp hu with rfl | hu
    · exact ⟨hx, hk, hD⟩
    · exact J.2.2.1 u hu
  · rcases List.mem_cons.mp hu with rfl | hu
    · exact Int.le_refl _
    · exact J.2.2.2.2 u x hu hx hl
theorem dj_skip {R R' : Nat → Nat → Prop} (X : DX E T D N l x R k) (h : ∀ v a, v < N → E v x a → R' v a → R v a) : DX E T D N l x R' k := by
  obtain ⟨h1, h2, h3, h4, h5, h6, h7⟩ := X
  exact ⟨h1, h2, h3, h4, h5, h6, fun v a q1 q2 q3 => h7 v a q1 q2 (h v a q1 q2 q3)⟩
theorem dj_next {R : Nat → Nat → Prop} (X : DX E T D N l x R k) (h : ∀ v a, v < N → E v x a → R v a) : DJ E T D N (x :: l) k := by
  obtain ⟨h1, h2, h3, h4, h5, h6, h7⟩ := X
  refine ⟨h1, h2, h3, fun v u a q1 q2 q3 => ?_, fun u v q1 q2 q3 => Int.le_trans (h5 u q1) (h6 v q2 q3)⟩
  rcases List.mem_cons.mp q2 with rfl | q2
  · exact h7 v a q1 q3 (h v a q1 q3)
  · exact h4 v u a q1 q2 q3
/-- a state on the list is lowered no more -/
theorem dj_done {R : Nat → Nat → Prop} (X : DX E T D N l x R k) {v a : Nat} (hv : v ∈ x :: l) : ¬ k x + a < k v := by
  have := X.2.2.2.2.1 v hv
  omega
theorem dj_low {R R' : Nat → Nat → Prop} (B : BE E T D N) (X : DX E T D N l x R k) {v a : Nat} (hv : v < N) (hE : E v x a) (hF : k x + a < 2305843009213693951) (hR : ∀ v' a', R' v' a' → R v' a' ∨ v' = v ∧ a' = a) : DX E T D N l x R' (fq_l k v (k x + a)) := by
  have hd := dj_done (a := a) X (v := v)
  obtain ⟨h1, h2, h3, h4, h5, h6, h7⟩ := X
  have hx := h3 x List.mem_cons_self
  unfold fq_l
  split
  · rename_i z
    have hv2 : v ∉ x :: l := fun y => hd y z
    have hne : ∀ u, u ∈ x :: l → u ≠ v := fun u y e => hv2 (e ▸ y)
    have hle : ∀ u, fq_u k v (k x + a) u ≤ k u := by
      intro u
      unfold fq_u
      split
      · rename_i e; rw [e]; omega
      · exact Int.le_refl _
    have k0 := (h1 x hx.1).1
    refine ⟨fun u hu => ?_, fun u hu hT => ?_, fun u hu => ?_, fun w u b q1 q2 q3 => ?_, fun u hu => ?_, fun u hu hl => ?_, fun w b q1 q2 q3 => ?_⟩
    · by_cases e : u = v
      · subst e
        rw [fq_ue]
        refine ⟨by omega, by omega, fun _ => ?_⟩
        obtain ⟨d, y1, y2⟩ := B.2.1 u x a _ hv hx.1 hE hx.2.2
        exact ⟨d, y1, by omega⟩
      · rw [fq_un _ _ e]; exact h1 u hu
    · by_cases e : u = v
      · subst e
        have := h2 u hu hT
        omega
      · rw [fq_un _ _ e]; exact h2 u hu hT
    · rw [fq_un _ _ (hne u hu)]; exact h3 u hu
    · rw [fq_un _ _ (hne u (List.mem_cons_of_mem _ q2))]
      exact Int.le_trans (hle w) (h4 w u b q1 q2 q3)
    · rw [fq_un _ _ (hne u hu), fq_un _ _ (hne x List.mem_cons_self)]; exact h5 u hu
    · rw [fq_un _ _ (hne x List.mem_cons_self)]
      by_cases e : u = v
      · rw [e, fq_ue]; omega
      · rw [fq_un _ _ e]; exact h6 u hu hl
    · rw [fq_un _ _ (hne x List.mem_cons_self)]
      rcases hR w b q3 with y | ⟨rfl, rfl⟩
      · exact Int.le_trans (hle w) (h7 w b q1 q2 y)
      · rw [fq_ue]; omega
  · rename_i z
    refine ⟨h1, h2, h3, h4, h5, h6, fun w b q1 q2 q3 => ?_⟩
    rcases hR w b q3 with y | ⟨rfl, rfl⟩
    · exact h7 w b q1 q2 y
    · omega
theorem dj_empty {st : Nat} (B : BE E T D N) (J : DJ E T D N l k) (hs : st < N) (hl : st ∉ l) (h : ∀ v, v < N → v ∉ l → k v = 2305843009213693951) : FD D N st k := by
  refine ⟨J.1, Or.inl ⟨?_, h st hs hl⟩⟩
  cases e : D st with
  | none => rfl
  | some d =>
    have h1 := dj_lb B J (m := 2305843009213693951) (fun v y1 y2 => by rw [h v y1 y2]; exact Int.le_refl _) d st hs hl e
    have h2 := B.2.2.2 st d hs e
    omega
theorem dj_start {R : Nat → Nat → Prop} {st : Nat} (B : BE E T D N) (J : DJ E T D N l k) (X : DX E T D N l st R k) : FD D N st k := by
  have hs := X.2.2.1 st List.mem_cons_self
  have h0 := (J.1 st hs.1).1
  refine ⟨J.1, Or.inr ⟨(k st).toNat, hs.2.2, by omega, fun v d h1 h2 h3 => ?_⟩⟩
  by_cases z : v ∈ l
  · have := (J.2.2.1 v z).2.2
    rw [h2] at this
    have k0 := (J.1 v h1).1
    cases this
    omega
  · have := dj_lb B J (m := k st) (fun u y1 y2 => by
      by_cases e : u = st
      · rw [e]; exact Int.le_refl _
      · exact X.2.2.2.2.2.1 u y1 (fun q => (List.mem_cons.mp q).elim e y2)) d v h1 z h2
    omega
/-- the targets -/
def D0I (T : Nat → Prop) (N : Nat) (R : Nat → Prop) (k : Nat → Int) : Prop := ∀ v, v < N → (k v = 2305843009213693951 ∧ ¬ (T v ∧ R v)) ∨ k v = 0 ∧ T v
theorem dj_t0 {R R' : Nat → Prop} (h : D0I T N R k) {v : Nat} (hv : T v) (hR : ∀ v', R' v' → R v' ∨ v' = v) : D0I T N R' (fq_l k v 0) := by
  intro u hu
  unfold fq_l
  split
  · rename_i z
    by_cases e : u = v
    · subst e; right; rw [fq_ue]; exact ⟨rfl, hv⟩
    · rw [fq_un _ _ e]
      rcases h u hu with ⟨y1, y2⟩ | y
      · exact Or.inl ⟨y1, fun q => y2 ⟨q.1, (hR u q.2).resolve_right e⟩⟩
      · exact Or.inr y
  · rename_i z
    rcases h u hu with ⟨y1, y2⟩ | y
    · refine Or.inl ⟨y1, fun q => y2 ⟨q.1, (hR u q.2).resolve_right (fun e => ?_)⟩⟩
      rw [e] at y1
      omega
    · exact Or.inr y
theorem dj_ts {R R' : Nat → Prop} (h : D0I T N R k) (hR : ∀ v', T v' → R' v' → R v') : D0I T N R' k := by
  intro u hu
  rcases h u hu with ⟨y1, y2⟩ | y
  · exact Or.inl ⟨y1, fun q => y2 ⟨q.1, hR u q.1 q.2⟩⟩
  · exact Or.inr y
theorem dj_begin {R : Nat → Prop} (B : BE E T D N) (h : D0I T N R k) (hR : ∀ v, v < N → T v → R v) : DJ E T D N [] k := by
  refine ⟨fun v hv => ?_, fun v hv hT => ?_, fun u hu => absurd hu List.not_mem_nil, fun _ u _ _ hu => absurd hu List.not_mem_nil, fun u _ hu => absurd hu List.not_mem_nil⟩
  · rcases h v hv with ⟨y1, y2⟩ | ⟨y1, y2⟩
    · rw [y1]; exact ⟨by decide, by decide, fun z => absurd z (by decide)⟩
    · rw [y1]; exact ⟨by decide, by decide, fun _ => ⟨0, B.1 v hv y2, by decide⟩⟩
  · rcases h v hv with ⟨y1, y2⟩ | y
    · exact absurd ⟨hT, hR v hv hT⟩ y2
    · exact y.1
/-- not all are on the list while one is not -/
theorem dj_more (hn : l.Nodup) (h : ∀ u, u ∈ l → u < N) {st : Nat} (hs : st < N) (hl : st ∉ l) : l.length < N := by
  have := mg_few N (st :: l) (List.nodup_cons.mpr ⟨hl, hn⟩) (fun u hu => by
    rcases List.mem_cons.mp hu with rfl | hu
    · exact hs
    · exact h u hu)
  rw [List.length_cons] at this
  omega
/-- a key tells what a label tells, below the start's -/
theorem dj_meet {st D0 : Nat} (h : FD D N st k) (h0 : D st = some D0) (hF : D0 < 2305843009213693951) {b : Nat} (hb : b < N) {y : Int} (hy : 1 ≤ y) : y + k b = D0 ↔ ∃ d : Nat, D b = some d ∧ y + d = D0 := by
  obtain ⟨hK, h2⟩ := h
  obtain ⟨D1, h3, h4, h5⟩ : ∃ D0 : Nat, D st = some D0 ∧ k st = D0 ∧ ∀ v d, v < N → D v = some d → d < D0 → k v = (d : Int) := by
    rcases h2 with h2 | h2
    · rw [h2.1] at h0; cases h0
    · exact h2
  rw [h0] at h3
  cases h3
  obtain ⟨z1, z2, z3⟩ := hK b hb
  constructor
  · intro e
    obtain ⟨d, y1, y2⟩ := z3 (by omega)
    have := h5 b d hb y1 (by omega)
    exact ⟨d, y1, by omega⟩
  · rintro ⟨d, y1, y2⟩
    have := h5 b d hb y1 (by omega)
    omega
end DIJ
