/-! LEAST WALKS: a graph with positive weights, targets; a labelling that no edge betters and that walks attain is the least one. -/
def mg_wk {V : Type} (E : V → V → Nat → Prop) (T : V → Prop) : List V → V → Nat → Prop
  | [], v, w => T v ∧ w = 0
  | u :: r, v, w => ∃ a b, E v u a ∧ mg_wk E T r u b ∧ w = a + b
/-- a labelling is the least one -/
def mg_D {V : Type} (E : V → V → Nat → Prop) (T : V → Prop) (D : V → Option Nat) : Prop :=
  (∀ v, T v → D v = some 0) ∧ (∀ v u a b, E v u a → D u = some b → ∃ d, D v = some d ∧ d ≤ a + b) ∧ (∀ v d, D v = some d → ∃ r, mg_wk E T r v d)
theorem mg_le {V : Type} {E : V → V → Nat → Prop} {T : V → Prop} {D : V → Option Nat} (h : mg_D E T D) : ∀ (r : List V) (v : V) (w : Nat), mg_wk E T r v w → ∃ d, D v = some d ∧ d ≤ w
  | [], v, w, e => ⟨0, h.1 v e.1, Nat.zero_le _⟩
  | u :: r, v, w, e => by
    obtain ⟨a, b, h1, h2, h3⟩ := e
    obtain ⟨d, h4, h5⟩ := mg_le h r u b h2
    obtain ⟨d', h6, h7⟩ := h.2.1 v u a d h1 h4
    exact ⟨d', h6, by omega⟩
theorem mg_uniq {V : Type} {E : V → V → Nat → Prop} {T : V → Prop} {D D' : V → Option Nat} (h : mg_D E T D) (h' : mg_D E T D') (v : V) : D v = D' v := by
  cases hd : D v with
  | none =>
    cases hd' : D' v with
    | none => rfl
    | some d' =>
      obtain ⟨r, hr⟩ := h'.2.2 v d' hd'
      obtain ⟨d, e, -⟩ := mg_le h r v d' hr
      rw [hd] at e; cases e
  | some d =>
    obtain ⟨r, hr⟩ := h.2.2 v d hd
    obtain ⟨d', e, l1⟩ := mg_le h' r v d hr
    obtain ⟨r', hr'⟩ := h'.2.2 v d' e
    obtain ⟨d'', e'', l2⟩ := mg_le h r' v d' hr'
    rw [hd] at e''
    cases e''
    rw [e]
    exact congrArg some (by omega)
/-- different numbers below n are at most n -/
theorem mg_few : ∀ (n : Nat) (l : List Nat), l.Nodup → (∀ x ∈ l, x < n) → l.length ≤ n
  | 0, l, _, h => by
    cases l with
    | nil => exact Nat.le_refl 0
    | cons x r => exact absurd (h x List.mem_cons_self) (Nat.not_lt_zero x)
  | n + 1, l, hl, h => by
    have h1 := mg_few n (l.erase n) (hl.erase n) (fun x hx => by
      have h2 := h x (List.mem_of_mem_erase hx)
      have h3 : x ≠ n := by
        rintro rfl
        exact (hl.not_mem_erase) hx
      omega)
    have h4 := List.length_erase_le (a := n) (l := l)
    have h5 : l.length ≤ (l.erase n).length + 1 := by
      rw [List.length_erase]
      split <;> omega
    omega
/-- a walk with its weight, no state twice, where each later state's label is at most the weight of the rest -/
def mg_sw (E : Nat → Nat → Nat → Prop) (T : Nat → Prop) (lab : Nat → Option Nat) : List Nat → Nat → Nat → Prop
  | [], v, w => T v ∧ w = 0
  | u :: r, v, w => (∃ a b, E v u a ∧ 0 < a ∧ mg_sw E T lab r u b ∧ w = a + b ∧ ∃ d, lab u = some d ∧ d ≤ b) ∧ v ∉ u :: r
def mg_I (E : Nat → Nat → Nat → Prop) (T : Nat → Prop) (lab : Nat → Option Nat) : Prop := (∀ v, T v → lab v = some 0) ∧ ∀ v d, lab v = some d → ∃ r, mg_sw E T lab r v d
section MGR
variable {E : Nat → Nat → Nat → Prop} {T : Nat → Prop} {lab lab' : Nat → Option Nat}
theorem mg_sw_mono (h : ∀ v d, lab v = some d → ∃ d', lab' v = some d' ∧ d' ≤ d) : ∀ (r : List Nat) (v w : Nat), mg_sw E T lab r v w → mg_sw E T lab' r v w
  | [], _, _, e => e
  | u :: r, v, w, e => by
    obtain ⟨⟨a, b, h1, h2, h3, h4, d, h5, h6⟩, h7⟩ := e
    obtain ⟨d', h8, h9⟩ := h u d h5
    exact ⟨⟨a, b, h1, h2, mg_sw_mono h r u b h3, h4, d', h8, by omega⟩, h7⟩
theorem mg_sw_mem : ∀ (r : List Nat) (v w x : Nat), mg_sw E T lab r v w → x ∈ r → ∃ d b, lab x = some d ∧ d ≤ b ∧ b < w
  | [], _, _, _, _, h => absurd h List.not_mem_nil
  | u :: r, v, w, x, e, h => by
    obtain ⟨⟨a, b, h1, h2, h3, h4, d, h5, h6⟩, h7⟩ := e
    rcases List.mem_cons.mp h with rfl | h
    · exact ⟨d, b, h5, h6, by omega⟩
    · obtain ⟨d', b', q1, q2, q3⟩ := mg_sw_mem r u b x h3 h
      exact ⟨d', b', q1, q2, by omega⟩
theorem mg_sw_nodup : ∀ (r : List Nat) (v w : Nat), mg_sw E T lab r v w → (v :: r).Nodup
  | [], _, _, _ => List.nodup_cons.mpr ⟨List.not_mem_nil, List.nodup_nil⟩
  | u :: r, v, w, e => by
    obtain ⟨⟨a, b, h1, h2, h3, h4, h5⟩, h7⟩ := e
    exact List.nodup_cons.mpr ⟨h7, mg_sw_nodup r u b h3⟩
theorem mg_sw_wk : ∀ (r : List Nat) (v w : Nat), mg_sw E T lab r v w → mg_wk E T r v w
  | [], _, _, e => e
  | u :: r, v, w, e => by
    obtain ⟨⟨a, b, h1, h2, h3, h4, h5⟩, h7⟩ := e
    exact ⟨a, b, h1, mg_sw_wk r u b h3, h4⟩
/-- a better label comes by an edge: the invariant stays -/
theorem mg_step (hI : mg_I E T lab) {v u a k : Nat} (hE : E v u a) (ha : 0 < a) (hu : lab u = some k) (hb : ∀ d, lab v = some d → a + k < d) : mg_I E T (fun x => if x = v then some (a + k) else lab x) := by
  have hm : ∀ x d, lab x = some d → ∃ d', (fun x => if x = v then some (a + k) else lab x) x = some d' ∧ d' ≤ d := by
    intro x d hx
    by_cases hxv : x = v
    · subst hxv
      exact ⟨a + k, if_pos rfl, Nat.le_of_lt (hb d hx)⟩
    · exact ⟨d, (if_neg hxv).trans hx, Nat.le_refl d⟩
  refine ⟨fun x hx => ?_, fun x d hx => ?_⟩
  · have h0 := hI.1 x hx
    by_cases hxv : x = v
    · subst hxv
      exact absurd (hb 0 h0) (Nat.not_lt_zero _)
    · exact (if_neg hxv).trans h0
  · by_cases hxv : x = v
    · subst hxv
      have hx : some (a + k) = some d := (if_pos rfl).symm.trans hx
      cases hx
      obtain ⟨r, hr⟩ := hI.2 u k hu
      have hn : x ∉ u :: r := by
        intro hmem
        rcases List.mem_cons.mp hmem with rfl | hmem
        · have := hb k hu
          omega
        · obtain ⟨d', b', q1, q2, q3⟩ := mg_sw_mem r u k x hr hmem
          have := hb d' q1
          omega
      have hux : ¬ u = x := fun q => hn (q ▸ List.mem_cons_self)
      exact ⟨u :: r, ⟨a, k, hE, ha, mg_sw_mono hm r u k hr, rfl, k, (if_neg hux).trans hu, Nat.le_refl k⟩, hn⟩
    · have hx : lab x = some d := (if_neg hxv).symm.trans hx
      obtain ⟨r, hr⟩ := hI.2 x d hx
      exact ⟨r, mg_sw_mono hm r x d hr⟩
/-- when no edge betters a label any more, the labels are the least -/
theorem mg_done (hI : mg_I E T lab) (hE : ∀ v u a k, E v u a → lab u = some k → ∃ d, lab v = some d ∧ d ≤ a + k) : mg_D E T lab :=
  ⟨hI.1, hE, fun v d h => by
    obtain ⟨r, hr⟩ := hI.2 v d h
    exact ⟨r, mg_sw_wk r v d hr⟩⟩
/-- a label's two parts -/
theorem mg_sw_bd {P : Nat} (hE : ∀ v u a, E v u a → ∃ p q, a = 4096 * p + q ∧ p ≤ P ∧ q ≤ 1) : ∀ (r : List Nat) (v w : Nat), mg_sw E T lab r v w → ∃ c n, w = 4096 * c + n ∧ n ≤ r.length ∧ c ≤ r.length * P
  | [], _, _, e => ⟨0, 0, by rw [e.2], Nat.le_refl 0, Nat.zero_le _⟩
  | u :: r, v, w, e => by
    obtain ⟨⟨a, b, h1, h2, h3, h4, h5⟩, h7⟩ := e
    obtain ⟨c, n, q1, q2, q3⟩ := mg_sw_bd hE r u b h3
    obtain ⟨p, q, p1, p2, p3⟩ := hE v u a h1
    refine ⟨p + c, q + n, by omega, by simp; omega, ?_⟩
    rw [List.length_cons, Nat.add_mul, Nat.one_mul]
    omega
theorem mg_sw_in {N : Nat} (hE : ∀ v u a, E v u a → v < N ∧ u < N) : ∀ (r : List Nat) (v w : Nat), mg_sw E T lab r v w → ∀ x ∈ r, x < N
  | [], _, _, _, _, h => absurd h List.not_mem_nil
  | u :: r, v, w, e, x, h => by
    obtain ⟨⟨a, b, h1, h2, h3, h4, h5⟩, h7⟩ := e
    rcases List.mem_cons.mp h with rfl | h
    · exact (hE v x a h1).2
    · exact mg_sw_in hE r u b h3 x h
theorem mg_bd {N P : Nat} (hN : ∀ v u a, E v u a → v < N ∧ u < N) (hP : ∀ v u a, E v u a → ∃ p q, a = 4096 * p + q ∧ p ≤ P ∧ q ≤ 1) (hI : mg_I E T lab) {v d : Nat} (hv : v < N) (h : lab v = some d) : ∃ c n, d = 4096 * c + n ∧ n < N ∧ c ≤ N * P := by
  obtain ⟨r, hr⟩ := hI.2 v d h
  obtain ⟨c, n, q1, q2, q3⟩ := mg_sw_bd hP r v d hr
  have hl := mg_few N (v :: r) (mg_sw_nodup r v d hr) (fun x hx => by
    rcases List.mem_cons.mp hx with rfl | hx
    · exact hv
    · exact mg_sw_in hN r v d hr x hx)
  rw [List.length_cons] at hl
  refine ⟨c, n, q1, by omega, Nat.le_trans q3 (Nat.mul_le_mul_right P (by omega))⟩
end MGR
