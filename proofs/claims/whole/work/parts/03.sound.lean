/-! THE ABSTRACT MACHINE IS SOUND: what it says of a method is a contract of the method over the real machine. -/
/-- the tables' words that a call carries along -/
def am_tbl : List Cond := lw_tbl.filter goodWord
def am_cv (ad : Nat → Nat) (v : Value) : Value := match v with
  | .ref k => .ref (ad k)
  | v => v
theorem am_cv_cat (ad : Nat → Nat) (v : Value) : (am_cv ad v).category = v.category := by cases v <;> rfl
theorem am_cat_map (ad : Nat → Nat) (st : List Value) : ((st.map (am_cv ad)).map fun v => v.category) = st.map fun v => v.category := by
  rw [List.map_map]
  exact List.map_congr_left fun v _ => am_cv_cat ad v
def am_at (c : Nat) : FieldType := match c with
  | 0 => .int
  | 1 => .boolean
  | _ => .long
def am_ce (ad : Nat → Nat) (ca : Nat → ClassId) (h : am_H) (k : Nat) : va_E := match (h.2.1 k).1 with
  | 0 => .inl (ca k, (h.2.1 k).2, .inl (h.2.2.1 k))
  | 1 => .inl (ca k, (h.2.1 k).2, .inl (h.2.2.1 k))
  | 2 => .inl (ca k, (h.2.1 k).2, .inr (.inl (h.2.2.2.1 k)))
  | c + 3 => .inr (c, (List.range (am_nf c)).map fun j => am_cv ad (am_fv h c j k))
def am_ws (ad : Nat → Nat) (ca : Nat → ClassId) (h : am_H) : va_W := (List.range h.1).map fun k => (ad k, am_ce ad ca h k)
theorem am_ws_at {ad : Nat → Nat} {ca : Nat → ClassId} {h : am_H} {a : Nat} (ha : a < h.1) : (am_ws ad ca h)[a]? = some (ad a, am_ce ad ca h a) := by
  simp [am_ws, ha]
theorem am_ws_set {ad : Nat → Nat} {ca : Nat → ClassId} {h h' : am_H} {a : Nat} (hn : h'.1 = h.1) (ho : ∀ k, k ≠ a → am_ce ad ca h' k = am_ce ad ca h k) : (am_ws ad ca h).set a (ad a, am_ce ad ca h' a) = am_ws ad ca h' := by
  apply List.ext_getElem?
  intro i
  rw [List.getElem?_set]
  by_cases hi : a = i
  · subst hi
    by_cases hl : a < h.1
    · rw [am_ws_at (h := h') (by rw [hn]; exact hl)]
      simp [am_ws, hl]
    · simp [am_ws, hn, hl]
  · rw [if_neg hi]
    by_cases hl : i < h.1
    · rw [am_ws_at (h := h') (by rw [hn]; exact hl), am_ws_at hl, ho i (fun q => hi q.symm)]
    · simp [am_ws, hn, hl]
theorem am_up_ne {α : Type} {f : Nat → Nat → α} {a j k : Nat} {v : α} (h : k ≠ a) : am_up f a j v k = f k := funext fun _ => if_neg fun q => h q.1
theorem am_up_eq {α : Type} {f : Nat → Nat → α} {a j : Nat} {v : α} : am_up f a j v a = fun i => if i = j then v else f a i := funext fun i => by simp [am_up]
theorem am_ty_some {h : am_H} {a c : Nat} (e : am_ty h a = some c) : a < h.1 ∧ (h.2.1 a).1 = c := by
  unfold am_ty at e
  split at e
  · exact ⟨by assumption, Option.some.inj e⟩
  · cases e
-- which references there are
def am_sv (n : Nat) (v : Value) : Prop := match v with
  | .ref k => k < n ∨ k = 1000
  | _ => True
def am_ss (n : Nat) (st : List Value) : Prop := ∀ v ∈ st, am_sv n v
theorem am_ss.t {n : Nat} {v : Value} {r : List Value} (h : am_ss n (v :: r)) : am_ss n r := fun w hw => h w (List.mem_cons_of_mem _ hw)
theorem am_ss.k {n : Nat} {v : Value} {r : List Value} (h : am_ss n r) (hv : am_sv n v) : am_ss n (v :: r) := fun w hw => by
  rcases List.mem_cons.mp hw with rfl | hw
  · exact hv
  · exact h w hw
theorem am_ss.h {n : Nat} {v : Value} {r : List Value} (h : am_ss n (v :: r)) : am_sv n v := h v List.mem_cons_self
def am_sl (n : Nat) (l : am_L) : Prop := ∀ i v, am_lk l i = some v → am_sv n v
def am_sh (h : am_H) : Prop := ∀ k j, k < h.1 → h.2.2.2.2 k j ≤ h.1
theorem am_sv_up {n n' : Nat} (hn : n ≤ n') {v : Value} (h : am_sv n v) : am_sv n' v := by
  cases v <;> first | trivial | exact h.imp (fun q => Nat.lt_of_lt_of_le q hn) id
theorem am_ss_up {n n' : Nat} (hn : n ≤ n') {st : List Value} (h : am_ss n st) : am_ss n' st := fun v hv => am_sv_up hn (h v hv)
theorem am_cv_ext {n : Nat} {ad ad' : Nat → Nat} (he : ∀ k, k < n ∨ k = 1000 → ad' k = ad k) {v : Value} (h : am_sv n v) : am_cv ad' v = am_cv ad v := by
  cases v <;> first | rfl | exact congrArg Value.ref (he _ h)
theorem am_cvs_ext {n : Nat} {ad ad' : Nat → Nat} (he : ∀ k, k < n ∨ k = 1000 → ad' k = ad k) {st : List Value} (h : am_ss n st) : st.map (am_cv ad') = st.map (am_cv ad) :=
  List.map_congr_left fun v hv => am_cv_ext he (h v hv)
-- the locals
theorem am_lk_s1 : ∀ {l : am_L} {k i : Nat} {v w : Value}, am_lk (am_s1 l k v) i = some w → (i = k ∧ w = v) ∨ (i ≠ k ∧ am_lk l i = some w ∧ ¬ (i + 1 = k ∧ w.category = 2)) := by
  intro l
  induction l with
  | nil => intro k i v w h; simp [am_s1, am_lk] at h
  | cons x t ih =>
    intro k i v w h
    match k, i with
    | 0, 0 => simp [am_s1, am_lk] at h; exact Or.inl ⟨rfl, h.symm⟩
    | 0, i + 1 => simp [am_s1, am_lk] at h; exact Or.inr ⟨by omega, by simpa [am_lk] using h, by omega⟩
    | 1, 0 =>
      simp only [am_s1, am_lk] at h
      refine Or.inr ⟨by omega, ?_, ?_⟩
      · cases x with
        | none => simp [am_kl] at h
        | some y =>
          simp only [am_kl] at h
          split at h
          · cases h
          · simpa [am_lk] using h
      · rintro ⟨-, h2⟩
        cases x with
        | none => simp [am_kl] at h
        | some y =>
          simp only [am_kl] at h
          split at h
          · cases h
          · cases h; contradiction
    | 1, i + 1 =>
      simp only [am_s1, am_lk] at h
      rcases ih h with ⟨h1, h2⟩ | ⟨h1, h2, h3⟩
      · exact Or.inl ⟨by omega, h2⟩
      · exact Or.inr ⟨by omega, by simpa [am_lk] using h2, by omega⟩
    | k + 2, 0 => simp only [am_s1, am_lk] at h; exact Or.inr ⟨by omega, by simpa [am_lk] using h, by omega⟩
    | k + 2, i + 1 =>
      simp only [am_s1, am_lk] at h
      rcases ih h with ⟨h1, h2⟩ | ⟨h1, h2, h3⟩
      · exact Or.inl ⟨by omega, h2⟩
      · exact Or.inr ⟨by omega, by simpa [am_lk] using h2, fun q => h3 ⟨by omega, q.2⟩⟩
theorem am_lk_s2 : ∀ {l : am_L} {k i : Nat} {v w : Value}, am_lk (am_s2 l k v) i = some w → (i = k ∧ w = v) ∨ (i ≠ k ∧ i ≠ k + 1 ∧ am_lk l i = some w ∧ ¬ (i + 1 = k ∧ w.category = 2)) := by
  intro l
  induction l with
  | nil => intro k i v w h; simp [am_s2, am_lk] at h
  | cons x t ih =>
    intro k i v w h
    match k, i with
    | 0, i =>
      match t, i with
      | [], 0 => simp [am_s2, am_lk] at h; exact Or.inl ⟨rfl, h.symm⟩
      | [], i + 1 => simp [am_s2, am_lk] at h
      | y :: t, 0 => simp [am_s2, am_lk] at h; exact Or.inl ⟨rfl, h.symm⟩
      | y :: t, 1 => simp [am_s2, am_lk] at h
      | y :: t, i + 2 => simp [am_s2, am_lk] at h; exact Or.inr ⟨by omega, by omega, by simpa [am_lk] using h, by omega⟩
    | 1, 0 =>
      simp only [am_s2, am_lk] at h
      refine Or.inr ⟨by omega, by omega, ?_, ?_⟩
      · cases x with
        | none => simp [am_kl] at h
        | some y =>
          simp only [am_kl] at h
          split at h
          · cases h
          · simpa [am_lk] using h
      · rintro ⟨-, h2⟩
        cases x with
        | none => simp [am_kl] at h
        | some y =>
          simp only [am_kl] at h
          split at h
          · cases h
          · cases h; contradiction
    | 1, i + 1 =>
      simp only [am_s2, am_lk] at h
      rcases ih h with ⟨h1, h2⟩ | ⟨h1, h4, h2, h3⟩
      · exact Or.inl ⟨by omega, h2⟩
      · exact Or.inr ⟨by omega, by omega, by simpa [am_lk] using h2, by omega⟩
    | k + 2, 0 => simp only [am_s2, am_lk] at h; exact Or.inr ⟨by omega, by omega, by simpa [am_lk] using h, by omega⟩
    | k + 2, i + 1 =>
      simp only [am_s2, am_lk] at h
      rcases ih h with ⟨h1, h2⟩ | ⟨h1, h4, h2, h3⟩
      · exact Or.inl ⟨by omega, h2⟩
      · exact Or.inr ⟨by omega, by omega, by simpa [am_lk] using h2, fun q => h3 ⟨by omega, q.2⟩⟩
/-- the locals as the kit lists them -/
def am_ll (ad : Nat → Nat) (l : am_L) : List (Nat × Value) := (List.range l.length).filterMap fun i => (am_lk l i).map fun v => (i, am_cv ad v)
theorem am_lk_lt : ∀ {l : am_L} {i : Nat} {v : Value}, am_lk l i = some v → i < l.length
  | [], _, _, h => by simp [am_lk] at h
  | _ :: _, 0, _, _ => by simp
  | _ :: t, i + 1, v, h => by have := am_lk_lt (l := t) (i := i) (v := v) h; simp; omega
theorem am_ll_mem {ad : Nat → Nat} {l : am_L} {q : Nat × Value} : q ∈ am_ll ad l ↔ ∃ v, am_lk l q.1 = some v ∧ q.2 = am_cv ad v := by
  obtain ⟨i, w⟩ := q
  constructor
  · intro h
    obtain ⟨k, -, hk⟩ := List.mem_filterMap.mp h
    cases hv : am_lk l k with
    | none => rw [hv] at hk; cases hk
    | some v => rw [hv] at hk; cases hk; exact ⟨v, hv, rfl⟩
  · rintro ⟨v, hv, e⟩
    refine List.mem_filterMap.mpr ⟨i, List.mem_range.mpr (am_lk_lt hv), ?_⟩
    have hv : am_lk l i = some v := hv
    have e : w = am_cv ad v := e
    rw [hv, e]; rfl
abbrev am_lo (ad : Nat → Nat) (nL : Nat) (la : Array Slot) (l : am_L) : Prop := lv_has la nL (am_ll ad l)
theorem am_lo_at {ad : Nat → Nat} {nL : Nat} {la : Array Slot} {l : am_L} (h : am_lo ad nL la l) {i : Nat} {v : Value} (hv : am_lk l i = some v) : la[i]? = some (.val (am_cv ad v)) := h.2.2 (i, am_cv ad v) (am_ll_mem.mpr ⟨v, hv, rfl⟩)
theorem am_lo_le {ad : Nat → Nat} {nL : Nat} {la : Array Slot} {l l' : am_L} (hl : am_le l' l) (h : am_lo ad nL la l) : am_lo ad nL la l' := by
  refine ⟨h.1, h.2.1, fun q hq => ?_⟩
  obtain ⟨v, h1, h2⟩ := am_ll_mem.mp hq
  exact h.2.2 q (am_ll_mem.mpr ⟨v, hl _ _ h1, h2⟩)
theorem am_lo_ext {n : Nat} {ad ad' : Nat → Nat} (he : ∀ k, k < n ∨ k = 1000 → ad' k = ad k) {nL : Nat} {la : Array Slot} {l : am_L} (hs : am_sl n l) (h : am_lo ad nL la l) : am_lo ad' nL la l := by
  refine ⟨h.1, h.2.1, fun q hq => ?_⟩
  obtain ⟨v, h1, h2⟩ := am_ll_mem.mp hq
  rw [am_cv_ext he (hs _ _ h1)] at h2
  exact h.2.2 q (am_ll_mem.mpr ⟨v, h1, h2⟩)
theorem am_lo_s1 {ad : Nat → Nat} {nL k : Nat} {la : Array Slot} {l : am_L} {v : Value} (h : lv_has la nL ((k, am_cv ad v) :: (am_ll ad l).filter (fun q => !(q.1 == k) && !(q.1 + 1 == k && q.2.category == 2)))) : am_lo ad nL la (am_s1 l k v) := by
  refine ⟨h.1, h.2.1, fun q hq => ?_⟩
  obtain ⟨w, h1, h2⟩ := am_ll_mem.mp hq
  rcases am_lk_s1 h1 with ⟨e1, e2⟩ | ⟨n1, e2, n2⟩
  · obtain ⟨i, z⟩ := q
    subst e2
    have e1 : i = k := e1
    have h2 : z = am_cv ad w := h2
    subst e1; subst h2
    exact h.2.2 _ List.mem_cons_self
  · refine h.2.2 q (List.mem_cons_of_mem _ (List.mem_filter.mpr ⟨am_ll_mem.mpr ⟨w, e2, h2⟩, ?_⟩))
    have hc : q.2.category = w.category := by rw [h2, am_cv_cat]
    by_cases hk : q.1 + 1 = k
    · have : ¬ w.category = 2 := fun z => n2 ⟨hk, z⟩
      simp [n1, hc, this]
    · simp [n1, hk]
theorem am_lo_s2 {ad : Nat → Nat} {nL k : Nat} {la : Array Slot} {l : am_L} {v : Value} (h : lv_has la nL ((k, am_cv ad v) :: (am_ll ad l).filter (fun q => !(q.1 == k) && (!(q.1 == k + 1) && !(q.1 + 1 == k && q.2.category == 2))))) : am_lo ad nL la (am_s2 l k v) := by
  refine ⟨h.1, h.2.1, fun q hq => ?_⟩
  obtain ⟨w, h1, h2⟩ := am_ll_mem.mp hq
  rcases am_lk_s2 h1 with ⟨e1, e2⟩ | ⟨n1, n3, e2, n2⟩
  · obtain ⟨i, z⟩ := q
    subst e2
    have e1 : i = k := e1
    have h2 : z = am_cv ad w := h2
    subst e1; subst h2
    exact h.2.2 _ List.mem_cons_self
  · refine h.2.2 q (List.mem_cons_of_mem _ (List.mem_filter.mpr ⟨am_ll_mem.mpr ⟨w, e2, h2⟩, ?_⟩))
    have hc : q.2.category = w.category := by rw [h2, am_cv_cat]
    by_cases hk : q.1 + 1 = k
    · have : ¬ w.category = 2 := fun z => n2 ⟨hk, z⟩
      simp [n1, n3, hc, this]
    · simp [n1, n3, hk]
theorem am_sl_s1 {n k : Nat} {l : am_L} {v : Value} (h : am_sl n l) (hv : am_sv n v) : am_sl n (am_s1 l k v) := fun i w hw => by
  rcases am_lk_s1 hw with ⟨-, e⟩ | ⟨-, e, -⟩
  · rw [e]; exact hv
  · exact h i w e
theorem am_sl_s2 {n k : Nat} {l : am_L} {v : Value} (h : am_sl n l) (hv : am_sv n v) : am_sl n (am_s2 l k v) := fun i w hw => by
  rcases am_lk_s2 hw with ⟨-, e⟩ | ⟨-, -, e, -⟩
  · rw [e]; exact hv
  · exact h i w e
