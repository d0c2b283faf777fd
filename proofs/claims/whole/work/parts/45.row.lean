/-! THE ROW of a least way, pure: what is held at each level of energy, the least street by which the least label can still be met -/
theorem mg_DI {E : Nat → Nat → Nat → Prop} {T : Nat → Prop} {D : Nat → Option Nat} (h : mg_D E T D) (hp : ∀ v u a, E v u a → 0 < a) : mg_I E T D := by
  have key : ∀ (r : List Nat) (v d : Nat), mg_wk E T r v d → D v = some d → mg_sw E T D r v d := by
    intro r
    induction r with
    | nil => intro v d h1 _; exact h1
    | cons u r ih =>
      intro v d h1 h2
      obtain ⟨a, b, e1, e2, e3⟩ := h1
      obtain ⟨b', q1, q2⟩ := mg_le h r u b e2
      obtain ⟨d', q3, q4⟩ := h.2.1 v u a b' e1 q1
      rw [h2] at q3
      cases q3
      have eb : b' = b := by omega
      subst eb
      have hsw := ih u b' e2 q1
      have ha := hp v u a e1
      refine ⟨⟨a, b', e1, ha, hsw, e3, b', q1, Nat.le_refl _⟩, fun hm => ?_⟩
      rcases List.mem_cons.mp hm with rfl | hm
      · rw [q1] at h2; cases h2; omega
      · obtain ⟨d2, b2, z1, z2, z3⟩ := mg_sw_mem r u b' v hsw hm
        rw [h2] at z1; cases z1; omega
  refine ⟨h.1, fun v d hd => ?_⟩
  obtain ⟨r, hr⟩ := h.2.2 v d hd
  exact ⟨r, key r v d hr hd⟩
/-- there is a least labelling -/
theorem mg_min {P : Nat → Prop} {w : Nat} (h : P w) : ∃ d, P d ∧ ∀ x, P x → d ≤ x := by
  induction w using Nat.strongRecOn with
  | _ w ih =>
    by_cases q : ∃ x, x < w ∧ P x
    · obtain ⟨x, hx, hp⟩ := q
      exact ih x hx hp
    · exact ⟨w, h, fun x hx => Nat.le_of_not_lt fun z => q ⟨x, z, hx⟩⟩
theorem mg_ex (E : Nat → Nat → Nat → Prop) (T : Nat → Prop) : ∃ D, mg_D E T D := by
  have h : ∀ v, ∃ o : Option Nat, (∀ d, o = some d → (∃ r, mg_wk E T r v d) ∧ ∀ r x, mg_wk E T r v x → d ≤ x) ∧ (o = none → ∀ r x, ¬ mg_wk E T r v x) := by
    intro v
    by_cases q : ∃ x, ∃ r, mg_wk E T r v x
    · obtain ⟨x, hx⟩ := q
      obtain ⟨d, h1, h2⟩ := mg_min (P := fun x => ∃ r, mg_wk E T r v x) hx
      refine ⟨some d, fun d' e => ?_, fun e => (by cases e)⟩
      cases e
      exact ⟨h1, fun r x hr => h2 x ⟨r, hr⟩⟩
    · exact ⟨none, fun d e => (by cases e), fun _ r x hr => q ⟨x, r, hr⟩⟩
  refine ⟨fun v => Classical.choose (h v), fun v hv => ?_, fun v u a b hE hu => ?_, fun v d hd => ?_⟩
  · have hs := Classical.choose_spec (h v)
    cases e : Classical.choose (h v) with
    | none => exact absurd ⟨hv, rfl⟩ (hs.2 e [] 0)
    | some d =>
      have := (hs.1 d e).2 [] 0 ⟨hv, rfl⟩
      show Classical.choose (h v) = some 0
      rw [e, show d = 0 by omega]
  · have hs := Classical.choose_spec (h v)
    obtain ⟨r, hr⟩ := ((Classical.choose_spec (h u)).1 b hu).1
    have hw : mg_wk E T (u :: r) v (a + b) := ⟨a, b, hE, hr, rfl⟩
    show ∃ d, Classical.choose (h v) = some d ∧ d ≤ a + b
    cases e : Classical.choose (h v) with
    | none => exact absurd hw (hs.2 e _ _)
    | some d => exact ⟨d, rfl, (hs.1 d e).2 _ _ hw⟩
  · exact ((Classical.choose_spec (h v)).1 d hd).1
/-- the states by which a street can end: 20 levels for each of 120 streets -/
def arP (x : Nat) : Bool := decide (21 ≤ x) && decide (x % 21 ≠ 20)
def arC : Nat → Nat
  | 0 => 0
  | n + 1 => arC n + if arP n = true then 1 else 0
theorem arC_eq : ∀ n, (n ≤ 21 → arC n = 0) ∧ (21 ≤ n → arC n + n / 21 + 20 = n)
  | 0 => ⟨fun _ => rfl, fun h => absurd h (by decide)⟩
  | n + 1 => by
    have ih := arC_eq n
    simp only [arC, arP, Bool.and_eq_true, decide_eq_true_eq]
    by_cases h : 21 ≤ n ∧ n % 21 ≠ 20
    · rw [if_pos h]; omega
    · rw [if_neg h]; omega
theorem mg_few2 : ∀ (n : Nat) (l : List Nat), l.Nodup → (∀ x ∈ l, x < n ∧ arP x = true) → l.length ≤ arC n
  | 0, l, _, h => by
    cases l with
    | nil => exact Nat.le_refl 0
    | cons x r => exact absurd (h x List.mem_cons_self).1 (Nat.not_lt_zero x)
  | n + 1, l, hl, h => by
    have h1 := mg_few2 n (l.erase n) (hl.erase n) (fun x hx => by
      have h2 := h x (List.mem_of_mem_erase hx)
      have h3 : x ≠ n := by
        rintro rfl
        exact (hl.not_mem_erase) hx
      exact ⟨by omega, h2.2⟩)
    simp only [arC]
    by_cases hm : n ∈ l
    · rw [if_pos (h n hm).2]
      have h5 : l.length ≤ (l.erase n).length + 1 := by
        rw [List.length_erase]
        split <;> omega
      omega
    · rw [List.erase_of_not_mem hm] at h1
      omega
section ROW
variable {f0 g0 : Nat → Nat → Int} {D : Nat → Option Nat} {D0 : Nat}
theorem D_mod (hM : MOk f0 g0) (hD : mg_D (mE f0 g0) (mT f0) D) {v d : Nat} (hv : v < 2541) (h : D v = some d) : d % 4096 < 2541 ∧ d ≤ 1100000000000000 := by
  obtain ⟨c, n, h1, h2, h3⟩ := mg_bd (fun _ _ _ h => mE_lt hM h) (fun _ _ _ h => mE_wt hM h) (mg_DI hD (fun _ _ _ h => mE_pos hM h)) hv h
  omega
/-- streets use energy -/
def UOk (f : Nat → Nat → Int) : Prop := ∀ q : Nat, 1 ≤ q → (q : Int) ≤ f 31 5 → 1 ≤ f 39 q
theorem wk_few (hM : MOk f0 g0) (hU : UOk f0) : ∀ (r : List Nat) (v w : Nat), mg_wk (mE f0 g0) (mT f0) r v w → ∃ c n, w = 4096 * c + n ∧ n ≤ (r.filter arP).length
  | [], _, _, e => ⟨0, 0, by rw [e.2], Nat.zero_le _⟩
  | u :: r, v, w, e => by
    obtain ⟨a, b, ⟨q, s, e', h1, h2, h3, h4⟩, h5, h6⟩ := e
    obtain ⟨c, n, q1, q2⟩ := wk_few hM hU r u b h5
    rcases h4 with ⟨-, z1, z2, z3, z4⟩ | ⟨z1, z2, z3, z4, z5⟩
    · refine ⟨(unZ f0 g0 (plZ f0 s).toNat).toNat + c, n, by omega, ?_⟩
      refine Nat.le_trans q2 ?_
      rw [List.filter_cons]
      split
      · rw [List.length_cons]; omega
      · exact Nat.le_refl _
    · refine ⟨(prZ f0 g0 q).toNat + c, n + 1, by omega, ?_⟩
      have hg := goZ_ne z3
      have hu := hU q z1 z2
      have ha : arP u = true := by
        unfold arP
        simp only [Bool.and_eq_true, decide_eq_true_eq]
        unfold neZ at z4 hg
        unfold toZ at h3
        by_cases hk : f0 31 17 = 2
        · rw [if_pos hk] at z4 hg h3; omega
        · rw [if_neg hk] at z4 hg h3; omega
      rw [List.filter_cons, if_pos ha, List.length_cons]
      omega
theorem D_few (hM : MOk f0 g0) (hU : UOk f0) (hD : mg_D (mE f0 g0) (mT f0) D) {v d : Nat} (hv : v < 2541) (h : D v = some d) : d % 4096 ≤ 2400 := by
  obtain ⟨r, hr⟩ := (mg_DI hD (fun _ _ _ h => mE_pos hM h)).2 v d h
  obtain ⟨c, n, h1, h2⟩ := wk_few hM hU r v d (mg_sw_wk r v d hr)
  have hin := mg_sw_in (fun _ _ _ h => mE_lt hM h) r v d hr
  have hnd := (List.nodup_cons.mp (mg_sw_nodup r v d hr)).2
  have := mg_few2 2541 (r.filter arP) (hnd.filter _) (fun x hx => by
    have := List.mem_filter.mp hx
    exact ⟨hin x this.1, this.2⟩)
  have h4 := (arC_eq 2541).2 (by decide)
  have : n ≤ 2400 := by omega
  omega
/-- a street's key, a unit's key, whether a street may follow -/
def wZ (f g : Nat → Nat → Int) (t : Nat) : Int := 4096 * prZ f g t + 1
def uZ (f g : Nat → Nat → Int) (n : Nat) : Int := if unZ f g n < 0 then 0 else 4096 * unZ f g n
def mfZ (f g : Nat → Nat → Int) (s t : Nat) : Prop := f 35 t = plZ f s ∧ 0 ≤ prZ f g t ∧ (s = 0 ∨ f 42 (121 * s + t) = 0)
theorem goZ_mf {s e t : Nat} : goZ f0 g0 s e t = true ↔ mfZ f0 g0 s t ∧ neZ f0 t ≤ e := by
  unfold goZ mfZ
  simp only [Bool.or_eq_true, Bool.and_eq_true, decide_eq_true_eq]
  constructor
  · rintro ⟨⟨⟨h1, h2⟩, h3⟩, h4⟩; exact ⟨⟨h1, h2, h4⟩, h3⟩
  · rintro ⟨⟨h1, h2, h4⟩, h3⟩; exact ⟨⟨⟨h1, h2⟩, h3⟩, h4⟩
theorem uZ_in (hM : MOk f0 g0) (n : Nat) : 0 ≤ uZ f0 g0 n ∧ uZ f0 g0 n ≤ 4096000 := by
  have := unZ_in hM n
  unfold uZ
  split <;> omega
theorem uZ_ne (hM : MOk f0 g0) {n : Nat} (h : uZ f0 g0 n ≠ 0) : 0 ≤ unZ f0 g0 n ∧ uZ f0 g0 n = 4096 * unZ f0 g0 n ∧ toZ f0 = 20 := by
  unfold uZ at h ⊢
  by_cases z : unZ f0 g0 n < 0
  · rw [if_pos z] at h; exact absurd rfl h
  · rw [if_neg z]
    refine ⟨by omega, rfl, ?_⟩
    unfold unZ at z
    unfold toZ
    by_cases k : f0 31 17 = 2
    · rw [if_pos k]
    · rw [if_pos (Or.inl k)] at z; omega
/-- what is held behind charging, behind driving -/
def chZ (u : Int) (h : Nat → Int) : Nat → Int
  | 0 => h 0
  | e + 1 => if u = 0 then h (e + 1) else if chZ u h e + u < h (e + 1) then chZ u h e + u else h (e + 1)
def drZ (n : Nat) (w : Int) (h : Nat → Int) (e : Nat) : Int := if e + n < 21 ∧ h (e + n) < 2305843009213693951 then h (e + n) + w else 2305843009213693951
theorem chZ_0 (h : Nat → Int) : ∀ e, chZ 0 h e = h e
  | 0 => rfl
  | e + 1 => if_pos rfl
theorem chZ_le {u : Int} {h : Nat → Int} : ∀ e, chZ u h e ≤ h e
  | 0 => Int.le_refl _
  | e + 1 => by
    simp only [chZ]
    split
    · omega
    · split <;> omega
theorem chZ_cl {u : Int} {h : Nat → Int} (hu : u ≠ 0) (e : Nat) : chZ u h (e + 1) ≤ chZ u h e + u := by
  simp only [chZ]
  rw [if_neg hu]
  split <;> omega
theorem chZ_low {u B : Int} {h : Nat → Int} (hu : 0 ≤ u ∧ u ≤ 4096000) (hh : ∀ e, 0 ≤ h e ∧ h e ≤ 2305843009213693951 ∧ (h e < 2305843009213693951 → h e ≤ B)) : ∀ e : Nat, 0 ≤ chZ u h e ∧ chZ u h e ≤ 2305843009213693951 ∧ (chZ u h e < 2305843009213693951 → chZ u h e ≤ B + 4096000 * e)
  | 0 => by
    have := hh 0
    simp only [chZ]
    omega
  | e + 1 => by
    have h1 := hh (e + 1)
    have h2 := chZ_low hu hh e
    simp only [chZ]
    split
    · omega
    · split <;> omega
/-- what holds of the held in the row's i-th place, behind street s -/
def TI (f0 g0 : Nat → Nat → Int) (D : Nat → Option Nat) (D0 i s : Nat) (h : Nat → Int) : Prop :=
  (∀ e, 0 ≤ h e ∧ h e ≤ 2305843009213693951 ∧ (h e < 2305843009213693951 → h e ≤ 500000000000 * i)) ∧
  (∀ e d : Nat, (e : Int) ≤ toZ f0 → D (21 * s + e) = some d → (D0 : Int) ≤ h e + d) ∧
  (∃ e d : Nat, (e : Int) ≤ toZ f0 ∧ D (21 * s + e) = some d ∧ h e + d = D0) ∧
  (∀ e d : Nat, (e : Int) ≤ toZ f0 → D (21 * s + e) = some d → h e + d = D0 → d % 4096 + i = D0 % 4096) ∧ (s : Int) ≤ f0 31 5
/-- a street by which the least label can be met -/
def mtZ (f0 g0 : Nat → Nat → Int) (D : Nat → Option Nat) (D0 s : Nat) (h : Nat → Int) (t : Nat) : Prop := mfZ f0 g0 s t ∧ ∃ e b d : Nat, neZ f0 t ≤ e ∧ (e : Int) ≤ toZ f0 ∧ (b : Int) = 21 * t + e - neZ f0 t ∧ D b = some d ∧ h e + wZ f0 g0 t + d = D0
/-- behind charging -/
def TC (f0 g0 : Nat → Nat → Int) (D : Nat → Option Nat) (D0 i s : Nat) (h : Nat → Int) : Prop :=
  (∀ e, 0 ≤ h e ∧ h e ≤ 2305843009213693951 ∧ (h e < 2305843009213693951 → h e ≤ 500000000000 * i + 4096000 * e)) ∧
  (∀ e d : Nat, (e : Int) ≤ toZ f0 → D (21 * s + e) = some d → (D0 : Int) ≤ h e + d) ∧
  (∃ e d : Nat, (e : Int) ≤ toZ f0 ∧ D (21 * s + e) = some d ∧ h e + d = D0) ∧
  (∀ e d : Nat, (e : Int) ≤ toZ f0 → D (21 * s + e) = some d → h e + d = D0 → d % 4096 + i = D0 % 4096) ∧
  (uZ f0 g0 (plZ f0 s).toNat ≠ 0 → ∀ e, h (e + 1) ≤ h e + uZ f0 g0 (plZ f0 s).toNat) ∧ (s : Int) ≤ f0 31 5
theorem mE_ch (hM : MOk f0 g0) {s e : Nat} (hs : (s : Int) ≤ f0 31 5) (hu : uZ f0 g0 (plZ f0 s).toNat ≠ 0) (he : e < 20) : mE f0 g0 (21 * s + e) (21 * s + (e + 1)) (uZ f0 g0 (plZ f0 s).toNat).toNat := by
  obtain ⟨h1, h2, h3⟩ := uZ_ne hM hu
  exact ⟨0, s, e, rfl, hs, by omega, Or.inl ⟨rfl, he, h1, by omega, by omega⟩⟩
theorem mE_dr {s e t b : Nat} (hs : (s : Int) ≤ f0 31 5) (he : (e : Int) ≤ toZ f0) (ht : 1 ≤ t ∧ (t : Int) ≤ f0 31 5) (hm : mfZ f0 g0 s t) (hn : neZ f0 t ≤ e) (hb : (b : Int) = 21 * t + e - neZ f0 t) : mE f0 g0 (21 * s + e) b (wZ f0 g0 t).toNat := by
  have := hm.2.1
  exact ⟨t, s, e, rfl, hs, he, Or.inr ⟨ht.1, ht.2, goZ_mf.mpr ⟨hm, hn⟩, hb, by unfold wZ; omega⟩⟩
theorem ch_lb (hM : MOk f0 g0) (hD : mg_D (mE f0 g0) (mT f0) D) {i s : Nat} {h : Nat → Int} (hT : TI f0 g0 D D0 i s h) : ∀ e d : Nat, (e : Int) ≤ toZ f0 → D (21 * s + e) = some d → (D0 : Int) ≤ chZ (uZ f0 g0 (plZ f0 s).toNat) h e + d
  | 0, d, he, hd => hT.2.1 0 d he hd
  | e + 1, d, he, hd => by
    have h1 := hT.2.1 (e + 1) d he hd
    have h20 := toZ_in f0
    simp only [chZ]
    split
    · exact h1
    · rename_i hu
      split
      · obtain ⟨d', q1, q2⟩ := hD.2.1 _ _ _ d (mE_ch hM hT.2.2.2.2 hu (by omega)) hd
        have := ch_lb hM hD hT e d' (by omega) q1
        have := uZ_in hM (plZ f0 s).toNat
        omega
      · exact h1
/-- charging, level by level -/
theorem ch_step (hM : MOk f0 g0) (hD : mg_D (mE f0 g0) (mT f0) D) {i s : Nat} {h : Nat → Int} (hT : TI f0 g0 D D0 i s h) {e : Nat} (he : e < 20) (hu : uZ f0 g0 (plZ f0 s).toNat ≠ 0) : (∃ d : Nat, D (21 * s + (e + 1)) = some d ∧ chZ (uZ f0 g0 (plZ f0 s).toNat) h (e + 1) + d = D0) ↔ ((∃ d : Nat, D (21 * s + (e + 1)) = some d ∧ h (e + 1) + d = D0) ∨ ((∃ d : Nat, D (21 * s + e) = some d ∧ chZ (uZ f0 g0 (plZ f0 s).toNat) h e + d = D0) ∧ ∃ d d' : Nat, D (21 * s + (e + 1)) = some d ∧ D (21 * s + e) = some d' ∧ (d' : Int) = d + uZ f0 g0 (plZ f0 s).toNat)) := by
  have h20 := (uZ_ne hM hu).2.2
  have hu0 := uZ_in hM (plZ f0 s).toNat
  constructor
  · rintro ⟨d, h1, h2⟩
    simp only [chZ] at h2
    rw [if_neg hu] at h2
    split at h2
    · obtain ⟨d', q1, q2⟩ := hD.2.1 _ _ _ d (mE_ch hM hT.2.2.2.2 hu he) h1
      have := ch_lb hM hD hT e d' (by omega) q1
      exact Or.inr ⟨⟨d', q1, by omega⟩, d, d', h1, q1, by omega⟩
    · exact Or.inl ⟨d, h1, h2⟩
  · rintro (⟨d, h1, h2⟩ | ⟨⟨d, h1, h2⟩, d1, d2, h3, h4, h5⟩)
    · have := ch_lb hM hD hT (e + 1) d (by omega) h1
      have := chZ_le (u := uZ f0 g0 (plZ f0 s).toNat) (h := h) (e + 1)
      exact ⟨d, h1, by omega⟩
    · rw [h1] at h4; cases h4
      have := ch_lb hM hD hT (e + 1) d1 (by omega) h3
      have := chZ_cl (h := h) hu e
      exact ⟨d1, h3, by omega⟩
theorem ch_tt (hM : MOk f0 g0) (hD : mg_D (mE f0 g0) (mT f0) D) {i s : Nat} {h : Nat → Int} (hT : TI f0 g0 D D0 i s h) : ∀ e d : Nat, (e : Int) ≤ toZ f0 → D (21 * s + e) = some d → chZ (uZ f0 g0 (plZ f0 s).toNat) h e + d = D0 → d % 4096 + i = D0 % 4096
  | 0, d, he, hd, hh => hT.2.2.2.1 0 d he hd hh
  | e + 1, d, he, hd, hh => by
    have h20 := toZ_in f0
    by_cases hu : uZ f0 g0 (plZ f0 s).toNat = 0
    · refine hT.2.2.2.1 (e + 1) d he hd ?_
      rw [hu, chZ_0] at hh
      exact hh
    · rcases (ch_step hM hD hT (e := e) (by omega) hu).mp ⟨d, hd, hh⟩ with ⟨d', h1, h2⟩ | ⟨⟨d', h1, h2⟩, d1, d2, h3, h4, h5⟩
      · rw [hd] at h1; cases h1
        exact hT.2.2.2.1 (e + 1) d he hd h2
      · rw [hd] at h3; cases h3
        rw [h1] at h4; cases h4
        have := ch_tt hM hD hT e d' (by omega) h1 h2
        have := (uZ_ne hM hu).2.1
        omega
theorem TI_TC (hM : MOk f0 g0) (hD : mg_D (mE f0 g0) (mT f0) D) {i s : Nat} {h : Nat → Int} (hT : TI f0 g0 D D0 i s h) : TC f0 g0 D D0 i s (chZ (uZ f0 g0 (plZ f0 s).toNat) h) := by
  refine ⟨chZ_low (uZ_in hM _) hT.1, ch_lb hM hD hT, ?_, ch_tt hM hD hT, fun hu e => chZ_cl hu e, hT.2.2.2.2⟩
  obtain ⟨e, d, h1, h2, h3⟩ := hT.2.2.1
  have := ch_lb hM hD hT e d h1 h2
  have := chZ_le (u := uZ f0 g0 (plZ f0 s).toNat) (h := h) e
  exact ⟨e, d, h1, h2, by omega⟩
/-- behind charging there is a street on -/
theorem TC_ex (hM : MOk f0 g0) (hD : mg_D (mE f0 g0) (mT f0) D) {i s : Nat} {h : Nat → Int} (hT : TC f0 g0 D D0 i s h) (hne : plZ f0 s ≠ f0 31 16) : ∃ t : Nat, 1 ≤ t ∧ (t : Int) ≤ f0 31 5 ∧ mtZ f0 g0 D D0 s h t := by
  have key : ∀ k e d : Nat, e + k = 20 → (e : Int) ≤ toZ f0 → D (21 * s + e) = some d → h e + d = D0 → ∃ t : Nat, 1 ≤ t ∧ (t : Int) ≤ f0 31 5 ∧ mtZ f0 g0 D D0 s h t := by
    intro k
    induction k with
    | zero =>
      intro e d hk he hd hh
      obtain ⟨r, hr⟩ := hD.2.2 _ _ hd
      cases r with
      | nil =>
        obtain ⟨s', e', q1, q2, q3, q4⟩ := hr.1
        have h20 := toZ_in f0
        have : s' = s := by omega
        subst this
        exact absurd q4 hne
      | cons u r =>
        obtain ⟨a, b, ⟨q, hE⟩, h2, h3⟩ := hr
        obtain ⟨b', q1, q2⟩ := mg_le hD r u b h2
        obtain ⟨d', q3, q4⟩ := hD.2.1 _ u a b' ⟨q, hE⟩ q1
        rw [hd] at q3; cases q3
        have h20 := toZ_in f0
        rcases Nat.eq_zero_or_pos q with rfl | hq
        · have := (mEk_0 (by omega) hE).1
          omega
        · obtain ⟨z1, z2, z3⟩ := mEk_t (by omega) hq hE
          obtain ⟨_, _, _, _, _, z4⟩ := hE
          have hm := goZ_mf.mp z1
          have := hm.1.2.1
          exact ⟨q, hq, (z4.elim (fun z => by omega) (fun z => z.2.1)), hm.1, e, u, b', hm.2, he, z2, q1, by unfold wZ; omega⟩
    | succ k ih =>
      intro e d hk he hd hh
      obtain ⟨r, hr⟩ := hD.2.2 _ _ hd
      cases r with
      | nil =>
        obtain ⟨s', e', q1, q2, q3, q4⟩ := hr.1
        have h20 := toZ_in f0
        have : s' = s := by omega
        subst this
        exact absurd q4 hne
      | cons u r =>
        obtain ⟨a, b, ⟨q, hE⟩, h2, h3⟩ := hr
        obtain ⟨b', q1, q2⟩ := mg_le hD r u b h2
        obtain ⟨d', q3, q4⟩ := hD.2.1 _ u a b' ⟨q, hE⟩ q1
        rw [hd] at q3; cases q3
        have h20 := toZ_in f0
        rcases Nat.eq_zero_or_pos q with rfl | hq
        · obtain ⟨z1, z2, z3, z4⟩ := mEk_0 (by omega) hE
          have hp := unZ_pos hM z2
          have hu : uZ f0 g0 (plZ f0 s).toNat ≠ 0 := by
            unfold uZ
            rw [if_neg (by omega)]
            omega
          have hu2 := uZ_ne hM hu
          have hc := hT.2.2.2.2.1 hu e
          subst z3
          have hb := hT.2.1 (e + 1) b' (by omega) q1
          exact ih (e + 1) b' (by omega) (by omega) q1 (by omega)
        · obtain ⟨z1, z2, z3⟩ := mEk_t (by omega) hq hE
          obtain ⟨_, _, _, _, _, z4⟩ := hE
          have hm := goZ_mf.mp z1
          have := hm.1.2.1
          exact ⟨q, hq, (z4.elim (fun z => by omega) (fun z => z.2.1)), hm.1, e, u, b', hm.2, he, z2, q1, by unfold wZ; omega⟩
  obtain ⟨e, d, h1, h2, h3⟩ := hT.2.2.1
  have h20 := toZ_in f0
  exact key (20 - e) e d (by omega) h1 h2 h3
/-- one more street -/
theorem TC_TI (hM : MOk f0 g0) (hD : mg_D (mE f0 g0) (mT f0) D) (h0 : D0 ≤ 1100000000000000) {i s t : Nat} {h : Nat → Int} (hT : TC f0 g0 D D0 i s h) (ht : 1 ≤ t ∧ (t : Int) ≤ f0 31 5) (hm : mtZ f0 g0 D D0 s h t) : TI f0 g0 D D0 (i + 1) t (drZ (neZ f0 t).toNat (wZ f0 g0 t) h) := by
  obtain ⟨hB, hL, hX, hC, -, hs⟩ := hT
  obtain ⟨hmf, e0, b0, d0, q1, q2, q3, q4, q5⟩ := hm
  have hne := neZ_in hM t
  have h20 := toZ_in f0
  have hpr := prZ_in hM t
  have hp0 := hmf.2.1
  have hwZ : wZ f0 g0 t = 4096 * prZ f0 g0 t + 1 := rfl
  have m5 := hM.1.2.1
  have hi : i < 4096 := by
    obtain ⟨e, d, z1, z2, z3⟩ := hX
    have := hC e d z1 z2 z3
    omega
  have hto : ∀ e : Nat, (e : Int) ≤ toZ f0 → e + (neZ f0 t).toNat < 21 → ((e + (neZ f0 t).toNat : Nat) : Int) ≤ toZ f0 := by
    intro e z1 z2
    unfold neZ toZ at *
    by_cases hk : f0 31 17 = 2
    · rw [if_pos hk] at *; omega
    · rw [if_neg hk] at *; omega
  have hedge : ∀ e d : Nat, (e : Int) ≤ toZ f0 → e + (neZ f0 t).toNat < 21 → D (21 * t + e) = some d → ∃ d', D (21 * s + (e + (neZ f0 t).toNat)) = some d' ∧ (d' : Int) ≤ wZ f0 g0 t + d := by
    intro e d z1 z2 z3
    obtain ⟨d', y1, y2⟩ := hD.2.1 _ _ _ d (mE_dr (b := 21 * t + e) hs (hto e z1 z2) ht hmf (by omega) (by omega)) z3
    exact ⟨d', y1, by omega⟩
  refine ⟨fun e => ?_, fun e d z1 z2 => ?_, ?_, fun e d z1 z2 z3 => ?_, ht.2⟩
  · have := hB (e + (neZ f0 t).toNat)
    unfold drZ
    split <;> omega
  · unfold drZ
    split
    · rename_i z
      obtain ⟨d', y1, y2⟩ := hedge e d z1 z.1 z2
      have := hL _ d' (hto e z1 z.1) y1
      omega
    · omega
  · have eb : b0 = 21 * t + (e0 - (neZ f0 t).toNat) := by omega
    refine ⟨e0 - (neZ f0 t).toNat, d0, by omega, by rw [← eb]; exact q4, ?_⟩
    unfold drZ
    rw [show e0 - (neZ f0 t).toNat + (neZ f0 t).toNat = e0 by omega, if_pos (by omega)]
    exact q5
  · unfold drZ at z3
    split at z3
    · rename_i z
      obtain ⟨d', y1, y2⟩ := hedge e d z1 z.1 z2
      have y3 := hL _ d' (hto e z1 z.1) y1
      have y4 := hC _ d' (hto e z1 z.1) y1 (by omega)
      have y5 := D_mod hM hD (v := 21 * t + e) (by omega) z2
      omega
    · omega
/-- the row's end is where its number of streets is the label's -/
theorem TI_end (hM : MOk f0 g0) (hD : mg_D (mE f0 g0) (mT f0) D) {i s : Nat} {h : Nat → Int} (hT : TI f0 g0 D D0 i s h) : (plZ f0 s = f0 31 16 ↔ i = D0 % 4096) ∧ i ≤ D0 % 4096 := by
  have hs := hT.2.2.2.2
  have hle : i ≤ D0 % 4096 := by
    obtain ⟨e, d, z1, z2, z3⟩ := hT.2.2.1
    have := hT.2.2.2.1 e d z1 z2 z3
    omega
  refine ⟨⟨fun hp => ?_, fun hi => ?_⟩, hle⟩
  · obtain ⟨e, d, z1, z2, z3⟩ := hT.2.2.1
    have := hT.2.2.2.1 e d z1 z2 z3
    have hz := hD.1 (21 * s + e) ⟨s, e, rfl, hs, z1, hp⟩
    rw [z2] at hz; cases hz
    omega
  · apply Classical.byContradiction
    intro hp
    have hC := TI_TC hM hD hT
    obtain ⟨t, t1, t2, hmf, e, b, d, q1, q2, q3, q4, q5⟩ := TC_ex hM hD hC hp
    obtain ⟨d', y1, y2⟩ := hD.2.1 _ _ _ d (mE_dr hs q2 ⟨t1, t2⟩ hmf q1 q3) q4
    have y3 := hC.2.1 e d' q2 y1
    have hp0 := hmf.2.1
    have hwZ : wZ f0 g0 t = 4096 * prZ f0 g0 t + 1 := rfl
    have y4 := hC.2.2.2.1 e d' q2 y1 (by omega)
    have m5 := hM.1.2.1
    have h20 := toZ_in f0
    have hne := neZ_in hM t
    have y5 := D_mod hM hD (v := b) (by omega) q4
    omega
/-- rows: the streets so far lead to s, with h held -/
def sZ (f : Nat → Nat → Int) (e : Nat) : Int := if (e : Int) = f 31 18 then 0 else 2305843009213693951
def RwS (f0 g0 : Nat → Nat → Int) (D : Nat → Option Nat) (D0 s : Nat) (h : Nat → Int) (t : Nat) (h' : Nat → Int) : Prop :=
  1 ≤ t ∧ (t : Int) ≤ f0 31 5 ∧ mtZ f0 g0 D D0 s (chZ (uZ f0 g0 (plZ f0 s).toNat) h) t ∧ (∀ t', 1 ≤ t' → t' < t → ¬ mtZ f0 g0 D D0 s (chZ (uZ f0 g0 (plZ f0 s).toNat) h) t') ∧ h' = drZ (neZ f0 t).toNat (wZ f0 g0 t) (chZ (uZ f0 g0 (plZ f0 s).toNat) h)
def Rw (f0 g0 : Nat → Nat → Int) (D : Nat → Option Nat) (D0 : Nat) (r : Nat → Int) : Nat → Nat → (Nat → Int) → Prop
  | 0, s, h => s = 0 ∧ h = sZ f0
  | n + 1, s, h => ∃ s1 h1, Rw f0 g0 D D0 r n s1 h1 ∧ RwS f0 g0 D D0 s1 h1 s h ∧ r n = s
theorem RwS_uniq {s t t' : Nat} {h h1 h2 : Nat → Int} (a : RwS f0 g0 D D0 s h t h1) (b : RwS f0 g0 D D0 s h t' h2) : t = t' ∧ h1 = h2 := by
  have e : t = t' := by
    rcases Nat.lt_trichotomy t t' with z | z | z
    · exact absurd a.2.2.1 (b.2.2.2.1 t a.1 z)
    · exact z
    · exact absurd b.2.2.1 (a.2.2.2.1 t' b.1 z)
  subst e
  exact ⟨rfl, a.2.2.2.2.trans b.2.2.2.2.symm⟩
theorem Rw_uniq {r r' : Nat → Int} : ∀ (n s s' : Nat) (h h' : Nat → Int), Rw f0 g0 D D0 r n s h → Rw f0 g0 D D0 r' n s' h' → s = s' ∧ h = h' ∧ ∀ i, i < n → r i = r' i
  | 0, s, s', h, h', a, b => ⟨a.1.trans b.1.symm, a.2.trans b.2.symm, fun i hi => absurd hi (Nat.not_lt_zero i)⟩
  | n + 1, s, s', h, h', a, b => by
    obtain ⟨s1, h1, a1, a2, a3⟩ := a
    obtain ⟨s2, h2, b1, b2, b3⟩ := b
    obtain ⟨rfl, rfl, e3⟩ := Rw_uniq n s1 s2 h1 h2 a1 b1
    obtain ⟨rfl, rfl⟩ := RwS_uniq a2 b2
    refine ⟨rfl, rfl, fun i hi => ?_⟩
    by_cases z : i = n
    · subst z; exact a3.trans b3.symm
    · exact e3 i (by omega)
theorem Rw_ext {r r' : Nat → Int} : ∀ (n s : Nat) (h : Nat → Int), (∀ i, i < n → r i = r' i) → Rw f0 g0 D D0 r n s h → Rw f0 g0 D D0 r' n s h
  | 0, s, h, _, a => a
  | n + 1, s, h, hr, a => by
    obtain ⟨s1, h1, a1, a2, a3⟩ := a
    exact ⟨s1, h1, Rw_ext n s1 h1 (fun i hi => hr i (by omega)) a1, a2, (hr n (by omega)).symm.trans a3⟩
/-- a row is a chain of streets -/
theorem Rw_ch {r : Nat → Int} : ∀ (n s : Nat) (h : Nat → Int), Rw f0 g0 D D0 r n s h → ((n = 0 ∧ s = 0) ∨ 1 ≤ n ∧ r (n - 1) = s) ∧ ∀ i, i < n → 1 ≤ r i ∧ r i ≤ f0 31 5 ∧ f0 35 (r i).toNat = (if i = 0 then plZ f0 0 else plZ f0 (r (i - 1)).toNat)
  | 0, s, h, a => ⟨Or.inl ⟨rfl, a.1⟩, fun i hi => absurd hi (Nat.not_lt_zero i)⟩
  | n + 1, s, h, a => by
    obtain ⟨s1, h1, a1, a2, a3⟩ := a
    obtain ⟨c1, c2⟩ := Rw_ch n s1 h1 a1
    refine ⟨Or.inr ⟨by omega, a3⟩, fun i hi => ?_⟩
    by_cases z : i = n
    · subst z
      have h1 := a2.1
      have h2 := a2.2.1
      have h3 := a2.2.2.1.1.1
      rw [a3]
      refine ⟨by omega, h2, ?_⟩
      rw [Int.toNat_natCast, h3]
      rcases c1 with ⟨q1, q2⟩ | ⟨q1, q2⟩
      · rw [if_pos q1, q2]
      · rw [if_neg (by omega), q2, Int.toNat_natCast]
    · exact c2 i (by omega)
theorem sZ_TI (hM : MOk f0 g0) (h18 : f0 31 18 ≤ toZ f0) (hD : D (f0 31 18).toNat = some D0) (h0 : D0 ≤ 1100000000000000) : TI f0 g0 D D0 0 0 (sZ f0) := by
  have h8 := hM.1.2.2.2.2.2
  have hm := hM.1.2.1
  refine ⟨fun e => ?_, fun e d h1 h2 => ?_, ⟨(f0 31 18).toNat, D0, by omega, by rw [Nat.mul_zero, Nat.zero_add]; exact hD, ?_⟩, fun e d h1 h2 h3 => ?_, hm.1⟩
  · unfold sZ
    split <;> omega
  · unfold sZ
    split
    · rename_i z
      have : e = (f0 31 18).toNat := by omega
      rw [Nat.mul_zero, Nat.zero_add, this, hD] at h2
      cases h2
      omega
    · omega
  · unfold sZ
    rw [if_pos (by omega)]
    omega
  · unfold sZ at h3
    split at h3
    · rename_i z
      omega
    · omega
end ROW
