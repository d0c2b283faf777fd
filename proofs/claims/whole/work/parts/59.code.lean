/-! THE CLASS'S STATES: street times levels plus level -/
def lvN (f : Nat → Nat → Int) : Nat := (toZ f).toNat + 1
def rhoZ (f : Nat → Nat → Int) (v : Nat) : Nat := 21 * (v / lvN f) + v % lvN f
def nN (f : Nat → Nat → Int) : Nat := ((f 31 5).toNat + 1) * lvN f
def cE (f g : Nat → Nat → Int) (v u w : Nat) : Prop := mE f g (rhoZ f v) (rhoZ f u) w
def cT (f : Nat → Nat → Int) (v : Nat) : Prop := mT f (rhoZ f v)
section CODE
variable {f0 g0 : Nat → Nat → Int} {D : Nat → Option Nat}
theorem lvN_or (f : Nat → Nat → Int) : (lvN f = 21 ∧ toZ f = 20 ∧ f 31 17 = 2) ∨ (lvN f = 1 ∧ toZ f = 0 ∧ f 31 17 ≠ 2) := by
  unfold lvN toZ
  by_cases h : f 31 17 = 2
  · rw [if_pos h]; exact Or.inl ⟨rfl, rfl, h⟩
  · rw [if_neg h]; exact Or.inr ⟨rfl, rfl, h⟩
theorem rho_se {s e : Nat} (he : e < lvN f0) : rhoZ f0 (s * lvN f0 + e) = 21 * s + e := by
  unfold rhoZ
  rcases lvN_or f0 with ⟨h, -⟩ | ⟨h, -⟩
  · rw [h] at he ⊢; omega
  · rw [h] at he ⊢; omega
theorem lv_se {s e : Nat} (he : e < lvN f0) : (s * lvN f0 + e) / lvN f0 = s ∧ (s * lvN f0 + e) % lvN f0 = e := by
  rcases lvN_or f0 with ⟨h, -⟩ | ⟨h, -⟩
  · rw [h] at he ⊢; omega
  · rw [h] at he ⊢; omega
theorem lv_v (v : Nat) : v = (v / lvN f0) * lvN f0 + v % lvN f0 ∧ v % lvN f0 < lvN f0 := by
  rcases lvN_or f0 with ⟨h, -⟩ | ⟨h, -⟩
  · rw [h]; omega
  · rw [h]; omega
theorem nN_lt {s e : Nat} (hs : (s : Int) ≤ f0 31 5) (he : e < lvN f0) : s * lvN f0 + e < nN f0 := by
  unfold nN
  rcases lvN_or f0 with ⟨h, -⟩ | ⟨h, -⟩
  · rw [h] at he ⊢; omega
  · rw [h] at he ⊢; omega
theorem nN_s {v : Nat} (hv : v < nN f0) : v / lvN f0 ≤ (f0 31 5).toNat := by
  unfold nN at hv
  rcases lvN_or f0 with ⟨h, -⟩ | ⟨h, -⟩
  · rw [h] at hv ⊢; omega
  · rw [h] at hv ⊢; omega
theorem nN_in (hM : MOk f0 g0) : lvN f0 ≤ nN f0 ∧ nN f0 ≤ 2541 := by
  have := hM.1.2.1
  unfold nN
  rcases lvN_or f0 with ⟨h, -⟩ | ⟨h, -⟩
  · rw [h]; omega
  · rw [h]; omega
theorem rho_lt (hM : MOk f0 g0) {v : Nat} (hv : v < nN f0) : rhoZ f0 v < 2541 := by
  have h1 := nN_s hv
  have h2 := (lv_v (f0 := f0) v).2
  have := hM.1.2.1
  unfold rhoZ
  rcases lvN_or f0 with ⟨h, -⟩ | ⟨h, -⟩
  · rw [h] at h1 h2 ⊢; omega
  · rw [h] at h1 h2 ⊢; omega
/-- the end of an edge is coded -/
theorem mE_end (hM : MOk f0 g0) {v u w : Nat} (h : mE f0 g0 v u w) : ∃ u', u' < nN f0 ∧ rhoZ f0 u' = u := by
  obtain ⟨q, s, e, h1, h2, h3, h4⟩ := h
  rcases h4 with ⟨-, z1, z2, z3, z4⟩ | ⟨z1, z2, z3, z4, z5⟩
  · have h20 : toZ f0 = 20 := by
      unfold unZ at z2
      unfold toZ
      by_cases k : f0 31 17 = 2
      · rw [if_pos k]
      · rw [if_pos (Or.inl k)] at z2; omega
    have hl : e + 1 < lvN f0 := by unfold lvN; omega
    exact ⟨s * lvN f0 + (e + 1), nN_lt h2 hl, by rw [rho_se hl]; omega⟩
  · have hn := neZ_in hM q
    have hg := goZ_ne z3
    obtain ⟨k, hk⟩ : ∃ k : Nat, (k : Int) = e - neZ f0 q := ⟨(e - neZ f0 q).toNat, by omega⟩
    have hl : k < lvN f0 := by unfold lvN; omega
    exact ⟨q * lvN f0 + k, nN_lt z2 hl, by rw [rho_se hl]; omega⟩
theorem c_BE (hM : MOk f0 g0) (hD : mg_D (mE f0 g0) (mT f0) D) : BE (cE f0 g0) (cT f0) (fun v => D (rhoZ f0 v)) (nN f0) := by
  refine ⟨fun v _ h => hD.1 _ h, fun v u a b _ _ h1 h2 => hD.2.1 _ _ a b h1 h2, fun v d hv hd => ?_, fun v d hv hd => ?_⟩
  · obtain ⟨r, hr⟩ := hD.2.2 _ d hd
    cases r with
    | nil => exact Or.inl ⟨hr.1, hr.2⟩
    | cons u r =>
      obtain ⟨a, b, h1, h2, h3⟩ := hr
      obtain ⟨b', q1, q2⟩ := mg_le hD r u b h2
      obtain ⟨d', q3, q4⟩ := hD.2.1 _ u a b' h1 q1
      rw [show D (rhoZ f0 v) = some d from hd] at q3
      cases q3
      obtain ⟨u', y1, y2⟩ := mE_end hM h1
      right
      refine ⟨u', a, b', y1, ?_, mE_pos hM h1, ?_, by omega⟩
      · unfold cE; rw [y2]; exact h1
      · show D (rhoZ f0 u') = some b'
        rw [y2]; exact q1
  · have := D_mod hM hD (rho_lt hM hv) hd
    omega
/-- what leads into a state -/
theorem cE_inv (hM : MOk f0 g0) {v t e a : Nat} (he : e < lvN f0) (h : cE f0 g0 v (t * lvN f0 + e) a) :
    (1 ≤ e ∧ v + 1 = t * lvN f0 + e ∧ 0 < uZ f0 g0 (plZ f0 t).toNat ∧ (a : Int) = uZ f0 g0 (plZ f0 t).toNat) ∨
    (1 ≤ t ∧ e + (neZ f0 t).toNat < lvN f0 ∧ ∃ s : Nat, (s : Int) ≤ f0 31 5 ∧ mfZ f0 g0 s t ∧ v = s * lvN f0 + (e + (neZ f0 t).toNat) ∧ (a : Int) = wZ f0 g0 t) := by
  unfold cE at h
  rw [rho_se he] at h
  obtain ⟨hv1, hv2⟩ := lv_v (f0 := f0) v
  obtain ⟨q, s, e', h1, h2, h3, h4⟩ := h
  have hl := toZ_in f0
  have elv : (lvN f0 : Int) = toZ f0 + 1 := by unfold lvN; omega
  have hs : v / lvN f0 = s ∧ v % lvN f0 = e' := by
    unfold rhoZ at h1
    omega
  rw [hs.1, hs.2] at hv1
  rcases h4 with ⟨-, z1, z2, z3, z4⟩ | ⟨z1, z2, z3, z4, z5⟩
  · left
    have e1 : t = s ∧ e = e' + 1 := by omega
    obtain ⟨rfl, rfl⟩ := e1
    have := unZ_pos hM z2
    have eu : uZ f0 g0 (plZ f0 t).toNat = 4096 * unZ f0 g0 (plZ f0 t).toNat := by unfold uZ; rw [if_neg (by omega)]
    refine ⟨by omega, by omega, by omega, by omega⟩
  · right
    have hg := goZ_mf.mp z3
    have hn := neZ_in hM q
    have hp := hg.1.2.1
    have e1 : t = q := by omega
    subst e1
    have e2 : e' = e + (neZ f0 t).toNat := by omega
    refine ⟨z1, by omega, s, h2, hg.1, by rw [← e2]; exact hv1, by unfold wZ; omega⟩
theorem cE_ch (hM : MOk f0 g0) {t e : Nat} (ht : (t : Int) ≤ f0 31 5) (he : e + 1 < lvN f0) (hu : uZ f0 g0 (plZ f0 t).toNat ≠ 0) : cE f0 g0 (t * lvN f0 + e) (t * lvN f0 + (e + 1)) (uZ f0 g0 (plZ f0 t).toNat).toNat := by
  unfold cE
  rw [rho_se he, rho_se (by omega)]
  have := toZ_in f0
  unfold lvN at he
  exact mE_ch hM ht hu (by omega)
theorem cE_dr (hM : MOk f0 g0) {s t e : Nat} (hs : (s : Int) ≤ f0 31 5) (ht : 1 ≤ t ∧ (t : Int) ≤ f0 31 5) (he : e + (neZ f0 t).toNat < lvN f0) (hm : mfZ f0 g0 s t) : cE f0 g0 (s * lvN f0 + (e + (neZ f0 t).toNat)) (t * lvN f0 + e) (wZ f0 g0 t).toNat := by
  unfold cE
  rw [rho_se he, rho_se (by omega)]
  have := toZ_in f0
  have hn := neZ_in hM t
  unfold lvN at he
  exact mE_dr hs (by omega) ht hm (by omega) (by omega)
theorem cT_iff (hM : MOk f0 g0) {s e : Nat} (hs : (s : Int) ≤ f0 31 5) (he : e < lvN f0) : cT f0 (s * lvN f0 + e) ↔ plZ f0 s = f0 31 16 := by
  unfold cT mT
  rw [rho_se he]
  have h20 := toZ_in f0
  have he' : (e : Int) ≤ toZ f0 := by unfold lvN at he; omega
  constructor
  · rintro ⟨s', e', h1, h2, h3, h4⟩
    have : s = s' := by omega
    subst this
    exact h4
  · intro h
    exact ⟨s, e, rfl, hs, he', h⟩
end CODE
