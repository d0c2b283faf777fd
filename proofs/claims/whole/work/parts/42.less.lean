/-! THE REFERENCE: less(), and what stays while labels are sought -/
/-- what less() answers, and the labels then -/
def lsR (f g : Nat → Nat → Int) (a : Nat) (c n x : Int) (f2 g2 : Nat → Nat → Int) : Prop := ((0 ≤ g 43 a ∧ (g 43 a < c ∨ g 43 a = c ∧ f 44 a ≤ n)) ∧ x = 0 ∧ f2 = f ∧ g2 = g) ∨ (¬ (0 ≤ g 43 a ∧ (g 43 a < c ∨ g 43 a = c ∧ f 44 a ≤ n)) ∧ x = 1 ∧ f2 = am_up f 44 a n ∧ g2 = am_up g 43 a c)
theorem lsR_x {f g f2 g2 : Nat → Nat → Int} {a : Nat} {c n x : Int} (h : lsR f g a c n x f2 g2) : x = 0 ∨ x = 1 := h.imp (fun q => q.2.1) (fun q => q.2.1)
theorem sp_39 {d L : Nat} {sw : Bool} {f g : Nat → Nat → Int} {Q : Option Value → am_H → Prop} {a c n : Int} (K : ∀ x f2 g2, lsR f g a.toNat c n x f2 g2 → Q (some (.int (iZ x))) (53, sh_lt L, iH f2, jH g2, sh_rt sw)) (ha : 0 ≤ a ∧ a < 2541) (hc : lR c) (hn : iR n) (h1 : lR (g 43 a.toNat)) (h2 : iR (f 44 a.toNat)) : am_call (d + 1) 39 [.ref 31, .int (iZ a), .long (lZ c), .int (iZ n)] (53, sh_lt L, iH f, jH g, sh_rt sw) Q := by
  refine ap_call (by decide) (Nat.le_of_ble_eq_true rfl) rfl ?_
  refine ap_go kc_39_0 ?_
  refine ap_aload_n rfl ?_; refine ap_getR ow_39 rf_8_49 rfl rfl rfl ?_; refine ap_iload_n rfl ?_; refine ai_laload (n := 2541) rfl rfl (by decide) ?_ ?_; refine ai_lconst 0 rfl ?_
  refine ai_lclt rfl rfl (fun hb0 => ?_) (fun hb0 => ?_) ?_
  · refine ap_go kc_39_46 ?_
    refine ap_aload_n rfl ?_; refine ap_getR ow_39 rf_8_49 rfl rfl rfl ?_; refine ap_iload_n rfl ?_; refine ap_lload_n rfl ?_; refine ai_lastore (n := 2541) rfl rfl (by decide) ?_ ?_; refine ap_aload_n rfl ?_; refine ap_getR ow_39 rf_8_52 rfl rfl rfl ?_; refine ap_iload_n rfl ?_; refine ap_iload rfl ?_; refine ai_iastore (n := 2541) rfl rfl (by decide) ?_ ?_; refine ai_iconst ?_; refine ai_zret rfl ?_ ?_
    · first | exact K 0 f g (Or.inl ⟨by omega, rfl, rfl, rfl⟩) | exact K 1 _ _ (Or.inr ⟨by omega, rfl, rfl, rfl⟩)
    all_goals (omega)
  · refine ap_go kc_39_11 ?_
    refine ap_aload_n rfl ?_; refine ap_getR ow_39 rf_8_49 rfl rfl rfl ?_; refine ap_iload_n rfl ?_; refine ai_laload (n := 2541) rfl rfl (by decide) ?_ ?_; refine ap_lload_n rfl ?_
    refine ai_lclt rfl rfl (fun hb1 => ?_) (fun hb1 => ?_) ?_
    · refine ap_go kc_39_44 ?_
      refine ai_iconst ?_; refine ai_zret rfl ?_ ?_
      · first | exact K 0 f g (Or.inl ⟨by omega, rfl, rfl, rfl⟩) | exact K 1 _ _ (Or.inr ⟨by omega, rfl, rfl, rfl⟩)
      all_goals (omega)
    · refine ap_go kc_39_22 ?_
      refine ap_aload_n rfl ?_; refine ap_getR ow_39 rf_8_49 rfl rfl rfl ?_; refine ap_iload_n rfl ?_; refine ai_laload (n := 2541) rfl rfl (by decide) ?_ ?_; refine ap_lload_n rfl ?_
      refine ai_lcne rfl rfl (fun hb2 => ?_) (fun hb2 => ?_) ?_
      · refine ap_go kc_39_46 ?_
        refine ap_aload_n rfl ?_; refine ap_getR ow_39 rf_8_49 rfl rfl rfl ?_; refine ap_iload_n rfl ?_; refine ap_lload_n rfl ?_; refine ai_lastore (n := 2541) rfl rfl (by decide) ?_ ?_; refine ap_aload_n rfl ?_; refine ap_getR ow_39 rf_8_52 rfl rfl rfl ?_; refine ap_iload_n rfl ?_; refine ap_iload rfl ?_; refine ai_iastore (n := 2541) rfl rfl (by decide) ?_ ?_; refine ai_iconst ?_; refine ai_zret rfl ?_ ?_
        · first | exact K 0 f g (Or.inl ⟨by omega, rfl, rfl, rfl⟩) | exact K 1 _ _ (Or.inr ⟨by omega, rfl, rfl, rfl⟩)
        all_goals (omega)
      · refine ap_go kc_39_33 ?_
        refine ap_aload_n rfl ?_; refine ap_getR ow_39 rf_8_52 rfl rfl rfl ?_; refine ap_iload_n rfl ?_; refine ai_iaload (n := 2541) rfl rfl (by decide) ?_ ?_; refine ap_iload rfl ?_
        refine ai_icgt rfl rfl (fun hb3 => ?_) (fun hb3 => ?_) ?_
        · refine ap_go kc_39_46 ?_
          refine ap_aload_n rfl ?_; refine ap_getR ow_39 rf_8_49 rfl rfl rfl ?_; refine ap_iload_n rfl ?_; refine ap_lload_n rfl ?_; refine ai_lastore (n := 2541) rfl rfl (by decide) ?_ ?_; refine ap_aload_n rfl ?_; refine ap_getR ow_39 rf_8_52 rfl rfl rfl ?_; refine ap_iload_n rfl ?_; refine ap_iload rfl ?_; refine ai_iastore (n := 2541) rfl rfl (by decide) ?_ ?_; refine ai_iconst ?_; refine ai_zret rfl ?_ ?_
          · first | exact K 0 f g (Or.inl ⟨by omega, rfl, rfl, rfl⟩) | exact K 1 _ _ (Or.inr ⟨by omega, rfl, rfl, rfl⟩)
          all_goals (omega)
        · refine ap_go kc_39_44 ?_
          refine ai_iconst ?_; refine ai_zret rfl ?_ ?_
          · first | exact K 0 f g (Or.inl ⟨by omega, rfl, rfl, rfl⟩) | exact K 1 _ _ (Or.inr ⟨by omega, rfl, rfl, rfl⟩)
          all_goals (omega)
        all_goals (omega)
      all_goals (omega)
    all_goals (omega)
  all_goals (omega)
/-- only labels change -/
def Fr (f0 g0 f g : Nat → Nat → Int) : Prop := (∀ a, a ≠ 44 → f a = f0 a) ∧ ∀ a, a ≠ 43 → g a = g0 a
theorem Fr_MOk {f0 g0 f g : Nat → Nat → Int} (h : Fr f0 g0 f g) (hM : MOk f0 g0) : MOk f g := by
  unfold MOk at hM ⊢
  rw [h.1 31 (by decide), h.1 35 (by decide), h.1 36 (by decide), h.1 39 (by decide), h.1 42 (by decide), h.2 34 (by decide), h.2 37 (by decide), h.2 38 (by decide), h.2 40 (by decide), h.2 41 (by decide), h.2 31 (by decide)]
  exact hM
theorem Fr_pr {f0 g0 f g : Nat → Nat → Int} (h : Fr f0 g0 f g) (t : Nat) : prZ f g t = prZ f0 g0 t := by
  unfold prZ spZ
  rw [h.1 31 (by decide), h.2 31 (by decide), h.2 41 (by decide), h.2 40 (by decide), h.2 38 (by decide), h.2 37 (by decide)]
theorem Fr_un {f0 g0 f g : Nat → Nat → Int} (h : Fr f0 g0 f g) (t : Nat) : unZ f g t = unZ f0 g0 t := by
  unfold unZ
  rw [h.1 31 (by decide), h.2 34 (by decide)]
theorem Fr_ne {f0 g0 f g : Nat → Nat → Int} (h : Fr f0 g0 f g) (t : Nat) : neZ f t = neZ f0 t := by
  unfold neZ
  rw [h.1 31 (by decide), h.1 39 (by decide)]
theorem Fr_to {f0 g0 f g : Nat → Nat → Int} (h : Fr f0 g0 f g) : toZ f = toZ f0 := by
  unfold toZ
  rw [h.1 31 (by decide)]
theorem Fr_pl {f0 g0 f g : Nat → Nat → Int} (h : Fr f0 g0 f g) (t : Nat) : plZ f t = plZ f0 t := by
  unfold plZ
  rw [h.1 31 (by decide), h.1 36 (by decide)]
theorem Fr_go {f0 g0 f g : Nat → Nat → Int} (h : Fr f0 g0 f g) (s : Nat) (e : Int) (t : Nat) : goZ f g s e t = goZ f0 g0 s e t := by
  unfold goZ
  rw [Fr_pl h, Fr_pr h, Fr_ne h, h.1 35 (by decide), h.1 42 (by decide)]
theorem Fr_up {f0 g0 f g : Nat → Nat → Int} (h : Fr f0 g0 f g) {a : Nat} {n c : Int} : Fr f0 g0 (am_up f 44 a n) (am_up g 43 a c) := ⟨fun b hb => (am_up_ne hb).trans (h.1 b hb), fun b hb => (am_up_ne hb).trans (h.2 b hb)⟩
theorem mEk_t {f g : Nat → Nat → Int} {s e t u w : Nat} (he : e ≤ 20) (ht : 1 ≤ t) (h : mEk f g t (21 * s + e) u w) : goZ f g s e t = true ∧ (u : Int) = 21 * t + e - neZ f t ∧ w = 4096 * (prZ f g t).toNat + 1 := by
  obtain ⟨s', e', h1, h2, h3, h4⟩ := h
  have ht := toZ_in f
  have es : s' = s := by omega
  have ee : e' = e := by omega
  subst es; subst ee
  rcases h4 with ⟨q, -⟩ | ⟨-, -, q1, q2, q3⟩
  · omega
  · exact ⟨q1, q2, q3⟩
theorem mEk_0 {f g : Nat → Nat → Int} {s e u w : Nat} (he : e ≤ 20) (h : mEk f g 0 (21 * s + e) u w) : e < 20 ∧ 0 ≤ unZ f g (plZ f s).toNat ∧ u = 21 * s + e + 1 ∧ w = 4096 * (unZ f g (plZ f s).toNat).toNat := by
  obtain ⟨s', e', h1, h2, h3, h4⟩ := h
  have ht := toZ_in f
  have es : s' = s := by omega
  have ee : e' = e := by omega
  subst es; subst ee
  rcases h4 with ⟨-, q1, q2, q3, q4⟩ | ⟨q, -⟩
  · exact ⟨q1, q2, q3, q4⟩
  · omega
/-- which edges a pass has done: by state, then by street -/
def Dt (s e t : Nat) (q v : Nat) : Prop := s < v / 21 ∨ v / 21 = s ∧ (v % 21 < e ∨ v % 21 = e ∧ q < t)
theorem PI_next {f0 g0 : Nat → Nat → Int} {cs ns c n : Nat → Int} {s e t : Nat} {more : Int} (he : e ≤ 20) (h : PI f0 g0 cs ns (Dt s e t) more c n) (hn : ∀ u w k, mEk f0 g0 t (21 * s + e) u w → labZ c n u = some k → ∃ d, labZ c n (21 * s + e) = some d ∧ d ≤ w + k) : PI f0 g0 cs ns (Dt s e (t + 1)) more c n := by
  refine PI_skip h (fun q v u w k h1 h2 h3 => ?_)
  rcases h2 with h2 | ⟨h2, h4 | ⟨h4, h5⟩⟩
  · exact Or.inl (Or.inl h2)
  · exact Or.inl (Or.inr ⟨h2, Or.inl h4⟩)
  · by_cases hq : q = t
    · have hv : v = 21 * s + e := by omega
      subst hq; subst hv
      exact Or.inr (hn u w k h1 h3)
    · exact Or.inl (Or.inr ⟨h2, Or.inr ⟨h4, by omega⟩⟩)
theorem labZ_some {c n : Nat → Int} {u k : Nat} (h : labZ c n u = some k) : 0 ≤ c u ∧ k = 4096 * (c u).toNat + (n u).toNat ∧ u < 2541 := by
  unfold labZ at h
  by_cases hc : c u < 0 ∨ 2541 ≤ u
  · rw [if_pos hc] at h; cases h
  · rw [if_neg hc] at h; cases h
    exact ⟨by omega, rfl, by omega⟩
/-- less() at an edge of the pass -/
theorem PI_less {f0 g0 f g f2 g2 : Nat → Nat → Int} {cs ns : Nat → Int} {s e t u w : Nat} {more x C N : Int} (hM : MOk f0 g0) (hF : Fr f0 g0 f g) (he : e ≤ 20) (h : PI f0 g0 cs ns (Dt s e t) more (g 43) (f 44)) (hE : mEk f0 g0 t (21 * s + e) u w) (hu1 : ∀ u' w', mEk f0 g0 t (21 * s + e) u' w' → u' = u ∧ w' = w) (hcu : 0 ≤ g 43 u) (hC : 0 ≤ C) (hN : 0 ≤ N) (hw : (w : Int) = 4096 * (C - g 43 u) + (N - f 44 u)) (hNb : N ≤ f 44 u + 1) (hR : lsR f g (21 * s + e) C N x f2 g2) : Fr f0 g0 f2 g2 ∧ PI f0 g0 cs ns (Dt s e (t + 1)) (if x = 1 then 1 else more) (g2 43) (f2 44) := by
  have hLI := h.1
  have hlt := mE_lt hM ⟨t, hE⟩
  have hbd := LI_bd hM hLI hlt.2 hcu
  have hwf := hLI.1 u hlt.2
  have hlu : labZ (g 43) (f 44) u = some (4096 * (g 43 u).toNat + (f 44 u).toNat) := if_neg (by omega)
  have hkey : w + (4096 * (g 43 u).toNat + (f 44 u).toNat) = 4096 * C.toNat + N.toNat := by omega
  have eC : ((C.toNat : Nat) : Int) = C := Int.toNat_of_nonneg hC
  have eN : ((N.toNat : Nat) : Int) = N := Int.toNat_of_nonneg hN
  have hN4 : N.toNat < 4096 := by omega
  have hk := keep_iff (c := g 43) (n := f 44) (v := 21 * s + e) (C := C.toNat) (N := N.toNat) hlt.1 (hLI.1 _ hlt.1).2 hN4
  rw [eC, eN] at hk
  rcases hR with ⟨h1, rfl, rfl, rfl⟩ | ⟨h1, rfl, rfl, rfl⟩
  · refine ⟨hF, ?_⟩
    rw [if_neg (by decide)]
    refine PI_next he h (fun u' w' k' q1 q2 => ?_)
    obtain ⟨rfl, rfl⟩ := hu1 u' w' q1
    rw [hlu] at q2
    cases q2
    rw [hkey]
    exact hk.mp h1
  · refine ⟨Fr_up hF, ?_⟩
    rw [if_pos rfl, am_up_eq, am_up_eq]
    have := PI_up (Dn' := Dt s e (t + 1)) hM h ⟨t, hE⟩ hlu hkey hN4 (fun q => h1 (hk.mpr (by rw [← hkey]; exact q)))
    rw [eC, eN] at this
    exact this
