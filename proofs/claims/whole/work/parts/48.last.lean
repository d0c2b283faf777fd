/-! THE REFERENCE: findLast() -/
/-- the states in reach -/
def RS (f g : Nat → Nat → Int) (a0 v : Nat) : Prop := ∀ X : Nat → Prop, X a0 → (∀ q v u w, mEk f g q v u w → X v → X u) → X v
theorem RS_0 {f g : Nat → Nat → Int} {a0 : Nat} : RS f g a0 a0 := fun _ h _ => h
theorem RS_s {f g : Nat → Nat → Int} {a0 q v u w : Nat} (hE : mEk f g q v u w) (h : RS f g a0 v) : RS f g a0 u := fun X h1 h2 => h2 q v u w hE (h X h1 h2)
/-- the nearest of those that count -/
def nsL (ok : Nat → Prop) (fr : Nat → Int) : Nat → Nat → Prop
  | 0, l => l = 0
  | k + 1, l => ∃ l0, nsL ok fr k l0 ∧ ((ok (k + 1) ∧ (l0 = 0 ∨ fr (k + 1) < fr l0) ∧ l = k + 1) ∨ (¬ (ok (k + 1) ∧ (l0 = 0 ∨ fr (k + 1) < fr l0)) ∧ l = l0))
theorem nsL_uniq {ok : Nat → Prop} {fr : Nat → Int} : ∀ k l l', nsL ok fr k l → nsL ok fr k l' → l = l'
  | 0, _, _, a, b => a.trans b.symm
  | k + 1, l, l', a, b => by
    obtain ⟨l0, a1, a2⟩ := a
    obtain ⟨l1, b1, b2⟩ := b
    have := nsL_uniq k l0 l1 a1 b1
    subst this
    rcases a2 with ⟨p1, p2, p3⟩ | ⟨p1, p2⟩ <;> rcases b2 with ⟨q1, q2, q3⟩ | ⟨q1, q2⟩
    · exact p3.trans q3.symm
    · exact absurd ⟨p1, p2⟩ q1
    · exact absurd ⟨q1, q2⟩ p1
    · exact p2.trans q2.symm
theorem nsL_le {ok : Nat → Prop} {fr : Nat → Int} : ∀ k l, nsL ok fr k l → l ≤ k
  | 0, _, a => Nat.le_of_eq a
  | k + 1, l, a => by
    obtain ⟨l0, a1, a2⟩ := a
    have := nsL_le k l0 a1
    rcases a2 with ⟨p1, p2, p3⟩ | ⟨p1, p2⟩ <;> omega
theorem nsL_cg {ok ok' : Nat → Prop} {fr fr' : Nat → Int} (N : Nat) (h1 : ∀ n, 1 ≤ n → n ≤ N → (ok n ↔ ok' n)) (h2 : ∀ n, 1 ≤ n → n ≤ N → fr n = fr' n) : ∀ k l, k ≤ N → nsL ok fr k l → nsL ok' fr' k l
  | 0, _, _, a => a
  | k + 1, l, hk, a => by
    obtain ⟨l0, a1, a2⟩ := a
    have hl := nsL_le k l0 a1
    refine ⟨l0, nsL_cg N h1 h2 k l0 (by omega) a1, ?_⟩
    have e1 := h1 (k + 1) (by omega) hk
    have e2 := h2 (k + 1) (by omega) hk
    have e3 : l0 = 0 ∨ fr l0 = fr' l0 := by
      rcases Nat.eq_zero_or_pos l0 with z | z
      · exact Or.inl z
      · exact Or.inr (h2 l0 z (by omega))
    rw [← e1, ← e2]
    rcases e3 with e3 | e3
    · rcases a2 with ⟨p1, p2, p3⟩ | ⟨p1, p2⟩
      · exact Or.inl ⟨p1, Or.inl e3, p3⟩
      · exact Or.inr ⟨fun z => p1 ⟨z.1, Or.inl e3⟩, p2⟩
    · rw [← e3]; exact a2
def zcn (F : Nat → Int) : Nat → Nat
  | 0 => 0
  | k + 1 => zcn F k + if F k = 1 then 0 else 1
theorem zcn_up {F : Nat → Int} {u : Nat} (h : F u ≠ 1) : ∀ k, zcn (fun x => if x = u then 1 else F x) k + (if u < k then 1 else 0) = zcn F k
  | 0 => rfl
  | k + 1 => by
    have ih := zcn_up h k
    simp only [zcn]
    by_cases z : k = u
    · subst z
      simp only [Nat.lt_irrefl, if_false] at ih
      simp only [if_true, if_neg h, Nat.lt_succ_self]
      omega
    · simp only [if_neg z]
      by_cases y : u < k
      · rw [if_pos y] at ih
        rw [if_pos (by omega : u < k + 1)]
        omega
      · rw [if_neg y] at ih
        rw [if_neg (by omega : ¬ u < k + 1)]
        omega
section QI
variable {f0 g0 f g : Nat → Nat → Int} {a0 s e t q v u w : Nat} {F Fs : Nat → Int} {more : Int} {Dn Dn' : Nat → Nat → Prop}
def NRI (f0 g0 : Nat → Nat → Int) (a0 : Nat) (F : Nat → Int) : Prop := F a0 = 1 ∧ ∀ v, v < 2541 → (F v = 0 ∨ F v = 1) ∧ (F v = 1 → RS f0 g0 a0 v)
def QI (f0 g0 : Nat → Nat → Int) (a0 : Nat) (Fs : Nat → Int) (Dn : Nat → Nat → Prop) (more : Int) (F : Nat → Int) : Prop := NRI f0 g0 a0 F ∧ ((more = 0 ∧ F = Fs ∧ ∀ q v u w, mEk f0 g0 q v u w → Dn q v → F v = 1 → F u = 1) ∨ (more = 1 ∧ zcn F 2541 < zcn Fs 2541))
theorem QI_more (h : QI f0 g0 a0 Fs Dn more F) : more = 0 ∨ more = 1 := h.2.imp (fun q => q.1) (fun q => q.1)
theorem QI_skip (h : QI f0 g0 a0 Fs Dn more F) (hD : ∀ q v u w, mEk f0 g0 q v u w → Dn' q v → F v = 1 → Dn q v ∨ F u = 1) : QI f0 g0 a0 Fs Dn' more F := by
  refine ⟨h.1, h.2.imp (fun ⟨q1, q2, q4⟩ => ⟨q1, q2, fun q v u w e1 e2 e3 => ?_⟩) id⟩
  rcases hD q v u w e1 e2 e3 with z | z
  · exact q4 q v u w e1 z e3
  · exact z
theorem QI_set (hM : MOk f0 g0) (h : QI f0 g0 a0 Fs Dn more F) (hE : mEk f0 g0 q v u w) (hv : F v = 1) (hu : F u ≠ 1) : QI f0 g0 a0 Fs Dn' 1 (fun x => if x = u then 1 else F x) := by
  have hlt := mE_lt hM ⟨q, hE⟩
  refine ⟨⟨?_, fun x hx => ?_⟩, Or.inr ⟨rfl, ?_⟩⟩
  · by_cases z : a0 = u
    · simp only [if_pos z]
    · simp only [if_neg z]; exact h.1.1
  · by_cases z : x = u
    · simp only [if_pos z]
      subst z
      exact ⟨Or.inr trivial, fun _ => RS_s hE ((h.1.2 v hlt.1).2 hv)⟩
    · simp only [if_neg z]; exact h.1.2 x hx
  · have z := zcn_up hu 2541
    rw [if_pos hlt.2] at z
    rcases h.2 with ⟨-, rfl, -⟩ | ⟨-, y⟩ <;> omega
def Da (s e t : Nat) (q v : Nat) : Prop := v / 21 < s ∨ v / 21 = s ∧ (v % 21 < e ∨ v % 21 = e ∧ q < t)
theorem QI_next (he : e ≤ 20) (h : QI f0 g0 a0 Fs (Da s e t) more F) (hn : ∀ u w, mEk f0 g0 t (21 * s + e) u w → F u = 1) : QI f0 g0 a0 Fs (Da s e (t + 1)) more F := by
  refine QI_skip h (fun q v u w h1 h2 h3 => ?_)
  rcases h2 with h2 | ⟨h2, h4 | ⟨h4, h5⟩⟩
  · exact Or.inl (Or.inl h2)
  · exact Or.inl (Or.inr ⟨h2, Or.inl h4⟩)
  · by_cases hq : q = t
    · have hv : v = 21 * s + e := by omega
      subst hq; subst hv
      exact Or.inr (hn u w h1)
    · exact Or.inl (Or.inr ⟨h2, Or.inr ⟨h4, by omega⟩⟩)
theorem QI_e (hM : MOk f0 g0) (h : QI f0 g0 a0 Fs (Da s e ((f0 31 5).toNat + 1)) more F) : QI f0 g0 a0 Fs (Da s (e + 1) 0) more F := by
  refine QI_skip h (fun q v u w h1 h2 h3 => Or.inl ?_)
  obtain ⟨s', e', -, hs', -, h4⟩ := h1
  have hq : (q : Int) ≤ f0 31 5 ∨ q = 0 := h4.elim (fun z => Or.inr z.1) (fun z => Or.inl z.2.1)
  unfold Da at h2 ⊢
  omega
theorem QI_no (he : e ≤ 20) (h : QI f0 g0 a0 Fs (Da s e 0) more F) (h0 : F (21 * s + e) ≠ 1) : QI f0 g0 a0 Fs (Da s (e + 1) 0) more F := by
  refine QI_skip h (fun q v u w h1 h2 h3 => Or.inl ?_)
  unfold Da at h2 ⊢
  by_cases z : v = 21 * s + e
  · subst z; exact absurd h3 h0
  · omega
theorem QI_s (h : QI f0 g0 a0 Fs (Da s 21 0) more F) : QI f0 g0 a0 Fs (Da (s + 1) 0 0) more F :=
  QI_skip h (fun q v u w h1 h2 h3 => Or.inl (by unfold Da at h2 ⊢; omega))
theorem QI_st (h : NRI f0 g0 a0 F) : QI f0 g0 a0 F (Da 0 0 0) 0 F :=
  ⟨h, Or.inl ⟨rfl, rfl, fun q v u w h1 h2 h3 => by unfold Da at h2; omega⟩⟩
theorem QI_fin (hM : MOk f0 g0) (ha : a0 < 2541) (h : QI f0 g0 a0 Fs (Da ((f0 31 5).toNat + 1) 0 0) 0 F) : ∀ v, v < 2541 → (F v = 0 ∨ F v = 1) ∧ (F v = 1 ↔ RS f0 g0 a0 v) := by
  intro v hv
  refine ⟨(h.1.2 v hv).1, (h.1.2 v hv).2, fun hr => ?_⟩
  rcases h.2 with ⟨-, -, h2⟩ | ⟨z, -⟩
  · refine hr (fun x => F x = 1) h.1.1 (fun q v u w hE hx => h2 q v u w hE ?_ hx)
    have m5 := hM.1.2.1
    have h20 := toZ_in f0
    obtain ⟨s', e', q1, q2, q3, -⟩ := hE
    unfold Da
    omega
  · exact absurd z (by decide)
end QI
/-- the square from a node to the end -/
def frZ (f g : Nat → Nat → Int) (n : Nat) : Int := (g 32 n - g 32 (f 31 16).toNat) * (g 32 n - g 32 (f 31 16).toNat) + (g 33 n - g 33 (f 31 16).toNat) * (g 33 n - g 33 (f 31 16).toNat)
def XOk (g : Nat → Nat → Int) : Prop := ∀ k, (-10000 ≤ g 32 k ∧ g 32 k ≤ 10000) ∧ (-10000 ≤ g 33 k ∧ g 33 k ≤ 10000)
theorem sq_in {a b : Int} (ha : -10000 ≤ a ∧ a ≤ 10000) (hb : -10000 ≤ b ∧ b ≤ 10000) : 0 ≤ (a - b) * (a - b) ∧ (a - b) * (a - b) ≤ 400000000 := by
  have h1 : -20000 ≤ a - b ∧ a - b ≤ 20000 := by omega
  refine ⟨?_, ?_⟩
  · rcases Int.le_total 0 (a - b) with z | z
    · exact Int.mul_nonneg z z
    · have := Int.mul_nonneg (a := -(a - b)) (b := -(a - b)) (by omega) (by omega)
      rw [Int.neg_mul_neg] at this
      exact this
  · rcases Int.le_total 0 (a - b) with z | z
    · exact Int.mul_le_mul (c := 20000) (d := 20000) (by omega) (by omega) z (by decide)
    · have := Int.mul_le_mul (a := -(a - b)) (b := -(a - b)) (c := 20000) (d := 20000) (by omega) (by omega) (by omega) (by decide)
      rw [Int.neg_mul_neg] at this
      exact this
theorem frZ_in {f g : Nat → Nat → Int} (h : XOk g) (n : Nat) : 0 ≤ frZ f g n ∧ frZ f g n ≤ 800000000 := by
  have h1 := sq_in (h n).1 (h (f 31 16).toNat).1
  have h2 := sq_in (h n).2 (h (f 31 16).toNat).2
  unfold frZ
  omega
theorem sp_44 {d L : Nat} {sw : Bool} {f g : Nat → Nat → Int} {Q : Option Value → am_H → Prop} {n : Int} (K : Q (some (.long (lZ (frZ f g n.toNat)))) (53, sh_lt L, iH f, jH g, sh_rt sw)) (hn : 0 ≤ n ∧ n < 61) (ht : 0 ≤ f 31 16 ∧ f 31 16 < 61) : am_call (d + 1) 44 [.ref 31, .int (iZ n)] (53, sh_lt L, iH f, jH g, sh_rt sw) Q := by
  refine ap_call (by decide) (Nat.le_of_ble_eq_true rfl) rfl ?_
  refine ap_go kc_44_0 ?_
  refine ap_aload_n rfl ?_; refine ap_getR ow_44 rf_8_7 rfl rfl rfl ?_; refine ap_iload_n rfl ?_; refine ai_laload (n := 61) rfl rfl (by decide) ?_ ?_; refine ap_aload_n rfl ?_; refine ap_getR ow_44 rf_8_7 rfl rfl rfl ?_; refine ap_aload_n rfl ?_; refine ai_getI ow_44 rf_8_131 rfl rfl ?_; refine ai_laload (n := 61) rfl rfl (by decide) ?_ ?_; refine ai_lsub ?_; refine ap_aload_n rfl ?_; refine ap_getR ow_44 rf_8_7 rfl rfl rfl ?_; refine ap_iload_n rfl ?_; refine ai_laload (n := 61) rfl rfl (by decide) ?_ ?_; refine ap_aload_n rfl ?_; refine ap_getR ow_44 rf_8_7 rfl rfl rfl ?_; refine ap_aload_n rfl ?_; refine ai_getI ow_44 rf_8_131 rfl rfl ?_; refine ai_laload (n := 61) rfl rfl (by decide) ?_ ?_; refine ai_lsub ?_; refine ai_lmul ?_; refine ap_aload_n rfl ?_; refine ap_getR ow_44 rf_8_13 rfl rfl rfl ?_; refine ap_iload_n rfl ?_; refine ai_laload (n := 61) rfl rfl (by decide) ?_ ?_; refine ap_aload_n rfl ?_; refine ap_getR ow_44 rf_8_13 rfl rfl rfl ?_; refine ap_aload_n rfl ?_; refine ai_getI ow_44 rf_8_131 rfl rfl ?_; refine ai_laload (n := 61) rfl rfl (by decide) ?_ ?_; refine ai_lsub ?_; refine ap_aload_n rfl ?_; refine ap_getR ow_44 rf_8_13 rfl rfl rfl ?_; refine ap_iload_n rfl ?_; refine ai_laload (n := 61) rfl rfl (by decide) ?_ ?_; refine ap_aload_n rfl ?_; refine ap_getR ow_44 rf_8_13 rfl rfl rfl ?_; refine ap_aload_n rfl ?_; refine ai_getI ow_44 rf_8_131 rfl rfl ?_; refine ai_laload (n := 61) rfl rfl (by decide) ?_ ?_; refine ai_lsub ?_; refine ai_lmul ?_; refine ai_ladd ?_; refine ap_lret rfl ?_
  · exact K
  all_goals (omega)


theorem lp_45t {d L : Nat} {sw : Bool} {Q : Option Value → am_H → Prop} {f0 g0 g : Nat → Nat → Int} {a0 : Nat} {Fs : Nat → Int} (hM : MOk f0 g0) (hK : toZ f0 = 20) {fb : Nat → Nat → Int} (hG0 : Gm f0 g0 fb g) {s e : Nat} (hs : (s : Int) ≤ f0 31 5) (he : e ≤ 20) (K : ∀ more f, (∀ a, a ≠ 45 → f a = fb a) → QI f0 g0 a0 Fs (Da s e ((f0 31 5).toNat + 1)) more (f 45) → am_Wp (am_call (d + 2)) 45 Q 193 [some (.ref 31), none, some (.int (iZ more)), some (.int (iZ s)), some (.int (iZ e)), none, none, none] [] (53, sh_lt L, iH f, jH g, sh_rt sw) (0, 0)) : ∀ (k t : Nat) (i more : Int) (f : Nat → Nat → Int), i = t → (f0 31 5).toNat + 1 = t + k → 1 ≤ t → (∀ a, a ≠ 45 → f a = fb a) → QI f0 g0 a0 Fs (Da s e t) more (f 45) → f 45 (21 * s + e) = 1 → am_Wp (am_call (d + 2)) 45 Q 129 [some (.ref 31), none, some (.int (iZ more)), some (.int (iZ s)), some (.int (iZ e)), none, some (.int (iZ i)), none] [] (53, sh_lt L, iH f, jH g, sh_rt sw) (0, 0) := by
  intro k
  have m5 := hM.1.2.1
  induction k with
  | zero =>
    intro t i more f hi hk ht hf hP h1
    subst hi
    have hG := Gm_f (Nat.le_refl 45) hG0 hf
    have hM' := Gm_MOk hG hM
    have e5 := hG.1.2.1
    refine ap_go kc_45_129 ?_
    refine ap_iload rfl ?_; refine ap_aload_n rfl ?_; refine ai_getI ow_45 rf_8_88 rfl rfl ?_
    refine ai_icgt rfl rfl (fun hb0 => ?_) (fun hb0 => ?_) ?_
    · exact am_weak (by first | exact am_le_0 | (repeat (first | exact am_le_0 | refine am_le_n ?_ | refine am_le_s ?_))) (K more f hf (by rw [hk]; exact hP))
    · exfalso; omega
    all_goals (omega)
  | succ k ih =>
    intro t i more f hi hk ht hf hP h1
    subst hi
    have hG := Gm_f (Nat.le_refl 45) hG0 hf
    have hM' := Gm_MOk hG hM
    have e5 := hG.1.2.1
    have e7 := Gm_ne hG t
    have hne := neZ_in hM t
    have hgo : (if goZ f g s e t = true then (1 : Int) else 0) = 0 ∨ (if goZ f g s e t = true then (1 : Int) else 0) = 1 := by split; exact Or.inr rfl; exact Or.inl rfl
    have hg1 : goZ f g s e t = true ↔ (if goZ f g s e t = true then (1 : Int) else 0) = 1 := by split <;> simp_all
    have hg2 : (if goZ f g s e t = true then (1 : Int) else 0) = 1 → neZ f0 t ≤ e := fun z => by have := (goZ_ne (hg1.mpr z)).2; rw [e7] at this; exact this
    have hp : neZ f0 t ≤ e → _ := fun z => (hP.1.2 (21 * (t : Int) + e - neZ f0 t).toNat (by omega)).1
    have hE : goZ f g s e t = true → mEk f0 g0 t (21 * s + e) (21 * (t : Int) + e - neZ f0 t).toNat (4096 * (prZ f0 g0 t).toNat + 1) := by
      intro z
      have z2 := hg2 (hg1.mp z)
      rw [Gm_go hG] at z
      exact ⟨s, e, rfl, hs, by omega, Or.inr ⟨ht, by omega, z, by omega, rfl⟩⟩
    have i129 : ∀ more2 f2, (∀ a, a ≠ 45 → f2 a = fb a) → QI f0 g0 a0 Fs (Da s e (t + 1)) more2 (f2 45) → f2 45 (21 * s + e) = 1 → am_Wp (am_call (d + 2)) 45 Q 129 [some (.ref 31), none, some (.int (iZ more2)), some (.int (iZ s)), some (.int (iZ e)), none, some (.int (iZ ((t : Int) + 1))), none] [] (53, sh_lt L, iH f2, jH g, sh_rt sw) (0, 0) := fun more2 f2 q1 q2 q3 => ih (t + 1) (t + 1) more2 f2 rfl (by omega) (by omega) q1 q2 q3
    refine ap_go kc_45_129 ?_
    refine ap_iload rfl ?_; refine ap_aload_n rfl ?_; refine ai_getI ow_45 rf_8_88 rfl rfl ?_
    refine ai_icgt rfl rfl (fun hq0 => ?_) (fun hq0 => ?_) ?_
    · exfalso; omega
    · refine ap_go kc_45_138 ?_
      refine ai_bipush (by decide) ?_; refine ap_iload rfl ?_; refine ai_imul ?_; refine ap_iload rfl ?_; refine ai_iadd ?_; refine ap_aload_n rfl ?_; refine ap_iload rfl ?_; refine ap_callv0 ow_45 rm_8_124 na_36 mc_36 ms_36 rfl rfl (Nat.le_of_ble_eq_true rfl) (Nat.le_of_ble_eq_true rfl) (Or.inr rfl) (Nat.zero_le _) (Nat.zero_le _) ?_; refine sp_36 ?_ hM' ?_; dsimp only [Int.toNat_natCast]; rw [e7]; dsimp only [Option.toList_some, Option.toList_none, List.cons_append, List.nil_append]; refine ai_isub ?_; refine ap_istore rfl ?_; refine ap_aload_n rfl ?_; refine ap_iload_n rfl ?_; refine ap_iload rfl ?_; refine ap_iload rfl ?_; refine ap_callv0 ow_45 rm_8_141 na_38 mc_38 ms_38 rfl rfl (Nat.le_of_ble_eq_true rfl) (Nat.le_of_ble_eq_true rfl) (Or.inr rfl) (Nat.zero_le _) (Nat.zero_le _) ?_; refine sp_38 ?_ hM' ?_ ?_ ?_; try dsimp only [Int.toNat_natCast]; dsimp only [Option.toList_some, Option.toList_none, List.cons_append, List.nil_append]
      refine ai_ifeq rfl rfl (fun hq1 => ?_) (fun hq1 => ?_) ?_
      · refine ap_go kc_45_187 ?_
        refine ai_iinc rfl rfl ?_; refine ap_goto rfl ?_
        first | exact am_weak (by first | exact am_le_0 | (repeat (first | exact am_le_0 | refine am_le_n ?_ | refine am_le_s ?_))) (i129 more f hf (QI_next he hP (fun u w z => by have := hg1.mp (by rw [Gm_go hG]; exact (mEk_t he ht z).1); omega)) h1) | exact am_weak (by first | exact am_le_0 | (repeat (first | exact am_le_0 | refine am_le_n ?_ | refine am_le_s ?_))) (i129 more f hf (QI_next he hP (fun u w z => by rw [show u = (21 * (t : Int) + e - neZ f0 t).toNat by have := (mEk_t he ht z).2.1; omega]; omega)) h1) | exact am_weak (by first | exact am_le_0 | (repeat (first | exact am_le_0 | refine am_le_n ?_ | refine am_le_s ?_))) (i129 1 (am_up f 45 _ 1) (fun a ha => (am_up_ne ha).trans (hf a ha)) (by rw [am_up_eq]; exact QI_set hM hP (hE (hg1.mpr (by omega))) h1 (by omega)) (by rw [am_up_eq]; dsimp only; split; rfl; exact h1))
      · refine ap_go kc_45_167 ?_
        refine ap_aload_n rfl ?_; refine ap_getR ow_45 rf_8_55 rfl rfl rfl ?_; refine ap_iload rfl ?_; refine ai_baload (n := 2541) rfl rfl (by decide) ?_ ?_
        refine ai_ifne rfl rfl (fun hq2 => ?_) (fun hq2 => ?_) ?_
        · refine ap_go kc_45_187 ?_
          refine ai_iinc rfl rfl ?_; refine ap_goto rfl ?_
          first | exact am_weak (by first | exact am_le_0 | (repeat (first | exact am_le_0 | refine am_le_n ?_ | refine am_le_s ?_))) (i129 more f hf (QI_next he hP (fun u w z => by have := hg1.mp (by rw [Gm_go hG]; exact (mEk_t he ht z).1); omega)) h1) | exact am_weak (by first | exact am_le_0 | (repeat (first | exact am_le_0 | refine am_le_n ?_ | refine am_le_s ?_))) (i129 more f hf (QI_next he hP (fun u w z => by rw [show u = (21 * (t : Int) + e - neZ f0 t).toNat by have := (mEk_t he ht z).2.1; omega]; omega)) h1) | exact am_weak (by first | exact am_le_0 | (repeat (first | exact am_le_0 | refine am_le_n ?_ | refine am_le_s ?_))) (i129 1 (am_up f 45 _ 1) (fun a ha => (am_up_ne ha).trans (hf a ha)) (by rw [am_up_eq]; exact QI_set hM hP (hE (hg1.mpr (by omega))) h1 (by omega)) (by rw [am_up_eq]; dsimp only; split; rfl; exact h1))
        · refine ap_go kc_45_177 ?_
          refine ap_aload_n rfl ?_; refine ap_getR ow_45 rf_8_55 rfl rfl rfl ?_; refine ap_iload rfl ?_; refine ai_iconst ?_; refine ai_bastore (n := 2541) rfl rfl (by decide) ?_ ?_ ?_; refine ai_iconst ?_; refine ap_istore_n rfl ?_; refine ap_nil ?_
          · refine ap_go kc_45_187 ?_
            refine ai_iinc rfl rfl ?_; refine ap_goto rfl ?_
            first | exact am_weak (by first | exact am_le_0 | (repeat (first | exact am_le_0 | refine am_le_n ?_ | refine am_le_s ?_))) (i129 more f hf (QI_next he hP (fun u w z => by have := hg1.mp (by rw [Gm_go hG]; exact (mEk_t he ht z).1); omega)) h1) | exact am_weak (by first | exact am_le_0 | (repeat (first | exact am_le_0 | refine am_le_n ?_ | refine am_le_s ?_))) (i129 more f hf (QI_next he hP (fun u w z => by rw [show u = (21 * (t : Int) + e - neZ f0 t).toNat by have := (mEk_t he ht z).2.1; omega]; omega)) h1) | exact am_weak (by first | exact am_le_0 | (repeat (first | exact am_le_0 | refine am_le_n ?_ | refine am_le_s ?_))) (i129 1 (am_up f 45 _ 1) (fun a ha => (am_up_ne ha).trans (hf a ha)) (by rw [am_up_eq]; exact QI_set hM hP (hE (hg1.mpr (by omega))) h1 (by omega)) (by rw [am_up_eq]; dsimp only; split; rfl; exact h1))
          all_goals (omega)
        all_goals (omega)
      all_goals (omega)
    all_goals (omega)


theorem lp_45e {d L : Nat} {sw : Bool} {Q : Option Value → am_H → Prop} {f0 g0 g : Nat → Nat → Int} {a0 : Nat} {Fs : Nat → Int} (hM : MOk f0 g0) (hK : toZ f0 = 20) {fb : Nat → Nat → Int} (hG0 : Gm f0 g0 fb g) {s : Nat} (hs : (s : Int) ≤ f0 31 5) (K : ∀ more f, (∀ a, a ≠ 45 → f a = fb a) → QI f0 g0 a0 Fs (Da (s + 1) 0 0) more (f 45) → am_Wp (am_call (d + 2)) 45 Q 199 [some (.ref 31), none, some (.int (iZ more)), some (.int (iZ s)), none, none, none, none] [] (53, sh_lt L, iH f, jH g, sh_rt sw) (0, 0)) : ∀ (k e : Nat) (i more : Int) (f : Nat → Nat → Int), i = e → 21 = e + k → (∀ a, a ≠ 45 → f a = fb a) → QI f0 g0 a0 Fs (Da s e 0) more (f 45) → am_Wp (am_call (d + 2)) 45 Q 52 [some (.ref 31), none, some (.int (iZ more)), some (.int (iZ s)), some (.int (iZ i)), none, none, none] [] (53, sh_lt L, iH f, jH g, sh_rt sw) (0, 0) := by
  intro k
  have m5 := hM.1.2.1
  induction k with
  | zero =>
    intro e i more f hi hk hf hP
    subst hi
    refine ap_go kc_45_52 ?_
    refine ap_iload rfl ?_; refine ai_bipush (by decide) ?_
    refine ai_icgt rfl rfl (fun hb0 => ?_) (fun hb0 => ?_) ?_
    · exact am_weak (by first | exact am_le_0 | (repeat (first | exact am_le_0 | refine am_le_n ?_ | refine am_le_s ?_))) (K more f hf (QI_s (by rw [hk]; exact hP)))
    · exfalso; omega
    all_goals (omega)
  | succ k ih =>
    intro e i more f hi hk hf hP
    subst hi
    have hG := Gm_f (Nat.le_refl 45) hG0 hf
    have hM' := Gm_MOk hG hM
    have e5 := hG.1.2.1
    have hpl := plZ_in hM' s
    have hun := unZ_in hM' (plZ f s).toNat
    have eA : (21 * (s : Int) + e).toNat = 21 * s + e := by omega
    have eB : (21 * (s : Int) + e + 1).toNat = 21 * s + e + 1 := by omega
    have p1 := (hP.1.2 (21 * s + e) (by omega)).1
    have p2 : e < 20 → _ := fun z => (hP.1.2 (21 * s + e + 1) (by omega)).1
    rw [← eA] at p1
    rw [← eB] at p2
    have J : ∀ more f, (∀ a, a ≠ 45 → f a = fb a) → QI f0 g0 a0 Fs (Da s e 1) more (f 45) → f 45 (21 * s + e) = 1 → am_Wp (am_call (d + 2)) 45 Q 129 [some (.ref 31), none, some (.int (iZ more)), some (.int (iZ s)), some (.int (iZ e)), none, some (.int (iZ 1)), none] [] (53, sh_lt L, iH f, jH g, sh_rt sw) (0, 0) := by
      intro more f hf hP h1
      refine lp_45t hM hK hG0 hs (by omega) ?_ (f0 31 5).toNat 1 1 more f rfl (by omega) (by omega) hf hP h1
      intro more f hf hP
      refine ap_go kc_45_193 ?_
      refine ai_iinc rfl rfl ?_; refine ap_goto rfl ?_
      exact am_weak (by first | exact am_le_0 | (repeat (first | exact am_le_0 | refine am_le_n ?_ | refine am_le_s ?_))) (ih (e + 1) (e + 1) more f rfl (by omega) hf (QI_e hM hP))
    have hE : 0 ≤ unZ f g (plZ f s).toNat → e < 20 → mEk f0 g0 0 (21 * s + e) (21 * (s : Int) + e + 1).toNat (4096 * (unZ f0 g0 (plZ f0 s).toNat).toNat) := by
      intro z z2
      rw [Gm_un hG, Gm_pl hG] at z
      exact ⟨s, e, rfl, hs, by omega, Or.inl ⟨rfl, z2, z, by omega, rfl⟩⟩
    refine ap_go kc_45_52 ?_
    refine ap_iload rfl ?_; refine ai_bipush (by decide) ?_
    refine ai_icgt rfl rfl (fun hq0 => ?_) (fun hq0 => ?_) ?_
    · exfalso; omega
    · refine ap_go kc_45_59 ?_
      refine ai_bipush (by decide) ?_; refine ap_iload_n rfl ?_; refine ai_imul ?_; refine ap_iload rfl ?_; refine ai_iadd ?_; refine ap_istore rfl ?_; refine ap_aload_n rfl ?_; refine ap_getR ow_45 rf_8_55 rfl rfl rfl ?_; refine ap_iload rfl ?_; refine ai_baload (n := 2541) rfl rfl (by decide) ?_ ?_
      refine ai_ifne rfl rfl (fun hq1 => ?_) (fun hq1 => ?_) ?_
      · refine ap_go kc_45_81 ?_
        refine ap_aload_n rfl ?_; refine ap_aload_n rfl ?_; refine ap_iload_n rfl ?_; refine ap_callv0 ow_45 rm_8_116 na_37 mc_37 ms_37 rfl rfl (Nat.le_of_ble_eq_true rfl) (Nat.le_of_ble_eq_true rfl) (Or.inr rfl) (Nat.zero_le _) (Nat.zero_le _) ?_; refine sp_37 ?_ ?_; try dsimp only [Int.toNat_natCast]; dsimp only [Option.toList_some, Option.toList_none, List.cons_append, List.nil_append]; refine ap_callv0 ow_45 rm_8_134 na_34 mc_34 ms_34 rfl rfl (Nat.le_of_ble_eq_true rfl) (Nat.le_of_ble_eq_true rfl) (Or.inr rfl) (Nat.zero_le _) (Nat.zero_le _) ?_; refine sp_34 ?_ hM' ?_; dsimp only [Option.toList_some, Option.toList_none, List.cons_append, List.nil_append]; refine ai_lconst 0 rfl ?_
        refine ai_lclt rfl rfl (fun hq2 => ?_) (fun hq2 => ?_) ?_
        · refine ap_go kc_45_126 ?_
          refine ai_iconst ?_; refine ap_istore rfl ?_; refine ap_nil ?_
          first | exact am_weak (by first | exact am_le_0 | (repeat (first | exact am_le_0 | refine am_le_n ?_ | refine am_le_s ?_))) (J more f hf (QI_next (by omega) hP (fun u w z => by have z1 := (mEk_0 (by omega) z); rw [← Gm_un hG, ← Gm_pl hG] at z1; rw [z1.2.2.1, ← eB]; omega)) (by rw [← eA]; omega)) | exact am_weak (by first | exact am_le_0 | (repeat (first | exact am_le_0 | refine am_le_n ?_ | refine am_le_s ?_))) (J 1 (am_up f 45 _ 1) (fun a ha => (am_up_ne ha).trans (hf a ha)) (by rw [am_up_eq]; exact QI_set hM hP (hE (by omega) (by omega)) (by rw [← eA]; omega) (by omega)) (by rw [am_up_eq]; dsimp only; split; rfl; rw [← eA]; omega))
        · refine ap_go kc_45_95 ?_
          refine ap_iload rfl ?_; refine ai_bipush (by decide) ?_
          refine ai_icge rfl rfl (fun hq3 => ?_) (fun hq3 => ?_) ?_
          · refine ap_go kc_45_126 ?_
            refine ai_iconst ?_; refine ap_istore rfl ?_; refine ap_nil ?_
            first | exact am_weak (by first | exact am_le_0 | (repeat (first | exact am_le_0 | refine am_le_n ?_ | refine am_le_s ?_))) (J more f hf (QI_next (by omega) hP (fun u w z => by have z1 := (mEk_0 (by omega) z); rw [← Gm_un hG, ← Gm_pl hG] at z1; rw [z1.2.2.1, ← eB]; omega)) (by rw [← eA]; omega)) | exact am_weak (by first | exact am_le_0 | (repeat (first | exact am_le_0 | refine am_le_n ?_ | refine am_le_s ?_))) (J 1 (am_up f 45 _ 1) (fun a ha => (am_up_ne ha).trans (hf a ha)) (by rw [am_up_eq]; exact QI_set hM hP (hE (by omega) (by omega)) (by rw [← eA]; omega) (by omega)) (by rw [am_up_eq]; dsimp only; split; rfl; rw [← eA]; omega))
          · refine ap_go kc_45_102 ?_
            refine ap_aload_n rfl ?_; refine ap_getR ow_45 rf_8_55 rfl rfl rfl ?_; refine ap_iload rfl ?_; refine ai_iconst ?_; refine ai_iadd ?_; refine ai_baload (n := 2541) rfl rfl (by decide) ?_ ?_
            refine ai_ifne rfl rfl (fun hq4 => ?_) (fun hq4 => ?_) ?_
            · refine ap_go kc_45_126 ?_
              refine ai_iconst ?_; refine ap_istore rfl ?_; refine ap_nil ?_
              first | exact am_weak (by first | exact am_le_0 | (repeat (first | exact am_le_0 | refine am_le_n ?_ | refine am_le_s ?_))) (J more f hf (QI_next (by omega) hP (fun u w z => by have z1 := (mEk_0 (by omega) z); rw [← Gm_un hG, ← Gm_pl hG] at z1; rw [z1.2.2.1, ← eB]; omega)) (by rw [← eA]; omega)) | exact am_weak (by first | exact am_le_0 | (repeat (first | exact am_le_0 | refine am_le_n ?_ | refine am_le_s ?_))) (J 1 (am_up f 45 _ 1) (fun a ha => (am_up_ne ha).trans (hf a ha)) (by rw [am_up_eq]; exact QI_set hM hP (hE (by omega) (by omega)) (by rw [← eA]; omega) (by omega)) (by rw [am_up_eq]; dsimp only; split; rfl; rw [← eA]; omega))
            · refine ap_go kc_45_114 ?_
              refine ap_aload_n rfl ?_; refine ap_getR ow_45 rf_8_55 rfl rfl rfl ?_; refine ap_iload rfl ?_; refine ai_iconst ?_; refine ai_iadd ?_; refine ai_iconst ?_; refine ai_bastore (n := 2541) rfl rfl (by decide) ?_ ?_ ?_; refine ai_iconst ?_; refine ap_istore_n rfl ?_; refine ap_nil ?_
              · refine ap_go kc_45_126 ?_
                refine ai_iconst ?_; refine ap_istore rfl ?_; refine ap_nil ?_
                first | exact am_weak (by first | exact am_le_0 | (repeat (first | exact am_le_0 | refine am_le_n ?_ | refine am_le_s ?_))) (J more f hf (QI_next (by omega) hP (fun u w z => by have z1 := (mEk_0 (by omega) z); rw [← Gm_un hG, ← Gm_pl hG] at z1; rw [z1.2.2.1, ← eB]; omega)) (by rw [← eA]; omega)) | exact am_weak (by first | exact am_le_0 | (repeat (first | exact am_le_0 | refine am_le_n ?_ | refine am_le_s ?_))) (J 1 (am_up f 45 _ 1) (fun a ha => (am_up_ne ha).trans (hf a ha)) (by rw [am_up_eq]; exact QI_set hM hP (hE (by omega) (by omega)) (by rw [← eA]; omega) (by omega)) (by rw [am_up_eq]; dsimp only; split; rfl; rw [← eA]; omega))
              all_goals (omega)
            all_goals (omega)
          all_goals (omega)
        all_goals (omega)
      · refine ap_go kc_45_78 ?_
        refine ap_goto rfl ?_
        refine ap_go kc_45_193 ?_
        refine ai_iinc rfl rfl ?_; refine ap_goto rfl ?_
        exact am_weak (by first | exact am_le_0 | (repeat (first | exact am_le_0 | refine am_le_n ?_ | refine am_le_s ?_))) (ih (e + 1) (e + 1) more f rfl (by omega) hf (QI_no (by omega) hP (by rw [← eA]; omega)))
      all_goals (omega)
    all_goals (omega)
theorem lp_45s {d L : Nat} {sw : Bool} {Q : Option Value → am_H → Prop} {f0 g0 g : Nat → Nat → Int} {a0 : Nat} {Fs : Nat → Int} (hM : MOk f0 g0) (hK : toZ f0 = 20) {fb : Nat → Nat → Int} (hG0 : Gm f0 g0 fb g) (K : ∀ more f, (∀ a, a ≠ 45 → f a = fb a) → QI f0 g0 a0 Fs (Da ((f0 31 5).toNat + 1) 0 0) more (f 45) → am_Wp (am_call (d + 2)) 45 Q 33 [some (.ref 31), none, some (.int (iZ more)), none, none, none, none, none] [] (53, sh_lt L, iH f, jH g, sh_rt sw) (0, 0)) : ∀ (k s : Nat) (i more : Int) (f : Nat → Nat → Int), i = s → (f0 31 5).toNat + 1 = s + k → (∀ a, a ≠ 45 → f a = fb a) → QI f0 g0 a0 Fs (Da s 0 0) more (f 45) → am_Wp (am_call (d + 2)) 45 Q 41 [some (.ref 31), none, some (.int (iZ more)), some (.int (iZ i)), none, none, none, none] [] (53, sh_lt L, iH f, jH g, sh_rt sw) (0, 0) := by
  intro k
  have m5 := hM.1.2.1
  induction k with
  | zero =>
    intro s i more f hi hk hf hP
    subst hi
    have hG := Gm_f (Nat.le_refl 45) hG0 hf
    have hM' := Gm_MOk hG hM
    have e5 := hG.1.2.1
    refine ap_go kc_45_41 ?_
    refine ap_iload_n rfl ?_; refine ap_aload_n rfl ?_; refine ai_getI ow_45 rf_8_88 rfl rfl ?_
    refine ai_icgt rfl rfl (fun hb0 => ?_) (fun hb0 => ?_) ?_
    · refine ap_go kc_45_205 ?_
      refine ap_goto rfl ?_
      exact am_weak (by first | exact am_le_0 | (repeat (first | exact am_le_0 | refine am_le_n ?_ | refine am_le_s ?_))) (K more f hf (by rw [hk]; exact hP))
    · exfalso; omega
    all_goals (omega)
  | succ k ih =>
    intro s i more f hi hk hf hP
    subst hi
    have hG := Gm_f (Nat.le_refl 45) hG0 hf
    have hM' := Gm_MOk hG hM
    have e5 := hG.1.2.1
    have J : ∀ more f, (∀ a, a ≠ 45 → f a = fb a) → QI f0 g0 a0 Fs (Da (s + 1) 0 0) more (f 45) → am_Wp (am_call (d + 2)) 45 Q 199 [some (.ref 31), none, some (.int (iZ more)), some (.int (iZ s)), none, none, none, none] [] (53, sh_lt L, iH f, jH g, sh_rt sw) (0, 0) := by
      intro more f hf hP
      refine ap_go kc_45_199 ?_
      refine ai_iinc rfl rfl ?_; refine ap_goto rfl ?_
      exact am_weak (by first | exact am_le_0 | (repeat (first | exact am_le_0 | refine am_le_n ?_ | refine am_le_s ?_))) (ih (s + 1) (s + 1) more f rfl (by omega) hf hP)
    refine ap_go kc_45_41 ?_
    refine ap_iload_n rfl ?_; refine ap_aload_n rfl ?_; refine ai_getI ow_45 rf_8_88 rfl rfl ?_
    refine ai_icgt rfl rfl (fun hb0 => ?_) (fun hb0 => ?_) ?_
    · refine ap_go kc_45_205 ?_
      refine ap_goto rfl ?_
      exfalso; omega
    · refine ap_go kc_45_49 ?_
      refine ai_iconst ?_; refine ap_istore rfl ?_; refine ap_nil ?_
      exact am_weak (by first | exact am_le_0 | (repeat (first | exact am_le_0 | refine am_le_n ?_ | refine am_le_s ?_))) (lp_45e hM hK hG0 (s := s) (by omega) J 21 0 0 more f rfl rfl hf hP)
    all_goals (omega)
theorem lp_45w {d L : Nat} {sw : Bool} {Q : Option Value → am_H → Prop} {f0 g0 g : Nat → Nat → Int} {a0 : Nat} (hM : MOk f0 g0) (hK : toZ f0 = 20) {fb : Nat → Nat → Int} (hG0 : Gm f0 g0 fb g) (ha : a0 < 2541) (K : ∀ f, (∀ a, a ≠ 45 → f a = fb a) → (∀ v, v < 2541 → (f 45 v = 0 ∨ f 45 v = 1) ∧ (f 45 v = 1 ↔ RS f0 g0 a0 v)) → am_Wp (am_call (d + 2)) 45 Q 208 [some (.ref 31), none, none, none, none, none, none, none] [] (53, sh_lt L, iH f, jH g, sh_rt sw) (0, 0)) : ∀ (M : Nat) (f : Nat → Nat → Int), zcn (f 45) 2541 < M → (∀ a, a ≠ 45 → f a = fb a) → NRI f0 g0 a0 (f 45) → am_Wp (am_call (d + 2)) 45 Q 33 [some (.ref 31), none, some (.int (iZ 1)), none, none, none, none, none] [] (53, sh_lt L, iH f, jH g, sh_rt sw) (0, 0) := by
  intro M
  have m5 := hM.1.2.1
  induction M with
  | zero => intro f hN; exact absurd hN (Nat.not_lt_zero _)
  | succ M ih =>
    intro f hN hf hL
    have J : ∀ more f2, (∀ a, a ≠ 45 → f2 a = fb a) → QI f0 g0 a0 (f 45) (Da ((f0 31 5).toNat + 1) 0 0) more (f2 45) → am_Wp (am_call (d + 2)) 45 Q 33 [some (.ref 31), none, some (.int (iZ more)), none, none, none, none, none] [] (53, sh_lt L, iH f2, jH g, sh_rt sw) (0, 0) := by
      intro more f2 hF2 hP2
      rcases QI_more hP2 with hm | hm
      · subst hm
        refine ap_go kc_45_33 ?_
        refine ap_iload_n rfl ?_
        refine ai_ifeq rfl rfl (fun hb0 => ?_) (fun hb0 => ?_) ?_
        · exact am_weak (by first | exact am_le_0 | (repeat (first | exact am_le_0 | refine am_le_n ?_ | refine am_le_s ?_))) (K f2 hF2 (QI_fin hM ha hP2))
        · exfalso; omega
        all_goals (omega)
      · subst hm
        refine ih f2 ?_ hF2 hP2.1
        rcases hP2.2 with ⟨z, -⟩ | ⟨-, z⟩
        · exact absurd z (by decide)
        · omega
    refine ap_go kc_45_33 ?_
    refine ap_iload_n rfl ?_
    refine ai_ifeq rfl rfl (fun hb0 => ?_) (fun hb0 => ?_) ?_
    · exfalso; omega
    · refine ap_go kc_45_37 ?_
      refine ai_iconst ?_; refine ap_istore_n rfl ?_; refine ai_iconst ?_; refine ap_istore_n rfl ?_; refine ap_nil ?_
      exact am_weak (by first | exact am_le_0 | (repeat (first | exact am_le_0 | refine am_le_n ?_ | refine am_le_s ?_))) (lp_45s (Fs := f 45) hM hK hG0 J ((f0 31 5).toNat + 1) 0 0 0 f rfl (by omega) hf (QI_st hL))
    all_goals (omega)
theorem lp_45i {d L : Nat} {sw : Bool} {Q : Option Value → am_H → Prop} {f0 g0 g : Nat → Nat → Int} {a0 : Nat} (hM : MOk f0 g0) (hK : toZ f0 = 20) {fb : Nat → Nat → Int} (hG0 : Gm f0 g0 fb g) (ha : a0 < 2541) (K : ∀ f, (∀ a, a ≠ 45 → f a = fb a) → (∀ v, v < 2541 → (f 45 v = 0 ∨ f 45 v = 1) ∧ (f 45 v = 1 ↔ RS f0 g0 a0 v)) → am_Wp (am_call (d + 2)) 45 Q 208 [some (.ref 31), none, none, none, none, none, none, none] [] (53, sh_lt L, iH f, jH g, sh_rt sw) (0, 0)) : ∀ (k v : Nat) (i : Int) (f : Nat → Nat → Int), i = v → 2541 = v + k → (∀ a, a ≠ 45 → f a = fb a) → (∀ x, x < v → f 45 x = if x = a0 then 1 else 0) → am_Wp (am_call (d + 2)) 45 Q 2 [some (.ref 31), some (.int (iZ (a0 : Int))), some (.int (iZ i)), none, none, none, none, none] [] (53, sh_lt L, iH f, jH g, sh_rt sw) (0, 0) := by
  intro k
  induction k with
  | zero =>
    intro v i f hi hk hf hN
    subst hi
    refine ap_go kc_45_2 ?_
    refine ap_iload_n rfl ?_; refine ai_sipush (by decide) ?_
    refine ai_icge rfl rfl (fun hb0 => ?_) (fun hb0 => ?_) ?_
    · refine ap_go kc_45_31 ?_
      refine ai_iconst ?_; refine ap_istore_n rfl ?_; refine ap_nil ?_
      exact am_weak (by first | exact am_le_0 | (repeat (first | exact am_le_0 | refine am_le_n ?_ | refine am_le_s ?_))) (lp_45w hM hK hG0 ha K _ f (Nat.lt_succ_self _) hf ⟨by rw [hN a0 (by omega), if_pos rfl], fun x hx => by rw [hN x (by omega)]; split; (rename_i z; subst z; exact ⟨Or.inr rfl, fun _ => RS_0⟩); exact ⟨Or.inl rfl, fun z => absurd z (by decide)⟩⟩)
    · exfalso; omega
    all_goals (omega)
  | succ k ih =>
    intro v i f hi hk hf hN
    subst hi
    have eV : ((v : Nat) : Int).toNat = v := rfl
    refine ap_go kc_45_2 ?_
    refine ap_iload_n rfl ?_; refine ai_sipush (by decide) ?_
    refine ai_icge rfl rfl (fun hb0 => ?_) (fun hb0 => ?_) ?_
    · exfalso; omega
    · refine ap_go kc_45_9 ?_
      refine ap_aload_n rfl ?_; refine ap_getR ow_45 rf_8_55 rfl rfl rfl ?_; refine ap_iload_n rfl ?_; refine ap_iload_n rfl ?_; refine ap_iload_n rfl ?_
      refine ai_icne rfl rfl (fun hb1 => ?_) (fun hb1 => ?_) ?_
      · refine ap_go kc_45_23 ?_
        refine ai_iconst ?_; refine ap_nil ?_
        refine ap_go kc_45_24 ?_
        refine ai_bastore (n := 2541) rfl rfl (by decide) ?_ ?_ ?_; refine ai_iinc rfl rfl ?_; refine ap_goto rfl ?_
        · first | exact am_weak (by first | exact am_le_0 | (repeat (first | exact am_le_0 | refine am_le_n ?_ | refine am_le_s ?_))) (ih (v + 1) (v + 1) (am_up f 45 v 1) rfl (by omega) (fun a ha => (am_up_ne ha).trans (hf a ha)) (fun x hx => by rw [am_up_eq]; dsimp only; by_cases z : x = v; (rw [if_pos z, if_pos (by omega)]); rw [if_neg z]; exact hN x (by omega))) | exact am_weak (by first | exact am_le_0 | (repeat (first | exact am_le_0 | refine am_le_n ?_ | refine am_le_s ?_))) (ih (v + 1) (v + 1) (am_up f 45 v 0) rfl (by omega) (fun a ha => (am_up_ne ha).trans (hf a ha)) (fun x hx => by rw [am_up_eq]; dsimp only; by_cases z : x = v; (rw [if_pos z, if_neg (by omega)]); rw [if_neg z]; exact hN x (by omega)))
        all_goals (omega)
      · refine ap_go kc_45_19 ?_
        refine ai_iconst ?_; refine ap_goto rfl ?_
        refine ap_go kc_45_24 ?_
        refine ai_bastore (n := 2541) rfl rfl (by decide) ?_ ?_ ?_; refine ai_iinc rfl rfl ?_; refine ap_goto rfl ?_
        · first | exact am_weak (by first | exact am_le_0 | (repeat (first | exact am_le_0 | refine am_le_n ?_ | refine am_le_s ?_))) (ih (v + 1) (v + 1) (am_up f 45 v 1) rfl (by omega) (fun a ha => (am_up_ne ha).trans (hf a ha)) (fun x hx => by rw [am_up_eq]; dsimp only; by_cases z : x = v; (rw [if_pos z, if_pos (by omega)]); rw [if_neg z]; exact hN x (by omega))) | exact am_weak (by first | exact am_le_0 | (repeat (first | exact am_le_0 | refine am_le_n ?_ | refine am_le_s ?_))) (ih (v + 1) (v + 1) (am_up f 45 v 0) rfl (by omega) (fun a ha => (am_up_ne ha).trans (hf a ha)) (fun x hx => by rw [am_up_eq]; dsimp only; by_cases z : x = v; (rw [if_pos z, if_neg (by omega)]); rw [if_neg z]; exact hN x (by omega)))
        all_goals (omega)
      all_goals (omega)
    all_goals (omega)
