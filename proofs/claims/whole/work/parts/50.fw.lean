/-! THE REFERENCE: findWay() -/
theorem lp_43c {d L : Nat} {sw : Bool} {Q : Option Value → am_H → Prop} {g fb : Nat → Nat → Int} {n : Int} (K : ∀ f, (∀ a, a ≠ 46 → f a = fb a) → (∀ v, v < 2541 → f 46 v = 0) → am_Wp (am_call (d + 3)) 43 Q 149 [some (.ref 31), none, some (.int (iZ n)), none, none] [] (53, sh_lt L, iH f, jH g, sh_rt sw) (0, 0)) : ∀ (k v : Nat) (i : Int) (f : Nat → Nat → Int), i = v → 2541 = v + k → (∀ a, a ≠ 46 → f a = fb a) → (∀ x, x < v → f 46 x = 0) → am_Wp (am_call (d + 3)) 43 Q 129 [some (.ref 31), none, some (.int (iZ n)), some (.int (iZ i)), none] [] (53, sh_lt L, iH f, jH g, sh_rt sw) (0, 0) := by
  intro k
  induction k with
  | zero =>
    intro v i f hi hk hf hN
    subst hi
    refine ap_go kc_43_129 ?_
    refine ap_iload_n rfl ?_; refine ai_sipush (by decide) ?_
    refine ai_icge rfl rfl (fun hb0 => ?_) (fun hb0 => ?_) ?_
    · exact am_weak (by first | exact am_le_0 | (repeat (first | exact am_le_0 | refine am_le_n ?_ | refine am_le_s ?_))) (K f hf (by rw [hk]; exact hN))
    · exfalso; omega
    all_goals (omega)
  | succ k ih =>
    intro v i f hi hk hf hN
    subst hi
    refine ap_go kc_43_129 ?_
    refine ap_iload_n rfl ?_; refine ai_sipush (by decide) ?_
    refine ai_icge rfl rfl (fun hb0 => ?_) (fun hb0 => ?_) ?_
    · exfalso; omega
    · refine ap_go kc_43_136 ?_
      refine ap_aload_n rfl ?_; refine ap_getR ow_43 rf_8_58 rfl rfl rfl ?_; refine ap_iload_n rfl ?_; refine ai_iconst ?_; refine ai_bastore (n := 2541) rfl rfl (by decide) ?_ ?_ ?_; refine ai_iinc rfl rfl ?_; refine ap_goto rfl ?_
      · exact am_weak (by first | exact am_le_0 | (repeat (first | exact am_le_0 | refine am_le_n ?_ | refine am_le_s ?_))) (ih (v + 1) (v + 1) (am_up f 46 v 0) rfl (by omega) (fun a ha => (am_up_ne ha).trans (hf a ha)) (fun x hx => by rw [am_up_eq]; dsimp only; by_cases z : x = v; (rw [if_pos z]); rw [if_neg z]; exact hN x (by omega)))
      all_goals (omega)
    all_goals (omega)
theorem lp_43m {d L : Nat} {sw : Bool} {Q : Option Value → am_H → Prop} {g fb : Nat → Nat → Int} {n : Int} (hb46 : ∀ v, v < 2541 → fb 46 v = 0 ∨ fb 46 v = 1) (K : ∀ f, (∀ a, a ≠ 45 → f a = fb a) → (∀ v, v < 2541 → f 45 v = fb 46 v) → am_Wp (am_call (d + 3)) 43 Q 115 [some (.ref 31), none, some (.int (iZ n)), none, none] [] (53, sh_lt L, iH f, jH g, sh_rt sw) (0, 0)) : ∀ (k v : Nat) (i : Int) (f : Nat → Nat → Int), i = v → 2541 = v + k → (∀ a, a ≠ 45 → f a = fb a) → (∀ x, x < v → f 45 x = fb 46 x) → am_Wp (am_call (d + 3)) 43 Q 188 [some (.ref 31), none, some (.int (iZ n)), none, some (.int (iZ i))] [] (53, sh_lt L, iH f, jH g, sh_rt sw) (0, 0) := by
  intro k
  induction k with
  | zero =>
    intro v i f hi hk hf hN
    subst hi
    refine ap_go kc_43_188 ?_
    refine ap_iload rfl ?_; refine ai_sipush (by decide) ?_
    refine ai_icge rfl rfl (fun hb0 => ?_) (fun hb0 => ?_) ?_
    · refine ap_go kc_43_216 ?_
      refine ap_goto rfl ?_
      exact am_weak (by first | exact am_le_0 | (repeat (first | exact am_le_0 | refine am_le_n ?_ | refine am_le_s ?_))) (K f hf (by rw [hk]; exact hN))
    · exfalso; omega
    all_goals (omega)
  | succ k ih =>
    intro v i f hi hk hf hN
    subst hi
    have e46 : f 46 ((v : Nat) : Int).toNat = fb 46 v := by rw [hf 46 (by decide)]; rfl
    have h46 := hb46 v (by omega)
    refine ap_go kc_43_188 ?_
    refine ap_iload rfl ?_; refine ai_sipush (by decide) ?_
    refine ai_icge rfl rfl (fun hb0 => ?_) (fun hb0 => ?_) ?_
    · exfalso; omega
    · refine ap_go kc_43_196 ?_
      refine ap_aload_n rfl ?_; refine ap_getR ow_43 rf_8_55 rfl rfl rfl ?_; refine ap_iload rfl ?_; refine ap_aload_n rfl ?_; refine ap_getR ow_43 rf_8_58 rfl rfl rfl ?_; refine ap_iload rfl ?_; refine ai_baload (n := 2541) rfl rfl (by decide) ?_ ?_; refine ai_bastore (n := 2541) rfl rfl (by decide) ?_ ?_ ?_; refine ai_iinc rfl rfl ?_; refine ap_goto rfl ?_
      · exact am_weak (by first | exact am_le_0 | (repeat (first | exact am_le_0 | refine am_le_n ?_ | refine am_le_s ?_))) (ih (v + 1) (v + 1) (am_up f 45 v _) rfl (by omega) (fun a ha => (am_up_ne ha).trans (hf a ha)) (fun x hx => by rw [am_up_eq]; dsimp only; by_cases z : x = v; (rw [if_pos z, z]; exact e46); rw [if_neg z]; exact hN x (by omega)))
      all_goals (omega)
    all_goals (omega)
theorem lp_43n {d L : Nat} {sw : Bool} {Q : Option Value → am_H → Prop} {g fb : Nat → Nat → Int} {a0 : Nat} (ha : a0 < 2541) (K : ∀ f, (∀ a, a ≠ 45 → f a = fb a) → (∀ v, v < 2541 → f 45 v = if v = a0 then 1 else 0) → am_Wp (am_call (d + 3)) 43 Q 108 [some (.ref 31), some (.int (iZ (a0 : Int))), none, none, none] [] (53, sh_lt L, iH f, jH g, sh_rt sw) (0, 0)) : ∀ (k v : Nat) (i : Int) (f : Nat → Nat → Int), i = v → 2541 = v + k → (∀ a, a ≠ 45 → f a = fb a) → (∀ x, x < v → f 45 x = if x = a0 then 1 else 0) → am_Wp (am_call (d + 3)) 43 Q 79 [some (.ref 31), some (.int (iZ (a0 : Int))), some (.int (iZ i)), none, none] [] (53, sh_lt L, iH f, jH g, sh_rt sw) (0, 0) := by
  intro k
  induction k with
  | zero =>
    intro v i f hi hk hf hN
    subst hi
    refine ap_go kc_43_79 ?_
    refine ap_iload_n rfl ?_; refine ai_sipush (by decide) ?_
    refine ai_icge rfl rfl (fun hb0 => ?_) (fun hb0 => ?_) ?_
    · exact am_weak (by first | exact am_le_0 | (repeat (first | exact am_le_0 | refine am_le_n ?_ | refine am_le_s ?_))) (K f hf (by rw [hk]; exact hN))
    · exfalso; omega
    all_goals (omega)
  | succ k ih =>
    intro v i f hi hk hf hN
    subst hi
    refine ap_go kc_43_79 ?_
    refine ap_iload_n rfl ?_; refine ai_sipush (by decide) ?_
    refine ai_icge rfl rfl (fun hb0 => ?_) (fun hb0 => ?_) ?_
    · exfalso; omega
    · refine ap_go kc_43_86 ?_
      refine ap_aload_n rfl ?_; refine ap_getR ow_43 rf_8_55 rfl rfl rfl ?_; refine ap_iload_n rfl ?_; refine ap_iload_n rfl ?_; refine ap_iload_n rfl ?_
      refine ai_icne rfl rfl (fun hb1 => ?_) (fun hb1 => ?_) ?_
      · refine ap_go kc_43_100 ?_
        refine ai_iconst ?_; refine ap_nil ?_
        refine ap_go kc_43_101 ?_
        refine ai_bastore (n := 2541) rfl rfl (by decide) ?_ ?_ ?_; refine ai_iinc rfl rfl ?_; refine ap_goto rfl ?_
        · first | exact am_weak (by first | exact am_le_0 | (repeat (first | exact am_le_0 | refine am_le_n ?_ | refine am_le_s ?_))) (ih (v + 1) (v + 1) (am_up f 45 v 1) rfl (by omega) (fun a ha => (am_up_ne ha).trans (hf a ha)) (fun x hx => by rw [am_up_eq]; dsimp only; by_cases z : x = v; (rw [if_pos z, if_pos (by omega)]); rw [if_neg z]; exact hN x (by omega))) | exact am_weak (by first | exact am_le_0 | (repeat (first | exact am_le_0 | refine am_le_n ?_ | refine am_le_s ?_))) (ih (v + 1) (v + 1) (am_up f 45 v 0) rfl (by omega) (fun a ha => (am_up_ne ha).trans (hf a ha)) (fun x hx => by rw [am_up_eq]; dsimp only; by_cases z : x = v; (rw [if_pos z, if_neg (by omega)]); rw [if_neg z]; exact hN x (by omega)))
        all_goals (omega)
      · refine ap_go kc_43_96 ?_
        refine ai_iconst ?_; refine ap_goto rfl ?_
        refine ap_go kc_43_101 ?_
        refine ai_bastore (n := 2541) rfl rfl (by decide) ?_ ?_ ?_; refine ai_iinc rfl rfl ?_; refine ap_goto rfl ?_
        · first | exact am_weak (by first | exact am_le_0 | (repeat (first | exact am_le_0 | refine am_le_n ?_ | refine am_le_s ?_))) (ih (v + 1) (v + 1) (am_up f 45 v 1) rfl (by omega) (fun a ha => (am_up_ne ha).trans (hf a ha)) (fun x hx => by rw [am_up_eq]; dsimp only; by_cases z : x = v; (rw [if_pos z, if_pos (by omega)]); rw [if_neg z]; exact hN x (by omega))) | exact am_weak (by first | exact am_le_0 | (repeat (first | exact am_le_0 | refine am_le_n ?_ | refine am_le_s ?_))) (ih (v + 1) (v + 1) (am_up f 45 v 0) rfl (by omega) (fun a ha => (am_up_ne ha).trans (hf a ha)) (fun x hx => by rw [am_up_eq]; dsimp only; by_cases z : x = v; (rw [if_pos z, if_neg (by omega)]); rw [if_neg z]; exact hN x (by omega)))
        all_goals (omega)
      all_goals (omega)
    all_goals (omega)
/-- the least street that meets -/
theorem lp_43t {d L : Nat} {sw : Bool} {Q : Option Value → am_H → Prop} {f0 g0 g fb : Nat → Nat → Int} {D0 j s : Nat} {h c : Nat → Int} {n : Int} (hM : MOk f0 g0) (hcc : fb 44 = c) (hD : mg_D (mE f0 g0) (mT f0) (labZ (g 43) c)) (hL : LI f0 g0 (g 43) c) (h0 : D0 ≤ 1100000000000000) (hT : TC f0 g0 (labZ (g 43) c) D0 j s h) (hG : Gm f0 g0 fb g) (hN : NW f0 (labZ (g 43) c) D0 s h (fb 45)) {tz : Nat} (htz : (tz : Int) ≤ f0 31 5) (hz : mtZ f0 g0 (labZ (g 43) c) D0 s h tz) (K : ∀ (t : Nat) f, 1 ≤ t → (t : Int) ≤ f0 31 5 → mtZ f0 g0 (labZ (g 43) c) D0 s h t → (∀ t', 1 ≤ t' → t' < t → ¬ mtZ f0 g0 (labZ (g 43) c) D0 s h t') → (∀ a, a ≠ 46 → f a = fb a) → NW f0 (labZ (g 43) c) D0 t (drZ (neZ f0 t).toNat (wZ f0 g0 t) h) (f 46) → am_Wp (am_call (d + 3)) 43 Q 165 [some (.ref 31), none, some (.int (iZ n)), some (.int (iZ (t : Int))), none] [] (53, sh_lt L, iH f, jH g, sh_rt sw) (0, 0)) : ∀ (k t : Nat) (i : Int) (f : Nat → Nat → Int), i = t → tz = t + k → 1 ≤ t → (∀ a, a ≠ 46 → f a = fb a) → (∀ v, v < 2541 → f 46 v = 0) → (∀ t', 1 ≤ t' → t' < t → ¬ mtZ f0 g0 (labZ (g 43) c) D0 s h t') → am_Wp (am_call (d + 3)) 43 Q 151 [some (.ref 31), none, some (.int (iZ n)), some (.int (iZ i)), none] [] (53, sh_lt L, iH f, jH g, sh_rt sw) (0, 0) := by
  intro k
  have m5 := hM.1.2.1
  induction k with
  | zero =>
    intro t i f hi hk ht hf hv hno
    subst hi
    have hG' := Gm_f (c := 46) (by decide) hG hf
    have e44 : f 44 = c := (hf 44 (by decide)).trans hcc
    have e45 : f 45 = fb 45 := hf 45 (by decide)
    subst hk
    refine ap_go kc_43_151 ?_
    refine ap_aload_n rfl ?_; refine ap_iload_n rfl ?_; refine ap_callv0 ow_43 rm_8_167 na_42 mc_42 ms_42 rfl rfl (Nat.le_of_ble_eq_true rfl) (Nat.le_of_ble_eq_true rfl) (Or.inr rfl) (Nat.zero_le _) (Nat.zero_le _) ?_; refine sp_42 (D0 := D0) (i := j) (s := s) (t := tz) (h := h) (fun x f2 q1 q2 q3 q4 => ?_) hM (by rw [e44]; exact hD) (by rw [e44]; exact hL) h0 (by rw [e44]; exact hT) hG' (by rw [e44, e45]; exact hN) ⟨ht, htz⟩ hv; dsimp only [Option.toList_some, Option.toList_none, List.cons_append, List.nil_append]
    rw [e44] at q3 q4
    refine ai_ifne rfl rfl (fun hb0 => ?_) (fun hb0 => ?_) ?_
    · exact am_weak (by first | exact am_le_0 | (repeat (first | exact am_le_0 | refine am_le_n ?_ | refine am_le_s ?_))) (K tz f2 ht htz (q3 (by omega)).1 hno (fun a ha => (q1 a ha).trans (hf a ha)) (q3 (by omega)).2)
    · exact absurd hz (q4 (by omega)).1
    all_goals (omega)
  | succ k ih =>
    intro t i f hi hk ht hf hv hno
    subst hi
    have hG' := Gm_f (c := 46) (by decide) hG hf
    have e44 : f 44 = c := (hf 44 (by decide)).trans hcc
    have e45 : f 45 = fb 45 := hf 45 (by decide)
    refine ap_go kc_43_151 ?_
    refine ap_aload_n rfl ?_; refine ap_iload_n rfl ?_; refine ap_callv0 ow_43 rm_8_167 na_42 mc_42 ms_42 rfl rfl (Nat.le_of_ble_eq_true rfl) (Nat.le_of_ble_eq_true rfl) (Or.inr rfl) (Nat.zero_le _) (Nat.zero_le _) ?_; refine sp_42 (D0 := D0) (i := j) (s := s) (t := t) (h := h) (fun x f2 q1 q2 q3 q4 => ?_) hM (by rw [e44]; exact hD) (by rw [e44]; exact hL) h0 (by rw [e44]; exact hT) hG' (by rw [e44, e45]; exact hN) ⟨ht, by omega⟩ hv; dsimp only [Option.toList_some, Option.toList_none, List.cons_append, List.nil_append]
    rw [e44] at q3 q4
    refine ai_ifne rfl rfl (fun hb0 => ?_) (fun hb0 => ?_) ?_
    · exact am_weak (by first | exact am_le_0 | (repeat (first | exact am_le_0 | refine am_le_n ?_ | refine am_le_s ?_))) (K t f2 ht (by omega) (q3 (by omega)).1 hno (fun a ha => (q1 a ha).trans (hf a ha)) (q3 (by omega)).2)
    · refine ap_go kc_43_159 ?_
      refine ai_iinc rfl rfl ?_; refine ap_goto rfl ?_
      exact am_weak (by first | exact am_le_0 | (repeat (first | exact am_le_0 | refine am_le_n ?_ | refine am_le_s ?_))) (ih (t + 1) (t + 1) f2 rfl (by omega) (by omega) (fun a ha => (q1 a ha).trans (hf a ha)) (q4 (by omega)).2 (fun t' z1 z2 => by rcases Nat.lt_or_ge t' t with z | z; exact hno t' z1 z; (rw [show t' = t by omega]; exact (q4 (by omega)).1)))
    all_goals (omega)
/-- what stays while the row is sought -/
def FB (fb f : Nat → Nat → Int) : Prop := (∀ a, a ≠ 31 → a ≠ 45 → a ≠ 46 → a ≠ 49 → f a = fb a) ∧ ∀ j, j ≠ 27 → f 31 j = fb 31 j
theorem FB_Gm {f0 g0 fb g f : Nat → Nat → Int} (h : Gm f0 g0 fb g) (hf : FB fb f) : Gm f0 g0 f g := by
  unfold Gm at h ⊢
  rw [hf.1 35 (by decide) (by decide) (by decide) (by decide), hf.1 36 (by decide) (by decide) (by decide) (by decide), hf.1 39 (by decide) (by decide) (by decide) (by decide), hf.1 42 (by decide) (by decide) (by decide) (by decide), hf.2 1 (by decide), hf.2 5 (by decide), hf.2 15 (by decide), hf.2 16 (by decide), hf.2 17 (by decide), hf.2 18 (by decide)]
  exact h
theorem FB_c {fb f f2 : Nat → Nat → Int} (c : Nat) (hc : c = 45 ∨ c = 46 ∨ c = 49) (hf : FB fb f) (h2 : ∀ a, a ≠ c → f2 a = f a) : FB fb f2 := by
  refine ⟨fun a h31 h45 h46 h49 => ?_, fun j hj => ?_⟩
  · rw [h2 a (by omega)]; exact hf.1 a h31 h45 h46 h49
  · rw [h2 31 (by omega)]; exact hf.2 j hj
theorem lp_43w {d L : Nat} {sw : Bool} {Q : Option Value → am_H → Prop} {f0 g0 g fb : Nat → Nat → Int} {D0 : Nat} {c : Nat → Int} (hM : MOk f0 g0) (hcc : fb 44 = c) (hD : mg_D (mE f0 g0) (mT f0) (labZ (g 43) c)) (hL : LI f0 g0 (g 43) c) (h0 : D0 ≤ 1100000000000000) (hn : D0 % 4096 < 2541) (hG : Gm f0 g0 fb g) (K : ∀ f s h, FB fb f → f 31 27 = ((D0 % 4096 : Nat) : Int) → Rw f0 g0 (labZ (g 43) c) D0 (f 49) (D0 % 4096) s h → plZ f0 s = f0 31 16 → Q (some (.int (iZ 1))) (53, sh_lt L, iH f, jH g, sh_rt sw)) : ∀ (k i s : Nat) (h : Nat → Int) (f : Nat → Nat → Int), D0 % 4096 = i + k → FB fb f → f 31 27 = (i : Int) → Rw f0 g0 (labZ (g 43) c) D0 (f 49) i s h → TI f0 g0 (labZ (g 43) c) D0 i s h → NW f0 (labZ (g 43) c) D0 s h (f 45) → am_Wp (am_call (d + 3)) 43 Q 115 [some (.ref 31), none, some (.int (iZ ((D0 % 4096 : Nat) : Int))), none, none] [] (53, sh_lt L, iH f, jH g, sh_rt sw) (0, 0) := by
  intro k
  have m5 := hM.1.2.1
  induction k with
  | zero =>
    intro i s h f hk hf h27 hR hT hN
    have he := TI_end hM hD hT
    refine ap_go kc_43_115 ?_
    refine ap_aload_n rfl ?_; refine ai_getI ow_43 rf_8_151 rfl rfl ?_; refine ap_iload_n rfl ?_
    refine ai_icge rfl rfl (fun hb0 => ?_) (fun hb0 => ?_) ?_
    · refine ap_go kc_43_219 ?_
      refine ai_iconst ?_; refine ai_zret rfl ?_ ?_
      · exact K f s h hf (by rw [hk]; exact h27) (by rw [hk]; exact hR) (he.1.mpr (by omega))
      all_goals (omega)
    · exfalso; omega
    all_goals (omega)
  | succ k ih =>
    intro i s h f hk hf h27 hR hT hN
    have he := TI_end hM hD hT
    have e44 : f 44 = c := (hf.1 44 (by decide) (by decide) (by decide) (by decide)).trans hcc
    have hGf := FB_Gm hG hf
    obtain ⟨tz, z1, z2, z3⟩ := TC_ex hM hD (TI_TC hM hD hT) (fun q => by have := he.1.mp q; omega)
    have hTC := TI_TC hM hD hT
    have J6 : ∀ (t : Nat) (f4 F6 : Nat → Nat → Int), RwS f0 g0 (labZ (g 43) c) D0 s h t (drZ (neZ f0 t).toNat (wZ f0 g0 t) (chZ (uZ f0 g0 (plZ f0 s).toNat) h)) → FB fb f4 → f4 31 27 = (i : Int) → f4 49 = f 49 → NW f0 (labZ (g 43) c) D0 t (drZ (neZ f0 t).toNat (wZ f0 g0 t) (chZ (uZ f0 g0 (plZ f0 s).toNat) h)) (f4 46) → F6 = am_up (am_up f4 49 (f4 31 27).toNat t) 31 27 (am_up f4 49 (f4 31 27).toNat t 31 27 + 1) → am_Wp (am_call (d + 3)) 43 Q 188 [some (.ref 31), none, some (.int (iZ ((D0 % 4096 : Nat) : Int))), none, some (.int (iZ 0))] [] (53, sh_lt L, iH F6, jH g, sh_rt sw) (0, 0) := by
      intro t f4 F6 p1 p2 p3 p4 p5 p6
      have ei : (f4 31 27).toNat = i := by omega
      rw [ei] at p6
      have h6 : ∀ a, a ≠ 31 → a ≠ 49 → F6 a = f4 a := fun a h1 h2 => by rw [p6, am_up_ne h1, am_up_ne h2]
      have h7 : ∀ j, j ≠ 27 → F6 31 j = f4 31 j := fun j hj => by
        rw [p6, am_up_eq]
        dsimp only
        rw [if_neg hj, am_up_ne (by decide)]
      have h8 : F6 31 27 = ((i + 1 : Nat) : Int) := by
        rw [p6, am_up_eq]
        dsimp only
        rw [if_pos rfl, am_up_ne (by decide), p3]
        rfl
      have h9 : F6 49 = fun x => if x = i then (t : Int) else f 49 x := by
        rw [p6, am_up_ne (by decide), am_up_eq, p4]
      refine lp_43m (fb := F6) (fun v hv => by rw [h6 46 (by decide) (by decide)]; exact (p5 v hv).1) ?_ 2541 0 0 F6 rfl rfl (fun _ _ => rfl) (fun x hx => absurd hx (Nat.not_lt_zero x))
      intro f6 r1 r2
      refine ih (i + 1) t _ f6 (by omega) ?_ ?_ ?_ (TC_TI hM hD h0 hTC ⟨p1.1, p1.2.1⟩ p1.2.2.1) ?_
      · refine ⟨fun a h31 h45 h46 h49 => ?_, fun j hj => ?_⟩
        · rw [r1 a h45, h6 a h31 h49]; exact p2.1 a h31 h45 h46 h49
        · rw [r1 31 (by decide), h7 j hj]; exact p2.2 j hj
      · rw [r1 31 (by decide)]; exact h8
      · rw [r1 49 (by decide), h9]
        refine ⟨s, h, Rw_ext i s h (fun x hx => ?_) hR, p1, if_pos rfl⟩
        rw [if_neg (by omega)]
      · intro v hv
        rw [r2 v hv, h6 46 (by decide) (by decide)]
        exact p5 v hv
    have J5 : ∀ (t : Nat) (f4 : Nat → Nat → Int), RwS f0 g0 (labZ (g 43) c) D0 s h t (drZ (neZ f0 t).toNat (wZ f0 g0 t) (chZ (uZ f0 g0 (plZ f0 s).toNat) h)) → FB fb f4 → f4 31 27 = (i : Int) → f4 49 = f 49 → NW f0 (labZ (g 43) c) D0 t (drZ (neZ f0 t).toNat (wZ f0 g0 t) (chZ (uZ f0 g0 (plZ f0 s).toNat) h)) (f4 46) → am_Wp (am_call (d + 3)) 43 Q 165 [some (.ref 31), none, some (.int (iZ ((D0 % 4096 : Nat) : Int))), some (.int (iZ (t : Int))), none] [] (53, sh_lt L, iH f4, jH g, sh_rt sw) (0, 0) := by
      intro t f4 p1 p2 p3 p4 p5
      refine ap_go kc_43_165 ?_
      refine ap_aload_n rfl ?_; refine ap_getR ow_43 rf_8_73 rfl rfl rfl ?_; refine ap_aload_n rfl ?_; refine ai_getI ow_43 rf_8_151 rfl rfl ?_; refine ap_iload_n rfl ?_; refine ai_iastore (n := 2600) rfl rfl (by decide) ?_ ?_; refine ap_aload_n rfl ?_; refine ap_dup rfl ?_; refine ai_getI ow_43 rf_8_151 rfl rfl ?_; refine ai_iconst ?_; refine ai_iadd ?_; refine ai_putI ow_43 rf_8_151 rfl rfl rfl ?_; refine ai_iconst ?_; refine ap_istore rfl ?_; refine ap_nil ?_
      · exact am_weak (by first | exact am_le_0 | (repeat (first | exact am_le_0 | refine am_le_n ?_ | refine am_le_s ?_))) (J6 t f4 _ p1 p2 p3 p4 p5 rfl)
      all_goals (omega)
    have J3 : ∀ f3, (∀ a, a ≠ 45 → a ≠ 46 → f3 a = f a) → NW f0 (labZ (g 43) c) D0 s (chZ (uZ f0 g0 (plZ f0 s).toNat) h) (f3 45) → (∀ v, v < 2541 → f3 46 v = 0) → am_Wp (am_call (d + 3)) 43 Q 149 [some (.ref 31), none, some (.int (iZ ((D0 % 4096 : Nat) : Int))), none, none] [] (53, sh_lt L, iH f3, jH g, sh_rt sw) (0, 0) := by
      intro f3 q3 q2 q4
      have hf3 : FB fb f3 := ⟨fun a h31 h45 h46 h49 => (q3 a h45 h46).trans (hf.1 a h31 h45 h46 h49), fun j hj => by rw [q3 31 (by decide) (by decide)]; exact hf.2 j hj⟩
      have e443 : f3 44 = c := (hf3.1 44 (by decide) (by decide) (by decide) (by decide)).trans hcc
      have hG3 := FB_Gm hG hf3
      have J4 : ∀ (t : Nat) f4, 1 ≤ t → (t : Int) ≤ f0 31 5 → mtZ f0 g0 (labZ (g 43) c) D0 s (chZ (uZ f0 g0 (plZ f0 s).toNat) h) t → (∀ t', 1 ≤ t' → t' < t → ¬ mtZ f0 g0 (labZ (g 43) c) D0 s (chZ (uZ f0 g0 (plZ f0 s).toNat) h) t') → (∀ a, a ≠ 46 → f4 a = f3 a) → NW f0 (labZ (g 43) c) D0 t (drZ (neZ f0 t).toNat (wZ f0 g0 t) (chZ (uZ f0 g0 (plZ f0 s).toNat) h)) (f4 46) → am_Wp (am_call (d + 3)) 43 Q 165 [some (.ref 31), none, some (.int (iZ ((D0 % 4096 : Nat) : Int))), some (.int (iZ (t : Int))), none] [] (53, sh_lt L, iH f4, jH g, sh_rt sw) (0, 0) := by
        intro t f4 p1 p2 p3 p4 p5 p6
        refine J5 t f4 ⟨p1, p2, p3, p4, rfl⟩ (FB_c 46 (Or.inr (Or.inl rfl)) hf3 p5) ?_ ?_ p6
        · rw [p5 31 (by decide), q3 31 (by decide) (by decide)]; exact h27
        · rw [p5 49 (by decide), q3 49 (by decide) (by decide)]
      refine ap_go kc_43_149 ?_
      refine ai_iconst ?_; refine ap_istore_n rfl ?_; refine ap_nil ?_
      exact am_weak (by first | exact am_le_0 | (repeat (first | exact am_le_0 | refine am_le_n ?_ | refine am_le_s ?_))) (lp_43t hM e443 hD hL h0 hTC hG3 q2 z2 z3 J4 (tz - 1) 1 1 f3 rfl (by omega) (Nat.le_refl 1) (fun _ _ => rfl) q4 (fun t' y1 y2 => by omega))
    refine ap_go kc_43_115 ?_
    refine ap_aload_n rfl ?_; refine ai_getI ow_43 rf_8_151 rfl rfl ?_; refine ap_iload_n rfl ?_
    refine ai_icge rfl rfl (fun hb0 => ?_) (fun hb0 => ?_) ?_
    · exfalso; omega
    · refine ap_go kc_43_123 ?_
      refine ap_aload_n rfl ?_; refine ap_callv0 ow_43 rm_8_164 na_41 mc_41 ms_41 rfl rfl (Nat.le_of_ble_eq_true rfl) (Nat.le_of_ble_eq_true rfl) (Or.inr rfl) (Nat.zero_le _) (Nat.zero_le _) ?_; refine sp_41 (D0 := D0) (i := i) (s := s) (h := h) (fun f2 q1 q2 => ?_) hM (by rw [e44]; exact hD) (by rw [e44]; exact hL) (by rw [e44]; exact hT) hGf (by rw [e44]; exact hN); dsimp only [Option.toList_some, Option.toList_none, List.cons_append, List.nil_append]; refine ai_iconst ?_; refine ap_istore_n rfl ?_; refine ap_nil ?_
      exact am_weak (by first | exact am_le_0 | (repeat (first | exact am_le_0 | refine am_le_n ?_ | refine am_le_s ?_))) (lp_43c (fb := f2) (fun f3 y1 y2 => J3 f3 (fun a w1 w2 => (y1 a w2).trans (q1 a w1)) (by rw [y1 45 (by decide)]; rw [e44] at q2; exact q2) y2) 2541 0 0 f2 rfl rfl (fun _ _ => rfl) (fun x hx => absurd hx (Nat.not_lt_zero x)))
    all_goals (omega)
