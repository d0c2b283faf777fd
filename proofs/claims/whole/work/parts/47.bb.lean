/-! THE REFERENCE: bestBy() -/
section BB
variable {f0 g0 f g : Nat → Nat → Int} {D : Nat → Option Nat} {D0 i s t : Nat} {h F G : Nat → Int} {c n : Nat → Int}
def mtE (f0 g0 : Nat → Nat → Int) (D : Nat → Option Nat) (D0 s : Nat) (h : Nat → Int) (t e : Nat) : Prop := mfZ f0 g0 s t ∧ ∃ b d : Nat, (b : Int) = 21 * t + e - neZ f0 t ∧ D b = some d ∧ h e + wZ f0 g0 t + d = D0
theorem mtE_mt : mtZ f0 g0 D D0 s h t ↔ ∃ e : Nat, neZ f0 t ≤ e ∧ (e : Int) ≤ toZ f0 ∧ mtE f0 g0 D D0 s h t e := by
  constructor
  · rintro ⟨h1, e, b, d, h2, h3, h4, h5, h6⟩
    exact ⟨e, h2, h3, h1, b, d, h4, h5, h6⟩
  · rintro ⟨e, h2, h3, h1, b, d, h4, h5, h6⟩
    exact ⟨h1, e, b, d, h2, h3, h4, h5, h6⟩
theorem bb_iff (hM : MOk f0 g0) (hD : mg_D (mE f0 g0) (mT f0) (labZ c n)) (hL : LI f0 g0 c n) (hT : TC f0 g0 (labZ c n) D0 i s h) (hN : NW f0 (labZ c n) D0 s h F) (ht : 1 ≤ t ∧ (t : Int) ≤ f0 31 5) {e : Nat} (hn : neZ f0 t ≤ e) (he : (e : Int) ≤ toZ f0) :
    (F (21 * s + e) = 1 ∧ goZ f0 g0 s e t = true ∧ 0 ≤ c (21 * (t : Int) + e - neZ f0 t).toNat ∧ c (21 * (t : Int) + e - neZ f0 t).toNat + prZ f0 g0 t = c (21 * s + e) ∧ n (21 * (t : Int) + e - neZ f0 t).toNat + 1 = n (21 * s + e)) ↔ mtE f0 g0 (labZ c n) D0 s h t e := by
  have m5 := hM.1.2.1
  have h20 := toZ_in f0
  have hne := neZ_in hM t
  have hs := hT.2.2.2.2.2
  have a1 := NW_at hN (by omega) (e := e) (by omega) he
  have hwZ : wZ f0 g0 t = 4096 * prZ f0 g0 t + 1 := rfl
  have w1 := hL.1 (21 * s + e) (by omega)
  have w2 := hL.1 (21 * (t : Int) + e - neZ f0 t).toNat (by omega)
  have b2 := LI_bd hM hL (v := (21 * (t : Int) + e - neZ f0 t).toNat) (by omega)
  constructor
  · rintro ⟨q1, q2, q3, q4, q5⟩
    obtain ⟨d, q6, q7⟩ := a1.2.mp q1
    have q8 := (lab_iff hL).mp q6
    refine ⟨(goZ_mf.mp q2).1, (21 * (t : Int) + e - neZ f0 t).toNat, (4096 * c (21 * (t : Int) + e - neZ f0 t).toNat + n (21 * (t : Int) + e - neZ f0 t).toNat).toNat, by omega, (lab_iff hL).mpr ⟨by omega, q3, by omega⟩, by omega⟩
  · rintro ⟨q1, b, d, q2, q3, q4⟩
    have eb : b = (21 * (t : Int) + e - neZ f0 t).toNat := by omega
    obtain ⟨d', y1, y2⟩ := hD.2.1 _ _ _ d (mE_dr hs he ht q1 hn q2) q3
    have y3 := hT.2.1 e d' he y1
    have hp := q1.2.1
    rw [eb] at q3
    have z1 := (lab_iff hL).mp q3
    have z2 := (lab_iff hL).mp y1
    exact ⟨a1.2.mpr ⟨d', y1, by omega⟩, goZ_mf.mpr ⟨q1, hn⟩, by omega, by omega, by omega⟩
def NX (f0 g0 : Nat → Nat → Int) (D : Nat → Option Nat) (D0 s : Nat) (h : Nat → Int) (t cur : Nat) (G : Nat → Int) (sm : Int) : Prop := (∀ v : Nat, v < 2541 → (G v = 0 ∨ G v = 1) ∧ (G v = 1 ↔ ∃ e : Nat, neZ f0 t ≤ e ∧ e < cur ∧ (e : Int) ≤ toZ f0 ∧ (v : Int) = 21 * t + e - neZ f0 t ∧ mtE f0 g0 D D0 s h t e)) ∧ (sm = 0 ∨ sm = 1) ∧ (sm = 1 ↔ ∃ e : Nat, neZ f0 t ≤ e ∧ e < cur ∧ (e : Int) ≤ toZ f0 ∧ mtE f0 g0 D D0 s h t e)
theorem NX_0 (hG : ∀ v, v < 2541 → G v = 0) : NX f0 g0 D D0 s h t 0 G 0 := by
  refine ⟨fun v hv => ⟨Or.inl (hG v hv), fun z => ?_, ?_⟩, Or.inl rfl, fun z => ?_, ?_⟩
  · rw [hG v hv] at z; exact absurd z (by decide)
  · rintro ⟨e, -, z, -⟩; exact absurd z (Nat.not_lt_zero e)
  · exact absurd z (by decide)
  · rintro ⟨e, -, z, -⟩; exact absurd z (Nat.not_lt_zero e)
theorem NX_cg {cur cur2 : Nat} {sm : Int} (hX : NX f0 g0 D D0 s h t cur G sm) (hc : ∀ e : Nat, neZ f0 t ≤ e → (e : Int) ≤ toZ f0 → (e < cur ↔ e < cur2)) : NX f0 g0 D D0 s h t cur2 G sm := by
  refine ⟨fun v hv => ⟨(hX.1 v hv).1, (hX.1 v hv).2.trans ⟨?_, ?_⟩⟩, hX.2.1, hX.2.2.trans ⟨?_, ?_⟩⟩
  · rintro ⟨e, z1, z2, z3, z4⟩; exact ⟨e, z1, (hc e z1 z3).mp z2, z3, z4⟩
  · rintro ⟨e, z1, z2, z3, z4⟩; exact ⟨e, z1, (hc e z1 z3).mpr z2, z3, z4⟩
  · rintro ⟨e, z1, z2, z3, z4⟩; exact ⟨e, z1, (hc e z1 z3).mp z2, z3, z4⟩
  · rintro ⟨e, z1, z2, z3, z4⟩; exact ⟨e, z1, (hc e z1 z3).mpr z2, z3, z4⟩
theorem NX_no {cur : Nat} {sm : Int} (hX : NX f0 g0 D D0 s h t cur G sm) (hm : ¬ mtE f0 g0 D D0 s h t cur) : NX f0 g0 D D0 s h t (cur + 1) G sm := by
  refine ⟨fun v hv => ⟨(hX.1 v hv).1, (hX.1 v hv).2.trans ⟨?_, ?_⟩⟩, hX.2.1, hX.2.2.trans ⟨?_, ?_⟩⟩
  · rintro ⟨e, z1, z2, z3, z4⟩; exact ⟨e, z1, by omega, z3, z4⟩
  · rintro ⟨e, z1, z2, z3, z4, z5⟩
    by_cases q : e = cur
    · subst q; exact absurd z5 hm
    · exact ⟨e, z1, by omega, z3, z4, z5⟩
  · rintro ⟨e, z1, z2, z3, z4⟩; exact ⟨e, z1, by omega, z3, z4⟩
  · rintro ⟨e, z1, z2, z3, z5⟩
    by_cases q : e = cur
    · subst q; exact absurd z5 hm
    · exact ⟨e, z1, by omega, z3, z5⟩
theorem NX_yes {cur : Nat} {sm : Int} (hX : NX f0 g0 D D0 s h t cur G sm) (hm : mtE f0 g0 D D0 s h t cur) (h1 : neZ f0 t ≤ cur) (h2 : (cur : Int) ≤ toZ f0) : NX f0 g0 D D0 s h t (cur + 1) (fun x => if x = (21 * (t : Int) + cur - neZ f0 t).toNat then 1 else G x) 1 := by
  refine ⟨fun v hv => ?_, Or.inr rfl, fun _ => ⟨cur, h1, by omega, h2, hm⟩, fun _ => rfl⟩
  by_cases q : v = (21 * (t : Int) + cur - neZ f0 t).toNat
  · simp only [if_pos q]
    exact ⟨Or.inr trivial, fun _ => ⟨cur, h1, by omega, h2, by omega, hm⟩, fun _ => trivial⟩
  · simp only [if_neg q]
    refine ⟨(hX.1 v hv).1, (hX.1 v hv).2.trans ⟨?_, ?_⟩⟩
    · rintro ⟨e, z1, z2, z3, z4⟩; exact ⟨e, z1, by omega, z3, z4⟩
    · rintro ⟨e, z1, z2, z3, z4, z5⟩
      exact ⟨e, z1, by omega, z3, z4, z5⟩
theorem NX_end {sm : Int} (hM : MOk f0 g0) (h0 : D0 ≤ 1100000000000000) (hB : ∀ e, 0 ≤ h e) (ht : t ≤ 120) (hX : NX f0 g0 D D0 s h t 21 G sm) : (sm = 1 → mtZ f0 g0 D D0 s h t ∧ NW f0 D D0 t (drZ (neZ f0 t).toNat (wZ f0 g0 t) h) G) ∧ (sm = 0 → ¬ mtZ f0 g0 D D0 s h t ∧ ∀ v, v < 2541 → G v = 0) := by
  have h20 := toZ_in f0
  have hne := neZ_in hM t
  have hms : sm = 1 ↔ mtZ f0 g0 D D0 s h t := hX.2.2.trans ⟨fun ⟨e, z1, z2, z3, z4⟩ => mtE_mt.mpr ⟨e, z1, z3, z4⟩, fun z => by
    obtain ⟨e, z1, z3, z4⟩ := mtE_mt.mp z
    exact ⟨e, z1, by omega, z3, z4⟩⟩
  refine ⟨fun h1 => ⟨hms.mp h1, fun v hv => ⟨(hX.1 v hv).1, (hX.1 v hv).2.trans ⟨?_, ?_⟩⟩⟩, fun h1 => ⟨fun z => ?_, fun v hv => ?_⟩⟩
  · rintro ⟨e, z1, z2, z3, z4, z5, b, d, z6, z7, z8⟩
    have hp := z5.2.1
    have hwZ : wZ f0 g0 t = 4096 * prZ f0 g0 t + 1 := rfl
    have eb : b = v := by omega
    subst eb
    have e1 : b % 21 + (neZ f0 t).toNat = e := by omega
    refine ⟨by omega, by omega, d, z7, ?_⟩
    unfold drZ
    rw [e1, if_pos (by omega)]
    exact z8
  · rintro ⟨z1, z2, d, z3, z4⟩
    unfold drZ at z4
    split at z4
    · rename_i z5
      have hm := (hms.mp h1).1
      refine ⟨v % 21 + (neZ f0 t).toNat, by omega, by omega, ?_, by omega, hm, v, d, by omega, z3, z4⟩
      unfold neZ toZ at *
      by_cases hk : f0 31 17 = 2
      · rw [if_pos hk] at *; omega
      · rw [if_neg hk] at *; omega
    · omega
  · have := hms.mpr z
    omega
  · rcases (hX.1 v hv).1 with z | z
    · exact z
    · obtain ⟨e, z1, z2, z3, z4, z5⟩ := (hX.1 v hv).2.mp z
      have := hms.mpr (mtE_mt.mpr ⟨e, z1, z3, z5⟩)
      omega
end BB


theorem lp_42n {d L : Nat} {sw : Bool} {Q : Option Value → am_H → Prop} {f0 g0 g : Nat → Nat → Int} {D0 i s t : Nat} {h n F : Nat → Int} (hM : MOk f0 g0) (hD : mg_D (mE f0 g0) (mT f0) (labZ (g 43) n)) (hL : LI f0 g0 (g 43) n) (hT : TC f0 g0 (labZ (g 43) n) D0 i s h) (hN : NW f0 (labZ (g 43) n) D0 s h F) (ht : 1 ≤ t ∧ (t : Int) ≤ f0 31 5) {fb : Nat → Nat → Int} (hn : fb 44 = n) (hF : fb 45 = F) (hG0 : Gm f0 g0 fb g) {s' : Nat} (hs' : (s' : Int) ≤ f0 31 5) (hne' : s' ≠ s) {f : Nat → Nat → Int} {sm : Int} (hf : ∀ a, a ≠ 46 → f a = fb a) (hsm : sm = 0 ∨ sm = 1) (K : am_Wp (am_call (d + 2)) 42 Q 144 [some (.ref 31), some (.int (iZ (t : Int))), some (.int (iZ sm)), some (.int (iZ (s' : Int))), none, none, none] [] (53, sh_lt L, iH f, jH g, sh_rt sw) (0, 0)) : ∀ (k e : Nat) (i : Int), i = e → toZ f0 < e + k ∧ e + k ≤ 42 → am_Wp (am_call (d + 2)) 42 Q 19 [some (.ref 31), some (.int (iZ (t : Int))), some (.int (iZ sm)), some (.int (iZ (s' : Int))), some (.int (iZ i)), none, none] [] (53, sh_lt L, iH f, jH g, sh_rt sw) (0, 0) := by
  intro k
  have m5 := hM.1.2.1
  have hs := hT.2.2.2.2.2
  have h20 := toZ_in f0
  have hne := neZ_in hM t
  have hpr := prZ_in hM t
  have hG := Gm_f (c := 46) (by decide) hG0 hf
  have hM' := Gm_MOk hG hM
  have e6 := Gm_to hG
  have e7 := Gm_ne hG t
  have e5 := hG.1.2.1
  induction k with
  | zero =>
    intro e i hi hk
    subst hi
    refine ap_go kc_42_19 ?_
    refine ap_iload rfl ?_; refine ap_aload_n rfl ?_; refine ap_callv0 ow_42 rm_8_127 na_35 mc_35 ms_35 rfl rfl (Nat.le_of_ble_eq_true rfl) (Nat.le_of_ble_eq_true rfl) (Or.inr rfl) (Nat.zero_le _) (Nat.zero_le _) ?_; refine sp_35 ?_ hM'; dsimp only [Option.toList_some, Option.toList_none, List.cons_append, List.nil_append]
    refine ai_icgt rfl rfl (fun hb0 => ?_) (fun hb0 => ?_) ?_
    · exact am_weak (by first | exact am_le_0 | (repeat (first | exact am_le_0 | refine am_le_n ?_ | refine am_le_s ?_))) K
    · exfalso; omega
    all_goals (omega)
  | succ k ih =>
    intro e i hi hk
    subst hi
    have h0 : (e : Int) ≤ toZ f0 → f 45 (21 * (s' : Int) + e).toNat = 0 := by
      intro z
      rw [hf 45 (by decide), hF, show (21 * (s' : Int) + e).toNat = 21 * s' + e by omega]
      exact NW_off hN hne' (by omega) (by omega)
    refine ap_go kc_42_19 ?_
    refine ap_iload rfl ?_; refine ap_aload_n rfl ?_; refine ap_callv0 ow_42 rm_8_127 na_35 mc_35 ms_35 rfl rfl (Nat.le_of_ble_eq_true rfl) (Nat.le_of_ble_eq_true rfl) (Or.inr rfl) (Nat.zero_le _) (Nat.zero_le _) ?_; refine sp_35 ?_ hM'; dsimp only [Option.toList_some, Option.toList_none, List.cons_append, List.nil_append]
    refine ai_icgt rfl rfl (fun hb0 => ?_) (fun hb0 => ?_) ?_
    · exact am_weak (by first | exact am_le_0 | (repeat (first | exact am_le_0 | refine am_le_n ?_ | refine am_le_s ?_))) K
    · refine ap_go kc_42_28 ?_
      refine ai_bipush (by decide) ?_; refine ap_iload_n rfl ?_; refine ai_imul ?_; refine ap_iload rfl ?_; refine ai_iadd ?_; refine ap_istore rfl ?_; refine ai_bipush (by decide) ?_; refine ap_iload_n rfl ?_; refine ai_imul ?_; refine ap_iload rfl ?_; refine ai_iadd ?_; refine ap_aload_n rfl ?_; refine ap_iload_n rfl ?_; refine ap_callv0 ow_42 rm_8_124 na_36 mc_36 ms_36 rfl rfl (Nat.le_of_ble_eq_true rfl) (Nat.le_of_ble_eq_true rfl) (Or.inr rfl) (Nat.zero_le _) (Nat.zero_le _) ?_; refine sp_36 ?_ hM' ?_; try dsimp only [Int.toNat_natCast]; dsimp only [Option.toList_some, Option.toList_none, List.cons_append, List.nil_append]; refine ai_isub ?_; refine ap_istore rfl ?_; refine ap_aload_n rfl ?_; refine ap_getR ow_42 rf_8_55 rfl rfl rfl ?_; refine ap_iload rfl ?_; refine ai_baload (n := 2541) rfl rfl (by decide) ?_ ?_
      refine ai_ifeq rfl rfl (fun hb1 => ?_) (fun hb1 => ?_) ?_
      · refine ap_go kc_42_138 ?_
        refine ai_iinc rfl rfl ?_; refine ap_goto rfl ?_
        exact am_weak (by first | exact am_le_0 | (repeat (first | exact am_le_0 | refine am_le_n ?_ | refine am_le_s ?_))) (ih (e + 1) (e + 1) rfl (by omega))
      · exfalso; omega
      all_goals (omega)
    all_goals (omega)
theorem lp_42c {d L : Nat} {sw : Bool} {Q : Option Value → am_H → Prop} {f0 g0 g : Nat → Nat → Int} {D0 i s t : Nat} {h n F : Nat → Int} (hM : MOk f0 g0) (hD : mg_D (mE f0 g0) (mT f0) (labZ (g 43) n)) (hL : LI f0 g0 (g 43) n) (hT : TC f0 g0 (labZ (g 43) n) D0 i s h) (hN : NW f0 (labZ (g 43) n) D0 s h F) (ht : 1 ≤ t ∧ (t : Int) ≤ f0 31 5) {fb : Nat → Nat → Int} (hn : fb 44 = n) (hF : fb 45 = F) (hG0 : Gm f0 g0 fb g) (K : ∀ f sm, (∀ a, a ≠ 46 → f a = fb a) → NX f0 g0 (labZ (g 43) n) D0 s h t 21 (f 46) sm → am_Wp (am_call (d + 2)) 42 Q 144 [some (.ref 31), some (.int (iZ (t : Int))), some (.int (iZ sm)), some (.int (iZ (s : Int))), none, none, none] [] (53, sh_lt L, iH f, jH g, sh_rt sw) (0, 0)) : ∀ (k e : Nat) (i : Int) (f : Nat → Nat → Int) (sm : Int), i = e → toZ f0 < e + k ∧ e + k ≤ 42 → neZ f0 t ≤ e → (∀ a, a ≠ 46 → f a = fb a) → NX f0 g0 (labZ (g 43) n) D0 s h t e (f 46) sm → am_Wp (am_call (d + 2)) 42 Q 19 [some (.ref 31), some (.int (iZ (t : Int))), some (.int (iZ sm)), some (.int (iZ (s : Int))), some (.int (iZ i)), none, none] [] (53, sh_lt L, iH f, jH g, sh_rt sw) (0, 0) := by
  intro k
  have m5 := hM.1.2.1
  have hs := hT.2.2.2.2.2
  have h20 := toZ_in f0
  have hne := neZ_in hM t
  have hpr := prZ_in hM t
  induction k with
  | zero =>
    intro e i f sm hi hk hen hf hX
    subst hi
    have hG := Gm_f (c := 46) (by decide) hG0 hf
    have hM' := Gm_MOk hG hM
    have e6 := Gm_to hG
    have e7 := Gm_ne hG t
    have e8 := Gm_pr hG t
    have e5 := hG.1.2.1
    have hsm := hX.2.1
    refine ap_go kc_42_19 ?_
    refine ap_iload rfl ?_; refine ap_aload_n rfl ?_; refine ap_callv0 ow_42 rm_8_127 na_35 mc_35 ms_35 rfl rfl (Nat.le_of_ble_eq_true rfl) (Nat.le_of_ble_eq_true rfl) (Or.inr rfl) (Nat.zero_le _) (Nat.zero_le _) ?_; refine sp_35 ?_ hM'; dsimp only [Option.toList_some, Option.toList_none, List.cons_append, List.nil_append]
    refine ai_icgt rfl rfl (fun hb0 => ?_) (fun hb0 => ?_) ?_
    · exact am_weak (by first | exact am_le_0 | (repeat (first | exact am_le_0 | refine am_le_n ?_ | refine am_le_s ?_))) (K f sm hf (NX_cg hX (fun j _ _ => by omega)))
    · exfalso; omega
    all_goals (omega)
  | succ k ih =>
    intro e i f sm hi hk hen hf hX
    subst hi
    have hG := Gm_f (c := 46) (by decide) hG0 hf
    have hM' := Gm_MOk hG hM
    have e6 := Gm_to hG
    have e7 := Gm_ne hG t
    have e8 := Gm_pr hG t
    have e5 := hG.1.2.1
    have hsm := hX.2.1
    have eA : (21 * (s : Int) + e).toNat = 21 * s + e := by omega
    have hn' : f 44 = n := (hf 44 (by decide)).trans hn
    have hF' : f 45 = F := (hf 45 (by decide)).trans hF
    have p1 : (e : Int) ≤ toZ f0 → _ := fun z => (hN (21 * s + e) (by omega)).1
    have w1 : (e : Int) ≤ toZ f0 → _ := fun z => hL.1 (21 * s + e) (by omega)
    have b1 : (e : Int) ≤ toZ f0 → _ := fun z => LI_bd hM hL (v := 21 * s + e) (by omega)
    have w2 : (e : Int) ≤ toZ f0 → _ := fun z => hL.1 (21 * (t : Int) + e - neZ f0 t).toNat (by omega)
    have b2 : (e : Int) ≤ toZ f0 → _ := fun z => LI_bd hM hL (v := (21 * (t : Int) + e - neZ f0 t).toNat) (by omega)
    have hb := bb_iff hM hD hL hT hN ht (e := e) hen
    rw [← hn', ← eA] at w1 b1
    rw [← eA, ← hF'] at p1
    rw [← hn'] at w2 b2
    rw [← eA, ← hF', ← Gm_go hG] at hb
    have hgo : (if goZ f g s e t = true then (1 : Int) else 0) = 0 ∨ (if goZ f g s e t = true then (1 : Int) else 0) = 1 := by split; exact Or.inr rfl; exact Or.inl rfl
    have hg1 : goZ f g s e t = true ↔ (if goZ f g s e t = true then (1 : Int) else 0) = 1 := by split <;> simp_all
    have hn2 : ∀ v, n v = f 44 v := fun v => by rw [hn']
    have i19 : ∀ sm2 f2, (∀ a, a ≠ 46 → f2 a = fb a) → NX f0 g0 (labZ (g 43) n) D0 s h t (e + 1) (f2 46) sm2 → am_Wp (am_call (d + 2)) 42 Q 19 [some (.ref 31), some (.int (iZ (t : Int))), some (.int (iZ sm2)), some (.int (iZ (s : Int))), some (.int (iZ ((e : Int) + 1))), none, none] [] (53, sh_lt L, iH f2, jH g, sh_rt sw) (0, 0) := fun sm2 f2 q1 q2 => ih (e + 1) (e + 1) f2 sm2 rfl (by omega) (by omega) q1 q2
    refine ap_go kc_42_19 ?_
    refine ap_iload rfl ?_; refine ap_aload_n rfl ?_; refine ap_callv0 ow_42 rm_8_127 na_35 mc_35 ms_35 rfl rfl (Nat.le_of_ble_eq_true rfl) (Nat.le_of_ble_eq_true rfl) (Or.inr rfl) (Nat.zero_le _) (Nat.zero_le _) ?_; refine sp_35 ?_ hM'; dsimp only [Option.toList_some, Option.toList_none, List.cons_append, List.nil_append]
    refine ai_icgt rfl rfl (fun hq0 => ?_) (fun hq0 => ?_) ?_
    · exact am_weak (by first | exact am_le_0 | (repeat (first | exact am_le_0 | refine am_le_n ?_ | refine am_le_s ?_))) (K f sm hf (NX_cg hX (fun j _ _ => by omega)))
    · refine ap_go kc_42_28 ?_
      refine ai_bipush (by decide) ?_; refine ap_iload_n rfl ?_; refine ai_imul ?_; refine ap_iload rfl ?_; refine ai_iadd ?_; refine ap_istore rfl ?_; refine ai_bipush (by decide) ?_; refine ap_iload_n rfl ?_; refine ai_imul ?_; refine ap_iload rfl ?_; refine ai_iadd ?_; refine ap_aload_n rfl ?_; refine ap_iload_n rfl ?_; refine ap_callv0 ow_42 rm_8_124 na_36 mc_36 ms_36 rfl rfl (Nat.le_of_ble_eq_true rfl) (Nat.le_of_ble_eq_true rfl) (Or.inr rfl) (Nat.zero_le _) (Nat.zero_le _) ?_; refine sp_36 ?_ hM' ?_; dsimp only [Int.toNat_natCast]; rw [e7]; dsimp only [Option.toList_some, Option.toList_none, List.cons_append, List.nil_append]; refine ai_isub ?_; refine ap_istore rfl ?_; refine ap_aload_n rfl ?_; refine ap_getR ow_42 rf_8_55 rfl rfl rfl ?_; refine ap_iload rfl ?_; refine ai_baload (n := 2541) rfl rfl (by decide) ?_ ?_
      refine ai_ifeq rfl rfl (fun hq1 => ?_) (fun hq1 => ?_) ?_
      · refine ap_go kc_42_138 ?_
        refine ai_iinc rfl rfl ?_; refine ap_goto rfl ?_
        first | exact am_weak (by first | exact am_le_0 | (repeat (first | exact am_le_0 | refine am_le_n ?_ | refine am_le_s ?_))) (i19 sm f hf (NX_no hX (fun z => by have q := (hb (by omega)).mpr z; rw [hg1, hn2, hn2] at q; omega))) | exact am_weak (by first | exact am_le_0 | (repeat (first | exact am_le_0 | refine am_le_n ?_ | refine am_le_s ?_))) (i19 1 (am_up f 46 _ 1) (fun a ha => (am_up_ne ha).trans (hf a ha)) (by rw [am_up_eq]; exact NX_yes hX ((hb (by omega)).mp (by rw [hg1, hn2, hn2]; omega)) hen (by omega)))
      · refine ap_go kc_42_62 ?_
        refine ap_aload_n rfl ?_; refine ap_iload_n rfl ?_; refine ap_iload rfl ?_; refine ap_iload_n rfl ?_; refine ap_callv0 ow_42 rm_8_141 na_38 mc_38 ms_38 rfl rfl (Nat.le_of_ble_eq_true rfl) (Nat.le_of_ble_eq_true rfl) (Or.inr rfl) (Nat.zero_le _) (Nat.zero_le _) ?_; refine sp_38 ?_ hM' ?_ ?_ ?_; try dsimp only [Int.toNat_natCast]; dsimp only [Option.toList_some, Option.toList_none, List.cons_append, List.nil_append]
        refine ai_ifeq rfl rfl (fun hq2 => ?_) (fun hq2 => ?_) ?_
        · refine ap_go kc_42_138 ?_
          refine ai_iinc rfl rfl ?_; refine ap_goto rfl ?_
          first | exact am_weak (by first | exact am_le_0 | (repeat (first | exact am_le_0 | refine am_le_n ?_ | refine am_le_s ?_))) (i19 sm f hf (NX_no hX (fun z => by have q := (hb (by omega)).mpr z; rw [hg1, hn2, hn2] at q; omega))) | exact am_weak (by first | exact am_le_0 | (repeat (first | exact am_le_0 | refine am_le_n ?_ | refine am_le_s ?_))) (i19 1 (am_up f 46 _ 1) (fun a ha => (am_up_ne ha).trans (hf a ha)) (by rw [am_up_eq]; exact NX_yes hX ((hb (by omega)).mp (by rw [hg1, hn2, hn2]; omega)) hen (by omega)))
        · refine ap_go kc_42_73 ?_
          refine ap_aload_n rfl ?_; refine ap_getR ow_42 rf_8_49 rfl rfl rfl ?_; refine ap_iload rfl ?_; refine ai_laload (n := 2541) rfl rfl (by decide) ?_ ?_; refine ai_lconst 0 rfl ?_
          refine ai_lclt rfl rfl (fun hq3 => ?_) (fun hq3 => ?_) ?_
          · refine ap_go kc_42_138 ?_
            refine ai_iinc rfl rfl ?_; refine ap_goto rfl ?_
            first | exact am_weak (by first | exact am_le_0 | (repeat (first | exact am_le_0 | refine am_le_n ?_ | refine am_le_s ?_))) (i19 sm f hf (NX_no hX (fun z => by have q := (hb (by omega)).mpr z; rw [hg1, hn2, hn2] at q; omega))) | exact am_weak (by first | exact am_le_0 | (repeat (first | exact am_le_0 | refine am_le_n ?_ | refine am_le_s ?_))) (i19 1 (am_up f 46 _ 1) (fun a ha => (am_up_ne ha).trans (hf a ha)) (by rw [am_up_eq]; exact NX_yes hX ((hb (by omega)).mp (by rw [hg1, hn2, hn2]; omega)) hen (by omega)))
          · refine ap_go kc_42_85 ?_
            refine ap_aload_n rfl ?_; refine ap_getR ow_42 rf_8_49 rfl rfl rfl ?_; refine ap_iload rfl ?_; refine ai_laload (n := 2541) rfl rfl (by decide) ?_ ?_; refine ap_aload_n rfl ?_; refine ap_iload_n rfl ?_; refine ap_callv0 ow_42 rm_8_120 na_33 mc_33 ms_33 rfl rfl (Nat.le_of_ble_eq_true rfl) (Nat.le_of_ble_eq_true rfl) (Or.inr rfl) (Nat.zero_le _) (Nat.zero_le _) ?_; refine sp_33 ?_ hM' ?_; dsimp only [Int.toNat_natCast]; rw [e8]; dsimp only [Option.toList_some, Option.toList_none, List.cons_append, List.nil_append]; refine ai_ladd ?_; refine ap_aload_n rfl ?_; refine ap_getR ow_42 rf_8_49 rfl rfl rfl ?_; refine ap_iload rfl ?_; refine ai_laload (n := 2541) rfl rfl (by decide) ?_ ?_
            refine ai_lcne rfl rfl (fun hq4 => ?_) (fun hq4 => ?_) ?_
            · refine ap_go kc_42_138 ?_
              refine ai_iinc rfl rfl ?_; refine ap_goto rfl ?_
              first | exact am_weak (by first | exact am_le_0 | (repeat (first | exact am_le_0 | refine am_le_n ?_ | refine am_le_s ?_))) (i19 sm f hf (NX_no hX (fun z => by have q := (hb (by omega)).mpr z; rw [hg1, hn2, hn2] at q; omega))) | exact am_weak (by first | exact am_le_0 | (repeat (first | exact am_le_0 | refine am_le_n ?_ | refine am_le_s ?_))) (i19 1 (am_up f 46 _ 1) (fun a ha => (am_up_ne ha).trans (hf a ha)) (by rw [am_up_eq]; exact NX_yes hX ((hb (by omega)).mp (by rw [hg1, hn2, hn2]; omega)) hen (by omega)))
            · refine ap_go kc_42_109 ?_
              refine ap_aload_n rfl ?_; refine ap_getR ow_42 rf_8_52 rfl rfl rfl ?_; refine ap_iload rfl ?_; refine ai_iaload (n := 2541) rfl rfl (by decide) ?_ ?_; refine ai_iconst ?_; refine ai_iadd ?_; refine ap_aload_n rfl ?_; refine ap_getR ow_42 rf_8_52 rfl rfl rfl ?_; refine ap_iload rfl ?_; refine ai_iaload (n := 2541) rfl rfl (by decide) ?_ ?_
              refine ai_icne rfl rfl (fun hq5 => ?_) (fun hq5 => ?_) ?_
              · refine ap_go kc_42_138 ?_
                refine ai_iinc rfl rfl ?_; refine ap_goto rfl ?_
                first | exact am_weak (by first | exact am_le_0 | (repeat (first | exact am_le_0 | refine am_le_n ?_ | refine am_le_s ?_))) (i19 sm f hf (NX_no hX (fun z => by have q := (hb (by omega)).mpr z; rw [hg1, hn2, hn2] at q; omega))) | exact am_weak (by first | exact am_le_0 | (repeat (first | exact am_le_0 | refine am_le_n ?_ | refine am_le_s ?_))) (i19 1 (am_up f 46 _ 1) (fun a ha => (am_up_ne ha).trans (hf a ha)) (by rw [am_up_eq]; exact NX_yes hX ((hb (by omega)).mp (by rw [hg1, hn2, hn2]; omega)) hen (by omega)))
              · refine ap_go kc_42_128 ?_
                refine ap_aload_n rfl ?_; refine ap_getR ow_42 rf_8_58 rfl rfl rfl ?_; refine ap_iload rfl ?_; refine ai_iconst ?_; refine ai_bastore (n := 2541) rfl rfl (by decide) ?_ ?_ ?_; refine ai_iconst ?_; refine ap_istore_n rfl ?_; refine ap_nil ?_
                · refine ap_go kc_42_138 ?_
                  refine ai_iinc rfl rfl ?_; refine ap_goto rfl ?_
                  first | exact am_weak (by first | exact am_le_0 | (repeat (first | exact am_le_0 | refine am_le_n ?_ | refine am_le_s ?_))) (i19 sm f hf (NX_no hX (fun z => by have q := (hb (by omega)).mpr z; rw [hg1, hn2, hn2] at q; omega))) | exact am_weak (by first | exact am_le_0 | (repeat (first | exact am_le_0 | refine am_le_n ?_ | refine am_le_s ?_))) (i19 1 (am_up f 46 _ 1) (fun a ha => (am_up_ne ha).trans (hf a ha)) (by rw [am_up_eq]; exact NX_yes hX ((hb (by omega)).mp (by rw [hg1, hn2, hn2]; omega)) hen (by omega)))
                all_goals (omega)
              all_goals (omega)
            all_goals (omega)
          all_goals (omega)
        all_goals (omega)
      all_goals (omega)
    all_goals (omega)
theorem lp_42 {d L : Nat} {sw : Bool} {Q : Option Value → am_H → Prop} {f0 g0 g : Nat → Nat → Int} {D0 i s t : Nat} {h n F : Nat → Int} (hM : MOk f0 g0) (hD : mg_D (mE f0 g0) (mT f0) (labZ (g 43) n)) (hL : LI f0 g0 (g 43) n) (hT : TC f0 g0 (labZ (g 43) n) D0 i s h) (hN : NW f0 (labZ (g 43) n) D0 s h F) (ht : 1 ≤ t ∧ (t : Int) ≤ f0 31 5) {fb : Nat → Nat → Int} (hn : fb 44 = n) (hF : fb 45 = F) (hG0 : Gm f0 g0 fb g) (K : ∀ f sm, (∀ a, a ≠ 46 → f a = fb a) → NX f0 g0 (labZ (g 43) n) D0 s h t 21 (f 46) sm → Q (some (.int (iZ sm))) (53, sh_lt L, iH f, jH g, sh_rt sw)) : ∀ (k s' : Nat) (i : Int) (f : Nat → Nat → Int) (sm : Int), i = s' → f0 31 5 + 1 = s' + k → (∀ a, a ≠ 46 → f a = fb a) → (s' ≤ s → NX f0 g0 (labZ (g 43) n) D0 s h t 0 (f 46) sm) → (s < s' → NX f0 g0 (labZ (g 43) n) D0 s h t 21 (f 46) sm) → am_Wp (am_call (d + 2)) 42 Q 4 [some (.ref 31), some (.int (iZ (t : Int))), some (.int (iZ sm)), some (.int (iZ i)), none, none, none] [] (53, sh_lt L, iH f, jH g, sh_rt sw) (0, 0) := by
  intro k
  have m5 := hM.1.2.1
  have hs := hT.2.2.2.2.2
  have h20 := toZ_in f0
  have hne := neZ_in hM t
  have hpr := prZ_in hM t
  induction k with
  | zero =>
    intro s' i f sm hi hk hf h1 h2
    subst hi
    have hX := h2 (by omega)
    have hG := Gm_f (c := 46) (by decide) hG0 hf
    have hM' := Gm_MOk hG hM
    have e6 := Gm_to hG
    have e7 := Gm_ne hG t
    have e8 := Gm_pr hG t
    have e5 := hG.1.2.1
    have hsm := hX.2.1
    refine ap_go kc_42_4 ?_
    refine ap_iload_n rfl ?_; refine ap_aload_n rfl ?_; refine ai_getI ow_42 rf_8_88 rfl rfl ?_
    refine ai_icgt rfl rfl (fun hb0 => ?_) (fun hb0 => ?_) ?_
    · refine ap_go kc_42_150 ?_
      refine ap_iload_n rfl ?_; refine ai_zret rfl ?_ ?_
      · exact K f sm hf hX
      all_goals (omega)
    · exfalso; omega
    all_goals (omega)
  | succ k ih =>
    intro s' i f sm hi hk hf h1 h2
    subst hi
    have hsm : sm = 0 ∨ sm = 1 := by
      rcases Nat.lt_or_ge s s' with z | z
      · exact (h2 z).2.1
      · exact (h1 z).2.1
    have hG := Gm_f (c := 46) (by decide) hG0 hf
    have hM' := Gm_MOk hG hM
    have e7 := Gm_ne hG t
    have e5 := hG.1.2.1
    have J : ∀ f sm, (∀ a, a ≠ 46 → f a = fb a) → (s' + 1 ≤ s → NX f0 g0 (labZ (g 43) n) D0 s h t 0 (f 46) sm) → (s < s' + 1 → NX f0 g0 (labZ (g 43) n) D0 s h t 21 (f 46) sm) → am_Wp (am_call (d + 2)) 42 Q 144 [some (.ref 31), some (.int (iZ (t : Int))), some (.int (iZ sm)), some (.int (iZ (s' : Int))), none, none, none] [] (53, sh_lt L, iH f, jH g, sh_rt sw) (0, 0) := by
      intro f sm hf h1 h2
      refine ap_go kc_42_144 ?_
      refine ai_iinc rfl rfl ?_; refine ap_goto rfl ?_
      exact am_weak (by first | exact am_le_0 | (repeat (first | exact am_le_0 | refine am_le_n ?_ | refine am_le_s ?_))) (ih (s' + 1) (s' + 1) f sm rfl (by omega) hf h1 h2)
    have J2 : am_Wp (am_call (d + 2)) 42 Q 19 [some (.ref 31), some (.int (iZ (t : Int))), some (.int (iZ sm)), some (.int (iZ (s' : Int))), some (.int (iZ (neZ f0 t))), none, none] [] (53, sh_lt L, iH f, jH g, sh_rt sw) (0, 0) := by
      by_cases hss : s' = s
      · subst hss
        refine lp_42c hM hD hL hT hN ht hn hF hG0 ?_ 21 (neZ f0 t).toNat (neZ f0 t) f sm (by omega) (by omega) (by omega) hf (NX_cg (h1 (Nat.le_refl _)) (fun j _ _ => by omega))
        intro f sm hf hX
        exact J f sm hf (fun z => by omega) (fun _ => hX)
      · rcases Nat.lt_or_gt_of_ne hss with hlt | hgt
        · exact lp_42n hM hD hL hT hN ht hn hF hG0 (by omega) hss hf hsm (J f sm hf (fun z => h1 (by omega)) (fun z => by omega)) 21 (neZ f0 t).toNat (neZ f0 t) (by omega) (by omega)
        · exact lp_42n hM hD hL hT hN ht hn hF hG0 (by omega) hss hf hsm (J f sm hf (fun z => by omega) (fun z => h2 (by omega))) 21 (neZ f0 t).toNat (neZ f0 t) (by omega) (by omega)
    refine ap_go kc_42_4 ?_
    refine ap_iload_n rfl ?_; refine ap_aload_n rfl ?_; refine ai_getI ow_42 rf_8_88 rfl rfl ?_
    refine ai_icgt rfl rfl (fun hb0 => ?_) (fun hb0 => ?_) ?_
    · exfalso; omega
    · refine ap_go kc_42_12 ?_
      refine ap_aload_n rfl ?_; refine ap_iload_n rfl ?_; refine ap_callv0 ow_42 rm_8_124 na_36 mc_36 ms_36 rfl rfl (Nat.le_of_ble_eq_true rfl) (Nat.le_of_ble_eq_true rfl) (Or.inr rfl) (Nat.zero_le _) (Nat.zero_le _) ?_; refine sp_36 ?_ hM' ?_; dsimp only [Int.toNat_natCast]; rw [e7]; dsimp only [Option.toList_some, Option.toList_none, List.cons_append, List.nil_append]; refine ap_istore rfl ?_; refine ap_nil ?_
      · exact am_weak (by first | exact am_le_0 | (repeat (first | exact am_le_0 | refine am_le_n ?_ | refine am_le_s ?_))) J2
      all_goals (omega)
    all_goals (omega)
theorem sp_42 {d L : Nat} {sw : Bool} {f g : Nat → Nat → Int} {Q : Option Value → am_H → Prop} {f0 g0 : Nat → Nat → Int} {D0 i s t : Nat} {h : Nat → Int} (K : ∀ x f2, (∀ a, a ≠ 46 → f2 a = f a) → (x = 0 ∨ x = 1) → (x = 1 → mtZ f0 g0 (labZ (g 43) (f 44)) D0 s h t ∧ NW f0 (labZ (g 43) (f 44)) D0 t (drZ (neZ f0 t).toNat (wZ f0 g0 t) h) (f2 46)) → (x = 0 → ¬ mtZ f0 g0 (labZ (g 43) (f 44)) D0 s h t ∧ ∀ v, v < 2541 → f2 46 v = 0) → Q (some (.int (iZ x))) (53, sh_lt L, iH f2, jH g, sh_rt sw)) (hM : MOk f0 g0) (hD : mg_D (mE f0 g0) (mT f0) (labZ (g 43) (f 44))) (hL : LI f0 g0 (g 43) (f 44)) (h0 : D0 ≤ 1100000000000000) (hT : TC f0 g0 (labZ (g 43) (f 44)) D0 i s h) (hG : Gm f0 g0 f g) (hN : NW f0 (labZ (g 43) (f 44)) D0 s h (f 45)) (ht : 1 ≤ t ∧ (t : Int) ≤ f0 31 5) (hX : ∀ v, v < 2541 → f 46 v = 0) : am_call (d + 3) 42 [.ref 31, .int (iZ (t : Int))] (53, sh_lt L, iH f, jH g, sh_rt sw) Q := by
  have m5 := hM.1.2.1
  refine ap_call (by decide) (Nat.le_of_ble_eq_true rfl) rfl ?_
  refine ap_go kc_42_0 ?_
  refine ai_iconst ?_; refine ap_istore_n rfl ?_; refine ai_iconst ?_; refine ap_istore_n rfl ?_; refine ap_nil ?_
  exact am_weak (by first | exact am_le_0 | (repeat (first | exact am_le_0 | refine am_le_n ?_ | refine am_le_s ?_))) (lp_42 hM hD hL hT hN ht rfl rfl hG (fun f2 sm q1 q2 => by obtain ⟨z1, z2⟩ := NX_end hM h0 (fun e => (hT.1 e).1) (by omega) q2; exact K sm f2 q1 q2.2.1 z1 z2) (f0 31 5 + 1).toNat 0 0 f 0 rfl (by omega) (fun _ _ => rfl) (fun _ => NX_0 hX) (fun z => by omega))
