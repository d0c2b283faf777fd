/-! THE REFERENCE: findWay(), whole -/
/-- what findWay() may change -/
def FW (f g F G : Nat → Nat → Int) : Prop := (∀ a, a ≠ 31 → a ≠ 44 → a ≠ 45 → a ≠ 46 → a ≠ 49 → F a = f a) ∧ (∀ j, j ≠ 27 → j ≠ 30 → F 31 j = f 31 j) ∧ (∀ a, a ≠ 31 → a ≠ 43 → G a = g a) ∧ (∀ j, j ≠ 14 → j ≠ 29 → G 31 j = g 31 j) ∧ G 31 14 = g 31 14 + 1
theorem NW_st {f : Nat → Nat → Int} {D : Nat → Option Nat} {a0 D0 : Nat} {F : Nat → Int} (ha : f 31 18 = (a0 : Int)) (h18 : f 31 18 ≤ toZ f) (hD : D a0 = some D0) (h0 : D0 ≤ 1100000000000000) (hF : ∀ v, v < 2541 → F v = if v = a0 then 1 else 0) : NW f D D0 0 (sZ f) F := by
  have h20 := toZ_in f
  intro v hv
  rw [hF v hv]
  by_cases z : v = a0
  · rw [if_pos z]
    subst z
    refine ⟨Or.inr rfl, fun _ => ⟨by omega, by omega, D0, hD, ?_⟩, fun _ => rfl⟩
    unfold sZ
    rw [if_pos (by omega)]
    omega
  · rw [if_neg z]
    refine ⟨Or.inl rfl, fun y => absurd y (by decide), fun ⟨y1, y2, d, y3, y4⟩ => ?_⟩
    unfold sZ at y4
    rw [if_neg (by omega)] at y4
    omega
theorem sp_43 {d L : Nat} {sw : Bool} {f g : Nat → Nat → Int} {Q : Option Value → am_H → Prop} {D : Nat → Option Nat} {a0 : Nat} (hD : mg_D (mE f (am_up g 31 14 (g 31 14 + 1))) (mT f) D)
    (K0 : ∀ F G, FW f g F G → D a0 = none → F 31 27 = 0 → (∃ l : Nat, F 31 30 = (l : Int) ∧ (f 31 17 = 2 → nsL (okZ f (am_up g 31 14 (g 31 14 + 1)) a0) (frZ f g) (f 31 1).toNat l) ∧ (f 31 17 ≠ 2 → l = 0)) → Q (some (.int (iZ 0))) (53, sh_lt L, iH F, jH G, sh_rt sw))
    (K1 : ∀ F G D0 s h, FW f g F G → D a0 = some D0 → F 31 27 = ((D0 % 4096 : Nat) : Int) → Rw f (am_up g 31 14 (g 31 14 + 1)) D D0 (F 49) (D0 % 4096) s h → plZ f s = f 31 16 → G 31 29 = ((D0 / 4096 : Nat) : Int) → F 31 30 = 0 → Q (some (.int (iZ 1))) (53, sh_lt L, iH F, jH G, sh_rt sw))
    (hM : MOk f (am_up g 31 14 (g 31 14 + 1))) (hX : XOk g) (ha : f 31 18 = (a0 : Int)) (h18 : f 31 18 ≤ toZ f) : am_call (d + 4) 43 [.ref 31] (53, sh_lt L, iH f, jH g, sh_rt sw) Q := by
  have m5 := hM.1
  have h20 := toZ_in f
  have hk2 : ¬ f 31 17 = 2 → a0 = 0 := fun z => by unfold toZ at h18; rw [if_neg z] at h18; omega
  have J26 : ∀ st : Int, st = (a0 : Int) → am_Wp (am_call (d + 3)) 43 Q 26 [some (.ref 31), none, none, none, none] [.int (iZ st)] (53, sh_lt L, iH f, jH (am_up g 31 14 (g 31 14 + 1)), sh_rt sw) (0, 0) := by
    intro st est
    subst est
    have hMg := hM
    generalize hg0 : (am_up g 31 14 (g 31 14 + 1)) = g0 at *
    have J2 : ∀ f2 g2 f3, Fr f g0 f2 g2 → LI f g0 (g2 43) (f2 44) → mg_D (mE f g0) (mT f) (labZ (g2 43) (f2 44)) → f3 = am_up (am_up f2 31 27 0) 31 30 0 → g2 43 a0 < 0 → am_Wp (am_call (d + 3)) 43 Q 52 [some (.ref 31), some (.int (iZ (a0 : Int))), none, none, none] [] (53, sh_lt L, iH f3, jH g2, sh_rt sw) (0, 0) := by
      intro f2 g2 f3 hF2 hL2 hD2 ef3 hc
      have eD : D a0 = none := by
        rw [mg_uniq hD hD2 a0]
        unfold labZ
        rw [if_pos (Or.inl hc)]
      have a1 : ∀ a, a ≠ 31 → f3 a = f2 a := fun a h => by rw [ef3, am_up_ne h, am_up_ne h]
      have a2 : ∀ j, j ≠ 27 → j ≠ 30 → f3 31 j = f 31 j := fun j h1 h2 => by
        rw [ef3, am_up_eq]; dsimp only; rw [if_neg h2, am_up_eq]; dsimp only; rw [if_neg h1, hF2.1 31 (by decide)]
      have a3 : f3 31 27 = 0 := by rw [ef3, am_up_eq]; dsimp only; rw [if_neg (by decide), am_up_eq]; rfl
      have a4 : f3 31 30 = 0 := by rw [ef3, am_up_eq]; rfl
      have hfw : ∀ F, (∀ a, a ≠ 31 → a ≠ 45 → F a = f3 a) → (∀ j, j ≠ 30 → F 31 j = f3 31 j) → FW f g F g2 := by
        intro F y1 y2
        refine ⟨fun a h31 h44 h45 h46 h49 => ?_, fun j h1 h2 => ?_, fun a h1 h2 => ?_, fun j h1 h2 => ?_, ?_⟩
        · rw [y1 a h31 h45, a1 a h31]; exact hF2.1 a h44
        · rw [y2 j h2]; exact a2 j h1 h2
        · rw [hF2.2 a h2, ← hg0, am_up_ne h1]
        · rw [hF2.2 31 (by decide), ← hg0, am_up_eq]; dsimp only; rw [if_neg h1]
        · rw [hF2.2 31 (by decide), ← hg0, am_up_eq]; rfl
      have hGm : Gm f g0 f3 g2 := by
        have q := Gm_Fr hF2
        unfold Gm at q ⊢
        rw [a1 35 (by decide), a1 36 (by decide), a1 39 (by decide), a1 42 (by decide), a2 1 (by decide) (by decide), a2 5 (by decide) (by decide), a2 15 (by decide) (by decide), a2 16 (by decide) (by decide), a2 17 (by decide) (by decide), a2 18 (by decide) (by decide)]
        exact ⟨⟨rfl, rfl, rfl, rfl, rfl, rfl⟩, q.2⟩
      have e17 := a2 17 (by decide) (by decide)
      have hX2 : XOk g2 := by
        intro k
        rw [hF2.2 32 (by decide), hF2.2 33 (by decide), ← hg0]
        exact hX k
      have efr : frZ f g2 = frZ f g := by
        funext n
        unfold frZ
        rw [hF2.2 32 (by decide), hF2.2 33 (by decide), ← hg0]
        rfl
      refine ap_go kc_43_52 ?_
      refine ap_aload_n rfl ?_; refine ai_getI ow_43 rf_8_45 rfl rfl ?_; refine ai_iconst ?_
      refine ai_icne rfl rfl (fun hb0 => ?_) (fun hb0 => ?_) ?_
      · refine ap_go kc_43_65 ?_
        refine ai_iconst ?_; refine ai_zret rfl ?_ ?_
        · first | exact K0 _ _ (hfw f3 (fun _ _ _ => rfl) (fun _ _ => rfl)) eD a3 ⟨0, a4, fun z => absurd z (by omega), fun _ => rfl⟩ | exact K0 _ _ (hfw F y1 y2) eD ((y2 27 (by decide)).trans a3) ⟨l, y3, fun _ => by rw [← efr]; exact y4, fun z => absurd z (by omega)⟩
        all_goals (omega)
      · refine ap_go kc_43_60 ?_
        refine ap_aload_n rfl ?_; refine ap_iload_n rfl ?_; refine ap_callv0 ow_43 rm_8_157 na_45 mc_45 ms_45 rfl rfl (Nat.le_of_ble_eq_true rfl) (Nat.le_of_ble_eq_true rfl) (Or.inr rfl) (Nat.zero_le _) (Nat.zero_le _) ?_; refine sp_45 (f0 := f) (g0 := g0) (a0 := a0) (fun F l y1 y2 y3 y4 => ?_) hM hX2 (by omega) (by unfold toZ; rw [if_pos (by omega)]) hGm a4; dsimp only [Option.toList_some, Option.toList_none, List.cons_append, List.nil_append]; refine ap_nil ?_
        refine ap_go kc_43_65 ?_
        refine ai_iconst ?_; refine ai_zret rfl ?_ ?_
        · first | exact K0 _ _ (hfw f3 (fun _ _ _ => rfl) (fun _ _ => rfl)) eD a3 ⟨0, a4, fun z => absurd z (by omega), fun _ => rfl⟩ | exact K0 _ _ (hfw F y1 y2) eD ((y2 27 (by decide)).trans a3) ⟨l, y3, fun _ => by rw [← efr]; exact y4, fun z => absurd z (by omega)⟩
        all_goals (omega)
      all_goals (omega)
    have J3 : ∀ f2 g2 f3, Fr f g0 f2 g2 → LI f g0 (g2 43) (f2 44) → mg_D (mE f g0) (mT f) (labZ (g2 43) (f2 44)) → f3 = am_up (am_up f2 31 27 0) 31 30 0 → 0 ≤ g2 43 a0 → am_Wp (am_call (d + 3)) 43 Q 67 [some (.ref 31), some (.int (iZ (a0 : Int))), none, none, none] [] (53, sh_lt L, iH f3, jH g2, sh_rt sw) (0, 0) := by
      intro f2 g2 f3 hF2 hL2 hD2 ef3 hc
      have hw := hL2.1 a0 (by omega)
      have eDD : labZ (g2 43) (f2 44) = D := funext fun v => (mg_uniq hD hD2 v).symm
      obtain ⟨D0, eD0⟩ : ∃ D0 : Nat, (D0 : Int) = 4096 * g2 43 a0 + f2 44 a0 := ⟨(4096 * g2 43 a0 + f2 44 a0).toNat, by omega⟩
      have eD : D a0 = some D0 := by
        rw [← eDD]
        exact (lab_iff hL2).mpr ⟨by omega, hc, eD0⟩
      have hmod := D_mod hM hD (v := a0) (by omega) eD
      have en : ((D0 % 4096 : Nat) : Int) = f2 44 a0 := by omega
      have ec : ((D0 / 4096 : Nat) : Int) = g2 43 a0 := by omega
      have a1 : ∀ a, a ≠ 31 → f3 a = f2 a := fun a h => by rw [ef3, am_up_ne h, am_up_ne h]
      have a2 : ∀ j, j ≠ 27 → j ≠ 30 → f3 31 j = f 31 j := fun j h1 h2 => by
        rw [ef3, am_up_eq]; dsimp only; rw [if_neg h2, am_up_eq]; dsimp only; rw [if_neg h1, hF2.1 31 (by decide)]
      have a3 : f3 31 27 = 0 := by rw [ef3, am_up_eq]; dsimp only; rw [if_neg (by decide), am_up_eq]; rfl
      have a4 : f3 31 30 = 0 := by rw [ef3, am_up_eq]; rfl
      have J4 : ∀ g3, g3 = am_up g2 31 29 (g2 43 a0) → am_Wp (am_call (d + 3)) 43 Q 79 [some (.ref 31), some (.int (iZ (a0 : Int))), some (.int (iZ 0)), none, none] [] (53, sh_lt L, iH f3, jH g3, sh_rt sw) (0, 0) := by
        intro g3 eg3
        have b43 : g3 43 = g2 43 := by rw [eg3, am_up_ne (by decide)]
        have b1 : ∀ a, a ≠ 31 → g3 a = g2 a := fun a h => by rw [eg3, am_up_ne h]
        have b2 : ∀ j, j ≠ 29 → g3 31 j = g2 31 j := fun j h => by rw [eg3, am_up_eq]; dsimp only; rw [if_neg h]
        have b3 : g3 31 29 = g2 43 a0 := by rw [eg3, am_up_eq]; rfl
        have hGm : Gm f g0 f3 g3 := by
          have q := Gm_Fr hF2
          unfold Gm at q ⊢
          rw [a1 35 (by decide), a1 36 (by decide), a1 39 (by decide), a1 42 (by decide), a2 1 (by decide) (by decide), a2 5 (by decide) (by decide), a2 15 (by decide) (by decide), a2 16 (by decide) (by decide), a2 17 (by decide) (by decide), a2 18 (by decide) (by decide), b1 34 (by decide), b1 37 (by decide), b1 38 (by decide), b1 40 (by decide), b1 41 (by decide), b2 14 (by decide)]
          exact ⟨⟨rfl, rfl, rfl, rfl, rfl, rfl⟩, q.2⟩
        refine lp_43n (fb := f3) (by omega) ?_ 2541 0 0 f3 rfl rfl (fun _ _ => rfl) (fun x hx => absurd hx (Nat.not_lt_zero x))
        intro f4 y1 y2
        have e44 : f4 44 = f2 44 := (y1 44 (by decide)).trans (a1 44 (by decide))
        have hfb : FB f3 f4 := ⟨fun a _ h45 _ _ => y1 a h45, fun j _ => by rw [y1 31 (by decide)]⟩
        have hwh := lp_43w (d := d) (L := L) (sw := sw) (Q := Q) (g := g3) (fb := f3) (D0 := D0) hM (a1 44 (by decide)) (by rw [b43]; exact hD2) (by rw [b43]; exact hL2) hmod.2 hmod.1 hGm (fun F s h z1 z2 z3 z4 => by
          refine K1 F g3 D0 s h ⟨fun a h31 h44 h45 h46 h49 => ?_, fun j h1 h2 => ?_, fun a h1 h2 => ?_, fun j h1 h2 => ?_, ?_⟩ eD z2 (by rw [b43, eDD] at z3; exact z3) z4 (by rw [b3, ec]) ?_
          · rw [z1.1 a h31 h45 h46 h49, a1 a h31]; exact hF2.1 a h44
          · rw [z1.2 j h1]; exact a2 j h1 h2
          · rw [b1 a h1, hF2.2 a h2, ← hg0, am_up_ne h1]
          · rw [b2 j h2, hF2.2 31 (by decide), ← hg0, am_up_eq]; dsimp only; rw [if_neg h1]
          · rw [b2 14 (by decide), hF2.2 31 (by decide), ← hg0, am_up_eq]; rfl
          · rw [z1.2 30 (by decide)]; exact a4) (D0 % 4096) 0 0 (sZ f) f4 (by omega) hfb (by rw [y1 31 (by decide)]; exact a3) ⟨rfl, rfl⟩ (by rw [b43, eDD]; exact sZ_TI hM h18 (by rw [show (f 31 18).toNat = a0 by omega]; exact eD) hmod.2) (by rw [b43, eDD]; exact NW_st ha h18 eD hmod.2 y2)
        have e44' : f4 44 ((a0 : Nat) : Int).toNat = ((D0 % 4096 : Nat) : Int) := by rw [e44, en]; rfl
        refine ap_go kc_43_108 ?_
        refine ap_aload_n rfl ?_; refine ap_getR ow_43 rf_8_52 rfl rfl rfl ?_; refine ap_iload_n rfl ?_; refine ai_iaload (n := 2541) rfl rfl (by decide) ?_ ?_
        rw [e44']
        refine ap_istore_n rfl ?_; refine ap_nil ?_
        · exact am_weak (by first | exact am_le_0 | (repeat (first | exact am_le_0 | refine am_le_n ?_ | refine am_le_s ?_))) hwh
        all_goals (omega)
      have ec3 : g2 43 ((a0 : Nat) : Int).toNat = g2 43 a0 := rfl
      refine ap_go kc_43_67 ?_
      refine ap_aload_n rfl ?_; refine ap_aload_n rfl ?_; refine ap_getR ow_43 rf_8_49 rfl rfl rfl ?_; refine ap_iload_n rfl ?_; refine ai_laload (n := 2541) rfl rfl (by decide) ?_ ?_; refine ai_putJ ow_43 rf_8_161 rfl rfl rfl ?_; refine ai_iconst ?_; refine ap_istore_n rfl ?_; refine ap_nil ?_
      · exact am_weak (by first | exact am_le_0 | (repeat (first | exact am_le_0 | refine am_le_n ?_ | refine am_le_s ?_))) (J4 _ rfl)
      all_goals (omega)
    refine ap_go kc_43_26 ?_
    refine ap_istore_n rfl ?_; refine ap_aload_n rfl ?_; refine ap_callv0 ow_43 rm_8_148 na_40 mc_40 ms_40 rfl rfl (Nat.le_of_ble_eq_true rfl) (Nat.le_of_ble_eq_true rfl) (Or.inr rfl) (Nat.zero_le _) (Nat.zero_le _) ?_; refine sp_40 hM (fun f2 g2 hF2 hL2 hD2 => ?_); dsimp only [Option.toList_some, Option.toList_none, List.cons_append, List.nil_append]; refine ap_aload_n rfl ?_; refine ai_iconst ?_; refine ai_putI ow_43 rf_8_151 rfl rfl rfl ?_; refine ap_aload_n rfl ?_; refine ai_iconst ?_; refine ai_putI ow_43 rf_8_154 rfl rfl rfl ?_; refine ap_aload_n rfl ?_; refine ap_getR ow_43 rf_8_49 rfl rfl rfl ?_; refine ap_iload_n rfl ?_; refine ai_laload (n := 2541) rfl rfl (by decide) ?_ ?_
    have hw := hL2.1 a0 (by omega); have hbd := LI_bd hM hL2 (v := a0) (by omega); have ecc : g2 43 ((a0 : Nat) : Int).toNat = g2 43 a0 := rfl
    refine ai_lconst 0 rfl ?_
    refine ai_lcge rfl rfl (fun hb0 => ?_) (fun hb0 => ?_) ?_
    · exact am_weak (by first | exact am_le_0 | (repeat (first | exact am_le_0 | refine am_le_n ?_ | refine am_le_s ?_))) (J3 f2 g2 _ hF2 hL2 hD2 rfl (by omega))
    · exact am_weak (by first | exact am_le_0 | (repeat (first | exact am_le_0 | refine am_le_n ?_ | refine am_le_s ?_))) (J2 f2 g2 _ hF2 hL2 hD2 rfl (by omega))
    all_goals (omega)
  refine ap_call (by decide) (Nat.le_of_ble_eq_true rfl) rfl ?_
  refine ap_go kc_43_0 ?_
  refine ap_aload_n rfl ?_; refine ap_dup rfl ?_; refine ai_getJ ow_43 rf_8_110 rfl rfl ?_; refine ai_lconst 1 rfl ?_; refine ai_ladd ?_; refine ai_putJ ow_43 rf_8_110 rfl rfl rfl ?_; refine ap_aload_n rfl ?_; refine ai_getI ow_43 rf_8_45 rfl rfl ?_; refine ai_iconst ?_
  refine ai_icne rfl rfl (fun hb0 => ?_) (fun hb0 => ?_) ?_
  · refine ap_go kc_43_25 ?_
    refine ai_iconst ?_; refine ap_nil ?_
    first | exact am_weak (by first | exact am_le_0 | (repeat (first | exact am_le_0 | refine am_le_n ?_ | refine am_le_s ?_))) (J26 _ ha) | exact am_weak (by first | exact am_le_0 | (repeat (first | exact am_le_0 | refine am_le_n ?_ | refine am_le_s ?_))) (J26 0 (by omega))
  · refine ap_go kc_43_18 ?_
    refine ap_aload_n rfl ?_; refine ai_getI ow_43 rf_8_145 rfl rfl ?_; refine ap_goto rfl ?_
    first | exact am_weak (by first | exact am_le_0 | (repeat (first | exact am_le_0 | refine am_le_n ?_ | refine am_le_s ?_))) (J26 _ ha) | exact am_weak (by first | exact am_le_0 | (repeat (first | exact am_le_0 | refine am_le_n ?_ | refine am_le_s ?_))) (J26 0 (by omega))
  all_goals (omega)
