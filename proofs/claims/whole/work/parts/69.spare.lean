/-! THE CLASS'S plan() and replan() -/
theorem sh_sw2 : ∀ (a k : Nat), a ≠ 0 → ∀ b c : Bool, sh_rt b a k = sh_rt c a k
  | 0, _, h, _, _ => absurd rfl h
  | 1, _, _, _, _ => rfl
  | 2, _, _, _, _ => rfl
  | 3, _, _, _, _ => rfl
  | 4, _, _, _, _ => rfl
  | 5, _, _, _, _ => rfl
  | 6, _, _, _, _ => rfl
  | 7, _, _, _, _ => rfl
  | 8, _, _, _, _ => rfl
  | 9, _, _, _, _ => rfl
  | 10, _, _, _, _ => rfl
  | 11, _, _, _, _ => rfl
  | 12, _, _, _, _ => rfl
  | 13, _, _, _, _ => rfl
  | 14, _, _, _, _ => rfl
  | 15, _, _, _, _ => rfl
  | 16, _, _, _, _ => rfl
  | 17, _, _, _, _ => rfl
  | 18, _, _, _, _ => rfl
  | 19, _, _, _, _ => rfl
  | 20, _, _, _, _ => rfl
  | 21, _, _, _, _ => rfl
  | 22, _, _, _, _ => rfl
  | 23, _, _, _, _ => rfl
  | 24, _, _, _, _ => rfl
  | 25, _, _, _, _ => rfl
  | 26, _, _, _, _ => rfl
  | 27, _, _, _, _ => rfl
  | 28, _, _, _, _ => rfl
  | 29, _, _, _, _ => rfl
  | 30, _, _, _, _ => rfl
  | 31, _, _, _, _ => rfl
  | a + 32, _, _, _, _ => rfl
/-- what findIntoSpare() leaves behind; v is the spare way -/
def SPR (f0 g0 : Nat → Nat → Int) (D : Nat → Option Nat) (v : Nat) (f g : Nat → Nat → Int) (x : Int) (F G : Nat → Nat → Int) : Prop :=
  ((∀ a, a ≠ 0 → a ≠ 15 → a ≠ 17 → a ≠ 18 → a ≠ 20 → a ≠ 22 → a ≠ v → a ≠ v + 1 → F a = f a) ∧ (∀ j, j ≠ 9 → F 0 j = f 0 j) ∧ (∀ a, a ≠ 0 → a ≠ 16 → a ≠ 19 → a ≠ 21 → a ≠ 23 → a ≠ v → G a = g a) ∧ (∀ j, j ≠ 8 → G 0 j = g 0 j) ∧ G 0 8 = g 0 8 + 1 ∧ CC f0 g0 F G) ∧
  ((x = 0 ∧ D (f0 31 18).toNat = none ∧ F v 1 = 0 ∧ F v 3 = 0 ∧ F (v + 1) = f (v + 1) ∧ ∃ l : Nat, F 0 9 = (l : Int) ∧ (f0 31 17 = 2 → nsL (okZ f0 g0 (f0 31 18).toNat) (frZ f0 g0) (f0 31 1).toNat l) ∧ (f0 31 17 ≠ 2 → l = 0)) ∨
   (x = 1 ∧ F 0 9 = 0 ∧ ∃ (D0 s : Nat) (h : Nat → Int), D (f0 31 18).toNat = some D0 ∧ Rw f0 g0 D D0 (F (v + 1)) (D0 % 4096) s h ∧ F v 1 = ((D0 % 4096 : Nat) : Int) ∧ F v 3 = 1 ∧ G v 2 = ((D0 / 4096 : Nat) : Int) ∧ ∀ i, D0 % 4096 ≤ i → F (v + 1) i = f (v + 1) i))
theorem SPR_x {f0 g0 f g F G : Nat → Nat → Int} {D : Nat → Option Nat} {v : Nat} {x : Int} (h : SPR f0 g0 D v f g x F G) : x = 0 ∨ x = 1 := h.2.elim (fun z => Or.inl z.1) (fun z => Or.inr z.1)
/-- the way's worth: it is there, and now costs n -/
def wrZ (f0 g0 : Nat → Nat → Int) (w v : Nat) (f g : Nat → Nat → Int) (gn x : Int) : Prop := (f w 3 = 0 ∧ x = 1) ∨ (f w 3 = 1 ∧ ∃ (n : Nat) (c : Int), f w 1 = (n : Int) ∧ TN f0 g0 (fun i => aZ (f (w + 1) i)) n c ∧ bI x (c < 0 ∨ (gn ≤ c - g v 2 ∧ ¬ (f w 1 = f v 1 ∧ ∀ i : Nat, (i : Int) < f w 1 → aZ (f (w + 1) i) = aZ (f (v + 1) i)))))
theorem sw_false : am_up (am_up (sh_rt false) 0 5 (29 + 1)) 0 6 (27 + 1) = sh_rt true := by
  funext a k
  unfold am_up
  by_cases ha : a = 0
  · subst ha
    by_cases h6 : k = 6
    · subst h6; rfl
    · rw [if_neg (fun q => h6 q.2)]
      by_cases h5 : k = 5
      · subst h5; rfl
      · rw [if_neg (fun q => h5 q.2)]
        match k, h5, h6 with
        | 0, _, _ => rfl
        | 1, _, _ => rfl
        | 2, _, _ => rfl
        | 3, _, _ => rfl
        | 4, _, _ => rfl
        | 5, h, _ => exact absurd rfl h
        | 6, _, h => exact absurd rfl h
        | k + 7, _, _ => rfl
  · rw [if_neg (fun q => ha q.1), if_neg (fun q => ha q.1)]
    exact sh_sw2 a k ha false true
theorem sp_17_false {d L : Nat} {f g : Nat → Nat → Int} {Q : Option Value → am_H → Prop} (K : Q none (53, sh_lt L, iH f, jH g, sh_rt true)) : am_call (d + 1) 17 [.ref 0] (53, sh_lt L, iH f, jH g, sh_rt false) Q := by
  have hK : Q none (53, sh_lt L, iH f, jH g, am_up (am_up (sh_rt false) 0 5 (29 + 1)) 0 6 (27 + 1)) := by rw [sw_false]; exact K
  refine ap_call (by decide) (Nat.le_of_ble_eq_true rfl) rfl ?_
  refine ap_go kc_17_0 ?_
  refine ap_aload_n rfl ?_; refine ap_getR ow_17 rf_7_51 rfl rfl rfl ?_; refine ap_astore_n rfl ?_; refine ap_aload_n rfl ?_; refine ap_aload_n rfl ?_; refine ap_getR ow_17 rf_7_55 rfl rfl rfl ?_; refine ap_putR ow_17 rf_7_51 rfl rfl rfl (Nat.le_of_ble_eq_true rfl) ?_; refine ap_aload_n rfl ?_; refine ap_aload_n rfl ?_; refine ap_putR ow_17 rf_7_55 rfl rfl rfl (Nat.le_of_ble_eq_true rfl) ?_; refine ap_vret rfl ?_
  exact hK
theorem sp_16_false {d L : Nat} {f g : Nat → Nat → Int} {Q : Option Value → am_H → Prop} {f0 g0 : Nat → Nat → Int} {D : Nat → Option Nat} (K : ∀ x F G, SPR f0 g0 D 29 f g x F G → Q (some (.int (iZ x))) (53, sh_lt L, iH F, jH G, sh_rt false)) (hM : MOk f0 g0) (hU : UOk f0) (hX : XOk g0) (hD : mg_D (mE f0 g0) (mT f0) D) (hC : CW f0 g0 f g) (hL : CL f0 g0 f g) (hp : g0 31 14 = g 0 8 + 1) (h18 : f0 31 18 ≤ toZ f0) : am_call (d + 6) 16 [.ref 0] (53, sh_lt L, iH f, jH g, sh_rt false) Q := by
  have m18 := hM.1.2.2.2.2.2
  have hC1 : CW f0 g0 f (am_up g 0 8 (g 0 8 + 1)) := CW_fr hC (fun _ _ => rfl) (fun a ha => am_up_ne (by omega))
  have hL1 : CL f0 g0 f (am_up g 0 8 (g 0 8 + 1)) := by unfold CL at hL ⊢; rw [am_up_ne (by decide), am_up_ne (by decide), am_up_ne (by decide), am_up_ne (by decide)]; exact hL
  have hp1 : (am_up g 0 8 (g 0 8 + 1)) 0 8 = g0 31 14 := by rw [am_up_eq]; dsimp only; rw [if_pos rfl]; exact hp.symm
  refine ap_call (by decide) (Nat.le_of_ble_eq_true rfl) rfl ?_
  refine ap_go kc_16_0 ?_
  refine ap_aload_n rfl ?_; refine ap_dup rfl ?_; refine ai_getJ ow_16 rf_7_62 rfl rfl ?_; refine ai_lconst 1 rfl ?_; refine ai_ladd ?_; refine ai_putJ ow_16 rf_7_62 rfl rfl rfl ?_; refine ap_aload_n rfl ?_; refine ap_getR ow_16 rf_7_30 rfl rfl rfl ?_; refine ap_aload_n rfl ?_; refine ai_getJ ow_16 rf_7_62 rfl rfl ?_; refine ap_callv0 ow_16 rm_7_209 na_119 mc_119 ms_119 rfl rfl (Nat.le_of_ble_eq_true rfl) (Nat.le_of_ble_eq_true rfl) (Or.inr rfl) (Nat.zero_le _) (Nat.zero_le _) ?_; refine sp_119 (f0 := f0) (g0 := g0) (fun F1 G1 q1 q2 q3 => ?_) hp1 hM hC1 hL1; dsimp only [Option.toList_some, Option.toList_none, List.cons_append, List.nil_append]; refine ap_aload_n rfl ?_; refine ap_getR ow_16 rf_7_30 rfl rfl rfl ?_; refine ap_aload_n rfl ?_; refine ap_getR ow_16 rf_7_55 rfl rfl rfl ?_; refine ap_callv0 ow_16 rm_7_213 na_120 mc_120 ms_120 rfl rfl (Nat.le_of_ble_eq_true rfl) (Nat.le_of_ble_eq_true rfl) (Or.inr rfl) (Nat.zero_le _) (Nat.zero_le _) ?_; refine sp_120_29 (D := D) (fun x F2 G2 hR => ?_) hM hU hD q3 h18; dsimp only [Option.toList_some, Option.toList_none, List.cons_append, List.nil_append]
  have hx : x = 0 ∨ x = 1 := hR.2.2.elim (fun z => Or.inl z.1) (fun z => Or.inr z.1); have hC2 : CC f0 g0 F2 G2 := CC_fr q3 (fun a ha => hR.1 a (by omega) (by omega) (by omega) (by omega) (by omega)) (fun a ha => hR.2.1 a (by omega) (by omega) (by omega))
  refine ap_istore_n rfl ?_; refine ap_aload_n rfl ?_; refine ap_iload_n rfl ?_
  refine ai_ifeq rfl rfl (fun hb0 => ?_) (fun hb0 => ?_) ?_
  · refine ap_go kc_16_42 ?_
    refine ap_aload_n rfl ?_; refine ap_getR ow_16 rf_7_30 rfl rfl rfl ?_; refine ap_callv0 ow_16 rm_7_217 na_122 mc_122 ms_122 rfl rfl (Nat.le_of_ble_eq_true rfl) (Nat.le_of_ble_eq_true rfl) (Or.inr rfl) (Nat.zero_le _) (Nat.zero_le _) ?_; refine sp_122 (a0 := (f0 31 18).toNat) (fun l F3 r1 r2 r3 => ?_) hM hU hX hC2 (by omega); dsimp only [Option.toList_some, Option.toList_none, List.cons_append, List.nil_append]; refine ap_nil ?_
    refine ap_go kc_16_49 ?_
    refine ai_putI ow_16 rf_7_66 rfl rfl rfl ?_; refine ap_iload_n rfl ?_; refine ai_zret rfl ?_ ?_
    · first | (rcases hR.2.2 with ⟨z, _⟩ | ⟨z, D0, s, h, y1, y2, y3, y4, y5, y6⟩; (exfalso; omega); rw [z]; exact K 1 _ G2 ⟨⟨fun a a0 a1 a2 a3 a4 a5 a6 a7 => (am_up_ne a0).trans ((hR.1 a a1 a2 a3 a6 a7).trans (q1 a a4)), fun j j1 => by rw [am_up_eq]; dsimp only; rw [if_neg j1, hR.1 0 (by decide) (by decide) (by decide) (by decide) (by decide), q1 0 (by decide)], fun a a0 a1 a2 a3 a4 a5 => (hR.2.1 a a1 a4 a5).trans ((q2 a a2 a3).trans (am_up_ne a0)), fun j j1 => by rw [hR.2.1 0 (by decide) (by decide) (by decide), q2 0 (by decide) (by decide), am_up_eq]; dsimp only; rw [if_neg j1], by rw [hR.2.1 0 (by decide) (by decide) (by decide), q2 0 (by decide) (by decide), am_up_eq]; rfl, CC_fr hC2 (fun a ha => am_up_ne (by omega)) (fun _ _ => rfl)⟩, Or.inr ⟨rfl, by rw [am_up_eq]; rfl, D0, s, h, y1, by rw [am_up_ne (by decide)]; exact y2, by rw [am_up_ne (by decide)]; exact y3, by rw [am_up_ne (by decide)]; exact y4, y5, fun i hi => by rw [am_up_ne (by decide), y6 i hi, q1 30 (by decide)]⟩⟩) | (rcases hR.2.2 with ⟨z, y1, y2, y3, y4⟩ | ⟨z, _⟩; (rw [z]; exact K 0 _ G2 ⟨⟨fun a a0 a1 a2 a3 a4 a5 a6 a7 => (am_up_ne a0).trans ((r1 a a5).trans ((hR.1 a a1 a2 a3 a6 a7).trans (q1 a a4))), fun j j1 => by rw [am_up_eq]; dsimp only; rw [if_neg j1, r1 0 (by decide), hR.1 0 (by decide) (by decide) (by decide) (by decide) (by decide), q1 0 (by decide)], fun a a0 a1 a2 a3 a4 a5 => (hR.2.1 a a1 a4 a5).trans ((q2 a a2 a3).trans (am_up_ne a0)), fun j j1 => by rw [hR.2.1 0 (by decide) (by decide) (by decide), q2 0 (by decide) (by decide), am_up_eq]; dsimp only; rw [if_neg j1], by rw [hR.2.1 0 (by decide) (by decide) (by decide), q2 0 (by decide) (by decide), am_up_eq]; rfl, CC_fr hC2 (fun a ha => (am_up_ne (by omega)).trans (r1 a (by omega))) (fun _ _ => rfl)⟩, Or.inl ⟨rfl, y1, by rw [am_up_ne (by decide), r1 29 (by decide)]; exact y2, by rw [am_up_ne (by decide), r1 29 (by decide)]; exact y3, by rw [am_up_ne (by decide), r1 30 (by decide), y4, q1 30 (by decide)], l, by rw [am_up_eq]; rfl, r2, r3⟩⟩); exfalso; omega)
    all_goals (omega)
  · refine ap_go kc_16_38 ?_
    refine ai_iconst ?_; refine ap_goto rfl ?_
    refine ap_go kc_16_49 ?_
    refine ai_putI ow_16 rf_7_66 rfl rfl rfl ?_; refine ap_iload_n rfl ?_; refine ai_zret rfl ?_ ?_
    · first | (rcases hR.2.2 with ⟨z, _⟩ | ⟨z, D0, s, h, y1, y2, y3, y4, y5, y6⟩; (exfalso; omega); rw [z]; exact K 1 _ G2 ⟨⟨fun a a0 a1 a2 a3 a4 a5 a6 a7 => (am_up_ne a0).trans ((hR.1 a a1 a2 a3 a6 a7).trans (q1 a a4)), fun j j1 => by rw [am_up_eq]; dsimp only; rw [if_neg j1, hR.1 0 (by decide) (by decide) (by decide) (by decide) (by decide), q1 0 (by decide)], fun a a0 a1 a2 a3 a4 a5 => (hR.2.1 a a1 a4 a5).trans ((q2 a a2 a3).trans (am_up_ne a0)), fun j j1 => by rw [hR.2.1 0 (by decide) (by decide) (by decide), q2 0 (by decide) (by decide), am_up_eq]; dsimp only; rw [if_neg j1], by rw [hR.2.1 0 (by decide) (by decide) (by decide), q2 0 (by decide) (by decide), am_up_eq]; rfl, CC_fr hC2 (fun a ha => am_up_ne (by omega)) (fun _ _ => rfl)⟩, Or.inr ⟨rfl, by rw [am_up_eq]; rfl, D0, s, h, y1, by rw [am_up_ne (by decide)]; exact y2, by rw [am_up_ne (by decide)]; exact y3, by rw [am_up_ne (by decide)]; exact y4, y5, fun i hi => by rw [am_up_ne (by decide), y6 i hi, q1 30 (by decide)]⟩⟩) | (rcases hR.2.2 with ⟨z, y1, y2, y3, y4⟩ | ⟨z, _⟩; (rw [z]; exact K 0 _ G2 ⟨⟨fun a a0 a1 a2 a3 a4 a5 a6 a7 => (am_up_ne a0).trans ((r1 a a5).trans ((hR.1 a a1 a2 a3 a6 a7).trans (q1 a a4))), fun j j1 => by rw [am_up_eq]; dsimp only; rw [if_neg j1, r1 0 (by decide), hR.1 0 (by decide) (by decide) (by decide) (by decide) (by decide), q1 0 (by decide)], fun a a0 a1 a2 a3 a4 a5 => (hR.2.1 a a1 a4 a5).trans ((q2 a a2 a3).trans (am_up_ne a0)), fun j j1 => by rw [hR.2.1 0 (by decide) (by decide) (by decide), q2 0 (by decide) (by decide), am_up_eq]; dsimp only; rw [if_neg j1], by rw [hR.2.1 0 (by decide) (by decide) (by decide), q2 0 (by decide) (by decide), am_up_eq]; rfl, CC_fr hC2 (fun a ha => (am_up_ne (by omega)).trans (r1 a (by omega))) (fun _ _ => rfl)⟩, Or.inl ⟨rfl, y1, by rw [am_up_ne (by decide), r1 29 (by decide)]; exact y2, by rw [am_up_ne (by decide), r1 29 (by decide)]; exact y3, by rw [am_up_ne (by decide), r1 30 (by decide), y4, q1 30 (by decide)], l, by rw [am_up_eq]; rfl, r2, r3⟩⟩); exfalso; omega)
    all_goals (omega)
  all_goals (omega)
theorem sp_18_false {d L : Nat} {f g : Nat → Nat → Int} {Q : Option Value → am_H → Prop} {f0 g0 : Nat → Nat → Int} {gn : Int} {n : Nat} (K : ∀ x G, (∀ a, a ≠ 23 → G a = g a) → wrZ f0 g0 27 29 f g gn x → Q (some (.int (iZ x))) (53, sh_lt L, iH f, jH G, sh_rt false)) (hM : MOk f0 g0) (hC : CC f0 g0 f g) (h18 : f0 31 18 ≤ toZ f0) (hgn : lR gn) (h3 : f 27 3 = 0 ∨ f 27 3 = 1) (hn : f 27 1 = (n : Int)) (hn2 : n ≤ 2400) (hv1 : 0 ≤ f 29 1 ∧ f 29 1 ≤ 2400) (hv2 : 0 ≤ g 29 2 ∧ g 29 2 ≤ 1000000000000000) (hw : ∀ k, iR (f 28 k) ∧ f 28 k ≠ -2147483648) (hv : ∀ k, iR (f 30 k) ∧ f 30 k ≠ -2147483648) (hch : f 27 3 = 1 → chO f0 (fun i => aZ (f 28 i)) n) : am_call (d + 4) 18 [.ref 0, .long (lZ gn)] (53, sh_lt L, iH f, jH g, sh_rt false) Q := by
  refine ap_call (by decide) (Nat.le_of_ble_eq_true rfl) rfl ?_
  by_cases ht : f 27 3 = 0
  · have hKK := K 1 g (fun _ _ => rfl) (Or.inl ⟨ht, rfl⟩)
    refine ap_go kc_18_0 ?_
    refine ap_aload_n rfl ?_; refine ap_getR ow_18 rf_7_51 rfl rfl rfl ?_; refine ap_callv0 ow_18 rm_7_150 na_108 mc_108 ms_108 rfl rfl (Nat.le_of_ble_eq_true rfl) (Nat.le_of_ble_eq_true rfl) (Or.inr rfl) (Nat.zero_le _) (Nat.zero_le _) ?_; refine sp_108_27 ?_ ?_; dsimp only [Option.toList_some, Option.toList_none, List.cons_append, List.nil_append]
    refine ai_ifne rfl rfl (fun hb0 => ?_) (fun hb0 => ?_) ?_
    · exfalso; omega
    · refine ap_go kc_18_10 ?_
      refine ai_iconst ?_; refine ai_zret rfl ?_ ?_
      · exact hKK
      all_goals (first | omega | exact Or.inr rfl)
    all_goals (first | omega | exact Or.inr rfl)
  · have ht1 : f 27 3 = 1 := by omega
    have hch' := hch ht1
    have Kx : ∀ (c : Int) (G : Nat → Nat → Int), (∀ a, a ≠ 23 → G a = g a) → TN f0 g0 (fun i => aZ (f 28 i)) n c → ∀ x, bI x (c < 0 ∨ (gn ≤ c - g 29 2 ∧ ¬ (f 27 1 = f 29 1 ∧ ∀ i : Nat, (i : Int) < f 27 1 → aZ (f 28 i) = aZ (f 30 i)))) → Q (some (.int (iZ x))) (53, sh_lt L, iH f, jH G, sh_rt false) := fun c G q1 q2 x q3 => K x G q1 (Or.inr ⟨ht1, n, c, hn, q2, q3⟩)
    refine ap_go kc_18_0 ?_
    refine ap_aload_n rfl ?_; refine ap_getR ow_18 rf_7_51 rfl rfl rfl ?_; refine ap_callv0 ow_18 rm_7_150 na_108 mc_108 ms_108 rfl rfl (Nat.le_of_ble_eq_true rfl) (Nat.le_of_ble_eq_true rfl) (Or.inr rfl) (Nat.zero_le _) (Nat.zero_le _) ?_; refine sp_108_27 ?_ ?_; dsimp only [Option.toList_some, Option.toList_none, List.cons_append, List.nil_append]
    refine ai_ifne rfl rfl (fun hb0 => ?_) (fun hb0 => ?_) ?_
    · refine ap_go kc_18_12 ?_
      refine ap_aload_n rfl ?_; refine ap_getR ow_18 rf_7_30 rfl rfl rfl ?_; refine ap_aload_n rfl ?_; refine ap_getR ow_18 rf_7_51 rfl rfl rfl ?_; refine ap_callv0 ow_18 rm_7_220 na_121 mc_121 ms_121 rfl rfl (Nat.le_of_ble_eq_true rfl) (Nat.le_of_ble_eq_true rfl) (Or.inr rfl) (Nat.zero_le _) (Nat.zero_le _) ?_; refine sp_121_27 (f0 := f0) (g0 := g0) (n := n) (fun G c hG hT => ?_) rfl hM hC hn hn2 (fun k => (hw k).1) hch' h18; dsimp only [Option.toList_some, Option.toList_none, List.cons_append, List.nil_append]
      have hcr := TN_in hM h18 (by omega) hT; have e2 : G 29 2 = g 29 2 := by rw [hG 29 (by decide)]
      refine ap_lstore_n rfl ?_; refine ap_lload_n rfl ?_; refine ai_lconst 0 rfl ?_
      refine ai_lcge rfl rfl (fun hb1 => ?_) (fun hb1 => ?_) ?_
      · refine ap_go kc_18_32 ?_
        refine ap_lload_n rfl ?_; refine ap_aload_n rfl ?_; refine ap_getR ow_18 rf_7_55 rfl rfl rfl ?_; refine ap_callv0 ow_18 rm_7_153 na_110 mc_110 ms_110 rfl rfl (Nat.le_of_ble_eq_true rfl) (Nat.le_of_ble_eq_true rfl) (Or.inr rfl) (Nat.zero_le _) (Nat.zero_le _) ?_; refine sp_110_29 ?_; dsimp only [Option.toList_some, Option.toList_none, List.cons_append, List.nil_append]; refine ai_lsub ?_; refine ap_lload_n rfl ?_
        refine ai_lclt rfl rfl (fun hb2 => ?_) (fun hb2 => ?_) ?_
        · refine ap_go kc_18_64 ?_
          refine ai_iconst ?_; refine ap_nil ?_
          refine ap_go kc_18_65 ?_
          refine ai_zret rfl ?_ ?_
          · first | exact Kx c G hG hT 1 ⟨Or.inr rfl, fun _ => Or.inl (by omega), fun _ => rfl⟩ | exact Kx c G hG hT 0 ⟨Or.inl rfl, fun q => absurd q (by decide), fun q => q.elim (fun z => by omega) (fun z => by have := z.1; omega)⟩ | exact Kx c G hG hT 1 ⟨Or.inr rfl, fun _ => Or.inr ⟨by omega, hx.elim (fun z => by have := z.1; omega) (fun z => z.2)⟩, fun _ => rfl⟩ | exact Kx c G hG hT 0 ⟨Or.inl rfl, fun q => absurd q (by decide), fun q => q.elim (fun z => by omega) (fun z => hx.elim (fun y => absurd y.2 z.2) (fun y => by have := y.1; omega))⟩
          all_goals (first | omega | exact Or.inr rfl | exact Or.inl rfl)
        · refine ap_go kc_18_46 ?_
          refine ap_aload_n rfl ?_; refine ap_getR ow_18 rf_7_51 rfl rfl rfl ?_; refine ap_aload_n rfl ?_; refine ap_getR ow_18 rf_7_55 rfl rfl rfl ?_; refine ap_callv0 ow_18 rm_7_224 na_116 mc_116 ms_116 rfl rfl (Nat.le_of_ble_eq_true rfl) (Nat.le_of_ble_eq_true rfl) (Or.inr rfl) (Nat.zero_le _) (Nat.zero_le _) ?_; refine sp_116_27 (fun x hx => ?_) ⟨by omega, by omega⟩ hv1 (fun k => (hw k).1) (fun k => (hv k).1) (fun k => (hw k).2) (fun k => (hv k).2); dsimp only [Option.toList_some, Option.toList_none, List.cons_append, List.nil_append]
          have hx1 : x = 0 ∨ x = 1 := hx.elim (fun z => Or.inr z.1) (fun z => Or.inl z.1)
          refine ai_ifne rfl rfl (fun hb3 => ?_) (fun hb3 => ?_) ?_
          · refine ap_go kc_18_64 ?_
            refine ai_iconst ?_; refine ap_nil ?_
            refine ap_go kc_18_65 ?_
            refine ai_zret rfl ?_ ?_
            · first | exact Kx c G hG hT 1 ⟨Or.inr rfl, fun _ => Or.inl (by omega), fun _ => rfl⟩ | exact Kx c G hG hT 0 ⟨Or.inl rfl, fun q => absurd q (by decide), fun q => q.elim (fun z => by omega) (fun z => by have := z.1; omega)⟩ | exact Kx c G hG hT 1 ⟨Or.inr rfl, fun _ => Or.inr ⟨by omega, hx.elim (fun z => by have := z.1; omega) (fun z => z.2)⟩, fun _ => rfl⟩ | exact Kx c G hG hT 0 ⟨Or.inl rfl, fun q => absurd q (by decide), fun q => q.elim (fun z => by omega) (fun z => hx.elim (fun y => absurd y.2 z.2) (fun y => by have := y.1; omega))⟩
            all_goals (first | omega | exact Or.inr rfl | exact Or.inl rfl)
          · refine ap_go kc_18_60 ?_
            refine ai_iconst ?_; refine ap_goto rfl ?_
            refine ap_go kc_18_65 ?_
            refine ai_zret rfl ?_ ?_
            · first | exact Kx c G hG hT 1 ⟨Or.inr rfl, fun _ => Or.inl (by omega), fun _ => rfl⟩ | exact Kx c G hG hT 0 ⟨Or.inl rfl, fun q => absurd q (by decide), fun q => q.elim (fun z => by omega) (fun z => by have := z.1; omega)⟩ | exact Kx c G hG hT 1 ⟨Or.inr rfl, fun _ => Or.inr ⟨by omega, hx.elim (fun z => by have := z.1; omega) (fun z => z.2)⟩, fun _ => rfl⟩ | exact Kx c G hG hT 0 ⟨Or.inl rfl, fun q => absurd q (by decide), fun q => q.elim (fun z => by omega) (fun z => hx.elim (fun y => absurd y.2 z.2) (fun y => by have := y.1; omega))⟩
            all_goals (first | omega | exact Or.inr rfl | exact Or.inl rfl)
          all_goals (first | omega | exact Or.inr rfl | exact Or.inl rfl)
        all_goals (first | omega | exact Or.inr rfl | exact Or.inl rfl)
      · refine ap_go kc_18_30 ?_
        refine ai_iconst ?_; refine ai_zret rfl ?_ ?_
        · first | exact Kx c G hG hT 1 ⟨Or.inr rfl, fun _ => Or.inl (by omega), fun _ => rfl⟩ | exact Kx c G hG hT 0 ⟨Or.inl rfl, fun q => absurd q (by decide), fun q => q.elim (fun z => by omega) (fun z => by have := z.1; omega)⟩ | exact Kx c G hG hT 1 ⟨Or.inr rfl, fun _ => Or.inr ⟨by omega, hx.elim (fun z => by have := z.1; omega) (fun z => z.2)⟩, fun _ => rfl⟩ | exact Kx c G hG hT 0 ⟨Or.inl rfl, fun q => absurd q (by decide), fun q => q.elim (fun z => by omega) (fun z => hx.elim (fun y => absurd y.2 z.2) (fun y => by have := y.1; omega))⟩
        all_goals (first | omega | exact Or.inr rfl | exact Or.inl rfl)
      all_goals (first | omega | exact Or.inr rfl | exact Or.inl rfl)
    · exfalso; omega
    all_goals (first | omega | exact Or.inr rfl | exact Or.inl rfl)
theorem sw_true : am_up (am_up (sh_rt true) 0 5 (27 + 1)) 0 6 (29 + 1) = sh_rt false := by
  funext a k
  unfold am_up
  by_cases ha : a = 0
  · subst ha
    by_cases h6 : k = 6
    · subst h6; rfl
    · rw [if_neg (fun q => h6 q.2)]
      by_cases h5 : k = 5
      · subst h5; rfl
      · rw [if_neg (fun q => h5 q.2)]
        match k, h5, h6 with
        | 0, _, _ => rfl
        | 1, _, _ => rfl
        | 2, _, _ => rfl
        | 3, _, _ => rfl
        | 4, _, _ => rfl
        | 5, h, _ => exact absurd rfl h
        | 6, _, h => exact absurd rfl h
        | k + 7, _, _ => rfl
  · rw [if_neg (fun q => ha q.1), if_neg (fun q => ha q.1)]
    exact sh_sw2 a k ha true false
theorem sp_17_true {d L : Nat} {f g : Nat → Nat → Int} {Q : Option Value → am_H → Prop} (K : Q none (53, sh_lt L, iH f, jH g, sh_rt false)) : am_call (d + 1) 17 [.ref 0] (53, sh_lt L, iH f, jH g, sh_rt true) Q := by
  have hK : Q none (53, sh_lt L, iH f, jH g, am_up (am_up (sh_rt true) 0 5 (27 + 1)) 0 6 (29 + 1)) := by rw [sw_true]; exact K
  refine ap_call (by decide) (Nat.le_of_ble_eq_true rfl) rfl ?_
  refine ap_go kc_17_0 ?_
  refine ap_aload_n rfl ?_; refine ap_getR ow_17 rf_7_51 rfl rfl rfl ?_; refine ap_astore_n rfl ?_; refine ap_aload_n rfl ?_; refine ap_aload_n rfl ?_; refine ap_getR ow_17 rf_7_55 rfl rfl rfl ?_; refine ap_putR ow_17 rf_7_51 rfl rfl rfl (Nat.le_of_ble_eq_true rfl) ?_; refine ap_aload_n rfl ?_; refine ap_aload_n rfl ?_; refine ap_putR ow_17 rf_7_55 rfl rfl rfl (Nat.le_of_ble_eq_true rfl) ?_; refine ap_vret rfl ?_
  exact hK
theorem sp_16_true {d L : Nat} {f g : Nat → Nat → Int} {Q : Option Value → am_H → Prop} {f0 g0 : Nat → Nat → Int} {D : Nat → Option Nat} (K : ∀ x F G, SPR f0 g0 D 27 f g x F G → Q (some (.int (iZ x))) (53, sh_lt L, iH F, jH G, sh_rt true)) (hM : MOk f0 g0) (hU : UOk f0) (hX : XOk g0) (hD : mg_D (mE f0 g0) (mT f0) D) (hC : CW f0 g0 f g) (hL : CL f0 g0 f g) (hp : g0 31 14 = g 0 8 + 1) (h18 : f0 31 18 ≤ toZ f0) : am_call (d + 6) 16 [.ref 0] (53, sh_lt L, iH f, jH g, sh_rt true) Q := by
  have m18 := hM.1.2.2.2.2.2
  have hC1 : CW f0 g0 f (am_up g 0 8 (g 0 8 + 1)) := CW_fr hC (fun _ _ => rfl) (fun a ha => am_up_ne (by omega))
  have hL1 : CL f0 g0 f (am_up g 0 8 (g 0 8 + 1)) := by unfold CL at hL ⊢; rw [am_up_ne (by decide), am_up_ne (by decide), am_up_ne (by decide), am_up_ne (by decide)]; exact hL
  have hp1 : (am_up g 0 8 (g 0 8 + 1)) 0 8 = g0 31 14 := by rw [am_up_eq]; dsimp only; rw [if_pos rfl]; exact hp.symm
  refine ap_call (by decide) (Nat.le_of_ble_eq_true rfl) rfl ?_
  refine ap_go kc_16_0 ?_
  refine ap_aload_n rfl ?_; refine ap_dup rfl ?_; refine ai_getJ ow_16 rf_7_62 rfl rfl ?_; refine ai_lconst 1 rfl ?_; refine ai_ladd ?_; refine ai_putJ ow_16 rf_7_62 rfl rfl rfl ?_; refine ap_aload_n rfl ?_; refine ap_getR ow_16 rf_7_30 rfl rfl rfl ?_; refine ap_aload_n rfl ?_; refine ai_getJ ow_16 rf_7_62 rfl rfl ?_; refine ap_callv0 ow_16 rm_7_209 na_119 mc_119 ms_119 rfl rfl (Nat.le_of_ble_eq_true rfl) (Nat.le_of_ble_eq_true rfl) (Or.inr rfl) (Nat.zero_le _) (Nat.zero_le _) ?_; refine sp_119 (f0 := f0) (g0 := g0) (fun F1 G1 q1 q2 q3 => ?_) hp1 hM hC1 hL1; dsimp only [Option.toList_some, Option.toList_none, List.cons_append, List.nil_append]; refine ap_aload_n rfl ?_; refine ap_getR ow_16 rf_7_30 rfl rfl rfl ?_; refine ap_aload_n rfl ?_; refine ap_getR ow_16 rf_7_55 rfl rfl rfl ?_; refine ap_callv0 ow_16 rm_7_213 na_120 mc_120 ms_120 rfl rfl (Nat.le_of_ble_eq_true rfl) (Nat.le_of_ble_eq_true rfl) (Or.inr rfl) (Nat.zero_le _) (Nat.zero_le _) ?_; refine sp_120_27 (D := D) (fun x F2 G2 hR => ?_) hM hU hD q3 h18; dsimp only [Option.toList_some, Option.toList_none, List.cons_append, List.nil_append]
  have hx : x = 0 ∨ x = 1 := hR.2.2.elim (fun z => Or.inl z.1) (fun z => Or.inr z.1); have hC2 : CC f0 g0 F2 G2 := CC_fr q3 (fun a ha => hR.1 a (by omega) (by omega) (by omega) (by omega) (by omega)) (fun a ha => hR.2.1 a (by omega) (by omega) (by omega))
  refine ap_istore_n rfl ?_; refine ap_aload_n rfl ?_; refine ap_iload_n rfl ?_
  refine ai_ifeq rfl rfl (fun hb0 => ?_) (fun hb0 => ?_) ?_
  · refine ap_go kc_16_42 ?_
    refine ap_aload_n rfl ?_; refine ap_getR ow_16 rf_7_30 rfl rfl rfl ?_; refine ap_callv0 ow_16 rm_7_217 na_122 mc_122 ms_122 rfl rfl (Nat.le_of_ble_eq_true rfl) (Nat.le_of_ble_eq_true rfl) (Or.inr rfl) (Nat.zero_le _) (Nat.zero_le _) ?_; refine sp_122 (a0 := (f0 31 18).toNat) (fun l F3 r1 r2 r3 => ?_) hM hU hX hC2 (by omega); dsimp only [Option.toList_some, Option.toList_none, List.cons_append, List.nil_append]; refine ap_nil ?_
    refine ap_go kc_16_49 ?_
    refine ai_putI ow_16 rf_7_66 rfl rfl rfl ?_; refine ap_iload_n rfl ?_; refine ai_zret rfl ?_ ?_
    · first | (rcases hR.2.2 with ⟨z, _⟩ | ⟨z, D0, s, h, y1, y2, y3, y4, y5, y6⟩; (exfalso; omega); rw [z]; exact K 1 _ G2 ⟨⟨fun a a0 a1 a2 a3 a4 a5 a6 a7 => (am_up_ne a0).trans ((hR.1 a a1 a2 a3 a6 a7).trans (q1 a a4)), fun j j1 => by rw [am_up_eq]; dsimp only; rw [if_neg j1, hR.1 0 (by decide) (by decide) (by decide) (by decide) (by decide), q1 0 (by decide)], fun a a0 a1 a2 a3 a4 a5 => (hR.2.1 a a1 a4 a5).trans ((q2 a a2 a3).trans (am_up_ne a0)), fun j j1 => by rw [hR.2.1 0 (by decide) (by decide) (by decide), q2 0 (by decide) (by decide), am_up_eq]; dsimp only; rw [if_neg j1], by rw [hR.2.1 0 (by decide) (by decide) (by decide), q2 0 (by decide) (by decide), am_up_eq]; rfl, CC_fr hC2 (fun a ha => am_up_ne (by omega)) (fun _ _ => rfl)⟩, Or.inr ⟨rfl, by rw [am_up_eq]; rfl, D0, s, h, y1, by rw [am_up_ne (by decide)]; exact y2, by rw [am_up_ne (by decide)]; exact y3, by rw [am_up_ne (by decide)]; exact y4, y5, fun i hi => by rw [am_up_ne (by decide), y6 i hi, q1 28 (by decide)]⟩⟩) | (rcases hR.2.2 with ⟨z, y1, y2, y3, y4⟩ | ⟨z, _⟩; (rw [z]; exact K 0 _ G2 ⟨⟨fun a a0 a1 a2 a3 a4 a5 a6 a7 => (am_up_ne a0).trans ((r1 a a5).trans ((hR.1 a a1 a2 a3 a6 a7).trans (q1 a a4))), fun j j1 => by rw [am_up_eq]; dsimp only; rw [if_neg j1, r1 0 (by decide), hR.1 0 (by decide) (by decide) (by decide) (by decide) (by decide), q1 0 (by decide)], fun a a0 a1 a2 a3 a4 a5 => (hR.2.1 a a1 a4 a5).trans ((q2 a a2 a3).trans (am_up_ne a0)), fun j j1 => by rw [hR.2.1 0 (by decide) (by decide) (by decide), q2 0 (by decide) (by decide), am_up_eq]; dsimp only; rw [if_neg j1], by rw [hR.2.1 0 (by decide) (by decide) (by decide), q2 0 (by decide) (by decide), am_up_eq]; rfl, CC_fr hC2 (fun a ha => (am_up_ne (by omega)).trans (r1 a (by omega))) (fun _ _ => rfl)⟩, Or.inl ⟨rfl, y1, by rw [am_up_ne (by decide), r1 27 (by decide)]; exact y2, by rw [am_up_ne (by decide), r1 27 (by decide)]; exact y3, by rw [am_up_ne (by decide), r1 28 (by decide), y4, q1 28 (by decide)], l, by rw [am_up_eq]; rfl, r2, r3⟩⟩); exfalso; omega)
    all_goals (omega)
  · refine ap_go kc_16_38 ?_
    refine ai_iconst ?_; refine ap_goto rfl ?_
    refine ap_go kc_16_49 ?_
    refine ai_putI ow_16 rf_7_66 rfl rfl rfl ?_; refine ap_iload_n rfl ?_; refine ai_zret rfl ?_ ?_
    · first | (rcases hR.2.2 with ⟨z, _⟩ | ⟨z, D0, s, h, y1, y2, y3, y4, y5, y6⟩; (exfalso; omega); rw [z]; exact K 1 _ G2 ⟨⟨fun a a0 a1 a2 a3 a4 a5 a6 a7 => (am_up_ne a0).trans ((hR.1 a a1 a2 a3 a6 a7).trans (q1 a a4)), fun j j1 => by rw [am_up_eq]; dsimp only; rw [if_neg j1, hR.1 0 (by decide) (by decide) (by decide) (by decide) (by decide), q1 0 (by decide)], fun a a0 a1 a2 a3 a4 a5 => (hR.2.1 a a1 a4 a5).trans ((q2 a a2 a3).trans (am_up_ne a0)), fun j j1 => by rw [hR.2.1 0 (by decide) (by decide) (by decide), q2 0 (by decide) (by decide), am_up_eq]; dsimp only; rw [if_neg j1], by rw [hR.2.1 0 (by decide) (by decide) (by decide), q2 0 (by decide) (by decide), am_up_eq]; rfl, CC_fr hC2 (fun a ha => am_up_ne (by omega)) (fun _ _ => rfl)⟩, Or.inr ⟨rfl, by rw [am_up_eq]; rfl, D0, s, h, y1, by rw [am_up_ne (by decide)]; exact y2, by rw [am_up_ne (by decide)]; exact y3, by rw [am_up_ne (by decide)]; exact y4, y5, fun i hi => by rw [am_up_ne (by decide), y6 i hi, q1 28 (by decide)]⟩⟩) | (rcases hR.2.2 with ⟨z, y1, y2, y3, y4⟩ | ⟨z, _⟩; (rw [z]; exact K 0 _ G2 ⟨⟨fun a a0 a1 a2 a3 a4 a5 a6 a7 => (am_up_ne a0).trans ((r1 a a5).trans ((hR.1 a a1 a2 a3 a6 a7).trans (q1 a a4))), fun j j1 => by rw [am_up_eq]; dsimp only; rw [if_neg j1, r1 0 (by decide), hR.1 0 (by decide) (by decide) (by decide) (by decide) (by decide), q1 0 (by decide)], fun a a0 a1 a2 a3 a4 a5 => (hR.2.1 a a1 a4 a5).trans ((q2 a a2 a3).trans (am_up_ne a0)), fun j j1 => by rw [hR.2.1 0 (by decide) (by decide) (by decide), q2 0 (by decide) (by decide), am_up_eq]; dsimp only; rw [if_neg j1], by rw [hR.2.1 0 (by decide) (by decide) (by decide), q2 0 (by decide) (by decide), am_up_eq]; rfl, CC_fr hC2 (fun a ha => (am_up_ne (by omega)).trans (r1 a (by omega))) (fun _ _ => rfl)⟩, Or.inl ⟨rfl, y1, by rw [am_up_ne (by decide), r1 27 (by decide)]; exact y2, by rw [am_up_ne (by decide), r1 27 (by decide)]; exact y3, by rw [am_up_ne (by decide), r1 28 (by decide), y4, q1 28 (by decide)], l, by rw [am_up_eq]; rfl, r2, r3⟩⟩); exfalso; omega)
    all_goals (omega)
  all_goals (omega)
theorem sp_18_true {d L : Nat} {f g : Nat → Nat → Int} {Q : Option Value → am_H → Prop} {f0 g0 : Nat → Nat → Int} {gn : Int} {n : Nat} (K : ∀ x G, (∀ a, a ≠ 23 → G a = g a) → wrZ f0 g0 29 27 f g gn x → Q (some (.int (iZ x))) (53, sh_lt L, iH f, jH G, sh_rt true)) (hM : MOk f0 g0) (hC : CC f0 g0 f g) (h18 : f0 31 18 ≤ toZ f0) (hgn : lR gn) (h3 : f 29 3 = 0 ∨ f 29 3 = 1) (hn : f 29 1 = (n : Int)) (hn2 : n ≤ 2400) (hv1 : 0 ≤ f 27 1 ∧ f 27 1 ≤ 2400) (hv2 : 0 ≤ g 27 2 ∧ g 27 2 ≤ 1000000000000000) (hw : ∀ k, iR (f 30 k) ∧ f 30 k ≠ -2147483648) (hv : ∀ k, iR (f 28 k) ∧ f 28 k ≠ -2147483648) (hch : f 29 3 = 1 → chO f0 (fun i => aZ (f 30 i)) n) : am_call (d + 4) 18 [.ref 0, .long (lZ gn)] (53, sh_lt L, iH f, jH g, sh_rt true) Q := by
  refine ap_call (by decide) (Nat.le_of_ble_eq_true rfl) rfl ?_
  by_cases ht : f 29 3 = 0
  · have hKK := K 1 g (fun _ _ => rfl) (Or.inl ⟨ht, rfl⟩)
    refine ap_go kc_18_0 ?_
    refine ap_aload_n rfl ?_; refine ap_getR ow_18 rf_7_51 rfl rfl rfl ?_; refine ap_callv0 ow_18 rm_7_150 na_108 mc_108 ms_108 rfl rfl (Nat.le_of_ble_eq_true rfl) (Nat.le_of_ble_eq_true rfl) (Or.inr rfl) (Nat.zero_le _) (Nat.zero_le _) ?_; refine sp_108_29 ?_ ?_; dsimp only [Option.toList_some, Option.toList_none, List.cons_append, List.nil_append]
    refine ai_ifne rfl rfl (fun hb0 => ?_) (fun hb0 => ?_) ?_
    · exfalso; omega
    · refine ap_go kc_18_10 ?_
      refine ai_iconst ?_; refine ai_zret rfl ?_ ?_
      · exact hKK
      all_goals (first | omega | exact Or.inr rfl)
    all_goals (first | omega | exact Or.inr rfl)
  · have ht1 : f 29 3 = 1 := by omega
    have hch' := hch ht1
    have Kx : ∀ (c : Int) (G : Nat → Nat → Int), (∀ a, a ≠ 23 → G a = g a) → TN f0 g0 (fun i => aZ (f 30 i)) n c → ∀ x, bI x (c < 0 ∨ (gn ≤ c - g 27 2 ∧ ¬ (f 29 1 = f 27 1 ∧ ∀ i : Nat, (i : Int) < f 29 1 → aZ (f 30 i) = aZ (f 28 i)))) → Q (some (.int (iZ x))) (53, sh_lt L, iH f, jH G, sh_rt true) := fun c G q1 q2 x q3 => K x G q1 (Or.inr ⟨ht1, n, c, hn, q2, q3⟩)
    refine ap_go kc_18_0 ?_
    refine ap_aload_n rfl ?_; refine ap_getR ow_18 rf_7_51 rfl rfl rfl ?_; refine ap_callv0 ow_18 rm_7_150 na_108 mc_108 ms_108 rfl rfl (Nat.le_of_ble_eq_true rfl) (Nat.le_of_ble_eq_true rfl) (Or.inr rfl) (Nat.zero_le _) (Nat.zero_le _) ?_; refine sp_108_29 ?_ ?_; dsimp only [Option.toList_some, Option.toList_none, List.cons_append, List.nil_append]
    refine ai_ifne rfl rfl (fun hb0 => ?_) (fun hb0 => ?_) ?_
    · refine ap_go kc_18_12 ?_
      refine ap_aload_n rfl ?_; refine ap_getR ow_18 rf_7_30 rfl rfl rfl ?_; refine ap_aload_n rfl ?_; refine ap_getR ow_18 rf_7_51 rfl rfl rfl ?_; refine ap_callv0 ow_18 rm_7_220 na_121 mc_121 ms_121 rfl rfl (Nat.le_of_ble_eq_true rfl) (Nat.le_of_ble_eq_true rfl) (Or.inr rfl) (Nat.zero_le _) (Nat.zero_le _) ?_; refine sp_121_29 (f0 := f0) (g0 := g0) (n := n) (fun G c hG hT => ?_) rfl hM hC hn hn2 (fun k => (hw k).1) hch' h18; dsimp only [Option.toList_some, Option.toList_none, List.cons_append, List.nil_append]
      have hcr := TN_in hM h18 (by omega) hT; have e2 : G 27 2 = g 27 2 := by rw [hG 27 (by decide)]
      refine ap_lstore_n rfl ?_; refine ap_lload_n rfl ?_; refine ai_lconst 0 rfl ?_
      refine ai_lcge rfl rfl (fun hb1 => ?_) (fun hb1 => ?_) ?_
      · refine ap_go kc_18_32 ?_
        refine ap_lload_n rfl ?_; refine ap_aload_n rfl ?_; refine ap_getR ow_18 rf_7_55 rfl rfl rfl ?_; refine ap_callv0 ow_18 rm_7_153 na_110 mc_110 ms_110 rfl rfl (Nat.le_of_ble_eq_true rfl) (Nat.le_of_ble_eq_true rfl) (Or.inr rfl) (Nat.zero_le _) (Nat.zero_le _) ?_; refine sp_110_27 ?_; dsimp only [Option.toList_some, Option.toList_none, List.cons_append, List.nil_append]; refine ai_lsub ?_; refine ap_lload_n rfl ?_
        refine ai_lclt rfl rfl (fun hb2 => ?_) (fun hb2 => ?_) ?_
        · refine ap_go kc_18_64 ?_
          refine ai_iconst ?_; refine ap_nil ?_
          refine ap_go kc_18_65 ?_
          refine ai_zret rfl ?_ ?_
          · first | exact Kx c G hG hT 1 ⟨Or.inr rfl, fun _ => Or.inl (by omega), fun _ => rfl⟩ | exact Kx c G hG hT 0 ⟨Or.inl rfl, fun q => absurd q (by decide), fun q => q.elim (fun z => by omega) (fun z => by have := z.1; omega)⟩ | exact Kx c G hG hT 1 ⟨Or.inr rfl, fun _ => Or.inr ⟨by omega, hx.elim (fun z => by have := z.1; omega) (fun z => z.2)⟩, fun _ => rfl⟩ | exact Kx c G hG hT 0 ⟨Or.inl rfl, fun q => absurd q (by decide), fun q => q.elim (fun z => by omega) (fun z => hx.elim (fun y => absurd y.2 z.2) (fun y => by have := y.1; omega))⟩
          all_goals (first | omega | exact Or.inr rfl | exact Or.inl rfl)
        · refine ap_go kc_18_46 ?_
          refine ap_aload_n rfl ?_; refine ap_getR ow_18 rf_7_51 rfl rfl rfl ?_; refine ap_aload_n rfl ?_; refine ap_getR ow_18 rf_7_55 rfl rfl rfl ?_; refine ap_callv0 ow_18 rm_7_224 na_116 mc_116 ms_116 rfl rfl (Nat.le_of_ble_eq_true rfl) (Nat.le_of_ble_eq_true rfl) (Or.inr rfl) (Nat.zero_le _) (Nat.zero_le _) ?_; refine sp_116_29 (fun x hx => ?_) ⟨by omega, by omega⟩ hv1 (fun k => (hw k).1) (fun k => (hv k).1) (fun k => (hw k).2) (fun k => (hv k).2); dsimp only [Option.toList_some, Option.toList_none, List.cons_append, List.nil_append]
          have hx1 : x = 0 ∨ x = 1 := hx.elim (fun z => Or.inr z.1) (fun z => Or.inl z.1)
          refine ai_ifne rfl rfl (fun hb3 => ?_) (fun hb3 => ?_) ?_
          · refine ap_go kc_18_64 ?_
            refine ai_iconst ?_; refine ap_nil ?_
            refine ap_go kc_18_65 ?_
            refine ai_zret rfl ?_ ?_
            · first | exact Kx c G hG hT 1 ⟨Or.inr rfl, fun _ => Or.inl (by omega), fun _ => rfl⟩ | exact Kx c G hG hT 0 ⟨Or.inl rfl, fun q => absurd q (by decide), fun q => q.elim (fun z => by omega) (fun z => by have := z.1; omega)⟩ | exact Kx c G hG hT 1 ⟨Or.inr rfl, fun _ => Or.inr ⟨by omega, hx.elim (fun z => by have := z.1; omega) (fun z => z.2)⟩, fun _ => rfl⟩ | exact Kx c G hG hT 0 ⟨Or.inl rfl, fun q => absurd q (by decide), fun q => q.elim (fun z => by omega) (fun z => hx.elim (fun y => absurd y.2 z.2) (fun y => by have := y.1; omega))⟩
            all_goals (first | omega | exact Or.inr rfl | exact Or.inl rfl)
          · refine ap_go kc_18_60 ?_
            refine ai_iconst ?_; refine ap_goto rfl ?_
            refine ap_go kc_18_65 ?_
            refine ai_zret rfl ?_ ?_
            · first | exact Kx c G hG hT 1 ⟨Or.inr rfl, fun _ => Or.inl (by omega), fun _ => rfl⟩ | exact Kx c G hG hT 0 ⟨Or.inl rfl, fun q => absurd q (by decide), fun q => q.elim (fun z => by omega) (fun z => by have := z.1; omega)⟩ | exact Kx c G hG hT 1 ⟨Or.inr rfl, fun _ => Or.inr ⟨by omega, hx.elim (fun z => by have := z.1; omega) (fun z => z.2)⟩, fun _ => rfl⟩ | exact Kx c G hG hT 0 ⟨Or.inl rfl, fun q => absurd q (by decide), fun q => q.elim (fun z => by omega) (fun z => hx.elim (fun y => absurd y.2 z.2) (fun y => by have := y.1; omega))⟩
            all_goals (first | omega | exact Or.inr rfl | exact Or.inl rfl)
          all_goals (first | omega | exact Or.inr rfl | exact Or.inl rfl)
        all_goals (first | omega | exact Or.inr rfl | exact Or.inl rfl)
      · refine ap_go kc_18_30 ?_
        refine ai_iconst ?_; refine ai_zret rfl ?_ ?_
        · first | exact Kx c G hG hT 1 ⟨Or.inr rfl, fun _ => Or.inl (by omega), fun _ => rfl⟩ | exact Kx c G hG hT 0 ⟨Or.inl rfl, fun q => absurd q (by decide), fun q => q.elim (fun z => by omega) (fun z => by have := z.1; omega)⟩ | exact Kx c G hG hT 1 ⟨Or.inr rfl, fun _ => Or.inr ⟨by omega, hx.elim (fun z => by have := z.1; omega) (fun z => z.2)⟩, fun _ => rfl⟩ | exact Kx c G hG hT 0 ⟨Or.inl rfl, fun q => absurd q (by decide), fun q => q.elim (fun z => by omega) (fun z => hx.elim (fun y => absurd y.2 z.2) (fun y => by have := y.1; omega))⟩
        all_goals (first | omega | exact Or.inr rfl | exact Or.inl rfl)
      all_goals (first | omega | exact Or.inr rfl | exact Or.inl rfl)
    · exfalso; omega
    all_goals (first | omega | exact Or.inr rfl | exact Or.inl rfl)
