/-! THE CLASS'S findInto(), totalNow() -/
/-- what findInto() answers of way w -/
def CR (f0 g0 : Nat → Nat → Int) (D : Nat → Option Nat) (w : Nat) (f g : Nat → Nat → Int) (x : Int) (F G : Nat → Nat → Int) : Prop := (∀ a, a ≠ 15 → a ≠ 17 → a ≠ 18 → a ≠ w → a ≠ w + 1 → F a = f a) ∧ (∀ a, a ≠ 16 → a ≠ 23 → a ≠ w → G a = g a) ∧
  ((x = 0 ∧ D (f0 31 18).toNat = none ∧ F w 1 = 0 ∧ F w 3 = 0 ∧ F (w + 1) = f (w + 1)) ∨ (x = 1 ∧ ∃ (D0 s : Nat) (h : Nat → Int), D (f0 31 18).toNat = some D0 ∧ Rw f0 g0 D D0 (F (w + 1)) (D0 % 4096) s h ∧ F w 1 = ((D0 % 4096 : Nat) : Int) ∧ F w 3 = 1 ∧ G w 2 = ((D0 / 4096 : Nat) : Int) ∧ ∀ i, D0 % 4096 ≤ i → F (w + 1) i = f (w + 1) i))
theorem sp_120_27 {d L : Nat} {sw : Bool} {f g : Nat → Nat → Int} {Q : Option Value → am_H → Prop} {f0 g0 : Nat → Nat → Int} {D : Nat → Option Nat} (K : ∀ x F G, CR f0 g0 D 27 f g x F G → Q (some (.int (iZ x))) (53, sh_lt L, iH F, jH G, sh_rt sw)) (hM : MOk f0 g0) (hU : UOk f0) (hD : mg_D (mE f0 g0) (mT f0) D) (hC : CC f0 g0 f g) (h18 : f0 31 18 ≤ toZ f0) : am_call (d + 5) 120 [.ref 14, .ref 27] (53, sh_lt L, iH f, jH g, sh_rt sw) Q := by
  have m5 := hM.1.2.1
  have m15 := hM.1.2.2.1
  have m16 := hM.1.2.2.2.1
  have m18 := hM.1.2.2.2.2.2
  have h20 := toZ_in f0
  have hNN := nN_in hM
  have e8 : f 14 8 = f0 31 15 := hC.1.1.2.2.1
  have e9 : f 14 9 = f0 31 16 := hC.1.1.2.2.2.1
  have q8 : (am_up (am_up f 27 3 0) 27 1 0) 14 8 = f0 31 15 := by rw [am_up_ne (by decide), am_up_ne (by decide)]; exact e8
  have q9 : (am_up (am_up f 27 3 0) 27 1 0) 14 9 = f0 31 16 := by rw [am_up_ne (by decide), am_up_ne (by decide)]; exact e9
  have hC1 : CC f0 g0 (am_up (am_up f 27 3 0) 27 1 0) (am_up g 27 2 0) := CC_fr hC (fun a ha => (am_up_ne (by omega)).trans (am_up_ne (by omega))) (fun a ha => am_up_ne (by omega))
  have hst : (f0 31 18).toNat < nN f0 := by have := hNN.1; unfold lvN at this; omega
  refine ap_call (by decide) (Nat.le_of_ble_eq_true rfl) rfl ?_
  by_cases hne : f0 31 15 = f0 31 16
  · have hD0 : D (f0 31 18).toNat = some 0 := hD.1 _ ⟨0, (f0 31 18).toNat, by omega, by omega, by omega, hne⟩
    have hK := K 1 (am_up (am_up (am_up f 27 3 0) 27 1 0) 27 3 1) (am_up (am_up g 27 2 0) 27 2 0) ⟨fun a _ _ _ a1 _ => ((am_up_ne a1).trans (am_up_ne a1)).trans (am_up_ne a1), fun a _ _ a1 => (am_up_ne a1).trans (am_up_ne a1), Or.inr ⟨rfl, 0, 0, sZ f0, hD0, ⟨rfl, rfl⟩, by rw [am_up_eq, am_up_eq]; rfl, by rw [am_up_eq]; rfl, by rw [am_up_eq]; rfl, fun i _ => by rw [am_up_ne (by decide), am_up_ne (by decide), am_up_ne (by decide)]⟩⟩
    refine ap_go kc_120_0 ?_
    refine ap_aload_n rfl ?_; refine ap_callv0 ow_120 rm_6_88 na_112 mc_112 ms_112 rfl rfl (Nat.le_of_ble_eq_true rfl) (Nat.le_of_ble_eq_true rfl) (Or.inr rfl) (Nat.zero_le _) (Nat.zero_le _) ?_; refine sp_112_27 ?_; dsimp only [Option.toList_some, Option.toList_none, List.cons_append, List.nil_append]; refine ap_aload_n rfl ?_; refine ai_getI ow_120 rf_6_35 rfl rfl ?_; refine ap_aload_n rfl ?_; refine ai_getI ow_120 rf_6_39 rfl rfl ?_
    refine ai_icne rfl rfl (fun hb0 => ?_) (fun hb0 => ?_) ?_
    · exfalso; omega
    · refine ap_go kc_120_15 ?_
      refine ap_aload_n rfl ?_; refine ai_lconst 0 rfl ?_; refine ap_callv0 ow_120 rm_6_93 na_114 mc_114 ms_114 rfl rfl (Nat.le_of_ble_eq_true rfl) (Nat.le_of_ble_eq_true rfl) (Or.inr rfl) (Nat.zero_le _) (Nat.zero_le _) ?_; refine sp_114_27 ?_; dsimp only [Option.toList_some, Option.toList_none, List.cons_append, List.nil_append]; refine ai_iconst ?_; refine ai_zret rfl ?_ ?_
      · exact hK
      all_goals (first | omega | exact Or.inr rfl)
    all_goals (first | omega | exact Or.inr rfl)
  · have J48 : ∀ (F G : Nat → Nat → Int) (D0 : Nat), FrF (am_up (am_up f 27 3 0) 27 1 0) F → FrG (am_up g 27 2 0) G → FD (fun v => D (rhoZ f0 v)) (nN f0) (f0 31 18).toNat (G 16) → D (f0 31 18).toNat = some D0 → am_Wp (am_call (d + 4)) 120 Q 48 [some (.ref 14), some (.ref 27), some (.long (lZ (D0 : Int))), none] [] (53, sh_lt L, iH F, jH G, sh_rt sw) (0, 0) := by
      intro F G D0 hF hG hFD hD0
      have hC2 : CC f0 g0 F G := CC_fr hC1 (fun a ha => hF a (by omega) (by omega) (by omega)) (fun a ha => hG a (by omega))
      have hFK : FK f0 g0 D D0 G := ⟨hD, hFD, hD0, m18.1, h18⟩
      have hb0 := FK_0 hM hFK
      have h1 : F 27 1 = 0 := by rw [hF 27 (by decide) (by decide) (by decide), am_up_eq]; rfl
      refine ap_go kc_120_48 ?_
      refine ap_aload_n rfl ?_; refine ap_aload_n rfl ?_; refine ap_lload_n rfl ?_; refine ap_callv0 ow_120 rm_6_108 na_128 mc_128 ms_128 rfl rfl (Nat.le_of_ble_eq_true rfl) (Nat.le_of_ble_eq_true rfl) (Or.inr rfl) (Nat.zero_le _) (Nat.zero_le _) ?_; refine sp_128_27 (fun F2 G2 s h hF2 hF2w hG2 hn hbr hR => ?_) rfl hM hU hC2 hFK h1; dsimp only [Option.toList_some, Option.toList_none, List.cons_append, List.nil_append]; refine ap_aload_n rfl ?_; refine ap_lload_n rfl ?_; refine ai_ldc2 (4096) ow_120 kl_6_72 rfl ?_; refine ai_ldiv ?_ ?_; refine ap_callv0 ow_120 rm_6_93 na_114 mc_114 ms_114 rfl rfl (Nat.le_of_ble_eq_true rfl) (Nat.le_of_ble_eq_true rfl) (Or.inr rfl) (Nat.zero_le _) (Nat.zero_le _) ?_; refine sp_114_27 ?_; dsimp only [Option.toList_some, Option.toList_none, List.cons_append, List.nil_append]; refine ai_iconst ?_; refine ai_zret rfl ?_ ?_
      · exact K 1 _ _ ⟨fun a a1 a2 a3 a4 a5 => (am_up_ne a4).trans ((hF2 a a4 a5).trans ((hF a a1 a2 a3).trans ((am_up_ne a4).trans (am_up_ne a4)))), fun a a1 a2 a3 => (am_up_ne a3).trans ((hG2 a a2).trans ((hG a a1).trans (am_up_ne a3))), Or.inr ⟨rfl, D0, s, h, hD0, by rw [am_up_ne (by decide)]; exact hR, by rw [am_up_eq]; exact hn, by rw [am_up_eq]; rfl, by rw [am_up_eq]; dsimp only; rw [if_pos rfl]; omega, fun i hi => by rw [am_up_ne (by decide), hbr i hi, hF 28 (by decide) (by decide) (by decide), am_up_ne (by decide), am_up_ne (by decide)]⟩⟩
      all_goals (first | omega | exact Or.inr rfl)
    refine ap_go kc_120_0 ?_
    refine ap_aload_n rfl ?_; refine ap_callv0 ow_120 rm_6_88 na_112 mc_112 ms_112 rfl rfl (Nat.le_of_ble_eq_true rfl) (Nat.le_of_ble_eq_true rfl) (Or.inr rfl) (Nat.zero_le _) (Nat.zero_le _) ?_; refine sp_112_27 ?_; dsimp only [Option.toList_some, Option.toList_none, List.cons_append, List.nil_append]; refine ap_aload_n rfl ?_; refine ai_getI ow_120 rf_6_35 rfl rfl ?_; refine ap_aload_n rfl ?_; refine ai_getI ow_120 rf_6_39 rfl rfl ?_
    refine ai_icne rfl rfl (fun hb0 => ?_) (fun hb0 => ?_) ?_
    · refine ap_go kc_120_22 ?_
      refine ap_aload_n rfl ?_; refine ap_callv0 ow_120 rm_6_97 na_126 mc_126 ms_126 rfl rfl (Nat.le_of_ble_eq_true rfl) (Nat.le_of_ble_eq_true rfl) (Or.inr rfl) (Nat.zero_le _) (Nat.zero_le _) ?_; refine sp_126 (st := (f0 31 18).toNat) (fun F G hF hG hFD => ?_) hM hD hC1 (by omega) h18 hne; dsimp only [Option.toList_some, Option.toList_none, List.cons_append, List.nil_append]
      have e11 : F 14 11 = f0 31 18 := by (rw [hF 14 (by decide) (by decide) (by decide)]; exact hC1.1.1.2.2.2.2.2)
      refine ap_aload_n rfl ?_
      have hkr := hFD.1 _ hst; have ek : G 16 (F 14 11).toNat = G 16 (f0 31 18).toNat := by rw [e11]
      refine ap_getR ow_120 rf_6_12 rfl rfl rfl ?_; refine ap_aload_n rfl ?_; refine ap_callv0 ow_120 rm_6_100 na_124 mc_124 ms_124 rfl rfl (Nat.le_of_ble_eq_true rfl) (Nat.le_of_ble_eq_true rfl) (Or.inr rfl) (Nat.zero_le _) (Nat.zero_le _) ?_; refine sp_124 ?_; dsimp only [Option.toList_some, Option.toList_none, List.cons_append, List.nil_append]; refine ap_callv0 ow_120 rm_6_103 na_62 mc_62 ms_62 rfl rfl (Nat.le_of_ble_eq_true rfl) (Nat.le_of_ble_eq_true rfl) (Or.inr rfl) (Nat.zero_le _) (Nat.zero_le _) ?_; refine sp_62 ?_ (by omega); dsimp only [Option.toList_some, Option.toList_none, List.cons_append, List.nil_append]; refine ap_lstore_n rfl ?_; refine ap_lload_n rfl ?_; refine ai_ldc2 (2305843009213693951) ow_120 kl_6_106 rfl ?_
      refine ai_lclt rfl rfl (fun hb1 => ?_) (fun hb1 => ?_) ?_
      · rcases hFD.2 with ⟨y1, y2⟩ | ⟨D0, y1, y2, y3⟩; (exfalso; omega); rw [ek, y2]; exact am_weak (by first | exact am_le_0 | (repeat (first | exact am_le_0 | refine am_le_n ?_ | refine am_le_s ?_))) (J48 F G D0 hF hG hFD ((congrArg D (rho_st ⟨m18.1, h18⟩)).symm.trans y1))
      · refine ap_go kc_120_46 ?_
        refine ai_iconst ?_; refine ai_zret rfl ?_ ?_
        · rcases hFD.2 with ⟨y1, y2⟩ | ⟨D0, y1, y2, y3⟩; (exact K 0 F G ⟨fun a a1 a2 a3 a4 a5 => (hF a a1 a2 a3).trans ((am_up_ne a4).trans (am_up_ne a4)), fun a a1 a2 a3 => (hG a a1).trans (am_up_ne a3), Or.inl ⟨rfl, (congrArg D (rho_st ⟨m18.1, h18⟩)).symm.trans y1, by rw [hF 27 (by decide) (by decide) (by decide), am_up_eq]; rfl, by rw [hF 27 (by decide) (by decide) (by decide), am_up_eq, am_up_eq]; rfl, by rw [hF 28 (by decide) (by decide) (by decide), am_up_ne (by decide), am_up_ne (by decide)]⟩⟩); exfalso; have := (D_mod hM hD (v := (f0 31 18).toNat) (by omega) ((congrArg D (rho_st ⟨m18.1, h18⟩)).symm.trans y1)).2; omega
        all_goals (first | omega | exact Or.inl rfl)
      all_goals (first | omega | exact Or.inl rfl)
    · exfalso; omega
    all_goals (first | omega | exact Or.inl rfl)
theorem lp_121_27 {d L : Nat} {sw : Bool} {Q : Option Value → am_H → Prop} {f0 g0 f gb : Nat → Nat → Int} {n : Nat} {w : Nat → Int} (hw0 : w = fun i => aZ (f 28 i)) (hM : MOk f0 g0) (hC : CC f0 g0 f gb) (hn : f 27 1 = (n : Int)) (hn2 : n ≤ 2400) (hv : ∀ k, iR (f 28 k)) (hch : chO f0 w n) (K : ∀ G v, (∀ a, a ≠ 23 → G a = gb a) → TN f0 g0 w n v → Q (some (.long (lZ v))) (53, sh_lt L, iH f, jH G, sh_rt sw)) : ∀ (k i : Nat) (x y : Int) (g : Nat → Nat → Int), x = i → n = i + k → y = ((sP w i : Nat) : Int) → (∀ a, a ≠ 23 → g a = gb a) → tnO f0 g0 w i → HB f0 i (HW f0 g0 w i) → (∀ e, e < 21 → g 23 e = HW f0 g0 w i e) → am_Wp (am_call (d + 2)) 121 Q 8 [some (.ref 14), some (.ref 27), some (.int (iZ y)), some (.int (iZ x)), none] [] (53, sh_lt L, iH f, jH g, sh_rt sw) (0, 0) := by
  intro k
  have m5 := hM.1.2.1
  have h20 := toZ_in f0
  induction k with
  | zero =>
    intro i x y g hx hk hy hg ho hH hr
    subst hx
    have en : n = i := by omega
    subst en
    have hh : hOk (HW f0 g0 w n) := fun e => ⟨(hH.1 e).1, (hH.1 e).2.1⟩
    have l1 := ls_le (HW f0 g0 w n) 21
    have l0 : 0 ≤ lsZ (HW f0 g0 w n) 21 := by
      have key : ∀ v, 0 ≤ lsZ (HW f0 g0 w n) v := by
        intro v
        induction v with
        | zero => show (0 : Int) ≤ 2305843009213693951; decide
        | succ v ihv =>
          have := hh v
          simp only [lsZ]
          split <;> omega
      exact key 21
    by_cases hl : 2305843009213693951 ≤ lsZ (HW f0 g0 w n) 21
    · have hK := K g (-1) hg ⟨fun _ => by rw [if_pos hl], fun z => absurd ho z⟩
      refine ap_go kc_121_8 ?_
      refine ap_iload_n rfl ?_; refine ap_aload_n rfl ?_; refine ap_callv0 ow_121 rm_6_115 na_109 mc_109 ms_109 rfl rfl (Nat.le_of_ble_eq_true rfl) (Nat.le_of_ble_eq_true rfl) (Or.inr rfl) (Nat.zero_le _) (Nat.zero_le _) ?_; refine sp_109_27 ?_; dsimp only [Option.toList_some, Option.toList_none, List.cons_append, List.nil_append]
      refine ai_icge rfl rfl (fun hb0 => ?_) (fun hb0 => ?_) ?_
      · refine ap_go kc_121_64 ?_
        refine ap_aload_n rfl ?_; refine ap_callv0 ow_121 rm_6_134 na_134 mc_134 ms_134 rfl rfl (Nat.le_of_ble_eq_true rfl) (Nat.le_of_ble_eq_true rfl) (Or.inr rfl) (Nat.zero_le _) (Nat.zero_le _) ?_; refine sp_134 ?_ hh hr; dsimp only [Option.toList_some, Option.toList_none, List.cons_append, List.nil_append]; refine ap_lstore_n rfl ?_; refine ap_lload_n rfl ?_; refine ai_ldc2 (2305843009213693951) ow_121 kl_6_106 rfl ?_
        refine ai_lclt rfl rfl (fun hb1 => ?_) (fun hb1 => ?_) ?_
        · exfalso; omega
        · refine ap_go kc_121_77 ?_
          refine ai_ldc2 (-1) ow_121 kl_6_82 rfl ?_; refine ap_goto rfl ?_
          refine ap_go kc_121_88 ?_
          refine ap_lret rfl ?_
          exact hK
        all_goals (omega)
      · exfalso; omega
      all_goals (omega)
    · have hK := K g (lsZ (HW f0 g0 w n) 21 / 4096) hg ⟨fun _ => by rw [if_neg hl], fun z => absurd ho z⟩
      refine ap_go kc_121_8 ?_
      refine ap_iload_n rfl ?_; refine ap_aload_n rfl ?_; refine ap_callv0 ow_121 rm_6_115 na_109 mc_109 ms_109 rfl rfl (Nat.le_of_ble_eq_true rfl) (Nat.le_of_ble_eq_true rfl) (Or.inr rfl) (Nat.zero_le _) (Nat.zero_le _) ?_; refine sp_109_27 ?_; dsimp only [Option.toList_some, Option.toList_none, List.cons_append, List.nil_append]
      refine ai_icge rfl rfl (fun hb0 => ?_) (fun hb0 => ?_) ?_
      · refine ap_go kc_121_64 ?_
        refine ap_aload_n rfl ?_; refine ap_callv0 ow_121 rm_6_134 na_134 mc_134 ms_134 rfl rfl (Nat.le_of_ble_eq_true rfl) (Nat.le_of_ble_eq_true rfl) (Or.inr rfl) (Nat.zero_le _) (Nat.zero_le _) ?_; refine sp_134 ?_ hh hr; dsimp only [Option.toList_some, Option.toList_none, List.cons_append, List.nil_append]; refine ap_lstore_n rfl ?_; refine ap_lload_n rfl ?_; refine ai_ldc2 (2305843009213693951) ow_121 kl_6_106 rfl ?_
        refine ai_lclt rfl rfl (fun hb1 => ?_) (fun hb1 => ?_) ?_
        · refine ap_go kc_121_83 ?_
          refine ap_lload_n rfl ?_; refine ai_ldc2 (4096) ow_121 kl_6_72 rfl ?_; refine ai_ldiv ?_ ?_; refine ap_nil ?_
          · refine ap_go kc_121_88 ?_
            refine ap_lret rfl ?_
            exact hK
          all_goals (omega)
        · exfalso; omega
        all_goals (omega)
      · exfalso; omega
      all_goals (omega)
  | succ k ih =>
    intro i x y g hx hk hy hg ho hH hr
    subst hx
    subst hy
    obtain ⟨c1, c2, c3⟩ := hch i (by omega)
    obtain ⟨t, et⟩ : ∃ t : Nat, w i = (t : Int) := ⟨(w i).toNat, by omega⟩
    have et2 : (w i).toNat = t := by omega
    rw [et] at c1 c2
    have hs : ((sP w i : Nat) : Int) ≤ f0 31 5 := by
      cases i with
      | zero => exact m5.1
      | succ j =>
        have := hch j (by omega)
        show (((w j).toNat : Nat) : Int) ≤ f0 31 5
        omega
    have hC' : CC f0 g0 f g := CC_fr hC (fun _ _ => rfl) (fun a ha => hg a (by omega))
    have c111 : ∀ {Q : Option Value → am_H → Prop}, Q (some (.int (iZ (t : Int)))) (53, sh_lt L, iH f, jH g, sh_rt sw) → am_call (d + 2) 111 [.ref 27, .int (iZ (i : Int))] (53, sh_lt L, iH f, jH g, sh_rt sw) Q := fun K => sp_111_27 (by rw [if_pos (by omega)]; rw [hw0] at et; rw [show (if 0 ≤ f 28 ((i : Nat) : Int).toNat then f 28 ((i : Nat) : Int).toNat else -f 28 ((i : Nat) : Int).toNat) = (t : Int) from et]; exact K) (by omega) (by omega) hv
    by_cases hm : mfZ f0 g0 (sP w i) t
    · have hp := hm.2.1
      have hpr := prZ_in hM t
      have ew : wZ f0 g0 t = 4096 * prZ f0 g0 t + 1 := rfl
      have hpl := plZ_in hM (sP w i)
      have e7 : f 7 ((sP w i : Nat) : Int).toNat = plZ f0 (sP w i) := (hC'.1.2.2.1 _ hs).1
      have eu : g 21 (f 7 ((sP w i : Nat) : Int).toNat).toNat = uZ f0 g0 (plZ f0 (sP w i)).toNat := by rw [e7]; exact CC_u hC' hs
      have hu := uZ_in hM (plZ f0 (sP w i)).toNat
      have hh : hOk (HW f0 g0 w i) := fun e => ⟨(hH.1 e).1, (hH.1 e).2.1⟩
      have hhc := hOk_ch hu hh
      have hHC := HB_HC hM (plZ f0 (sP w i)).toNat hH
      have hHB := HC_HB (t := t) hM (by omega) hp hHC
      have eW : HW f0 g0 w (i + 1) = drZ (neZ f0 t).toNat (wZ f0 g0 t) (chZ (uZ f0 g0 (plZ f0 (sP w i)).toNat) (HW f0 g0 w i)) := by
        show drZ (neZ f0 (w i).toNat).toNat (wZ f0 g0 (w i).toNat) _ = _
        rw [et2]
      have hne := neZ_in hM t
      have e20 : f 20 t = (((neZ f0 t).toNat : Nat) : Int) := by rw [(hC'.2.1 t (by omega) c2).2]; omega
      have hw := CC_w hC' (t := t) (by omega) c2
      have ho2 : tnO f0 g0 w (i + 1) := fun j hj => by
        by_cases z : j = i
        · subst z; rw [et2]; exact hm
        · exact ho j (by omega)
      refine ap_go kc_121_8 ?_
      refine ap_iload_n rfl ?_; refine ap_aload_n rfl ?_; refine ap_callv0 ow_121 rm_6_115 na_109 mc_109 ms_109 rfl rfl (Nat.le_of_ble_eq_true rfl) (Nat.le_of_ble_eq_true rfl) (Or.inr rfl) (Nat.zero_le _) (Nat.zero_le _) ?_; refine sp_109_27 ?_; dsimp only [Option.toList_some, Option.toList_none, List.cons_append, List.nil_append]
      refine ai_icge rfl rfl (fun hb0 => ?_) (fun hb0 => ?_) ?_
      · exfalso; omega
      · refine ap_go kc_121_16 ?_
        refine ap_aload_n rfl ?_; refine ap_iload_n rfl ?_; refine ap_callv0 ow_121 rm_6_118 na_111 mc_111 ms_111 rfl rfl (Nat.le_of_ble_eq_true rfl) (Nat.le_of_ble_eq_true rfl) (Or.inr rfl) (Nat.zero_le _) (Nat.zero_le _) ?_; refine c111 ?_; dsimp only [Option.toList_some, Option.toList_none, List.cons_append, List.nil_append]; refine ap_istore rfl ?_; refine ap_aload_n rfl ?_; refine ap_iload_n rfl ?_; refine ap_iload rfl ?_; refine ap_callv0 ow_121 rm_6_121 na_125 mc_125 ms_125 rfl rfl (Nat.le_of_ble_eq_true rfl) (Nat.le_of_ble_eq_true rfl) (Or.inr rfl) (Nat.zero_le _) (Nat.zero_le _) ?_; refine sp_125t (s := sP w i) (t := t) ?_ hm hM hC' rfl rfl hs (by omega) c2; dsimp only [Option.toList_some, Option.toList_none, List.cons_append, List.nil_append]
        refine ai_ifne rfl rfl (fun hb1 => ?_) (fun hb1 => ?_) ?_
        · refine ap_go kc_121_37 ?_
          refine ap_aload_n rfl ?_; refine ap_aload_n rfl ?_; refine ap_getR ow_121 rf_6_52 rfl rfl rfl ?_; refine ap_iload_n rfl ?_; refine ap_callv0 ow_121 rm_6_125 na_99 mc_99 ms_99 rfl rfl (Nat.le_of_ble_eq_true rfl) (Nat.le_of_ble_eq_true rfl) (Or.inr rfl) (Nat.zero_le _) (Nat.zero_le _) ?_; refine sp_99 ?_ ?_; dsimp only [Option.toList_some, Option.toList_none, List.cons_append, List.nil_append]; refine ap_callv0 ow_121 rm_6_128 na_132 mc_132 ms_132 rfl rfl (Nat.le_of_ble_eq_true rfl) (Nat.le_of_ble_eq_true rfl) (Or.inr rfl) (Nat.zero_le _) (Nat.zero_le _) ?_; refine sp_132 (h := HW f0 g0 w i) (fun G hG hGr => ?_) (by omega) (by rw [eu]; exact hu) hh hr; dsimp only [Option.toList_some, Option.toList_none, List.cons_append, List.nil_append]
          have ew3 : G 19 t = wZ f0 g0 t := by (rw [hG 19 (by decide)]; omega)
          refine ap_aload_n rfl ?_; refine ap_iload rfl ?_; refine ap_callv0 ow_121 rm_6_131 na_133 mc_133 ms_133 rfl rfl (Nat.le_of_ble_eq_true rfl) (Nat.le_of_ble_eq_true rfl) (Or.inr rfl) (Nat.zero_le _) (Nat.zero_le _) ?_; refine sp_133 (h := chZ (uZ f0 g0 (plZ f0 (sP w i)).toNat) (HW f0 g0 w i)) (t := t) (n := (neZ f0 t).toNat) (fun G2 hG2 hr2 => ?_) rfl (by omega) e20 (by omega) (by rw [ew3]; omega) hhc (by rw [eu] at hGr; exact hGr); dsimp only [Option.toList_some, Option.toList_none, List.cons_append, List.nil_append]; refine ap_iload rfl ?_; refine ap_istore_n rfl ?_; refine ai_iinc rfl rfl ?_; refine ap_goto rfl ?_
          · exact am_weak (by first | exact am_le_0 | (repeat (first | exact am_le_0 | refine am_le_n ?_ | refine am_le_s ?_))) (ih (i + 1) ((i : Int) + 1) _ G2 rfl (by omega) (by show (t : Int) = (((w i).toNat : Nat) : Int); rw [et2]) (fun a ha => ((hG2 a ha).trans (hG a ha)).trans (hg a ha)) ho2 (by rw [eW]; exact hHB) (fun e he => by rw [hr2 e he, eW, ew3]))
          all_goals (omega)
        · exfalso; omega
        all_goals (omega)
      all_goals (omega)
    · have hK := K g (-1) hg ⟨fun z => absurd (by have := z i (by omega); rw [et2] at this; exact this) hm, fun _ => rfl⟩
      refine ap_go kc_121_8 ?_
      refine ap_iload_n rfl ?_; refine ap_aload_n rfl ?_; refine ap_callv0 ow_121 rm_6_115 na_109 mc_109 ms_109 rfl rfl (Nat.le_of_ble_eq_true rfl) (Nat.le_of_ble_eq_true rfl) (Or.inr rfl) (Nat.zero_le _) (Nat.zero_le _) ?_; refine sp_109_27 ?_; dsimp only [Option.toList_some, Option.toList_none, List.cons_append, List.nil_append]
      refine ai_icge rfl rfl (fun hb0 => ?_) (fun hb0 => ?_) ?_
      · exfalso; omega
      · refine ap_go kc_121_16 ?_
        refine ap_aload_n rfl ?_; refine ap_iload_n rfl ?_; refine ap_callv0 ow_121 rm_6_118 na_111 mc_111 ms_111 rfl rfl (Nat.le_of_ble_eq_true rfl) (Nat.le_of_ble_eq_true rfl) (Or.inr rfl) (Nat.zero_le _) (Nat.zero_le _) ?_; refine c111 ?_; dsimp only [Option.toList_some, Option.toList_none, List.cons_append, List.nil_append]; refine ap_istore rfl ?_; refine ap_aload_n rfl ?_; refine ap_iload_n rfl ?_; refine ap_iload rfl ?_; refine ap_callv0 ow_121 rm_6_121 na_125 mc_125 ms_125 rfl rfl (Nat.le_of_ble_eq_true rfl) (Nat.le_of_ble_eq_true rfl) (Or.inr rfl) (Nat.zero_le _) (Nat.zero_le _) ?_; refine sp_125n (s := sP w i) (t := t) ?_ hm hM hC' rfl rfl hs (by omega) c2; dsimp only [Option.toList_some, Option.toList_none, List.cons_append, List.nil_append]
        refine ai_ifne rfl rfl (fun hb1 => ?_) (fun hb1 => ?_) ?_
        · exfalso; omega
        · refine ap_go kc_121_33 ?_
          refine ai_ldc2 (-1) ow_121 kl_6_82 rfl ?_; refine ap_lret rfl ?_
          exact hK
        all_goals (omega)
      all_goals (omega)
theorem sp_121_27 {d L : Nat} {sw : Bool} {f g : Nat → Nat → Int} {Q : Option Value → am_H → Prop} {f0 g0 : Nat → Nat → Int} {n : Nat} {w : Nat → Int} (K : ∀ G v, (∀ a, a ≠ 23 → G a = g a) → TN f0 g0 w n v → Q (some (.long (lZ v))) (53, sh_lt L, iH f, jH G, sh_rt sw)) (hw0 : w = fun i => aZ (f 28 i)) (hM : MOk f0 g0) (hC : CC f0 g0 f g) (hn : f 27 1 = (n : Int)) (hn2 : n ≤ 2400) (hv : ∀ k, iR (f 28 k)) (hch : chO f0 w n) (h18 : f0 31 18 ≤ toZ f0) : am_call (d + 3) 121 [.ref 14, .ref 27] (53, sh_lt L, iH f, jH g, sh_rt sw) Q := by
  have h20 := toZ_in f0
  have m18 := hM.1.2.2.2.2.2
  refine ap_call (by decide) (Nat.le_of_ble_eq_true rfl) rfl ?_
  refine ap_go kc_121_0 ?_
  refine ap_aload_n rfl ?_; refine ap_callv0 ow_121 rm_6_112 na_131 mc_131 ms_131 rfl rfl (Nat.le_of_ble_eq_true rfl) (Nat.le_of_ble_eq_true rfl) (Or.inr rfl) (Nat.zero_le _) (Nat.zero_le _) ?_; refine sp_131 (f0 := f0) (fun G hG hGr => ?_) hC.1.1.2.2.2.2.2 (by omega); dsimp only [Option.toList_some, Option.toList_none, List.cons_append, List.nil_append]; refine ai_iconst ?_; refine ap_istore_n rfl ?_; refine ai_iconst ?_; refine ap_istore_n rfl ?_; refine ap_nil ?_
  exact am_weak (by first | exact am_le_0 | (repeat (first | exact am_le_0 | refine am_le_n ?_ | refine am_le_s ?_))) (lp_121_27 hw0 hM hC hn hn2 hv hch K n 0 0 0 G rfl (by omega) rfl hG (fun j hj => absurd hj (Nat.not_lt_zero j)) (HB_st hM h18) hGr)
theorem sp_120_29 {d L : Nat} {sw : Bool} {f g : Nat → Nat → Int} {Q : Option Value → am_H → Prop} {f0 g0 : Nat → Nat → Int} {D : Nat → Option Nat} (K : ∀ x F G, CR f0 g0 D 29 f g x F G → Q (some (.int (iZ x))) (53, sh_lt L, iH F, jH G, sh_rt sw)) (hM : MOk f0 g0) (hU : UOk f0) (hD : mg_D (mE f0 g0) (mT f0) D) (hC : CC f0 g0 f g) (h18 : f0 31 18 ≤ toZ f0) : am_call (d + 5) 120 [.ref 14, .ref 29] (53, sh_lt L, iH f, jH g, sh_rt sw) Q := by
  have m5 := hM.1.2.1
  have m15 := hM.1.2.2.1
  have m16 := hM.1.2.2.2.1
  have m18 := hM.1.2.2.2.2.2
  have h20 := toZ_in f0
  have hNN := nN_in hM
  have e8 : f 14 8 = f0 31 15 := hC.1.1.2.2.1
  have e9 : f 14 9 = f0 31 16 := hC.1.1.2.2.2.1
  have q8 : (am_up (am_up f 29 3 0) 29 1 0) 14 8 = f0 31 15 := by rw [am_up_ne (by decide), am_up_ne (by decide)]; exact e8
  have q9 : (am_up (am_up f 29 3 0) 29 1 0) 14 9 = f0 31 16 := by rw [am_up_ne (by decide), am_up_ne (by decide)]; exact e9
  have hC1 : CC f0 g0 (am_up (am_up f 29 3 0) 29 1 0) (am_up g 29 2 0) := CC_fr hC (fun a ha => (am_up_ne (by omega)).trans (am_up_ne (by omega))) (fun a ha => am_up_ne (by omega))
  have hst : (f0 31 18).toNat < nN f0 := by have := hNN.1; unfold lvN at this; omega
  refine ap_call (by decide) (Nat.le_of_ble_eq_true rfl) rfl ?_
  by_cases hne : f0 31 15 = f0 31 16
  · have hD0 : D (f0 31 18).toNat = some 0 := hD.1 _ ⟨0, (f0 31 18).toNat, by omega, by omega, by omega, hne⟩
    have hK := K 1 (am_up (am_up (am_up f 29 3 0) 29 1 0) 29 3 1) (am_up (am_up g 29 2 0) 29 2 0) ⟨fun a _ _ _ a1 _ => ((am_up_ne a1).trans (am_up_ne a1)).trans (am_up_ne a1), fun a _ _ a1 => (am_up_ne a1).trans (am_up_ne a1), Or.inr ⟨rfl, 0, 0, sZ f0, hD0, ⟨rfl, rfl⟩, by rw [am_up_eq, am_up_eq]; rfl, by rw [am_up_eq]; rfl, by rw [am_up_eq]; rfl, fun i _ => by rw [am_up_ne (by decide), am_up_ne (by decide), am_up_ne (by decide)]⟩⟩
    refine ap_go kc_120_0 ?_
    refine ap_aload_n rfl ?_; refine ap_callv0 ow_120 rm_6_88 na_112 mc_112 ms_112 rfl rfl (Nat.le_of_ble_eq_true rfl) (Nat.le_of_ble_eq_true rfl) (Or.inr rfl) (Nat.zero_le _) (Nat.zero_le _) ?_; refine sp_112_29 ?_; dsimp only [Option.toList_some, Option.toList_none, List.cons_append, List.nil_append]; refine ap_aload_n rfl ?_; refine ai_getI ow_120 rf_6_35 rfl rfl ?_; refine ap_aload_n rfl ?_; refine ai_getI ow_120 rf_6_39 rfl rfl ?_
    refine ai_icne rfl rfl (fun hb0 => ?_) (fun hb0 => ?_) ?_
    · exfalso; omega
    · refine ap_go kc_120_15 ?_
      refine ap_aload_n rfl ?_; refine ai_lconst 0 rfl ?_; refine ap_callv0 ow_120 rm_6_93 na_114 mc_114 ms_114 rfl rfl (Nat.le_of_ble_eq_true rfl) (Nat.le_of_ble_eq_true rfl) (Or.inr rfl) (Nat.zero_le _) (Nat.zero_le _) ?_; refine sp_114_29 ?_; dsimp only [Option.toList_some, Option.toList_none, List.cons_append, List.nil_append]; refine ai_iconst ?_; refine ai_zret rfl ?_ ?_
      · exact hK
      all_goals (first | omega | exact Or.inr rfl)
    all_goals (first | omega | exact Or.inr rfl)
  · have J48 : ∀ (F G : Nat → Nat → Int) (D0 : Nat), FrF (am_up (am_up f 29 3 0) 29 1 0) F → FrG (am_up g 29 2 0) G → FD (fun v => D (rhoZ f0 v)) (nN f0) (f0 31 18).toNat (G 16) → D (f0 31 18).toNat = some D0 → am_Wp (am_call (d + 4)) 120 Q 48 [some (.ref 14), some (.ref 29), some (.long (lZ (D0 : Int))), none] [] (53, sh_lt L, iH F, jH G, sh_rt sw) (0, 0) := by
      intro F G D0 hF hG hFD hD0
      have hC2 : CC f0 g0 F G := CC_fr hC1 (fun a ha => hF a (by omega) (by omega) (by omega)) (fun a ha => hG a (by omega))
      have hFK : FK f0 g0 D D0 G := ⟨hD, hFD, hD0, m18.1, h18⟩
      have hb0 := FK_0 hM hFK
      have h1 : F 29 1 = 0 := by rw [hF 29 (by decide) (by decide) (by decide), am_up_eq]; rfl
      refine ap_go kc_120_48 ?_
      refine ap_aload_n rfl ?_; refine ap_aload_n rfl ?_; refine ap_lload_n rfl ?_; refine ap_callv0 ow_120 rm_6_108 na_128 mc_128 ms_128 rfl rfl (Nat.le_of_ble_eq_true rfl) (Nat.le_of_ble_eq_true rfl) (Or.inr rfl) (Nat.zero_le _) (Nat.zero_le _) ?_; refine sp_128_29 (fun F2 G2 s h hF2 hF2w hG2 hn hbr hR => ?_) rfl hM hU hC2 hFK h1; dsimp only [Option.toList_some, Option.toList_none, List.cons_append, List.nil_append]; refine ap_aload_n rfl ?_; refine ap_lload_n rfl ?_; refine ai_ldc2 (4096) ow_120 kl_6_72 rfl ?_; refine ai_ldiv ?_ ?_; refine ap_callv0 ow_120 rm_6_93 na_114 mc_114 ms_114 rfl rfl (Nat.le_of_ble_eq_true rfl) (Nat.le_of_ble_eq_true rfl) (Or.inr rfl) (Nat.zero_le _) (Nat.zero_le _) ?_; refine sp_114_29 ?_; dsimp only [Option.toList_some, Option.toList_none, List.cons_append, List.nil_append]; refine ai_iconst ?_; refine ai_zret rfl ?_ ?_
      · exact K 1 _ _ ⟨fun a a1 a2 a3 a4 a5 => (am_up_ne a4).trans ((hF2 a a4 a5).trans ((hF a a1 a2 a3).trans ((am_up_ne a4).trans (am_up_ne a4)))), fun a a1 a2 a3 => (am_up_ne a3).trans ((hG2 a a2).trans ((hG a a1).trans (am_up_ne a3))), Or.inr ⟨rfl, D0, s, h, hD0, by rw [am_up_ne (by decide)]; exact hR, by rw [am_up_eq]; exact hn, by rw [am_up_eq]; rfl, by rw [am_up_eq]; dsimp only; rw [if_pos rfl]; omega, fun i hi => by rw [am_up_ne (by decide), hbr i hi, hF 30 (by decide) (by decide) (by decide), am_up_ne (by decide), am_up_ne (by decide)]⟩⟩
      all_goals (first | omega | exact Or.inr rfl)
    refine ap_go kc_120_0 ?_
    refine ap_aload_n rfl ?_; refine ap_callv0 ow_120 rm_6_88 na_112 mc_112 ms_112 rfl rfl (Nat.le_of_ble_eq_true rfl) (Nat.le_of_ble_eq_true rfl) (Or.inr rfl) (Nat.zero_le _) (Nat.zero_le _) ?_; refine sp_112_29 ?_; dsimp only [Option.toList_some, Option.toList_none, List.cons_append, List.nil_append]; refine ap_aload_n rfl ?_; refine ai_getI ow_120 rf_6_35 rfl rfl ?_; refine ap_aload_n rfl ?_; refine ai_getI ow_120 rf_6_39 rfl rfl ?_
    refine ai_icne rfl rfl (fun hb0 => ?_) (fun hb0 => ?_) ?_
    · refine ap_go kc_120_22 ?_
      refine ap_aload_n rfl ?_; refine ap_callv0 ow_120 rm_6_97 na_126 mc_126 ms_126 rfl rfl (Nat.le_of_ble_eq_true rfl) (Nat.le_of_ble_eq_true rfl) (Or.inr rfl) (Nat.zero_le _) (Nat.zero_le _) ?_; refine sp_126 (st := (f0 31 18).toNat) (fun F G hF hG hFD => ?_) hM hD hC1 (by omega) h18 hne; dsimp only [Option.toList_some, Option.toList_none, List.cons_append, List.nil_append]
      have e11 : F 14 11 = f0 31 18 := by (rw [hF 14 (by decide) (by decide) (by decide)]; exact hC1.1.1.2.2.2.2.2)
      refine ap_aload_n rfl ?_
      have hkr := hFD.1 _ hst; have ek : G 16 (F 14 11).toNat = G 16 (f0 31 18).toNat := by rw [e11]
      refine ap_getR ow_120 rf_6_12 rfl rfl rfl ?_; refine ap_aload_n rfl ?_; refine ap_callv0 ow_120 rm_6_100 na_124 mc_124 ms_124 rfl rfl (Nat.le_of_ble_eq_true rfl) (Nat.le_of_ble_eq_true rfl) (Or.inr rfl) (Nat.zero_le _) (Nat.zero_le _) ?_; refine sp_124 ?_; dsimp only [Option.toList_some, Option.toList_none, List.cons_append, List.nil_append]; refine ap_callv0 ow_120 rm_6_103 na_62 mc_62 ms_62 rfl rfl (Nat.le_of_ble_eq_true rfl) (Nat.le_of_ble_eq_true rfl) (Or.inr rfl) (Nat.zero_le _) (Nat.zero_le _) ?_; refine sp_62 ?_ (by omega); dsimp only [Option.toList_some, Option.toList_none, List.cons_append, List.nil_append]; refine ap_lstore_n rfl ?_; refine ap_lload_n rfl ?_; refine ai_ldc2 (2305843009213693951) ow_120 kl_6_106 rfl ?_
      refine ai_lclt rfl rfl (fun hb1 => ?_) (fun hb1 => ?_) ?_
      · rcases hFD.2 with ⟨y1, y2⟩ | ⟨D0, y1, y2, y3⟩; (exfalso; omega); rw [ek, y2]; exact am_weak (by first | exact am_le_0 | (repeat (first | exact am_le_0 | refine am_le_n ?_ | refine am_le_s ?_))) (J48 F G D0 hF hG hFD ((congrArg D (rho_st ⟨m18.1, h18⟩)).symm.trans y1))
      · refine ap_go kc_120_46 ?_
        refine ai_iconst ?_; refine ai_zret rfl ?_ ?_
        · rcases hFD.2 with ⟨y1, y2⟩ | ⟨D0, y1, y2, y3⟩; (exact K 0 F G ⟨fun a a1 a2 a3 a4 a5 => (hF a a1 a2 a3).trans ((am_up_ne a4).trans (am_up_ne a4)), fun a a1 a2 a3 => (hG a a1).trans (am_up_ne a3), Or.inl ⟨rfl, (congrArg D (rho_st ⟨m18.1, h18⟩)).symm.trans y1, by rw [hF 29 (by decide) (by decide) (by decide), am_up_eq]; rfl, by rw [hF 29 (by decide) (by decide) (by decide), am_up_eq, am_up_eq]; rfl, by rw [hF 30 (by decide) (by decide) (by decide), am_up_ne (by decide), am_up_ne (by decide)]⟩⟩); exfalso; have := (D_mod hM hD (v := (f0 31 18).toNat) (by omega) ((congrArg D (rho_st ⟨m18.1, h18⟩)).symm.trans y1)).2; omega
        all_goals (first | omega | exact Or.inl rfl)
      all_goals (first | omega | exact Or.inl rfl)
    · exfalso; omega
    all_goals (first | omega | exact Or.inl rfl)
theorem lp_121_29 {d L : Nat} {sw : Bool} {Q : Option Value → am_H → Prop} {f0 g0 f gb : Nat → Nat → Int} {n : Nat} {w : Nat → Int} (hw0 : w = fun i => aZ (f 30 i)) (hM : MOk f0 g0) (hC : CC f0 g0 f gb) (hn : f 29 1 = (n : Int)) (hn2 : n ≤ 2400) (hv : ∀ k, iR (f 30 k)) (hch : chO f0 w n) (K : ∀ G v, (∀ a, a ≠ 23 → G a = gb a) → TN f0 g0 w n v → Q (some (.long (lZ v))) (53, sh_lt L, iH f, jH G, sh_rt sw)) : ∀ (k i : Nat) (x y : Int) (g : Nat → Nat → Int), x = i → n = i + k → y = ((sP w i : Nat) : Int) → (∀ a, a ≠ 23 → g a = gb a) → tnO f0 g0 w i → HB f0 i (HW f0 g0 w i) → (∀ e, e < 21 → g 23 e = HW f0 g0 w i e) → am_Wp (am_call (d + 2)) 121 Q 8 [some (.ref 14), some (.ref 29), some (.int (iZ y)), some (.int (iZ x)), none] [] (53, sh_lt L, iH f, jH g, sh_rt sw) (0, 0) := by
  intro k
  have m5 := hM.1.2.1
  have h20 := toZ_in f0
  induction k with
  | zero =>
    intro i x y g hx hk hy hg ho hH hr
    subst hx
    have en : n = i := by omega
    subst en
    have hh : hOk (HW f0 g0 w n) := fun e => ⟨(hH.1 e).1, (hH.1 e).2.1⟩
    have l1 := ls_le (HW f0 g0 w n) 21
    have l0 : 0 ≤ lsZ (HW f0 g0 w n) 21 := by
      have key : ∀ v, 0 ≤ lsZ (HW f0 g0 w n) v := by
        intro v
        induction v with
        | zero => show (0 : Int) ≤ 2305843009213693951; decide
        | succ v ihv =>
          have := hh v
          simp only [lsZ]
          split <;> omega
      exact key 21
    by_cases hl : 2305843009213693951 ≤ lsZ (HW f0 g0 w n) 21
    · have hK := K g (-1) hg ⟨fun _ => by rw [if_pos hl], fun z => absurd ho z⟩
      refine ap_go kc_121_8 ?_
      refine ap_iload_n rfl ?_; refine ap_aload_n rfl ?_; refine ap_callv0 ow_121 rm_6_115 na_109 mc_109 ms_109 rfl rfl (Nat.le_of_ble_eq_true rfl) (Nat.le_of_ble_eq_true rfl) (Or.inr rfl) (Nat.zero_le _) (Nat.zero_le _) ?_; refine sp_109_29 ?_; dsimp only [Option.toList_some, Option.toList_none, List.cons_append, List.nil_append]
      refine ai_icge rfl rfl (fun hb0 => ?_) (fun hb0 => ?_) ?_
      · refine ap_go kc_121_64 ?_
        refine ap_aload_n rfl ?_; refine ap_callv0 ow_121 rm_6_134 na_134 mc_134 ms_134 rfl rfl (Nat.le_of_ble_eq_true rfl) (Nat.le_of_ble_eq_true rfl) (Or.inr rfl) (Nat.zero_le _) (Nat.zero_le _) ?_; refine sp_134 ?_ hh hr; dsimp only [Option.toList_some, Option.toList_none, List.cons_append, List.nil_append]; refine ap_lstore_n rfl ?_; refine ap_lload_n rfl ?_; refine ai_ldc2 (2305843009213693951) ow_121 kl_6_106 rfl ?_
        refine ai_lclt rfl rfl (fun hb1 => ?_) (fun hb1 => ?_) ?_
        · exfalso; omega
        · refine ap_go kc_121_77 ?_
          refine ai_ldc2 (-1) ow_121 kl_6_82 rfl ?_; refine ap_goto rfl ?_
          refine ap_go kc_121_88 ?_
          refine ap_lret rfl ?_
          exact hK
        all_goals (omega)
      · exfalso; omega
      all_goals (omega)
    · have hK := K g (lsZ (HW f0 g0 w n) 21 / 4096) hg ⟨fun _ => by rw [if_neg hl], fun z => absurd ho z⟩
      refine ap_go kc_121_8 ?_
      refine ap_iload_n rfl ?_; refine ap_aload_n rfl ?_; refine ap_callv0 ow_121 rm_6_115 na_109 mc_109 ms_109 rfl rfl (Nat.le_of_ble_eq_true rfl) (Nat.le_of_ble_eq_true rfl) (Or.inr rfl) (Nat.zero_le _) (Nat.zero_le _) ?_; refine sp_109_29 ?_; dsimp only [Option.toList_some, Option.toList_none, List.cons_append, List.nil_append]
      refine ai_icge rfl rfl (fun hb0 => ?_) (fun hb0 => ?_) ?_
      · refine ap_go kc_121_64 ?_
        refine ap_aload_n rfl ?_; refine ap_callv0 ow_121 rm_6_134 na_134 mc_134 ms_134 rfl rfl (Nat.le_of_ble_eq_true rfl) (Nat.le_of_ble_eq_true rfl) (Or.inr rfl) (Nat.zero_le _) (Nat.zero_le _) ?_; refine sp_134 ?_ hh hr; dsimp only [Option.toList_some, Option.toList_none, List.cons_append, List.nil_append]; refine ap_lstore_n rfl ?_; refine ap_lload_n rfl ?_; refine ai_ldc2 (2305843009213693951) ow_121 kl_6_106 rfl ?_
        refine ai_lclt rfl rfl (fun hb1 => ?_) (fun hb1 => ?_) ?_
        · refine ap_go kc_121_83 ?_
          refine ap_lload_n rfl ?_; refine ai_ldc2 (4096) ow_121 kl_6_72 rfl ?_; refine ai_ldiv ?_ ?_; refine ap_nil ?_
          · refine ap_go kc_121_88 ?_
            refine ap_lret rfl ?_
            exact hK
          all_goals (omega)
        · exfalso; omega
        all_goals (omega)
      · exfalso; omega
      all_goals (omega)
  | succ k ih =>
    intro i x y g hx hk hy hg ho hH hr
    subst hx
    subst hy
    obtain ⟨c1, c2, c3⟩ := hch i (by omega)
    obtain ⟨t, et⟩ : ∃ t : Nat, w i = (t : Int) := ⟨(w i).toNat, by omega⟩
    have et2 : (w i).toNat = t := by omega
    rw [et] at c1 c2
    have hs : ((sP w i : Nat) : Int) ≤ f0 31 5 := by
      cases i with
      | zero => exact m5.1
      | succ j =>
        have := hch j (by omega)
        show (((w j).toNat : Nat) : Int) ≤ f0 31 5
        omega
    have hC' : CC f0 g0 f g := CC_fr hC (fun _ _ => rfl) (fun a ha => hg a (by omega))
    have c111 : ∀ {Q : Option Value → am_H → Prop}, Q (some (.int (iZ (t : Int)))) (53, sh_lt L, iH f, jH g, sh_rt sw) → am_call (d + 2) 111 [.ref 29, .int (iZ (i : Int))] (53, sh_lt L, iH f, jH g, sh_rt sw) Q := fun K => sp_111_29 (by rw [if_pos (by omega)]; rw [hw0] at et; rw [show (if 0 ≤ f 30 ((i : Nat) : Int).toNat then f 30 ((i : Nat) : Int).toNat else -f 30 ((i : Nat) : Int).toNat) = (t : Int) from et]; exact K) (by omega) (by omega) hv
    by_cases hm : mfZ f0 g0 (sP w i) t
    · have hp := hm.2.1
      have hpr := prZ_in hM t
      have ew : wZ f0 g0 t = 4096 * prZ f0 g0 t + 1 := rfl
      have hpl := plZ_in hM (sP w i)
      have e7 : f 7 ((sP w i : Nat) : Int).toNat = plZ f0 (sP w i) := (hC'.1.2.2.1 _ hs).1
      have eu : g 21 (f 7 ((sP w i : Nat) : Int).toNat).toNat = uZ f0 g0 (plZ f0 (sP w i)).toNat := by rw [e7]; exact CC_u hC' hs
      have hu := uZ_in hM (plZ f0 (sP w i)).toNat
      have hh : hOk (HW f0 g0 w i) := fun e => ⟨(hH.1 e).1, (hH.1 e).2.1⟩
      have hhc := hOk_ch hu hh
      have hHC := HB_HC hM (plZ f0 (sP w i)).toNat hH
      have hHB := HC_HB (t := t) hM (by omega) hp hHC
      have eW : HW f0 g0 w (i + 1) = drZ (neZ f0 t).toNat (wZ f0 g0 t) (chZ (uZ f0 g0 (plZ f0 (sP w i)).toNat) (HW f0 g0 w i)) := by
        show drZ (neZ f0 (w i).toNat).toNat (wZ f0 g0 (w i).toNat) _ = _
        rw [et2]
      have hne := neZ_in hM t
      have e20 : f 20 t = (((neZ f0 t).toNat : Nat) : Int) := by rw [(hC'.2.1 t (by omega) c2).2]; omega
      have hw := CC_w hC' (t := t) (by omega) c2
      have ho2 : tnO f0 g0 w (i + 1) := fun j hj => by
        by_cases z : j = i
        · subst z; rw [et2]; exact hm
        · exact ho j (by omega)
      refine ap_go kc_121_8 ?_
      refine ap_iload_n rfl ?_; refine ap_aload_n rfl ?_; refine ap_callv0 ow_121 rm_6_115 na_109 mc_109 ms_109 rfl rfl (Nat.le_of_ble_eq_true rfl) (Nat.le_of_ble_eq_true rfl) (Or.inr rfl) (Nat.zero_le _) (Nat.zero_le _) ?_; refine sp_109_29 ?_; dsimp only [Option.toList_some, Option.toList_none, List.cons_append, List.nil_append]
      refine ai_icge rfl rfl (fun hb0 => ?_) (fun hb0 => ?_) ?_
      · exfalso; omega
      · refine ap_go kc_121_16 ?_
        refine ap_aload_n rfl ?_; refine ap_iload_n rfl ?_; refine ap_callv0 ow_121 rm_6_118 na_111 mc_111 ms_111 rfl rfl (Nat.le_of_ble_eq_true rfl) (Nat.le_of_ble_eq_true rfl) (Or.inr rfl) (Nat.zero_le _) (Nat.zero_le _) ?_; refine c111 ?_; dsimp only [Option.toList_some, Option.toList_none, List.cons_append, List.nil_append]; refine ap_istore rfl ?_; refine ap_aload_n rfl ?_; refine ap_iload_n rfl ?_; refine ap_iload rfl ?_; refine ap_callv0 ow_121 rm_6_121 na_125 mc_125 ms_125 rfl rfl (Nat.le_of_ble_eq_true rfl) (Nat.le_of_ble_eq_true rfl) (Or.inr rfl) (Nat.zero_le _) (Nat.zero_le _) ?_; refine sp_125t (s := sP w i) (t := t) ?_ hm hM hC' rfl rfl hs (by omega) c2; dsimp only [Option.toList_some, Option.toList_none, List.cons_append, List.nil_append]
        refine ai_ifne rfl rfl (fun hb1 => ?_) (fun hb1 => ?_) ?_
        · refine ap_go kc_121_37 ?_
          refine ap_aload_n rfl ?_; refine ap_aload_n rfl ?_; refine ap_getR ow_121 rf_6_52 rfl rfl rfl ?_; refine ap_iload_n rfl ?_; refine ap_callv0 ow_121 rm_6_125 na_99 mc_99 ms_99 rfl rfl (Nat.le_of_ble_eq_true rfl) (Nat.le_of_ble_eq_true rfl) (Or.inr rfl) (Nat.zero_le _) (Nat.zero_le _) ?_; refine sp_99 ?_ ?_; dsimp only [Option.toList_some, Option.toList_none, List.cons_append, List.nil_append]; refine ap_callv0 ow_121 rm_6_128 na_132 mc_132 ms_132 rfl rfl (Nat.le_of_ble_eq_true rfl) (Nat.le_of_ble_eq_true rfl) (Or.inr rfl) (Nat.zero_le _) (Nat.zero_le _) ?_; refine sp_132 (h := HW f0 g0 w i) (fun G hG hGr => ?_) (by omega) (by rw [eu]; exact hu) hh hr; dsimp only [Option.toList_some, Option.toList_none, List.cons_append, List.nil_append]
          have ew3 : G 19 t = wZ f0 g0 t := by (rw [hG 19 (by decide)]; omega)
          refine ap_aload_n rfl ?_; refine ap_iload rfl ?_; refine ap_callv0 ow_121 rm_6_131 na_133 mc_133 ms_133 rfl rfl (Nat.le_of_ble_eq_true rfl) (Nat.le_of_ble_eq_true rfl) (Or.inr rfl) (Nat.zero_le _) (Nat.zero_le _) ?_; refine sp_133 (h := chZ (uZ f0 g0 (plZ f0 (sP w i)).toNat) (HW f0 g0 w i)) (t := t) (n := (neZ f0 t).toNat) (fun G2 hG2 hr2 => ?_) rfl (by omega) e20 (by omega) (by rw [ew3]; omega) hhc (by rw [eu] at hGr; exact hGr); dsimp only [Option.toList_some, Option.toList_none, List.cons_append, List.nil_append]; refine ap_iload rfl ?_; refine ap_istore_n rfl ?_; refine ai_iinc rfl rfl ?_; refine ap_goto rfl ?_
          · exact am_weak (by first | exact am_le_0 | (repeat (first | exact am_le_0 | refine am_le_n ?_ | refine am_le_s ?_))) (ih (i + 1) ((i : Int) + 1) _ G2 rfl (by omega) (by show (t : Int) = (((w i).toNat : Nat) : Int); rw [et2]) (fun a ha => ((hG2 a ha).trans (hG a ha)).trans (hg a ha)) ho2 (by rw [eW]; exact hHB) (fun e he => by rw [hr2 e he, eW, ew3]))
          all_goals (omega)
        · exfalso; omega
        all_goals (omega)
      all_goals (omega)
    · have hK := K g (-1) hg ⟨fun z => absurd (by have := z i (by omega); rw [et2] at this; exact this) hm, fun _ => rfl⟩
      refine ap_go kc_121_8 ?_
      refine ap_iload_n rfl ?_; refine ap_aload_n rfl ?_; refine ap_callv0 ow_121 rm_6_115 na_109 mc_109 ms_109 rfl rfl (Nat.le_of_ble_eq_true rfl) (Nat.le_of_ble_eq_true rfl) (Or.inr rfl) (Nat.zero_le _) (Nat.zero_le _) ?_; refine sp_109_29 ?_; dsimp only [Option.toList_some, Option.toList_none, List.cons_append, List.nil_append]
      refine ai_icge rfl rfl (fun hb0 => ?_) (fun hb0 => ?_) ?_
      · exfalso; omega
      · refine ap_go kc_121_16 ?_
        refine ap_aload_n rfl ?_; refine ap_iload_n rfl ?_; refine ap_callv0 ow_121 rm_6_118 na_111 mc_111 ms_111 rfl rfl (Nat.le_of_ble_eq_true rfl) (Nat.le_of_ble_eq_true rfl) (Or.inr rfl) (Nat.zero_le _) (Nat.zero_le _) ?_; refine c111 ?_; dsimp only [Option.toList_some, Option.toList_none, List.cons_append, List.nil_append]; refine ap_istore rfl ?_; refine ap_aload_n rfl ?_; refine ap_iload_n rfl ?_; refine ap_iload rfl ?_; refine ap_callv0 ow_121 rm_6_121 na_125 mc_125 ms_125 rfl rfl (Nat.le_of_ble_eq_true rfl) (Nat.le_of_ble_eq_true rfl) (Or.inr rfl) (Nat.zero_le _) (Nat.zero_le _) ?_; refine sp_125n (s := sP w i) (t := t) ?_ hm hM hC' rfl rfl hs (by omega) c2; dsimp only [Option.toList_some, Option.toList_none, List.cons_append, List.nil_append]
        refine ai_ifne rfl rfl (fun hb1 => ?_) (fun hb1 => ?_) ?_
        · exfalso; omega
        · refine ap_go kc_121_33 ?_
          refine ai_ldc2 (-1) ow_121 kl_6_82 rfl ?_; refine ap_lret rfl ?_
          exact hK
        all_goals (omega)
      all_goals (omega)
theorem sp_121_29 {d L : Nat} {sw : Bool} {f g : Nat → Nat → Int} {Q : Option Value → am_H → Prop} {f0 g0 : Nat → Nat → Int} {n : Nat} {w : Nat → Int} (K : ∀ G v, (∀ a, a ≠ 23 → G a = g a) → TN f0 g0 w n v → Q (some (.long (lZ v))) (53, sh_lt L, iH f, jH G, sh_rt sw)) (hw0 : w = fun i => aZ (f 30 i)) (hM : MOk f0 g0) (hC : CC f0 g0 f g) (hn : f 29 1 = (n : Int)) (hn2 : n ≤ 2400) (hv : ∀ k, iR (f 30 k)) (hch : chO f0 w n) (h18 : f0 31 18 ≤ toZ f0) : am_call (d + 3) 121 [.ref 14, .ref 29] (53, sh_lt L, iH f, jH g, sh_rt sw) Q := by
  have h20 := toZ_in f0
  have m18 := hM.1.2.2.2.2.2
  refine ap_call (by decide) (Nat.le_of_ble_eq_true rfl) rfl ?_
  refine ap_go kc_121_0 ?_
  refine ap_aload_n rfl ?_; refine ap_callv0 ow_121 rm_6_112 na_131 mc_131 ms_131 rfl rfl (Nat.le_of_ble_eq_true rfl) (Nat.le_of_ble_eq_true rfl) (Or.inr rfl) (Nat.zero_le _) (Nat.zero_le _) ?_; refine sp_131 (f0 := f0) (fun G hG hGr => ?_) hC.1.1.2.2.2.2.2 (by omega); dsimp only [Option.toList_some, Option.toList_none, List.cons_append, List.nil_append]; refine ai_iconst ?_; refine ap_istore_n rfl ?_; refine ai_iconst ?_; refine ap_istore_n rfl ?_; refine ap_nil ?_
  exact am_weak (by first | exact am_le_0 | (repeat (first | exact am_le_0 | refine am_le_n ?_ | refine am_le_s ?_))) (lp_121_29 hw0 hM hC hn hn2 hv hch K n 0 0 0 G rfl (by omega) rfl hG (fun j hj => absurd hj (Nat.not_lt_zero j)) (HB_st hM h18) hGr)
