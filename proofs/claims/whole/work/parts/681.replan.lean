/-! THE REFERENCE: replan() -/
/-- the way is kept: it costs v now, and the new one is the same or gains too little -/
def kpZ (f0 g0 : Nat → Nat → Int) (w : Nat → Int) (n : Nat) (c gn : Int) (D0 : Nat) (r : Nat → Int) : Prop := ∃ v, ((c < 0 ∧ v = -1) ∨ (0 ≤ c ∧ TN f0 g0 w n v)) ∧ 0 ≤ v ∧ ((n = D0 % 4096 ∧ ∀ i, i < n → w i = r i) ∨ v - ((D0 / 4096 : Nat) : Int) < gn)
theorem kp_iff {f0 g0 : Nat → Nat → Int} {w : Nat → Int} {n : Nat} {c gn : Int} {D0 : Nat} {r : Nat → Int} {v : Int} (h : (c < 0 ∧ v = -1) ∨ (0 ≤ c ∧ TN f0 g0 w n v)) : kpZ f0 g0 w n c gn D0 r ↔ 0 ≤ v ∧ ((n = D0 % 4096 ∧ ∀ i, i < n → w i = r i) ∨ v - ((D0 / 4096 : Nat) : Int) < gn) := by
  constructor
  · rintro ⟨v', h1, h2⟩
    have e : v' = v := by
      rcases h with ⟨a1, a2⟩ | ⟨a1, a2⟩ <;> rcases h1 with ⟨b1, b2⟩ | ⟨b1, b2⟩
      · rw [a2, b2]
      · omega
      · omega
      · exact TN_uniq b2 a2
    rw [e] at h2
    exact h2
  · exact fun q => ⟨v, h, q⟩
theorem HW_HB {f g : Nat → Nat → Int} {w : Nat → Int} (hM : MOk f g) (h18 : f 31 18 ≤ toZ f) : ∀ i, i ≤ 4096 → tnO f g w i → HB f i (HW f g w i)
  | 0, _, _ => HB_st hM h18
  | i + 1, hi, ho => HC_HB (t := (w i).toNat) hM (by omega) (ho i (Nat.lt_succ_self i)).2.1 (HB_HC hM _ (HW_HB hM h18 i (by omega) (fun j hj => ho j (by omega))))
theorem ls_0 {h : Nat → Int} (hh : ∀ e, 0 ≤ h e) : ∀ k, 0 ≤ lsZ h k
  | 0 => by show (0 : Int) ≤ 2305843009213693951; decide
  | k + 1 => by
    have := ls_0 hh k
    have := hh k
    simp only [lsZ]
    split <;> omega
theorem TN_in {f g : Nat → Nat → Int} {w : Nat → Int} {n : Nat} {v : Int} (hM : MOk f g) (h18 : f 31 18 ≤ toZ f) (hn : n ≤ 4096) (h : TN f g w n v) : -1 ≤ v ∧ v ≤ 562949953421312 := by
  by_cases z : tnO f g w n
  · have h1 := h.1 z
    have h2 := HW_HB hM h18 n hn z
    have h3 := ls_0 (h := HW f g w n) (fun e => (h2.1 e).1) 21
    have h4 := ls_le (HW f g w n) 21
    split at h1 <;> omega
  · have := h.2 z
    omega
/-- what replan() may change of the reference -/
def PQ (f g F G : Nat → Nat → Int) : Prop := (∀ a, a ≠ 31 → a ≠ 44 → a ≠ 45 → a ≠ 46 → a ≠ 47 → a ≠ 48 → a ≠ 49 → F a = f a) ∧ (∀ j, j ≠ 23 → j ≠ 27 → j ≠ 30 → F 31 j = f 31 j) ∧ (∀ a, a ≠ 31 → a ≠ 43 → a ≠ 50 → G a = g a) ∧ (∀ j, j ≠ 14 → j ≠ 25 → j ≠ 29 → G 31 j = g 31 j) ∧ G 31 14 = g 31 14 + 1
def wyS (f g F G : Nat → Nat → Int) : Prop := F 47 = f 47 ∧ F 48 = f 48 ∧ F 31 23 = f 31 23 ∧ G 31 25 = g 31 25
/-- what replan() answers -/
def QR (f g : Nat → Nat → Int) (D : Nat → Option Nat) (a0 n : Nat) (gn x : Int) (F G : Nat → Nat → Int) : Prop := PQ f g F G ∧
  ((x = 0 ∧ D a0 = none ∧ wyS f g F G ∧ ∃ l : Nat, F 31 30 = (l : Int) ∧ (f 31 17 = 2 → nsL (okZ f (am_up g 31 14 (g 31 14 + 1)) a0) (frZ f g) (f 31 1).toNat l) ∧ (f 31 17 ≠ 2 → l = 0)) ∨
   (∃ (D0 s : Nat) (h r : Nat → Int), D a0 = some D0 ∧ Rw f (am_up g 31 14 (g 31 14 + 1)) D D0 r (D0 % 4096) s h ∧ plZ f s = f 31 16 ∧ F 31 30 = 0 ∧
     ((x = 0 ∧ kpZ f (am_up g 31 14 (g 31 14 + 1)) (f 47) n (g 31 25) gn D0 r ∧ wyS f g F G) ∨
      (x = 1 ∧ ¬ kpZ f (am_up g 31 14 (g 31 14 + 1)) (f 47) n (g 31 25) gn D0 r ∧ F 31 23 = ((D0 % 4096 : Nat) : Int) ∧ (∀ i, i < D0 % 4096 → F 47 i = r i) ∧ (∀ v, v < 2600 → F 48 v = 0) ∧ G 31 25 = ((D0 / 4096 : Nat) : Int)))))
theorem lp_49 {d L : Nat} {sw : Bool} {Q : Option Value → am_H → Prop} {f g : Nat → Nat → Int} {n m : Nat} {gn v : Int} (hn : f 31 23 = (n : Int)) (hn2 : n ≤ 2600) (h47 : ∀ i, i < n → iR (f 47 i)) (h49 : ∀ i, i < m → iR (f 49 i)) (K : ∀ x : Int, bI x (n = m ∧ ∀ i, i < n → f 47 i = f 49 i) → am_Wp (am_call (d + 4)) 49 Q 118 [some (.ref 31), some (.long (lZ gn)), none, some (.long (lZ v)), none, some (.int (iZ x)), none] [] (53, sh_lt L, iH f, jH g, sh_rt sw) (0, 0)) : ∀ (k i : Nat) (y x : Int), y = i → n = i + k → bI x (n = m ∧ ∀ j, j < i → f 47 j = f 49 j) → am_Wp (am_call (d + 4)) 49 Q 74 [some (.ref 31), some (.long (lZ gn)), none, some (.long (lZ v)), none, some (.int (iZ x)), some (.int (iZ y))] [] (53, sh_lt L, iH f, jH g, sh_rt sw) (0, 0) := by
  intro k
  induction k with
  | zero =>
    intro i y x hy hk hx
    subst hy
    have hKK := K x (by rw [Nat.add_zero] at hk; rw [hk] at hx ⊢; exact hx)
    have hx1 := hx.1
    refine ap_go kc_49_74 ?_
    refine ap_iload rfl ?_; refine ap_aload_n rfl ?_; refine ai_getI ow_49 rf_8_173 rfl rfl ?_
    refine ai_icge rfl rfl (fun hb0 => ?_) (fun hb0 => ?_) ?_
    · exact am_weak (by first | exact am_le_0 | (repeat (first | exact am_le_0 | refine am_le_n ?_ | refine am_le_s ?_))) hKK
    · exfalso; omega
    all_goals (omega)
  | succ k ih =>
    intro i y x hy hk hx
    subst hy
    have hx1 := hx.1
    have e47 : f 47 ((i : Nat) : Int).toNat = f 47 i := rfl
    have e49 : f 49 ((i : Nat) : Int).toNat = f 49 i := rfl
    have r47 := h47 i (by omega)
    by_cases hs : n = m ∧ ∀ j, j < i → f 47 j = f 49 j
    · have x1 := hx.2.mpr hs
      have r49 := h49 i (by omega)
      by_cases he : f 47 i = f 49 i
      · have JJ := ih (i + 1) ((i : Int) + 1) 1 rfl (by omega) ⟨Or.inr rfl, fun _ => ⟨hs.1, fun j hj => by
          by_cases z : j = i
          · rw [z]; exact he
          · exact hs.2 j (by omega)⟩, fun _ => rfl⟩
        refine ap_go kc_49_74 ?_
        refine ap_iload rfl ?_; refine ap_aload_n rfl ?_; refine ai_getI ow_49 rf_8_173 rfl rfl ?_
        refine ai_icge rfl rfl (fun hb0 => ?_) (fun hb0 => ?_) ?_
        · exfalso; omega
        · refine ap_go kc_49_83 ?_
          refine ap_iload rfl ?_
          refine ai_ifeq rfl rfl (fun hb1 => ?_) (fun hb1 => ?_) ?_
          · exfalso; omega
          · refine ap_go kc_49_88 ?_
            refine ap_aload_n rfl ?_; refine ap_getR ow_49 rf_8_61 rfl rfl rfl ?_; refine ap_iload rfl ?_; refine ai_iaload (n := 2600) rfl rfl (by decide) ?_ ?_; refine ap_aload_n rfl ?_; refine ap_getR ow_49 rf_8_73 rfl rfl rfl ?_; refine ap_iload rfl ?_; refine ai_iaload (n := 2600) rfl rfl (by decide) ?_ ?_
            refine ai_icne rfl rfl (fun hb2 => ?_) (fun hb2 => ?_) ?_
            · exfalso; omega
            · refine ap_go kc_49_105 ?_
              refine ai_iconst ?_; refine ap_goto rfl ?_
              refine ap_go kc_49_110 ?_
              refine ap_istore rfl ?_; refine ai_iinc rfl rfl ?_; refine ap_goto rfl ?_
              exact am_weak (by first | exact am_le_0 | (repeat (first | exact am_le_0 | refine am_le_n ?_ | refine am_le_s ?_))) JJ
            all_goals (omega)
          all_goals (omega)
        all_goals (omega)
      · have JJ := ih (i + 1) ((i : Int) + 1) 0 rfl (by omega) ⟨Or.inl rfl, fun z => absurd z (by decide), fun q => absurd (q.2 i (by omega)) he⟩
        refine ap_go kc_49_74 ?_
        refine ap_iload rfl ?_; refine ap_aload_n rfl ?_; refine ai_getI ow_49 rf_8_173 rfl rfl ?_
        refine ai_icge rfl rfl (fun hb0 => ?_) (fun hb0 => ?_) ?_
        · exfalso; omega
        · refine ap_go kc_49_83 ?_
          refine ap_iload rfl ?_
          refine ai_ifeq rfl rfl (fun hb1 => ?_) (fun hb1 => ?_) ?_
          · exfalso; omega
          · refine ap_go kc_49_88 ?_
            refine ap_aload_n rfl ?_; refine ap_getR ow_49 rf_8_61 rfl rfl rfl ?_; refine ap_iload rfl ?_; refine ai_iaload (n := 2600) rfl rfl (by decide) ?_ ?_; refine ap_aload_n rfl ?_; refine ap_getR ow_49 rf_8_73 rfl rfl rfl ?_; refine ap_iload rfl ?_; refine ai_iaload (n := 2600) rfl rfl (by decide) ?_ ?_
            refine ai_icne rfl rfl (fun hb2 => ?_) (fun hb2 => ?_) ?_
            · refine ap_go kc_49_109 ?_
              refine ai_iconst ?_; refine ap_nil ?_
              refine ap_go kc_49_110 ?_
              refine ap_istore rfl ?_; refine ai_iinc rfl rfl ?_; refine ap_goto rfl ?_
              exact am_weak (by first | exact am_le_0 | (repeat (first | exact am_le_0 | refine am_le_n ?_ | refine am_le_s ?_))) JJ
            · exfalso; omega
            all_goals (omega)
          all_goals (omega)
        all_goals (omega)
    · have x0 : x = 0 := hx1.resolve_right (fun q => hs (hx.2.mp q))
      have hKK := K x ⟨hx1, fun q => by omega, fun q => absurd ⟨q.1, fun j hj => q.2 j (by omega)⟩ hs⟩
      refine ap_go kc_49_74 ?_
      refine ap_iload rfl ?_; refine ap_aload_n rfl ?_; refine ai_getI ow_49 rf_8_173 rfl rfl ?_
      refine ai_icge rfl rfl (fun hb0 => ?_) (fun hb0 => ?_) ?_
      · first | (exfalso; omega) | exact am_weak (by first | exact am_le_0 | (repeat (first | exact am_le_0 | refine am_le_n ?_ | refine am_le_s ?_))) hKK
      · refine ap_go kc_49_83 ?_
        refine ap_iload rfl ?_
        refine ai_ifeq rfl rfl (fun hb1 => ?_) (fun hb1 => ?_) ?_
        · first | (exfalso; omega) | exact am_weak (by first | exact am_le_0 | (repeat (first | exact am_le_0 | refine am_le_n ?_ | refine am_le_s ?_))) hKK
        · exfalso; omega
        all_goals (omega)
      all_goals (omega)
theorem sp_49 {d L : Nat} {sw : Bool} {f g : Nat → Nat → Int} {Q : Option Value → am_H → Prop} {gn : Int} {f5 : Nat → Nat → Int} {D : Nat → Option Nat} {a0 n : Nat} (hf5 : f5 = am_up f 31 0 0) (hD : mg_D (mE f5 (am_up g 31 14 (g 31 14 + 1))) (mT f5) D)
    (K1 : gn < 0 → Q (some (.int (iZ (-2)))) (53, sh_lt L, iH f5, jH g, sh_rt sw)) (K2 : 0 ≤ gn ∧ f 31 17 < 0 → Q (some (.int (iZ (-3)))) (53, sh_lt L, iH f5, jH g, sh_rt sw))
    (K : 0 ≤ gn ∧ 0 ≤ f 31 17 → ∀ x F G, QR f5 g D a0 n gn x F G → Q (some (.int (iZ x))) (53, sh_lt L, iH F, jH G, sh_rt sw))
    (hr : lR gn ∧ iR (f 31 17)) (hM : 0 ≤ f 31 17 → MOk f5 (am_up g 31 14 (g 31 14 + 1))) (hX : XOk g) (ha : 0 ≤ f 31 17 → f 31 18 = (a0 : Int) ∧ f 31 18 ≤ toZ f5) (hn : f 31 23 = (n : Int)) (hn2 : n ≤ 2600) (hv : 0 ≤ f 31 17 → chO f5 (f 47) n) (hc : lR (g 31 25)) : am_call (d + 5) 49 [.ref 31, .long (lZ gn)] (53, sh_lt L, iH f, jH g, sh_rt sw) Q := by
  have e17 : f5 31 17 = f 31 17 := by rw [hf5]; rfl
  have e18 : f5 31 18 = f 31 18 := by rw [hf5]; rfl
  have e23 : f5 31 23 = f 31 23 := by rw [hf5]; rfl
  have e47 : f5 47 = f 47 := by rw [hf5]; exact am_up_ne (by decide)
  refine ap_call (by decide) (Nat.le_of_ble_eq_true rfl) rfl ?_
  have J33 : 0 ≤ gn ∧ 0 ≤ f 31 17 → ∀ F G (D0 s : Nat) (h : Nat → Int), FW f5 g F G → D a0 = some D0 → F 31 27 = ((D0 % 4096 : Nat) : Int) → Rw f5 (am_up g 31 14 (g 31 14 + 1)) D D0 (F 49) (D0 % 4096) s h → plZ f5 s = f5 31 16 → G 31 29 = ((D0 / 4096 : Nat) : Int) → F 31 30 = 0 → am_Wp (am_call (d + 4)) 49 Q 33 [some (.ref 31), some (.long (lZ gn)), none, none, none, none, none] [] (53, sh_lt L, iH F, jH G, sh_rt sw) (0, 0) := by
    intro hok F G D0 s h hW hD0 h27 hR hpl h29 h30
    have hM' := hM hok.2
    have m5 := hM'.1.2.1
    have m18 := hM'.1.2.2.2.2.2
    have ha' := ha hok.2
    have h20 := toZ_in f5
    have hch := hv hok.2
    obtain ⟨w1, w2, w3, w4, w5⟩ := hW
    have hDm := D_mod hM' hD (v := a0) (by omega) hD0
    have f23 : F 31 23 = (n : Int) := by rw [w2 23 (by decide) (by decide), e23]; exact hn
    have f47 : F 47 = f 47 := by rw [w1 47 (by decide) (by decide) (by decide) (by decide) (by decide)]; exact e47
    have g25 : G 31 25 = g 31 25 := w4 25 (by decide) (by decide)
    have hRc := (Rw_ch _ s h hR).2
    have r47 : ∀ i, i < n → iR (F 47 i) := fun i hi => by have := hch i hi; rw [f47]; omega
    have r49 : ∀ i, i < D0 % 4096 → iR (F 49 i) := fun i hi => by have := hRc i hi; omega
    have f48 : F 48 = f5 48 := w1 48 (by decide) (by decide) (by decide) (by decide) (by decide)
    have J118 : ∀ (v : Int) (G2 : Nat → Nat → Int) (x : Int), (∀ a, a ≠ 50 → G2 a = G a) → ((g 31 25 < 0 ∧ v = -1) ∨ (0 ≤ g 31 25 ∧ TN f5 (am_up g 31 14 (g 31 14 + 1)) (f5 47) n v)) → (-1 ≤ v ∧ v ≤ 562949953421312) → bI x (n = D0 % 4096 ∧ ∀ i, i < n → F 47 i = F 49 i) → am_Wp (am_call (d + 4)) 49 Q 118 [some (.ref 31), some (.long (lZ gn)), none, some (.long (lZ v)), none, some (.int (iZ x)), none] [] (53, sh_lt L, iH F, jH G2, sh_rt sw) (0, 0) := by
      intro v G2 x hG2 hv2 hvr hx
      have hkp := kp_iff (gn := gn) (D0 := D0) (r := F 49) hv2
      rw [e47, ← f47] at hkp
      have hx1 := hx.1
      have hsame := hx.2
      have g29 : G2 31 29 = ((D0 / 4096 : Nat) : Int) := by rw [hG2 31 (by decide)]; exact h29
      have hPQ : PQ f5 g F G2 := ⟨fun a a1 a2 a3 a4 a5 a6 a7 => w1 a a1 a2 a3 a4 a7, fun j j1 j2 j3 => w2 j j2 j3, fun a a1 a2 a3 => (hG2 a a3).trans (w3 a a1 a2), fun j j1 j2 j3 => by rw [hG2 31 (by decide)]; exact w4 j j1 j3, by rw [hG2 31 (by decide)]; exact w5⟩
      have hK0 : kpZ f5 (am_up g 31 14 (g 31 14 + 1)) (F 47) n (g 31 25) gn D0 (F 49) → Q (some (.int (iZ 0))) (53, sh_lt L, iH F, jH G2, sh_rt sw) := fun q => K hok 0 F G2 ⟨hPQ, Or.inr ⟨D0, s, h, F 49, hD0, hR, hpl, h30, Or.inl ⟨rfl, by rw [e47, ← f47]; exact q, f47.trans e47.symm, f48, by rw [f23, e23]; exact hn.symm, by rw [hG2 31 (by decide)]; exact g25⟩⟩⟩
      have J142 : ¬ kpZ f5 (am_up g 31 14 (g 31 14 + 1)) (F 47) n (g 31 25) gn D0 (F 49) → am_Wp (am_call (d + 4)) 49 Q 142 [some (.ref 31), some (.long (lZ gn)), none, none, none, none, none] [] (53, sh_lt L, iH F, jH G2, sh_rt sw) (0, 0) := by
        intro q
        refine ap_go kc_49_142 ?_
        refine ap_aload_n rfl ?_; refine ap_callv0 ow_49 rm_8_182 na_46 mc_46 ms_46 rfl rfl (Nat.le_of_ble_eq_true rfl) (Nat.le_of_ble_eq_true rfl) (Or.inr rfl) (Nat.zero_le _) (Nat.zero_le _) ?_; refine sp_46 (n := D0 % 4096) (fun F2 q1 q2 q3 q4 q5 => ?_) h27 (by omega); dsimp only [Option.toList_some, Option.toList_none, List.cons_append, List.nil_append]; refine ai_iconst ?_; refine ap_iret rfl ?_
        exact K hok 1 F2 _ ⟨⟨fun a a1 a2 a3 a4 a5 a6 a7 => (q1 a a1 a5 a6).trans (w1 a a1 a2 a3 a4 a7), fun j j1 j2 j3 => (q2 j j1).trans (w2 j j2 j3), fun a a1 a2 a3 => (am_up_ne a1).trans ((hG2 a a3).trans (w3 a a1 a2)), fun j j1 j2 j3 => by rw [am_up_eq]; dsimp only; rw [if_neg j2, hG2 31 (by decide)]; exact w4 j j1 j3, by rw [am_up_eq]; dsimp only; rw [if_neg (by decide), hG2 31 (by decide)]; exact w5⟩, Or.inr ⟨D0, s, h, F 49, hD0, hR, hpl, (q2 30 (by decide)).trans h30, Or.inr ⟨rfl, by rw [e47, ← f47]; exact q, q3, q4, q5, by rw [am_up_eq]; dsimp only; rw [if_pos rfl]; exact g29⟩⟩⟩
      by_cases hs : n = D0 % 4096 ∧ ∀ i, i < n → F 47 i = F 49 i
      · have x1 := hsame.mpr hs
        have k0 : 0 ≤ v → Q (some (.int (iZ 0))) (53, sh_lt L, iH F, jH G2, sh_rt sw) := fun q => hK0 (hkp.mpr ⟨q, Or.inl hs⟩)
        have k1 : v < 0 → am_Wp (am_call (d + 4)) 49 Q 142 [some (.ref 31), some (.long (lZ gn)), none, none, none, none, none] [] (53, sh_lt L, iH F, jH G2, sh_rt sw) (0, 0) := fun q => J142 (fun z => by have := (hkp.mp z).1; omega)
        clear hkp hsame hx
        refine ap_go kc_49_118 ?_
        refine ap_lload_n rfl ?_; refine ai_lconst 0 rfl ?_
        refine ai_lclt rfl rfl (fun hb0 => ?_) (fun hb0 => ?_) ?_
        · exact am_weak (by first | exact am_le_0 | (repeat (first | exact am_le_0 | refine am_le_n ?_ | refine am_le_s ?_))) (k1 (by omega))
        · refine ap_go kc_49_124 ?_
          refine ap_iload rfl ?_
          refine ai_ifne rfl rfl (fun hb1 => ?_) (fun hb1 => ?_) ?_
          · refine ap_go kc_49_140 ?_
            refine ai_iconst ?_; refine ap_iret rfl ?_
            exact k0 (by omega)
          · exfalso; omega
          all_goals (omega)
        all_goals (omega)
      · have x0 : x = 0 := hx1.resolve_right (fun q => hs (hsame.mp q))
        have k0 : 0 ≤ v → v - ((D0 / 4096 : Nat) : Int) < gn → Q (some (.int (iZ 0))) (53, sh_lt L, iH F, jH G2, sh_rt sw) := fun q q2 => hK0 (hkp.mpr ⟨q, Or.inr q2⟩)
        have k1 : (v < 0 ∨ ¬ v - ((D0 / 4096 : Nat) : Int) < gn) → am_Wp (am_call (d + 4)) 49 Q 142 [some (.ref 31), some (.long (lZ gn)), none, none, none, none, none] [] (53, sh_lt L, iH F, jH G2, sh_rt sw) (0, 0) := fun q => J142 (fun z => by
          have z1 := hkp.mp z
          rcases z1.2 with y | y
          · exact hs y
          · have := z1.1; omega)
        clear hkp hsame hx
        refine ap_go kc_49_118 ?_
        refine ap_lload_n rfl ?_; refine ai_lconst 0 rfl ?_
        refine ai_lclt rfl rfl (fun hb0 => ?_) (fun hb0 => ?_) ?_
        · exact am_weak (by first | exact am_le_0 | (repeat (first | exact am_le_0 | refine am_le_n ?_ | refine am_le_s ?_))) (k1 (by omega))
        · refine ap_go kc_49_124 ?_
          refine ap_iload rfl ?_
          refine ai_ifne rfl rfl (fun hb1 => ?_) (fun hb1 => ?_) ?_
          · refine ap_go kc_49_140 ?_
            refine ai_iconst ?_; refine ap_iret rfl ?_
            first | exact k0 (by omega) (by omega) | (exfalso; omega)
          · refine ap_go kc_49_129 ?_
            refine ap_lload_n rfl ?_; refine ap_aload_n rfl ?_; refine ai_getJ ow_49 rf_8_161 rfl rfl ?_; refine ai_lsub ?_; refine ap_lload_n rfl ?_
            refine ai_lcge rfl rfl (fun hb2 => ?_) (fun hb2 => ?_) ?_
            · exact am_weak (by first | exact am_le_0 | (repeat (first | exact am_le_0 | refine am_le_n ?_ | refine am_le_s ?_))) (k1 (by omega))
            · refine ap_go kc_49_140 ?_
              refine ai_iconst ?_; refine ap_iret rfl ?_
              first | exact k0 (by omega) (by omega) | (exfalso; omega)
            all_goals (omega)
          all_goals (omega)
        all_goals (omega)
    have J52 : ∀ (v : Int) (G2 : Nat → Nat → Int), (∀ a, a ≠ 50 → G2 a = G a) → ((g 31 25 < 0 ∧ v = -1) ∨ (0 ≤ g 31 25 ∧ TN f5 (am_up g 31 14 (g 31 14 + 1)) (f5 47) n v)) → (-1 ≤ v ∧ v ≤ 562949953421312) → am_Wp (am_call (d + 4)) 49 Q 52 [some (.ref 31), some (.long (lZ gn)), none, none, none, none, none] [.long (lZ v)] (53, sh_lt L, iH F, jH G2, sh_rt sw) (0, 0) := by
      intro v G2 hG2 hv2 hvr
      have JJ := fun x y hy => lp_49 (sw := sw) (L := L) (d := d) (Q := Q) (g := G2) (gn := gn) (v := v) f23 hn2 r47 r49 (fun x hx => J118 v G2 x hG2 hv2 hvr hx) n 0 0 x rfl (by omega) ⟨y, hy⟩
      by_cases hs : n = D0 % 4096
      · have JJ1 := JJ 1 (Or.inr rfl) ⟨fun _ => ⟨hs, fun j hj => absurd hj (Nat.not_lt_zero j)⟩, fun _ => rfl⟩
        refine ap_go kc_49_52 ?_
        refine ap_lstore_n rfl ?_; refine ap_aload_n rfl ?_; refine ai_getI ow_49 rf_8_173 rfl rfl ?_; refine ap_aload_n rfl ?_; refine ai_getI ow_49 rf_8_151 rfl rfl ?_
        refine ai_icne rfl rfl (fun hb0 => ?_) (fun hb0 => ?_) ?_
        · exfalso; omega
        · refine ap_go kc_49_64 ?_
          refine ai_iconst ?_; refine ap_goto rfl ?_
          refine ap_go kc_49_69 ?_
          refine ap_istore rfl ?_; refine ai_iconst ?_; refine ap_istore rfl ?_; refine ap_nil ?_
          exact am_weak (by first | exact am_le_0 | (repeat (first | exact am_le_0 | refine am_le_n ?_ | refine am_le_s ?_))) JJ1
        all_goals (omega)
      · have JJ0 := JJ 0 (Or.inl rfl) ⟨fun q => absurd q (by decide), fun q => absurd q.1 hs⟩
        refine ap_go kc_49_52 ?_
        refine ap_lstore_n rfl ?_; refine ap_aload_n rfl ?_; refine ai_getI ow_49 rf_8_173 rfl rfl ?_; refine ap_aload_n rfl ?_; refine ai_getI ow_49 rf_8_151 rfl rfl ?_
        refine ai_icne rfl rfl (fun hb0 => ?_) (fun hb0 => ?_) ?_
        · refine ap_go kc_49_68 ?_
          refine ai_iconst ?_; refine ap_nil ?_
          refine ap_go kc_49_69 ?_
          refine ap_istore rfl ?_; refine ai_iconst ?_; refine ap_istore rfl ?_; refine ap_nil ?_
          exact am_weak (by first | exact am_le_0 | (repeat (first | exact am_le_0 | refine am_le_n ?_ | refine am_le_s ?_))) JJ0
        · exfalso; omega
        all_goals (omega)
    by_cases hg : g 31 25 < 0
    · have JJ := J52 (-1) G (fun _ _ => rfl) (Or.inl ⟨hg, rfl⟩) ⟨by decide, by decide⟩
      refine ap_go kc_49_33 ?_
      refine ap_aload_n rfl ?_; refine ai_getJ ow_49 rf_8_66 rfl rfl ?_; refine ai_lconst 0 rfl ?_
      refine ai_lcge rfl rfl (fun hb0 => ?_) (fun hb0 => ?_) ?_
      · exfalso; omega
      · refine ap_go kc_49_42 ?_
        refine ai_ldc2 (-1) ow_49 kl_8_64 rfl ?_; refine ap_goto rfl ?_
        exact am_weak (by first | exact am_le_0 | (repeat (first | exact am_le_0 | refine am_le_n ?_ | refine am_le_s ?_))) JJ
      all_goals (omega)
    · have hGm : Gm f5 (am_up g 31 14 (g 31 14 + 1)) F G := ⟨⟨w2 1 (by decide) (by decide), w2 5 (by decide) (by decide), w2 15 (by decide) (by decide), w2 16 (by decide) (by decide), w2 17 (by decide) (by decide), w2 18 (by decide) (by decide)⟩, ⟨w1 35 (by decide) (by decide) (by decide) (by decide) (by decide), w1 36 (by decide) (by decide) (by decide) (by decide) (by decide), w1 39 (by decide) (by decide) (by decide) (by decide) (by decide), w1 42 (by decide) (by decide) (by decide) (by decide) (by decide)⟩, (w3 34 (by decide) (by decide)).trans (am_up_ne (by decide)).symm, (w3 37 (by decide) (by decide)).trans (am_up_ne (by decide)).symm, (w3 38 (by decide) (by decide)).trans (am_up_ne (by decide)).symm, (w3 40 (by decide) (by decide)).trans (am_up_ne (by decide)).symm, (w3 41 (by decide) (by decide)).trans (am_up_ne (by decide)).symm, by rw [w5, am_up_eq]; rfl⟩
      have h18' : f5 31 18 ≤ toZ f5 := by rw [e18]; exact ha'.2
      refine ap_go kc_49_33 ?_
      refine ap_aload_n rfl ?_; refine ai_getJ ow_49 rf_8_66 rfl rfl ?_; refine ai_lconst 0 rfl ?_
      refine ai_lcge rfl rfl (fun hb0 => ?_) (fun hb0 => ?_) ?_
      · refine ap_go kc_49_48 ?_
        refine ap_aload_n rfl ?_; refine ap_callv0 ow_49 rm_8_185 na_48 mc_48 ms_48 rfl rfl (Nat.le_of_ble_eq_true rfl) (Nat.le_of_ble_eq_true rfl) (Or.inr rfl) (Nat.zero_le _) (Nat.zero_le _) ?_; refine sp_48 (f0 := f5) (g0 := (am_up g 31 14 (g 31 14 + 1))) (n := n) (fun G2 v hG2 hT => ?_) hM' h18' hGm f23 hn2 (by rw [f47]; exact hch); dsimp only [Option.toList_some, Option.toList_none, List.cons_append, List.nil_append]; refine ap_nil ?_
        exact am_weak (by first | exact am_le_0 | (repeat (first | exact am_le_0 | refine am_le_n ?_ | refine am_le_s ?_))) (J52 v G2 hG2 (Or.inr ⟨by omega, by rw [f47, ← e47] at hT; exact hT⟩) (TN_in hM' h18' (by omega) hT))
      · exfalso; omega
      all_goals (omega)
  have hK1' := K1
  by_cases hg : gn < 0
  · have hKK := K1 hg
    rw [hf5] at hKK
    refine ap_go kc_49_0 ?_
    refine ap_aload_n rfl ?_; refine ai_iconst ?_; refine ai_putI ow_49 rf_8_82 rfl rfl rfl ?_; refine ap_lload_n rfl ?_; refine ai_lconst 0 rfl ?_
    refine ai_lcge rfl rfl (fun hb0 => ?_) (fun hb0 => ?_) ?_
    · exfalso; omega
    · refine ap_go kc_49_11 ?_
      refine ai_bipush (by decide) ?_; refine ap_iret rfl ?_
      exact hKK
    all_goals (omega)
  · by_cases hk : f 31 17 < 0
    · have hKK := K2 ⟨by omega, hk⟩
      rw [hf5] at hKK
      have e17' : am_up f 31 0 0 31 17 = f 31 17 := rfl
      refine ap_go kc_49_0 ?_
      refine ap_aload_n rfl ?_; refine ai_iconst ?_; refine ai_putI ow_49 rf_8_82 rfl rfl rfl ?_; refine ap_lload_n rfl ?_; refine ai_lconst 0 rfl ?_
      refine ai_lcge rfl rfl (fun hb0 => ?_) (fun hb0 => ?_) ?_
      · refine ap_go kc_49_14 ?_
        refine ap_aload_n rfl ?_; refine ai_getI ow_49 rf_8_45 rfl rfl ?_
        refine ai_ifge rfl rfl (fun hb1 => ?_) (fun hb1 => ?_) ?_
        · exfalso; omega
        · refine ap_go kc_49_21 ?_
          refine ai_bipush (by decide) ?_; refine ap_iret rfl ?_
          exact hKK
        all_goals (omega)
      · exfalso; omega
      all_goals (omega)
    · have hok : 0 ≤ gn ∧ 0 ≤ f 31 17 := by omega
      have hM' := hM hok.2
      have ha' := ha hok.2
      rw [hf5] at J33 hM' hD K e18
      have e17' : am_up f 31 0 0 31 17 = f 31 17 := rfl
      refine ap_go kc_49_0 ?_
      refine ap_aload_n rfl ?_; refine ai_iconst ?_; refine ai_putI ow_49 rf_8_82 rfl rfl rfl ?_; refine ap_lload_n rfl ?_; refine ai_lconst 0 rfl ?_
      refine ai_lcge rfl rfl (fun hb0 => ?_) (fun hb0 => ?_) ?_
      · refine ap_go kc_49_14 ?_
        refine ap_aload_n rfl ?_; refine ai_getI ow_49 rf_8_45 rfl rfl ?_
        refine ai_ifge rfl rfl (fun hb1 => ?_) (fun hb1 => ?_) ?_
        · refine ap_go kc_49_24 ?_
          refine ap_aload_n rfl ?_; refine ap_callv0 ow_49 rm_8_178 na_43 mc_43 ms_43 rfl rfl (Nat.le_of_ble_eq_true rfl) (Nat.le_of_ble_eq_true rfl) (Or.inr rfl) (Nat.zero_le _) (Nat.zero_le _) ?_; refine sp_43w (D := D) (a0 := a0) (fun x F G hW => ?_) hD hM' hX (by rw [e18]; exact ha'.1) (by rw [e18, ← hf5]; exact ha'.2); dsimp only [Option.toList_some, Option.toList_none, List.cons_append, List.nil_append]
          have hx : x = 0 ∨ x = 1 := hW.2.elim (fun z => Or.inl z.1) (fun z => Or.inr z.1)
          refine ai_ifne rfl rfl (fun hb2 => ?_) (fun hb2 => ?_) ?_
          · obtain ⟨hw1, hw2⟩ := hW; rcases hw2 with ⟨z, _⟩ | ⟨z, D0, s, h, y1, y2, y3, y4, y5, y6⟩; (exfalso; omega); exact am_weak (by first | exact am_le_0 | (repeat (first | exact am_le_0 | refine am_le_n ?_ | refine am_le_s ?_))) (J33 hok F G D0 s h hw1 y1 y2 y3 y4 y5 y6)
          · refine ap_go kc_49_31 ?_
            refine ai_iconst ?_; refine ap_iret rfl ?_
            obtain ⟨⟨w1, w2, w3, w4, w5⟩, hw2⟩ := hW; rcases hw2 with ⟨z, y1, y2, y3⟩ | ⟨z, _⟩; (exact K hok 0 F G ⟨⟨fun a a1 a2 a3 a4 a5 a6 a7 => w1 a a1 a2 a3 a4 a7, fun j j1 j2 j3 => w2 j j2 j3, fun a a1 a2 _ => w3 a a1 a2, fun j j1 j2 j3 => w4 j j1 j3, w5⟩, Or.inl ⟨rfl, y1, ⟨w1 47 (by decide) (by decide) (by decide) (by decide) (by decide), w1 48 (by decide) (by decide) (by decide) (by decide) (by decide), w2 23 (by decide) (by decide), w4 25 (by decide) (by decide)⟩, y3⟩⟩); exfalso; omega
          all_goals (omega)
        · exfalso; omega
        all_goals (omega)
      · exfalso; omega
      all_goals (omega)
