/-! THE CLASS'S row: meets(), leastNext(), follow() -/
/-- what is left of the keys, for the row -/
def FK (f0 g0 : Nat → Nat → Int) (D : Nat → Option Nat) (D0 : Nat) (g : Nat → Nat → Int) : Prop := mg_D (mE f0 g0) (mT f0) D ∧ FD (fun v => D (rhoZ f0 v)) (nN f0) (f0 31 18).toNat (g 16) ∧ D (f0 31 18).toNat = some D0 ∧ 0 ≤ f0 31 18 ∧ f0 31 18 ≤ toZ f0
theorem rho_st {f0 : Nat → Nat → Int} (h : 0 ≤ f0 31 18 ∧ f0 31 18 ≤ toZ f0) : rhoZ f0 (f0 31 18).toNat = (f0 31 18).toNat := by
  have := rho_se (f0 := f0) (s := 0) (e := (f0 31 18).toNat) (by unfold lvN; omega)
  rw [Nat.zero_mul, Nat.mul_zero, Nat.zero_add] at this
  exact this
theorem FK_fr {f0 g0 g G : Nat → Nat → Int} {D : Nat → Option Nat} {D0 : Nat} (h : FK f0 g0 D D0 g) (hg : G 16 = g 16) : FK f0 g0 D D0 G := by
  unfold FK at h ⊢
  rw [hg]
  exact h
theorem FK_0 {f0 g0 g : Nat → Nat → Int} {D : Nat → Option Nat} {D0 : Nat} (hM : MOk f0 g0) (h : FK f0 g0 D D0 g) : D0 ≤ 1100000000000000 := by
  have h20 := toZ_in f0
  have := h.2.2.2
  exact (D_mod hM h.1 (by omega) h.2.2.1).2
theorem FK_meet {f0 g0 g : Nat → Nat → Int} {D : Nat → Option Nat} {D0 t e : Nat} (hM : MOk f0 g0) (h : FK f0 g0 D D0 g) (ht : (t : Int) ≤ f0 31 5) (he : e < lvN f0) {y : Int} (hy : 1 ≤ y) : y + g 16 (t * lvN f0 + e) = D0 ↔ ∃ x : Nat, D (21 * t + e) = some x ∧ y + x = D0 := by
  have h0 := FK_0 hM h
  obtain ⟨h1, h2, h3, h4⟩ := h
  have := dj_meet h2 (D0 := D0) (by show D (rhoZ f0 _) = _; rw [rho_st h4]; exact h3) (by omega) (nN_lt ht he) hy
  rw [this, rho_se he]
theorem lp_130 {d L : Nat} {sw : Bool} {Q : Option Value → am_H → Prop} {f0 g0 f g : Nat → Nat → Int} {D : Nat → Option Nat} {D0 t : Nat} {h : Nat → Int} (hM : MOk f0 g0) (hC : CC f0 g0 f g) (hF : FK f0 g0 D D0 g) (ht1 : 1 ≤ t) (ht : (t : Int) ≤ f0 31 5) (hp : 0 ≤ prZ f0 g0 t) (hh : hOk h) (hr : ∀ e, e < 21 → g 23 e = h e) (K : ∀ x : Int, bI x (∃ e, (neZ f0 t).toNat ≤ e ∧ e < lvN f0 ∧ (∃ x : Nat, D (21 * t + (e - (neZ f0 t).toNat)) = some x ∧ h e + wZ f0 g0 t + x = D0)) → Q (some (.int (iZ x))) (53, sh_lt L, iH f, jH g, sh_rt sw)) : ∀ (k e : Nat) (i : Int), i = e → lvN f0 = e + k → (neZ f0 t).toNat ≤ e → (∀ e', (neZ f0 t).toNat ≤ e' → e' < e → ¬ (∃ x : Nat, D (21 * t + (e' - (neZ f0 t).toNat)) = some x ∧ h e' + wZ f0 g0 t + x = D0)) → am_Wp (am_call (d + 1)) 130 Q 14 [some (.ref 14), some (.int (iZ (t : Int))), some (.long (lZ (D0 : Int))), none, some (.int (iZ (lvN f0 : Int))), some (.int (iZ i)), none, none] [] (53, sh_lt L, iH f, jH g, sh_rt sw) (0, 0) := by
  intro k
  have m5 := hM.1.2.1
  have h20 := toZ_in f0
  have hlv : 1 ≤ lvN f0 ∧ lvN f0 ≤ 21 := by unfold lvN; omega
  have hNN := nN_in hM
  have hn := neZ_in hM t
  have hpr := prZ_in hM t
  have h0 := FK_0 hM hF
  have ew : wZ f0 g0 t = 4096 * prZ f0 g0 t + 1 := rfl
  have hw := CC_w hC ht1 ht
  have e19 : g 19 ((t : Nat) : Int).toNat = g 19 t := rfl
  have e20 : f 20 ((t : Nat) : Int).toNat = neZ f0 t := (hC.2.1 t ht1 ht).2
  induction k with
  | zero =>
    intro e i hi hk he hno
    subst hi
    have hK := K 0 ⟨Or.inl rfl, fun z => absurd z (by decide), fun ⟨e', q1, q2, q3⟩ => absurd q3 (hno e' q1 (by omega))⟩
    refine ap_go kc_130_14 ?_
    refine ap_iload rfl ?_; refine ap_iload rfl ?_
    refine ai_icge rfl rfl (fun hb0 => ?_) (fun hb0 => ?_) ?_
    · refine ap_go kc_130_74 ?_
      refine ai_iconst ?_; refine ai_zret rfl ?_ ?_
      · exact hK
      all_goals (first | omega | exact Or.inl rfl)
    · exfalso; omega
    all_goals (first | omega | exact Or.inl rfl)
  | succ k ih =>
    intro e i hi hk he hno
    subst hi
    obtain ⟨e2, ee⟩ : ∃ e2, e = e2 + (neZ f0 t).toNat := ⟨e - (neZ f0 t).toNat, by omega⟩
    have he2 : e2 < lvN f0 := by omega
    have hlt := nN_lt ht he2
    have ei : (t : Int) * (lvN f0 : Int) + (e : Int) - f 20 ((t : Nat) : Int).toNat = ((t * lvN f0 + e2 : Nat) : Int) := by rw [Int.natCast_add, Int.natCast_mul]; omega
    have ek : g 16 ((t : Int) * (lvN f0 : Int) + (e : Int) - f 20 ((t : Nat) : Int).toNat).toNat = g 16 (t * lvN f0 + e2) := by rw [ei, Int.toNat_natCast]
    have c62 : ∀ {Q : Option Value → am_H → Prop}, Q (some (.long (lZ (g 16 (t * lvN f0 + e2))))) (53, sh_lt L, iH f, jH g, sh_rt sw) → am_call (d + 1) 62 [.ref 15, .int (iZ ((t : Int) * (lvN f0 : Int) + (e : Int) - f 20 ((t : Nat) : Int).toNat))] (53, sh_lt L, iH f, jH g, sh_rt sw) Q := fun K => sp_62 (by rw [ek]; exact K) (by rw [ei]; omega)
    have kb : 0 ≤ g 16 (t * lvN f0 + e2) ∧ g 16 (t * lvN f0 + e2) ≤ 2305843009213693951 := ⟨(hF.2.1.1 _ hlt).1, (hF.2.1.1 _ hlt).2.1⟩
    have r23 : g 23 ((e : Nat) : Int).toNat = h e := hr e (by omega)
    have hhe := hh e
    have hmt := FK_meet hM hF ht he2 (y := h e + wZ f0 g0 t) (by omega)
    rw [show e2 = e - (neZ f0 t).toNat by omega] at hmt
    rw [show e2 = e - (neZ f0 t).toNat by omega] at kb c62
    by_cases hm : h e + wZ f0 g0 t + g 16 (t * lvN f0 + (e - (neZ f0 t).toNat)) = D0
    · have hK := K 1 ⟨Or.inr rfl, fun _ => ⟨e, he, by clear hmt; omega, hmt.mp hm⟩, fun _ => rfl⟩
      clear hmt
      refine ap_go kc_130_14 ?_
      refine ap_iload rfl ?_; refine ap_iload rfl ?_
      refine ai_icge rfl rfl (fun hb0 => ?_) (fun hb0 => ?_) ?_
      · exfalso; omega
      · refine ap_go kc_130_21 ?_
        refine ap_aload_n rfl ?_; refine ap_getR ow_130 rf_6_12 rfl rfl rfl ?_; refine ap_iload_n rfl ?_; refine ap_iload rfl ?_; refine ai_imul ?_; refine ap_iload rfl ?_; refine ai_iadd ?_; refine ap_aload_n rfl ?_; refine ap_getR ow_130 rf_6_22 rfl rfl rfl ?_; refine ap_iload_n rfl ?_; refine ai_iaload (n := 121) rfl rfl (by decide) ?_ ?_; refine ai_isub ?_; refine ap_callv0 ow_130 rm_6_103 na_62 mc_62 ms_62 rfl rfl (Nat.le_of_ble_eq_true rfl) (Nat.le_of_ble_eq_true rfl) (Or.inr rfl) (Nat.zero_le _) (Nat.zero_le _) ?_; refine c62 ?_; dsimp only [Option.toList_some, Option.toList_none, List.cons_append, List.nil_append]; refine ap_lstore rfl ?_; refine ap_aload_n rfl ?_; refine ap_getR ow_130 rf_6_32 rfl rfl rfl ?_; refine ap_iload rfl ?_; refine ai_laload (n := 21) rfl rfl (by decide) ?_ ?_; refine ap_aload_n rfl ?_; refine ap_getR ow_130 rf_6_18 rfl rfl rfl ?_; refine ap_iload_n rfl ?_; refine ai_laload (n := 121) rfl rfl (by decide) ?_ ?_; refine ai_ladd ?_; refine ap_lload rfl ?_; refine ai_ladd ?_; refine ap_lload_n rfl ?_
        refine ai_lcne rfl rfl (fun hb1 => ?_) (fun hb1 => ?_) ?_
        · exfalso; omega
        · refine ap_go kc_130_66 ?_
          refine ai_iconst ?_; refine ai_zret rfl ?_ ?_
          · exact hK
          all_goals (first | omega | exact Or.inr rfl)
        all_goals (first | omega | exact Or.inr rfl)
      all_goals (first | omega | exact Or.inr rfl)
    · have J := ih (e + 1) ((e : Int) + 1) rfl (by clear hmt; omega) (by clear hmt; omega) (fun e' q1 q2 => by
        by_cases z : e' = e
        · subst z; exact fun q => hm (hmt.mpr q)
        · exact hno e' q1 (by clear hmt; omega))
      clear hmt
      refine ap_go kc_130_14 ?_
      refine ap_iload rfl ?_; refine ap_iload rfl ?_
      refine ai_icge rfl rfl (fun hb0 => ?_) (fun hb0 => ?_) ?_
      · exfalso; omega
      · refine ap_go kc_130_21 ?_
        refine ap_aload_n rfl ?_; refine ap_getR ow_130 rf_6_12 rfl rfl rfl ?_; refine ap_iload_n rfl ?_; refine ap_iload rfl ?_; refine ai_imul ?_; refine ap_iload rfl ?_; refine ai_iadd ?_; refine ap_aload_n rfl ?_; refine ap_getR ow_130 rf_6_22 rfl rfl rfl ?_; refine ap_iload_n rfl ?_; refine ai_iaload (n := 121) rfl rfl (by decide) ?_ ?_; refine ai_isub ?_; refine ap_callv0 ow_130 rm_6_103 na_62 mc_62 ms_62 rfl rfl (Nat.le_of_ble_eq_true rfl) (Nat.le_of_ble_eq_true rfl) (Or.inr rfl) (Nat.zero_le _) (Nat.zero_le _) ?_; refine c62 ?_; dsimp only [Option.toList_some, Option.toList_none, List.cons_append, List.nil_append]; refine ap_lstore rfl ?_; refine ap_aload_n rfl ?_; refine ap_getR ow_130 rf_6_32 rfl rfl rfl ?_; refine ap_iload rfl ?_; refine ai_laload (n := 21) rfl rfl (by decide) ?_ ?_; refine ap_aload_n rfl ?_; refine ap_getR ow_130 rf_6_18 rfl rfl rfl ?_; refine ap_iload_n rfl ?_; refine ai_laload (n := 121) rfl rfl (by decide) ?_ ?_; refine ai_ladd ?_; refine ap_lload rfl ?_; refine ai_ladd ?_; refine ap_lload_n rfl ?_
        refine ai_lcne rfl rfl (fun hb1 => ?_) (fun hb1 => ?_) ?_
        · refine ap_go kc_130_68 ?_
          refine ai_iinc rfl rfl ?_; refine ap_goto rfl ?_
          exact am_weak (by first | exact am_le_0 | (repeat (first | exact am_le_0 | refine am_le_n ?_ | refine am_le_s ?_))) J
        · exfalso; omega
        all_goals (omega)
      all_goals (omega)
theorem sp_130 {d L : Nat} {sw : Bool} {f g : Nat → Nat → Int} {Q : Option Value → am_H → Prop} {f0 g0 : Nat → Nat → Int} {D : Nat → Option Nat} {D0 s t : Nat} {h : Nat → Int} {y z : Int} (K : ∀ x : Int, bI x (mtZ f0 g0 D D0 s h t) → Q (some (.int (iZ x))) (53, sh_lt L, iH f, jH g, sh_rt sw)) (hm : mfZ f0 g0 s t) (hM : MOk f0 g0) (hC : CC f0 g0 f g) (hF : FK f0 g0 D D0 g) (hy : y = t) (hz : z = D0) (ht1 : 1 ≤ t) (ht : (t : Int) ≤ f0 31 5) (hh : hOk h) (hr : ∀ e, e < 21 → g 23 e = h e) : am_call (d + 2) 130 [.ref 14, .int (iZ y), .long (lZ z)] (53, sh_lt L, iH f, jH g, sh_rt sw) Q := by
  subst hy
  subst hz
  have m5 := hM.1.2.1
  have m7 := hM.1.2.2.2.2.1
  have h20 := toZ_in f0
  have hn := neZ_in hM t
  have hlv : 1 ≤ lvN f0 ∧ lvN f0 ≤ 21 := by unfold lvN; omega
  have hnl : (neZ f0 t).toNat ≤ lvN f0 := by
    rcases toZ_or f0 with ⟨_, q, _⟩ | ⟨_, q, q2⟩
    · unfold lvN; omega
    · rw [q2 t]; exact Nat.zero_le _
  have e20 : f 20 ((t : Nat) : Int).toNat = neZ f0 t := (hC.2.1 t ht1 ht).2
  have c123 : ∀ {Q : Option Value → am_H → Prop}, Q (some (.int (iZ (lvN f0 : Int)))) (53, sh_lt L, iH f, jH g, sh_rt sw) → am_call (d + 1) 123 [.ref 14] (53, sh_lt L, iH f, jH g, sh_rt sw) Q := fun K => sp_123 (by rw [CC_lv hC]; exact K) (by rw [hC.1.1.2.2.2.2.1]; omega)
  refine ap_call (by decide) (Nat.le_of_ble_eq_true rfl) rfl ?_
  have J := lp_130 (sw := sw) (L := L) (d := d) (Q := Q) hM hC hF ht1 ht hm.2.1 hh hr (fun x hx => K x ⟨hx.1, hx.2.trans ⟨fun ⟨e, q1, q2, x, q3, q4⟩ => ⟨hm, e, 21 * t + (e - (neZ f0 t).toNat), x, by omega, by unfold lvN at q2; omega, by omega, q3, q4⟩, fun ⟨_, e, b, x, q1, q2, q3, q4, q5⟩ => ⟨e, by omega, by unfold lvN; omega, x, by rw [show 21 * t + (e - (neZ f0 t).toNat) = b by omega]; exact q4, q5⟩⟩⟩) (lvN f0 - (neZ f0 t).toNat) (neZ f0 t).toNat (f 20 ((t : Nat) : Int).toNat) (by omega) (by omega) (Nat.le_refl _) (fun e' q1 q2 => by omega)
  refine ap_go kc_130_0 ?_
  refine ap_aload_n rfl ?_; refine ap_callv0 ow_130 rm_6_158 na_123 mc_123 ms_123 rfl rfl (Nat.le_of_ble_eq_true rfl) (Nat.le_of_ble_eq_true rfl) (Or.inr rfl) (Nat.zero_le _) (Nat.zero_le _) ?_; refine c123 ?_; dsimp only [Option.toList_some, Option.toList_none, List.cons_append, List.nil_append]; refine ap_istore rfl ?_; refine ap_aload_n rfl ?_; refine ap_getR ow_130 rf_6_22 rfl rfl rfl ?_; refine ap_iload_n rfl ?_; refine ai_iaload (n := 121) rfl rfl (by decide) ?_ ?_; refine ap_istore rfl ?_; refine ap_nil ?_
  · exact am_weak (by first | exact am_le_0 | (repeat (first | exact am_le_0 | refine am_le_n ?_ | refine am_le_s ?_))) J
  all_goals (omega)
theorem lp_129 {d L : Nat} {sw : Bool} {Q : Option Value → am_H → Prop} {f0 g0 f g : Nat → Nat → Int} {D : Nat → Option Nat} {D0 s tz : Nat} {h : Nat → Int} (hM : MOk f0 g0) (hC : CC f0 g0 f g) (hF : FK f0 g0 D D0 g) (hs : (s : Int) ≤ f0 31 5) (hh : hOk h) (hr : ∀ e, e < 21 → g 23 e = h e) (hz1 : 1 ≤ tz) (hz2 : (tz : Int) ≤ f0 31 5) (hz : mtZ f0 g0 D D0 s h tz) (K : ∀ t : Nat, 1 ≤ t → (t : Int) ≤ f0 31 5 → mtZ f0 g0 D D0 s h t → (∀ t', 1 ≤ t' → t' < t → ¬ mtZ f0 g0 D D0 s h t') → Q (some (.int (iZ (t : Int)))) (53, sh_lt L, iH f, jH g, sh_rt sw)) : ∀ (k t : Nat) (i : Int), i = t → 1 ≤ t → (f0 31 5).toNat + 1 = t + k → (∀ t', 1 ≤ t' → t' < t → ¬ mtZ f0 g0 D D0 s h t') → am_Wp (am_call (d + 2)) 129 Q 3 [some (.ref 14), some (.int (iZ (s : Int))), some (.long (lZ (D0 : Int))), none, some (.int (iZ i))] [] (53, sh_lt L, iH f, jH g, sh_rt sw) (0, 0) := by
  intro k
  have m5 := hM.1.2.1
  have ec : f 5 8 = f0 31 5 := hC.1.1.1
  induction k with
  | zero =>
    intro t i hi ht1 hk hno
    exact absurd hz (hno tz hz1 (by omega))
  | succ k ih =>
    intro t i hi ht1 hk hno
    subst hi
    have ht : (t : Int) ≤ f0 31 5 := by omega
    have J : ¬ mtZ f0 g0 D D0 s h t → am_Wp (am_call (d + 2)) 129 Q 3 [some (.ref 14), some (.int (iZ (s : Int))), some (.long (lZ (D0 : Int))), none, some (.int (iZ ((t : Int) + 1)))] [] (53, sh_lt L, iH f, jH g, sh_rt sw) (0, 0) := fun hm => ih (t + 1) ((t : Int) + 1) rfl (by omega) (by omega) (fun t' q1 q2 => by
      by_cases z : t' = t
      · subst z; exact hm
      · exact hno t' q1 (by omega))
    by_cases hm : mfZ f0 g0 s t
    · by_cases hmt : mtZ f0 g0 D D0 s h t
      · have hK := K t ht1 ht hmt hno
        have c130 : ∀ {Q : Option Value → am_H → Prop}, Q (some (.int (iZ 1))) (53, sh_lt L, iH f, jH g, sh_rt sw) → am_call (d + 2) 130 [.ref 14, .int (iZ (t : Int)), .long (lZ (D0 : Int))] (53, sh_lt L, iH f, jH g, sh_rt sw) Q := fun K => sp_130 (s := s) (fun x hx => by rw [hx.2.mpr hmt]; exact K) hm hM hC hF rfl rfl ht1 ht hh hr
        refine ap_go kc_129_3 ?_
        refine ap_iload rfl ?_; refine ap_aload_n rfl ?_; refine ap_getR ow_129 rf_6_52 rfl rfl rfl ?_; refine ap_callv0 ow_129 rm_6_74 na_93 mc_93 ms_93 rfl rfl (Nat.le_of_ble_eq_true rfl) (Nat.le_of_ble_eq_true rfl) (Or.inr rfl) (Nat.zero_le _) (Nat.zero_le _) ?_; refine sp_93 ?_; dsimp only [Option.toList_some, Option.toList_none, List.cons_append, List.nil_append]
        refine ai_icgt rfl rfl (fun hb0 => ?_) (fun hb0 => ?_) ?_
        · exfalso; omega
        · refine ap_go kc_129_15 ?_
          refine ap_aload_n rfl ?_; refine ap_iload_n rfl ?_; refine ap_iload rfl ?_; refine ap_callv0 ow_129 rm_6_121 na_125 mc_125 ms_125 rfl rfl (Nat.le_of_ble_eq_true rfl) (Nat.le_of_ble_eq_true rfl) (Or.inr rfl) (Nat.zero_le _) (Nat.zero_le _) ?_; refine sp_125t ?_ hm hM hC rfl rfl hs ht1 ht; dsimp only [Option.toList_some, Option.toList_none, List.cons_append, List.nil_append]
          refine ai_ifeq rfl rfl (fun hb1 => ?_) (fun hb1 => ?_) ?_
          · exfalso; omega
          · refine ap_go kc_129_25 ?_
            refine ap_aload_n rfl ?_; refine ap_iload rfl ?_; refine ap_lload_n rfl ?_; refine ap_callv0 ow_129 rm_6_182 na_130 mc_130 ms_130 rfl rfl (Nat.le_of_ble_eq_true rfl) (Nat.le_of_ble_eq_true rfl) (Or.inr rfl) (Nat.zero_le _) (Nat.zero_le _) ?_; refine c130 ?_; dsimp only [Option.toList_some, Option.toList_none, List.cons_append, List.nil_append]
            refine ai_ifeq rfl rfl (fun hb2 => ?_) (fun hb2 => ?_) ?_
            · exfalso; omega
            · refine ap_go kc_129_35 ?_
              refine ap_iload rfl ?_; refine ap_iret rfl ?_
              exact hK
            all_goals (omega)
          all_goals (omega)
        all_goals (omega)
      · have J' := J hmt
        have c130 : ∀ {Q : Option Value → am_H → Prop}, Q (some (.int (iZ 0))) (53, sh_lt L, iH f, jH g, sh_rt sw) → am_call (d + 2) 130 [.ref 14, .int (iZ (t : Int)), .long (lZ (D0 : Int))] (53, sh_lt L, iH f, jH g, sh_rt sw) Q := fun K => sp_130 (s := s) (fun x hx => by rw [hx.1.resolve_right (fun q => hmt (hx.2.mp q))]; exact K) hm hM hC hF rfl rfl ht1 ht hh hr
        refine ap_go kc_129_3 ?_
        refine ap_iload rfl ?_; refine ap_aload_n rfl ?_; refine ap_getR ow_129 rf_6_52 rfl rfl rfl ?_; refine ap_callv0 ow_129 rm_6_74 na_93 mc_93 ms_93 rfl rfl (Nat.le_of_ble_eq_true rfl) (Nat.le_of_ble_eq_true rfl) (Or.inr rfl) (Nat.zero_le _) (Nat.zero_le _) ?_; refine sp_93 ?_; dsimp only [Option.toList_some, Option.toList_none, List.cons_append, List.nil_append]
        refine ai_icgt rfl rfl (fun hb0 => ?_) (fun hb0 => ?_) ?_
        · exfalso; omega
        · refine ap_go kc_129_15 ?_
          refine ap_aload_n rfl ?_; refine ap_iload_n rfl ?_; refine ap_iload rfl ?_; refine ap_callv0 ow_129 rm_6_121 na_125 mc_125 ms_125 rfl rfl (Nat.le_of_ble_eq_true rfl) (Nat.le_of_ble_eq_true rfl) (Or.inr rfl) (Nat.zero_le _) (Nat.zero_le _) ?_; refine sp_125t ?_ hm hM hC rfl rfl hs ht1 ht; dsimp only [Option.toList_some, Option.toList_none, List.cons_append, List.nil_append]
          refine ai_ifeq rfl rfl (fun hb1 => ?_) (fun hb1 => ?_) ?_
          · refine ap_go kc_129_38 ?_
            refine ai_iinc rfl rfl ?_; refine ap_goto rfl ?_
            first | (exfalso; omega) | exact am_weak (by first | exact am_le_0 | (repeat (first | exact am_le_0 | refine am_le_n ?_ | refine am_le_s ?_))) J'
          · refine ap_go kc_129_25 ?_
            refine ap_aload_n rfl ?_; refine ap_iload rfl ?_; refine ap_lload_n rfl ?_; refine ap_callv0 ow_129 rm_6_182 na_130 mc_130 ms_130 rfl rfl (Nat.le_of_ble_eq_true rfl) (Nat.le_of_ble_eq_true rfl) (Or.inr rfl) (Nat.zero_le _) (Nat.zero_le _) ?_; refine c130 ?_; dsimp only [Option.toList_some, Option.toList_none, List.cons_append, List.nil_append]
            refine ai_ifeq rfl rfl (fun hb2 => ?_) (fun hb2 => ?_) ?_
            · refine ap_go kc_129_38 ?_
              refine ai_iinc rfl rfl ?_; refine ap_goto rfl ?_
              first | (exfalso; omega) | exact am_weak (by first | exact am_le_0 | (repeat (first | exact am_le_0 | refine am_le_n ?_ | refine am_le_s ?_))) J'
            · exfalso; omega
            all_goals (omega)
          all_goals (omega)
        all_goals (omega)
    · have J' := J (fun q => hm q.1)
      refine ap_go kc_129_3 ?_
      refine ap_iload rfl ?_; refine ap_aload_n rfl ?_; refine ap_getR ow_129 rf_6_52 rfl rfl rfl ?_; refine ap_callv0 ow_129 rm_6_74 na_93 mc_93 ms_93 rfl rfl (Nat.le_of_ble_eq_true rfl) (Nat.le_of_ble_eq_true rfl) (Or.inr rfl) (Nat.zero_le _) (Nat.zero_le _) ?_; refine sp_93 ?_; dsimp only [Option.toList_some, Option.toList_none, List.cons_append, List.nil_append]
      refine ai_icgt rfl rfl (fun hb0 => ?_) (fun hb0 => ?_) ?_
      · exfalso; omega
      · refine ap_go kc_129_15 ?_
        refine ap_aload_n rfl ?_; refine ap_iload_n rfl ?_; refine ap_iload rfl ?_; refine ap_callv0 ow_129 rm_6_121 na_125 mc_125 ms_125 rfl rfl (Nat.le_of_ble_eq_true rfl) (Nat.le_of_ble_eq_true rfl) (Or.inr rfl) (Nat.zero_le _) (Nat.zero_le _) ?_; refine sp_125n ?_ hm hM hC rfl rfl hs ht1 ht; dsimp only [Option.toList_some, Option.toList_none, List.cons_append, List.nil_append]
        refine ai_ifeq rfl rfl (fun hb1 => ?_) (fun hb1 => ?_) ?_
        · refine ap_go kc_129_38 ?_
          refine ai_iinc rfl rfl ?_; refine ap_goto rfl ?_
          exact am_weak (by first | exact am_le_0 | (repeat (first | exact am_le_0 | refine am_le_n ?_ | refine am_le_s ?_))) J'
        · exfalso; omega
        all_goals (omega)
      all_goals (omega)
theorem sp_129 {d L : Nat} {sw : Bool} {f g : Nat → Nat → Int} {Q : Option Value → am_H → Prop} {f0 g0 : Nat → Nat → Int} {D : Nat → Option Nat} {D0 s tz : Nat} {h : Nat → Int} {y z : Int} (K : ∀ t : Nat, 1 ≤ t → (t : Int) ≤ f0 31 5 → mtZ f0 g0 D D0 s h t → (∀ t', 1 ≤ t' → t' < t → ¬ mtZ f0 g0 D D0 s h t') → Q (some (.int (iZ (t : Int)))) (53, sh_lt L, iH f, jH g, sh_rt sw)) (hM : MOk f0 g0) (hC : CC f0 g0 f g) (hF : FK f0 g0 D D0 g) (hy : y = s) (hz0 : z = D0) (hs : (s : Int) ≤ f0 31 5) (hh : hOk h) (hr : ∀ e, e < 21 → g 23 e = h e) (hz1 : 1 ≤ tz) (hz2 : (tz : Int) ≤ f0 31 5) (hz : mtZ f0 g0 D D0 s h tz) : am_call (d + 3) 129 [.ref 14, .int (iZ y), .long (lZ z)] (53, sh_lt L, iH f, jH g, sh_rt sw) Q := by
  subst hy
  subst hz0
  have m5 := hM.1.2.1
  refine ap_call (by decide) (Nat.le_of_ble_eq_true rfl) rfl ?_
  refine ap_go kc_129_0 ?_
  refine ai_iconst ?_; refine ap_istore rfl ?_; refine ap_nil ?_
  exact am_weak (by first | exact am_le_0 | (repeat (first | exact am_le_0 | refine am_le_n ?_ | refine am_le_s ?_))) (lp_129 hM hC hF hs hh hr hz1 hz2 hz K (f0 31 5).toNat 1 1 rfl (Nat.le_refl 1) (by omega) (fun t' q1 q2 => by omega))
theorem lp_128_27 {d L : Nat} {sw : Bool} {Q : Option Value → am_H → Prop} {f0 g0 fb gb : Nat → Nat → Int} {D : Nat → Option Nat} {D0 : Nat} (hM : MOk f0 g0) (hU : UOk f0) (hC : CC f0 g0 fb gb) (hF : FK f0 g0 D D0 gb) (K : ∀ f g s h, (∀ a, a ≠ 27 → a ≠ 28 → f a = fb a) → (∀ j, j ≠ 1 → f 27 j = fb 27 j) → (∀ a, a ≠ 23 → g a = gb a) → f 27 1 = ((D0 % 4096 : Nat) : Int) → (∀ i, D0 % 4096 ≤ i → f 28 i = fb 28 i) → Rw f0 g0 D D0 (f 28) (D0 % 4096) s h → Q none (53, sh_lt L, iH f, jH g, sh_rt sw)) : ∀ (k n : Nat) (i : Int) (s : Nat) (h : Nat → Int) (f g : Nat → Nat → Int), i = n → D0 % 4096 = n + k → (∀ a, a ≠ 27 → a ≠ 28 → f a = fb a) → (∀ j, j ≠ 1 → f 27 j = fb 27 j) → (∀ a, a ≠ 23 → g a = gb a) → f 27 1 = (n : Int) → (∀ i, n ≤ i → f 28 i = fb 28 i) → Rw f0 g0 D D0 (f 28) n s h → TI f0 g0 D D0 n s h → (∀ e, e < 21 → g 23 e = h e) → am_Wp (am_call (d + 3)) 128 Q 10 [some (.ref 14), some (.ref 27), some (.long (lZ (D0 : Int))), none, some (.int (iZ (s : Int))), some (.int (iZ i)), none] [] (53, sh_lt L, iH f, jH g, sh_rt sw) (0, 0) := by
  intro k
  have m5 := hM.1.2.1
  have m16 := hM.1.2.2.2.1
  have h20 := toZ_in f0
  have hD := hF.1
  have hDf : D0 % 4096 ≤ 2400 := D_few hM hU hD (v := (f0 31 18).toNat) (by have := hF.2.2.2; omega) hF.2.2.1
  have h0 := FK_0 hM hF
  induction k with
  | zero =>
    intro n i s h f g hi hk hf hfw hg hn hbr hR hT hr
    subst hi
    have hC' : CC f0 g0 f g := CC_fr hC (fun a ha => hf a (by omega) (by omega)) (fun a ha => hg a (by omega))
    have hs := hT.2.2.2.2
    have hpl := plZ_in hM s
    have e7 : f 7 ((s : Nat) : Int).toNat = plZ f0 s := (hC'.1.2.2.1 s hs).1
    have e9 : f 14 9 = f0 31 16 := hC'.1.1.2.2.2.1
    have hend := (TI_end hM hD hT).1.mpr hk.symm
    have hK := K f g s h hf hfw hg (by rw [hk]; exact hn) (by rw [hk]; exact hbr) (by rw [hk]; exact hR)
    refine ap_go kc_128_10 ?_
    refine ap_iload rfl ?_; refine ai_sipush (by decide) ?_
    refine ai_icge rfl rfl (fun hb0 => ?_) (fun hb0 => ?_) ?_
    · refine ap_go kc_128_84 ?_
      refine ap_vret rfl ?_
      exact hK
    · refine ap_go kc_128_18 ?_
      refine ap_aload_n rfl ?_; refine ap_getR ow_128 rf_6_52 rfl rfl rfl ?_; refine ap_iload rfl ?_; refine ap_callv0 ow_128 rm_6_125 na_99 mc_99 ms_99 rfl rfl (Nat.le_of_ble_eq_true rfl) (Nat.le_of_ble_eq_true rfl) (Or.inr rfl) (Nat.zero_le _) (Nat.zero_le _) ?_; refine sp_99 ?_ ?_; dsimp only [Option.toList_some, Option.toList_none, List.cons_append, List.nil_append]; refine ap_aload_n rfl ?_; refine ai_getI ow_128 rf_6_39 rfl rfl ?_
      refine ai_iceq rfl rfl (fun hb1 => ?_) (fun hb1 => ?_) ?_
      · refine ap_go kc_128_84 ?_
        refine ap_vret rfl ?_
        exact hK
      · exfalso; omega
      all_goals (omega)
    all_goals (omega)
  | succ k ih =>
    intro n i s h f g hi hk hf hfw hg hn hbr hR hT hr
    subst hi
    have hC' : CC f0 g0 f g := CC_fr hC (fun a ha => hf a (by omega) (by omega)) (fun a ha => hg a (by omega))
    have hF' : FK f0 g0 D D0 g := FK_fr hF (hg 16 (by decide))
    have hs := hT.2.2.2.2
    have hpl := plZ_in hM s
    have e7 : f 7 ((s : Nat) : Int).toNat = plZ f0 s := (hC'.1.2.2.1 s hs).1
    have e9 : f 14 9 = f0 31 16 := hC'.1.1.2.2.2.1
    have hend : ¬ plZ f0 s = f0 31 16 := fun q => by have := (TI_end hM hD hT).1.mp q; omega
    have eu : g 21 (f 7 ((s : Nat) : Int).toNat).toNat = uZ f0 g0 (plZ f0 s).toNat := by rw [e7]; exact CC_u hC' hs
    have hu := uZ_in hM (plZ f0 s).toNat
    have hh : hOk h := fun e => ⟨(hT.1 e).1, (hT.1 e).2.1⟩
    have hhc := hOk_ch hu hh
    have hTC := TI_TC hM hD hT
    obtain ⟨tz, z1, z2, z3⟩ := TC_ex hM hD hTC hend
    have J62 : ∀ (t : Nat) (G : Nat → Nat → Int), 1 ≤ t → (t : Int) ≤ f0 31 5 → mtZ f0 g0 D D0 s (chZ (uZ f0 g0 (plZ f0 s).toNat) h) t → (∀ t', 1 ≤ t' → t' < t → ¬ mtZ f0 g0 D D0 s (chZ (uZ f0 g0 (plZ f0 s).toNat) h) t') → (∀ a, a ≠ 23 → G a = g a) → (∀ e, e < 21 → G 23 e = chZ (uZ f0 g0 (plZ f0 s).toNat) h e) → am_Wp (am_call (d + 3)) 128 Q 62 [some (.ref 14), some (.ref 27), some (.long (lZ (D0 : Int))), none, none, some (.int (iZ (n : Int))), some (.int (iZ (t : Int)))] [] (53, sh_lt L, iH f, jH G, sh_rt sw) (0, 0) := by
      intro t G ht1 ht hmt hno hG hGr
      have hC2 : CC f0 g0 f G := CC_fr hC' (fun _ _ => rfl) (fun a ha => hG a (by omega))
      have hp := hmt.1.2.1
      have hpr := prZ_in hM t
      have ew : wZ f0 g0 t = 4096 * prZ f0 g0 t + 1 := rfl
      have hw := CC_w hC2 ht1 ht
      have ew2 : G 19 t = wZ f0 g0 t := by omega
      have hn2 := neZ_in hM t
      have e20 : f 20 t = (((neZ f0 t).toNat : Nat) : Int) := by rw [(hC2.2.1 t ht1 ht).2]; omega
      have hTn := TC_TI hM hD h0 hTC ⟨ht1, ht⟩ hmt
      have hRn : ∀ r : Nat → Int, (∀ i, i < n → r i = f 28 i) → r n = t → Rw f0 g0 D D0 r (n + 1) t (drZ (neZ f0 t).toNat (wZ f0 g0 t) (chZ (uZ f0 g0 (plZ f0 s).toNat) h)) := fun r q1 q2 => ⟨s, h, Rw_ext n s h (fun i hi => (q1 i hi).symm) hR, ⟨ht1, ht, hmt, hno, rfl⟩, q2⟩
      have en : (f 27 1).toNat = n := by omega
      refine ap_go kc_128_62 ?_
      refine ap_aload_n rfl ?_; refine ap_iload rfl ?_; refine ap_callv0 ow_128 rm_6_131 na_133 mc_133 ms_133 rfl rfl (Nat.le_of_ble_eq_true rfl) (Nat.le_of_ble_eq_true rfl) (Or.inr rfl) (Nat.zero_le _) (Nat.zero_le _) ?_; refine sp_133 (t := t) (n := (neZ f0 t).toNat) (fun G2 hG2 hr2 => ?_) rfl (by omega) e20 (by omega) (by rw [ew2]; omega) hhc hGr; dsimp only [Option.toList_some, Option.toList_none, List.cons_append, List.nil_append]; refine ap_aload_n rfl ?_; refine ap_iload rfl ?_; refine ap_callv0 ow_128 rm_6_179 na_113 mc_113 ms_113 rfl rfl (Nat.le_of_ble_eq_true rfl) (Nat.le_of_ble_eq_true rfl) (Or.inr rfl) (Nat.zero_le _) (Nat.zero_le _) ?_; refine sp_113_27 ?_ (by omega); dsimp only [Option.toList_some, Option.toList_none, List.cons_append, List.nil_append]; refine ap_iload rfl ?_; refine ap_istore rfl ?_; refine ai_iinc rfl rfl ?_; refine ap_goto rfl ?_
      exact am_weak (by first | exact am_le_0 | (repeat (first | exact am_le_0 | refine am_le_n ?_ | refine am_le_s ?_))) (ih (n + 1) ((n : Int) + 1) t _ _ G2 rfl (by omega) (fun a a1 a2 => ((am_up_ne a1).trans (am_up_ne a2)).trans (hf a a1 a2)) (fun j hj => by rw [am_up_eq]; dsimp only; rw [if_neg hj, am_up_ne (by decide)]; exact hfw j hj) (fun a ha => ((hG2 a ha).trans (hG a ha)).trans (hg a ha)) (by rw [am_up_eq]; dsimp only; rw [if_pos rfl, hn]; rfl) (fun i hi => by rw [am_up_ne (by decide), am_up_eq, en]; dsimp only; rw [if_neg (by omega)]; exact hbr i (by omega)) (hRn _ (fun i hi => by rw [am_up_ne (by decide), am_up_eq, en]; dsimp only; rw [if_neg (by omega)]) (by rw [am_up_ne (by decide), am_up_eq, en]; dsimp only; rw [if_pos rfl])) hTn (fun e he => by rw [hr2 e he, ew2]))
    refine ap_go kc_128_10 ?_
    refine ap_iload rfl ?_; refine ai_sipush (by decide) ?_
    refine ai_icge rfl rfl (fun hb0 => ?_) (fun hb0 => ?_) ?_
    · exfalso; omega
    · refine ap_go kc_128_18 ?_
      refine ap_aload_n rfl ?_; refine ap_getR ow_128 rf_6_52 rfl rfl rfl ?_; refine ap_iload rfl ?_; refine ap_callv0 ow_128 rm_6_125 na_99 mc_99 ms_99 rfl rfl (Nat.le_of_ble_eq_true rfl) (Nat.le_of_ble_eq_true rfl) (Or.inr rfl) (Nat.zero_le _) (Nat.zero_le _) ?_; refine sp_99 ?_ ?_; dsimp only [Option.toList_some, Option.toList_none, List.cons_append, List.nil_append]; refine ap_aload_n rfl ?_; refine ai_getI ow_128 rf_6_39 rfl rfl ?_
      refine ai_iceq rfl rfl (fun hb1 => ?_) (fun hb1 => ?_) ?_
      · exfalso; omega
      · refine ap_go kc_128_34 ?_
        refine ap_aload_n rfl ?_; refine ap_aload_n rfl ?_; refine ap_getR ow_128 rf_6_52 rfl rfl rfl ?_; refine ap_iload rfl ?_; refine ap_callv0 ow_128 rm_6_125 na_99 mc_99 ms_99 rfl rfl (Nat.le_of_ble_eq_true rfl) (Nat.le_of_ble_eq_true rfl) (Or.inr rfl) (Nat.zero_le _) (Nat.zero_le _) ?_; refine sp_99 ?_ ?_; dsimp only [Option.toList_some, Option.toList_none, List.cons_append, List.nil_append]; refine ap_callv0 ow_128 rm_6_128 na_132 mc_132 ms_132 rfl rfl (Nat.le_of_ble_eq_true rfl) (Nat.le_of_ble_eq_true rfl) (Or.inr rfl) (Nat.zero_le _) (Nat.zero_le _) ?_; refine sp_132 (h := h) (fun G hG hGr => ?_) (by omega) (by rw [eu]; exact hu) hh hr; dsimp only [Option.toList_some, Option.toList_none, List.cons_append, List.nil_append]; refine ap_aload_n rfl ?_; refine ap_iload rfl ?_; refine ap_lload_n rfl ?_; refine ap_callv0 ow_128 rm_6_175 na_129 mc_129 ms_129 rfl rfl (Nat.le_of_ble_eq_true rfl) (Nat.le_of_ble_eq_true rfl) (Or.inr rfl) (Nat.zero_le _) (Nat.zero_le _) ?_; refine sp_129 (h := chZ (uZ f0 g0 (plZ f0 s).toNat) h) (tz := tz) (fun t ht1 ht hmt hno => ?_) hM (CC_fr hC' (fun _ _ => rfl) (fun a ha => hG a (by omega))) (FK_fr hF' (hG 16 (by decide))) rfl rfl hs hhc (by rw [eu] at hGr; exact hGr) z1 z2 z3; dsimp only [Option.toList_some, Option.toList_none, List.cons_append, List.nil_append]; refine ap_istore rfl ?_; refine ap_iload rfl ?_
        refine ai_ifne rfl rfl (fun hb2 => ?_) (fun hb2 => ?_) ?_
        · rw [eu] at hGr; exact am_weak (by first | exact am_le_0 | (repeat (first | exact am_le_0 | refine am_le_n ?_ | refine am_le_s ?_))) (J62 t G ht1 ht hmt hno hG hGr)
        · exfalso; omega
        all_goals (omega)
      all_goals (omega)
    all_goals (omega)
theorem sp_128_27 {d L : Nat} {sw : Bool} {f g : Nat → Nat → Int} {Q : Option Value → am_H → Prop} {f0 g0 : Nat → Nat → Int} {D : Nat → Option Nat} {D0 : Nat} {z : Int} (K : ∀ F G s h, (∀ a, a ≠ 27 → a ≠ 28 → F a = f a) → (∀ j, j ≠ 1 → F 27 j = f 27 j) → (∀ a, a ≠ 23 → G a = g a) → F 27 1 = ((D0 % 4096 : Nat) : Int) → (∀ i, D0 % 4096 ≤ i → F 28 i = f 28 i) → Rw f0 g0 D D0 (F 28) (D0 % 4096) s h → Q none (53, sh_lt L, iH F, jH G, sh_rt sw)) (hz : z = D0) (hM : MOk f0 g0) (hU : UOk f0) (hC : CC f0 g0 f g) (hF : FK f0 g0 D D0 g) (h1 : f 27 1 = 0) : am_call (d + 4) 128 [.ref 14, .ref 27, .long (lZ z)] (53, sh_lt L, iH f, jH g, sh_rt sw) Q := by
  subst hz
  have h20 := toZ_in f0
  have h4 := hF.2.2.2
  have hT0 := sZ_TI (g0 := g0) hM h4.2 hF.2.2.1 (FK_0 hM hF)
  refine ap_call (by decide) (Nat.le_of_ble_eq_true rfl) rfl ?_
  refine ap_go kc_128_0 ?_
  refine ap_aload_n rfl ?_; refine ap_callv0 ow_128 rm_6_112 na_131 mc_131 ms_131 rfl rfl (Nat.le_of_ble_eq_true rfl) (Nat.le_of_ble_eq_true rfl) (Or.inr rfl) (Nat.zero_le _) (Nat.zero_le _) ?_; refine sp_131 (f0 := f0) (fun G hG hGr => ?_) hC.1.1.2.2.2.2.2 (by omega); dsimp only [Option.toList_some, Option.toList_none, List.cons_append, List.nil_append]; refine ai_iconst ?_; refine ap_istore rfl ?_; refine ai_iconst ?_; refine ap_istore rfl ?_; refine ap_nil ?_
  exact am_weak (by first | exact am_le_0 | (repeat (first | exact am_le_0 | refine am_le_n ?_ | refine am_le_s ?_))) (lp_128_27 hM hU hC hF K (D0 % 4096) 0 0 0 (sZ f0) f G rfl (by omega) (fun _ _ _ => rfl) (fun _ _ => rfl) hG h1 (fun _ _ => rfl) ⟨rfl, rfl⟩ hT0 hGr)
theorem lp_128_29 {d L : Nat} {sw : Bool} {Q : Option Value → am_H → Prop} {f0 g0 fb gb : Nat → Nat → Int} {D : Nat → Option Nat} {D0 : Nat} (hM : MOk f0 g0) (hU : UOk f0) (hC : CC f0 g0 fb gb) (hF : FK f0 g0 D D0 gb) (K : ∀ f g s h, (∀ a, a ≠ 29 → a ≠ 30 → f a = fb a) → (∀ j, j ≠ 1 → f 29 j = fb 29 j) → (∀ a, a ≠ 23 → g a = gb a) → f 29 1 = ((D0 % 4096 : Nat) : Int) → (∀ i, D0 % 4096 ≤ i → f 30 i = fb 30 i) → Rw f0 g0 D D0 (f 30) (D0 % 4096) s h → Q none (53, sh_lt L, iH f, jH g, sh_rt sw)) : ∀ (k n : Nat) (i : Int) (s : Nat) (h : Nat → Int) (f g : Nat → Nat → Int), i = n → D0 % 4096 = n + k → (∀ a, a ≠ 29 → a ≠ 30 → f a = fb a) → (∀ j, j ≠ 1 → f 29 j = fb 29 j) → (∀ a, a ≠ 23 → g a = gb a) → f 29 1 = (n : Int) → (∀ i, n ≤ i → f 30 i = fb 30 i) → Rw f0 g0 D D0 (f 30) n s h → TI f0 g0 D D0 n s h → (∀ e, e < 21 → g 23 e = h e) → am_Wp (am_call (d + 3)) 128 Q 10 [some (.ref 14), some (.ref 29), some (.long (lZ (D0 : Int))), none, some (.int (iZ (s : Int))), some (.int (iZ i)), none] [] (53, sh_lt L, iH f, jH g, sh_rt sw) (0, 0) := by
  intro k
  have m5 := hM.1.2.1
  have m16 := hM.1.2.2.2.1
  have h20 := toZ_in f0
  have hD := hF.1
  have hDf : D0 % 4096 ≤ 2400 := D_few hM hU hD (v := (f0 31 18).toNat) (by have := hF.2.2.2; omega) hF.2.2.1
  have h0 := FK_0 hM hF
  induction k with
  | zero =>
    intro n i s h f g hi hk hf hfw hg hn hbr hR hT hr
    subst hi
    have hC' : CC f0 g0 f g := CC_fr hC (fun a ha => hf a (by omega) (by omega)) (fun a ha => hg a (by omega))
    have hs := hT.2.2.2.2
    have hpl := plZ_in hM s
    have e7 : f 7 ((s : Nat) : Int).toNat = plZ f0 s := (hC'.1.2.2.1 s hs).1
    have e9 : f 14 9 = f0 31 16 := hC'.1.1.2.2.2.1
    have hend := (TI_end hM hD hT).1.mpr hk.symm
    have hK := K f g s h hf hfw hg (by rw [hk]; exact hn) (by rw [hk]; exact hbr) (by rw [hk]; exact hR)
    refine ap_go kc_128_10 ?_
    refine ap_iload rfl ?_; refine ai_sipush (by decide) ?_
    refine ai_icge rfl rfl (fun hb0 => ?_) (fun hb0 => ?_) ?_
    · refine ap_go kc_128_84 ?_
      refine ap_vret rfl ?_
      exact hK
    · refine ap_go kc_128_18 ?_
      refine ap_aload_n rfl ?_; refine ap_getR ow_128 rf_6_52 rfl rfl rfl ?_; refine ap_iload rfl ?_; refine ap_callv0 ow_128 rm_6_125 na_99 mc_99 ms_99 rfl rfl (Nat.le_of_ble_eq_true rfl) (Nat.le_of_ble_eq_true rfl) (Or.inr rfl) (Nat.zero_le _) (Nat.zero_le _) ?_; refine sp_99 ?_ ?_; dsimp only [Option.toList_some, Option.toList_none, List.cons_append, List.nil_append]; refine ap_aload_n rfl ?_; refine ai_getI ow_128 rf_6_39 rfl rfl ?_
      refine ai_iceq rfl rfl (fun hb1 => ?_) (fun hb1 => ?_) ?_
      · refine ap_go kc_128_84 ?_
        refine ap_vret rfl ?_
        exact hK
      · exfalso; omega
      all_goals (omega)
    all_goals (omega)
  | succ k ih =>
    intro n i s h f g hi hk hf hfw hg hn hbr hR hT hr
    subst hi
    have hC' : CC f0 g0 f g := CC_fr hC (fun a ha => hf a (by omega) (by omega)) (fun a ha => hg a (by omega))
    have hF' : FK f0 g0 D D0 g := FK_fr hF (hg 16 (by decide))
    have hs := hT.2.2.2.2
    have hpl := plZ_in hM s
    have e7 : f 7 ((s : Nat) : Int).toNat = plZ f0 s := (hC'.1.2.2.1 s hs).1
    have e9 : f 14 9 = f0 31 16 := hC'.1.1.2.2.2.1
    have hend : ¬ plZ f0 s = f0 31 16 := fun q => by have := (TI_end hM hD hT).1.mp q; omega
    have eu : g 21 (f 7 ((s : Nat) : Int).toNat).toNat = uZ f0 g0 (plZ f0 s).toNat := by rw [e7]; exact CC_u hC' hs
    have hu := uZ_in hM (plZ f0 s).toNat
    have hh : hOk h := fun e => ⟨(hT.1 e).1, (hT.1 e).2.1⟩
    have hhc := hOk_ch hu hh
    have hTC := TI_TC hM hD hT
    obtain ⟨tz, z1, z2, z3⟩ := TC_ex hM hD hTC hend
    have J62 : ∀ (t : Nat) (G : Nat → Nat → Int), 1 ≤ t → (t : Int) ≤ f0 31 5 → mtZ f0 g0 D D0 s (chZ (uZ f0 g0 (plZ f0 s).toNat) h) t → (∀ t', 1 ≤ t' → t' < t → ¬ mtZ f0 g0 D D0 s (chZ (uZ f0 g0 (plZ f0 s).toNat) h) t') → (∀ a, a ≠ 23 → G a = g a) → (∀ e, e < 21 → G 23 e = chZ (uZ f0 g0 (plZ f0 s).toNat) h e) → am_Wp (am_call (d + 3)) 128 Q 62 [some (.ref 14), some (.ref 29), some (.long (lZ (D0 : Int))), none, none, some (.int (iZ (n : Int))), some (.int (iZ (t : Int)))] [] (53, sh_lt L, iH f, jH G, sh_rt sw) (0, 0) := by
      intro t G ht1 ht hmt hno hG hGr
      have hC2 : CC f0 g0 f G := CC_fr hC' (fun _ _ => rfl) (fun a ha => hG a (by omega))
      have hp := hmt.1.2.1
      have hpr := prZ_in hM t
      have ew : wZ f0 g0 t = 4096 * prZ f0 g0 t + 1 := rfl
      have hw := CC_w hC2 ht1 ht
      have ew2 : G 19 t = wZ f0 g0 t := by omega
      have hn2 := neZ_in hM t
      have e20 : f 20 t = (((neZ f0 t).toNat : Nat) : Int) := by rw [(hC2.2.1 t ht1 ht).2]; omega
      have hTn := TC_TI hM hD h0 hTC ⟨ht1, ht⟩ hmt
      have hRn : ∀ r : Nat → Int, (∀ i, i < n → r i = f 30 i) → r n = t → Rw f0 g0 D D0 r (n + 1) t (drZ (neZ f0 t).toNat (wZ f0 g0 t) (chZ (uZ f0 g0 (plZ f0 s).toNat) h)) := fun r q1 q2 => ⟨s, h, Rw_ext n s h (fun i hi => (q1 i hi).symm) hR, ⟨ht1, ht, hmt, hno, rfl⟩, q2⟩
      have en : (f 29 1).toNat = n := by omega
      refine ap_go kc_128_62 ?_
      refine ap_aload_n rfl ?_; refine ap_iload rfl ?_; refine ap_callv0 ow_128 rm_6_131 na_133 mc_133 ms_133 rfl rfl (Nat.le_of_ble_eq_true rfl) (Nat.le_of_ble_eq_true rfl) (Or.inr rfl) (Nat.zero_le _) (Nat.zero_le _) ?_; refine sp_133 (t := t) (n := (neZ f0 t).toNat) (fun G2 hG2 hr2 => ?_) rfl (by omega) e20 (by omega) (by rw [ew2]; omega) hhc hGr; dsimp only [Option.toList_some, Option.toList_none, List.cons_append, List.nil_append]; refine ap_aload_n rfl ?_; refine ap_iload rfl ?_; refine ap_callv0 ow_128 rm_6_179 na_113 mc_113 ms_113 rfl rfl (Nat.le_of_ble_eq_true rfl) (Nat.le_of_ble_eq_true rfl) (Or.inr rfl) (Nat.zero_le _) (Nat.zero_le _) ?_; refine sp_113_29 ?_ (by omega); dsimp only [Option.toList_some, Option.toList_none, List.cons_append, List.nil_append]; refine ap_iload rfl ?_; refine ap_istore rfl ?_; refine ai_iinc rfl rfl ?_; refine ap_goto rfl ?_
      exact am_weak (by first | exact am_le_0 | (repeat (first | exact am_le_0 | refine am_le_n ?_ | refine am_le_s ?_))) (ih (n + 1) ((n : Int) + 1) t _ _ G2 rfl (by omega) (fun a a1 a2 => ((am_up_ne a1).trans (am_up_ne a2)).trans (hf a a1 a2)) (fun j hj => by rw [am_up_eq]; dsimp only; rw [if_neg hj, am_up_ne (by decide)]; exact hfw j hj) (fun a ha => ((hG2 a ha).trans (hG a ha)).trans (hg a ha)) (by rw [am_up_eq]; dsimp only; rw [if_pos rfl, hn]; rfl) (fun i hi => by rw [am_up_ne (by decide), am_up_eq, en]; dsimp only; rw [if_neg (by omega)]; exact hbr i (by omega)) (hRn _ (fun i hi => by rw [am_up_ne (by decide), am_up_eq, en]; dsimp only; rw [if_neg (by omega)]) (by rw [am_up_ne (by decide), am_up_eq, en]; dsimp only; rw [if_pos rfl])) hTn (fun e he => by rw [hr2 e he, ew2]))
    refine ap_go kc_128_10 ?_
    refine ap_iload rfl ?_; refine ai_sipush (by decide) ?_
    refine ai_icge rfl rfl (fun hb0 => ?_) (fun hb0 => ?_) ?_
    · exfalso; omega
    · refine ap_go kc_128_18 ?_
      refine ap_aload_n rfl ?_; refine ap_getR ow_128 rf_6_52 rfl rfl rfl ?_; refine ap_iload rfl ?_; refine ap_callv0 ow_128 rm_6_125 na_99 mc_99 ms_99 rfl rfl (Nat.le_of_ble_eq_true rfl) (Nat.le_of_ble_eq_true rfl) (Or.inr rfl) (Nat.zero_le _) (Nat.zero_le _) ?_; refine sp_99 ?_ ?_; dsimp only [Option.toList_some, Option.toList_none, List.cons_append, List.nil_append]; refine ap_aload_n rfl ?_; refine ai_getI ow_128 rf_6_39 rfl rfl ?_
      refine ai_iceq rfl rfl (fun hb1 => ?_) (fun hb1 => ?_) ?_
      · exfalso; omega
      · refine ap_go kc_128_34 ?_
        refine ap_aload_n rfl ?_; refine ap_aload_n rfl ?_; refine ap_getR ow_128 rf_6_52 rfl rfl rfl ?_; refine ap_iload rfl ?_; refine ap_callv0 ow_128 rm_6_125 na_99 mc_99 ms_99 rfl rfl (Nat.le_of_ble_eq_true rfl) (Nat.le_of_ble_eq_true rfl) (Or.inr rfl) (Nat.zero_le _) (Nat.zero_le _) ?_; refine sp_99 ?_ ?_; dsimp only [Option.toList_some, Option.toList_none, List.cons_append, List.nil_append]; refine ap_callv0 ow_128 rm_6_128 na_132 mc_132 ms_132 rfl rfl (Nat.le_of_ble_eq_true rfl) (Nat.le_of_ble_eq_true rfl) (Or.inr rfl) (Nat.zero_le _) (Nat.zero_le _) ?_; refine sp_132 (h := h) (fun G hG hGr => ?_) (by omega) (by rw [eu]; exact hu) hh hr; dsimp only [Option.toList_some, Option.toList_none, List.cons_append, List.nil_append]; refine ap_aload_n rfl ?_; refine ap_iload rfl ?_; refine ap_lload_n rfl ?_; refine ap_callv0 ow_128 rm_6_175 na_129 mc_129 ms_129 rfl rfl (Nat.le_of_ble_eq_true rfl) (Nat.le_of_ble_eq_true rfl) (Or.inr rfl) (Nat.zero_le _) (Nat.zero_le _) ?_; refine sp_129 (h := chZ (uZ f0 g0 (plZ f0 s).toNat) h) (tz := tz) (fun t ht1 ht hmt hno => ?_) hM (CC_fr hC' (fun _ _ => rfl) (fun a ha => hG a (by omega))) (FK_fr hF' (hG 16 (by decide))) rfl rfl hs hhc (by rw [eu] at hGr; exact hGr) z1 z2 z3; dsimp only [Option.toList_some, Option.toList_none, List.cons_append, List.nil_append]; refine ap_istore rfl ?_; refine ap_iload rfl ?_
        refine ai_ifne rfl rfl (fun hb2 => ?_) (fun hb2 => ?_) ?_
        · rw [eu] at hGr; exact am_weak (by first | exact am_le_0 | (repeat (first | exact am_le_0 | refine am_le_n ?_ | refine am_le_s ?_))) (J62 t G ht1 ht hmt hno hG hGr)
        · exfalso; omega
        all_goals (omega)
      all_goals (omega)
    all_goals (omega)
theorem sp_128_29 {d L : Nat} {sw : Bool} {f g : Nat → Nat → Int} {Q : Option Value → am_H → Prop} {f0 g0 : Nat → Nat → Int} {D : Nat → Option Nat} {D0 : Nat} {z : Int} (K : ∀ F G s h, (∀ a, a ≠ 29 → a ≠ 30 → F a = f a) → (∀ j, j ≠ 1 → F 29 j = f 29 j) → (∀ a, a ≠ 23 → G a = g a) → F 29 1 = ((D0 % 4096 : Nat) : Int) → (∀ i, D0 % 4096 ≤ i → F 30 i = f 30 i) → Rw f0 g0 D D0 (F 30) (D0 % 4096) s h → Q none (53, sh_lt L, iH F, jH G, sh_rt sw)) (hz : z = D0) (hM : MOk f0 g0) (hU : UOk f0) (hC : CC f0 g0 f g) (hF : FK f0 g0 D D0 g) (h1 : f 29 1 = 0) : am_call (d + 4) 128 [.ref 14, .ref 29, .long (lZ z)] (53, sh_lt L, iH f, jH g, sh_rt sw) Q := by
  subst hz
  have h20 := toZ_in f0
  have h4 := hF.2.2.2
  have hT0 := sZ_TI (g0 := g0) hM h4.2 hF.2.2.1 (FK_0 hM hF)
  refine ap_call (by decide) (Nat.le_of_ble_eq_true rfl) rfl ?_
  refine ap_go kc_128_0 ?_
  refine ap_aload_n rfl ?_; refine ap_callv0 ow_128 rm_6_112 na_131 mc_131 ms_131 rfl rfl (Nat.le_of_ble_eq_true rfl) (Nat.le_of_ble_eq_true rfl) (Or.inr rfl) (Nat.zero_le _) (Nat.zero_le _) ?_; refine sp_131 (f0 := f0) (fun G hG hGr => ?_) hC.1.1.2.2.2.2.2 (by omega); dsimp only [Option.toList_some, Option.toList_none, List.cons_append, List.nil_append]; refine ai_iconst ?_; refine ap_istore rfl ?_; refine ai_iconst ?_; refine ap_istore rfl ?_; refine ap_nil ?_
  exact am_weak (by first | exact am_le_0 | (repeat (first | exact am_le_0 | refine am_le_n ?_ | refine am_le_s ?_))) (lp_128_29 hM hU hC hF K (D0 % 4096) 0 0 0 (sZ f0) f G rfl (by omega) (fun _ _ _ => rfl) (fun _ _ => rfl) hG h1 (fun _ _ => rfl) ⟨rfl, rfl⟩ hT0 hGr)
