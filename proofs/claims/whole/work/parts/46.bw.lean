/-! THE REFERENCE: charge(), bestBy() -/
/-- the same map -/
def Gm (f0 g0 f g : Nat → Nat → Int) : Prop := (f 31 1 = f0 31 1 ∧ f 31 5 = f0 31 5 ∧ f 31 15 = f0 31 15 ∧ f 31 16 = f0 31 16 ∧ f 31 17 = f0 31 17 ∧ f 31 18 = f0 31 18) ∧ (f 35 = f0 35 ∧ f 36 = f0 36 ∧ f 39 = f0 39 ∧ f 42 = f0 42) ∧ (g 34 = g0 34 ∧ g 37 = g0 37 ∧ g 38 = g0 38 ∧ g 40 = g0 40 ∧ g 41 = g0 41 ∧ g 31 14 = g0 31 14)
theorem Gm_rfl {f g : Nat → Nat → Int} : Gm f g f g := ⟨⟨rfl, rfl, rfl, rfl, rfl, rfl⟩, ⟨rfl, rfl, rfl, rfl⟩, rfl, rfl, rfl, rfl, rfl, rfl⟩
section GM
variable {f0 g0 f g : Nat → Nat → Int}
theorem Gm_Fr (h : Fr f0 g0 f g) : Gm f0 g0 f g := by
  unfold Gm
  rw [h.1 31 (by decide), h.1 35 (by decide), h.1 36 (by decide), h.1 39 (by decide), h.1 42 (by decide), h.2 34 (by decide), h.2 37 (by decide), h.2 38 (by decide), h.2 40 (by decide), h.2 41 (by decide), h.2 31 (by decide)]
  exact Gm_rfl
theorem Gm_f {f2 : Nat → Nat → Int} {c : Nat} (hc : 45 ≤ c) (h : Gm f0 g0 f g) (h2 : ∀ a, a ≠ c → f2 a = f a) : Gm f0 g0 f2 g := by
  unfold Gm at h ⊢
  rw [h2 31 (by omega), h2 35 (by omega), h2 36 (by omega), h2 39 (by omega), h2 42 (by omega)]
  exact h
theorem Gm_MOk (h : Gm f0 g0 f g) (hM : MOk f0 g0) : MOk f g := by
  obtain ⟨⟨h1, h2, h3, h4, h5, h6⟩, ⟨h7, h8, h9, ha⟩, hb, hc, hd, he, hf, hg⟩ := h
  unfold MOk at hM ⊢
  rw [h1, h2, h3, h4, h5, h6, h7, h8, h9, ha, hb, hc, hd, he, hf, hg]
  exact hM
theorem Gm_pr (h : Gm f0 g0 f g) (t : Nat) : prZ f g t = prZ f0 g0 t := by
  obtain ⟨⟨h1, h2, h3, h4, h5, h6⟩, ⟨h7, h8, h9, ha⟩, hb, hc, hd, he, hf, hg⟩ := h
  unfold prZ spZ
  rw [h5, hc, hd, he, hf, hg]
theorem Gm_un (h : Gm f0 g0 f g) (t : Nat) : unZ f g t = unZ f0 g0 t := by
  obtain ⟨⟨h1, h2, h3, h4, h5, h6⟩, ⟨h7, h8, h9, ha⟩, hb, hc, hd, he, hf, hg⟩ := h
  unfold unZ
  rw [h5, hb]
theorem Gm_ne (h : Gm f0 g0 f g) (t : Nat) : neZ f t = neZ f0 t := by
  unfold neZ
  rw [h.1.2.2.2.2.1, h.2.1.2.2.1]
theorem Gm_to (h : Gm f0 g0 f g) : toZ f = toZ f0 := by
  unfold toZ
  rw [h.1.2.2.2.2.1]
theorem Gm_pl (h : Gm f0 g0 f g) (t : Nat) : plZ f t = plZ f0 t := by
  unfold plZ
  rw [h.1.2.2.1, h.2.1.2.1]
theorem Gm_go (h : Gm f0 g0 f g) (s : Nat) (e : Int) (t : Nat) : goZ f g s e t = goZ f0 g0 s e t := by
  unfold goZ
  rw [Gm_pl h, Gm_pr h, Gm_ne h, h.2.1.1, h.2.1.2.2.2]
end GM
section NWS
variable {f0 g0 f g : Nat → Nat → Int} {D : Nat → Option Nat} {D0 i s t : Nat} {h hc F G : Nat → Int} {c n : Nat → Int}
theorem lab_iff (hL : LI f0 g0 c n) {v d : Nat} : labZ c n v = some d ↔ v < 2541 ∧ 0 ≤ c v ∧ (d : Int) = 4096 * c v + n v := by
  constructor
  · intro q
    obtain ⟨q1, q2, q3⟩ := labZ_some q
    have := hL.1 v q3
    exact ⟨q3, q1, by omega⟩
  · rintro ⟨q1, q2, q3⟩
    have := hL.1 v q1
    unfold labZ
    rw [if_neg (by omega)]
    exact congrArg some (by omega)
/-- the states 'now': those of street s by which the least label is met -/
def NW (f0 : Nat → Nat → Int) (D : Nat → Option Nat) (D0 s : Nat) (h F : Nat → Int) : Prop := ∀ v, v < 2541 → (F v = 0 ∨ F v = 1) ∧ (F v = 1 ↔ v / 21 = s ∧ ((v % 21 : Nat) : Int) ≤ toZ f0 ∧ ∃ d : Nat, D v = some d ∧ h (v % 21) + d = D0)
theorem NW_cg {h2 : Nat → Int} (hN : NW f0 D D0 s h F) (e : ∀ j, j ≤ 20 → h2 j = h j) : NW f0 D D0 s h2 F := by
  intro v hv
  rw [e (v % 21) (by omega)]
  exact hN v hv
theorem NW_at (hN : NW f0 D D0 s h F) (hs : s ≤ 120) {e : Nat} (he : e ≤ 20) (het : (e : Int) ≤ toZ f0) : (F (21 * s + e) = 0 ∨ F (21 * s + e) = 1) ∧ (F (21 * s + e) = 1 ↔ ∃ d : Nat, D (21 * s + e) = some d ∧ h e + d = D0) := by
  have q := hN (21 * s + e) (by omega)
  rw [show (21 * s + e) / 21 = s by omega, show (21 * s + e) % 21 = e by omega] at q
  refine ⟨q.1, q.2.trans ⟨fun z => z.2.2, fun z => ⟨rfl, het, z⟩⟩⟩
theorem NW_off (hN : NW f0 D D0 s h F) {s' e : Nat} (hs' : s' ≠ s) (he : e ≤ 20) (hs2 : s' ≤ 120) : F (21 * s' + e) = 0 := by
  have q := hN (21 * s' + e) (by omega)
  rcases q.1 with z | z
  · exact z
  · have := (q.2.mp z).1
    omega
/-- held, charged up to a level -/
def chP (u : Int) (h : Nat → Int) (e j : Nat) : Int := if j ≤ e then chZ u h j else h j
theorem NW_ch (hM : MOk f0 g0) (hD : mg_D (mE f0 g0) (mT f0) (labZ c n)) (hL : LI f0 g0 c n) (hT : TI f0 g0 (labZ c n) D0 i s h) {e : Nat} (he : e < 20) (hu : uZ f0 g0 (plZ f0 s).toNat ≠ 0) (hN : NW f0 (labZ c n) D0 s (chP (uZ f0 g0 (plZ f0 s).toNat) h e) F) :
    ((F (21 * s + e) = 1 ∧ 0 ≤ c (21 * s + e + 1) ∧ c (21 * s + e + 1) + unZ f0 g0 (plZ f0 s).toNat = c (21 * s + e) ∧ n (21 * s + e + 1) = n (21 * s + e)) → NW f0 (labZ c n) D0 s (chP (uZ f0 g0 (plZ f0 s).toNat) h (e + 1)) (fun x => if x = 21 * s + e + 1 then 1 else F x)) ∧
    (¬ (F (21 * s + e) = 1 ∧ 0 ≤ c (21 * s + e + 1) ∧ c (21 * s + e + 1) + unZ f0 g0 (plZ f0 s).toNat = c (21 * s + e) ∧ n (21 * s + e + 1) = n (21 * s + e)) → NW f0 (labZ c n) D0 s (chP (uZ f0 g0 (plZ f0 s).toNat) h (e + 1)) F) := by
  have m5 := hM.1.2.1
  have hs := hT.2.2.2.2
  obtain ⟨u1, u2, u3⟩ := uZ_ne hM hu
  have st := ch_step hM hD hT he hu
  have a1 := NW_at hN (by omega) (e := e) (by omega) (by omega)
  have a2 := NW_at hN (by omega) (e := e + 1) (by omega) (by omega)
  have e1 : chP (uZ f0 g0 (plZ f0 s).toNat) h e e = chZ (uZ f0 g0 (plZ f0 s).toNat) h e := if_pos (Nat.le_refl e)
  have e2 : chP (uZ f0 g0 (plZ f0 s).toNat) h e (e + 1) = h (e + 1) := if_neg (by omega)
  have e3 : chP (uZ f0 g0 (plZ f0 s).toNat) h (e + 1) (e + 1) = chZ (uZ f0 g0 (plZ f0 s).toNat) h (e + 1) := if_pos (Nat.le_refl _)
  have e4 : ∀ j, j ≠ e + 1 → chP (uZ f0 g0 (plZ f0 s).toNat) h (e + 1) j = chP (uZ f0 g0 (plZ f0 s).toNat) h e j := by
    intro j hj
    unfold chP
    by_cases z : j ≤ e
    · rw [if_pos z, if_pos (by omega)]
    · rw [if_neg z, if_neg (by omega)]
  rw [e1] at a1
  rw [e2] at a2
  have hother : ∀ v, v < 2541 → v ≠ 21 * s + e + 1 → (F v = 0 ∨ F v = 1) ∧ (F v = 1 ↔ v / 21 = s ∧ ((v % 21 : Nat) : Int) ≤ toZ f0 ∧ ∃ d : Nat, labZ c n v = some d ∧ chP (uZ f0 g0 (plZ f0 s).toNat) h (e + 1) (v % 21) + d = D0) := by
    intro v hv hne
    have q := hN v hv
    refine ⟨q.1, ?_⟩
    by_cases z : v / 21 = s
    · rw [e4 (v % 21) (by omega)]; exact q.2
    · exact ⟨fun y => absurd (q.2.mp y).1 z, fun y => absurd y.1 z⟩
  have hequ : (F (21 * s + e) = 1 ∧ 0 ≤ c (21 * s + e + 1) ∧ c (21 * s + e + 1) + unZ f0 g0 (plZ f0 s).toNat = c (21 * s + e) ∧ n (21 * s + e + 1) = n (21 * s + e)) ↔ ((∃ d : Nat, labZ c n (21 * s + e) = some d ∧ chZ (uZ f0 g0 (plZ f0 s).toNat) h e + d = D0) ∧ ∃ d d' : Nat, labZ c n (21 * s + (e + 1)) = some d ∧ labZ c n (21 * s + e) = some d' ∧ (d' : Int) = d + uZ f0 g0 (plZ f0 s).toNat) := by
    have w1 := hL.1 (21 * s + e) (by omega)
    have w2 := hL.1 (21 * s + (e + 1)) (by omega)
    have ea : 21 * s + e + 1 = 21 * s + (e + 1) := by omega
    rw [ea]
    constructor
    · rintro ⟨q1, q2, q3, q4⟩
      obtain ⟨d, q5, q6⟩ := a1.2.mp q1
      refine ⟨⟨d, q5, q6⟩, (4096 * c (21 * s + (e + 1)) + n (21 * s + (e + 1))).toNat, d, (lab_iff hL).mpr ⟨by omega, q2, by omega⟩, q5, ?_⟩
      have := (lab_iff hL).mp q5
      omega
    · rintro ⟨q1, d, d', q2, q3, q4⟩
      have z1 := (lab_iff hL).mp q2
      have z2 := (lab_iff hL).mp q3
      exact ⟨a1.2.mpr q1, by omega, by omega, by omega⟩
  have hv2 : (21 * s + e + 1) / 21 = s ∧ (21 * s + e + 1) % 21 = e + 1 := ⟨by omega, by omega⟩
  rw [← Nat.add_assoc] at a2
  refine ⟨fun hc => fun v hv => ?_, fun hc => fun v hv => ?_⟩
  · by_cases hv1 : v = 21 * s + e + 1
    · subst hv1
      simp only [if_true]
      rw [hv2.1, hv2.2, e3]
      refine ⟨Or.inr trivial, fun _ => ⟨rfl, by omega, st.mpr (Or.inr (hequ.mp hc))⟩, fun _ => trivial⟩
    · simp only [if_neg hv1]
      exact hother v hv hv1
  · by_cases hv1 : v = 21 * s + e + 1
    · subst hv1
      rw [hv2.1, hv2.2, e3]
      refine ⟨a2.1, fun y => ⟨rfl, by omega, st.mpr (Or.inl (a2.2.mp y))⟩, fun y => ?_⟩
      rcases st.mp y.2.2 with z | z
      · exact a2.2.mpr z
      · exact absurd (hequ.mpr z) hc
    · exact hother v hv hv1
end NWS


theorem lp_41n {d L : Nat} {sw : Bool} {Q : Option Value → am_H → Prop} {f g f0 g0 : Nat → Nat → Int} {D : Nat → Option Nat} {D0 s s' : Nat} {h : Nat → Int} (hM : MOk f0 g0) (hG : Gm f0 g0 f g) (hs' : (s' : Int) ≤ f0 31 5) (hne : s' ≠ s) (hN : NW f0 D D0 s h (f 45)) (K : am_Wp (am_call (d + 1)) 41 Q 128 [some (.ref 31), some (.int (iZ (s' : Int))), none, none, none, none] [] (53, sh_lt L, iH f, jH g, sh_rt sw) (0, 0)) : ∀ (k e : Nat) (i : Int), i = e → toZ f0 = e + k → am_Wp (am_call (d + 1)) 41 Q 23 [some (.ref 31), some (.int (iZ (s' : Int))), some (.long (lZ (unZ f0 g0 (plZ f0 s').toNat))), none, some (.int (iZ i)), none] [] (53, sh_lt L, iH f, jH g, sh_rt sw) (0, 0) := by
  intro k
  have m5 := hM.1.2.1
  have h20 := toZ_in f0
  have hM' := Gm_MOk hG hM
  have e6 := Gm_to hG
  have hun := unZ_in hM (plZ f0 s').toNat
  induction k with
  | zero =>
    intro e i hi hk
    subst hi
    refine ap_go kc_41_23 ?_
    refine ap_iload rfl ?_; refine ap_aload_n rfl ?_; refine ap_callv0 ow_41 rm_8_127 na_35 mc_35 ms_35 rfl rfl (Nat.le_of_ble_eq_true rfl) (Nat.le_of_ble_eq_true rfl) (Or.inr rfl) (Nat.zero_le _) (Nat.zero_le _) ?_; refine sp_35 ?_ hM'; dsimp only [Option.toList_some, Option.toList_none, List.cons_append, List.nil_append]
    refine ai_icge rfl rfl (fun hb0 => ?_) (fun hb0 => ?_) ?_
    · exact am_weak (by first | exact am_le_0 | (repeat (first | exact am_le_0 | refine am_le_n ?_ | refine am_le_s ?_))) K
    · exfalso; omega
    all_goals (omega)
  | succ k ih =>
    intro e i hi hk
    subst hi
    have h0 := NW_off hN hne (e := e) (by omega) (by omega)
    rw [show 21 * s' + e = (21 * (s' : Int) + e).toNat by omega] at h0
    refine ap_go kc_41_23 ?_
    refine ap_iload rfl ?_; refine ap_aload_n rfl ?_; refine ap_callv0 ow_41 rm_8_127 na_35 mc_35 ms_35 rfl rfl (Nat.le_of_ble_eq_true rfl) (Nat.le_of_ble_eq_true rfl) (Or.inr rfl) (Nat.zero_le _) (Nat.zero_le _) ?_; refine sp_35 ?_ hM'; dsimp only [Option.toList_some, Option.toList_none, List.cons_append, List.nil_append]
    refine ai_icge rfl rfl (fun hb0 => ?_) (fun hb0 => ?_) ?_
    · first | exact am_weak (by first | exact am_le_0 | (repeat (first | exact am_le_0 | refine am_le_n ?_ | refine am_le_s ?_))) K | (exfalso; omega)
    · refine ap_go kc_41_32 ?_
      refine ap_lload_n rfl ?_; refine ai_lconst 0 rfl ?_
      refine ai_lclt rfl rfl (fun hb1 => ?_) (fun hb1 => ?_) ?_
      · first | exact am_weak (by first | exact am_le_0 | (repeat (first | exact am_le_0 | refine am_le_n ?_ | refine am_le_s ?_))) K | (exfalso; omega)
      · refine ap_go kc_41_38 ?_
        refine ai_bipush (by decide) ?_; refine ap_iload_n rfl ?_; refine ai_imul ?_; refine ap_iload rfl ?_; refine ai_iadd ?_; refine ap_istore rfl ?_; refine ap_aload_n rfl ?_; refine ap_getR ow_41 rf_8_55 rfl rfl rfl ?_; refine ap_iload rfl ?_; refine ai_baload (n := 2541) rfl rfl (by decide) ?_ ?_
        refine ai_ifeq rfl rfl (fun hb2 => ?_) (fun hb2 => ?_) ?_
        · refine ap_go kc_41_122 ?_
          refine ai_iinc rfl rfl ?_; refine ap_goto rfl ?_
          exact am_weak (by first | exact am_le_0 | (repeat (first | exact am_le_0 | refine am_le_n ?_ | refine am_le_s ?_))) (ih (e + 1) (e + 1) rfl (by omega))
        · exfalso; omega
        all_goals (omega)
      all_goals (omega)
    all_goals (omega)
theorem lp_41c {d L : Nat} {sw : Bool} {Q : Option Value → am_H → Prop} {f0 g0 g : Nat → Nat → Int} {D0 i s : Nat} {h n : Nat → Int} (hM : MOk f0 g0) (hD : mg_D (mE f0 g0) (mT f0) (labZ (g 43) n)) (hL : LI f0 g0 (g 43) n) (hT : TI f0 g0 (labZ (g 43) n) D0 i s h) (hu : uZ f0 g0 (plZ f0 s).toNat ≠ 0) {fb : Nat → Nat → Int} (hn : fb 44 = n) (hG0 : Gm f0 g0 fb g) (K : ∀ f, (∀ a, a ≠ 45 → f a = fb a) → NW f0 (labZ (g 43) n) D0 s (chP (uZ f0 g0 (plZ f0 s).toNat) h 20) (f 45) → am_Wp (am_call (d + 1)) 41 Q 128 [some (.ref 31), some (.int (iZ (s : Int))), none, none, none, none] [] (53, sh_lt L, iH f, jH g, sh_rt sw) (0, 0)) : ∀ (k e : Nat) (i : Int) (f : Nat → Nat → Int), i = e → 20 = e + k → (∀ a, a ≠ 45 → f a = fb a) → NW f0 (labZ (g 43) n) D0 s (chP (uZ f0 g0 (plZ f0 s).toNat) h e) (f 45) → am_Wp (am_call (d + 1)) 41 Q 23 [some (.ref 31), some (.int (iZ (s : Int))), some (.long (lZ (unZ f0 g0 (plZ f0 s).toNat))), none, some (.int (iZ i)), none] [] (53, sh_lt L, iH f, jH g, sh_rt sw) (0, 0) := by
  intro k
  have m5 := hM.1.2.1
  have hs := hT.2.2.2.2
  obtain ⟨u1, u2, u3⟩ := uZ_ne hM hu
  have hun := unZ_in hM (plZ f0 s).toNat
  induction k with
  | zero =>
    intro e i f hi hk hf hN
    subst hi
    have hM' := Gm_MOk (Gm_f (Nat.le_refl 45) hG0 hf) hM
    have e6 := Gm_to (Gm_f (Nat.le_refl 45) hG0 hf)
    refine ap_go kc_41_23 ?_
    refine ap_iload rfl ?_; refine ap_aload_n rfl ?_; refine ap_callv0 ow_41 rm_8_127 na_35 mc_35 ms_35 rfl rfl (Nat.le_of_ble_eq_true rfl) (Nat.le_of_ble_eq_true rfl) (Or.inr rfl) (Nat.zero_le _) (Nat.zero_le _) ?_; refine sp_35 ?_ hM'; dsimp only [Option.toList_some, Option.toList_none, List.cons_append, List.nil_append]
    refine ai_icge rfl rfl (fun hb0 => ?_) (fun hb0 => ?_) ?_
    · exact am_weak (by first | exact am_le_0 | (repeat (first | exact am_le_0 | refine am_le_n ?_ | refine am_le_s ?_))) (K f hf (by rw [hk]; exact hN))
    · exfalso; omega
    all_goals (omega)
  | succ k ih =>
    intro e i f hi hk hf hN
    subst hi
    have hG := Gm_f (Nat.le_refl 45) hG0 hf
    have hM' := Gm_MOk hG hM
    have e6 := Gm_to hG
    have eA : (21 * (s : Int) + e).toNat = 21 * s + e := by omega
    have eB : (21 * (s : Int) + e + 1).toNat = 21 * s + e + 1 := by omega
    have w1 := hL.1 (21 * s + e) (by omega)
    have w2 := hL.1 (21 * s + e + 1) (by omega)
    have b1 := LI_bd hM hL (v := 21 * s + e) (by omega)
    have b2 := LI_bd hM hL (v := 21 * s + e + 1) (by omega)
    have hn' : f 44 = n := (hf 44 (by decide)).trans hn
    have p1 := (hN (21 * s + e) (by omega)).1
    have hst := NW_ch hM hD hL hT (e := e) (by omega) hu hN
    rw [← hn'] at hst w1 w2 b1 b2
    rw [← eA] at hst w1 b1 p1
    rw [show (21 * (s : Int) + e).toNat + 1 = (21 * (s : Int) + e + 1).toNat by omega] at hst
    rw [← eA, show (21 * (s : Int) + e).toNat + 1 = (21 * (s : Int) + e + 1).toNat by omega] at w2 b2
    refine ap_go kc_41_23 ?_
    refine ap_iload rfl ?_; refine ap_aload_n rfl ?_; refine ap_callv0 ow_41 rm_8_127 na_35 mc_35 ms_35 rfl rfl (Nat.le_of_ble_eq_true rfl) (Nat.le_of_ble_eq_true rfl) (Or.inr rfl) (Nat.zero_le _) (Nat.zero_le _) ?_; refine sp_35 ?_ hM'; dsimp only [Option.toList_some, Option.toList_none, List.cons_append, List.nil_append]
    refine ai_icge rfl rfl (fun hb0 => ?_) (fun hb0 => ?_) ?_
    · exfalso; omega
    · refine ap_go kc_41_32 ?_
      refine ap_lload_n rfl ?_; refine ai_lconst 0 rfl ?_
      refine ai_lclt rfl rfl (fun hb1 => ?_) (fun hb1 => ?_) ?_
      · exfalso; omega
      · refine ap_go kc_41_38 ?_
        refine ai_bipush (by decide) ?_; refine ap_iload_n rfl ?_; refine ai_imul ?_; refine ap_iload rfl ?_; refine ai_iadd ?_; refine ap_istore rfl ?_; refine ap_aload_n rfl ?_; refine ap_getR ow_41 rf_8_55 rfl rfl rfl ?_; refine ap_iload rfl ?_; refine ai_baload (n := 2541) rfl rfl (by decide) ?_ ?_
        refine ai_ifeq rfl rfl (fun hb2 => ?_) (fun hb2 => ?_) ?_
        · refine ap_go kc_41_122 ?_
          refine ai_iinc rfl rfl ?_; refine ap_goto rfl ?_
          first | exact am_weak (by first | exact am_le_0 | (repeat (first | exact am_le_0 | refine am_le_n ?_ | refine am_le_s ?_))) (ih (e + 1) (e + 1) f rfl (by omega) hf (by rw [hn'] at hst; exact hst.2 (by rw [← hn']; omega))) | exact am_weak (by first | exact am_le_0 | (repeat (first | exact am_le_0 | refine am_le_n ?_ | refine am_le_s ?_))) (ih (e + 1) (e + 1) (am_up f 45 _ 1) rfl (by omega) (fun a ha => (am_up_ne ha).trans (hf a ha)) (by rw [am_up_eq]; have q := hst.1 ⟨by omega, by omega, by omega, by omega⟩; rw [hn'] at q; exact q))
        · refine ap_go kc_41_57 ?_
          refine ap_aload_n rfl ?_; refine ap_getR ow_41 rf_8_49 rfl rfl rfl ?_; refine ap_iload rfl ?_; refine ai_iconst ?_; refine ai_iadd ?_; refine ai_laload (n := 2541) rfl rfl (by decide) ?_ ?_; refine ai_lconst 0 rfl ?_
          refine ai_lclt rfl rfl (fun hb3 => ?_) (fun hb3 => ?_) ?_
          · refine ap_go kc_41_122 ?_
            refine ai_iinc rfl rfl ?_; refine ap_goto rfl ?_
            first | exact am_weak (by first | exact am_le_0 | (repeat (first | exact am_le_0 | refine am_le_n ?_ | refine am_le_s ?_))) (ih (e + 1) (e + 1) f rfl (by omega) hf (by rw [hn'] at hst; exact hst.2 (by rw [← hn']; omega))) | exact am_weak (by first | exact am_le_0 | (repeat (first | exact am_le_0 | refine am_le_n ?_ | refine am_le_s ?_))) (ih (e + 1) (e + 1) (am_up f 45 _ 1) rfl (by omega) (fun a ha => (am_up_ne ha).trans (hf a ha)) (by rw [am_up_eq]; have q := hst.1 ⟨by omega, by omega, by omega, by omega⟩; rw [hn'] at q; exact q))
          · refine ap_go kc_41_71 ?_
            refine ap_aload_n rfl ?_; refine ap_getR ow_41 rf_8_49 rfl rfl rfl ?_; refine ap_iload rfl ?_; refine ai_iconst ?_; refine ai_iadd ?_; refine ai_laload (n := 2541) rfl rfl (by decide) ?_ ?_; refine ap_lload_n rfl ?_; refine ai_ladd ?_; refine ap_aload_n rfl ?_; refine ap_getR ow_41 rf_8_49 rfl rfl rfl ?_; refine ap_iload rfl ?_; refine ai_laload (n := 2541) rfl rfl (by decide) ?_ ?_
            refine ai_lcne rfl rfl (fun hb4 => ?_) (fun hb4 => ?_) ?_
            · refine ap_go kc_41_122 ?_
              refine ai_iinc rfl rfl ?_; refine ap_goto rfl ?_
              first | exact am_weak (by first | exact am_le_0 | (repeat (first | exact am_le_0 | refine am_le_n ?_ | refine am_le_s ?_))) (ih (e + 1) (e + 1) f rfl (by omega) hf (by rw [hn'] at hst; exact hst.2 (by rw [← hn']; omega))) | exact am_weak (by first | exact am_le_0 | (repeat (first | exact am_le_0 | refine am_le_n ?_ | refine am_le_s ?_))) (ih (e + 1) (e + 1) (am_up f 45 _ 1) rfl (by omega) (fun a ha => (am_up_ne ha).trans (hf a ha)) (by rw [am_up_eq]; have q := hst.1 ⟨by omega, by omega, by omega, by omega⟩; rw [hn'] at q; exact q))
            · refine ap_go kc_41_93 ?_
              refine ap_aload_n rfl ?_; refine ap_getR ow_41 rf_8_52 rfl rfl rfl ?_; refine ap_iload rfl ?_; refine ai_iconst ?_; refine ai_iadd ?_; refine ai_iaload (n := 2541) rfl rfl (by decide) ?_ ?_; refine ap_aload_n rfl ?_; refine ap_getR ow_41 rf_8_52 rfl rfl rfl ?_; refine ap_iload rfl ?_; refine ai_iaload (n := 2541) rfl rfl (by decide) ?_ ?_
              refine ai_icne rfl rfl (fun hb5 => ?_) (fun hb5 => ?_) ?_
              · refine ap_go kc_41_122 ?_
                refine ai_iinc rfl rfl ?_; refine ap_goto rfl ?_
                first | exact am_weak (by first | exact am_le_0 | (repeat (first | exact am_le_0 | refine am_le_n ?_ | refine am_le_s ?_))) (ih (e + 1) (e + 1) f rfl (by omega) hf (by rw [hn'] at hst; exact hst.2 (by rw [← hn']; omega))) | exact am_weak (by first | exact am_le_0 | (repeat (first | exact am_le_0 | refine am_le_n ?_ | refine am_le_s ?_))) (ih (e + 1) (e + 1) (am_up f 45 _ 1) rfl (by omega) (fun a ha => (am_up_ne ha).trans (hf a ha)) (by rw [am_up_eq]; have q := hst.1 ⟨by omega, by omega, by omega, by omega⟩; rw [hn'] at q; exact q))
              · refine ap_go kc_41_112 ?_
                refine ap_aload_n rfl ?_; refine ap_getR ow_41 rf_8_55 rfl rfl rfl ?_; refine ap_iload rfl ?_; refine ai_iconst ?_; refine ai_iadd ?_; refine ai_iconst ?_; refine ai_bastore (n := 2541) rfl rfl (by decide) ?_ ?_ ?_; refine ap_nil ?_
                · refine ap_go kc_41_122 ?_
                  refine ai_iinc rfl rfl ?_; refine ap_goto rfl ?_
                  first | exact am_weak (by first | exact am_le_0 | (repeat (first | exact am_le_0 | refine am_le_n ?_ | refine am_le_s ?_))) (ih (e + 1) (e + 1) f rfl (by omega) hf (by rw [hn'] at hst; exact hst.2 (by rw [← hn']; omega))) | exact am_weak (by first | exact am_le_0 | (repeat (first | exact am_le_0 | refine am_le_n ?_ | refine am_le_s ?_))) (ih (e + 1) (e + 1) (am_up f 45 _ 1) rfl (by omega) (fun a ha => (am_up_ne ha).trans (hf a ha)) (by rw [am_up_eq]; have q := hst.1 ⟨by omega, by omega, by omega, by omega⟩; rw [hn'] at q; exact q))
                all_goals (omega)
              all_goals (omega)
            all_goals (omega)
          all_goals (omega)
        all_goals (omega)
      all_goals (omega)
    all_goals (omega)
/-- charge(): what is held is charged -/
theorem lp_41 {d L : Nat} {sw : Bool} {Q : Option Value → am_H → Prop} {f0 g0 g : Nat → Nat → Int} {D0 i s : Nat} {h n : Nat → Int} (hM : MOk f0 g0) (hD : mg_D (mE f0 g0) (mT f0) (labZ (g 43) n)) (hL : LI f0 g0 (g 43) n) (hT : TI f0 g0 (labZ (g 43) n) D0 i s h) {fb : Nat → Nat → Int} (hn : fb 44 = n) (hG0 : Gm f0 g0 fb g) (K : ∀ f, (∀ a, a ≠ 45 → f a = fb a) → NW f0 (labZ (g 43) n) D0 s (chZ (uZ f0 g0 (plZ f0 s).toNat) h) (f 45) → Q none (53, sh_lt L, iH f, jH g, sh_rt sw)) : ∀ (k s' : Nat) (i : Int) (f : Nat → Nat → Int), i = s' → f0 31 5 + 1 = s' + k → (∀ a, a ≠ 45 → f a = fb a) → (s' ≤ s → NW f0 (labZ (g 43) n) D0 s h (f 45)) → (s < s' → NW f0 (labZ (g 43) n) D0 s (chZ (uZ f0 g0 (plZ f0 s).toNat) h) (f 45)) → am_Wp (am_call (d + 1)) 41 Q 2 [some (.ref 31), some (.int (iZ i)), none, none, none, none] [] (53, sh_lt L, iH f, jH g, sh_rt sw) (0, 0) := by
  intro k
  have m5 := hM.1.2.1
  have hs := hT.2.2.2.2
  induction k with
  | zero =>
    intro s' i f hi hk hf h1 h2
    subst hi
    have hG := Gm_f (Nat.le_refl 45) hG0 hf
    have e5 := hG.1.2.1
    refine ap_go kc_41_2 ?_
    refine ap_iload_n rfl ?_; refine ap_aload_n rfl ?_; refine ai_getI ow_41 rf_8_88 rfl rfl ?_
    refine ai_icgt rfl rfl (fun hb0 => ?_) (fun hb0 => ?_) ?_
    · refine ap_go kc_41_134 ?_
      refine ap_vret rfl ?_
      exact K f hf (h2 (by omega))
    · exfalso; omega
    all_goals (omega)
  | succ k ih =>
    intro s' i f hi hk hf h1 h2
    subst hi
    have hG := Gm_f (Nat.le_refl 45) hG0 hf
    have e5 := hG.1.2.1
    have hM' := Gm_MOk hG hM
    have hpl := plZ_in hM' s'
    have J : ∀ f, (∀ a, a ≠ 45 → f a = fb a) → (s' + 1 ≤ s → NW f0 (labZ (g 43) n) D0 s h (f 45)) → (s < s' + 1 → NW f0 (labZ (g 43) n) D0 s (chZ (uZ f0 g0 (plZ f0 s).toNat) h) (f 45)) → am_Wp (am_call (d + 1)) 41 Q 128 [some (.ref 31), some (.int (iZ (s' : Int))), none, none, none, none] [] (53, sh_lt L, iH f, jH g, sh_rt sw) (0, 0) := by
      intro f hf h1 h2
      refine ap_go kc_41_128 ?_
      refine ai_iinc rfl rfl ?_; refine ap_goto rfl ?_
      exact am_weak (by first | exact am_le_0 | (repeat (first | exact am_le_0 | refine am_le_n ?_ | refine am_le_s ?_))) (ih (s' + 1) (s' + 1) f rfl (by omega) hf h1 h2)
    have h20 := toZ_in f0
    have J2 : am_Wp (am_call (d + 1)) 41 Q 23 [some (.ref 31), some (.int (iZ (s' : Int))), some (.long (lZ (unZ f0 g0 (plZ f0 s').toNat))), none, some (.int (iZ 0)), none] [] (53, sh_lt L, iH f, jH g, sh_rt sw) (0, 0) := by
      by_cases hss : s' = s
      · subst hss
        have hN := h1 (Nat.le_refl _)
        by_cases hu : uZ f0 g0 (plZ f0 s').toNat = 0
        · have hun : unZ f0 g0 (plZ f0 s').toNat < 0 := by
            apply Classical.byContradiction
            intro z
            have := unZ_pos hM (n := (plZ f0 s').toNat) (by omega)
            unfold uZ at hu
            rw [if_neg z] at hu
            omega
          have hN2 : NW f0 (labZ (g 43) n) D0 s' (chZ (uZ f0 g0 (plZ f0 s').toNat) h) (f 45) := by rw [hu]; exact NW_cg hN (fun j _ => chZ_0 h j)
          have hun2 := unZ_in hM (plZ f0 s').toNat
          have e6 := Gm_to hG
          have J' := J f hf (fun z => by omega) (fun _ => hN2)
          refine ap_go kc_41_23 ?_
          refine ap_iload rfl ?_; refine ap_aload_n rfl ?_; refine ap_callv0 ow_41 rm_8_127 na_35 mc_35 ms_35 rfl rfl (Nat.le_of_ble_eq_true rfl) (Nat.le_of_ble_eq_true rfl) (Or.inr rfl) (Nat.zero_le _) (Nat.zero_le _) ?_; refine sp_35 ?_ hM'; dsimp only [Option.toList_some, Option.toList_none, List.cons_append, List.nil_append]
          refine ai_icge rfl rfl (fun hb0 => ?_) (fun hb0 => ?_) ?_
          · exact am_weak (by first | exact am_le_0 | (repeat (first | exact am_le_0 | refine am_le_n ?_ | refine am_le_s ?_))) J'
          · refine ap_go kc_41_32 ?_
            refine ap_lload_n rfl ?_; refine ai_lconst 0 rfl ?_
            refine ai_lclt rfl rfl (fun hb1 => ?_) (fun hb1 => ?_) ?_
            · exact am_weak (by first | exact am_le_0 | (repeat (first | exact am_le_0 | refine am_le_n ?_ | refine am_le_s ?_))) J'
            · exfalso; omega
            all_goals (omega)
          all_goals (omega)
        · refine lp_41c hM hD hL hT hu hn hG0 ?_ 20 0 0 f rfl rfl hf (NW_cg hN fun j hj => ?_)
          · intro f hf hN
            refine J f hf (fun z => by omega) (fun _ => NW_cg hN fun j hj => ?_)
            unfold chP
            rw [if_pos hj]
          · unfold chP
            split
            · rw [show j = 0 by omega]; rfl
            · rfl
      · rcases Nat.lt_or_gt_of_ne hss with hlt | hgt
        · exact lp_41n (h := h) hM hG (by omega) hss (h1 (by omega)) (J f hf (fun z => h1 (by omega)) (fun z => by omega)) (toZ f0).toNat 0 0 rfl (by omega)
        · exact lp_41n (h := chZ (uZ f0 g0 (plZ f0 s).toNat) h) hM hG (by omega) hss (h2 (by omega)) (J f hf (fun z => by omega) (fun z => h2 (by omega))) (toZ f0).toNat 0 0 rfl (by omega)
    refine ap_go kc_41_2 ?_
    refine ap_iload_n rfl ?_; refine ap_aload_n rfl ?_; refine ai_getI ow_41 rf_8_88 rfl rfl ?_
    refine ai_icgt rfl rfl (fun hb0 => ?_) (fun hb0 => ?_) ?_
    · exfalso; omega
    · refine ap_go kc_41_10 ?_
      refine ap_aload_n rfl ?_; refine ap_aload_n rfl ?_; refine ap_iload_n rfl ?_; refine ap_callv0 ow_41 rm_8_116 na_37 mc_37 ms_37 rfl rfl (Nat.le_of_ble_eq_true rfl) (Nat.le_of_ble_eq_true rfl) (Or.inr rfl) (Nat.zero_le _) (Nat.zero_le _) ?_; refine sp_37 ?_ ?_; try dsimp only [Int.toNat_natCast]; dsimp only [Option.toList_some, Option.toList_none, List.cons_append, List.nil_append]; refine ap_callv0 ow_41 rm_8_134 na_34 mc_34 ms_34 rfl rfl (Nat.le_of_ble_eq_true rfl) (Nat.le_of_ble_eq_true rfl) (Or.inr rfl) (Nat.zero_le _) (Nat.zero_le _) ?_; refine sp_34 ?_ hM' ?_; rw [Gm_pl hG, Gm_un hG]; dsimp only [Option.toList_some, Option.toList_none, List.cons_append, List.nil_append]; refine ap_lstore_n rfl ?_; refine ai_iconst ?_; refine ap_istore rfl ?_; refine ap_nil ?_
      · exact am_weak (by first | exact am_le_0 | (repeat (first | exact am_le_0 | refine am_le_n ?_ | refine am_le_s ?_))) J2
      all_goals (omega)
    all_goals (omega)
theorem sp_41 {d L : Nat} {sw : Bool} {f g : Nat → Nat → Int} {Q : Option Value → am_H → Prop} {f0 g0 : Nat → Nat → Int} {D0 i s : Nat} {h : Nat → Int} (K : ∀ f2, (∀ a, a ≠ 45 → f2 a = f a) → NW f0 (labZ (g 43) (f 44)) D0 s (chZ (uZ f0 g0 (plZ f0 s).toNat) h) (f2 45) → Q none (53, sh_lt L, iH f2, jH g, sh_rt sw)) (hM : MOk f0 g0) (hD : mg_D (mE f0 g0) (mT f0) (labZ (g 43) (f 44))) (hL : LI f0 g0 (g 43) (f 44)) (hT : TI f0 g0 (labZ (g 43) (f 44)) D0 i s h) (hG : Gm f0 g0 f g) (hN : NW f0 (labZ (g 43) (f 44)) D0 s h (f 45)) : am_call (d + 2) 41 [.ref 31] (53, sh_lt L, iH f, jH g, sh_rt sw) Q := by
  have m5 := hM.1.2.1
  refine ap_call (by decide) (Nat.le_of_ble_eq_true rfl) rfl ?_
  refine ap_go kc_41_0 ?_
  refine ai_iconst ?_; refine ap_istore_n rfl ?_; refine ap_nil ?_
  exact am_weak (by first | exact am_le_0 | (repeat (first | exact am_le_0 | refine am_le_n ?_ | refine am_le_s ?_))) (lp_41 hM hD hL hT rfl hG K (f0 31 5 + 1).toNat 0 0 f rfl (by omega) (fun _ _ => rfl) (fun _ => hN) (fun z => by omega))
