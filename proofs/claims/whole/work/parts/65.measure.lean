/-! THE CLASS'S measureBackwards() -/
/-- the states looked at so far -/
def Rt (f0 : Nat → Nat → Int) (s e v : Nat) : Prop := v / lvN f0 < s ∨ (v / lvN f0 = s ∧ v % lvN f0 < e)
theorem cT_v {f0 g0 : Nat → Nat → Int} (hM : MOk f0 g0) {v : Nat} (hv : v < nN f0) : cT f0 v ↔ plZ f0 (v / lvN f0) = f0 31 16 := by
  have h1 := nN_s hv
  obtain ⟨h2, h3⟩ := lv_v (f0 := f0) v
  have m5 := hM.1.2.1
  have := cT_iff hM (s := v / lvN f0) (e := v % lvN f0) (by omega) h3
  rw [← h2] at this
  exact this
theorem D0_ok {T R : Nat → Prop} {M : Nat} {k : Nat → Int} (h : D0I T M R k) : KOk M k := fun u hu => by
  rcases h u hu with z | z
  · rw [z.1]; decide
  · rw [z.1]; decide
theorem TL_F {M : Nat} {l : List Nat} {f g F : Nat → Nat → Int} {x : Int} (h : TL M l f g x F) : FrF f F := by
  rcases h with ⟨_, h2, _⟩ | ⟨u, _, _, _, _, _, h, _⟩
  · rw [h2]; exact fun _ _ _ _ => rfl
  · exact h
theorem TL_r {M : Nat} {l : List Nat} {f g F : Nat → Nat → Int} {x : Int} (h : TL M l f g x F) (hM : M ≤ 2541) : -1 ≤ x ∧ x < 2541 := by
  rcases h with ⟨h1, _⟩ | ⟨u, h1, h2, _⟩ <;> omega
theorem lp_126e {d L : Nat} {sw : Bool} {Q : Option Value → am_H → Prop} {f0 g0 fb gb : Nat → Nat → Int} {s : Nat} (hM : MOk f0 g0) (hC : CC f0 g0 fb gb) (hs1 : 1 ≤ s) (hs : (s : Int) ≤ f0 31 5) (hto : plZ f0 s = f0 31 16) (K : ∀ f g, FrF fb f → FrG gb g → HF (nN f0) [] f g → D0I (cT f0) (nN f0) (Rt f0 (s + 1) 0) (g 16) → am_Wp (am_call (d + 3)) 126 Q 82 [some (.ref 14), some (.int (iZ (lvN f0 : Int))), some (.int (iZ (nN f0 : Int))), some (.int (iZ (s : Int))), none] [] (53, sh_lt L, iH f, jH g, sh_rt sw) (0, 0)) : ∀ (k e : Nat) (i : Int) (f g : Nat → Nat → Int), i = e → lvN f0 = e + k → FrF fb f → FrG gb g → HF (nN f0) [] f g → D0I (cT f0) (nN f0) (Rt f0 s e) (g 16) → am_Wp (am_call (d + 3)) 126 Q 41 [some (.ref 14), some (.int (iZ (lvN f0 : Int))), some (.int (iZ (nN f0 : Int))), some (.int (iZ (s : Int))), some (.int (iZ i))] [] (53, sh_lt L, iH f, jH g, sh_rt sw) (0, 0) := by
  intro k
  have m5 := hM.1.2.1
  have hNN := nN_in hM
  have h20 := toZ_in f0
  have hlv : 1 ≤ lvN f0 ∧ lvN f0 ≤ 21 := by unfold lvN; omega
  have hpl := plZ_in hM s
  induction k with
  | zero =>
    intro e i f g hi hk hf hg hH h0
    subst hi
    have J := K f g hf hg hH (dj_ts h0 (fun v _ hR => by
      have := (lv_v (f0 := f0) v).2
      unfold Rt at hR ⊢
      omega))
    refine ap_go kc_126_41 ?_
    refine ap_iload rfl ?_; refine ap_iload_n rfl ?_
    refine ai_icge rfl rfl (fun hb0 => ?_) (fun hb0 => ?_) ?_
    · exact am_weak (by first | exact am_le_0 | (repeat (first | exact am_le_0 | refine am_le_n ?_ | refine am_le_s ?_))) J
    · exfalso; omega
    all_goals (omega)
  | succ k ih =>
    intro e i f g hi hk hf hg hH h0
    subst hi
    have hC' : CC f0 g0 f g := CC_fr hC (fun a ha => hf a (by omega) (by omega) (by omega)) (fun a ha => hg a (by omega))
    have e7 : f 7 ((s : Nat) : Int).toNat = plZ f0 s := (hC'.1.2.2.1 s hs).1
    have e9 : f 14 9 = f0 31 16 := hC'.1.1.2.2.2.1
    have hT : cT f0 (s * lvN f0 + e) := (cT_iff hM hs (by omega)).mpr hto
    have hv := nN_lt (f0 := f0) (e := e) hs (by omega)
    have h1 : D0I (cT f0) (nN f0) (Rt f0 s (e + 1)) (fq_l (g 16) (s * lvN f0 + e) 0) := dj_t0 h0 hT (fun v' hR => by
      by_cases z : v' = s * lvN f0 + e
      · exact Or.inr z
      · left
        have := lv_v (f0 := f0) v'
        unfold Rt at hR ⊢
        rcases hR with hR | ⟨r1, r2⟩
        · exact Or.inl hR
        · refine Or.inr ⟨r1, ?_⟩
          rw [r1] at this
          omega)
    refine ap_go kc_126_41 ?_
    refine ap_iload rfl ?_; refine ap_iload_n rfl ?_
    refine ai_icge rfl rfl (fun hb0 => ?_) (fun hb0 => ?_) ?_
    · exfalso; omega
    · refine ap_go kc_126_47 ?_
      refine ap_aload_n rfl ?_; refine ap_getR ow_126 rf_6_52 rfl rfl rfl ?_; refine ap_iload_n rfl ?_; refine ap_callv0 ow_126 rm_6_125 na_99 mc_99 ms_99 rfl rfl (Nat.le_of_ble_eq_true rfl) (Nat.le_of_ble_eq_true rfl) (Or.inr rfl) (Nat.zero_le _) (Nat.zero_le _) ?_; refine sp_99 ?_ ?_; dsimp only [Option.toList_some, Option.toList_none, List.cons_append, List.nil_append]; refine ap_aload_n rfl ?_; refine ai_getI ow_126 rf_6_39 rfl rfl ?_
      refine ai_icne rfl rfl (fun hb1 => ?_) (fun hb1 => ?_) ?_
      · exfalso; omega
      · refine ap_go kc_126_62 ?_
        refine ap_aload_n rfl ?_; refine ap_getR ow_126 rf_6_12 rfl rfl rfl ?_; refine ap_iload_n rfl ?_; refine ap_iload_n rfl ?_; refine ai_imul ?_; refine ap_iload rfl ?_; refine ai_iadd ?_; refine ai_lconst 0 rfl ?_; refine ap_callv0 ow_126 rm_6_164 na_63 mc_63 ms_63 rfl rfl (Nat.le_of_ble_eq_true rfl) (Nat.le_of_ble_eq_true rfl) (Or.inr rfl) (Nat.zero_le _) (Nat.zero_le _) ?_; refine sp_63 (v := s * lvN f0 + e) (fun F G hF hG e16 hH2 => ?_) (by simp only [Int.natCast_add, Int.natCast_mul]) hNN.2 (D0_ok h0) hH hv (fun _ => List.not_mem_nil) (by omega); dsimp only [Option.toList_some, Option.toList_none, List.cons_append, List.nil_append]; refine ai_iinc rfl rfl ?_; refine ap_goto rfl ?_
        exact am_weak (by first | exact am_le_0 | (repeat (first | exact am_le_0 | refine am_le_n ?_ | refine am_le_s ?_))) (ih (e + 1) (e + 1) F G rfl (by omega) (fun a a1 a2 a3 => (hF a a1 a2 a3).trans (hf a a1 a2 a3)) (fun a a1 => (hG a a1).trans (hg a a1)) hH2 (by rw [e16]; exact h1))
      all_goals (omega)
    all_goals (omega)
theorem lp_126s {d L : Nat} {sw : Bool} {Q : Option Value → am_H → Prop} {f0 g0 fb gb : Nat → Nat → Int} (hM : MOk f0 g0) (hC : CC f0 g0 fb gb) (K : ∀ f g, FrF fb f → FrG gb g → HF (nN f0) [] f g → D0I (cT f0) (nN f0) (Rt f0 ((f0 31 5).toNat + 1) 0) (g 16) → am_Wp (am_call (d + 3)) 126 Q 88 [some (.ref 14), some (.int (iZ (lvN f0 : Int))), some (.int (iZ (nN f0 : Int))), none, none] [] (53, sh_lt L, iH f, jH g, sh_rt sw) (0, 0)) : ∀ (k s : Nat) (i : Int) (f g : Nat → Nat → Int), i = s → 1 ≤ s → (f0 31 5).toNat + 1 = s + k → FrF fb f → FrG gb g → HF (nN f0) [] f g → D0I (cT f0) (nN f0) (Rt f0 s 0) (g 16) → am_Wp (am_call (d + 3)) 126 Q 27 [some (.ref 14), some (.int (iZ (lvN f0 : Int))), some (.int (iZ (nN f0 : Int))), some (.int (iZ i)), none] [] (53, sh_lt L, iH f, jH g, sh_rt sw) (0, 0) := by
  intro k
  have m5 := hM.1.2.1
  have m16 := hM.1.2.2.2.1
  have hNN := nN_in hM
  have h20 := toZ_in f0
  have hlv : 1 ≤ lvN f0 ∧ lvN f0 ≤ 21 := by unfold lvN; omega
  induction k with
  | zero =>
    intro s i f g hi hs1 hk hf hg hH h0
    subst hi
    have ec : f 5 8 = f0 31 5 := by rw [hf 5 (by decide) (by decide) (by decide)]; exact hC.1.1.1
    refine ap_go kc_126_27 ?_
    refine ap_iload_n rfl ?_; refine ap_aload_n rfl ?_; refine ap_getR ow_126 rf_6_52 rfl rfl rfl ?_; refine ap_callv0 ow_126 rm_6_74 na_93 mc_93 ms_93 rfl rfl (Nat.le_of_ble_eq_true rfl) (Nat.le_of_ble_eq_true rfl) (Or.inr rfl) (Nat.zero_le _) (Nat.zero_le _) ?_; refine sp_93 ?_; dsimp only [Option.toList_some, Option.toList_none, List.cons_append, List.nil_append]
    refine ai_icgt rfl rfl (fun hb0 => ?_) (fun hb0 => ?_) ?_
    · exact am_weak (by first | exact am_le_0 | (repeat (first | exact am_le_0 | refine am_le_n ?_ | refine am_le_s ?_))) (K f g hf hg hH (by rw [hk]; exact h0))
    · exfalso; omega
    all_goals (omega)
  | succ k ih =>
    intro s i f g hi hs1 hk hf hg hH h0
    subst hi
    have hC' : CC f0 g0 f g := CC_fr hC (fun a ha => hf a (by omega) (by omega) (by omega)) (fun a ha => hg a (by omega))
    have ec : f 5 8 = f0 31 5 := hC'.1.1.1
    have hs : (s : Int) ≤ f0 31 5 := by omega
    have hpl := plZ_in hM s
    have e7 : f 7 ((s : Nat) : Int).toNat = plZ f0 s := (hC'.1.2.2.1 s hs).1
    have e9 : f 14 9 = f0 31 16 := hC'.1.1.2.2.2.1
    have J82 : ∀ F G, FrF fb F → FrG gb G → HF (nN f0) [] F G → D0I (cT f0) (nN f0) (Rt f0 (s + 1) 0) (G 16) → am_Wp (am_call (d + 3)) 126 Q 82 [some (.ref 14), some (.int (iZ (lvN f0 : Int))), some (.int (iZ (nN f0 : Int))), some (.int (iZ (s : Int))), none] [] (53, sh_lt L, iH F, jH G, sh_rt sw) (0, 0) := by
      intro F G hF hG hH h0
      refine ap_go kc_126_82 ?_
      refine ai_iinc rfl rfl ?_; refine ap_goto rfl ?_
      exact am_weak (by first | exact am_le_0 | (repeat (first | exact am_le_0 | refine am_le_n ?_ | refine am_le_s ?_))) (ih (s + 1) (s + 1) F G rfl (by omega) (by omega) hF hG hH h0)
    by_cases hto : plZ f0 s = f0 31 16
    · have J41 := lp_126e (sw := sw) (L := L) (d := d) (Q := Q) hM hC hs1 hs hto J82 (lvN f0) 0 0 f g rfl (by omega) hf hg hH h0
      refine ap_go kc_126_27 ?_
      refine ap_iload_n rfl ?_; refine ap_aload_n rfl ?_; refine ap_getR ow_126 rf_6_52 rfl rfl rfl ?_; refine ap_callv0 ow_126 rm_6_74 na_93 mc_93 ms_93 rfl rfl (Nat.le_of_ble_eq_true rfl) (Nat.le_of_ble_eq_true rfl) (Or.inr rfl) (Nat.zero_le _) (Nat.zero_le _) ?_; refine sp_93 ?_; dsimp only [Option.toList_some, Option.toList_none, List.cons_append, List.nil_append]
      refine ai_icgt rfl rfl (fun hb0 => ?_) (fun hb0 => ?_) ?_
      · exfalso; omega
      · refine ap_go kc_126_38 ?_
        refine ai_iconst ?_; refine ap_istore rfl ?_; refine ap_nil ?_
        exact am_weak (by first | exact am_le_0 | (repeat (first | exact am_le_0 | refine am_le_n ?_ | refine am_le_s ?_))) J41
      all_goals (omega)
    · have J := J82 f g hf hg hH (fun u hu => by
        rcases h0 u hu with ⟨y1, y2⟩ | y
        · refine Or.inl ⟨y1, fun q => y2 ⟨q.1, ?_⟩⟩
          have q1 := (cT_v hM hu).mp q.1
          have q2 := q.2
          unfold Rt at q2 ⊢
          by_cases z : u / lvN f0 = s
          · rw [z] at q1; exact absurd q1 hto
          · omega
        · exact Or.inr y)
      refine ap_go kc_126_27 ?_
      refine ap_iload_n rfl ?_; refine ap_aload_n rfl ?_; refine ap_getR ow_126 rf_6_52 rfl rfl rfl ?_; refine ap_callv0 ow_126 rm_6_74 na_93 mc_93 ms_93 rfl rfl (Nat.le_of_ble_eq_true rfl) (Nat.le_of_ble_eq_true rfl) (Or.inr rfl) (Nat.zero_le _) (Nat.zero_le _) ?_; refine sp_93 ?_; dsimp only [Option.toList_some, Option.toList_none, List.cons_append, List.nil_append]
      refine ai_icgt rfl rfl (fun hb0 => ?_) (fun hb0 => ?_) ?_
      · exfalso; omega
      · refine ap_go kc_126_38 ?_
        refine ai_iconst ?_; refine ap_istore rfl ?_; refine ap_nil ?_
        refine ap_go kc_126_41 ?_
        refine ap_iload rfl ?_; refine ap_iload_n rfl ?_
        refine ai_icge rfl rfl (fun hb1 => ?_) (fun hb1 => ?_) ?_
        · first | (exfalso; omega) | exact am_weak (by first | exact am_le_0 | (repeat (first | exact am_le_0 | refine am_le_n ?_ | refine am_le_s ?_))) J
        · refine ap_go kc_126_47 ?_
          refine ap_aload_n rfl ?_; refine ap_getR ow_126 rf_6_52 rfl rfl rfl ?_; refine ap_iload_n rfl ?_; refine ap_callv0 ow_126 rm_6_125 na_99 mc_99 ms_99 rfl rfl (Nat.le_of_ble_eq_true rfl) (Nat.le_of_ble_eq_true rfl) (Or.inr rfl) (Nat.zero_le _) (Nat.zero_le _) ?_; refine sp_99 ?_ ?_; dsimp only [Option.toList_some, Option.toList_none, List.cons_append, List.nil_append]; refine ap_aload_n rfl ?_; refine ai_getI ow_126 rf_6_39 rfl rfl ?_
          refine ai_icne rfl rfl (fun hb2 => ?_) (fun hb2 => ?_) ?_
          · first | (exfalso; omega) | exact am_weak (by first | exact am_le_0 | (repeat (first | exact am_le_0 | refine am_le_n ?_ | refine am_le_s ?_))) J
          · exfalso; omega
          all_goals (omega)
        all_goals (omega)
      all_goals (omega)
theorem lp_126n {d L : Nat} {sw : Bool} {Q : Option Value → am_H → Prop} {f0 g0 fb gb : Nat → Nat → Int} {D : Nat → Option Nat} {st : Nat} (hM : MOk f0 g0) (hD : mg_D (mE f0 g0) (mT f0) D) (hC : CC f0 g0 fb gb) (hst : st < nN f0) (h18 : f0 31 18 = (st : Int)) (K : ∀ f g, FrF fb f → FrG gb g → FD (fun v => D (rhoZ f0 v)) (nN f0) st (g 16) → Q none (53, sh_lt L, iH f, jH g, sh_rt sw)) : ∀ (k n : Nat) (i : Int) (l : List Nat) (f g : Nat → Nat → Int), i = n → nN f0 = n + k → l.length = n → l.Nodup → st ∉ l → FrF fb f → FrG gb g → HF (nN f0) l f g → DJc f0 g0 D l (g 16) → am_Wp (am_call (d + 3)) 126 Q 90 [some (.ref 14), some (.int (iZ (lvN f0 : Int))), some (.int (iZ (nN f0 : Int))), some (.int (iZ i)), none] [] (53, sh_lt L, iH f, jH g, sh_rt sw) (0, 0) := by
  intro k
  have m5 := hM.1.2.1
  have hNN := nN_in hM
  have h20 := toZ_in f0
  have hlv : 1 ≤ lvN f0 ∧ lvN f0 ≤ 21 := by unfold lvN; omega
  have hB := c_BE hM hD
  induction k with
  | zero =>
    intro n i l f g hi hk hl hnd hsl hf hg hH hJ
    have := dj_more hnd (fun u hu => (hJ.2.2.1 u hu).1) hst hsl
    omega
  | succ k ih =>
    intro n i l f g hi hk hl hnd hsl hf hg hH hJ
    subst hi
    have hC' : CC f0 g0 f g := CC_fr hC (fun a ha => hf a (by omega) (by omega) (by omega)) (fun a ha => hg a (by omega))
    have hKO : KOk (nN f0) (g 16) := fun u hu => ⟨(hJ.1 u hu).1, (hJ.1 u hu).2.1⟩
    have J119 : ∀ (u : Nat) (F : Nat → Nat → Int), u < nN f0 → u ∉ l → u ≠ st → g 16 u < 2305843009213693951 → (∀ v, v < nN f0 → v ∉ l → g 16 u ≤ g 16 v) → FrF f F → HF (nN f0) (u :: l) F g → am_Wp (am_call (d + 3)) 126 Q 119 [some (.ref 14), some (.int (iZ (lvN f0 : Int))), some (.int (iZ (nN f0 : Int))), some (.int (iZ (n : Int))), some (.int (iZ (u : Int)))] [] (53, sh_lt L, iH F, jH g, sh_rt sw) (0, 0) := by
      intro u F hu hul hus hk hmin hF hH2
      have hC2 : CC f0 g0 F g := CC_fr hC' (fun a ha => hF a (by omega) (by omega) (by omega)) (fun _ _ => rfl)
      obtain ⟨t, e, he, rfl⟩ : ∃ t e, e < lvN f0 ∧ u = t * lvN f0 + e := ⟨u / lvN f0, u % lvN f0, (lv_v (f0 := f0) u).2, (lv_v (f0 := f0) u).1⟩
      have ht : (t : Int) ≤ f0 31 5 := by
        have := nN_s hu
        rw [(lv_se he).1] at this
        omega
      have hX := dj_take hB hJ hu hul hk hmin
      have h3 := (hX.2.2.1 _ List.mem_cons_self).2.2
      have k0 := (hJ.1 _ hu).1
      have hb := (D_mod hM hD (rho_lt hM hu) h3).2
      have ei : (((t * lvN f0 + e : Nat) : Int)).toNat = t * lvN f0 + e := rfl
      have ed : ((t * lvN f0 + e : Nat) : Int) / (lvN f0 : Int) = (t : Int) := by rw [← Int.natCast_ediv, (lv_se he).1]
      have em : ((t * lvN f0 + e : Nat) : Int) % (lvN f0 : Int) = (e : Int) := by rw [← Int.natCast_emod, (lv_se he).2]
      have ek : g 16 (((t * lvN f0 + e : Nat) : Int)).toNat = (((g 16 (t * lvN f0 + e)).toNat : Nat) : Int) := by rw [ei]; omega
      refine ap_go kc_126_119 ?_
      refine ap_aload_n rfl ?_; refine ap_iload rfl ?_; refine ap_iload_n rfl ?_; refine ai_idiv ?_ ?_; refine ap_iload rfl ?_; refine ap_iload_n rfl ?_; refine ai_irem ?_ ?_; refine ap_aload_n rfl ?_; refine ap_getR ow_126 rf_6_12 rfl rfl rfl ?_; refine ap_iload rfl ?_; refine ap_callv0 ow_126 rm_6_103 na_62 mc_62 ms_62 rfl rfl (Nat.le_of_ble_eq_true rfl) (Nat.le_of_ble_eq_true rfl) (Or.inr rfl) (Nat.zero_le _) (Nat.zero_le _) ?_; refine sp_62 ?_ (by omega); dsimp only [Option.toList_some, Option.toList_none, List.cons_append, List.nil_append]; refine ap_callv0 ow_126 rm_6_171 na_127 mc_127 ms_127 rfl rfl (Nat.le_of_ble_eq_true rfl) (Nat.le_of_ble_eq_true rfl) (Or.inr rfl) (Nat.zero_le _) (Nat.zero_le _) ?_; refine sp_127 (fun F2 G2 hF2 hG2 hH3 hJ2 => ?_) hM hD hC2 ed em ek h3 hb ht he hH2 hX; dsimp only [Option.toList_some, Option.toList_none, List.cons_append, List.nil_append]; refine ai_iinc rfl rfl ?_; refine ap_goto rfl ?_
      · exact am_weak (by first | exact am_le_0 | (repeat (first | exact am_le_0 | refine am_le_n ?_ | refine am_le_s ?_))) (ih (n + 1) (n + 1) ((t * lvN f0 + e) :: l) F2 G2 rfl (by omega) (by rw [List.length_cons, hl]) (List.nodup_cons.mpr ⟨hul, hnd⟩) (fun q => (List.mem_cons.mp q).elim (fun z => hus z.symm) hsl) (fun a a1 a2 a3 => ((hF2 a a1 a2 a3).trans (hF a a1 a2 a3)).trans (hf a a1 a2 a3)) (fun a a1 => (hG2 a a1).trans (hg a a1)) hH3 hJ2)
      all_goals (omega)
    refine ap_go kc_126_90 ?_
    refine ap_iload_n rfl ?_; refine ap_iload_n rfl ?_
    refine ai_icge rfl rfl (fun hb0 => ?_) (fun hb0 => ?_) ?_
    · exfalso; omega
    · refine ap_go kc_126_95 ?_
      refine ap_aload_n rfl ?_; refine ap_getR ow_126 rf_6_12 rfl rfl rfl ?_; refine ap_callv0 ow_126 rm_6_168 na_64 mc_64 ms_64 rfl rfl (Nat.le_of_ble_eq_true rfl) (Nat.le_of_ble_eq_true rfl) (Or.inr rfl) (Nat.zero_le _) (Nat.zero_le _) ?_; refine sp_64 (fun x F hT => ?_) hNN.2 hKO hH; dsimp only [Option.toList_some, Option.toList_none, List.cons_append, List.nil_append]
      have hxr := TL_r hT hNN.2; have e11 : F 14 11 = (st : Int) := by (rw [TL_F hT 14 (by decide) (by decide) (by decide), hC'.1.1.2.2.2.2.2]; exact h18)
      refine ap_istore rfl ?_; refine ap_iload rfl ?_
      refine ai_iflt rfl rfl (fun hb1 => ?_) (fun hb1 => ?_) ?_
      · refine ap_go kc_126_118 ?_
        refine ap_vret rfl ?_
        rcases hT with ⟨t1, t2, t3⟩ | ⟨u, t1, t2, t3, t4, t5, t6, t7⟩; (first | (exfalso; omega) | (rw [t2]; exact K f g hf hg (dj_empty hB hJ hst hsl t3))); (first | (exfalso; omega) | (have eu : u = st := by omega); exact K F g (fun a a1 a2 a3 => (t6 a a1 a2 a3).trans (hf a a1 a2 a3)) hg (by rw [eu] at t2 t3 t4 t5; exact dj_start hB hJ (dj_take hB hJ t2 t3 t4 t5)))
      · refine ap_go kc_126_109 ?_
        refine ap_iload rfl ?_; refine ap_aload_n rfl ?_; refine ap_callv0 ow_126 rm_6_100 na_124 mc_124 ms_124 rfl rfl (Nat.le_of_ble_eq_true rfl) (Nat.le_of_ble_eq_true rfl) (Or.inr rfl) (Nat.zero_le _) (Nat.zero_le _) ?_; refine sp_124 ?_; dsimp only [Option.toList_some, Option.toList_none, List.cons_append, List.nil_append]
        refine ai_icne rfl rfl (fun hb2 => ?_) (fun hb2 => ?_) ?_
        · rcases hT with ⟨t1, t2, t3⟩ | ⟨u, t1, t2, t3, t4, t5, t6, t7⟩; (exfalso; omega); subst t1; exact am_weak (by first | exact am_le_0 | (repeat (first | exact am_le_0 | refine am_le_n ?_ | refine am_le_s ?_))) (J119 u F t2 t3 (by omega) t4 t5 t6 t7)
        · refine ap_go kc_126_118 ?_
          refine ap_vret rfl ?_
          rcases hT with ⟨t1, t2, t3⟩ | ⟨u, t1, t2, t3, t4, t5, t6, t7⟩; (first | (exfalso; omega) | (rw [t2]; exact K f g hf hg (dj_empty hB hJ hst hsl t3))); (first | (exfalso; omega) | (have eu : u = st := by omega); exact K F g (fun a a1 a2 a3 => (t6 a a1 a2 a3).trans (hf a a1 a2 a3)) hg (by rw [eu] at t2 t3 t4 t5; exact dj_start hB hJ (dj_take hB hJ t2 t3 t4 t5)))
        all_goals (omega)
      all_goals (omega)
    all_goals (omega)
theorem sp_126 {d L : Nat} {sw : Bool} {f g : Nat → Nat → Int} {Q : Option Value → am_H → Prop} {f0 g0 : Nat → Nat → Int} {D : Nat → Option Nat} {st : Nat} (K : ∀ F G, FrF f F → FrG g G → FD (fun v => D (rhoZ f0 v)) (nN f0) st (G 16) → Q none (53, sh_lt L, iH F, jH G, sh_rt sw)) (hM : MOk f0 g0) (hD : mg_D (mE f0 g0) (mT f0) D) (hC : CC f0 g0 f g) (h18 : f0 31 18 = (st : Int)) (h18' : f0 31 18 ≤ toZ f0) (hne : f0 31 15 ≠ f0 31 16) : am_call (d + 4) 126 [.ref 14] (53, sh_lt L, iH f, jH g, sh_rt sw) Q := by
  have m5 := hM.1.2.1
  have m7 := hM.1.2.2.2.2.1
  have hNN := nN_in hM
  have h20 := toZ_in f0
  have hlv : 1 ≤ lvN f0 ∧ lvN f0 ≤ 21 := by unfold lvN; omega
  have hst : st < nN f0 := by have := hNN.1; unfold lvN at this; omega
  have ec : f 5 8 = f0 31 5 := hC.1.1.1
  have eN : (f 5 8 + 1) * (lvN f0 : Int) = (nN f0 : Int) := by
    unfold nN
    rw [Int.natCast_mul, ec]
    congr 1
    omega
  have c123 : ∀ {Q : Option Value → am_H → Prop}, Q (some (.int (iZ (lvN f0 : Int)))) (53, sh_lt L, iH f, jH g, sh_rt sw) → am_call (d + 3) 123 [.ref 14] (53, sh_lt L, iH f, jH g, sh_rt sw) Q := fun K => sp_123 (by rw [CC_lv hC]; exact K) (by rw [hC.1.1.2.2.2.2.1]; omega)
  refine ap_call (by decide) (Nat.le_of_ble_eq_true rfl) rfl ?_
  have J88 : ∀ F G, FrF f F → FrG g G → HF (nN f0) [] F G → D0I (cT f0) (nN f0) (Rt f0 ((f0 31 5).toNat + 1) 0) (G 16) → am_Wp (am_call (d + 3)) 126 Q 88 [some (.ref 14), some (.int (iZ (lvN f0 : Int))), some (.int (iZ (nN f0 : Int))), none, none] [] (53, sh_lt L, iH F, jH G, sh_rt sw) (0, 0) := by
    intro F G hF hG hH h0
    have hC2 : CC f0 g0 F G := CC_fr hC (fun a ha => hF a (by omega) (by omega) (by omega)) (fun a ha => hG a (by omega))
    have hJ : DJc f0 g0 D [] (G 16) := dj_begin (c_BE hM hD) h0 (fun v hv _ => by
      have := nN_s hv
      unfold Rt
      omega)
    refine ap_go kc_126_88 ?_
    refine ai_iconst ?_; refine ap_istore_n rfl ?_; refine ap_nil ?_
    exact am_weak (by first | exact am_le_0 | (repeat (first | exact am_le_0 | refine am_le_n ?_ | refine am_le_s ?_))) (lp_126n hM hD hC2 hst h18 (fun F2 G2 q1 q2 q3 => K F2 G2 (fun a a1 a2 a3 => (q1 a a1 a2 a3).trans (hF a a1 a2 a3)) (fun a a1 => (q2 a a1).trans (hG a a1)) q3) (nN f0) 0 0 [] F G rfl (by omega) rfl List.nodup_nil List.not_mem_nil (fun _ _ _ _ => rfl) (fun _ _ => rfl) hH hJ)
  have J27 : ∀ F G, FrF f F → FrG g G → F 15 3 = 0 → (∀ u, u < nN f0 → F 17 u = 0 ∧ G 16 u = 2305843009213693951) → am_Wp (am_call (d + 3)) 126 Q 27 [some (.ref 14), some (.int (iZ (lvN f0 : Int))), some (.int (iZ (nN f0 : Int))), some (.int (iZ 1)), none] [] (53, sh_lt L, iH F, jH G, sh_rt sw) (0, 0) := by
    intro F G hF hG h15 hu
    refine lp_126s hM hC J88 (f0 31 5).toNat 1 1 F G rfl (Nat.le_refl 1) (by omega) hF hG ⟨0, h15, fq_0 _ _ _ _ hu⟩ (fun v hv => Or.inl ⟨(hu v hv).2, fun q => ?_⟩)
    have q1 := (cT_v hM hv).mp q.1
    have q2 := q.2
    unfold Rt at q2
    have q3 : v / lvN f0 = 0 := q2.elim (fun z => Nat.lt_one_iff.mp z) (fun z => absurd z.2 (Nat.not_lt_zero _))
    rw [q3] at q1
    exact hne q1
  refine ap_go kc_126_0 ?_
  refine ap_aload_n rfl ?_; refine ap_callv0 ow_126 rm_6_158 na_123 mc_123 ms_123 rfl rfl (Nat.le_of_ble_eq_true rfl) (Nat.le_of_ble_eq_true rfl) (Or.inr rfl) (Nat.zero_le _) (Nat.zero_le _) ?_; refine c123 ?_; dsimp only [Option.toList_some, Option.toList_none, List.cons_append, List.nil_append]; refine ap_istore_n rfl ?_; refine ap_aload_n rfl ?_; refine ap_getR ow_126 rf_6_52 rfl rfl rfl ?_; refine ap_callv0 ow_126 rm_6_74 na_93 mc_93 ms_93 rfl rfl (Nat.le_of_ble_eq_true rfl) (Nat.le_of_ble_eq_true rfl) (Or.inr rfl) (Nat.zero_le _) (Nat.zero_le _) ?_; refine sp_93 ?_; dsimp only [Option.toList_some, Option.toList_none, List.cons_append, List.nil_append]; refine ai_iconst ?_; refine ai_iadd ?_; refine ap_iload_n rfl ?_; refine ai_imul ?_; refine ap_istore_n rfl ?_; refine ap_aload_n rfl ?_; refine ap_getR ow_126 rf_6_12 rfl rfl rfl ?_; refine ap_iload_n rfl ?_; refine ap_callv0 ow_126 rm_6_161 na_61 mc_61 ms_61 rfl rfl (Nat.le_of_ble_eq_true rfl) (Nat.le_of_ble_eq_true rfl) (Or.inr rfl) (Nat.zero_le _) (Nat.zero_le _) ?_; refine sp_61 (n := nN f0) (fun F G q1 q2 q3 q4 => ?_) eN hNN.2; dsimp only [Option.toList_some, Option.toList_none, List.cons_append, List.nil_append]; refine ai_iconst ?_; refine ap_istore_n rfl ?_; refine ap_nil ?_
  have J := J27 F G q1 q2 q3 q4; rw [← eN] at J; exact am_weak (by first | exact am_le_0 | (repeat (first | exact am_le_0 | refine am_le_n ?_ | refine am_le_s ?_))) J
