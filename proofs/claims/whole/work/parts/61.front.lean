/-! THE FRONTIER of the class -/
def FrF (f F : Nat → Nat → Int) : Prop := ∀ a, a ≠ 15 → a ≠ 17 → a ≠ 18 → F a = f a
def FrG (g G : Nat → Nat → Int) : Prop := ∀ a, a ≠ 16 → G a = g a
def KOk (M : Nat) (k : Nat → Int) : Prop := ∀ u, u < M → 0 ≤ k u ∧ k u ≤ 2305843009213693951
theorem up_hp (f : Nat → Nat → Int) (w : Nat) (a : Int) (u : Nat) (z : Int) : (am_up (am_up f 18 w a) 17 u z) 17 = fq_u (f 17) u z ∧ (am_up (am_up f 18 w a) 17 u z) 18 = fq_u (f 18) w a ∧ ∀ c, c ≠ 17 → c ≠ 18 → (am_up (am_up f 18 w a) 17 u z) c = f c :=
  ⟨by rw [am_up_eq, am_up_ne (by decide)]; rfl, by rw [am_up_ne (by decide), am_up_eq]; rfl, fun c h1 h2 => (am_up_ne h1).trans (am_up_ne h2)⟩
theorem sp_62 {d L : Nat} {sw : Bool} {f g : Nat → Nat → Int} {Q : Option Value → am_H → Prop} {n : Int} (K : Q (some (.long (lZ (g 16 n.toNat)))) (53, sh_lt L, iH f, jH g, sh_rt sw)) (hn : 0 ≤ n ∧ n < 2541) : am_call (d + 1) 62 [.ref 15, .int (iZ n)] (53, sh_lt L, iH f, jH g, sh_rt sw) Q := by
  refine ap_call (by decide) (Nat.le_of_ble_eq_true rfl) rfl ?_
  refine ap_go kc_62_0 ?_
  refine ap_aload_n rfl ?_; refine ap_getR ow_62 rf_0_11 rfl rfl rfl ?_; refine ap_iload_n rfl ?_; refine ai_laload (n := 2541) rfl rfl (by decide) ?_ ?_; refine ap_lret rfl ?_
  · exact K
  all_goals (omega)
theorem lp_61 {d L : Nat} {sw : Bool} {Q : Option Value → am_H → Prop} {fb gb : Nat → Nat → Int} {n : Nat} (hn : n ≤ 2541) (K : ∀ f g, FrF fb f → FrG gb g → f 15 3 = 0 → (∀ u, u < n → f 17 u = 0 ∧ g 16 u = 2305843009213693951) → Q none (53, sh_lt L, iH f, jH g, sh_rt sw)) : ∀ (k v : Nat) (i : Int) (f g : Nat → Nat → Int), i = v → n = v + k → FrF fb f → FrG gb g → f 15 3 = 0 → (∀ u, u < v → f 17 u = 0 ∧ g 16 u = 2305843009213693951) → am_Wp (am_call d) 61 Q 7 [some (.ref 15), some (.int (iZ (n : Int))), some (.int (iZ i))] [] (53, sh_lt L, iH f, jH g, sh_rt sw) (0, 0) := by
  intro k
  induction k with
  | zero =>
    intro v i f g hi hk hf hg h3 hu
    subst hi
    refine ap_go kc_61_7 ?_
    refine ap_iload_n rfl ?_; refine ap_iload_n rfl ?_
    refine ai_icge rfl rfl (fun hb0 => ?_) (fun hb0 => ?_) ?_
    · refine ap_go kc_61_41 ?_
      refine ap_vret rfl ?_
      exact K f g hf hg h3 (by rw [hk]; exact hu)
    · exfalso; omega
    all_goals (omega)
  | succ k ih =>
    intro v i f g hi hk hf hg h3 hu
    subst hi
    refine ap_go kc_61_7 ?_
    refine ap_iload_n rfl ?_; refine ap_iload_n rfl ?_
    refine ai_icge rfl rfl (fun hb0 => ?_) (fun hb0 => ?_) ?_
    · refine ap_go kc_61_41 ?_
      refine ap_vret rfl ?_
      exfalso; omega
    · refine ap_go kc_61_12 ?_
      refine ap_iload_n rfl ?_; refine ai_sipush (by decide) ?_
      refine ai_icge rfl rfl (fun hb1 => ?_) (fun hb1 => ?_) ?_
      · refine ap_go kc_61_41 ?_
        refine ap_vret rfl ?_
        exfalso; omega
      · refine ap_go kc_61_19 ?_
        refine ap_aload_n rfl ?_; refine ap_getR ow_61 rf_0_11 rfl rfl rfl ?_; refine ap_iload_n rfl ?_; refine ai_ldc2 (2305843009213693951) ow_61 kl_0_26 rfl ?_; refine ai_lastore (n := 2541) rfl rfl (by decide) ?_ ?_; refine ap_aload_n rfl ?_; refine ap_getR ow_61 rf_0_15 rfl rfl rfl ?_; refine ap_iload_n rfl ?_; refine ai_iconst ?_; refine ai_iastore (n := 2541) rfl rfl (by decide) ?_ ?_; refine ai_iinc rfl rfl ?_; refine ap_goto rfl ?_
        · exact am_weak (by first | exact am_le_0 | (repeat (first | exact am_le_0 | refine am_le_n ?_ | refine am_le_s ?_))) (ih (v + 1) (v + 1) (am_up f 17 v 0) (am_up g 16 v 2305843009213693951) rfl (by omega) (fun a h1 h2 h3 => (am_up_ne h2).trans (hf a h1 h2 h3)) (fun a h1 => (am_up_ne h1).trans (hg a h1)) (by rw [am_up_ne (by decide)]; exact h3) (fun u hu' => by rw [am_up_eq, am_up_eq]; dsimp only; by_cases z : u = v; (rw [if_pos z, if_pos z]; exact ⟨rfl, rfl⟩); rw [if_neg z, if_neg z]; exact hu u (by omega)))
        all_goals (omega)
      all_goals (omega)
    all_goals (omega)
theorem sp_61 {d L : Nat} {sw : Bool} {f g : Nat → Nat → Int} {Q : Option Value → am_H → Prop} {n : Nat} {z : Int} (K : ∀ F G, FrF f F → FrG g G → F 15 3 = 0 → (∀ u, u < n → F 17 u = 0 ∧ G 16 u = 2305843009213693951) → Q none (53, sh_lt L, iH F, jH G, sh_rt sw)) (hz : z = n) (hn : n ≤ 2541) : am_call (d + 1) 61 [.ref 15, .int (iZ z)] (53, sh_lt L, iH f, jH g, sh_rt sw) Q := by
  subst hz
  refine ap_call (by decide) (Nat.le_of_ble_eq_true rfl) rfl ?_
  refine ap_go kc_61_0 ?_
  refine ap_aload_n rfl ?_; refine ai_iconst ?_; refine ai_putI ow_61 rf_0_22 rfl rfl rfl ?_; refine ai_iconst ?_; refine ap_istore_n rfl ?_; refine ap_nil ?_
  exact am_weak (by first | exact am_le_0 | (repeat (first | exact am_le_0 | refine am_le_n ?_ | refine am_le_s ?_))) (lp_61 hn K n 0 0 (am_up f 15 3 0) g rfl (by omega) (fun a h1 _ _ => am_up_ne h1) (fun _ _ => rfl) (by rw [am_up_eq]; rfl) (fun u hu => absurd hu (Nat.not_lt_zero u)))
theorem lp_65 {d L : Nat} {sw : Bool} {Q : Option Value → am_H → Prop} {fb g : Nat → Nat → Int} {M n v : Nat} {l : List Nat} (hM : M ≤ 2541) (hn : n ≤ M) (hg : KOk M (g 16)) (K : ∀ f, (∀ a, a ≠ 17 → a ≠ 18 → f a = fb a) → HI M l (g 16) (f 17) (f 18) n → Q none (53, sh_lt L, iH f, jH g, sh_rt sw)) : ∀ (m w : Nat) (x y : Int) (f : Nat → Nat → Int), x = w → w < 2 ^ m → 0 ≤ y ∧ y + m ≤ 32 → (∀ a, a ≠ 17 → a ≠ 18 → f a = fb a) → HO M l (g 16) (f 17) (f 18) n v w → (∀ i, i ≤ n → i / 2 = w → g 16 v ≤ g 16 (f 18 i).toNat) → am_Wp (am_call d) 65 Q 9 [some (.ref 15), some (.int (iZ (v : Int))), some (.int (iZ x)), some (.int (iZ y)), none] [] (53, sh_lt L, iH f, jH g, sh_rt sw) (0, 0) := by
  intro m
  induction m with
  | zero =>
    intro w x y f hx hw hy hf hH hc
    have := hH.1.1
    rw [Nat.pow_zero] at hw
    omega
  | succ m ih =>
    intro w x y f hx hw hy hf hH hc
    subst hx
    rw [Nat.pow_succ] at hw
    obtain ⟨w1, w2, v1, v2, v3⟩ := hH.1
    have kv := hg v v1
    have ev : g 16 ((v : Nat) : Int).toNat = g 16 v := rfl
    have J76 : (2 ≤ w → g 16 (f 18 (w / 2)).toNat ≤ g 16 v) → am_Wp (am_call d) 65 Q 76 [some (.ref 15), some (.int (iZ (v : Int))), some (.int (iZ (w : Int))), none, none] [] (53, sh_lt L, iH f, jH g, sh_rt sw) (0, 0) := by
      intro hp
      have h1 := fq_fill hH hp hc
      refine ap_go kc_65_76 ?_
      refine ap_aload_n rfl ?_; refine ap_getR ow_65 rf_0_19 rfl rfl rfl ?_; refine ap_iload_n rfl ?_; refine ap_iload_n rfl ?_; refine ai_iastore (n := 2542) rfl rfl (by decide) ?_ ?_; refine ap_aload_n rfl ?_; refine ap_getR ow_65 rf_0_15 rfl rfl rfl ?_; refine ap_iload_n rfl ?_; refine ap_iload_n rfl ?_; refine ai_iastore (n := 2541) rfl rfl (by decide) ?_ ?_; refine ap_vret rfl ?_
      · exact K _ (fun a q1 q2 => ((up_hp f _ _ _ _).2.2 a q1 q2).trans (hf a q1 q2)) (by rw [(up_hp f _ _ _ _).1, (up_hp f _ _ _ _).2.1]; exact h1)
      all_goals (omega)
    by_cases hw2 : 2 ≤ w
    · obtain ⟨y1, y2, y3, y4, y5⟩ := hH.2.1 (w / 2) (by omega) (by omega) (by omega)
      have ka := hg (f 18 (w / 2)).toNat (by omega)
      have e2 : ((w : Int) / 2).toNat = w / 2 := by omega
      have q1 : f 18 ((w : Int) / 2).toNat = f 18 (w / 2) := by rw [e2]
      have q2 : g 16 (f 18 ((w : Int) / 2).toNat).toNat = g 16 (f 18 (w / 2)).toNat := by rw [e2]
      refine ap_go kc_65_9 ?_
      refine ap_iload_n rfl ?_; refine ai_bipush (by decide) ?_
      refine ai_icge rfl rfl (fun hb0 => ?_) (fun hb0 => ?_) ?_
      · first | exact am_weak (by first | exact am_le_0 | (repeat (first | exact am_le_0 | refine am_le_n ?_ | refine am_le_s ?_))) (J76 (fun _ => by omega)) | (exfalso; omega)
      · refine ap_go kc_65_15 ?_
        refine ap_iload_n rfl ?_; refine ai_iconst ?_
        refine ai_icle rfl rfl (fun hb1 => ?_) (fun hb1 => ?_) ?_
        · first | exact am_weak (by first | exact am_le_0 | (repeat (first | exact am_le_0 | refine am_le_n ?_ | refine am_le_s ?_))) (J76 (fun _ => by omega)) | (exfalso; omega)
        · refine ap_go kc_65_20 ?_
          refine ap_aload_n rfl ?_; refine ap_getR ow_65 rf_0_19 rfl rfl rfl ?_; refine ap_iload_n rfl ?_; refine ai_iconst ?_; refine ai_idiv ?_ ?_; refine ai_iaload (n := 2542) rfl rfl (by decide) ?_ ?_; refine ap_istore rfl ?_; refine ap_aload_n rfl ?_; refine ap_getR ow_65 rf_0_11 rfl rfl rfl ?_; refine ap_iload rfl ?_; refine ai_laload (n := 2541) rfl rfl (by decide) ?_ ?_; refine ap_aload_n rfl ?_; refine ap_getR ow_65 rf_0_11 rfl rfl rfl ?_; refine ap_iload_n rfl ?_; refine ai_laload (n := 2541) rfl rfl (by decide) ?_ ?_
          refine ai_lcgt rfl rfl (fun hb2 => ?_) (fun hb2 => ?_) ?_
          · refine ap_go kc_65_50 ?_
            refine ap_aload_n rfl ?_; refine ap_getR ow_65 rf_0_19 rfl rfl rfl ?_; refine ap_iload_n rfl ?_; refine ap_iload rfl ?_; refine ai_iastore (n := 2542) rfl rfl (by decide) ?_ ?_; refine ap_aload_n rfl ?_; refine ap_getR ow_65 rf_0_15 rfl rfl rfl ?_; refine ap_iload rfl ?_; refine ap_iload_n rfl ?_; refine ai_iastore (n := 2541) rfl rfl (by decide) ?_ ?_; refine ap_iload_n rfl ?_; refine ai_iconst ?_; refine ai_idiv ?_ ?_; refine ap_istore_n rfl ?_; refine ai_iinc rfl rfl ?_; refine ap_goto rfl ?_
            · have st := fq_up hH hw2 (by omega) hc; exact am_weak (by first | exact am_le_0 | (repeat (first | exact am_le_0 | refine am_le_n ?_ | refine am_le_s ?_))) (ih (w / 2) _ _ _ (by omega) (by omega) (by omega) (fun a q1 q2 => ((up_hp f _ _ _ _).2.2 a q1 q2).trans (hf a q1 q2)) (by rw [(up_hp f _ _ _ _).1, (up_hp f _ _ _ _).2.1, e2]; exact st.1) (by rw [(up_hp f _ _ _ _).2.1, e2]; exact st.2))
            all_goals (omega)
          · refine ap_go kc_65_47 ?_
            refine ap_goto rfl ?_
            first | exact am_weak (by first | exact am_le_0 | (repeat (first | exact am_le_0 | refine am_le_n ?_ | refine am_le_s ?_))) (J76 (fun _ => by omega)) | (exfalso; omega)
          all_goals (omega)
        all_goals (omega)
      all_goals (omega)
    ·
      refine ap_go kc_65_9 ?_
      refine ap_iload_n rfl ?_; refine ai_bipush (by decide) ?_
      refine ai_icge rfl rfl (fun hb0 => ?_) (fun hb0 => ?_) ?_
      · first | exact am_weak (by first | exact am_le_0 | (repeat (first | exact am_le_0 | refine am_le_n ?_ | refine am_le_s ?_))) (J76 (fun z => absurd z hw2)) | (exfalso; omega)
      · refine ap_go kc_65_15 ?_
        refine ap_iload_n rfl ?_; refine ai_iconst ?_
        refine ai_icle rfl rfl (fun hb1 => ?_) (fun hb1 => ?_) ?_
        · first | exact am_weak (by first | exact am_le_0 | (repeat (first | exact am_le_0 | refine am_le_n ?_ | refine am_le_s ?_))) (J76 (fun z => absurd z hw2)) | (exfalso; omega)
        · exfalso; omega
        all_goals (omega)
      all_goals (omega)
theorem sp_65 {d L : Nat} {sw : Bool} {f g : Nat → Nat → Int} {Q : Option Value → am_H → Prop} {M n v w : Nat} {l : List Nat} (K : ∀ F, (∀ a, a ≠ 17 → a ≠ 18 → F a = f a) → HI M l (g 16) (F 17) (F 18) n → Q none (53, sh_lt L, iH F, jH g, sh_rt sw)) (hM : M ≤ 2541) (hn : n ≤ M) (hg : KOk M (g 16)) (hH : HO M l (g 16) (f 17) (f 18) n v w) (hw : f 17 v = w) (hc : ∀ i, i ≤ n → i / 2 = w → g 16 v ≤ g 16 (f 18 i).toNat) : am_call (d + 1) 65 [.ref 15, .int (iZ (v : Int))] (53, sh_lt L, iH f, jH g, sh_rt sw) Q := by
  have h1 := hH.1
  refine ap_call (by decide) (Nat.le_of_ble_eq_true rfl) rfl ?_
  refine ap_go kc_65_0 ?_
  refine ap_aload_n rfl ?_; refine ap_getR ow_65 rf_0_15 rfl rfl rfl ?_; refine ap_iload_n rfl ?_; refine ai_iaload (n := 2541) rfl rfl (by decide) ?_ ?_; refine ap_istore_n rfl ?_; refine ai_iconst ?_; refine ap_istore_n rfl ?_; refine ap_nil ?_
  · exact am_weak (by first | exact am_le_0 | (repeat (first | exact am_le_0 | refine am_le_n ?_ | refine am_le_s ?_))) (lp_65 hM hn hg K 12 w _ _ f hw (by omega) (by omega) (fun _ _ _ => rfl) hH hc)
  all_goals (omega)
theorem lp_66 {d L : Nat} {sw : Bool} {Q : Option Value → am_H → Prop} {fb g : Nat → Nat → Int} {M n v : Nat} {l : List Nat} (hM : M ≤ 2541) (hn : n ≤ M) (hs : fb 15 3 = n) (hg : KOk M (g 16)) (K : ∀ f, (∀ a, a ≠ 17 → a ≠ 18 → f a = fb a) → HI M l (g 16) (f 17) (f 18) n → Q none (53, sh_lt L, iH f, jH g, sh_rt sw)) : ∀ (m w : Nat) (x y : Int) (f : Nat → Nat → Int), x = w → n < w * 2 ^ m → 0 ≤ y ∧ y + m ≤ 32 → (∀ a, a ≠ 17 → a ≠ 18 → f a = fb a) → HO M l (g 16) (f 17) (f 18) n v w → (2 ≤ w → g 16 (f 18 (w / 2)).toNat ≤ g 16 v) → am_Wp (am_call d) 66 Q 4 [some (.ref 15), some (.int (iZ (v : Int))), some (.int (iZ x)), some (.int (iZ y)), none, none] [] (53, sh_lt L, iH f, jH g, sh_rt sw) (0, 0) := by
  intro m
  induction m with
  | zero =>
    intro w x y f hx hw hy hf hH hc
    have := hH.1.2.1
    rw [Nat.pow_zero] at hw
    omega
  | succ m ih =>
    intro w x y f hx hw hy hf hH hp
    subst hx
    rw [Nat.pow_succ] at hw
    obtain ⟨w1, w2, v1, v2, v3⟩ := hH.1
    have kv := hg v v1
    have h15 : f 15 3 = n := by rw [hf 15 (by decide) (by decide)]; exact hs
    have ev : g 16 ((v : Nat) : Int).toNat = g 16 v := rfl
    have J121 : (∀ i, i ≤ n → i / 2 = w → g 16 v ≤ g 16 (f 18 i).toNat) → am_Wp (am_call d) 66 Q 121 [some (.ref 15), some (.int (iZ (v : Int))), some (.int (iZ (w : Int))), none, none, none] [] (53, sh_lt L, iH f, jH g, sh_rt sw) (0, 0) := by
      intro hc
      have h1 := fq_fill hH hp hc
      refine ap_go kc_66_121 ?_
      refine ap_aload_n rfl ?_; refine ap_getR ow_66 rf_0_19 rfl rfl rfl ?_; refine ap_iload_n rfl ?_; refine ap_iload_n rfl ?_; refine ai_iastore (n := 2542) rfl rfl (by decide) ?_ ?_; refine ap_aload_n rfl ?_; refine ap_getR ow_66 rf_0_15 rfl rfl rfl ?_; refine ap_iload_n rfl ?_; refine ap_iload_n rfl ?_; refine ai_iastore (n := 2541) rfl rfl (by decide) ?_ ?_; refine ap_vret rfl ?_
      · exact K _ (fun a q1 q2 => ((up_hp f _ _ _ _).2.2 a q1 q2).trans (hf a q1 q2)) (by rw [(up_hp f _ _ _ _).1, (up_hp f _ _ _ _).2.1]; exact h1)
      all_goals (omega)
    have J67 : ∀ (c : Nat) (z : Int), z = c → c / 2 = w → c ≤ n → (∀ i, i ≤ n → i / 2 = w → g 16 (f 18 c).toNat ≤ g 16 (f 18 i).toNat) → am_Wp (am_call d) 66 Q 67 [some (.ref 15), some (.int (iZ (v : Int))), some (.int (iZ (w : Int))), some (.int (iZ y)), some (.int (iZ z)), none] [] (53, sh_lt L, iH f, jH g, sh_rt sw) (0, 0) := by
      intro c z hz c1 c2 c3
      subst hz
      obtain ⟨y1, y2, y3, y4, y5⟩ := hH.2.1 c (by omega) (by omega) (by omega)
      have ka := hg (f 18 c).toNat (by omega)
      have q1 : f 18 ((c : Nat) : Int).toNat = f 18 c := rfl
      have q2 : g 16 (f 18 ((c : Nat) : Int).toNat).toNat = g 16 (f 18 c).toNat := rfl
      have hw3 : n < c * 2 ^ m := Nat.lt_of_lt_of_le hw (by rw [show w * (2 ^ m * 2) = (w * 2) * 2 ^ m by rw [Nat.mul_comm (2 ^ m) 2, Nat.mul_assoc]]; exact Nat.mul_le_mul_right _ (by omega))
      refine ap_go kc_66_67 ?_
      refine ap_aload_n rfl ?_; refine ap_getR ow_66 rf_0_19 rfl rfl rfl ?_; refine ap_iload rfl ?_; refine ai_iaload (n := 2542) rfl rfl (by decide) ?_ ?_; refine ap_istore rfl ?_; refine ap_aload_n rfl ?_; refine ap_getR ow_66 rf_0_11 rfl rfl rfl ?_; refine ap_iload_n rfl ?_; refine ai_laload (n := 2541) rfl rfl (by decide) ?_ ?_; refine ap_aload_n rfl ?_; refine ap_getR ow_66 rf_0_11 rfl rfl rfl ?_; refine ap_iload rfl ?_; refine ai_laload (n := 2541) rfl rfl (by decide) ?_ ?_
      refine ai_lcgt rfl rfl (fun hb0 => ?_) (fun hb0 => ?_) ?_
      · refine ap_go kc_66_96 ?_
        refine ap_aload_n rfl ?_; refine ap_getR ow_66 rf_0_19 rfl rfl rfl ?_; refine ap_iload_n rfl ?_; refine ap_iload rfl ?_; refine ai_iastore (n := 2542) rfl rfl (by decide) ?_ ?_; refine ap_aload_n rfl ?_; refine ap_getR ow_66 rf_0_15 rfl rfl rfl ?_; refine ap_iload rfl ?_; refine ap_iload_n rfl ?_; refine ai_iastore (n := 2541) rfl rfl (by decide) ?_ ?_; refine ap_iload rfl ?_; refine ap_istore_n rfl ?_; refine ai_iinc rfl rfl ?_; refine ap_goto rfl ?_
        · have st := fq_dn hH c1 c2 c3 (by omega); exact am_weak (by first | exact am_le_0 | (repeat (first | exact am_le_0 | refine am_le_n ?_ | refine am_le_s ?_))) (ih c _ _ _ rfl hw3 (by omega) (fun a q1 q2 => ((up_hp f _ _ _ _).2.2 a q1 q2).trans (hf a q1 q2)) (by rw [(up_hp f _ _ _ _).1, (up_hp f _ _ _ _).2.1]; exact st.1) (by rw [(up_hp f _ _ _ _).2.1]; exact fun _ => st.2))
        all_goals (omega)
      · refine ap_go kc_66_93 ?_
        refine ap_goto rfl ?_
        exact am_weak (by first | exact am_le_0 | (repeat (first | exact am_le_0 | refine am_le_n ?_ | refine am_le_s ?_))) (J121 (fun i i1 i2 => by have := c3 i i1 i2; omega))
      all_goals (omega)
    by_cases hw2 : 2 * w ≤ n
    · obtain ⟨y1, y2, y3, y4, y5⟩ := hH.2.1 (2 * w) (by omega) (by omega) (by omega)
      have ka := hg (f 18 (2 * w)).toNat (by omega)
      have e2 : (2 * (w : Int)).toNat = 2 * w := by omega
      have q1 : f 18 (2 * (w : Int)).toNat = f 18 (2 * w) := by rw [e2]
      have q2 : g 16 (f 18 (2 * (w : Int)).toNat).toNat = g 16 (f 18 (2 * w)).toNat := by rw [e2]
      by_cases hw3 : 2 * w + 1 ≤ n
      · obtain ⟨x1, x2, x3, x4, x5⟩ := hH.2.1 (2 * w + 1) (by omega) (by omega) (by omega)
        have kb := hg (f 18 (2 * w + 1)).toNat (by omega)
        have e3 : (2 * (w : Int) + 1).toNat = 2 * w + 1 := by omega
        have q3 : f 18 (2 * (w : Int) + 1).toNat = f 18 (2 * w + 1) := by rw [e3]
        have q4 : g 16 (f 18 (2 * (w : Int) + 1).toNat).toNat = g 16 (f 18 (2 * w + 1)).toNat := by rw [e3]
        have hch : ∀ i, i / 2 = w → i = 2 * w ∨ i = 2 * w + 1 := fun i hi => by omega
        refine ap_go kc_66_4 ?_
        refine ap_iload_n rfl ?_; refine ai_bipush (by decide) ?_
        refine ai_icge rfl rfl (fun hb0 => ?_) (fun hb0 => ?_) ?_
        · exfalso; omega
        · refine ap_go kc_66_10 ?_
          refine ai_iconst ?_; refine ap_iload_n rfl ?_; refine ai_imul ?_; refine ap_aload_n rfl ?_; refine ai_getI ow_66 rf_0_22 rfl rfl ?_
          refine ai_icgt rfl rfl (fun hb1 => ?_) (fun hb1 => ?_) ?_
          · exfalso; omega
          · refine ap_go kc_66_20 ?_
            refine ai_iconst ?_; refine ap_iload_n rfl ?_; refine ai_imul ?_; refine ap_istore rfl ?_; refine ap_iload rfl ?_; refine ap_aload_n rfl ?_; refine ai_getI ow_66 rf_0_22 rfl rfl ?_
            refine ai_icge rfl rfl (fun hb2 => ?_) (fun hb2 => ?_) ?_
            · first | (exfalso; omega) | exact am_weak (by first | exact am_le_0 | (repeat (first | exact am_le_0 | refine am_le_n ?_ | refine am_le_s ?_))) (J67 (2 * w) _ (by omega) (by omega) hw2 (fun i _ i2 => by rcases hch i i2 with z | z; (rw [z]; exact Int.le_refl _); rw [z]; omega)) | exact am_weak (by first | exact am_le_0 | (repeat (first | exact am_le_0 | refine am_le_n ?_ | refine am_le_s ?_))) (J67 (2 * w + 1) _ (by omega) (by omega) hw3 (fun i _ i2 => by rcases hch i i2 with z | z; (rw [z]; omega); rw [z]; exact Int.le_refl _))
            · refine ap_go kc_66_34 ?_
              refine ap_aload_n rfl ?_; refine ap_getR ow_66 rf_0_11 rfl rfl rfl ?_; refine ap_aload_n rfl ?_; refine ap_getR ow_66 rf_0_19 rfl rfl rfl ?_; refine ap_iload rfl ?_; refine ai_iconst ?_; refine ai_iadd ?_; refine ai_iaload (n := 2542) rfl rfl (by decide) ?_ ?_; refine ai_laload (n := 2541) rfl rfl (by decide) ?_ ?_; refine ap_aload_n rfl ?_; refine ap_getR ow_66 rf_0_11 rfl rfl rfl ?_; refine ap_aload_n rfl ?_; refine ap_getR ow_66 rf_0_19 rfl rfl rfl ?_; refine ap_iload rfl ?_; refine ai_iaload (n := 2542) rfl rfl (by decide) ?_ ?_; refine ai_laload (n := 2541) rfl rfl (by decide) ?_ ?_
              refine ai_lcge rfl rfl (fun hb3 => ?_) (fun hb3 => ?_) ?_
              · first | (exfalso; omega) | exact am_weak (by first | exact am_le_0 | (repeat (first | exact am_le_0 | refine am_le_n ?_ | refine am_le_s ?_))) (J67 (2 * w) _ (by omega) (by omega) hw2 (fun i _ i2 => by rcases hch i i2 with z | z; (rw [z]; exact Int.le_refl _); rw [z]; omega)) | exact am_weak (by first | exact am_le_0 | (repeat (first | exact am_le_0 | refine am_le_n ?_ | refine am_le_s ?_))) (J67 (2 * w + 1) _ (by omega) (by omega) hw3 (fun i _ i2 => by rcases hch i i2 with z | z; (rw [z]; omega); rw [z]; exact Int.le_refl _))
              · refine ap_go kc_66_64 ?_
                refine ai_iinc rfl rfl ?_; refine ap_nil ?_
                first | (exfalso; omega) | exact am_weak (by first | exact am_le_0 | (repeat (first | exact am_le_0 | refine am_le_n ?_ | refine am_le_s ?_))) (J67 (2 * w) _ (by omega) (by omega) hw2 (fun i _ i2 => by rcases hch i i2 with z | z; (rw [z]; exact Int.le_refl _); rw [z]; omega)) | exact am_weak (by first | exact am_le_0 | (repeat (first | exact am_le_0 | refine am_le_n ?_ | refine am_le_s ?_))) (J67 (2 * w + 1) _ (by omega) (by omega) hw3 (fun i _ i2 => by rcases hch i i2 with z | z; (rw [z]; omega); rw [z]; exact Int.le_refl _))
              all_goals (omega)
            all_goals (omega)
          all_goals (omega)
        all_goals (omega)
      · have hch : ∀ i, i ≤ n → i / 2 = w → i = 2 * w := fun i h1 hi => by omega
        refine ap_go kc_66_4 ?_
        refine ap_iload_n rfl ?_; refine ai_bipush (by decide) ?_
        refine ai_icge rfl rfl (fun hb0 => ?_) (fun hb0 => ?_) ?_
        · exfalso; omega
        · refine ap_go kc_66_10 ?_
          refine ai_iconst ?_; refine ap_iload_n rfl ?_; refine ai_imul ?_; refine ap_aload_n rfl ?_; refine ai_getI ow_66 rf_0_22 rfl rfl ?_
          refine ai_icgt rfl rfl (fun hb1 => ?_) (fun hb1 => ?_) ?_
          · exfalso; omega
          · refine ap_go kc_66_20 ?_
            refine ai_iconst ?_; refine ap_iload_n rfl ?_; refine ai_imul ?_; refine ap_istore rfl ?_; refine ap_iload rfl ?_; refine ap_aload_n rfl ?_; refine ai_getI ow_66 rf_0_22 rfl rfl ?_
            refine ai_icge rfl rfl (fun hb2 => ?_) (fun hb2 => ?_) ?_
            · exact am_weak (by first | exact am_le_0 | (repeat (first | exact am_le_0 | refine am_le_n ?_ | refine am_le_s ?_))) (J67 (2 * w) _ (by omega) (by omega) hw2 (fun i i1 i2 => by rw [hch i i1 i2]; exact Int.le_refl _))
            · exfalso; omega
            all_goals (omega)
          all_goals (omega)
        all_goals (omega)
    ·
      refine ap_go kc_66_4 ?_
      refine ap_iload_n rfl ?_; refine ai_bipush (by decide) ?_
      refine ai_icge rfl rfl (fun hb0 => ?_) (fun hb0 => ?_) ?_
      · first | exact am_weak (by first | exact am_le_0 | (repeat (first | exact am_le_0 | refine am_le_n ?_ | refine am_le_s ?_))) (J121 (fun i i1 i2 => by omega)) | (exfalso; omega)
      · refine ap_go kc_66_10 ?_
        refine ai_iconst ?_; refine ap_iload_n rfl ?_; refine ai_imul ?_; refine ap_aload_n rfl ?_; refine ai_getI ow_66 rf_0_22 rfl rfl ?_
        refine ai_icgt rfl rfl (fun hb1 => ?_) (fun hb1 => ?_) ?_
        · first | exact am_weak (by first | exact am_le_0 | (repeat (first | exact am_le_0 | refine am_le_n ?_ | refine am_le_s ?_))) (J121 (fun i i1 i2 => by omega)) | (exfalso; omega)
        · exfalso; omega
        all_goals (omega)
      all_goals (omega)
theorem sp_66 {d L : Nat} {sw : Bool} {f g : Nat → Nat → Int} {Q : Option Value → am_H → Prop} {M n v : Nat} {z : Int} {l : List Nat} (K : ∀ F, (∀ a, a ≠ 17 → a ≠ 18 → F a = f a) → HI M l (g 16) (F 17) (F 18) n → Q none (53, sh_lt L, iH F, jH g, sh_rt sw)) (hz : z = v) (hM : M ≤ 2541) (hn : n ≤ M) (hs : f 15 3 = n) (hg : KOk M (g 16)) (hH : HO M l (g 16) (f 17) (f 18) n v 1) : am_call (d + 1) 66 [.ref 15, .int (iZ z)] (53, sh_lt L, iH f, jH g, sh_rt sw) Q := by
  subst hz
  have h1 := hH.1
  refine ap_call (by decide) (Nat.le_of_ble_eq_true rfl) rfl ?_
  refine ap_go kc_66_0 ?_
  refine ai_iconst ?_; refine ap_istore_n rfl ?_; refine ai_iconst ?_; refine ap_istore_n rfl ?_; refine ap_nil ?_
  exact am_weak (by first | exact am_le_0 | (repeat (first | exact am_le_0 | refine am_le_n ?_ | refine am_le_s ?_))) (lp_66 hM hn hs hg K 12 1 _ _ f rfl (by omega) (by omega) (fun _ _ _ => rfl) hH (fun q => absurd q (by decide)))
/-- the frontier in the heap -/
def HF (M : Nat) (l : List Nat) (f g : Nat → Nat → Int) : Prop := ∃ n : Nat, f 15 3 = n ∧ HI M l (g 16) (f 17) (f 18) n
def TL (M : Nat) (l : List Nat) (f g : Nat → Nat → Int) (x : Int) (F : Nat → Nat → Int) : Prop :=
  (x = -1 ∧ F = f ∧ ∀ v, v < M → v ∉ l → g 16 v = 2305843009213693951) ∨ ∃ u : Nat, x = u ∧ u < M ∧ u ∉ l ∧ g 16 u < 2305843009213693951 ∧ (∀ v, v < M → v ∉ l → g 16 u ≤ g 16 v) ∧ FrF f F ∧ HF M (u :: l) F g
theorem sp_64 {d L : Nat} {sw : Bool} {f g : Nat → Nat → Int} {Q : Option Value → am_H → Prop} {M : Nat} {l : List Nat} (K : ∀ x F, TL M l f g x F → Q (some (.int (iZ x))) (53, sh_lt L, iH F, jH g, sh_rt sw)) (hM : M ≤ 2541) (hg : KOk M (g 16)) (hH : HF M l f g) : am_call (d + 2) 64 [.ref 15] (53, sh_lt L, iH f, jH g, sh_rt sw) Q := by
  obtain ⟨n, hs, hI⟩ := hH
  have hn := fq_n hI
  refine ap_call (by decide) (Nat.le_of_ble_eq_true rfl) rfl ?_
  rcases n with _ | _ | n
  · have hK := K (-1) f (Or.inl ⟨rfl, rfl, fun v h1 h2 => (hI.2.1 v h1 h2).elim (fun z => z.2) (fun z => by omega)⟩)
    refine ap_go kc_64_0 ?_
    refine ap_aload_n rfl ?_; refine ai_getI ow_64 rf_0_22 rfl rfl ?_
    refine ai_ifne rfl rfl (fun hb0 => ?_) (fun hb0 => ?_) ?_
    · exfalso; omega
    · refine ap_go kc_64_7 ?_
      refine ai_iconst ?_; refine ap_iret rfl ?_
      exact hK
    all_goals (omega)
  · obtain ⟨y1, y2, y3, y4⟩ := hI.1 1 (by omega) (by omega)
    have hmin := fq_min hI (by omega)
    have hlt : g 16 (f 18 1).toNat < 2305843009213693951 := (hI.2.1 (f 18 1).toNat (by omega) y4).elim (fun z => by omega) (fun z => z.2.2.2)
    have hT := fq_take1 hI
    have e1 : (am_up f 15 3 (f 15 3 - 1)) 15 3 = 0 := by rw [am_up_eq]; dsimp only; rw [if_pos rfl]; omega
    have hK := K (f 18 1) (am_up f 15 3 (f 15 3 - 1)) (Or.inr ⟨(f 18 1).toNat, by omega, by omega, y4, hlt, hmin, fun a q _ _ => am_up_ne q, 0, e1, by rw [am_up_ne (by decide), am_up_ne (by decide)]; exact hT⟩)
    refine ap_go kc_64_0 ?_
    refine ap_aload_n rfl ?_; refine ai_getI ow_64 rf_0_22 rfl rfl ?_
    refine ai_ifne rfl rfl (fun hb0 => ?_) (fun hb0 => ?_) ?_
    · refine ap_go kc_64_9 ?_
      refine ap_aload_n rfl ?_; refine ap_getR ow_64 rf_0_19 rfl rfl rfl ?_; refine ai_iconst ?_; refine ai_iaload (n := 2542) rfl rfl (by decide) ?_ ?_; refine ap_istore_n rfl ?_; refine ap_aload_n rfl ?_; refine ap_getR ow_64 rf_0_19 rfl rfl rfl ?_; refine ap_aload_n rfl ?_; refine ai_getI ow_64 rf_0_22 rfl rfl ?_; refine ai_iaload (n := 2542) rfl rfl (by decide) ?_ ?_; refine ap_istore_n rfl ?_; refine ap_aload_n rfl ?_; refine ap_dup rfl ?_; refine ai_getI ow_64 rf_0_22 rfl rfl ?_; refine ai_iconst ?_; refine ai_isub ?_; refine ai_putI ow_64 rf_0_22 rfl rfl rfl ?_; refine ap_aload_n rfl ?_; refine ai_getI ow_64 rf_0_22 rfl rfl ?_
      refine ai_ifle rfl rfl (fun hb1 => ?_) (fun hb1 => ?_) ?_
      · refine ap_go kc_64_48 ?_
        refine ap_iload_n rfl ?_; refine ap_iret rfl ?_
        exact hK
      · exfalso; omega
      all_goals (first | omega | (rw [e1]; omega))
    · exfalso; omega
    all_goals (first | omega | (rw [e1]; omega))
  · obtain ⟨y1, y2, y3, y4⟩ := hI.1 1 (by omega) (by omega)
    obtain ⟨x1, x2, x3, x4⟩ := hI.1 (n + 2) (by omega) (by omega)
    have hmin := fq_min hI (by omega)
    have hlt : g 16 (f 18 1).toNat < 2305843009213693951 := (hI.2.1 (f 18 1).toNat (by omega) y4).elim (fun z => by omega) (fun z => z.2.2.2)
    have hT := fq_take hI
    have e0 : (f 15 3).toNat = n + 2 := by omega
    have q0 : f 18 (f 15 3).toNat = f 18 (n + 2) := by rw [e0]
    have e1 : (am_up f 15 3 (f 15 3 - 1)) 15 3 = ((n + 1 : Nat) : Int) := by rw [am_up_eq]; dsimp only; rw [if_pos rfl]; omega
    have hT' : HO M ((f 18 1).toNat :: l) (g 16) ((am_up f 15 3 (f 15 3 - 1)) 17) ((am_up f 15 3 (f 15 3 - 1)) 18) (n + 1) (f 18 (n + 2)).toNat 1 := by rw [am_up_ne (by decide), am_up_ne (by decide)]; exact hT
    have J48 : ∀ F, (∀ a, a ≠ 17 → a ≠ 18 → F a = (am_up f 15 3 (f 15 3 - 1)) a) → HI M ((f 18 1).toNat :: l) (g 16) (F 17) (F 18) (n + 1) → am_Wp (am_call (d + 1)) 64 Q 48 [some (.ref 15), some (.int (iZ (f 18 1))), none] [] (53, sh_lt L, iH F, jH g, sh_rt sw) (0, 0) := by
      intro F hF hI2
      have hK := K (f 18 1) F (Or.inr ⟨(f 18 1).toNat, by omega, by omega, y4, hlt, hmin, fun a q1 q2 q3 => (hF a q2 q3).trans (am_up_ne q1), n + 1, by rw [hF 15 (by decide) (by decide)]; exact e1, hI2⟩)
      refine ap_go kc_64_48 ?_
      refine ap_iload_n rfl ?_; refine ap_iret rfl ?_
      exact hK
    refine ap_go kc_64_0 ?_
    refine ap_aload_n rfl ?_; refine ai_getI ow_64 rf_0_22 rfl rfl ?_
    refine ai_ifne rfl rfl (fun hb0 => ?_) (fun hb0 => ?_) ?_
    · refine ap_go kc_64_9 ?_
      refine ap_aload_n rfl ?_; refine ap_getR ow_64 rf_0_19 rfl rfl rfl ?_; refine ai_iconst ?_; refine ai_iaload (n := 2542) rfl rfl (by decide) ?_ ?_; refine ap_istore_n rfl ?_; refine ap_aload_n rfl ?_; refine ap_getR ow_64 rf_0_19 rfl rfl rfl ?_; refine ap_aload_n rfl ?_; refine ai_getI ow_64 rf_0_22 rfl rfl ?_; refine ai_iaload (n := 2542) rfl rfl (by decide) ?_ ?_; refine ap_istore_n rfl ?_; refine ap_aload_n rfl ?_; refine ap_dup rfl ?_; refine ai_getI ow_64 rf_0_22 rfl rfl ?_; refine ai_iconst ?_; refine ai_isub ?_; refine ai_putI ow_64 rf_0_22 rfl rfl rfl ?_; refine ap_aload_n rfl ?_; refine ai_getI ow_64 rf_0_22 rfl rfl ?_
      refine ai_ifle rfl rfl (fun hb1 => ?_) (fun hb1 => ?_) ?_
      · first | (exfalso; omega) | exact am_weak (by first | exact am_le_0 | (repeat (first | exact am_le_0 | refine am_le_n ?_ | refine am_le_s ?_))) (J48 F hF hI2)
      · refine ap_go kc_64_43 ?_
        refine ap_aload_n rfl ?_; refine ap_iload_n rfl ?_; refine ap_callv0 ow_64 rm_0_32 na_66 mc_66 ms_66 rfl rfl (Nat.le_of_ble_eq_true rfl) (Nat.le_of_ble_eq_true rfl) (Or.inr rfl) (Nat.zero_le _) (Nat.zero_le _) ?_; refine sp_66 (fun F hF hI2 => ?_) (show _ = (((f 18 (n + 2)).toNat : Nat) : Int) by rw [e0]; omega) hM (by omega) e1 hg hT'; dsimp only [Option.toList_some, Option.toList_none, List.cons_append, List.nil_append]; refine ap_nil ?_
        first | (exfalso; omega) | exact am_weak (by first | exact am_le_0 | (repeat (first | exact am_le_0 | refine am_le_n ?_ | refine am_le_s ?_))) (J48 F hF hI2)
      all_goals (first | omega | (rw [e1]; omega))
    · exfalso; omega
    all_goals (first | omega | (rw [e1]; omega))
theorem sp_63 {d L : Nat} {sw : Bool} {f g : Nat → Nat → Int} {Q : Option Value → am_H → Prop} {M v : Nat} {z x : Int} {l : List Nat} (K : ∀ F G, FrF f F → FrG g G → G 16 = fq_l (g 16) v x → HF M l F G → Q none (53, sh_lt L, iH F, jH G, sh_rt sw)) (hz : z = v) (hM : M ≤ 2541) (hg : KOk M (g 16)) (hH : HF M l f g) (hv : v < M) (hl : x < g 16 v → v ∉ l) (hx : 0 ≤ x ∧ x < 9000000000000000000) : am_call (d + 2) 63 [.ref 15, .int (iZ z), .long (lZ x)] (53, sh_lt L, iH f, jH g, sh_rt sw) Q := by
  subst hz
  obtain ⟨n, hs, hI⟩ := hH
  have hn := fq_n hI
  have kv := hg v hv
  have ev : g 16 ((v : Nat) : Int).toNat = g 16 v := rfl
  have ep : f 17 ((v : Nat) : Int).toNat = f 17 v := rfl
  refine ap_call (by decide) (Nat.le_of_ble_eq_true rfl) rfl ?_
  by_cases hlt : x < g 16 v
  · have hl' := hl hlt
    have eg : (am_up g 16 v x) 16 = fq_u (g 16) v x := by rw [am_up_eq]; rfl
    have hg2 : KOk M ((am_up g 16 v x) 16) := by
      rw [eg]
      intro u hu
      unfold fq_u
      split
      · omega
      · exact hg u hu
    have hfl : (am_up g 16 v x) 16 = fq_l (g 16) v x := by rw [eg]; unfold fq_l; rw [if_pos hlt]
    have J48 : ∀ (F : Nat → Nat → Int) (n w : Nat), FrF f F → F 15 3 = n → n ≤ M → HO M l (fq_u (g 16) v x) (F 17) (F 18) n v w → F 17 v = w → (∀ i, i ≤ n → i / 2 = w → fq_u (g 16) v x v ≤ fq_u (g 16) v x (F 18 i).toNat) → am_Wp (am_call (d + 1)) 63 Q 48 [some (.ref 15), some (.int (iZ (v : Int))), some (.long (lZ x)), none] [] (53, sh_lt L, iH F, jH (am_up g 16 v x), sh_rt sw) (0, 0) := by
      intro F n w hF h15 hn hO hw hc
      rw [← eg] at hO hc
      refine ap_go kc_63_48 ?_
      refine ap_aload_n rfl ?_; refine ap_iload_n rfl ?_; refine ap_callv0 ow_63 rm_0_28 na_65 mc_65 ms_65 rfl rfl (Nat.le_of_ble_eq_true rfl) (Nat.le_of_ble_eq_true rfl) (Or.inr rfl) (Nat.zero_le _) (Nat.zero_le _) ?_; refine sp_65 (fun F2 hF2 hI2 => ?_) hM hn hg2 hO hw hc; dsimp only [Option.toList_some, Option.toList_none, List.cons_append, List.nil_append]; refine ap_vret rfl ?_
      exact K F2 _ (fun a q1 q2 q3 => (hF2 a q2 q3).trans (hF a q1 q2 q3)) (fun a q1 => am_up_ne q1) hfl ⟨n, by rw [hF2 15 (by decide) (by decide)]; exact h15, hI2⟩
    by_cases hp : f 17 v = 0
    · have hn1 := fq_n1 hI hv hp
      have hO := fq_new hI hv hl' hlt hp
      have e15 : (am_up f 15 3 (f 15 3 + 1)) 15 3 = (n : Int) + 1 := by rw [am_up_eq]; dsimp only; rw [if_pos rfl]; omega
      have e17 : (am_up (am_up f 15 3 (f 15 3 + 1)) 17 v ((n : Int) + 1)) 17 = fq_u (f 17) v ((n : Int) + 1) := by rw [am_up_eq, am_up_ne (by decide)]; rfl
      have e18 : (am_up (am_up f 15 3 (f 15 3 + 1)) 17 v ((n : Int) + 1)) 18 = f 18 := by rw [am_up_ne (by decide), am_up_ne (by decide)]
      have e16 : (am_up (am_up f 15 3 (f 15 3 + 1)) 17 v ((n : Int) + 1)) 15 3 = ((n + 1 : Nat) : Int) := by rw [am_up_ne (by decide)]; exact e15
      have J := J48 (am_up (am_up f 15 3 (f 15 3 + 1)) 17 v ((n : Int) + 1)) (n + 1) (n + 1) (fun a q1 q2 _ => (am_up_ne q2).trans (am_up_ne q1)) e16 hn1 (by rw [e17, e18]; exact hO) (by rw [e17, fq_ue]; rfl) (fun i i1 i2 => by omega)
      rw [← e15] at J
      refine ap_go kc_63_0 ?_
      refine ap_lload_n rfl ?_; refine ap_aload_n rfl ?_; refine ap_getR ow_63 rf_0_11 rfl rfl rfl ?_; refine ap_iload_n rfl ?_; refine ai_laload (n := 2541) rfl rfl (by decide) ?_ ?_
      refine ai_lclt rfl rfl (fun hb0 => ?_) (fun hb0 => ?_) ?_
      · refine ap_go kc_63_12 ?_
        refine ap_aload_n rfl ?_; refine ap_getR ow_63 rf_0_11 rfl rfl rfl ?_; refine ap_iload_n rfl ?_; refine ap_lload_n rfl ?_; refine ai_lastore (n := 2541) rfl rfl (by decide) ?_ ?_; refine ap_aload_n rfl ?_; refine ap_getR ow_63 rf_0_15 rfl rfl rfl ?_; refine ap_iload_n rfl ?_; refine ai_iaload (n := 2541) rfl rfl (by decide) ?_ ?_
        refine ai_ifne rfl rfl (fun hb1 => ?_) (fun hb1 => ?_) ?_
        · first | (exfalso; omega) | exact am_weak (by first | exact am_le_0 | (repeat (first | exact am_le_0 | refine am_le_n ?_ | refine am_le_s ?_))) J
        · refine ap_go kc_63_28 ?_
          refine ap_aload_n rfl ?_; refine ap_dup rfl ?_; refine ai_getI ow_63 rf_0_22 rfl rfl ?_; refine ai_iconst ?_; refine ai_iadd ?_; refine ai_putI ow_63 rf_0_22 rfl rfl rfl ?_; refine ap_aload_n rfl ?_; refine ap_getR ow_63 rf_0_15 rfl rfl rfl ?_; refine ap_iload_n rfl ?_; refine ap_aload_n rfl ?_; refine ai_getI ow_63 rf_0_22 rfl rfl ?_; refine ai_iastore (n := 2541) rfl rfl (by decide) ?_ ?_; refine ap_nil ?_
          · first | (exfalso; omega) | exact am_weak (by first | exact am_le_0 | (repeat (first | exact am_le_0 | refine am_le_n ?_ | refine am_le_s ?_))) J
          all_goals (omega)
        all_goals (omega)
      · refine ap_go kc_63_11 ?_
        refine ap_vret rfl ?_
        exfalso; omega
      all_goals (omega)
    · have hO := fq_open hI hv hl' hlt hp
      have hp1 : f 17 v = (((f 17 v).toNat : Nat) : Int) := by
        rcases hI.2.1 v hv hl' with z | z
        · exact absurd z.1 hp
        · omega
      have hpr : iR (f 17 v) := by
        rcases hI.2.1 v hv hl' with z | z
        · exact absurd z.1 hp
        · omega
      have J := J48 f n (f 17 v).toNat (fun _ _ _ _ => rfl) hs hn hO.1 hp1 hO.2
      refine ap_go kc_63_0 ?_
      refine ap_lload_n rfl ?_; refine ap_aload_n rfl ?_; refine ap_getR ow_63 rf_0_11 rfl rfl rfl ?_; refine ap_iload_n rfl ?_; refine ai_laload (n := 2541) rfl rfl (by decide) ?_ ?_
      refine ai_lclt rfl rfl (fun hb0 => ?_) (fun hb0 => ?_) ?_
      · refine ap_go kc_63_12 ?_
        refine ap_aload_n rfl ?_; refine ap_getR ow_63 rf_0_11 rfl rfl rfl ?_; refine ap_iload_n rfl ?_; refine ap_lload_n rfl ?_; refine ai_lastore (n := 2541) rfl rfl (by decide) ?_ ?_; refine ap_aload_n rfl ?_; refine ap_getR ow_63 rf_0_15 rfl rfl rfl ?_; refine ap_iload_n rfl ?_; refine ai_iaload (n := 2541) rfl rfl (by decide) ?_ ?_
        refine ai_ifne rfl rfl (fun hb1 => ?_) (fun hb1 => ?_) ?_
        · first | (exfalso; omega) | exact am_weak (by first | exact am_le_0 | (repeat (first | exact am_le_0 | refine am_le_n ?_ | refine am_le_s ?_))) J
        · exfalso; omega
        all_goals (omega)
      · refine ap_go kc_63_11 ?_
        refine ap_vret rfl ?_
        exfalso; omega
      all_goals (omega)
  · have hfl : g 16 = fq_l (g 16) v x := by unfold fq_l; rw [if_neg hlt]
    have hK := K f g (fun _ _ _ _ => rfl) (fun _ _ => rfl) hfl ⟨n, hs, hI⟩
    refine ap_go kc_63_0 ?_
    refine ap_lload_n rfl ?_; refine ap_aload_n rfl ?_; refine ap_getR ow_63 rf_0_11 rfl rfl rfl ?_; refine ap_iload_n rfl ?_; refine ai_laload (n := 2541) rfl rfl (by decide) ?_ ?_
    refine ai_lclt rfl rfl (fun hb0 => ?_) (fun hb0 => ?_) ?_
    · exfalso; omega
    · refine ap_go kc_63_11 ?_
      refine ap_vret rfl ?_
      exact hK
    all_goals (omega)
