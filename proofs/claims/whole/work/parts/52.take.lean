/-! THE REFERENCE: take(), plan() -/
theorem lp_46b {d L : Nat} {sw : Bool} {Q : Option Value → am_H → Prop} {g fb : Nat → Nat → Int} (K : ∀ f, (∀ a, a ≠ 48 → f a = fb a) → (∀ v, v < 2600 → f 48 v = 0) → am_Wp (am_call d) 46 Q 58 [some (.ref 31), none] [] (53, sh_lt L, iH f, jH g, sh_rt sw) (0, 0)) : ∀ (k v : Nat) (i : Int) (f : Nat → Nat → Int), i = v → 2600 = v + k → (∀ a, a ≠ 48 → f a = fb a) → (∀ x, x < v → f 48 x = 0) → am_Wp (am_call d) 46 Q 38 [some (.ref 31), some (.int (iZ i))] [] (53, sh_lt L, iH f, jH g, sh_rt sw) (0, 0) := by
  intro k
  induction k with
  | zero =>
    intro v i f hi hk hf hN
    subst hi
    refine ap_go kc_46_38 ?_
    refine ap_iload_n rfl ?_; refine ai_sipush (by decide) ?_
    refine ai_icge rfl rfl (fun hb0 => ?_) (fun hb0 => ?_) ?_
    · exact am_weak (by first | exact am_le_0 | (repeat (first | exact am_le_0 | refine am_le_n ?_ | refine am_le_s ?_))) (K f hf (by rw [hk]; exact hN))
    · exfalso; omega
    all_goals (omega)
  | succ k ih =>
    intro v i f hi hk hf hN
    subst hi
    refine ap_go kc_46_38 ?_
    refine ap_iload_n rfl ?_; refine ai_sipush (by decide) ?_
    refine ai_icge rfl rfl (fun hb0 => ?_) (fun hb0 => ?_) ?_
    · exfalso; omega
    · refine ap_go kc_46_45 ?_
      refine ap_aload_n rfl ?_; refine ap_getR ow_46 rf_8_70 rfl rfl rfl ?_; refine ap_iload_n rfl ?_; refine ai_iconst ?_; refine ai_bastore (n := 2600) rfl rfl (by decide) ?_ ?_ ?_; refine ai_iinc rfl rfl ?_; refine ap_goto rfl ?_
      · exact am_weak (by first | exact am_le_0 | (repeat (first | exact am_le_0 | refine am_le_n ?_ | refine am_le_s ?_))) (ih (v + 1) (v + 1) (am_up f 48 v 0) rfl (by omega) (fun a ha => (am_up_ne ha).trans (hf a ha)) (fun x hx => by rw [am_up_eq]; dsimp only; by_cases z : x = v; (rw [if_pos z]); rw [if_neg z]; exact hN x (by omega)))
      all_goals (omega)
    all_goals (omega)
theorem lp_46a {d L : Nat} {sw : Bool} {Q : Option Value → am_H → Prop} {g fb : Nat → Nat → Int} {n : Nat} (hn : fb 31 27 = (n : Int)) (hn2 : n ≤ 2600) (K : ∀ f, (∀ a, a ≠ 47 → f a = fb a) → (∀ v, v < n → f 47 v = fb 49 v) → am_Wp (am_call d) 46 Q 36 [some (.ref 31), none] [] (53, sh_lt L, iH f, jH g, sh_rt sw) (0, 0)) : ∀ (k v : Nat) (i : Int) (f : Nat → Nat → Int), i = v → n = v + k → (∀ a, a ≠ 47 → f a = fb a) → (∀ x, x < v → f 47 x = fb 49 x) → am_Wp (am_call d) 46 Q 10 [some (.ref 31), some (.int (iZ i))] [] (53, sh_lt L, iH f, jH g, sh_rt sw) (0, 0) := by
  intro k
  induction k with
  | zero =>
    intro v i f hi hk hf hN
    subst hi
    have e27 : f 31 27 = (n : Int) := by rw [hf 31 (by decide)]; exact hn
    refine ap_go kc_46_10 ?_
    refine ap_iload_n rfl ?_; refine ap_aload_n rfl ?_; refine ai_getI ow_46 rf_8_151 rfl rfl ?_
    refine ai_icge rfl rfl (fun hb0 => ?_) (fun hb0 => ?_) ?_
    · exact am_weak (by first | exact am_le_0 | (repeat (first | exact am_le_0 | refine am_le_n ?_ | refine am_le_s ?_))) (K f hf (by rw [hk]; exact hN))
    · exfalso; omega
    all_goals (omega)
  | succ k ih =>
    intro v i f hi hk hf hN
    subst hi
    have e27 : f 31 27 = (n : Int) := by rw [hf 31 (by decide)]; exact hn
    refine ap_go kc_46_10 ?_
    refine ap_iload_n rfl ?_; refine ap_aload_n rfl ?_; refine ai_getI ow_46 rf_8_151 rfl rfl ?_
    refine ai_icge rfl rfl (fun hb0 => ?_) (fun hb0 => ?_) ?_
    · exfalso; omega
    · refine ap_go kc_46_18 ?_
      refine ap_aload_n rfl ?_; refine ap_getR ow_46 rf_8_61 rfl rfl rfl ?_; refine ap_iload_n rfl ?_; refine ap_aload_n rfl ?_; refine ap_getR ow_46 rf_8_73 rfl rfl rfl ?_; refine ap_iload_n rfl ?_; refine ai_iaload (n := 2600) rfl rfl (by decide) ?_ ?_; refine ai_iastore (n := 2600) rfl rfl (by decide) ?_ ?_; refine ai_iinc rfl rfl ?_; refine ap_goto rfl ?_
      · exact am_weak (by first | exact am_le_0 | (repeat (first | exact am_le_0 | refine am_le_n ?_ | refine am_le_s ?_))) (ih (v + 1) (v + 1) (am_up f 47 v _) rfl (by omega) (fun a ha => (am_up_ne ha).trans (hf a ha)) (fun x hx => by rw [am_up_eq]; dsimp only; by_cases z : x = v; (rw [if_pos z, z, hf 49 (by decide)]; rfl); rw [if_neg z]; exact hN x (by omega)))
      all_goals (omega)
    all_goals (omega)
theorem sp_46 {d L : Nat} {sw : Bool} {f g : Nat → Nat → Int} {Q : Option Value → am_H → Prop} {n : Nat} (K : ∀ F, (∀ a, a ≠ 31 → a ≠ 47 → a ≠ 48 → F a = f a) → (∀ j, j ≠ 23 → F 31 j = f 31 j) → F 31 23 = (n : Int) → (∀ v, v < n → F 47 v = f 49 v) → (∀ v, v < 2600 → F 48 v = 0) → Q none (53, sh_lt L, iH F, jH (am_up g 31 25 (g 31 29)), sh_rt sw)) (hn : f 31 27 = (n : Int)) (hn2 : n ≤ 2600) : am_call (d + 1) 46 [.ref 31] (53, sh_lt L, iH f, jH g, sh_rt sw) Q := by
  have J : ∀ f1, f1 = am_up f 31 23 (f 31 27) → am_Wp (am_call d) 46 Q 10 [some (.ref 31), some (.int (iZ 0))] [] (53, sh_lt L, iH f1, jH g, sh_rt sw) (0, 0) := by
    intro f1 e1
    have a1 : ∀ a, a ≠ 31 → f1 a = f a := fun a h => by rw [e1, am_up_ne h]
    have a2 : ∀ j, j ≠ 23 → f1 31 j = f 31 j := fun j h => by rw [e1, am_up_eq]; dsimp only; rw [if_neg h]
    have a3 : f1 31 23 = (n : Int) := by rw [e1, am_up_eq]; exact hn
    refine lp_46a (fb := f1) (n := n) ((a2 27 (by decide)).trans hn) hn2 ?_ n 0 0 f1 rfl (by omega) (fun _ _ => rfl) (fun x hx => absurd hx (Nat.not_lt_zero x))
    intro f2 q1 q2
    have J2 : ∀ f3, (∀ a, a ≠ 48 → f3 a = f2 a) → (∀ v, v < 2600 → f3 48 v = 0) → am_Wp (am_call d) 46 Q 58 [some (.ref 31), none] [] (53, sh_lt L, iH f3, jH g, sh_rt sw) (0, 0) := by
      intro f3 q3 q4
      refine ap_go kc_46_58 ?_
      refine ap_aload_n rfl ?_; refine ap_aload_n rfl ?_; refine ai_getJ ow_46 rf_8_161 rfl rfl ?_; refine ai_putJ ow_46 rf_8_66 rfl rfl rfl ?_; refine ap_vret rfl ?_
      exact K f3 (fun a h1 h2 h3 => by rw [q3 a h3, q1 a h2, a1 a h1]) (fun j hj => by rw [q3 31 (by decide), q1 31 (by decide), a2 j hj]) (by rw [q3 31 (by decide), q1 31 (by decide), a3]) (fun v hv => by rw [q3 47 (by decide), q2 v hv, a1 49 (by decide)]) q4
    refine ap_go kc_46_36 ?_
    refine ai_iconst ?_; refine ap_istore_n rfl ?_; refine ap_nil ?_
    exact am_weak (by first | exact am_le_0 | (repeat (first | exact am_le_0 | refine am_le_n ?_ | refine am_le_s ?_))) (lp_46b (fb := f2) J2 2600 0 0 f2 rfl rfl (fun _ _ => rfl) (fun x hx => absurd hx (Nat.not_lt_zero x)))
  refine ap_call (by decide) (Nat.le_of_ble_eq_true rfl) rfl ?_
  refine ap_go kc_46_0 ?_
  refine ap_aload_n rfl ?_; refine ap_aload_n rfl ?_; refine ai_getI ow_46 rf_8_151 rfl rfl ?_; refine ai_putI ow_46 rf_8_173 rfl rfl rfl ?_; refine ai_iconst ?_; refine ap_istore_n rfl ?_; refine ap_nil ?_
  exact am_weak (by first | exact am_le_0 | (repeat (first | exact am_le_0 | refine am_le_n ?_ | refine am_le_s ?_))) (J _ rfl)
/-- what plan() and replan() may change of the reference -/
def PW (f g F G : Nat → Nat → Int) : Prop := (∀ a, a ≠ 31 → a ≠ 44 → a ≠ 45 → a ≠ 46 → a ≠ 47 → a ≠ 48 → a ≠ 49 → F a = f a) ∧ (∀ j, j ≠ 23 → j ≠ 27 → j ≠ 30 → F 31 j = f 31 j) ∧ (∀ a, a ≠ 31 → a ≠ 43 → G a = g a) ∧ (∀ j, j ≠ 14 → j ≠ 25 → j ≠ 29 → G 31 j = g 31 j) ∧ G 31 14 = g 31 14 + 1
/-- what findWay() answers -/
def WR (f g : Nat → Nat → Int) (D : Nat → Option Nat) (a0 : Nat) (x : Int) (F G : Nat → Nat → Int) : Prop := FW f g F G ∧
  ((x = 0 ∧ D a0 = none ∧ F 31 27 = 0 ∧ ∃ l : Nat, F 31 30 = (l : Int) ∧ (f 31 17 = 2 → nsL (okZ f (am_up g 31 14 (g 31 14 + 1)) a0) (frZ f g) (f 31 1).toNat l) ∧ (f 31 17 ≠ 2 → l = 0)) ∨
   (x = 1 ∧ ∃ (D0 s : Nat) (h : Nat → Int), D a0 = some D0 ∧ F 31 27 = ((D0 % 4096 : Nat) : Int) ∧ Rw f (am_up g 31 14 (g 31 14 + 1)) D D0 (F 49) (D0 % 4096) s h ∧ plZ f s = f 31 16 ∧ G 31 29 = ((D0 / 4096 : Nat) : Int) ∧ F 31 30 = 0))
theorem sp_43w {d L : Nat} {sw : Bool} {f g : Nat → Nat → Int} {Q : Option Value → am_H → Prop} {D : Nat → Option Nat} {a0 : Nat} (K : ∀ x F G, WR f g D a0 x F G → Q (some (.int (iZ x))) (53, sh_lt L, iH F, jH G, sh_rt sw)) (hD : mg_D (mE f (am_up g 31 14 (g 31 14 + 1))) (mT f) D) (hM : MOk f (am_up g 31 14 (g 31 14 + 1))) (hX : XOk g) (ha : f 31 18 = (a0 : Int)) (h18 : f 31 18 ≤ toZ f) : am_call (d + 4) 43 [.ref 31] (53, sh_lt L, iH f, jH g, sh_rt sw) Q :=
  sp_43 hD (fun F G y1 y2 y3 y4 => K 0 F G ⟨y1, Or.inl ⟨rfl, y2, y3, y4⟩⟩) (fun F G D0 s h y1 y2 y3 y4 y5 y6 y7 => K 1 F G ⟨y1, Or.inr ⟨rfl, D0, s, h, y2, y3, y4, y5, y6, y7⟩⟩) hM hX ha h18
/-- what plan() answers, after its task f5 is set -/
def PR (f5 g : Nat → Nat → Int) (D : Nat → Option Nat) (a0 : Nat) (x : Int) (F G : Nat → Nat → Int) : Prop := PW f5 g F G ∧ (∀ v, v < 2600 → F 48 v = 0) ∧
  ((x = -1 ∧ D a0 = none ∧ F 31 23 = 0 ∧ G 31 25 = -1 ∧ ∃ l : Nat, F 31 30 = (l : Int) ∧ (f5 31 17 = 2 → nsL (okZ f5 (am_up g 31 14 (g 31 14 + 1)) a0) (frZ f5 g) (f5 31 1).toNat l) ∧ (f5 31 17 ≠ 2 → l = 0)) ∨
   (∃ (D0 s : Nat) (h : Nat → Int), x = ((D0 % 4096 : Nat) : Int) ∧ D a0 = some D0 ∧ F 31 23 = ((D0 % 4096 : Nat) : Int) ∧ Rw f5 (am_up g 31 14 (g 31 14 + 1)) D D0 (F 47) (D0 % 4096) s h ∧ plZ f5 s = f5 31 16 ∧ G 31 25 = ((D0 / 4096 : Nat) : Int) ∧ F 31 30 = 0))
def plOk (N a b k e : Int) : Prop := (1 ≤ a ∧ a ≤ N) ∧ (1 ≤ b ∧ b ≤ N) ∧ 0 ≤ k ∧ k ≤ 2 ∧ (k = 2 → 0 ≤ e ∧ e ≤ 20)
theorem sp_47 {d L : Nat} {sw : Bool} {f g : Nat → Nat → Int} {Q : Option Value → am_H → Prop} {a b k e : Int} {f5 : Nat → Nat → Int} {D : Nat → Option Nat} {a0 : Nat} (hf5 : f5 = am_up (am_up (am_up (am_up (am_up f 31 0 0) 31 15 a) 31 16 b) 31 17 k) 31 18 (if k = 2 then e else 0)) (hD : mg_D (mE f5 (am_up g 31 14 (g 31 14 + 1))) (mT f5) D)
    (KB : ¬ plOk (f 31 1) a b k e → Q (some (.int (iZ (-2)))) (53, sh_lt L, iH (am_up f 31 0 0), jH g, sh_rt sw))
    (K : plOk (f 31 1) a b k e → ∀ x F G, PR f5 g D a0 x F G → Q (some (.int (iZ x))) (53, sh_lt L, iH F, jH G, sh_rt sw))
    (hr : iR a ∧ iR b ∧ iR k ∧ lR e) (hN : 0 ≤ f 31 1 ∧ f 31 1 ≤ 60) (hM : plOk (f 31 1) a b k e → MOk f5 (am_up g 31 14 (g 31 14 + 1))) (hX : XOk g) (ha : plOk (f 31 1) a b k e → (if k = 2 then e else 0) = (a0 : Int)) : am_call (d + 5) 47 [.ref 31, .int (iZ a), .int (iZ b), .int (iZ k), .long (lZ e)] (53, sh_lt L, iH f, jH g, sh_rt sw) Q := by
  have eN : am_up f 31 0 0 31 1 = f 31 1 := rfl
  have J124 : ∀ (x : Int) (F G F1 : Nat → Nat → Int) (n : Nat) (c : Int), plOk (f 31 1) a b k e → WR f5 g D a0 x F G → n ≤ 2600 → F1 31 27 = (n : Int) → (∀ a, a ≠ 31 → F1 a = F a) → (∀ j, j ≠ 27 → F1 31 j = F 31 j) → (x = 0 ∧ n = 0 ∧ c = -1) ∨ (x = 1 ∧ F 31 27 = (n : Int) ∧ G 31 29 = c) → am_Wp (am_call (d + 4)) 47 Q 124 [some (.ref 31), none, none, none, none, none, some (.int (iZ x))] [.long (lZ c), .ref 31] (53, sh_lt L, iH F1, jH G, sh_rt sw) (0, 0) := by
    intro x F G F1 n c hok hW hn h1 h2 h3 h4
    have hx : x = 0 ∨ x = 1 := h4.elim (fun z => Or.inl z.1) (fun z => Or.inr z.1)
    have fin : ∀ F2 G2, (∀ a, a ≠ 31 → a ≠ 47 → a ≠ 48 → F2 a = F1 a) → (∀ j, j ≠ 23 → F2 31 j = F1 31 j) → F2 31 23 = (n : Int) → (∀ v, v < n → F2 47 v = F1 49 v) → (∀ v, v < 2600 → F2 48 v = 0) → G2 = am_up (am_up G 31 29 c) 31 25 (am_up G 31 29 c 31 29) → PR f5 g D a0 (if x = 0 then -1 else (n : Int)) F2 G2 := by
      intro F2 G2 r1 r2 r3 r4 r5 r6
      obtain ⟨⟨w1, w2, w3, w4, w5⟩, w6⟩ := hW
      have g25 : G2 31 25 = c := by rw [r6, am_up_eq]; dsimp only; rw [if_pos rfl, am_up_eq]; rfl
      refine ⟨⟨fun a y1 y2 y3 y4 y5 y6 y7 => ?_, fun j y1 y2 y3 => ?_, fun a y1 y2 => ?_, fun j y1 y2 y3 => ?_, ?_⟩, r5, ?_⟩
      · rw [r1 a y1 y5 y6, h2 a y1]; exact w1 a y1 y2 y3 y4 y7
      · rw [r2 j y1, h3 j y2]; exact w2 j y2 y3
      · rw [r6, am_up_ne y1, am_up_ne y1]; exact w3 a y1 y2
      · rw [r6, am_up_eq]; dsimp only; rw [if_neg y2, am_up_eq]; dsimp only; rw [if_neg y3]; exact w4 j y1 y3
      · rw [r6, am_up_eq]; dsimp only; rw [if_neg (by decide), am_up_eq]; dsimp only; rw [if_neg (by decide)]; exact w5
      · rcases h4 with ⟨z1, z2, z3⟩ | ⟨z1, z2, z3⟩
        · rcases w6 with ⟨_, u1, u2, l, u3, u4⟩ | ⟨u1, _⟩
          · exact Or.inl ⟨if_pos z1, u1, by rw [r3, z2]; rfl, by rw [g25, z3], l, by rw [r2 30 (by decide), h3 30 (by decide)]; exact u3, u4⟩
          · omega
        · rcases w6 with ⟨u1, _⟩ | ⟨_, D0, s, h, u1, u2, u3, u4, u5, u6⟩
          · omega
          · have en : (n : Int) = ((D0 % 4096 : Nat) : Int) := z2.symm.trans u2
            have en' : n = D0 % 4096 := by omega
            refine Or.inr ⟨D0, s, h, ?_, u1, r3.trans en, Rw_ext _ s h (fun i hi => ?_) u3, u4, ?_, ?_⟩
            · rw [if_neg (by omega)]; exact en
            · rw [r4 i (by omega), h2 49 (by decide)]
            · rw [g25, ← z3]; exact u5
            · rw [r2 30 (by decide), h3 30 (by decide)]; exact u6
    refine ap_go kc_47_124 ?_
    refine ai_putJ ow_47 rf_8_161 rfl rfl rfl ?_; refine ap_aload_n rfl ?_; refine ap_callv0 ow_47 rm_8_182 na_46 mc_46 ms_46 rfl rfl (Nat.le_of_ble_eq_true rfl) (Nat.le_of_ble_eq_true rfl) (Or.inr rfl) (Nat.zero_le _) (Nat.zero_le _) ?_; refine sp_46 (n := n) (fun F2 r1 r2 r3 r4 r5 => ?_) h1 hn; dsimp only [Option.toList_some, Option.toList_none, List.cons_append, List.nil_append]; refine ap_iload rfl ?_
    refine ai_ifeq rfl rfl (fun hb0 => ?_) (fun hb0 => ?_) ?_
    · refine ap_go kc_47_143 ?_
      refine ai_iconst ?_; refine ap_nil ?_
      refine ap_go kc_47_144 ?_
      refine ap_iret rfl ?_
      first | exact sq (K hok _ _ _ (fin F2 _ r1 r2 r3 r4 r5 rfl)) (by rw [if_pos (by omega)]) | exact sq (K hok _ _ _ (fin F2 _ r1 r2 r3 r4 r5 rfl)) (by rw [if_neg (by omega)]; exact r3)
    · refine ap_go kc_47_136 ?_
      refine ap_aload_n rfl ?_; refine ai_getI ow_47 rf_8_173 rfl rfl ?_; refine ap_goto rfl ?_
      refine ap_go kc_47_144 ?_
      refine ap_iret rfl ?_
      first | exact sq (K hok _ _ _ (fin F2 _ r1 r2 r3 r4 r5 rfl)) (by rw [if_pos (by omega)]) | exact sq (K hok _ _ _ (fin F2 _ r1 r2 r3 r4 r5 rfl)) (by rw [if_neg (by omega)]; exact r3)
    all_goals (omega)
  have J82 : plOk (f 31 1) a b k e → ∀ st, st = (if k = 2 then e else 0) → am_Wp (am_call (d + 4)) 47 Q 82 [some (.ref 31), none, none, none, none, none, none] [.int (iZ st), .ref 31] (53, sh_lt L, iH (am_up (am_up (am_up (am_up f 31 0 0) 31 15 a) 31 16 b) 31 17 k), jH g, sh_rt sw) (0, 0) := by
    intro hok st est
    have e5 : am_up (am_up (am_up (am_up (am_up f 31 0 0) 31 15 a) 31 16 b) 31 17 k) 31 18 st = f5 := by rw [hf5, est]
    have hM5 := hM hok
    have h18 : f5 31 18 = (a0 : Int) := by rw [hf5, am_up_eq]; exact ha hok
    have h17 : f5 31 17 = k := by rw [hf5]; rfl
    have h18t : f5 31 18 ≤ toZ f5 := by
      have := hok.2.2.2.2
      unfold toZ
      rw [h17, h18, ← ha hok]
      split <;> omega
    have h20 := toZ_in f5
    have hx1 : ∀ x F G, WR f5 g D a0 x F G → (x = 0 ∧ F 31 27 = 0) ∨ (x = 1 ∧ 0 ≤ F 31 27 ∧ F 31 27 < 2541) := by
      intro x F G hW
      rcases hW.2 with ⟨z1, _, z2, _⟩ | ⟨z1, D0, s, h, z3, z2, _⟩
      · exact Or.inl ⟨z1, z2⟩
      · have := D_mod hM5 hD (v := a0) (by omega) z3
        exact Or.inr ⟨z1, by omega, by omega⟩
    refine ap_go kc_47_82 ?_
    refine ai_putI ow_47 rf_8_145 rfl rfl rfl ?_
    rw [e5]
    refine ap_aload_n rfl ?_; refine ap_callv0 ow_47 rm_8_178 na_43 mc_43 ms_43 rfl rfl (Nat.le_of_ble_eq_true rfl) (Nat.le_of_ble_eq_true rfl) (Or.inr rfl) (Nat.zero_le _) (Nat.zero_le _) ?_; refine sp_43w (a0 := a0) (fun x F G hW => ?_) hD hM5 hX h18 h18t; dsimp only [Option.toList_some, Option.toList_none, List.cons_append, List.nil_append]
    have hx2 := hx1 x F G hW
    refine ap_istore rfl ?_; refine ap_aload_n rfl ?_; refine ap_iload rfl ?_
    refine ai_ifeq rfl rfl (fun hb0 => ?_) (fun hb0 => ?_) ?_
    · refine ap_go kc_47_104 ?_
      refine ai_iconst ?_; refine ap_nil ?_
      refine ap_go kc_47_105 ?_
      refine ai_putI ow_47 rf_8_151 rfl rfl rfl ?_; refine ap_aload_n rfl ?_; refine ap_iload rfl ?_
      refine ai_ifeq rfl rfl (fun hb1 => ?_) (fun hb1 => ?_) ?_
      · refine ap_go kc_47_121 ?_
        refine ai_ldc2 (-1) ow_47 kl_8_64 rfl ?_; refine ap_nil ?_
        first | exact am_weak (by first | exact am_le_0 | (repeat (first | exact am_le_0 | refine am_le_n ?_ | refine am_le_s ?_))) (J124 x F G (am_up F 31 27 0) 0 (-1) hok hW (by decide) rfl (fun a h => am_up_ne h) (fun j h => by rw [am_up_eq]; dsimp only; rw [if_neg h]) (Or.inl ⟨by omega, rfl, rfl⟩)) | exact am_weak (by first | exact am_le_0 | (repeat (first | exact am_le_0 | refine am_le_n ?_ | refine am_le_s ?_))) (J124 x F G (am_up F 31 27 (F 31 27)) (F 31 27).toNat (G 31 29) hok hW (by omega) (by rw [am_up_eq]; dsimp only; rw [if_pos rfl]; omega) (fun a h => am_up_ne h) (fun j h => by rw [am_up_eq]; dsimp only; rw [if_neg h]) (Or.inr ⟨by omega, by omega, rfl⟩)) | (exfalso; omega)
      · refine ap_go kc_47_114 ?_
        refine ap_aload_n rfl ?_; refine ai_getJ ow_47 rf_8_161 rfl rfl ?_; refine ap_goto rfl ?_
        first | exact am_weak (by first | exact am_le_0 | (repeat (first | exact am_le_0 | refine am_le_n ?_ | refine am_le_s ?_))) (J124 x F G (am_up F 31 27 0) 0 (-1) hok hW (by decide) rfl (fun a h => am_up_ne h) (fun j h => by rw [am_up_eq]; dsimp only; rw [if_neg h]) (Or.inl ⟨by omega, rfl, rfl⟩)) | exact am_weak (by first | exact am_le_0 | (repeat (first | exact am_le_0 | refine am_le_n ?_ | refine am_le_s ?_))) (J124 x F G (am_up F 31 27 (F 31 27)) (F 31 27).toNat (G 31 29) hok hW (by omega) (by rw [am_up_eq]; dsimp only; rw [if_pos rfl]; omega) (fun a h => am_up_ne h) (fun j h => by rw [am_up_eq]; dsimp only; rw [if_neg h]) (Or.inr ⟨by omega, by omega, rfl⟩)) | (exfalso; omega)
      all_goals (omega)
    · refine ap_go kc_47_97 ?_
      refine ap_aload_n rfl ?_; refine ai_getI ow_47 rf_8_151 rfl rfl ?_; refine ap_goto rfl ?_
      refine ap_go kc_47_105 ?_
      refine ai_putI ow_47 rf_8_151 rfl rfl rfl ?_; refine ap_aload_n rfl ?_; refine ap_iload rfl ?_
      refine ai_ifeq rfl rfl (fun hb2 => ?_) (fun hb2 => ?_) ?_
      · refine ap_go kc_47_121 ?_
        refine ai_ldc2 (-1) ow_47 kl_8_64 rfl ?_; refine ap_nil ?_
        first | exact am_weak (by first | exact am_le_0 | (repeat (first | exact am_le_0 | refine am_le_n ?_ | refine am_le_s ?_))) (J124 x F G (am_up F 31 27 0) 0 (-1) hok hW (by decide) rfl (fun a h => am_up_ne h) (fun j h => by rw [am_up_eq]; dsimp only; rw [if_neg h]) (Or.inl ⟨by omega, rfl, rfl⟩)) | exact am_weak (by first | exact am_le_0 | (repeat (first | exact am_le_0 | refine am_le_n ?_ | refine am_le_s ?_))) (J124 x F G (am_up F 31 27 (F 31 27)) (F 31 27).toNat (G 31 29) hok hW (by omega) (by rw [am_up_eq]; dsimp only; rw [if_pos rfl]; omega) (fun a h => am_up_ne h) (fun j h => by rw [am_up_eq]; dsimp only; rw [if_neg h]) (Or.inr ⟨by omega, by omega, rfl⟩)) | (exfalso; omega)
      · refine ap_go kc_47_114 ?_
        refine ap_aload_n rfl ?_; refine ai_getJ ow_47 rf_8_161 rfl rfl ?_; refine ap_goto rfl ?_
        first | exact am_weak (by first | exact am_le_0 | (repeat (first | exact am_le_0 | refine am_le_n ?_ | refine am_le_s ?_))) (J124 x F G (am_up F 31 27 0) 0 (-1) hok hW (by decide) rfl (fun a h => am_up_ne h) (fun j h => by rw [am_up_eq]; dsimp only; rw [if_neg h]) (Or.inl ⟨by omega, rfl, rfl⟩)) | exact am_weak (by first | exact am_le_0 | (repeat (first | exact am_le_0 | refine am_le_n ?_ | refine am_le_s ?_))) (J124 x F G (am_up F 31 27 (F 31 27)) (F 31 27).toNat (G 31 29) hok hW (by omega) (by rw [am_up_eq]; dsimp only; rw [if_pos rfl]; omega) (fun a h => am_up_ne h) (fun j h => by rw [am_up_eq]; dsimp only; rw [if_neg h]) (Or.inr ⟨by omega, by omega, rfl⟩)) | (exfalso; omega)
      all_goals (omega)
    all_goals (omega)
  refine ap_call (by decide) (Nat.le_of_ble_eq_true rfl) rfl ?_
  refine ap_go kc_47_0 ?_
  refine ap_aload_n rfl ?_; refine ai_iconst ?_; refine ai_putI ow_47 rf_8_82 rfl rfl rfl ?_; refine ap_aload_n rfl ?_; refine ap_iload_n rfl ?_; refine ap_callv0 ow_47 rm_8_95 na_26 mc_26 ms_26 rfl rfl (Nat.le_of_ble_eq_true rfl) (Nat.le_of_ble_eq_true rfl) (Or.inr rfl) (Nat.zero_le _) (Nat.zero_le _) ?_; refine sp_26 ?_ ?_ ?_; dsimp only [Option.toList_some, Option.toList_none, List.cons_append, List.nil_append]
  refine ai_ifne rfl rfl (fun hb0 => ?_) (fun hb0 => ?_) ?_
  · refine ap_go kc_47_51 ?_
    refine ai_bipush (by decide) ?_; refine ap_iret rfl ?_
    exact KB (by unfold plOk; first | omega | (split at hb0 <;> omega) | (split at hb0 <;> split at hb1 <;> omega))
  · refine ap_go kc_47_13 ?_
    refine ap_aload_n rfl ?_; refine ap_iload_n rfl ?_; refine ap_callv0 ow_47 rm_8_95 na_26 mc_26 ms_26 rfl rfl (Nat.le_of_ble_eq_true rfl) (Nat.le_of_ble_eq_true rfl) (Or.inr rfl) (Nat.zero_le _) (Nat.zero_le _) ?_; refine sp_26 ?_ ?_ ?_; dsimp only [Option.toList_some, Option.toList_none, List.cons_append, List.nil_append]
    refine ai_ifne rfl rfl (fun hb1 => ?_) (fun hb1 => ?_) ?_
    · refine ap_go kc_47_51 ?_
      refine ai_bipush (by decide) ?_; refine ap_iret rfl ?_
      exact KB (by unfold plOk; first | omega | (split at hb0 <;> omega) | (split at hb0 <;> split at hb1 <;> omega))
    · refine ap_go kc_47_21 ?_
      refine ap_iload_n rfl ?_
      refine ai_iflt rfl rfl (fun hb2 => ?_) (fun hb2 => ?_) ?_
      · refine ap_go kc_47_51 ?_
        refine ai_bipush (by decide) ?_; refine ap_iret rfl ?_
        exact KB (by unfold plOk; first | omega | (split at hb0 <;> omega) | (split at hb0 <;> split at hb1 <;> omega))
      · refine ap_go kc_47_25 ?_
        refine ap_iload_n rfl ?_; refine ai_iconst ?_
        refine ai_icgt rfl rfl (fun hb3 => ?_) (fun hb3 => ?_) ?_
        · refine ap_go kc_47_51 ?_
          refine ai_bipush (by decide) ?_; refine ap_iret rfl ?_
          exact KB (by unfold plOk; first | omega | (split at hb0 <;> omega) | (split at hb0 <;> split at hb1 <;> omega))
        · refine ap_go kc_47_30 ?_
          refine ap_iload_n rfl ?_; refine ai_iconst ?_
          refine ai_icne rfl rfl (fun hb4 => ?_) (fun hb4 => ?_) ?_
          · refine ap_go kc_47_54 ?_
            refine ap_aload_n rfl ?_; refine ap_iload_n rfl ?_; refine ai_putI ow_47 rf_8_113 rfl rfl rfl ?_; refine ap_aload_n rfl ?_; refine ap_iload_n rfl ?_; refine ai_putI ow_47 rf_8_131 rfl rfl rfl ?_; refine ap_aload_n rfl ?_; refine ap_iload_n rfl ?_; refine ai_putI ow_47 rf_8_45 rfl rfl rfl ?_; refine ap_aload_n rfl ?_; refine ap_iload_n rfl ?_; refine ai_iconst ?_
            refine ai_icne rfl rfl (fun hb5 => ?_) (fun hb5 => ?_) ?_
            · refine ap_go kc_47_81 ?_
              refine ai_iconst ?_; refine ap_nil ?_
              first | exact am_weak (by first | exact am_le_0 | (repeat (first | exact am_le_0 | refine am_le_n ?_ | refine am_le_s ?_))) (J82 (by unfold plOk; split at hb0 <;> split at hb1 <;> omega) e (by rw [if_pos (by omega)])) | exact am_weak (by first | exact am_le_0 | (repeat (first | exact am_le_0 | refine am_le_n ?_ | refine am_le_s ?_))) (J82 (by unfold plOk; split at hb0 <;> split at hb1 <;> omega) 0 (by rw [if_neg (by omega)]))
            · refine ap_go kc_47_75 ?_
              refine ap_lload rfl ?_; refine ai_l2i ?_; refine ap_goto rfl ?_
              first | exact am_weak (by first | exact am_le_0 | (repeat (first | exact am_le_0 | refine am_le_n ?_ | refine am_le_s ?_))) (J82 (by unfold plOk; split at hb0 <;> split at hb1 <;> omega) e (by rw [if_pos (by omega)])) | exact am_weak (by first | exact am_le_0 | (repeat (first | exact am_le_0 | refine am_le_n ?_ | refine am_le_s ?_))) (J82 (by unfold plOk; split at hb0 <;> split at hb1 <;> omega) 0 (by rw [if_neg (by omega)]))
            all_goals (first | omega | (split <;> omega))
          · refine ap_go kc_47_35 ?_
            refine ap_lload rfl ?_; refine ai_lconst 0 rfl ?_
            refine ai_lclt rfl rfl (fun hb6 => ?_) (fun hb6 => ?_) ?_
            · refine ap_go kc_47_51 ?_
              refine ai_bipush (by decide) ?_; refine ap_iret rfl ?_
              exact KB (by unfold plOk; first | omega | (split at hb0 <;> omega) | (split at hb0 <;> split at hb1 <;> omega))
            · refine ap_go kc_47_42 ?_
              refine ap_lload rfl ?_; refine ai_ldc2 (20) ow_47 kl_8_176 rfl ?_
              refine ai_lcle rfl rfl (fun hb7 => ?_) (fun hb7 => ?_) ?_
              · refine ap_go kc_47_54 ?_
                refine ap_aload_n rfl ?_; refine ap_iload_n rfl ?_; refine ai_putI ow_47 rf_8_113 rfl rfl rfl ?_; refine ap_aload_n rfl ?_; refine ap_iload_n rfl ?_; refine ai_putI ow_47 rf_8_131 rfl rfl rfl ?_; refine ap_aload_n rfl ?_; refine ap_iload_n rfl ?_; refine ai_putI ow_47 rf_8_45 rfl rfl rfl ?_; refine ap_aload_n rfl ?_; refine ap_iload_n rfl ?_; refine ai_iconst ?_
                refine ai_icne rfl rfl (fun hb8 => ?_) (fun hb8 => ?_) ?_
                · refine ap_go kc_47_81 ?_
                  refine ai_iconst ?_; refine ap_nil ?_
                  first | exact am_weak (by first | exact am_le_0 | (repeat (first | exact am_le_0 | refine am_le_n ?_ | refine am_le_s ?_))) (J82 (by unfold plOk; split at hb0 <;> split at hb1 <;> omega) e (by rw [if_pos (by omega)])) | exact am_weak (by first | exact am_le_0 | (repeat (first | exact am_le_0 | refine am_le_n ?_ | refine am_le_s ?_))) (J82 (by unfold plOk; split at hb0 <;> split at hb1 <;> omega) 0 (by rw [if_neg (by omega)]))
                · refine ap_go kc_47_75 ?_
                  refine ap_lload rfl ?_; refine ai_l2i ?_; refine ap_goto rfl ?_
                  first | exact am_weak (by first | exact am_le_0 | (repeat (first | exact am_le_0 | refine am_le_n ?_ | refine am_le_s ?_))) (J82 (by unfold plOk; split at hb0 <;> split at hb1 <;> omega) e (by rw [if_pos (by omega)])) | exact am_weak (by first | exact am_le_0 | (repeat (first | exact am_le_0 | refine am_le_n ?_ | refine am_le_s ?_))) (J82 (by unfold plOk; split at hb0 <;> split at hb1 <;> omega) 0 (by rw [if_neg (by omega)]))
                all_goals (first | omega | (split <;> omega))
              · refine ap_go kc_47_51 ?_
                refine ai_bipush (by decide) ?_; refine ap_iret rfl ?_
                exact KB (by unfold plOk; first | omega | (split at hb0 <;> omega) | (split at hb0 <;> split at hb1 <;> omega))
              all_goals (first | omega | (split <;> omega))
            all_goals (first | omega | (split <;> omega))
          all_goals (first | omega | (split <;> omega))
        all_goals (first | omega | (split <;> omega))
      all_goals (first | omega | (split <;> omega))
    all_goals (first | omega | (split <;> omega))
  all_goals (first | omega | (split <;> omega))
