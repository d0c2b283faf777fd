/-! THE REFERENCE: findCosts, its loops -/
section FCP
variable {f0 g0 f g f2 g2 : Nat → Nat → Int} {cs ns : Nat → Int} {s e t : Nat} {more x : Int}
theorem goZ_bg (h : goZ f g s e t = true) : f 35 t = plZ f s := by
  unfold goZ at h
  simp only [Bool.and_eq_true, decide_eq_true_eq] at h
  exact h.1.1.1
theorem st_B (hF : Fr f0 g0 f g) (he : e ≤ 20) (ht : 1 ≤ t) (h : PI f0 g0 cs ns (Dt s e t) more (g 43) (f 44)) (hn : ¬ goZ f g s e t = true) : PI f0 g0 cs ns (Dt s e (t + 1)) more (g 43) (f 44) :=
  PI_next he h (fun u w k q1 _ => absurd (by rw [Fr_go hF]; exact (mEk_t he ht q1).1) hn)
theorem st_A (hF : Fr f0 g0 f g) (he : e ≤ 20) (ht : 1 ≤ t) (h : PI f0 g0 cs ns (Dt s e t) more (g 43) (f 44)) (hn : ¬ f 35 t = plZ f s) : PI f0 g0 cs ns (Dt s e (t + 1)) more (g 43) (f 44) :=
  st_B hF he ht h (fun q => hn (goZ_bg q))
theorem st_C (hF : Fr f0 g0 f g) (he : e ≤ 20) (ht : 1 ≤ t) (h : PI f0 g0 cs ns (Dt s e t) more (g 43) (f 44)) (hn : g 43 (21 * (t : Int) + e - neZ f t).toNat < 0) : PI f0 g0 cs ns (Dt s e (t + 1)) more (g 43) (f 44) :=
  PI_next he h (fun u w k q1 q2 => by
    have hu := (mEk_t he ht q1).2.1
    have hl := (labZ_some q2).1
    rw [← Fr_ne hF] at hu
    have e1 : (21 * (t : Int) + e - neZ f t).toNat = u := by omega
    rw [e1] at hn
    omega)
theorem st_D (hM : MOk f0 g0) (hF : Fr f0 g0 f g) (hs : (s : Int) ≤ f0 31 5) (he : (e : Int) ≤ toZ f0) (ht : 1 ≤ t) (htm : (t : Int) ≤ f0 31 5) (h : PI f0 g0 cs ns (Dt s e t) more (g 43) (f 44)) (hg : goZ f g s e t = true) (hb : 0 ≤ g 43 (21 * (t : Int) + e - neZ f t).toNat)
    (hR : lsR f g (21 * s + e) (g 43 (21 * (t : Int) + e - neZ f t).toNat + prZ f g t) (f 44 (21 * (t : Int) + e - neZ f t).toNat + 1) x f2 g2) : Fr f0 g0 f2 g2 ∧ PI f0 g0 cs ns (Dt s e (t + 1)) (if x = 1 then 1 else more) (g2 43) (f2 44) := by
  have h20 := toZ_in f0
  have he' : e ≤ 20 := by omega
  have hne := neZ_in hM t
  have hg' := goZ_ne hg
  rw [Fr_go hF] at hg
  have hg2 := goZ_ne hg
  rw [Fr_ne hF] at hb hR
  rw [Fr_pr hF] at hR
  have hm5 := hM.1.2.1
  have hwf := h.1.1 (21 * (t : Int) + e - neZ f0 t).toNat (by omega)
  have hE : mEk f0 g0 t (21 * s + e) (21 * (t : Int) + e - neZ f0 t).toNat (4096 * (prZ f0 g0 t).toNat + 1) := ⟨s, e, rfl, hs, he, Or.inr ⟨ht, htm, hg, by omega, rfl⟩⟩
  refine PI_less hM hF he' h hE (fun u' w' q => ?_) hb (by omega) (by omega) ?_ (by omega) hR
  · obtain ⟨-, q1, q2⟩ := mEk_t he' ht q
    exact ⟨by omega, q2⟩
  · omega
theorem st_0n (hF : Fr f0 g0 f g) (he : e ≤ 20) (h : PI f0 g0 cs ns (Dt s e 0) more (g 43) (f 44)) (hn : unZ f g (plZ f s).toNat < 0 ∨ 20 ≤ e ∨ g 43 (21 * s + e + 1) < 0) : PI f0 g0 cs ns (Dt s e 1) more (g 43) (f 44) :=
  PI_next he h (fun u w k q1 q2 => by
    obtain ⟨p1, p2, p3, -⟩ := mEk_0 he q1
    rw [Fr_un hF, Fr_pl hF] at hn
    subst p3
    have := (labZ_some q2).1
    omega)
theorem st_0 (hM : MOk f0 g0) (hF : Fr f0 g0 f g) (hs : (s : Int) ≤ f0 31 5) (he : (e : Int) ≤ toZ f0) (h : PI f0 g0 cs ns (Dt s e 0) more (g 43) (f 44)) (he2 : e < 20) (hu : 0 ≤ unZ f g (plZ f s).toNat) (hb : 0 ≤ g 43 (21 * s + e + 1))
    (hR : lsR f g (21 * s + e) (g 43 (21 * s + e + 1) + unZ f g (plZ f s).toNat) (f 44 (21 * s + e + 1)) x f2 g2) : Fr f0 g0 f2 g2 ∧ PI f0 g0 cs ns (Dt s e 1) (if x = 1 then 1 else more) (g2 43) (f2 44) := by
  rw [Fr_un hF, Fr_pl hF] at hu hR
  have hm5 := hM.1.2.1
  have hwf := h.1.1 (21 * s + e + 1) (by omega)
  have hE : mEk f0 g0 0 (21 * s + e) (21 * s + e + 1) (4096 * (unZ f0 g0 (plZ f0 s).toNat).toNat) := ⟨s, e, rfl, hs, he, Or.inl ⟨rfl, he2, hu, rfl, rfl⟩⟩
  refine PI_less hM hF (by omega) h hE (fun u' w' q => ?_) hb (by omega) (by omega) ?_ (by omega) hR
  · obtain ⟨-, -, q1, q2⟩ := mEk_0 (by omega) q
    exact ⟨q1, q2⟩
  · omega
end FCP

theorem more_x {x more : Int} (h1 : x = 0 ∨ x = 1) (h2 : more = 0 ∨ more = 1) : (if x = 1 then (1 : Int) else more) = if x ≠ 0 ∨ more ≠ 0 then 1 else 0 := by
  rcases h1 with rfl | rfl <;> rcases h2 with rfl | rfl <;> decide
theorem lp_40t {d L : Nat} {sw : Bool} {Q : Option Value → am_H → Prop} {f0 g0 : Nat → Nat → Int} {cs ns : Nat → Int} (hM : MOk f0 g0) {s e : Nat} (hs : (s : Int) ≤ f0 31 5) (he : (e : Int) ≤ toZ f0) (K : ∀ more f g, Fr f0 g0 f g → PI f0 g0 cs ns (Dt s e ((f0 31 5).toNat + 1)) more (g 43) (f 44) → am_Wp (am_call (d + 2)) 40 Q 309 [some (.ref 31), some (.int (iZ more)), some (.int (iZ s)), some (.int (iZ e)), none, none, none, none, none] [] (53, sh_lt L, iH f, jH g, sh_rt sw) (0, 0)) : ∀ (k t : Nat) (i more : Int) (f g : Nat → Nat → Int), i = t → (f0 31 5).toNat + 1 = t + k → 1 ≤ t → Fr f0 g0 f g → PI f0 g0 cs ns (Dt s e t) more (g 43) (f 44) → am_Wp (am_call (d + 2)) 40 Q 198 [some (.ref 31), some (.int (iZ more)), some (.int (iZ s)), some (.int (iZ e)), some (.int (iZ (21 * (s : Int) + e))), none, none, some (.int (iZ i)), none] [] (53, sh_lt L, iH f, jH g, sh_rt sw) (0, 0) := by
  intro k
  have m5 := hM.1.2.1
  have h20 := toZ_in f0
  have he' : e ≤ 20 := by omega
  have eA : (21 * (s : Int) + e).toNat = 21 * s + e := by omega
  induction k with
  | zero =>
    intro t i more f g hi hk ht hF hP
    subst hi
    have e5 : f 31 5 = f0 31 5 := by rw [hF.1 31 (by decide)]
    have hm := PI_more hP
    refine ap_go kc_40_198 ?_
    refine ap_iload rfl ?_; refine ap_aload_n rfl ?_; refine ai_getI ow_40 rf_8_88 rfl rfl ?_
    refine ai_icgt rfl rfl (fun hb0 => ?_) (fun hb0 => ?_) ?_
    · exact am_weak (by first | exact am_le_0 | (repeat (first | exact am_le_0 | refine am_le_n ?_ | refine am_le_s ?_))) (K more f g hF (by rw [hk]; exact hP))
    · exfalso; omega
    all_goals (omega)
  | succ k ih =>
    intro t i more f g hi hk ht hF hP
    subst hi
    have e5 : f 31 5 = f0 31 5 := by rw [hF.1 31 (by decide)]
    have hM' := Fr_MOk hF hM
    have hm := PI_more hP
    have hne := neZ_in hM' t
    have hpl := plZ_in hM' s
    have hbg := hM'.2.1.1 t
    have hpr := prZ_in hM' t
    have hpr0 := prZ_in hM t
    have hb : neZ f t ≤ e → _ := fun z => hP.1.1 (21 * (t : Int) + e - neZ f t).toNat (by omega)
    have hbb : neZ f t ≤ e → _ := fun z => LI_bd hM hP.1 (v := (21 * (t : Int) + e - neZ f t).toNat) (by omega)
    have hab := LI_bd hM hP.1 (v := 21 * s + e) (by omega)
    have hcb := hP.1.1 (21 * s + e) (by omega)
    have hgn := goZ_ne (f := f) (g := g) (s := s) (t := t) (e := e)
    refine ap_go kc_40_198 ?_
    refine ap_iload rfl ?_; refine ap_aload_n rfl ?_; refine ai_getI ow_40 rf_8_88 rfl rfl ?_
    refine ai_icgt rfl rfl (fun hq0 => ?_) (fun hq0 => ?_) ?_
    · exfalso; omega
    · refine ap_go kc_40_207 ?_
      refine ai_bipush (by decide) ?_; refine ap_iload rfl ?_; refine ai_imul ?_; refine ap_iload_n rfl ?_; refine ai_iadd ?_; refine ap_aload_n rfl ?_; refine ap_iload rfl ?_; refine ap_callv0 ow_40 rm_8_124 na_36 mc_36 ms_36 rfl rfl (Nat.le_of_ble_eq_true rfl) (Nat.le_of_ble_eq_true rfl) (Or.inr rfl) (Nat.zero_le _) (Nat.zero_le _) ?_; refine sp_36 ?_ hM' ?_; try dsimp only [Int.toNat_natCast]; dsimp only [Option.toList_some, Option.toList_none, List.cons_append, List.nil_append]; refine ai_isub ?_; refine ap_istore rfl ?_; refine ap_aload_n rfl ?_; refine ap_getR ow_40 rf_8_19 rfl rfl rfl ?_; refine ap_iload rfl ?_; refine ai_iaload (n := 121) rfl rfl (by decide) ?_ ?_; refine ap_aload_n rfl ?_; refine ap_iload_n rfl ?_; refine ap_callv0 ow_40 rm_8_116 na_37 mc_37 ms_37 rfl rfl (Nat.le_of_ble_eq_true rfl) (Nat.le_of_ble_eq_true rfl) (Or.inr rfl) (Nat.zero_le _) (Nat.zero_le _) ?_; refine sp_37 ?_ ?_; try dsimp only [Int.toNat_natCast]; dsimp only [Option.toList_some, Option.toList_none, List.cons_append, List.nil_append]
      refine ai_icne rfl rfl (fun hq1 => ?_) (fun hq1 => ?_) ?_
      · refine ap_go kc_40_303 ?_
        refine ai_iinc rfl rfl ?_; refine ap_goto rfl ?_
        first | exact am_weak (by first | exact am_le_0 | (repeat (first | exact am_le_0 | refine am_le_n ?_ | refine am_le_s ?_))) (ih (t + 1) (t + 1) more f g rfl (by omega) (by omega) hF (st_A hF he' ht hP (by omega))) | exact am_weak (by first | exact am_le_0 | (repeat (first | exact am_le_0 | refine am_le_n ?_ | refine am_le_s ?_))) (ih (t + 1) (t + 1) more f g rfl (by omega) (by omega) hF (st_B hF he' ht hP (by intro z; rw [if_pos z] at hq2; omega))) | exact am_weak (by first | exact am_le_0 | (repeat (first | exact am_le_0 | refine am_le_n ?_ | refine am_le_s ?_))) (ih (t + 1) (t + 1) more f g rfl (by omega) (by omega) hF (st_C hF he' ht hP (by omega))) | exact am_weak (by first | exact am_le_0 | (repeat (first | exact am_le_0 | refine am_le_n ?_ | refine am_le_s ?_))) (ih (t + 1) (t + 1) 1 f2 g2 rfl (by omega) (by omega) hF2 (by rw [if_pos (by omega)] at hP2; exact hP2)) | exact am_weak (by first | exact am_le_0 | (repeat (first | exact am_le_0 | refine am_le_n ?_ | refine am_le_s ?_))) (ih (t + 1) (t + 1) 0 f2 g2 rfl (by omega) (by omega) hF2 (by rw [if_neg (by omega)] at hP2; exact hP2))
      · refine ap_go kc_40_238 ?_
        refine ap_aload_n rfl ?_; refine ap_iload_n rfl ?_; refine ap_iload_n rfl ?_; refine ap_iload rfl ?_; refine ap_callv0 ow_40 rm_8_141 na_38 mc_38 ms_38 rfl rfl (Nat.le_of_ble_eq_true rfl) (Nat.le_of_ble_eq_true rfl) (Or.inr rfl) (Nat.zero_le _) (Nat.zero_le _) ?_; refine sp_38 ?_ hM' ?_ ?_ ?_; try dsimp only [Int.toNat_natCast]; dsimp only [Option.toList_some, Option.toList_none, List.cons_append, List.nil_append]
        refine ai_ifeq rfl rfl (fun hq2 => ?_) (fun hq2 => ?_) ?_
        · refine ap_go kc_40_303 ?_
          refine ai_iinc rfl rfl ?_; refine ap_goto rfl ?_
          first | exact am_weak (by first | exact am_le_0 | (repeat (first | exact am_le_0 | refine am_le_n ?_ | refine am_le_s ?_))) (ih (t + 1) (t + 1) more f g rfl (by omega) (by omega) hF (st_A hF he' ht hP (by omega))) | exact am_weak (by first | exact am_le_0 | (repeat (first | exact am_le_0 | refine am_le_n ?_ | refine am_le_s ?_))) (ih (t + 1) (t + 1) more f g rfl (by omega) (by omega) hF (st_B hF he' ht hP (by intro z; rw [if_pos z] at hq2; omega))) | exact am_weak (by first | exact am_le_0 | (repeat (first | exact am_le_0 | refine am_le_n ?_ | refine am_le_s ?_))) (ih (t + 1) (t + 1) more f g rfl (by omega) (by omega) hF (st_C hF he' ht hP (by omega))) | exact am_weak (by first | exact am_le_0 | (repeat (first | exact am_le_0 | refine am_le_n ?_ | refine am_le_s ?_))) (ih (t + 1) (t + 1) 1 f2 g2 rfl (by omega) (by omega) hF2 (by rw [if_pos (by omega)] at hP2; exact hP2)) | exact am_weak (by first | exact am_le_0 | (repeat (first | exact am_le_0 | refine am_le_n ?_ | refine am_le_s ?_))) (ih (t + 1) (t + 1) 0 f2 g2 rfl (by omega) (by omega) hF2 (by rw [if_neg (by omega)] at hP2; exact hP2))
        · refine ap_go kc_40_249 ?_
          refine ap_aload_n rfl ?_
          have hz := hgn (by by_cases z : goZ f g s e t = true; exact z; rw [if_neg z] at hq2; omega)
          refine ap_getR ow_40 rf_8_49 rfl rfl rfl ?_; refine ap_iload rfl ?_; refine ai_laload (n := 2541) rfl rfl (by decide) ?_ ?_; refine ai_lconst 0 rfl ?_
          refine ai_lclt rfl rfl (fun hq3 => ?_) (fun hq3 => ?_) ?_
          · refine ap_go kc_40_303 ?_
            refine ai_iinc rfl rfl ?_; refine ap_goto rfl ?_
            first | exact am_weak (by first | exact am_le_0 | (repeat (first | exact am_le_0 | refine am_le_n ?_ | refine am_le_s ?_))) (ih (t + 1) (t + 1) more f g rfl (by omega) (by omega) hF (st_A hF he' ht hP (by omega))) | exact am_weak (by first | exact am_le_0 | (repeat (first | exact am_le_0 | refine am_le_n ?_ | refine am_le_s ?_))) (ih (t + 1) (t + 1) more f g rfl (by omega) (by omega) hF (st_B hF he' ht hP (by intro z; rw [if_pos z] at hq2; omega))) | exact am_weak (by first | exact am_le_0 | (repeat (first | exact am_le_0 | refine am_le_n ?_ | refine am_le_s ?_))) (ih (t + 1) (t + 1) more f g rfl (by omega) (by omega) hF (st_C hF he' ht hP (by omega))) | exact am_weak (by first | exact am_le_0 | (repeat (first | exact am_le_0 | refine am_le_n ?_ | refine am_le_s ?_))) (ih (t + 1) (t + 1) 1 f2 g2 rfl (by omega) (by omega) hF2 (by rw [if_pos (by omega)] at hP2; exact hP2)) | exact am_weak (by first | exact am_le_0 | (repeat (first | exact am_le_0 | refine am_le_n ?_ | refine am_le_s ?_))) (ih (t + 1) (t + 1) 0 f2 g2 rfl (by omega) (by omega) hF2 (by rw [if_neg (by omega)] at hP2; exact hP2))
          · refine ap_go kc_40_261 ?_
            refine ap_aload_n rfl ?_; refine ap_iload rfl ?_; refine ap_aload_n rfl ?_; refine ap_getR ow_40 rf_8_49 rfl rfl rfl ?_; refine ap_iload rfl ?_; refine ai_laload (n := 2541) rfl rfl (by decide) ?_ ?_; refine ap_aload_n rfl ?_; refine ap_iload rfl ?_; refine ap_callv0 ow_40 rm_8_120 na_33 mc_33 ms_33 rfl rfl (Nat.le_of_ble_eq_true rfl) (Nat.le_of_ble_eq_true rfl) (Or.inr rfl) (Nat.zero_le _) (Nat.zero_le _) ?_; refine sp_33 ?_ hM' ?_; try dsimp only [Int.toNat_natCast]; dsimp only [Option.toList_some, Option.toList_none, List.cons_append, List.nil_append]; refine ai_ladd ?_; refine ap_aload_n rfl ?_; refine ap_getR ow_40 rf_8_52 rfl rfl rfl ?_; refine ap_iload rfl ?_; refine ai_iaload (n := 2541) rfl rfl (by decide) ?_ ?_; refine ai_iconst ?_; refine ai_iadd ?_; refine ap_callv0 ow_40 rm_8_137 na_39 mc_39 ms_39 rfl rfl (Nat.le_of_ble_eq_true rfl) (Nat.le_of_ble_eq_true rfl) (Or.inr rfl) (Nat.zero_le _) (Nat.zero_le _) ?_; refine sp_39 (fun x f2 g2 hR => ?_) ?_ ?_ ?_ ?_ ?_; dsimp only [Option.toList_some, Option.toList_none, List.cons_append, List.nil_append]
            have hx := lsR_x hR; rw [eA] at hR; obtain ⟨hF2, hP2⟩ := st_D hM hF hs he ht (by omega) hP (by by_cases z : goZ f g s e t = true; exact z; rw [if_neg z] at hq2; omega) (by omega) hR; rw [more_x hx hm] at hP2
            refine ai_ifne rfl rfl (fun hq4 => ?_) (fun hq4 => ?_) ?_
            · refine ap_go kc_40_297 ?_
              refine ai_iconst ?_; refine ap_goto rfl ?_
              refine ap_go kc_40_302 ?_
              refine ap_istore_n rfl ?_; refine ap_nil ?_
              refine ap_go kc_40_303 ?_
              refine ai_iinc rfl rfl ?_; refine ap_goto rfl ?_
              first | exact am_weak (by first | exact am_le_0 | (repeat (first | exact am_le_0 | refine am_le_n ?_ | refine am_le_s ?_))) (ih (t + 1) (t + 1) more f g rfl (by omega) (by omega) hF (st_A hF he' ht hP (by omega))) | exact am_weak (by first | exact am_le_0 | (repeat (first | exact am_le_0 | refine am_le_n ?_ | refine am_le_s ?_))) (ih (t + 1) (t + 1) more f g rfl (by omega) (by omega) hF (st_B hF he' ht hP (by intro z; rw [if_pos z] at hq2; omega))) | exact am_weak (by first | exact am_le_0 | (repeat (first | exact am_le_0 | refine am_le_n ?_ | refine am_le_s ?_))) (ih (t + 1) (t + 1) more f g rfl (by omega) (by omega) hF (st_C hF he' ht hP (by omega))) | exact am_weak (by first | exact am_le_0 | (repeat (first | exact am_le_0 | refine am_le_n ?_ | refine am_le_s ?_))) (ih (t + 1) (t + 1) 1 f2 g2 rfl (by omega) (by omega) hF2 (by rw [if_pos (by omega)] at hP2; exact hP2)) | exact am_weak (by first | exact am_le_0 | (repeat (first | exact am_le_0 | refine am_le_n ?_ | refine am_le_s ?_))) (ih (t + 1) (t + 1) 0 f2 g2 rfl (by omega) (by omega) hF2 (by rw [if_neg (by omega)] at hP2; exact hP2))
            · refine ap_go kc_40_293 ?_
              refine ap_iload_n rfl ?_
              refine ai_ifeq rfl rfl (fun hq5 => ?_) (fun hq5 => ?_) ?_
              · refine ap_go kc_40_301 ?_
                refine ai_iconst ?_; refine ap_nil ?_
                refine ap_go kc_40_302 ?_
                refine ap_istore_n rfl ?_; refine ap_nil ?_
                refine ap_go kc_40_303 ?_
                refine ai_iinc rfl rfl ?_; refine ap_goto rfl ?_
                first | exact am_weak (by first | exact am_le_0 | (repeat (first | exact am_le_0 | refine am_le_n ?_ | refine am_le_s ?_))) (ih (t + 1) (t + 1) more f g rfl (by omega) (by omega) hF (st_A hF he' ht hP (by omega))) | exact am_weak (by first | exact am_le_0 | (repeat (first | exact am_le_0 | refine am_le_n ?_ | refine am_le_s ?_))) (ih (t + 1) (t + 1) more f g rfl (by omega) (by omega) hF (st_B hF he' ht hP (by intro z; rw [if_pos z] at hq2; omega))) | exact am_weak (by first | exact am_le_0 | (repeat (first | exact am_le_0 | refine am_le_n ?_ | refine am_le_s ?_))) (ih (t + 1) (t + 1) more f g rfl (by omega) (by omega) hF (st_C hF he' ht hP (by omega))) | exact am_weak (by first | exact am_le_0 | (repeat (first | exact am_le_0 | refine am_le_n ?_ | refine am_le_s ?_))) (ih (t + 1) (t + 1) 1 f2 g2 rfl (by omega) (by omega) hF2 (by rw [if_pos (by omega)] at hP2; exact hP2)) | exact am_weak (by first | exact am_le_0 | (repeat (first | exact am_le_0 | refine am_le_n ?_ | refine am_le_s ?_))) (ih (t + 1) (t + 1) 0 f2 g2 rfl (by omega) (by omega) hF2 (by rw [if_neg (by omega)] at hP2; exact hP2))
              · refine ap_go kc_40_297 ?_
                refine ai_iconst ?_; refine ap_goto rfl ?_
                refine ap_go kc_40_302 ?_
                refine ap_istore_n rfl ?_; refine ap_nil ?_
                refine ap_go kc_40_303 ?_
                refine ai_iinc rfl rfl ?_; refine ap_goto rfl ?_
                first | exact am_weak (by first | exact am_le_0 | (repeat (first | exact am_le_0 | refine am_le_n ?_ | refine am_le_s ?_))) (ih (t + 1) (t + 1) more f g rfl (by omega) (by omega) hF (st_A hF he' ht hP (by omega))) | exact am_weak (by first | exact am_le_0 | (repeat (first | exact am_le_0 | refine am_le_n ?_ | refine am_le_s ?_))) (ih (t + 1) (t + 1) more f g rfl (by omega) (by omega) hF (st_B hF he' ht hP (by intro z; rw [if_pos z] at hq2; omega))) | exact am_weak (by first | exact am_le_0 | (repeat (first | exact am_le_0 | refine am_le_n ?_ | refine am_le_s ?_))) (ih (t + 1) (t + 1) more f g rfl (by omega) (by omega) hF (st_C hF he' ht hP (by omega))) | exact am_weak (by first | exact am_le_0 | (repeat (first | exact am_le_0 | refine am_le_n ?_ | refine am_le_s ?_))) (ih (t + 1) (t + 1) 1 f2 g2 rfl (by omega) (by omega) hF2 (by rw [if_pos (by omega)] at hP2; exact hP2)) | exact am_weak (by first | exact am_le_0 | (repeat (first | exact am_le_0 | refine am_le_n ?_ | refine am_le_s ?_))) (ih (t + 1) (t + 1) 0 f2 g2 rfl (by omega) (by omega) hF2 (by rw [if_neg (by omega)] at hP2; exact hP2))
              all_goals (first | omega | (rw [eA]; omega) | skip)
            all_goals (first | omega | (rw [eA]; omega) | skip)
          all_goals (first | omega | (rw [eA]; omega) | skip)
        all_goals (first | omega | (rw [eA]; omega) | skip)
      all_goals (first | omega | (rw [eA]; omega) | skip)
    all_goals (first | omega | (rw [eA]; omega) | skip)
