/-! WHAT THE TABLES SAY: printed by wip/gen/facts.py -/
theorem tb_1 {w : Cond} (i : Nat) (h : tables_1_1[i]? = some w) (g : goodWord w = true) : w ∈ am_tbl := by
  have hm := List.mem_of_getElem? h
  exact List.mem_filter.mpr ⟨List.mem_append_right _ (show w ∈ tables_1_1 ++ (tables_1_2 ++ (tables_1_3 ++ (tables_1_4 ++ tables_1_5))) from List.mem_append_left _ hm), g⟩
theorem tb_2 {w : Cond} (i : Nat) (h : tables_1_2[i]? = some w) (g : goodWord w = true) : w ∈ am_tbl := by
  have hm := List.mem_of_getElem? h
  exact List.mem_filter.mpr ⟨List.mem_append_right _ (show w ∈ tables_1_1 ++ (tables_1_2 ++ (tables_1_3 ++ (tables_1_4 ++ tables_1_5))) from List.mem_append_right _ (List.mem_append_left _ hm)), g⟩
theorem tb_3 {w : Cond} (i : Nat) (h : tables_1_3[i]? = some w) (g : goodWord w = true) : w ∈ am_tbl := by
  have hm := List.mem_of_getElem? h
  exact List.mem_filter.mpr ⟨List.mem_append_right _ (show w ∈ tables_1_1 ++ (tables_1_2 ++ (tables_1_3 ++ (tables_1_4 ++ tables_1_5))) from List.mem_append_right _ (List.mem_append_right _ (List.mem_append_left _ hm))), g⟩
theorem tb_4 {w : Cond} (i : Nat) (h : tables_1_4[i]? = some w) (g : goodWord w = true) : w ∈ am_tbl := by
  have hm := List.mem_of_getElem? h
  exact List.mem_filter.mpr ⟨List.mem_append_right _ (show w ∈ tables_1_1 ++ (tables_1_2 ++ (tables_1_3 ++ (tables_1_4 ++ tables_1_5))) from List.mem_append_right _ (List.mem_append_right _ (List.mem_append_right _ (List.mem_append_left _ hm)))), g⟩
theorem tb_5 {w : Cond} (i : Nat) (h : tables_1_5[i]? = some w) (g : goodWord w = true) : w ∈ am_tbl := by
  have hm := List.mem_of_getElem? h
  exact List.mem_filter.mpr ⟨List.mem_append_right _ (show w ∈ tables_1_1 ++ (tables_1_2 ++ (tables_1_3 ++ (tables_1_4 ++ tables_1_5))) from List.mem_append_right _ (List.mem_append_right _ (List.mem_append_right _ (List.mem_append_right _ (hm))))), g⟩
theorem tb_p {w : Cond} (i : Nat) (h : (k2_sels lw_privs)[i]? = some w) (g : goodWord w = true) : w ∈ am_tbl := List.mem_filter.mpr ⟨List.mem_append_left _ (List.mem_of_getElem? h), g⟩
set_option maxRecDepth 20000 in
theorem tb_C0 : am_CO 0 := by
  refine ⟨tb_T0, tb_y0, rfl, ?_, by decide +kernel, by decide +kernel, by decide +kernel⟩
  show ∀ w ∈ ([u_lay (am_cn 0) tb_T0 0, u_lay (am_cn 0) tb_T0 1, u_lay (am_cn 0) tb_T0 2, u_lay (am_cn 0) tb_T0 3] : List Cond), w ∈ am_tbl
  exact List.forall_mem_cons.mpr ⟨(tb_1 95 rfl rfl), List.forall_mem_cons.mpr ⟨(tb_1 97 rfl rfl), List.forall_mem_cons.mpr ⟨(tb_1 99 rfl rfl), List.forall_mem_cons.mpr ⟨(tb_1 101 rfl rfl), fun _ h => (List.not_mem_nil h).elim⟩⟩⟩⟩
set_option maxRecDepth 20000 in
theorem tb_C1 : am_CO 1 := by
  refine ⟨tb_T1, tb_y1, rfl, ?_, by decide +kernel, by decide +kernel, by decide +kernel⟩
  show ∀ w ∈ ([u_lay (am_cn 1) tb_T1 0, u_lay (am_cn 1) tb_T1 1] : List Cond), w ∈ am_tbl
  exact List.forall_mem_cons.mpr ⟨(tb_1 162 rfl rfl), List.forall_mem_cons.mpr ⟨(tb_1 164 rfl rfl), fun _ h => (List.not_mem_nil h).elim⟩⟩
set_option maxRecDepth 20000 in
theorem tb_C2 : am_CO 2 := by
  refine ⟨tb_T2, tb_y2, rfl, ?_, by decide +kernel, by decide +kernel, by decide +kernel⟩
  show ∀ w ∈ ([u_lay (am_cn 2) tb_T2 0, u_lay (am_cn 2) tb_T2 1] : List Cond), w ∈ am_tbl
  exact List.forall_mem_cons.mpr ⟨(tb_1 149 rfl rfl), List.forall_mem_cons.mpr ⟨(tb_1 151 rfl rfl), fun _ h => (List.not_mem_nil h).elim⟩⟩
set_option maxRecDepth 20000 in
theorem tb_C3 : am_CO 3 := by
  refine ⟨tb_T3, tb_y3, rfl, ?_, by decide +kernel, by decide +kernel, by decide +kernel⟩
  show ∀ w ∈ ([u_lay (am_cn 3) tb_T3 0, u_lay (am_cn 3) tb_T3 1, u_lay (am_cn 3) tb_T3 2, u_lay (am_cn 3) tb_T3 3] : List Cond), w ∈ am_tbl
  exact List.forall_mem_cons.mpr ⟨(tb_1 34 rfl rfl), List.forall_mem_cons.mpr ⟨(tb_1 36 rfl rfl), List.forall_mem_cons.mpr ⟨(tb_1 38 rfl rfl), List.forall_mem_cons.mpr ⟨(tb_1 40 rfl rfl), fun _ h => (List.not_mem_nil h).elim⟩⟩⟩⟩
set_option maxRecDepth 20000 in
theorem tb_C4 : am_CO 4 := by
  refine ⟨tb_T4, tb_y4, rfl, ?_, by decide +kernel, by decide +kernel, by decide +kernel⟩
  show ∀ w ∈ ([u_lay (am_cn 4) tb_T4 0, u_lay (am_cn 4) tb_T4 1, u_lay (am_cn 4) tb_T4 2, u_lay (am_cn 4) tb_T4 3, u_lay (am_cn 4) tb_T4 4, u_lay (am_cn 4) tb_T4 5, u_lay (am_cn 4) tb_T4 6, u_lay (am_cn 4) tb_T4 7, u_lay (am_cn 4) tb_T4 8] : List Cond), w ∈ am_tbl
  exact List.forall_mem_cons.mpr ⟨(tb_1 59 rfl rfl), List.forall_mem_cons.mpr ⟨(tb_1 61 rfl rfl), List.forall_mem_cons.mpr ⟨(tb_1 63 rfl rfl), List.forall_mem_cons.mpr ⟨(tb_1 65 rfl rfl), List.forall_mem_cons.mpr ⟨(tb_1 67 rfl rfl), List.forall_mem_cons.mpr ⟨(tb_1 69 rfl rfl), List.forall_mem_cons.mpr ⟨(tb_1 71 rfl rfl), List.forall_mem_cons.mpr ⟨(tb_1 73 rfl rfl), List.forall_mem_cons.mpr ⟨(tb_1 75 rfl rfl), fun _ h => (List.not_mem_nil h).elim⟩⟩⟩⟩⟩⟩⟩⟩⟩
set_option maxRecDepth 20000 in
theorem tb_C5 : am_CO 5 := by
  refine ⟨tb_T5, tb_y5, rfl, ?_, by decide +kernel, by decide +kernel, by decide +kernel⟩
  show ∀ w ∈ ([u_lay (am_cn 5) tb_T5 0, u_lay (am_cn 5) tb_T5 1, u_lay (am_cn 5) tb_T5 2, u_lay (am_cn 5) tb_T5 3] : List Cond), w ∈ am_tbl
  exact List.forall_mem_cons.mpr ⟨(tb_1 177 rfl rfl), List.forall_mem_cons.mpr ⟨(tb_1 179 rfl rfl), List.forall_mem_cons.mpr ⟨(tb_1 181 rfl rfl), List.forall_mem_cons.mpr ⟨(tb_1 183 rfl rfl), fun _ h => (List.not_mem_nil h).elim⟩⟩⟩⟩
set_option maxRecDepth 20000 in
theorem tb_C6 : am_CO 6 := by
  refine ⟨tb_T6, tb_y6, rfl, ?_, by decide +kernel, by decide +kernel, by decide +kernel⟩
  show ∀ w ∈ ([u_lay (am_cn 6) tb_T6 0, u_lay (am_cn 6) tb_T6 1, u_lay (am_cn 6) tb_T6 2, u_lay (am_cn 6) tb_T6 3, u_lay (am_cn 6) tb_T6 4, u_lay (am_cn 6) tb_T6 5, u_lay (am_cn 6) tb_T6 6, u_lay (am_cn 6) tb_T6 7, u_lay (am_cn 6) tb_T6 8, u_lay (am_cn 6) tb_T6 9, u_lay (am_cn 6) tb_T6 10, u_lay (am_cn 6) tb_T6 11] : List Cond), w ∈ am_tbl
  exact List.forall_mem_cons.mpr ⟨(tb_1 116 rfl rfl), List.forall_mem_cons.mpr ⟨(tb_1 118 rfl rfl), List.forall_mem_cons.mpr ⟨(tb_1 120 rfl rfl), List.forall_mem_cons.mpr ⟨(tb_1 122 rfl rfl), List.forall_mem_cons.mpr ⟨(tb_1 124 rfl rfl), List.forall_mem_cons.mpr ⟨(tb_1 126 rfl rfl), List.forall_mem_cons.mpr ⟨(tb_1 128 rfl rfl), List.forall_mem_cons.mpr ⟨(tb_1 130 rfl rfl), List.forall_mem_cons.mpr ⟨(tb_1 132 rfl rfl), List.forall_mem_cons.mpr ⟨(tb_1 134 rfl rfl), List.forall_mem_cons.mpr ⟨(tb_1 136 rfl rfl), List.forall_mem_cons.mpr ⟨(tb_1 138 rfl rfl), fun _ h => (List.not_mem_nil h).elim⟩⟩⟩⟩⟩⟩⟩⟩⟩⟩⟩⟩
set_option maxRecDepth 20000 in
theorem tb_C7 : am_CO 7 := by
  refine ⟨tb_T7, tb_y7, rfl, ?_, by decide +kernel, by decide +kernel, by decide +kernel⟩
  show ∀ w ∈ ([u_lay (am_cn 7) tb_T7 0, u_lay (am_cn 7) tb_T7 1, u_lay (am_cn 7) tb_T7 2, u_lay (am_cn 7) tb_T7 3, u_lay (am_cn 7) tb_T7 4, u_lay (am_cn 7) tb_T7 5, u_lay (am_cn 7) tb_T7 6, u_lay (am_cn 7) tb_T7 7, u_lay (am_cn 7) tb_T7 8, u_lay (am_cn 7) tb_T7 9] : List Cond), w ∈ am_tbl
  exact List.forall_mem_cons.mpr ⟨(tb_1 196 rfl rfl), List.forall_mem_cons.mpr ⟨(tb_1 198 rfl rfl), List.forall_mem_cons.mpr ⟨(tb_1 200 rfl rfl), List.forall_mem_cons.mpr ⟨(tb_1 202 rfl rfl), List.forall_mem_cons.mpr ⟨(tb_1 204 rfl rfl), List.forall_mem_cons.mpr ⟨(tb_1 206 rfl rfl), List.forall_mem_cons.mpr ⟨(tb_1 208 rfl rfl), List.forall_mem_cons.mpr ⟨(tb_1 210 rfl rfl), List.forall_mem_cons.mpr ⟨(tb_1 212 rfl rfl), List.forall_mem_cons.mpr ⟨(tb_1 214 rfl rfl), fun _ h => (List.not_mem_nil h).elim⟩⟩⟩⟩⟩⟩⟩⟩⟩⟩
set_option maxRecDepth 20000 in
theorem tb_C8 : am_CO 8 := by
  refine ⟨tb_T8, tb_y8, rfl, ?_, by decide +kernel, by decide +kernel, by decide +kernel⟩
  show ∀ w ∈ ([u_lay (am_cn 8) tb_T8 0, u_lay (am_cn 8) tb_T8 1, u_lay (am_cn 8) tb_T8 2, u_lay (am_cn 8) tb_T8 3, u_lay (am_cn 8) tb_T8 4, u_lay (am_cn 8) tb_T8 5, u_lay (am_cn 8) tb_T8 6, u_lay (am_cn 8) tb_T8 7, u_lay (am_cn 8) tb_T8 8, u_lay (am_cn 8) tb_T8 9, u_lay (am_cn 8) tb_T8 10, u_lay (am_cn 8) tb_T8 11, u_lay (am_cn 8) tb_T8 12, u_lay (am_cn 8) tb_T8 13, u_lay (am_cn 8) tb_T8 14, u_lay (am_cn 8) tb_T8 15, u_lay (am_cn 8) tb_T8 16, u_lay (am_cn 8) tb_T8 17, u_lay (am_cn 8) tb_T8 18, u_lay (am_cn 8) tb_T8 19, u_lay (am_cn 8) tb_T8 20, u_lay (am_cn 8) tb_T8 21, u_lay (am_cn 8) tb_T8 22, u_lay (am_cn 8) tb_T8 23, u_lay (am_cn 8) tb_T8 24, u_lay (am_cn 8) tb_T8 25, u_lay (am_cn 8) tb_T8 26, u_lay (am_cn 8) tb_T8 27, u_lay (am_cn 8) tb_T8 28, u_lay (am_cn 8) tb_T8 29, u_lay (am_cn 8) tb_T8 30, u_lay (am_cn 8) tb_T8 31, u_lay (am_cn 8) tb_T8 32, u_lay (am_cn 8) tb_T8 33, u_lay (am_cn 8) tb_T8 34, u_lay (am_cn 8) tb_T8 35] : List Cond), w ∈ am_tbl
  exact List.forall_mem_cons.mpr ⟨(tb_4 24 rfl rfl), List.forall_mem_cons.mpr ⟨(tb_4 26 rfl rfl), List.forall_mem_cons.mpr ⟨(tb_4 28 rfl rfl), List.forall_mem_cons.mpr ⟨(tb_4 30 rfl rfl), List.forall_mem_cons.mpr ⟨(tb_4 32 rfl rfl), List.forall_mem_cons.mpr ⟨(tb_4 34 rfl rfl), List.forall_mem_cons.mpr ⟨(tb_4 36 rfl rfl), List.forall_mem_cons.mpr ⟨(tb_4 38 rfl rfl), List.forall_mem_cons.mpr ⟨(tb_4 40 rfl rfl), List.forall_mem_cons.mpr ⟨(tb_4 42 rfl rfl), List.forall_mem_cons.mpr ⟨(tb_4 44 rfl rfl), List.forall_mem_cons.mpr ⟨(tb_4 46 rfl rfl), List.forall_mem_cons.mpr ⟨(tb_4 48 rfl rfl), List.forall_mem_cons.mpr ⟨(tb_4 50 rfl rfl), List.forall_mem_cons.mpr ⟨(tb_4 52 rfl rfl), List.forall_mem_cons.mpr ⟨(tb_4 54 rfl rfl), List.forall_mem_cons.mpr ⟨(tb_4 56 rfl rfl), List.forall_mem_cons.mpr ⟨(tb_4 58 rfl rfl), List.forall_mem_cons.mpr ⟨(tb_4 60 rfl rfl), List.forall_mem_cons.mpr ⟨(tb_4 62 rfl rfl), List.forall_mem_cons.mpr ⟨(tb_4 64 rfl rfl), List.forall_mem_cons.mpr ⟨(tb_4 66 rfl rfl), List.forall_mem_cons.mpr ⟨(tb_4 68 rfl rfl), List.forall_mem_cons.mpr ⟨(tb_4 70 rfl rfl), List.forall_mem_cons.mpr ⟨(tb_4 72 rfl rfl), List.forall_mem_cons.mpr ⟨(tb_4 74 rfl rfl), List.forall_mem_cons.mpr ⟨(tb_4 76 rfl rfl), List.forall_mem_cons.mpr ⟨(tb_4 78 rfl rfl), List.forall_mem_cons.mpr ⟨(tb_4 80 rfl rfl), List.forall_mem_cons.mpr ⟨(tb_4 82 rfl rfl), List.forall_mem_cons.mpr ⟨(tb_4 84 rfl rfl), List.forall_mem_cons.mpr ⟨(tb_4 86 rfl rfl), List.forall_mem_cons.mpr ⟨(tb_4 88 rfl rfl), List.forall_mem_cons.mpr ⟨(tb_4 90 rfl rfl), List.forall_mem_cons.mpr ⟨(tb_4 92 rfl rfl), List.forall_mem_cons.mpr ⟨(tb_4 94 rfl rfl), fun _ h => (List.not_mem_nil h).elim⟩⟩⟩⟩⟩⟩⟩⟩⟩⟩⟩⟩⟩⟩⟩⟩⟩⟩⟩⟩⟩⟩⟩⟩⟩⟩⟩⟩⟩⟩⟩⟩⟩⟩⟩⟩
theorem lk_0 : am_LK 0 := ⟨(tb_1 20 rfl rfl), (tb_1 1 rfl rfl), ⟨by decide +kernel, by decide +kernel⟩, by decide +kernel, rfl⟩
theorem lk_1 : am_LK 1 := ⟨(tb_1 220 rfl rfl), (tb_1 1 rfl rfl), ⟨by decide +kernel, by decide +kernel⟩, by decide +kernel, rfl⟩
theorem lk_2 : am_LK 2 := ⟨(tb_3 145 rfl rfl), (tb_1 1 rfl rfl), ⟨by decide +kernel, by decide +kernel⟩, by decide +kernel, rfl⟩
theorem lk_3 : am_LK 3 := ⟨(tb_1 236 rfl rfl), (tb_1 1 rfl rfl), ⟨by decide +kernel, by decide +kernel⟩, by decide +kernel, rfl⟩
theorem lk_4 : am_LK 4 := ⟨(tb_2 20 rfl rfl), (tb_1 1 rfl rfl), ⟨by decide +kernel, by decide +kernel⟩, by decide +kernel, rfl⟩
theorem lk_5 : am_LK 5 := ⟨(tb_2 41 rfl rfl), (tb_1 1 rfl rfl), ⟨by decide +kernel, by decide +kernel⟩, by decide +kernel, rfl⟩
theorem lk_6 : am_LK 6 := ⟨(tb_2 221 rfl rfl), (tb_1 1 rfl rfl), ⟨by decide +kernel, by decide +kernel⟩, by decide +kernel, rfl⟩
theorem lk_7 : am_LK 7 := ⟨(tb_2 232 rfl rfl), (tb_1 1 rfl rfl), ⟨by decide +kernel, by decide +kernel⟩, by decide +kernel, rfl⟩
theorem lk_8 : am_LK 8 := ⟨(tb_3 5 rfl rfl), (tb_1 1 rfl rfl), ⟨by decide +kernel, by decide +kernel⟩, by decide +kernel, rfl⟩
theorem lk_9 : am_LK 9 := ⟨(tb_3 42 rfl rfl), (tb_1 1 rfl rfl), ⟨by decide +kernel, by decide +kernel⟩, by decide +kernel, rfl⟩
theorem lk_10 : am_LK 10 := ⟨(tb_3 55 rfl rfl), (tb_1 1 rfl rfl), ⟨by decide +kernel, by decide +kernel⟩, by decide +kernel, rfl⟩
theorem lk_11 : am_LK 11 := ⟨(tb_3 78 rfl rfl), (tb_1 1 rfl rfl), ⟨by decide +kernel, by decide +kernel⟩, by decide +kernel, rfl⟩
theorem lk_12 : am_LK 12 := ⟨(tb_3 97 rfl rfl), (tb_1 1 rfl rfl), ⟨by decide +kernel, by decide +kernel⟩, by decide +kernel, rfl⟩
theorem lk_13 : am_LK 13 := ⟨(tb_3 129 rfl rfl), (tb_1 1 rfl rfl), ⟨by decide +kernel, by decide +kernel⟩, by decide +kernel, rfl⟩
theorem lk_14 : am_LK 14 := ⟨(tb_3 133 rfl rfl), (tb_1 1 rfl rfl), ⟨by decide +kernel, by decide +kernel⟩, by decide +kernel, rfl⟩
theorem lk_15 : am_LK 15 := ⟨(tb_1 224 rfl rfl), (tb_1 1 rfl rfl), ⟨by decide +kernel, by decide +kernel⟩, by decide +kernel, rfl⟩
theorem lk_16 : am_LK 16 := ⟨(tb_2 54 rfl rfl), (tb_1 1 rfl rfl), ⟨by decide +kernel, by decide +kernel⟩, by decide +kernel, rfl⟩
theorem lk_17 : am_LK 17 := ⟨(tb_2 213 rfl rfl), (tb_1 1 rfl rfl), ⟨by decide +kernel, by decide +kernel⟩, by decide +kernel, rfl⟩
theorem lk_18 : am_LK 18 := ⟨(tb_3 59 rfl rfl), (tb_1 1 rfl rfl), ⟨by decide +kernel, by decide +kernel⟩, by decide +kernel, rfl⟩
theorem lk_19 : am_LK 19 := ⟨(tb_3 16 rfl rfl), (tb_1 1 rfl rfl), ⟨by decide +kernel, by decide +kernel⟩, by decide +kernel, rfl⟩
theorem lk_20 : am_LK 20 := ⟨(tb_3 24 rfl rfl), (tb_1 1 rfl rfl), ⟨by decide +kernel, by decide +kernel⟩, by decide +kernel, rfl⟩
theorem lk_21 : am_LK 21 := ⟨(tb_3 82 rfl rfl), (tb_1 1 rfl rfl), ⟨by decide +kernel, by decide +kernel⟩, by decide +kernel, rfl⟩
theorem lk_22 : am_LK 22 := ⟨(tb_3 12 rfl rfl), (tb_1 1 rfl rfl), ⟨by decide +kernel, by decide +kernel⟩, by decide +kernel, rfl⟩
theorem lk_23 : am_LK 23 := ⟨(tb_3 35 rfl rfl), (tb_1 1 rfl rfl), ⟨by decide +kernel, by decide +kernel⟩, by decide +kernel, rfl⟩
theorem lk_24 : am_LK 24 := ⟨(tb_3 225 rfl rfl), (tb_1 9 rfl rfl), ⟨by decide +kernel, by decide +kernel⟩, by decide +kernel, rfl⟩
theorem lk_25 : am_LK 25 := ⟨(tb_4 101 rfl rfl), (tb_1 9 rfl rfl), ⟨by decide +kernel, by decide +kernel⟩, by decide +kernel, rfl⟩
theorem lk_26 : am_LK 26 := ⟨(tb_4 115 rfl rfl), (tb_1 9 rfl rfl), ⟨by decide +kernel, by decide +kernel⟩, by decide +kernel, rfl⟩
theorem lk_27 : am_LK 27 := ⟨(tb_4 126 rfl rfl), (tb_1 9 rfl rfl), ⟨by decide +kernel, by decide +kernel⟩, by decide +kernel, rfl⟩
theorem lk_28 : am_LK 28 := ⟨(tb_4 105 rfl rfl), (tb_1 9 rfl rfl), ⟨by decide +kernel, by decide +kernel⟩, by decide +kernel, rfl⟩
theorem lk_29 : am_LK 29 := ⟨(tb_4 111 rfl rfl), (tb_1 9 rfl rfl), ⟨by decide +kernel, by decide +kernel⟩, by decide +kernel, rfl⟩
theorem lk_30 : am_LK 30 := ⟨(tb_4 122 rfl rfl), (tb_1 9 rfl rfl), ⟨by decide +kernel, by decide +kernel⟩, by decide +kernel, rfl⟩
theorem lk_31 : am_LK 31 := ⟨(tb_4 130 rfl rfl), (tb_1 9 rfl rfl), ⟨by decide +kernel, by decide +kernel⟩, by decide +kernel, rfl⟩
theorem lk_32 : am_LK 32 := ⟨(tb_4 135 rfl rfl), (tb_1 9 rfl rfl), ⟨by decide +kernel, by decide +kernel⟩, by decide +kernel, rfl⟩
theorem lk_33 : am_LK 33 := ⟨(tb_4 176 rfl rfl), (tb_1 9 rfl rfl), ⟨by decide +kernel, by decide +kernel⟩, by decide +kernel, rfl⟩
theorem lk_34 : am_LK 34 := ⟨(tb_4 160 rfl rfl), (tb_1 9 rfl rfl), ⟨by decide +kernel, by decide +kernel⟩, by decide +kernel, rfl⟩
theorem lk_35 : am_LK 35 := ⟨(tb_4 152 rfl rfl), (tb_1 9 rfl rfl), ⟨by decide +kernel, by decide +kernel⟩, by decide +kernel, rfl⟩
theorem lk_36 : am_LK 36 := ⟨(tb_4 168 rfl rfl), (tb_1 9 rfl rfl), ⟨by decide +kernel, by decide +kernel⟩, by decide +kernel, rfl⟩
theorem lk_37 : am_LK 37 := ⟨(tb_4 156 rfl rfl), (tb_1 9 rfl rfl), ⟨by decide +kernel, by decide +kernel⟩, by decide +kernel, rfl⟩
theorem lk_38 : am_LK 38 := ⟨(tb_4 172 rfl rfl), (tb_1 9 rfl rfl), ⟨by decide +kernel, by decide +kernel⟩, by decide +kernel, rfl⟩
theorem lk_39 : am_LK 39 := ⟨(tb_4 164 rfl rfl), (tb_1 9 rfl rfl), ⟨by decide +kernel, by decide +kernel⟩, by decide +kernel, rfl⟩
theorem lk_40 : am_LK 40 := ⟨(tb_4 148 rfl rfl), (tb_1 9 rfl rfl), ⟨by decide +kernel, by decide +kernel⟩, by decide +kernel, rfl⟩
theorem lk_41 : am_LK 41 := ⟨(tb_4 188 rfl rfl), (tb_1 9 rfl rfl), ⟨by decide +kernel, by decide +kernel⟩, by decide +kernel, rfl⟩
theorem lk_42 : am_LK 42 := ⟨(tb_4 192 rfl rfl), (tb_1 9 rfl rfl), ⟨by decide +kernel, by decide +kernel⟩, by decide +kernel, rfl⟩
theorem lk_43 : am_LK 43 := ⟨(tb_4 144 rfl rfl), (tb_1 9 rfl rfl), ⟨by decide +kernel, by decide +kernel⟩, by decide +kernel, rfl⟩
theorem lk_44 : am_LK 44 := ⟨(tb_4 184 rfl rfl), (tb_1 9 rfl rfl), ⟨by decide +kernel, by decide +kernel⟩, by decide +kernel, rfl⟩
theorem lk_45 : am_LK 45 := ⟨(tb_4 180 rfl rfl), (tb_1 9 rfl rfl), ⟨by decide +kernel, by decide +kernel⟩, by decide +kernel, rfl⟩
theorem lk_46 : am_LK 46 := ⟨(tb_4 196 rfl rfl), (tb_1 9 rfl rfl), ⟨by decide +kernel, by decide +kernel⟩, by decide +kernel, rfl⟩
theorem lk_47 : am_LK 47 := ⟨(tb_4 139 rfl rfl), (tb_1 9 rfl rfl), ⟨by decide +kernel, by decide +kernel⟩, by decide +kernel, rfl⟩
theorem lk_48 : am_LK 48 := ⟨(tb_4 204 rfl rfl), (tb_1 9 rfl rfl), ⟨by decide +kernel, by decide +kernel⟩, by decide +kernel, rfl⟩
theorem lk_49 : am_LK 49 := ⟨(tb_4 200 rfl rfl), (tb_1 9 rfl rfl), ⟨by decide +kernel, by decide +kernel⟩, by decide +kernel, rfl⟩
theorem lk_50 : am_LK 50 := ⟨(tb_4 208 rfl rfl), (tb_1 9 rfl rfl), ⟨by decide +kernel, by decide +kernel⟩, by decide +kernel, rfl⟩
theorem lk_51 : am_LK 51 := ⟨(tb_4 212 rfl rfl), (tb_1 9 rfl rfl), ⟨by decide +kernel, by decide +kernel⟩, by decide +kernel, rfl⟩
theorem lk_52 : am_LK 52 := ⟨(tb_4 216 rfl rfl), (tb_1 9 rfl rfl), ⟨by decide +kernel, by decide +kernel⟩, by decide +kernel, rfl⟩
theorem lk_53 : am_LK 53 := ⟨(tb_4 220 rfl rfl), (tb_1 9 rfl rfl), ⟨by decide +kernel, by decide +kernel⟩, by decide +kernel, rfl⟩
theorem lk_54 : am_LK 54 := ⟨(tb_4 230 rfl rfl), (tb_1 9 rfl rfl), ⟨by decide +kernel, by decide +kernel⟩, by decide +kernel, rfl⟩
theorem lk_55 : am_LK 55 := ⟨(tb_4 234 rfl rfl), (tb_1 9 rfl rfl), ⟨by decide +kernel, by decide +kernel⟩, by decide +kernel, rfl⟩
theorem lk_56 : am_LK 56 := ⟨(tb_4 226 rfl rfl), (tb_1 9 rfl rfl), ⟨by decide +kernel, by decide +kernel⟩, by decide +kernel, rfl⟩
theorem lk_57 : am_LK 57 := ⟨(tb_5 3 rfl rfl), (tb_1 9 rfl rfl), ⟨by decide +kernel, by decide +kernel⟩, by decide +kernel, rfl⟩
theorem lk_58 : am_LK 58 := ⟨(tb_5 0 rfl rfl), (tb_1 9 rfl rfl), ⟨by decide +kernel, by decide +kernel⟩, by decide +kernel, rfl⟩
theorem lk_59 : am_LK 59 := ⟨(tb_5 7 rfl rfl), (tb_1 9 rfl rfl), ⟨by decide +kernel, by decide +kernel⟩, by decide +kernel, rfl⟩
theorem lk_60 : am_LK 60 := ⟨(tb_1 89 rfl rfl), (tb_1 5 rfl rfl), ⟨by decide +kernel, by decide +kernel⟩, by decide +kernel, rfl⟩
theorem lk_61 : am_LK 61 := ⟨(tb_2 115 rfl rfl), (tb_1 5 rfl rfl), ⟨by decide +kernel, by decide +kernel⟩, by decide +kernel, rfl⟩
theorem lk_62 : am_LK 62 := ⟨(tb_2 141 rfl rfl), (tb_1 5 rfl rfl), ⟨by decide +kernel, by decide +kernel⟩, by decide +kernel, rfl⟩
theorem lk_63 : am_LK 63 := ⟨(tb_2 121 rfl rfl), (tb_1 5 rfl rfl), ⟨by decide +kernel, by decide +kernel⟩, by decide +kernel, rfl⟩
theorem lk_64 : am_LK 64 := ⟨(tb_2 129 rfl rfl), (tb_1 5 rfl rfl), ⟨by decide +kernel, by decide +kernel⟩, by decide +kernel, rfl⟩
theorem lk_65 : am_LK 65 := ⟨(tb_2 125 rfl rfl), (tb_1 5 rfl rfl), ⟨by decide +kernel, by decide +kernel⟩, by decide +kernel, rfl⟩
theorem lk_66 : am_LK 66 := ⟨(tb_2 133 rfl rfl), (tb_1 5 rfl rfl), ⟨by decide +kernel, by decide +kernel⟩, by decide +kernel, rfl⟩
theorem lk_67 : am_LK 67 := ⟨(tb_3 85 rfl rfl), (tb_1 15 rfl rfl), ⟨by decide +kernel, by decide +kernel⟩, by decide +kernel, rfl⟩
theorem lk_68 : am_LK 68 := ⟨(tb_3 31 rfl rfl), (tb_1 15 rfl rfl), ⟨by decide +kernel, by decide +kernel⟩, by decide +kernel, rfl⟩
theorem lk_69 : am_LK 69 := ⟨(tb_3 38 rfl rfl), (tb_1 15 rfl rfl), ⟨by decide +kernel, by decide +kernel⟩, by decide +kernel, rfl⟩
theorem lk_70 : am_LK 70 := ⟨(tb_1 158 rfl rfl), (tb_1 7 rfl rfl), ⟨by decide +kernel, by decide +kernel⟩, by decide +kernel, rfl⟩
theorem lk_71 : am_LK 71 := ⟨(tb_3 137 rfl rfl), (tb_1 7 rfl rfl), ⟨by decide +kernel, by decide +kernel⟩, by decide +kernel, rfl⟩
theorem lk_72 : am_LK 72 := ⟨(tb_1 145 rfl rfl), (tb_1 6 rfl rfl), ⟨by decide +kernel, by decide +kernel⟩, by decide +kernel, rfl⟩
theorem lk_73 : am_LK 73 := ⟨(tb_3 101 rfl rfl), (tb_1 6 rfl rfl), ⟨by decide +kernel, by decide +kernel⟩, by decide +kernel, rfl⟩
theorem lk_74 : am_LK 74 := ⟨(tb_3 109 rfl rfl), (tb_1 6 rfl rfl), ⟨by decide +kernel, by decide +kernel⟩, by decide +kernel, rfl⟩
theorem lk_75 : am_LK 75 := ⟨(tb_3 105 rfl rfl), (tb_1 6 rfl rfl), ⟨by decide +kernel, by decide +kernel⟩, by decide +kernel, rfl⟩
theorem lk_76 : am_LK 76 := ⟨(tb_3 113 rfl rfl), (tb_1 6 rfl rfl), ⟨by decide +kernel, by decide +kernel⟩, by decide +kernel, rfl⟩
theorem lk_77 : am_LK 77 := ⟨(tb_3 118 rfl rfl), (tb_1 6 rfl rfl), ⟨by decide +kernel, by decide +kernel⟩, by decide +kernel, rfl⟩
theorem lk_78 : am_LK 78 := ⟨(tb_3 122 rfl rfl), (tb_1 6 rfl rfl), ⟨by decide +kernel, by decide +kernel⟩, by decide +kernel, rfl⟩
theorem lk_79 : am_LK 79 := ⟨(tb_3 125 rfl rfl), (tb_1 6 rfl rfl), ⟨by decide +kernel, by decide +kernel⟩, by decide +kernel, rfl⟩
theorem lk_80 : am_LK 80 := ⟨(tb_1 28 rfl rfl), (tb_1 2 rfl rfl), ⟨by decide +kernel, by decide +kernel⟩, by decide +kernel, rfl⟩
theorem lk_81 : am_LK 81 := ⟨(tb_2 62 rfl rfl), (tb_1 2 rfl rfl), ⟨by decide +kernel, by decide +kernel⟩, by decide +kernel, rfl⟩
theorem lk_82 : am_LK 82 := ⟨(tb_2 24 rfl rfl), (tb_1 2 rfl rfl), ⟨by decide +kernel, by decide +kernel⟩, by decide +kernel, rfl⟩
theorem lk_83 : am_LK 83 := ⟨(tb_1 228 rfl rfl), (tb_1 2 rfl rfl), ⟨by decide +kernel, by decide +kernel⟩, by decide +kernel, rfl⟩
theorem lk_84 : am_LK 84 := ⟨(tb_1 232 rfl rfl), (tb_1 2 rfl rfl), ⟨by decide +kernel, by decide +kernel⟩, by decide +kernel, rfl⟩
theorem lk_85 : am_LK 85 := ⟨(tb_3 20 rfl rfl), (tb_1 2 rfl rfl), ⟨by decide +kernel, by decide +kernel⟩, by decide +kernel, rfl⟩
theorem lk_86 : am_LK 86 := ⟨(tb_3 28 rfl rfl), (tb_1 2 rfl rfl), ⟨by decide +kernel, by decide +kernel⟩, by decide +kernel, rfl⟩
theorem lk_87 : am_LK 87 := ⟨(tb_2 208 rfl rfl), (tb_1 2 rfl rfl), ⟨by decide +kernel, by decide +kernel⟩, by decide +kernel, rfl⟩
theorem lk_88 : am_LK 88 := ⟨(tb_2 29 rfl rfl), (tb_1 2 rfl rfl), ⟨by decide +kernel, by decide +kernel⟩, by decide +kernel, rfl⟩
theorem lk_89 : am_LK 89 := ⟨(tb_2 37 rfl rfl), (tb_1 2 rfl rfl), ⟨by decide +kernel, by decide +kernel⟩, by decide +kernel, rfl⟩
theorem lk_90 : am_LK 90 := ⟨(tb_2 66 rfl rfl), (tb_1 2 rfl rfl), ⟨by decide +kernel, by decide +kernel⟩, by decide +kernel, rfl⟩
theorem lk_91 : am_LK 91 := ⟨(tb_2 33 rfl rfl), (tb_1 2 rfl rfl), ⟨by decide +kernel, by decide +kernel⟩, by decide +kernel, rfl⟩
theorem lk_92 : am_LK 92 := ⟨(tb_1 48 rfl rfl), (tb_1 3 rfl rfl), ⟨by decide +kernel, by decide +kernel⟩, by decide +kernel, rfl⟩
theorem lk_93 : am_LK 93 := ⟨(tb_2 75 rfl rfl), (tb_1 3 rfl rfl), ⟨by decide +kernel, by decide +kernel⟩, by decide +kernel, rfl⟩
theorem lk_94 : am_LK 94 := ⟨(tb_2 0 rfl rfl), (tb_1 3 rfl rfl), ⟨by decide +kernel, by decide +kernel⟩, by decide +kernel, rfl⟩
theorem lk_95 : am_LK 95 := ⟨(tb_3 150 rfl rfl), (tb_1 3 rfl rfl), ⟨by decide +kernel, by decide +kernel⟩, by decide +kernel, rfl⟩
theorem lk_96 : am_LK 96 := ⟨(tb_3 220 rfl rfl), (tb_1 3 rfl rfl), ⟨by decide +kernel, by decide +kernel⟩, by decide +kernel, rfl⟩
theorem lk_97 : am_LK 97 := ⟨(tb_2 50 rfl rfl), (tb_1 3 rfl rfl), ⟨by decide +kernel, by decide +kernel⟩, by decide +kernel, rfl⟩
theorem lk_98 : am_LK 98 := ⟨(tb_2 4 rfl rfl), (tb_1 3 rfl rfl), ⟨by decide +kernel, by decide +kernel⟩, by decide +kernel, rfl⟩
theorem lk_99 : am_LK 99 := ⟨(tb_2 8 rfl rfl), (tb_1 3 rfl rfl), ⟨by decide +kernel, by decide +kernel⟩, by decide +kernel, rfl⟩
theorem lk_100 : am_LK 100 := ⟨(tb_2 85 rfl rfl), (tb_1 3 rfl rfl), ⟨by decide +kernel, by decide +kernel⟩, by decide +kernel, rfl⟩
theorem lk_101 : am_LK 101 := ⟨(tb_2 90 rfl rfl), (tb_1 3 rfl rfl), ⟨by decide +kernel, by decide +kernel⟩, by decide +kernel, rfl⟩
theorem lk_102 : am_LK 102 := ⟨(tb_2 12 rfl rfl), (tb_1 3 rfl rfl), ⟨by decide +kernel, by decide +kernel⟩, by decide +kernel, rfl⟩
theorem lk_103 : am_LK 103 := ⟨(tb_2 16 rfl rfl), (tb_1 3 rfl rfl), ⟨by decide +kernel, by decide +kernel⟩, by decide +kernel, rfl⟩
theorem lk_104 : am_LK 104 := ⟨(tb_3 47 rfl rfl), (tb_1 3 rfl rfl), ⟨by decide +kernel, by decide +kernel⟩, by decide +kernel, rfl⟩
theorem lk_105 : am_LK 105 := ⟨(tb_3 51 rfl rfl), (tb_1 3 rfl rfl), ⟨by decide +kernel, by decide +kernel⟩, by decide +kernel, rfl⟩
theorem lk_106 : am_LK 106 := ⟨(tb_2 79 rfl rfl), (tb_1 3 rfl rfl), ⟨by decide +kernel, by decide +kernel⟩, by decide +kernel, rfl⟩
theorem lk_107 : am_LK 107 := ⟨(tb_1 171 rfl rfl), (tb_1 8 rfl rfl), ⟨by decide +kernel, by decide +kernel⟩, by decide +kernel, rfl⟩
theorem lk_108 : am_LK 108 := ⟨(tb_2 236 rfl rfl), (tb_1 8 rfl rfl), ⟨by decide +kernel, by decide +kernel⟩, by decide +kernel, rfl⟩
theorem lk_109 : am_LK 109 := ⟨(tb_2 217 rfl rfl), (tb_1 8 rfl rfl), ⟨by decide +kernel, by decide +kernel⟩, by decide +kernel, rfl⟩
theorem lk_110 : am_LK 110 := ⟨(tb_3 0 rfl rfl), (tb_1 8 rfl rfl), ⟨by decide +kernel, by decide +kernel⟩, by decide +kernel, rfl⟩
theorem lk_111 : am_LK 111 := ⟨(tb_2 225 rfl rfl), (tb_1 8 rfl rfl), ⟨by decide +kernel, by decide +kernel⟩, by decide +kernel, rfl⟩
theorem lk_112 : am_LK 112 := ⟨(tb_2 99 rfl rfl), (tb_1 8 rfl rfl), ⟨by decide +kernel, by decide +kernel⟩, by decide +kernel, rfl⟩
theorem lk_113 : am_LK 113 := ⟨(tb_2 183 rfl rfl), (tb_1 8 rfl rfl), ⟨by decide +kernel, by decide +kernel⟩, by decide +kernel, rfl⟩
theorem lk_114 : am_LK 114 := ⟨(tb_2 103 rfl rfl), (tb_1 8 rfl rfl), ⟨by decide +kernel, by decide +kernel⟩, by decide +kernel, rfl⟩
theorem lk_115 : am_LK 115 := ⟨(tb_3 93 rfl rfl), (tb_1 8 rfl rfl), ⟨by decide +kernel, by decide +kernel⟩, by decide +kernel, rfl⟩
theorem lk_116 : am_LK 116 := ⟨(tb_3 73 rfl rfl), (tb_1 8 rfl rfl), ⟨by decide +kernel, by decide +kernel⟩, by decide +kernel, rfl⟩
theorem lk_117 : am_LK 117 := ⟨(tb_1 83 rfl rfl), (tb_1 4 rfl rfl), ⟨by decide +kernel, by decide +kernel⟩, by decide +kernel, rfl⟩
theorem lk_118 : am_LK 118 := ⟨(tb_2 46 rfl rfl), (tb_1 4 rfl rfl), ⟨by decide +kernel, by decide +kernel⟩, by decide +kernel, rfl⟩
theorem lk_119 : am_LK 119 := ⟨(tb_2 58 rfl rfl), (tb_1 4 rfl rfl), ⟨by decide +kernel, by decide +kernel⟩, by decide +kernel, rfl⟩
theorem lk_120 : am_LK 120 := ⟨(tb_2 95 rfl rfl), (tb_1 4 rfl rfl), ⟨by decide +kernel, by decide +kernel⟩, by decide +kernel, rfl⟩
theorem lk_121 : am_LK 121 := ⟨(tb_3 63 rfl rfl), (tb_1 4 rfl rfl), ⟨by decide +kernel, by decide +kernel⟩, by decide +kernel, rfl⟩
theorem lk_122 : am_LK 122 := ⟨(tb_2 187 rfl rfl), (tb_1 4 rfl rfl), ⟨by decide +kernel, by decide +kernel⟩, by decide +kernel, rfl⟩
theorem lk_123 : am_LK 123 := ⟨(tb_2 111 rfl rfl), (tb_1 4 rfl rfl), ⟨by decide +kernel, by decide +kernel⟩, by decide +kernel, rfl⟩
theorem lk_124 : am_LK 124 := ⟨(tb_2 137 rfl rfl), (tb_1 4 rfl rfl), ⟨by decide +kernel, by decide +kernel⟩, by decide +kernel, rfl⟩
theorem lk_125 : am_LK 125 := ⟨(tb_2 149 rfl rfl), (tb_1 4 rfl rfl), ⟨by decide +kernel, by decide +kernel⟩, by decide +kernel, rfl⟩
theorem lk_126 : am_LK 126 := ⟨(tb_2 107 rfl rfl), (tb_1 4 rfl rfl), ⟨by decide +kernel, by decide +kernel⟩, by decide +kernel, rfl⟩
theorem lk_127 : am_LK 127 := ⟨(tb_2 145 rfl rfl), (tb_1 4 rfl rfl), ⟨by decide +kernel, by decide +kernel⟩, by decide +kernel, rfl⟩
theorem lk_128 : am_LK 128 := ⟨(tb_2 156 rfl rfl), (tb_1 4 rfl rfl), ⟨by decide +kernel, by decide +kernel⟩, by decide +kernel, rfl⟩
theorem lk_129 : am_LK 129 := ⟨(tb_2 171 rfl rfl), (tb_1 4 rfl rfl), ⟨by decide +kernel, by decide +kernel⟩, by decide +kernel, rfl⟩
theorem lk_130 : am_LK 130 := ⟨(tb_2 175 rfl rfl), (tb_1 4 rfl rfl), ⟨by decide +kernel, by decide +kernel⟩, by decide +kernel, rfl⟩
theorem lk_131 : am_LK 131 := ⟨(tb_2 160 rfl rfl), (tb_1 4 rfl rfl), ⟨by decide +kernel, by decide +kernel⟩, by decide +kernel, rfl⟩
theorem lk_132 : am_LK 132 := ⟨(tb_2 164 rfl rfl), (tb_1 4 rfl rfl), ⟨by decide +kernel, by decide +kernel⟩, by decide +kernel, rfl⟩
theorem lk_133 : am_LK 133 := ⟨(tb_2 179 rfl rfl), (tb_1 4 rfl rfl), ⟨by decide +kernel, by decide +kernel⟩, by decide +kernel, rfl⟩
theorem lk_134 : am_LK 134 := ⟨(tb_3 69 rfl rfl), (tb_1 4 rfl rfl), ⟨by decide +kernel, by decide +kernel⟩, by decide +kernel, rfl⟩
theorem lk_135 : am_LK 135 := ⟨(tb_2 191 rfl rfl), (tb_1 4 rfl rfl), ⟨by decide +kernel, by decide +kernel⟩, by decide +kernel, rfl⟩
theorem lk_136 : am_LK 136 := ⟨(tb_2 200 rfl rfl), (tb_1 4 rfl rfl), ⟨by decide +kernel, by decide +kernel⟩, by decide +kernel, rfl⟩
theorem lk_137 : am_LK 137 := ⟨(tb_2 195 rfl rfl), (tb_1 4 rfl rfl), ⟨by decide +kernel, by decide +kernel⟩, by decide +kernel, rfl⟩
theorem lk_138 : am_LK 138 := ⟨(tb_2 204 rfl rfl), (tb_1 4 rfl rfl), ⟨by decide +kernel, by decide +kernel⟩, by decide +kernel, rfl⟩
theorem lk_all : ∀ k, k < am_lst → am_LK k := by
  intro k hk
  match k, hk with
  | 0, _ => exact lk_0
  | 1, _ => exact lk_1
  | 2, _ => exact lk_2
  | 3, _ => exact lk_3
  | 4, _ => exact lk_4
  | 5, _ => exact lk_5
  | 6, _ => exact lk_6
  | 7, _ => exact lk_7
  | 8, _ => exact lk_8
  | 9, _ => exact lk_9
  | 10, _ => exact lk_10
  | 11, _ => exact lk_11
  | 12, _ => exact lk_12
  | 13, _ => exact lk_13
  | 14, _ => exact lk_14
  | 15, _ => exact lk_15
  | 16, _ => exact lk_16
  | 17, _ => exact lk_17
  | 18, _ => exact lk_18
  | 19, _ => exact lk_19
  | 20, _ => exact lk_20
  | 21, _ => exact lk_21
  | 22, _ => exact lk_22
  | 23, _ => exact lk_23
  | 24, _ => exact lk_24
  | 25, _ => exact lk_25
  | 26, _ => exact lk_26
  | 27, _ => exact lk_27
  | 28, _ => exact lk_28
  | 29, _ => exact lk_29
  | 30, _ => exact lk_30
  | 31, _ => exact lk_31
  | 32, _ => exact lk_32
  | 33, _ => exact lk_33
  | 34, _ => exact lk_34
  | 35, _ => exact lk_35
  | 36, _ => exact lk_36
  | 37, _ => exact lk_37
  | 38, _ => exact lk_38
  | 39, _ => exact lk_39
  | 40, _ => exact lk_40
  | 41, _ => exact lk_41
  | 42, _ => exact lk_42
  | 43, _ => exact lk_43
  | 44, _ => exact lk_44
  | 45, _ => exact lk_45
  | 46, _ => exact lk_46
  | 47, _ => exact lk_47
  | 48, _ => exact lk_48
  | 49, _ => exact lk_49
  | 50, _ => exact lk_50
  | 51, _ => exact lk_51
  | 52, _ => exact lk_52
  | 53, _ => exact lk_53
  | 54, _ => exact lk_54
  | 55, _ => exact lk_55
  | 56, _ => exact lk_56
  | 57, _ => exact lk_57
  | 58, _ => exact lk_58
  | 59, _ => exact lk_59
  | 60, _ => exact lk_60
  | 61, _ => exact lk_61
  | 62, _ => exact lk_62
  | 63, _ => exact lk_63
  | 64, _ => exact lk_64
  | 65, _ => exact lk_65
  | 66, _ => exact lk_66
  | 67, _ => exact lk_67
  | 68, _ => exact lk_68
  | 69, _ => exact lk_69
  | 70, _ => exact lk_70
  | 71, _ => exact lk_71
  | 72, _ => exact lk_72
  | 73, _ => exact lk_73
  | 74, _ => exact lk_74
  | 75, _ => exact lk_75
  | 76, _ => exact lk_76
  | 77, _ => exact lk_77
  | 78, _ => exact lk_78
  | 79, _ => exact lk_79
  | 80, _ => exact lk_80
  | 81, _ => exact lk_81
  | 82, _ => exact lk_82
  | 83, _ => exact lk_83
  | 84, _ => exact lk_84
  | 85, _ => exact lk_85
  | 86, _ => exact lk_86
  | 87, _ => exact lk_87
  | 88, _ => exact lk_88
  | 89, _ => exact lk_89
  | 90, _ => exact lk_90
  | 91, _ => exact lk_91
  | 92, _ => exact lk_92
  | 93, _ => exact lk_93
  | 94, _ => exact lk_94
  | 95, _ => exact lk_95
  | 96, _ => exact lk_96
  | 97, _ => exact lk_97
  | 98, _ => exact lk_98
  | 99, _ => exact lk_99
  | 100, _ => exact lk_100
  | 101, _ => exact lk_101
  | 102, _ => exact lk_102
  | 103, _ => exact lk_103
  | 104, _ => exact lk_104
  | 105, _ => exact lk_105
  | 106, _ => exact lk_106
  | 107, _ => exact lk_107
  | 108, _ => exact lk_108
  | 109, _ => exact lk_109
  | 110, _ => exact lk_110
  | 111, _ => exact lk_111
  | 112, _ => exact lk_112
  | 113, _ => exact lk_113
  | 114, _ => exact lk_114
  | 115, _ => exact lk_115
  | 116, _ => exact lk_116
  | 117, _ => exact lk_117
  | 118, _ => exact lk_118
  | 119, _ => exact lk_119
  | 120, _ => exact lk_120
  | 121, _ => exact lk_121
  | 122, _ => exact lk_122
  | 123, _ => exact lk_123
  | 124, _ => exact lk_124
  | 125, _ => exact lk_125
  | 126, _ => exact lk_126
  | 127, _ => exact lk_127
  | 128, _ => exact lk_128
  | 129, _ => exact lk_129
  | 130, _ => exact lk_130
  | 131, _ => exact lk_131
  | 132, _ => exact lk_132
  | 133, _ => exact lk_133
  | 134, _ => exact lk_134
  | 135, _ => exact lk_135
  | 136, _ => exact lk_136
  | 137, _ => exact lk_137
  | 138, _ => exact lk_138
  | k + 139, h => exact absurd h (by have : am_lst = 139 := rfl; omega)
theorem fo_0_11 : am_FO 0 11 0 0 := by
  refine ⟨by decide +kernel, tb_C0, fun T n h => ?_⟩
  cases h
  exact (tb_1 91 rfl rfl)
theorem fo_0_15 : am_FO 0 15 0 1 := by
  refine ⟨by decide +kernel, tb_C0, fun T n h => ?_⟩
  cases h
  exact (tb_1 92 rfl rfl)
theorem fo_0_19 : am_FO 0 19 0 2 := by
  refine ⟨by decide +kernel, tb_C0, fun T n h => ?_⟩
  cases h
  exact (tb_1 93 rfl rfl)
theorem fo_0_22 : am_FO 0 22 0 3 := by
  refine ⟨by decide +kernel, tb_C0, fun T n h => ?_⟩
  cases h
  exact (tb_1 94 rfl rfl)
theorem fo_1_9 : am_FO 1 9 1 0 := by
  refine ⟨by decide +kernel, tb_C1, fun T n h => ?_⟩
  cases h
  exact (tb_1 160 rfl rfl)
theorem fo_1_13 : am_FO 1 13 1 1 := by
  refine ⟨by decide +kernel, tb_C1, fun T n h => ?_⟩
  cases h
  exact (tb_1 161 rfl rfl)
theorem fo_2_9 : am_FO 2 9 2 0 := by
  refine ⟨by decide +kernel, tb_C2, fun T n h => ?_⟩
  cases h
  exact (tb_1 147 rfl rfl)
theorem fo_2_13 : am_FO 2 13 2 1 := by
  refine ⟨by decide +kernel, tb_C2, fun T n h => ?_⟩
  cases h
  exact (tb_1 148 rfl rfl)
theorem fo_3_9 : am_FO 3 9 3 0 := by
  refine ⟨by decide +kernel, tb_C3, fun T n h => ?_⟩
  cases h
  exact (tb_1 30 rfl rfl)
theorem fo_3_15 : am_FO 3 15 3 1 := by
  refine ⟨by decide +kernel, tb_C3, fun T n h => ?_⟩
  cases h
  exact (tb_1 31 rfl rfl)
theorem fo_3_18 : am_FO 3 18 3 2 := by
  refine ⟨by decide +kernel, tb_C3, fun T n h => ?_⟩
  cases h
  exact (tb_1 32 rfl rfl)
theorem fo_3_21 : am_FO 3 21 3 3 := by
  refine ⟨by decide +kernel, tb_C3, fun T n h => ?_⟩
  cases h
  exact (tb_1 33 rfl rfl)
theorem fo_4_9 : am_FO 4 9 4 0 := by
  refine ⟨by decide +kernel, tb_C4, fun T n h => ?_⟩
  cases h
  exact (tb_1 50 rfl rfl)
theorem fo_4_15 : am_FO 4 15 4 1 := by
  refine ⟨by decide +kernel, tb_C4, fun T n h => ?_⟩
  cases h
  exact (tb_1 51 rfl rfl)
theorem fo_4_18 : am_FO 4 18 4 2 := by
  refine ⟨by decide +kernel, tb_C4, fun T n h => ?_⟩
  cases h
  exact (tb_1 52 rfl rfl)
theorem fo_4_22 : am_FO 4 22 4 3 := by
  refine ⟨by decide +kernel, tb_C4, fun T n h => ?_⟩
  cases h
  exact (tb_1 53 rfl rfl)
theorem fo_4_25 : am_FO 4 25 4 4 := by
  refine ⟨by decide +kernel, tb_C4, fun T n h => ?_⟩
  cases h
  exact (tb_1 54 rfl rfl)
theorem fo_4_28 : am_FO 4 28 4 5 := by
  refine ⟨by decide +kernel, tb_C4, fun T n h => ?_⟩
  cases h
  exact (tb_1 55 rfl rfl)
theorem fo_4_31 : am_FO 4 31 4 6 := by
  refine ⟨by decide +kernel, tb_C4, fun T n h => ?_⟩
  cases h
  exact (tb_1 56 rfl rfl)
theorem fo_4_34 : am_FO 4 34 4 7 := by
  refine ⟨by decide +kernel, tb_C4, fun T n h => ?_⟩
  cases h
  exact (tb_1 57 rfl rfl)
theorem fo_4_37 : am_FO 4 37 4 8 := by
  refine ⟨by decide +kernel, tb_C4, fun T n h => ?_⟩
  cases h
  exact (tb_1 58 rfl rfl)
theorem fo_5_9 : am_FO 5 9 5 0 := by
  refine ⟨by decide +kernel, tb_C5, fun T n h => ?_⟩
  cases h
  exact (tb_1 173 rfl rfl)
theorem fo_5_15 : am_FO 5 15 5 1 := by
  refine ⟨by decide +kernel, tb_C5, fun T n h => ?_⟩
  cases h
  exact (tb_1 174 rfl rfl)
theorem fo_5_19 : am_FO 5 19 5 2 := by
  refine ⟨by decide +kernel, tb_C5, fun T n h => ?_⟩
  cases h
  exact (tb_1 175 rfl rfl)
theorem fo_5_23 : am_FO 5 23 5 3 := by
  refine ⟨by decide +kernel, tb_C5, fun T n h => ?_⟩
  cases h
  exact (tb_1 176 rfl rfl)
theorem fo_6_12 : am_FO 6 12 6 2 := by
  refine ⟨by decide +kernel, tb_C6, fun T n h => ?_⟩
  cases h
  exact (tb_1 106 rfl rfl)
theorem fo_6_18 : am_FO 6 18 6 3 := by
  refine ⟨by decide +kernel, tb_C6, fun T n h => ?_⟩
  cases h
  exact (tb_1 107 rfl rfl)
theorem fo_6_22 : am_FO 6 22 6 4 := by
  refine ⟨by decide +kernel, tb_C6, fun T n h => ?_⟩
  cases h
  exact (tb_1 108 rfl rfl)
theorem fo_6_26 : am_FO 6 26 6 5 := by
  refine ⟨by decide +kernel, tb_C6, fun T n h => ?_⟩
  cases h
  exact (tb_1 109 rfl rfl)
theorem fo_6_29 : am_FO 6 29 6 6 := by
  refine ⟨by decide +kernel, tb_C6, fun T n h => ?_⟩
  cases h
  exact (tb_1 110 rfl rfl)
theorem fo_6_32 : am_FO 6 32 6 7 := by
  refine ⟨by decide +kernel, tb_C6, fun T n h => ?_⟩
  cases h
  exact (tb_1 111 rfl rfl)
theorem fo_6_35 : am_FO 6 35 6 8 := by
  refine ⟨by decide +kernel, tb_C6, fun T n h => ?_⟩
  cases h
  exact (tb_1 112 rfl rfl)
theorem fo_6_39 : am_FO 6 39 6 9 := by
  refine ⟨by decide +kernel, tb_C6, fun T n h => ?_⟩
  cases h
  exact (tb_1 113 rfl rfl)
theorem fo_6_42 : am_FO 6 42 6 10 := by
  refine ⟨by decide +kernel, tb_C6, fun T n h => ?_⟩
  cases h
  exact (tb_1 114 rfl rfl)
theorem fo_6_45 : am_FO 6 45 6 11 := by
  refine ⟨by decide +kernel, tb_C6, fun T n h => ?_⟩
  cases h
  exact (tb_1 115 rfl rfl)
theorem fo_6_48 : am_FO 6 48 6 0 := by
  refine ⟨by decide +kernel, tb_C6, fun T n h => ?_⟩
  cases h
  exact (tb_1 104 rfl rfl)
theorem fo_6_52 : am_FO 6 52 6 1 := by
  refine ⟨by decide +kernel, tb_C6, fun T n h => ?_⟩
  cases h
  exact (tb_1 105 rfl rfl)
theorem fo_7_14 : am_FO 7 14 7 0 := by
  refine ⟨by decide +kernel, tb_C7, fun T n h => ?_⟩
  cases h
  exact (tb_1 186 rfl rfl)
theorem fo_7_21 : am_FO 7 21 7 1 := by
  refine ⟨by decide +kernel, tb_C7, fun T n h => ?_⟩
  cases h
  exact (tb_1 187 rfl rfl)
theorem fo_7_30 : am_FO 7 30 7 2 := by
  refine ⟨by decide +kernel, tb_C7, fun T n h => ?_⟩
  cases h
  exact (tb_1 188 rfl rfl)
theorem fo_7_37 : am_FO 7 37 7 3 := by
  refine ⟨by decide +kernel, tb_C7, fun T n h => ?_⟩
  cases h
  exact (tb_1 189 rfl rfl)
theorem fo_7_44 : am_FO 7 44 7 4 := by
  refine ⟨by decide +kernel, tb_C7, fun T n h => ?_⟩
  cases h
  exact (tb_1 190 rfl rfl)
theorem fo_7_51 : am_FO 7 51 7 5 := by
  refine ⟨by decide +kernel, tb_C7, fun T n h => ?_⟩
  cases h
  exact (tb_1 191 rfl rfl)
theorem fo_7_55 : am_FO 7 55 7 6 := by
  refine ⟨by decide +kernel, tb_C7, fun T n h => ?_⟩
  cases h
  exact (tb_1 192 rfl rfl)
theorem fo_7_58 : am_FO 7 58 7 7 := by
  refine ⟨by decide +kernel, tb_C7, fun T n h => ?_⟩
  cases h
  exact (tb_1 193 rfl rfl)
theorem fo_7_62 : am_FO 7 62 7 8 := by
  refine ⟨by decide +kernel, tb_C7, fun T n h => ?_⟩
  cases h
  exact (tb_1 194 rfl rfl)
theorem fo_7_66 : am_FO 7 66 7 9 := by
  refine ⟨by decide +kernel, tb_C7, fun T n h => ?_⟩
  cases h
  exact (tb_1 195 rfl rfl)
theorem fo_8_7 : am_FO 8 7 8 2 := by
  refine ⟨by decide +kernel, tb_C8, fun T n h => ?_⟩
  cases h
  exact (tb_3 230 rfl rfl)
theorem fo_8_13 : am_FO 8 13 8 3 := by
  refine ⟨by decide +kernel, tb_C8, fun T n h => ?_⟩
  cases h
  exact (tb_3 231 rfl rfl)
theorem fo_8_16 : am_FO 8 16 8 4 := by
  refine ⟨by decide +kernel, tb_C8, fun T n h => ?_⟩
  cases h
  exact (tb_3 232 rfl rfl)
theorem fo_8_19 : am_FO 8 19 8 6 := by
  refine ⟨by decide +kernel, tb_C8, fun T n h => ?_⟩
  cases h
  exact (tb_3 234 rfl rfl)
theorem fo_8_23 : am_FO 8 23 8 7 := by
  refine ⟨by decide +kernel, tb_C8, fun T n h => ?_⟩
  cases h
  exact (tb_3 235 rfl rfl)
theorem fo_8_26 : am_FO 8 26 8 8 := by
  refine ⟨by decide +kernel, tb_C8, fun T n h => ?_⟩
  cases h
  exact (tb_3 236 rfl rfl)
theorem fo_8_29 : am_FO 8 29 8 9 := by
  refine ⟨by decide +kernel, tb_C8, fun T n h => ?_⟩
  cases h
  exact (tb_3 237 rfl rfl)
theorem fo_8_32 : am_FO 8 32 8 10 := by
  refine ⟨by decide +kernel, tb_C8, fun T n h => ?_⟩
  cases h
  exact (tb_3 238 rfl rfl)
theorem fo_8_35 : am_FO 8 35 8 11 := by
  refine ⟨by decide +kernel, tb_C8, fun T n h => ?_⟩
  cases h
  exact (tb_3 239 rfl rfl)
theorem fo_8_38 : am_FO 8 38 8 12 := by
  refine ⟨by decide +kernel, tb_C8, fun T n h => ?_⟩
  cases h
  exact (tb_4 0 rfl rfl)
theorem fo_8_41 : am_FO 8 41 8 13 := by
  refine ⟨by decide +kernel, tb_C8, fun T n h => ?_⟩
  cases h
  exact (tb_4 1 rfl rfl)
theorem fo_8_45 : am_FO 8 45 8 17 := by
  refine ⟨by decide +kernel, tb_C8, fun T n h => ?_⟩
  cases h
  exact (tb_4 5 rfl rfl)
theorem fo_8_49 : am_FO 8 49 8 19 := by
  refine ⟨by decide +kernel, tb_C8, fun T n h => ?_⟩
  cases h
  exact (tb_4 7 rfl rfl)
theorem fo_8_52 : am_FO 8 52 8 20 := by
  refine ⟨by decide +kernel, tb_C8, fun T n h => ?_⟩
  cases h
  exact (tb_4 8 rfl rfl)
theorem fo_8_55 : am_FO 8 55 8 21 := by
  refine ⟨by decide +kernel, tb_C8, fun T n h => ?_⟩
  cases h
  exact (tb_4 9 rfl rfl)
theorem fo_8_58 : am_FO 8 58 8 22 := by
  refine ⟨by decide +kernel, tb_C8, fun T n h => ?_⟩
  cases h
  exact (tb_4 10 rfl rfl)
theorem fo_8_61 : am_FO 8 61 8 24 := by
  refine ⟨by decide +kernel, tb_C8, fun T n h => ?_⟩
  cases h
  exact (tb_4 12 rfl rfl)
theorem fo_8_66 : am_FO 8 66 8 25 := by
  refine ⟨by decide +kernel, tb_C8, fun T n h => ?_⟩
  cases h
  exact (tb_4 13 rfl rfl)
theorem fo_8_70 : am_FO 8 70 8 26 := by
  refine ⟨by decide +kernel, tb_C8, fun T n h => ?_⟩
  cases h
  exact (tb_4 14 rfl rfl)
theorem fo_8_73 : am_FO 8 73 8 28 := by
  refine ⟨by decide +kernel, tb_C8, fun T n h => ?_⟩
  cases h
  exact (tb_4 16 rfl rfl)
theorem fo_8_76 : am_FO 8 76 8 31 := by
  refine ⟨by decide +kernel, tb_C8, fun T n h => ?_⟩
  cases h
  exact (tb_4 19 rfl rfl)
theorem fo_8_79 : am_FO 8 79 8 33 := by
  refine ⟨by decide +kernel, tb_C8, fun T n h => ?_⟩
  cases h
  exact (tb_4 21 rfl rfl)
theorem fo_8_82 : am_FO 8 82 8 0 := by
  refine ⟨by decide +kernel, tb_C8, fun T n h => ?_⟩
  cases h
  exact (tb_3 228 rfl rfl)
theorem fo_8_85 : am_FO 8 85 8 1 := by
  refine ⟨by decide +kernel, tb_C8, fun T n h => ?_⟩
  cases h
  exact (tb_3 229 rfl rfl)
theorem fo_8_88 : am_FO 8 88 8 5 := by
  refine ⟨by decide +kernel, tb_C8, fun T n h => ?_⟩
  cases h
  exact (tb_3 233 rfl rfl)
theorem fo_8_110 : am_FO 8 110 8 14 := by
  refine ⟨by decide +kernel, tb_C8, fun T n h => ?_⟩
  cases h
  exact (tb_4 2 rfl rfl)
theorem fo_8_113 : am_FO 8 113 8 15 := by
  refine ⟨by decide +kernel, tb_C8, fun T n h => ?_⟩
  cases h
  exact (tb_4 3 rfl rfl)
theorem fo_8_131 : am_FO 8 131 8 16 := by
  refine ⟨by decide +kernel, tb_C8, fun T n h => ?_⟩
  cases h
  exact (tb_4 4 rfl rfl)
theorem fo_8_145 : am_FO 8 145 8 18 := by
  refine ⟨by decide +kernel, tb_C8, fun T n h => ?_⟩
  cases h
  exact (tb_4 6 rfl rfl)
theorem fo_8_151 : am_FO 8 151 8 27 := by
  refine ⟨by decide +kernel, tb_C8, fun T n h => ?_⟩
  cases h
  exact (tb_4 15 rfl rfl)
theorem fo_8_154 : am_FO 8 154 8 30 := by
  refine ⟨by decide +kernel, tb_C8, fun T n h => ?_⟩
  cases h
  exact (tb_4 18 rfl rfl)
theorem fo_8_161 : am_FO 8 161 8 29 := by
  refine ⟨by decide +kernel, tb_C8, fun T n h => ?_⟩
  cases h
  exact (tb_4 17 rfl rfl)
theorem fo_8_173 : am_FO 8 173 8 23 := by
  refine ⟨by decide +kernel, tb_C8, fun T n h => ?_⟩
  cases h
  exact (tb_4 11 rfl rfl)
theorem fo_8_207 : am_FO 8 207 8 32 := by
  refine ⟨by decide +kernel, tb_C8, fun T n h => ?_⟩
  cases h
  exact (tb_4 20 rfl rfl)
theorem fo_8_214 : am_FO 8 214 8 35 := by
  refine ⟨by decide +kernel, tb_C8, fun T n h => ?_⟩
  cases h
  exact (tb_4 23 rfl rfl)
theorem fo_8_217 : am_FO 8 217 8 34 := by
  refine ⟨by decide +kernel, tb_C8, fun T n h => ?_⟩
  cases h
  exact (tb_4 22 rfl rfl)
theorem tb_lk {α : Type} {l : List (Nat × α)} {x : Nat} {v : α} (h : l.lookup x = some v) : (x, v) ∈ l := by
  induction l with
  | nil => cases h
  | cons y r ih =>
    obtain ⟨a, b⟩ := y
    rw [List.lookup_cons] at h
    by_cases hy : x = a
    · subst hy
      simp at h
      rw [h]; exact List.mem_cons_self
    · have : (x == a) = false := by simpa using hy
      rw [this] at h
      exact List.mem_cons_of_mem _ (ih h)
set_option maxRecDepth 20000 in
theorem tb_fo : ∀ (own : Nat), ∀ q ∈ am_rfL own, am_FO own q.1 q.2.1 q.2.2 := by
  intro own
  match own with
  | 0 =>
    exact List.forall_mem_cons.mpr ⟨fo_0_11, List.forall_mem_cons.mpr ⟨fo_0_15, List.forall_mem_cons.mpr ⟨fo_0_19, List.forall_mem_cons.mpr ⟨fo_0_22, fun _ h => (List.not_mem_nil h).elim⟩⟩⟩⟩
  | 1 =>
    exact List.forall_mem_cons.mpr ⟨fo_1_9, List.forall_mem_cons.mpr ⟨fo_1_13, fun _ h => (List.not_mem_nil h).elim⟩⟩
  | 2 =>
    exact List.forall_mem_cons.mpr ⟨fo_2_9, List.forall_mem_cons.mpr ⟨fo_2_13, fun _ h => (List.not_mem_nil h).elim⟩⟩
  | 3 =>
    exact List.forall_mem_cons.mpr ⟨fo_3_9, List.forall_mem_cons.mpr ⟨fo_3_15, List.forall_mem_cons.mpr ⟨fo_3_18, List.forall_mem_cons.mpr ⟨fo_3_21, fun _ h => (List.not_mem_nil h).elim⟩⟩⟩⟩
  | 4 =>
    exact List.forall_mem_cons.mpr ⟨fo_4_9, List.forall_mem_cons.mpr ⟨fo_4_15, List.forall_mem_cons.mpr ⟨fo_4_18, List.forall_mem_cons.mpr ⟨fo_4_22, List.forall_mem_cons.mpr ⟨fo_4_25, List.forall_mem_cons.mpr ⟨fo_4_28, List.forall_mem_cons.mpr ⟨fo_4_31, List.forall_mem_cons.mpr ⟨fo_4_34, List.forall_mem_cons.mpr ⟨fo_4_37, fun _ h => (List.not_mem_nil h).elim⟩⟩⟩⟩⟩⟩⟩⟩⟩
  | 5 =>
    exact List.forall_mem_cons.mpr ⟨fo_5_9, List.forall_mem_cons.mpr ⟨fo_5_15, List.forall_mem_cons.mpr ⟨fo_5_19, List.forall_mem_cons.mpr ⟨fo_5_23, fun _ h => (List.not_mem_nil h).elim⟩⟩⟩⟩
  | 6 =>
    exact List.forall_mem_cons.mpr ⟨fo_6_12, List.forall_mem_cons.mpr ⟨fo_6_18, List.forall_mem_cons.mpr ⟨fo_6_22, List.forall_mem_cons.mpr ⟨fo_6_26, List.forall_mem_cons.mpr ⟨fo_6_29, List.forall_mem_cons.mpr ⟨fo_6_32, List.forall_mem_cons.mpr ⟨fo_6_35, List.forall_mem_cons.mpr ⟨fo_6_39, List.forall_mem_cons.mpr ⟨fo_6_42, List.forall_mem_cons.mpr ⟨fo_6_45, List.forall_mem_cons.mpr ⟨fo_6_48, List.forall_mem_cons.mpr ⟨fo_6_52, fun _ h => (List.not_mem_nil h).elim⟩⟩⟩⟩⟩⟩⟩⟩⟩⟩⟩⟩
  | 7 =>
    exact List.forall_mem_cons.mpr ⟨fo_7_14, List.forall_mem_cons.mpr ⟨fo_7_21, List.forall_mem_cons.mpr ⟨fo_7_30, List.forall_mem_cons.mpr ⟨fo_7_37, List.forall_mem_cons.mpr ⟨fo_7_44, List.forall_mem_cons.mpr ⟨fo_7_51, List.forall_mem_cons.mpr ⟨fo_7_55, List.forall_mem_cons.mpr ⟨fo_7_58, List.forall_mem_cons.mpr ⟨fo_7_62, List.forall_mem_cons.mpr ⟨fo_7_66, fun _ h => (List.not_mem_nil h).elim⟩⟩⟩⟩⟩⟩⟩⟩⟩⟩
  | 8 =>
    exact List.forall_mem_cons.mpr ⟨fo_8_7, List.forall_mem_cons.mpr ⟨fo_8_13, List.forall_mem_cons.mpr ⟨fo_8_16, List.forall_mem_cons.mpr ⟨fo_8_19, List.forall_mem_cons.mpr ⟨fo_8_23, List.forall_mem_cons.mpr ⟨fo_8_26, List.forall_mem_cons.mpr ⟨fo_8_29, List.forall_mem_cons.mpr ⟨fo_8_32, List.forall_mem_cons.mpr ⟨fo_8_35, List.forall_mem_cons.mpr ⟨fo_8_38, List.forall_mem_cons.mpr ⟨fo_8_41, List.forall_mem_cons.mpr ⟨fo_8_45, List.forall_mem_cons.mpr ⟨fo_8_49, List.forall_mem_cons.mpr ⟨fo_8_52, List.forall_mem_cons.mpr ⟨fo_8_55, List.forall_mem_cons.mpr ⟨fo_8_58, List.forall_mem_cons.mpr ⟨fo_8_61, List.forall_mem_cons.mpr ⟨fo_8_66, List.forall_mem_cons.mpr ⟨fo_8_70, List.forall_mem_cons.mpr ⟨fo_8_73, List.forall_mem_cons.mpr ⟨fo_8_76, List.forall_mem_cons.mpr ⟨fo_8_79, List.forall_mem_cons.mpr ⟨fo_8_82, List.forall_mem_cons.mpr ⟨fo_8_85, List.forall_mem_cons.mpr ⟨fo_8_88, List.forall_mem_cons.mpr ⟨fo_8_110, List.forall_mem_cons.mpr ⟨fo_8_113, List.forall_mem_cons.mpr ⟨fo_8_131, List.forall_mem_cons.mpr ⟨fo_8_145, List.forall_mem_cons.mpr ⟨fo_8_151, List.forall_mem_cons.mpr ⟨fo_8_154, List.forall_mem_cons.mpr ⟨fo_8_161, List.forall_mem_cons.mpr ⟨fo_8_173, List.forall_mem_cons.mpr ⟨fo_8_207, List.forall_mem_cons.mpr ⟨fo_8_214, List.forall_mem_cons.mpr ⟨fo_8_217, fun _ h => (List.not_mem_nil h).elim⟩⟩⟩⟩⟩⟩⟩⟩⟩⟩⟩⟩⟩⟩⟩⟩⟩⟩⟩⟩⟩⟩⟩⟩⟩⟩⟩⟩⟩⟩⟩⟩⟩⟩⟩⟩
  | 9 =>
    exact fun _ h => (List.not_mem_nil h).elim
  | 10 =>
    exact fun _ h => (List.not_mem_nil h).elim
  | n + 11 => exact fun _ h => (List.not_mem_nil h).elim
theorem no_6_9 : am_NO 6 9 0 := ⟨tb_C0, (tb_1 85 rfl rfl), (tb_1 86 rfl rfl), (tb_1 5 rfl rfl)⟩
theorem no_7_11 : am_NO 7 11 3 := ⟨tb_C3, (tb_1 24 rfl rfl), (tb_1 25 rfl rfl), (tb_1 2 rfl rfl)⟩
theorem no_7_18 : am_NO 7 18 4 := ⟨tb_C4, (tb_1 44 rfl rfl), (tb_1 45 rfl rfl), (tb_1 3 rfl rfl)⟩
theorem no_7_25 : am_NO 7 25 6 := ⟨tb_C6, (tb_1 79 rfl rfl), (tb_1 80 rfl rfl), (tb_1 4 rfl rfl)⟩
theorem no_7_34 : am_NO 7 34 2 := ⟨tb_C2, (tb_1 141 rfl rfl), (tb_1 142 rfl rfl), (tb_1 6 rfl rfl)⟩
theorem no_7_41 : am_NO 7 41 1 := ⟨tb_C1, (tb_1 154 rfl rfl), (tb_1 155 rfl rfl), (tb_1 7 rfl rfl)⟩
theorem no_7_48 : am_NO 7 48 5 := ⟨tb_C5, (tb_1 167 rfl rfl), (tb_1 168 rfl rfl), (tb_1 8 rfl rfl)⟩
theorem no_10_8 : am_NO 10 8 7 := ⟨tb_C7, (tb_1 16 rfl rfl), (tb_1 17 rfl rfl), (tb_1 1 rfl rfl)⟩
theorem no_10_16 : am_NO 10 16 8 := ⟨tb_C8, (tb_3 221 rfl rfl), (tb_3 222 rfl rfl), (tb_1 9 rfl rfl)⟩
theorem tb_no : ∀ (own : Nat), ∀ q ∈ am_rnL own, am_NO own q.1 q.2 := by
  intro own
  match own with
  | 0 =>
    exact fun _ h => (List.not_mem_nil h).elim
  | 1 =>
    exact fun _ h => (List.not_mem_nil h).elim
  | 2 =>
    exact fun _ h => (List.not_mem_nil h).elim
  | 3 =>
    exact fun _ h => (List.not_mem_nil h).elim
  | 4 =>
    exact fun _ h => (List.not_mem_nil h).elim
  | 5 =>
    exact fun _ h => (List.not_mem_nil h).elim
  | 6 =>
    exact List.forall_mem_cons.mpr ⟨no_6_9, fun _ h => (List.not_mem_nil h).elim⟩
  | 7 =>
    exact List.forall_mem_cons.mpr ⟨no_7_11, List.forall_mem_cons.mpr ⟨no_7_18, List.forall_mem_cons.mpr ⟨no_7_25, List.forall_mem_cons.mpr ⟨no_7_34, List.forall_mem_cons.mpr ⟨no_7_41, List.forall_mem_cons.mpr ⟨no_7_48, fun _ h => (List.not_mem_nil h).elim⟩⟩⟩⟩⟩⟩
  | 8 =>
    exact fun _ h => (List.not_mem_nil h).elim
  | 9 =>
    exact fun _ h => (List.not_mem_nil h).elim
  | 10 =>
    exact List.forall_mem_cons.mpr ⟨no_10_8, List.forall_mem_cons.mpr ⟨no_10_16, fun _ h => (List.not_mem_nil h).elim⟩⟩
  | n + 11 => exact fun _ h => (List.not_mem_nil h).elim
theorem tb_kl : ∀ (own : Nat), ∀ q ∈ am_kLL own, Cond.constantLong (am_cn own) q.1 q.2 ∈ am_tbl := by
  intro own
  match own with
  | 0 =>
    exact List.forall_mem_cons.mpr ⟨(tb_2 116 rfl rfl), fun _ h => (List.not_mem_nil h).elim⟩
  | 1 =>
    exact fun _ h => (List.not_mem_nil h).elim
  | 2 =>
    exact fun _ h => (List.not_mem_nil h).elim
  | 3 =>
    exact List.forall_mem_cons.mpr ⟨(tb_2 67 rfl rfl), fun _ h => (List.not_mem_nil h).elim⟩
  | 4 =>
    exact List.forall_mem_cons.mpr ⟨(tb_2 91 rfl rfl), List.forall_mem_cons.mpr ⟨(tb_2 80 rfl rfl), List.forall_mem_cons.mpr ⟨(tb_2 81 rfl rfl), fun _ h => (List.not_mem_nil h).elim⟩⟩⟩
  | 5 =>
    exact fun _ h => (List.not_mem_nil h).elim
  | 6 =>
    exact List.forall_mem_cons.mpr ⟨(tb_2 71 rfl rfl), List.forall_mem_cons.mpr ⟨(tb_2 86 rfl rfl), List.forall_mem_cons.mpr ⟨(tb_2 152 rfl rfl), fun _ h => (List.not_mem_nil h).elim⟩⟩⟩
  | 7 =>
    exact List.forall_mem_cons.mpr ⟨(tb_1 221 rfl rfl), List.forall_mem_cons.mpr ⟨(tb_3 146 rfl rfl), List.forall_mem_cons.mpr ⟨(tb_3 43 rfl rfl), List.forall_mem_cons.mpr ⟨(tb_2 25 rfl rfl), List.forall_mem_cons.mpr ⟨(tb_2 42 rfl rfl), List.forall_mem_cons.mpr ⟨(tb_3 1 rfl rfl), List.forall_mem_cons.mpr ⟨(tb_3 6 rfl rfl), List.forall_mem_cons.mpr ⟨(tb_3 7 rfl rfl), fun _ h => (List.not_mem_nil h).elim⟩⟩⟩⟩⟩⟩⟩⟩
  | 8 =>
    exact List.forall_mem_cons.mpr ⟨(tb_3 227 rfl rfl), List.forall_mem_cons.mpr ⟨(tb_4 106 rfl rfl), List.forall_mem_cons.mpr ⟨(tb_4 107 rfl rfl), List.forall_mem_cons.mpr ⟨(tb_4 116 rfl rfl), List.forall_mem_cons.mpr ⟨(tb_4 117 rfl rfl), List.forall_mem_cons.mpr ⟨(tb_4 118 rfl rfl), List.forall_mem_cons.mpr ⟨(tb_4 131 rfl rfl), List.forall_mem_cons.mpr ⟨(tb_4 140 rfl rfl), List.forall_mem_cons.mpr ⟨(tb_4 221 rfl rfl), List.forall_mem_cons.mpr ⟨(tb_4 222 rfl rfl), List.forall_mem_cons.mpr ⟨(tb_4 227 rfl rfl), List.forall_mem_cons.mpr ⟨(tb_4 235 rfl rfl), List.forall_mem_cons.mpr ⟨(tb_4 236 rfl rfl), fun _ h => (List.not_mem_nil h).elim⟩⟩⟩⟩⟩⟩⟩⟩⟩⟩⟩⟩⟩
  | 9 =>
    exact List.forall_mem_cons.mpr ⟨(tb_3 86 rfl rfl), fun _ h => (List.not_mem_nil h).elim⟩
  | 10 =>
    exact List.forall_mem_cons.mpr ⟨(tb_5 8 rfl rfl), fun _ h => (List.not_mem_nil h).elim⟩
  | n + 11 => exact fun _ h => (List.not_mem_nil h).elim
/-- what a call's row says, by its kind -/
def tb_CL (own x kd k : Nat) : Prop := match kd with
  | 0 => k = am_lst ∨ am_LS own x k
  | 1 => Cond.methodLink (am_cn own) x Lib.objectInit ∈ am_tbl
  | 2 => am_MA own x Lib.Math.abs.name Lib.Math.abs.code 1 .int
  | 3 => am_MA own x Lib.MathLoose.abs_long.x Lib.MathLoose.abs_long.code 2 .long
  | 4 => am_MA own x Lib.MathLoose.max_long.x Lib.MathLoose.max_long.code 4 .long
  | 5 => am_MA own x Lib.MathLoose.min_long.x Lib.MathLoose.min_long.code 4 .long
  | 6 => am_LV own x k
  | 7 => am_LI own x k
  | _ => True
theorem cl_0_3 : tb_CL 0 3 1 0 := (tb_1 90 rfl rfl)
theorem cl_0_28 : tb_CL 0 28 6 65 := ⟨lk_65, tb_C0, rfl, (tb_2 122 rfl rfl), (tb_2 124 rfl rfl), (tb_p 3 rfl rfl), am_na 65 - 1, rfl, by unfold am_pn; decide +kernel⟩
theorem cl_0_32 : tb_CL 0 32 6 66 := ⟨lk_66, tb_C0, rfl, (tb_2 130 rfl rfl), (tb_2 132 rfl rfl), (tb_p 4 rfl rfl), am_na 66 - 1, rfl, by unfold am_pn; decide +kernel⟩
theorem cl_1_3 : tb_CL 1 3 1 0 := (tb_1 159 rfl rfl)
theorem cl_2_1 : tb_CL 2 1 1 0 := (tb_1 146 rfl rfl)
theorem cl_2_17 : tb_CL 2 17 6 78 := ⟨lk_78, tb_C2, rfl, (tb_3 119 rfl rfl), (tb_3 121 rfl rfl), (tb_p 26 rfl rfl), am_na 78 - 1, rfl, by unfold am_pn; decide +kernel⟩
theorem cl_2_21 : tb_CL 2 21 0 79 := Or.inr ⟨lk_79, (tb_3 123 rfl rfl), (tb_3 124 rfl rfl), by unfold am_pn; decide +kernel⟩
theorem cl_3_3 : tb_CL 3 3 1 0 := (tb_1 29 rfl rfl)
theorem cl_3_27 : tb_CL 3 27 4 0 := ⟨(tb_2 68 rfl rfl), (tb_2 69 rfl rfl), (tb_1 14 rfl rfl), (tb_2 70 rfl rfl)⟩
theorem cl_3_33 : tb_CL 3 33 6 89 := ⟨lk_89, tb_C3, rfl, (tb_2 34 rfl rfl), (tb_2 35 rfl rfl), (tb_2 36 rfl rfl), am_na 89 - 1, rfl, by unfold am_pn; decide +kernel⟩
theorem cl_4_3 : tb_CL 4 3 1 0 := (tb_1 49 rfl rfl)
theorem cl_5_3 : tb_CL 5 3 1 0 := (tb_1 172 rfl rfl)
theorem cl_5_27 : tb_CL 5 27 2 0 := ⟨(tb_2 226 rfl rfl), (tb_2 227 rfl rfl), (tb_1 14 rfl rfl), (tb_2 228 rfl rfl)⟩
theorem cl_5_33 : tb_CL 5 33 6 111 := ⟨lk_111, tb_C5, rfl, (tb_3 74 rfl rfl), (tb_2 223 rfl rfl), (tb_2 224 rfl rfl), am_na 111 - 1, rfl, by unfold am_pn; decide +kernel⟩
theorem cl_6_3 : tb_CL 6 3 1 0 := (tb_1 84 rfl rfl)
theorem cl_6_11 : tb_CL 6 11 7 60 := ⟨lk_60, rfl, Or.inr ⟨"RouteGuide", List.mem_of_getElem? (i := 0) rfl⟩, (tb_1 88 rfl rfl), rfl, rfl, am_na 60 - 1, rfl, by unfold am_pn; decide +kernel⟩
theorem cl_6_56 : tb_CL 6 56 6 97 := ⟨lk_97, tb_C4, rfl, (tb_2 47 rfl rfl), (tb_2 48 rfl rfl), (tb_2 49 rfl rfl), am_na 97 - 1, rfl, by unfold am_pn; decide +kernel⟩
theorem cl_6_62 : tb_CL 6 62 6 81 := ⟨lk_81, tb_C3, rfl, (tb_2 59 rfl rfl), (tb_2 60 rfl rfl), (tb_2 61 rfl rfl), am_na 81 - 1, rfl, by unfold am_pn; decide +kernel⟩
theorem cl_6_68 : tb_CL 6 68 6 90 := ⟨lk_90, tb_C3, rfl, (tb_2 63 rfl rfl), (tb_2 64 rfl rfl), (tb_2 65 rfl rfl), am_na 90 - 1, rfl, by unfold am_pn; decide +kernel⟩
theorem cl_6_74 : tb_CL 6 74 6 93 := ⟨lk_93, tb_C4, rfl, (tb_2 72 rfl rfl), (tb_2 73 rfl rfl), (tb_2 74 rfl rfl), am_na 93 - 1, rfl, by unfold am_pn; decide +kernel⟩
theorem cl_6_75 : tb_CL 6 75 6 106 := ⟨lk_106, tb_C4, rfl, (tb_2 76 rfl rfl), (tb_2 77 rfl rfl), (tb_2 78 rfl rfl), am_na 106 - 1, rfl, by unfold am_pn; decide +kernel⟩
theorem cl_6_79 : tb_CL 6 79 6 100 := ⟨lk_100, tb_C4, rfl, (tb_2 82 rfl rfl), (tb_2 83 rfl rfl), (tb_2 84 rfl rfl), am_na 100 - 1, rfl, by unfold am_pn; decide +kernel⟩
theorem cl_6_84 : tb_CL 6 84 6 101 := ⟨lk_101, tb_C4, rfl, (tb_2 87 rfl rfl), (tb_2 88 rfl rfl), (tb_2 89 rfl rfl), am_na 101 - 1, rfl, by unfold am_pn; decide +kernel⟩
theorem cl_6_88 : tb_CL 6 88 6 112 := ⟨lk_112, tb_C5, rfl, (tb_2 96 rfl rfl), (tb_2 97 rfl rfl), (tb_2 98 rfl rfl), am_na 112 - 1, rfl, by unfold am_pn; decide +kernel⟩
theorem cl_6_93 : tb_CL 6 93 6 114 := ⟨lk_114, tb_C5, rfl, (tb_2 100 rfl rfl), (tb_2 101 rfl rfl), (tb_2 102 rfl rfl), am_na 114 - 1, rfl, by unfold am_pn; decide +kernel⟩
theorem cl_6_97 : tb_CL 6 97 6 126 := ⟨lk_126, tb_C6, rfl, (tb_2 104 rfl rfl), (tb_2 106 rfl rfl), (tb_p 1 rfl rfl), am_na 126 - 1, rfl, by unfold am_pn; decide +kernel⟩
theorem cl_6_100 : tb_CL 6 100 6 124 := ⟨lk_124, tb_C6, rfl, (tb_2 134 rfl rfl), (tb_2 136 rfl rfl), (tb_p 5 rfl rfl), am_na 124 - 1, rfl, by unfold am_pn; decide +kernel⟩
theorem cl_6_103 : tb_CL 6 103 6 62 := ⟨lk_62, tb_C0, rfl, (tb_2 138 rfl rfl), (tb_2 139 rfl rfl), (tb_2 140 rfl rfl), am_na 62 - 1, rfl, by unfold am_pn; decide +kernel⟩
theorem cl_6_108 : tb_CL 6 108 6 128 := ⟨lk_128, tb_C6, rfl, (tb_2 153 rfl rfl), (tb_2 155 rfl rfl), (tb_p 8 rfl rfl), am_na 128 - 1, rfl, by unfold am_pn; decide +kernel⟩
theorem cl_6_112 : tb_CL 6 112 6 131 := ⟨lk_131, tb_C6, rfl, (tb_2 157 rfl rfl), (tb_2 159 rfl rfl), (tb_p 9 rfl rfl), am_na 131 - 1, rfl, by unfold am_pn; decide +kernel⟩
theorem cl_6_115 : tb_CL 6 115 6 109 := ⟨lk_109, tb_C5, rfl, (tb_3 64 rfl rfl), (tb_2 215 rfl rfl), (tb_2 216 rfl rfl), am_na 109 - 1, rfl, by unfold am_pn; decide +kernel⟩
theorem cl_6_118 : tb_CL 6 118 6 111 := ⟨lk_111, tb_C5, rfl, (tb_3 65 rfl rfl), (tb_2 223 rfl rfl), (tb_2 224 rfl rfl), am_na 111 - 1, rfl, by unfold am_pn; decide +kernel⟩
theorem cl_6_121 : tb_CL 6 121 6 125 := ⟨lk_125, tb_C6, rfl, (tb_2 146 rfl rfl), (tb_2 148 rfl rfl), (tb_p 7 rfl rfl), am_na 125 - 1, rfl, by unfold am_pn; decide +kernel⟩
theorem cl_6_125 : tb_CL 6 125 6 99 := ⟨lk_99, tb_C4, rfl, (tb_2 117 rfl rfl), (tb_2 6 rfl rfl), (tb_2 7 rfl rfl), am_na 99 - 1, rfl, by unfold am_pn; decide +kernel⟩
theorem cl_6_128 : tb_CL 6 128 6 132 := ⟨lk_132, tb_C6, rfl, (tb_2 161 rfl rfl), (tb_2 163 rfl rfl), (tb_p 10 rfl rfl), am_na 132 - 1, rfl, by unfold am_pn; decide +kernel⟩
theorem cl_6_131 : tb_CL 6 131 6 133 := ⟨lk_133, tb_C6, rfl, (tb_2 176 rfl rfl), (tb_2 178 rfl rfl), (tb_p 13 rfl rfl), am_na 133 - 1, rfl, by unfold am_pn; decide +kernel⟩
theorem cl_6_134 : tb_CL 6 134 6 134 := ⟨lk_134, tb_C6, rfl, (tb_3 66 rfl rfl), (tb_3 68 rfl rfl), (tb_p 24 rfl rfl), am_na 134 - 1, rfl, by unfold am_pn; decide +kernel⟩
theorem cl_6_138 : tb_CL 6 138 6 135 := ⟨lk_135, tb_C6, rfl, (tb_2 188 rfl rfl), (tb_2 190 rfl rfl), (tb_p 14 rfl rfl), am_na 135 - 1, rfl, by unfold am_pn; decide +kernel⟩
theorem cl_6_141 : tb_CL 6 141 6 89 := ⟨lk_89, tb_C3, rfl, (tb_2 196 rfl rfl), (tb_2 35 rfl rfl), (tb_2 36 rfl rfl), am_na 89 - 1, rfl, by unfold am_pn; decide +kernel⟩
theorem cl_6_145 : tb_CL 6 145 6 138 := ⟨lk_138, tb_C6, rfl, (tb_2 201 rfl rfl), (tb_2 203 rfl rfl), (tb_p 17 rfl rfl), am_na 138 - 1, rfl, by unfold am_pn; decide +kernel⟩
theorem cl_6_148 : tb_CL 6 148 6 87 := ⟨lk_87, tb_C3, rfl, (tb_2 205 rfl rfl), (tb_2 206 rfl rfl), (tb_2 207 rfl rfl), am_na 87 - 1, rfl, by unfold am_pn; decide +kernel⟩
theorem cl_6_152 : tb_CL 6 152 6 98 := ⟨lk_98, tb_C4, rfl, (tb_2 150 rfl rfl), (tb_2 2 rfl rfl), (tb_2 3 rfl rfl), am_na 98 - 1, rfl, by unfold am_pn; decide +kernel⟩
theorem cl_6_155 : tb_CL 6 155 6 102 := ⟨lk_102, tb_C4, rfl, (tb_2 151 rfl rfl), (tb_2 10 rfl rfl), (tb_2 11 rfl rfl), am_na 102 - 1, rfl, by unfold am_pn; decide +kernel⟩
theorem cl_6_158 : tb_CL 6 158 6 123 := ⟨lk_123, tb_C6, rfl, (tb_2 108 rfl rfl), (tb_2 110 rfl rfl), (tb_p 2 rfl rfl), am_na 123 - 1, rfl, by unfold am_pn; decide +kernel⟩
theorem cl_6_161 : tb_CL 6 161 6 61 := ⟨lk_61, tb_C0, rfl, (tb_2 112 rfl rfl), (tb_2 113 rfl rfl), (tb_2 114 rfl rfl), am_na 61 - 1, rfl, by unfold am_pn; decide +kernel⟩
theorem cl_6_164 : tb_CL 6 164 6 63 := ⟨lk_63, tb_C0, rfl, (tb_2 118 rfl rfl), (tb_2 119 rfl rfl), (tb_2 120 rfl rfl), am_na 63 - 1, rfl, by unfold am_pn; decide +kernel⟩
theorem cl_6_168 : tb_CL 6 168 6 64 := ⟨lk_64, tb_C0, rfl, (tb_2 126 rfl rfl), (tb_2 127 rfl rfl), (tb_2 128 rfl rfl), am_na 64 - 1, rfl, by unfold am_pn; decide +kernel⟩
theorem cl_6_171 : tb_CL 6 171 6 127 := ⟨lk_127, tb_C6, rfl, (tb_2 142 rfl rfl), (tb_2 144 rfl rfl), (tb_p 6 rfl rfl), am_na 127 - 1, rfl, by unfold am_pn; decide +kernel⟩
theorem cl_6_175 : tb_CL 6 175 6 129 := ⟨lk_129, tb_C6, rfl, (tb_2 168 rfl rfl), (tb_2 170 rfl rfl), (tb_p 11 rfl rfl), am_na 129 - 1, rfl, by unfold am_pn; decide +kernel⟩
theorem cl_6_179 : tb_CL 6 179 6 113 := ⟨lk_113, tb_C5, rfl, (tb_2 180 rfl rfl), (tb_2 181 rfl rfl), (tb_2 182 rfl rfl), am_na 113 - 1, rfl, by unfold am_pn; decide +kernel⟩
theorem cl_6_182 : tb_CL 6 182 6 130 := ⟨lk_130, tb_C6, rfl, (tb_2 172 rfl rfl), (tb_2 174 rfl rfl), (tb_p 12 rfl rfl), am_na 130 - 1, rfl, by unfold am_pn; decide +kernel⟩
theorem cl_6_186 : tb_CL 6 186 5 0 := ⟨(tb_2 165 rfl rfl), (tb_2 166 rfl rfl), (tb_1 14 rfl rfl), (tb_2 167 rfl rfl)⟩
theorem cl_6_192 : tb_CL 6 192 6 137 := ⟨lk_137, tb_C6, rfl, (tb_2 192 rfl rfl), (tb_2 194 rfl rfl), (tb_p 15 rfl rfl), am_na 137 - 1, rfl, by unfold am_pn; decide +kernel⟩
theorem cl_6_196 : tb_CL 6 196 6 136 := ⟨lk_136, tb_C6, rfl, (tb_2 197 rfl rfl), (tb_2 199 rfl rfl), (tb_p 16 rfl rfl), am_na 136 - 1, rfl, by unfold am_pn; decide +kernel⟩
theorem cl_7_5 : tb_CL 7 5 1 0 := (tb_1 21 rfl rfl)
theorem cl_7_13 : tb_CL 7 13 7 80 := ⟨lk_80, rfl, Or.inr ⟨"RouteGuide", List.mem_of_getElem? (i := 1) rfl⟩, (tb_1 27 rfl rfl), rfl, rfl, am_na 80 - 1, rfl, by unfold am_pn; decide +kernel⟩
theorem cl_7_20 : tb_CL 7 20 7 92 := ⟨lk_92, rfl, Or.inr ⟨"RouteGuide", List.mem_of_getElem? (i := 2) rfl⟩, (tb_1 47 rfl rfl), rfl, rfl, am_na 92 - 1, rfl, by unfold am_pn; decide +kernel⟩
theorem cl_7_27 : tb_CL 7 27 7 117 := ⟨lk_117, rfl, Or.inl (tb_1 81 rfl rfl), (tb_1 82 rfl rfl), rfl, rfl, am_na 117 - 1, rfl, by unfold am_pn; decide +kernel⟩
theorem cl_7_36 : tb_CL 7 36 7 72 := ⟨lk_72, rfl, Or.inr ⟨"RouteGuide", List.mem_of_getElem? (i := 3) rfl⟩, (tb_1 144 rfl rfl), rfl, rfl, am_na 72 - 1, rfl, by unfold am_pn; decide +kernel⟩
theorem cl_7_43 : tb_CL 7 43 7 70 := ⟨lk_70, rfl, Or.inr ⟨"RouteGuide", List.mem_of_getElem? (i := 4) rfl⟩, (tb_1 157 rfl rfl), rfl, rfl, am_na 70 - 1, rfl, by unfold am_pn; decide +kernel⟩
theorem cl_7_50 : tb_CL 7 50 7 107 := ⟨lk_107, rfl, Or.inr ⟨"RouteGuide", List.mem_of_getElem? (i := 5) rfl⟩, (tb_1 170 rfl rfl), rfl, rfl, am_na 107 - 1, rfl, by unfold am_pn; decide +kernel⟩
theorem cl_7_72 : tb_CL 7 72 0 15 := Or.inr ⟨lk_15, (tb_1 222 rfl rfl), (tb_1 223 rfl rfl), by unfold am_pn; decide +kernel⟩
theorem cl_7_76 : tb_CL 7 76 6 83 := ⟨lk_83, tb_C3, rfl, (tb_1 225 rfl rfl), (tb_1 226 rfl rfl), (tb_1 227 rfl rfl), am_na 83 - 1, rfl, by unfold am_pn; decide +kernel⟩
theorem cl_7_80 : tb_CL 7 80 6 84 := ⟨lk_84, tb_C3, rfl, (tb_1 229 rfl rfl), (tb_1 230 rfl rfl), (tb_1 231 rfl rfl), am_na 84 - 1, rfl, by unfold am_pn; decide +kernel⟩
theorem cl_7_84 : tb_CL 7 84 6 82 := ⟨lk_82, tb_C3, rfl, (tb_2 21 rfl rfl), (tb_2 22 rfl rfl), (tb_2 23 rfl rfl), am_na 82 - 1, rfl, by unfold am_pn; decide +kernel⟩
theorem cl_7_92 : tb_CL 7 92 6 95 := ⟨lk_95, tb_C4, rfl, (tb_3 147 rfl rfl), (tb_3 148 rfl rfl), (tb_3 149 rfl rfl), am_na 95 - 1, rfl, by unfold am_pn; decide +kernel⟩
theorem cl_7_100 : tb_CL 7 100 6 96 := ⟨lk_96, tb_C4, rfl, (tb_3 217 rfl rfl), (tb_3 218 rfl rfl), (tb_3 219 rfl rfl), am_na 96 - 1, rfl, by unfold am_pn; decide +kernel⟩
theorem cl_7_103 : tb_CL 7 103 6 94 := ⟨lk_94, tb_C4, rfl, (tb_1 237 rfl rfl), (tb_1 238 rfl rfl), (tb_1 239 rfl rfl), am_na 94 - 1, rfl, by unfold am_pn; decide +kernel⟩
theorem cl_7_104 : tb_CL 7 104 6 98 := ⟨lk_98, tb_C4, rfl, (tb_2 1 rfl rfl), (tb_2 2 rfl rfl), (tb_2 3 rfl rfl), am_na 98 - 1, rfl, by unfold am_pn; decide +kernel⟩
theorem cl_7_108 : tb_CL 7 108 6 99 := ⟨lk_99, tb_C4, rfl, (tb_2 5 rfl rfl), (tb_2 6 rfl rfl), (tb_2 7 rfl rfl), am_na 99 - 1, rfl, by unfold am_pn; decide +kernel⟩
theorem cl_7_111 : tb_CL 7 111 6 102 := ⟨lk_102, tb_C4, rfl, (tb_2 9 rfl rfl), (tb_2 10 rfl rfl), (tb_2 11 rfl rfl), am_na 102 - 1, rfl, by unfold am_pn; decide +kernel⟩
theorem cl_7_115 : tb_CL 7 115 6 103 := ⟨lk_103, tb_C4, rfl, (tb_2 13 rfl rfl), (tb_2 14 rfl rfl), (tb_2 15 rfl rfl), am_na 103 - 1, rfl, by unfold am_pn; decide +kernel⟩
theorem cl_7_121 : tb_CL 7 121 6 88 := ⟨lk_88, tb_C3, rfl, (tb_2 26 rfl rfl), (tb_2 27 rfl rfl), (tb_2 28 rfl rfl), am_na 88 - 1, rfl, by unfold am_pn; decide +kernel⟩
theorem cl_7_125 : tb_CL 7 125 6 91 := ⟨lk_91, tb_C3, rfl, (tb_2 30 rfl rfl), (tb_2 31 rfl rfl), (tb_2 32 rfl rfl), am_na 91 - 1, rfl, by unfold am_pn; decide +kernel⟩
theorem cl_7_131 : tb_CL 7 131 6 118 := ⟨lk_118, tb_C6, rfl, (tb_2 43 rfl rfl), (tb_2 44 rfl rfl), (tb_2 45 rfl rfl), am_na 118 - 1, rfl, by unfold am_pn; decide +kernel⟩
theorem cl_7_135 : tb_CL 7 135 6 16 := ⟨lk_16, tb_C7, rfl, (tb_2 51 rfl rfl), (tb_2 53 rfl rfl), (tb_p 0 rfl rfl), am_na 16 - 1, rfl, by unfold am_pn; decide +kernel⟩
theorem cl_7_138 : tb_CL 7 138 6 112 := ⟨lk_112, tb_C5, rfl, (tb_2 209 rfl rfl), (tb_2 97 rfl rfl), (tb_2 98 rfl rfl), am_na 112 - 1, rfl, by unfold am_pn; decide +kernel⟩
theorem cl_7_141 : tb_CL 7 141 6 17 := ⟨lk_17, tb_C7, rfl, (tb_2 210 rfl rfl), (tb_2 212 rfl rfl), (tb_p 18 rfl rfl), am_na 17 - 1, rfl, by unfold am_pn; decide +kernel⟩
theorem cl_7_144 : tb_CL 7 144 6 109 := ⟨lk_109, tb_C5, rfl, (tb_2 214 rfl rfl), (tb_2 215 rfl rfl), (tb_2 216 rfl rfl), am_na 109 - 1, rfl, by unfold am_pn; decide +kernel⟩
theorem cl_7_147 : tb_CL 7 147 6 111 := ⟨lk_111, tb_C5, rfl, (tb_2 222 rfl rfl), (tb_2 223 rfl rfl), (tb_2 224 rfl rfl), am_na 111 - 1, rfl, by unfold am_pn; decide +kernel⟩
theorem cl_7_150 : tb_CL 7 150 6 108 := ⟨lk_108, tb_C5, rfl, (tb_2 233 rfl rfl), (tb_2 234 rfl rfl), (tb_2 235 rfl rfl), am_na 108 - 1, rfl, by unfold am_pn; decide +kernel⟩
theorem cl_7_153 : tb_CL 7 153 6 110 := ⟨lk_110, tb_C5, rfl, (tb_2 237 rfl rfl), (tb_2 238 rfl rfl), (tb_2 239 rfl rfl), am_na 110 - 1, rfl, by unfold am_pn; decide +kernel⟩
theorem cl_7_163 : tb_CL 7 163 6 93 := ⟨lk_93, tb_C4, rfl, (tb_3 8 rfl rfl), (tb_2 73 rfl rfl), (tb_2 74 rfl rfl), am_na 93 - 1, rfl, by unfold am_pn; decide +kernel⟩
theorem cl_7_166 : tb_CL 7 166 6 22 := ⟨lk_22, tb_C7, rfl, (tb_3 9 rfl rfl), (tb_3 11 rfl rfl), (tb_p 19 rfl rfl), am_na 22 - 1, rfl, by unfold am_pn; decide +kernel⟩
theorem cl_7_169 : tb_CL 7 169 6 23 := ⟨lk_23, tb_C7, rfl, (tb_3 32 rfl rfl), (tb_3 34 rfl rfl), (tb_p 22 rfl rfl), am_na 23 - 1, rfl, by unfold am_pn; decide +kernel⟩
theorem cl_7_173 : tb_CL 7 173 6 104 := ⟨lk_104, tb_C4, rfl, (tb_3 44 rfl rfl), (tb_3 45 rfl rfl), (tb_3 46 rfl rfl), am_na 104 - 1, rfl, by unfold am_pn; decide +kernel⟩
theorem cl_7_177 : tb_CL 7 177 6 105 := ⟨lk_105, tb_C4, rfl, (tb_3 48 rfl rfl), (tb_3 49 rfl rfl), (tb_3 50 rfl rfl), am_na 105 - 1, rfl, by unfold am_pn; decide +kernel⟩
theorem cl_7_181 : tb_CL 7 181 6 18 := ⟨lk_18, tb_C7, rfl, (tb_3 56 rfl rfl), (tb_3 58 rfl rfl), (tb_p 23 rfl rfl), am_na 18 - 1, rfl, by unfold am_pn; decide +kernel⟩
theorem cl_7_185 : tb_CL 7 185 6 21 := ⟨lk_21, tb_C7, rfl, (tb_3 79 rfl rfl), (tb_3 81 rfl rfl), (tb_p 25 rfl rfl), am_na 21 - 1, rfl, by unfold am_pn; decide +kernel⟩
theorem cl_7_189 : tb_CL 7 189 6 115 := ⟨lk_115, tb_C5, rfl, (tb_3 90 rfl rfl), (tb_3 91 rfl rfl), (tb_3 92 rfl rfl), am_na 115 - 1, rfl, by unfold am_pn; decide +kernel⟩
theorem cl_7_192 : tb_CL 7 192 6 73 := ⟨lk_73, tb_C2, rfl, (tb_3 98 rfl rfl), (tb_3 99 rfl rfl), (tb_3 100 rfl rfl), am_na 73 - 1, rfl, by unfold am_pn; decide +kernel⟩
theorem cl_7_195 : tb_CL 7 195 6 75 := ⟨lk_75, tb_C2, rfl, (tb_3 102 rfl rfl), (tb_3 103 rfl rfl), (tb_3 104 rfl rfl), am_na 75 - 1, rfl, by unfold am_pn; decide +kernel⟩
theorem cl_7_198 : tb_CL 7 198 6 74 := ⟨lk_74, tb_C2, rfl, (tb_3 106 rfl rfl), (tb_3 107 rfl rfl), (tb_3 108 rfl rfl), am_na 74 - 1, rfl, by unfold am_pn; decide +kernel⟩
theorem cl_7_199 : tb_CL 7 199 6 76 := ⟨lk_76, tb_C2, rfl, (tb_3 110 rfl rfl), (tb_3 111 rfl rfl), (tb_3 112 rfl rfl), am_na 76 - 1, rfl, by unfold am_pn; decide +kernel⟩
theorem cl_7_202 : tb_CL 7 202 6 81 := ⟨lk_81, tb_C3, rfl, (tb_3 114 rfl rfl), (tb_2 60 rfl rfl), (tb_2 61 rfl rfl), am_na 81 - 1, rfl, by unfold am_pn; decide +kernel⟩
theorem cl_7_203 : tb_CL 7 203 6 77 := ⟨lk_77, tb_C2, rfl, (tb_3 115 rfl rfl), (tb_3 116 rfl rfl), (tb_3 117 rfl rfl), am_na 77 - 1, rfl, by unfold am_pn; decide +kernel⟩
theorem cl_7_206 : tb_CL 7 206 6 71 := ⟨lk_71, tb_C1, rfl, (tb_3 134 rfl rfl), (tb_3 135 rfl rfl), (tb_3 136 rfl rfl), am_na 71 - 1, rfl, by unfold am_pn; decide +kernel⟩
theorem cl_7_209 : tb_CL 7 209 6 119 := ⟨lk_119, tb_C6, rfl, (tb_2 55 rfl rfl), (tb_2 56 rfl rfl), (tb_2 57 rfl rfl), am_na 119 - 1, rfl, by unfold am_pn; decide +kernel⟩
theorem cl_7_213 : tb_CL 7 213 6 120 := ⟨lk_120, tb_C6, rfl, (tb_2 92 rfl rfl), (tb_2 93 rfl rfl), (tb_2 94 rfl rfl), am_na 120 - 1, rfl, by unfold am_pn; decide +kernel⟩
theorem cl_7_217 : tb_CL 7 217 6 122 := ⟨lk_122, tb_C6, rfl, (tb_2 184 rfl rfl), (tb_2 185 rfl rfl), (tb_2 186 rfl rfl), am_na 122 - 1, rfl, by unfold am_pn; decide +kernel⟩
theorem cl_7_220 : tb_CL 7 220 6 121 := ⟨lk_121, tb_C6, rfl, (tb_3 60 rfl rfl), (tb_3 61 rfl rfl), (tb_3 62 rfl rfl), am_na 121 - 1, rfl, by unfold am_pn; decide +kernel⟩
theorem cl_7_224 : tb_CL 7 224 6 116 := ⟨lk_116, tb_C5, rfl, (tb_3 70 rfl rfl), (tb_3 71 rfl rfl), (tb_3 72 rfl rfl), am_na 116 - 1, rfl, by unfold am_pn; decide +kernel⟩
theorem cl_7_227 : tb_CL 7 227 6 85 := ⟨lk_85, tb_C3, rfl, (tb_3 17 rfl rfl), (tb_3 18 rfl rfl), (tb_3 19 rfl rfl), am_na 85 - 1, rfl, by unfold am_pn; decide +kernel⟩
theorem cl_7_231 : tb_CL 7 231 6 86 := ⟨lk_86, tb_C3, rfl, (tb_3 25 rfl rfl), (tb_3 26 rfl rfl), (tb_3 27 rfl rfl), am_na 86 - 1, rfl, by unfold am_pn; decide +kernel⟩
theorem cl_7_234 : tb_CL 7 234 6 19 := ⟨lk_19, tb_C7, rfl, (tb_3 13 rfl rfl), (tb_3 15 rfl rfl), (tb_p 20 rfl rfl), am_na 19 - 1, rfl, by unfold am_pn; decide +kernel⟩
theorem cl_7_237 : tb_CL 7 237 6 20 := ⟨lk_20, tb_C7, rfl, (tb_3 21 rfl rfl), (tb_3 23 rfl rfl), (tb_p 21 rfl rfl), am_na 20 - 1, rfl, by unfold am_pn; decide +kernel⟩
theorem cl_7_240 : tb_CL 7 240 0 67 := Or.inr ⟨lk_67, (tb_3 83 rfl rfl), (tb_3 84 rfl rfl), by unfold am_pn; decide +kernel⟩
theorem cl_7_246 : tb_CL 7 246 0 68 := Or.inr ⟨lk_68, (tb_3 29 rfl rfl), (tb_3 30 rfl rfl), by unfold am_pn; decide +kernel⟩
theorem cl_7_249 : tb_CL 7 249 0 69 := Or.inr ⟨lk_69, (tb_3 36 rfl rfl), (tb_3 37 rfl rfl), by unfold am_pn; decide +kernel⟩
theorem cl_8_1 : tb_CL 8 1 1 0 := (tb_3 226 rfl rfl)
theorem cl_8_95 : tb_CL 8 95 6 26 := ⟨lk_26, tb_C8, rfl, (tb_4 112 rfl rfl), (tb_4 114 rfl rfl), (tb_p 28 rfl rfl), am_na 26 - 1, rfl, by unfold am_pn; decide +kernel⟩
theorem cl_8_105 : tb_CL 8 105 6 27 := ⟨lk_27, tb_C8, rfl, (tb_4 123 rfl rfl), (tb_4 125 rfl rfl), (tb_p 29 rfl rfl), am_na 27 - 1, rfl, by unfold am_pn; decide +kernel⟩
theorem cl_8_116 : tb_CL 8 116 6 37 := ⟨lk_37, tb_C8, rfl, (tb_4 153 rfl rfl), (tb_4 155 rfl rfl), (tb_p 33 rfl rfl), am_na 37 - 1, rfl, by unfold am_pn; decide +kernel⟩
theorem cl_8_120 : tb_CL 8 120 6 33 := ⟨lk_33, tb_C8, rfl, (tb_4 173 rfl rfl), (tb_4 175 rfl rfl), (tb_p 38 rfl rfl), am_na 33 - 1, rfl, by unfold am_pn; decide +kernel⟩
theorem cl_8_124 : tb_CL 8 124 6 36 := ⟨lk_36, tb_C8, rfl, (tb_4 165 rfl rfl), (tb_4 167 rfl rfl), (tb_p 36 rfl rfl), am_na 36 - 1, rfl, by unfold am_pn; decide +kernel⟩
theorem cl_8_127 : tb_CL 8 127 6 35 := ⟨lk_35, tb_C8, rfl, (tb_4 149 rfl rfl), (tb_4 151 rfl rfl), (tb_p 32 rfl rfl), am_na 35 - 1, rfl, by unfold am_pn; decide +kernel⟩
theorem cl_8_134 : tb_CL 8 134 6 34 := ⟨lk_34, tb_C8, rfl, (tb_4 157 rfl rfl), (tb_4 159 rfl rfl), (tb_p 34 rfl rfl), am_na 34 - 1, rfl, by unfold am_pn; decide +kernel⟩
theorem cl_8_137 : tb_CL 8 137 6 39 := ⟨lk_39, tb_C8, rfl, (tb_4 161 rfl rfl), (tb_4 163 rfl rfl), (tb_p 35 rfl rfl), am_na 39 - 1, rfl, by unfold am_pn; decide +kernel⟩
theorem cl_8_141 : tb_CL 8 141 6 38 := ⟨lk_38, tb_C8, rfl, (tb_4 169 rfl rfl), (tb_4 171 rfl rfl), (tb_p 37 rfl rfl), am_na 38 - 1, rfl, by unfold am_pn; decide +kernel⟩
theorem cl_8_148 : tb_CL 8 148 6 40 := ⟨lk_40, tb_C8, rfl, (tb_4 145 rfl rfl), (tb_4 147 rfl rfl), (tb_p 31 rfl rfl), am_na 40 - 1, rfl, by unfold am_pn; decide +kernel⟩
theorem cl_8_157 : tb_CL 8 157 6 45 := ⟨lk_45, tb_C8, rfl, (tb_4 177 rfl rfl), (tb_4 179 rfl rfl), (tb_p 39 rfl rfl), am_na 45 - 1, rfl, by unfold am_pn; decide +kernel⟩
theorem cl_8_164 : tb_CL 8 164 6 41 := ⟨lk_41, tb_C8, rfl, (tb_4 185 rfl rfl), (tb_4 187 rfl rfl), (tb_p 41 rfl rfl), am_na 41 - 1, rfl, by unfold am_pn; decide +kernel⟩
theorem cl_8_167 : tb_CL 8 167 6 42 := ⟨lk_42, tb_C8, rfl, (tb_4 189 rfl rfl), (tb_4 191 rfl rfl), (tb_p 42 rfl rfl), am_na 42 - 1, rfl, by unfold am_pn; decide +kernel⟩
theorem cl_8_170 : tb_CL 8 170 6 44 := ⟨lk_44, tb_C8, rfl, (tb_4 181 rfl rfl), (tb_4 183 rfl rfl), (tb_p 40 rfl rfl), am_na 44 - 1, rfl, by unfold am_pn; decide +kernel⟩
theorem cl_8_178 : tb_CL 8 178 6 43 := ⟨lk_43, tb_C8, rfl, (tb_4 141 rfl rfl), (tb_4 143 rfl rfl), (tb_p 30 rfl rfl), am_na 43 - 1, rfl, by unfold am_pn; decide +kernel⟩
theorem cl_8_182 : tb_CL 8 182 6 46 := ⟨lk_46, tb_C8, rfl, (tb_4 193 rfl rfl), (tb_4 195 rfl rfl), (tb_p 43 rfl rfl), am_na 46 - 1, rfl, by unfold am_pn; decide +kernel⟩
theorem cl_8_185 : tb_CL 8 185 6 48 := ⟨lk_48, tb_C8, rfl, (tb_4 201 rfl rfl), (tb_4 203 rfl rfl), (tb_p 44 rfl rfl), am_na 48 - 1, rfl, by unfold am_pn; decide +kernel⟩
theorem cl_8_195 : tb_CL 8 195 0 54 := Or.inr ⟨lk_54, (tb_4 228 rfl rfl), (tb_4 229 rfl rfl), by unfold am_pn; decide +kernel⟩
theorem cl_8_199 : tb_CL 8 199 6 55 := ⟨lk_55, tb_C8, rfl, (tb_4 231 rfl rfl), (tb_4 233 rfl rfl), (tb_p 45 rfl rfl), am_na 55 - 1, rfl, by unfold am_pn; decide +kernel⟩
theorem cl_8_210 : tb_CL 8 210 0 57 := Or.inr ⟨lk_57, (tb_5 1 rfl rfl), (tb_5 2 rfl rfl), by unfold am_pn; decide +kernel⟩
theorem cl_9_9 : tb_CL 9 9 3 0 := ⟨(tb_3 87 rfl rfl), (tb_3 88 rfl rfl), (tb_1 14 rfl rfl), (tb_3 89 rfl rfl)⟩
theorem cl_10_7 : tb_CL 10 7 6 2 := ⟨lk_2, tb_C7, rfl, (tb_3 142 rfl rfl), (tb_3 143 rfl rfl), (tb_3 144 rfl rfl), am_na 2 - 1, rfl, by unfold am_pn; decide +kernel⟩
theorem cl_10_15 : tb_CL 10 15 7 0 := ⟨lk_0, rfl, Or.inl (tb_1 18 rfl rfl), (tb_1 19 rfl rfl), rfl, rfl, am_na 0 - 1, rfl, by unfold am_pn; decide +kernel⟩
theorem cl_10_18 : tb_CL 10 18 7 24 := ⟨lk_24, rfl, Or.inl (tb_3 223 rfl rfl), (tb_3 224 rfl rfl), rfl, rfl, am_na 24 - 1, rfl, by unfold am_pn; decide +kernel⟩
theorem cl_10_21 : tb_CL 10 21 6 1 := ⟨lk_1, tb_C7, rfl, (tb_1 217 rfl rfl), (tb_1 218 rfl rfl), (tb_1 219 rfl rfl), am_na 1 - 1, rfl, by unfold am_pn; decide +kernel⟩
theorem cl_10_25 : tb_CL 10 25 6 28 := ⟨lk_28, tb_C8, rfl, (tb_4 102 rfl rfl), (tb_4 103 rfl rfl), (tb_4 104 rfl rfl), am_na 28 - 1, rfl, by unfold am_pn; decide +kernel⟩
theorem cl_10_26 : tb_CL 10 26 0 139 := Or.inl rfl
theorem cl_10_31 : tb_CL 10 31 6 29 := ⟨lk_29, tb_C8, rfl, (tb_4 108 rfl rfl), (tb_4 109 rfl rfl), (tb_4 110 rfl rfl), am_na 29 - 1, rfl, by unfold am_pn; decide +kernel⟩
theorem cl_10_32 : tb_CL 10 32 6 25 := ⟨lk_25, tb_C8, rfl, (tb_4 98 rfl rfl), (tb_4 99 rfl rfl), (tb_4 100 rfl rfl), am_na 25 - 1, rfl, by unfold am_pn; decide +kernel⟩
theorem cl_10_36 : tb_CL 10 36 6 3 := ⟨lk_3, tb_C7, rfl, (tb_1 233 rfl rfl), (tb_1 234 rfl rfl), (tb_1 235 rfl rfl), am_na 3 - 1, rfl, by unfold am_pn; decide +kernel⟩
theorem cl_10_40 : tb_CL 10 40 6 30 := ⟨lk_30, tb_C8, rfl, (tb_4 119 rfl rfl), (tb_4 120 rfl rfl), (tb_4 121 rfl rfl), am_na 30 - 1, rfl, by unfold am_pn; decide +kernel⟩
theorem cl_10_41 : tb_CL 10 41 6 4 := ⟨lk_4, tb_C7, rfl, (tb_2 17 rfl rfl), (tb_2 18 rfl rfl), (tb_2 19 rfl rfl), am_na 4 - 1, rfl, by unfold am_pn; decide +kernel⟩
theorem cl_10_45 : tb_CL 10 45 6 31 := ⟨lk_31, tb_C8, rfl, (tb_4 127 rfl rfl), (tb_4 128 rfl rfl), (tb_4 129 rfl rfl), am_na 31 - 1, rfl, by unfold am_pn; decide +kernel⟩
theorem cl_10_46 : tb_CL 10 46 6 5 := ⟨lk_5, tb_C7, rfl, (tb_2 38 rfl rfl), (tb_2 39 rfl rfl), (tb_2 40 rfl rfl), am_na 5 - 1, rfl, by unfold am_pn; decide +kernel⟩
theorem cl_10_50 : tb_CL 10 50 6 47 := ⟨lk_47, tb_C8, rfl, (tb_4 136 rfl rfl), (tb_4 137 rfl rfl), (tb_4 138 rfl rfl), am_na 47 - 1, rfl, by unfold am_pn; decide +kernel⟩
theorem cl_10_51 : tb_CL 10 51 6 6 := ⟨lk_6, tb_C7, rfl, (tb_2 218 rfl rfl), (tb_2 219 rfl rfl), (tb_2 220 rfl rfl), am_na 6 - 1, rfl, by unfold am_pn; decide +kernel⟩
theorem cl_10_55 : tb_CL 10 55 6 50 := ⟨lk_50, tb_C8, rfl, (tb_4 205 rfl rfl), (tb_4 206 rfl rfl), (tb_4 207 rfl rfl), am_na 50 - 1, rfl, by unfold am_pn; decide +kernel⟩
theorem cl_10_56 : tb_CL 10 56 6 7 := ⟨lk_7, tb_C7, rfl, (tb_2 229 rfl rfl), (tb_2 230 rfl rfl), (tb_2 231 rfl rfl), am_na 7 - 1, rfl, by unfold am_pn; decide +kernel⟩
theorem cl_10_60 : tb_CL 10 60 6 51 := ⟨lk_51, tb_C8, rfl, (tb_4 209 rfl rfl), (tb_4 210 rfl rfl), (tb_4 211 rfl rfl), am_na 51 - 1, rfl, by unfold am_pn; decide +kernel⟩
theorem cl_10_61 : tb_CL 10 61 6 8 := ⟨lk_8, tb_C7, rfl, (tb_3 2 rfl rfl), (tb_3 3 rfl rfl), (tb_3 4 rfl rfl), am_na 8 - 1, rfl, by unfold am_pn; decide +kernel⟩
theorem cl_10_65 : tb_CL 10 65 6 56 := ⟨lk_56, tb_C8, rfl, (tb_4 223 rfl rfl), (tb_4 224 rfl rfl), (tb_4 225 rfl rfl), am_na 56 - 1, rfl, by unfold am_pn; decide +kernel⟩
theorem cl_10_66 : tb_CL 10 66 6 9 := ⟨lk_9, tb_C7, rfl, (tb_3 39 rfl rfl), (tb_3 40 rfl rfl), (tb_3 41 rfl rfl), am_na 9 - 1, rfl, by unfold am_pn; decide +kernel⟩
theorem cl_10_70 : tb_CL 10 70 6 32 := ⟨lk_32, tb_C8, rfl, (tb_4 132 rfl rfl), (tb_4 133 rfl rfl), (tb_4 134 rfl rfl), am_na 32 - 1, rfl, by unfold am_pn; decide +kernel⟩
theorem cl_10_71 : tb_CL 10 71 6 10 := ⟨lk_10, tb_C7, rfl, (tb_3 52 rfl rfl), (tb_3 53 rfl rfl), (tb_3 54 rfl rfl), am_na 10 - 1, rfl, by unfold am_pn; decide +kernel⟩
theorem cl_10_75 : tb_CL 10 75 6 49 := ⟨lk_49, tb_C8, rfl, (tb_4 197 rfl rfl), (tb_4 198 rfl rfl), (tb_4 199 rfl rfl), am_na 49 - 1, rfl, by unfold am_pn; decide +kernel⟩
theorem cl_10_76 : tb_CL 10 76 6 11 := ⟨lk_11, tb_C7, rfl, (tb_3 75 rfl rfl), (tb_3 76 rfl rfl), (tb_3 77 rfl rfl), am_na 11 - 1, rfl, by unfold am_pn; decide +kernel⟩
theorem cl_10_80 : tb_CL 10 80 6 53 := ⟨lk_53, tb_C8, rfl, (tb_4 217 rfl rfl), (tb_4 218 rfl rfl), (tb_4 219 rfl rfl), am_na 53 - 1, rfl, by unfold am_pn; decide +kernel⟩
theorem cl_10_81 : tb_CL 10 81 6 12 := ⟨lk_12, tb_C7, rfl, (tb_3 94 rfl rfl), (tb_3 95 rfl rfl), (tb_3 96 rfl rfl), am_na 12 - 1, rfl, by unfold am_pn; decide +kernel⟩
theorem cl_10_84 : tb_CL 10 84 6 58 := ⟨lk_58, tb_C8, rfl, (tb_4 237 rfl rfl), (tb_4 238 rfl rfl), (tb_4 239 rfl rfl), am_na 58 - 1, rfl, by unfold am_pn; decide +kernel⟩
theorem cl_10_85 : tb_CL 10 85 6 13 := ⟨lk_13, tb_C7, rfl, (tb_3 126 rfl rfl), (tb_3 127 rfl rfl), (tb_3 128 rfl rfl), am_na 13 - 1, rfl, by unfold am_pn; decide +kernel⟩
theorem cl_10_88 : tb_CL 10 88 6 52 := ⟨lk_52, tb_C8, rfl, (tb_4 213 rfl rfl), (tb_4 214 rfl rfl), (tb_4 215 rfl rfl), am_na 52 - 1, rfl, by unfold am_pn; decide +kernel⟩
theorem cl_10_89 : tb_CL 10 89 6 14 := ⟨lk_14, tb_C7, rfl, (tb_3 130 rfl rfl), (tb_3 131 rfl rfl), (tb_3 132 rfl rfl), am_na 14 - 1, rfl, by unfold am_pn; decide +kernel⟩
theorem cl_10_92 : tb_CL 10 92 6 59 := ⟨lk_59, tb_C8, rfl, (tb_5 4 rfl rfl), (tb_5 5 rfl rfl), (tb_5 6 rfl rfl), am_na 59 - 1, rfl, by unfold am_pn; decide +kernel⟩
set_option maxRecDepth 20000 in
theorem tb_cl : ∀ (own : Nat), ∀ q ∈ am_rmL own, tb_CL own q.1 q.2.1 q.2.2 := by
  intro own
  match own with
  | 0 =>
    exact List.forall_mem_cons.mpr ⟨cl_0_3, List.forall_mem_cons.mpr ⟨cl_0_28, List.forall_mem_cons.mpr ⟨cl_0_32, fun _ h => (List.not_mem_nil h).elim⟩⟩⟩
  | 1 =>
    exact List.forall_mem_cons.mpr ⟨cl_1_3, fun _ h => (List.not_mem_nil h).elim⟩
  | 2 =>
    exact List.forall_mem_cons.mpr ⟨cl_2_1, List.forall_mem_cons.mpr ⟨cl_2_17, List.forall_mem_cons.mpr ⟨cl_2_21, fun _ h => (List.not_mem_nil h).elim⟩⟩⟩
  | 3 =>
    exact List.forall_mem_cons.mpr ⟨cl_3_3, List.forall_mem_cons.mpr ⟨cl_3_27, List.forall_mem_cons.mpr ⟨cl_3_33, fun _ h => (List.not_mem_nil h).elim⟩⟩⟩
  | 4 =>
    exact List.forall_mem_cons.mpr ⟨cl_4_3, fun _ h => (List.not_mem_nil h).elim⟩
  | 5 =>
    exact List.forall_mem_cons.mpr ⟨cl_5_3, List.forall_mem_cons.mpr ⟨cl_5_27, List.forall_mem_cons.mpr ⟨cl_5_33, fun _ h => (List.not_mem_nil h).elim⟩⟩⟩
  | 6 =>
    exact List.forall_mem_cons.mpr ⟨cl_6_3, List.forall_mem_cons.mpr ⟨cl_6_11, List.forall_mem_cons.mpr ⟨cl_6_56, List.forall_mem_cons.mpr ⟨cl_6_62, List.forall_mem_cons.mpr ⟨cl_6_68, List.forall_mem_cons.mpr ⟨cl_6_74, List.forall_mem_cons.mpr ⟨cl_6_75, List.forall_mem_cons.mpr ⟨cl_6_79, List.forall_mem_cons.mpr ⟨cl_6_84, List.forall_mem_cons.mpr ⟨cl_6_88, List.forall_mem_cons.mpr ⟨cl_6_93, List.forall_mem_cons.mpr ⟨cl_6_97, List.forall_mem_cons.mpr ⟨cl_6_100, List.forall_mem_cons.mpr ⟨cl_6_103, List.forall_mem_cons.mpr ⟨cl_6_108, List.forall_mem_cons.mpr ⟨cl_6_112, List.forall_mem_cons.mpr ⟨cl_6_115, List.forall_mem_cons.mpr ⟨cl_6_118, List.forall_mem_cons.mpr ⟨cl_6_121, List.forall_mem_cons.mpr ⟨cl_6_125, List.forall_mem_cons.mpr ⟨cl_6_128, List.forall_mem_cons.mpr ⟨cl_6_131, List.forall_mem_cons.mpr ⟨cl_6_134, List.forall_mem_cons.mpr ⟨cl_6_138, List.forall_mem_cons.mpr ⟨cl_6_141, List.forall_mem_cons.mpr ⟨cl_6_145, List.forall_mem_cons.mpr ⟨cl_6_148, List.forall_mem_cons.mpr ⟨cl_6_152, List.forall_mem_cons.mpr ⟨cl_6_155, List.forall_mem_cons.mpr ⟨cl_6_158, List.forall_mem_cons.mpr ⟨cl_6_161, List.forall_mem_cons.mpr ⟨cl_6_164, List.forall_mem_cons.mpr ⟨cl_6_168, List.forall_mem_cons.mpr ⟨cl_6_171, List.forall_mem_cons.mpr ⟨cl_6_175, List.forall_mem_cons.mpr ⟨cl_6_179, List.forall_mem_cons.mpr ⟨cl_6_182, List.forall_mem_cons.mpr ⟨cl_6_186, List.forall_mem_cons.mpr ⟨cl_6_192, List.forall_mem_cons.mpr ⟨cl_6_196, fun _ h => (List.not_mem_nil h).elim⟩⟩⟩⟩⟩⟩⟩⟩⟩⟩⟩⟩⟩⟩⟩⟩⟩⟩⟩⟩⟩⟩⟩⟩⟩⟩⟩⟩⟩⟩⟩⟩⟩⟩⟩⟩⟩⟩⟩⟩
  | 7 =>
    exact List.forall_mem_cons.mpr ⟨cl_7_5, List.forall_mem_cons.mpr ⟨cl_7_13, List.forall_mem_cons.mpr ⟨cl_7_20, List.forall_mem_cons.mpr ⟨cl_7_27, List.forall_mem_cons.mpr ⟨cl_7_36, List.forall_mem_cons.mpr ⟨cl_7_43, List.forall_mem_cons.mpr ⟨cl_7_50, List.forall_mem_cons.mpr ⟨cl_7_72, List.forall_mem_cons.mpr ⟨cl_7_76, List.forall_mem_cons.mpr ⟨cl_7_80, List.forall_mem_cons.mpr ⟨cl_7_84, List.forall_mem_cons.mpr ⟨cl_7_92, List.forall_mem_cons.mpr ⟨cl_7_100, List.forall_mem_cons.mpr ⟨cl_7_103, List.forall_mem_cons.mpr ⟨cl_7_104, List.forall_mem_cons.mpr ⟨cl_7_108, List.forall_mem_cons.mpr ⟨cl_7_111, List.forall_mem_cons.mpr ⟨cl_7_115, List.forall_mem_cons.mpr ⟨cl_7_121, List.forall_mem_cons.mpr ⟨cl_7_125, List.forall_mem_cons.mpr ⟨cl_7_131, List.forall_mem_cons.mpr ⟨cl_7_135, List.forall_mem_cons.mpr ⟨cl_7_138, List.forall_mem_cons.mpr ⟨cl_7_141, List.forall_mem_cons.mpr ⟨cl_7_144, List.forall_mem_cons.mpr ⟨cl_7_147, List.forall_mem_cons.mpr ⟨cl_7_150, List.forall_mem_cons.mpr ⟨cl_7_153, List.forall_mem_cons.mpr ⟨cl_7_163, List.forall_mem_cons.mpr ⟨cl_7_166, List.forall_mem_cons.mpr ⟨cl_7_169, List.forall_mem_cons.mpr ⟨cl_7_173, List.forall_mem_cons.mpr ⟨cl_7_177, List.forall_mem_cons.mpr ⟨cl_7_181, List.forall_mem_cons.mpr ⟨cl_7_185, List.forall_mem_cons.mpr ⟨cl_7_189, List.forall_mem_cons.mpr ⟨cl_7_192, List.forall_mem_cons.mpr ⟨cl_7_195, List.forall_mem_cons.mpr ⟨cl_7_198, List.forall_mem_cons.mpr ⟨cl_7_199, List.forall_mem_cons.mpr ⟨cl_7_202, List.forall_mem_cons.mpr ⟨cl_7_203, List.forall_mem_cons.mpr ⟨cl_7_206, List.forall_mem_cons.mpr ⟨cl_7_209, List.forall_mem_cons.mpr ⟨cl_7_213, List.forall_mem_cons.mpr ⟨cl_7_217, List.forall_mem_cons.mpr ⟨cl_7_220, List.forall_mem_cons.mpr ⟨cl_7_224, List.forall_mem_cons.mpr ⟨cl_7_227, List.forall_mem_cons.mpr ⟨cl_7_231, List.forall_mem_cons.mpr ⟨cl_7_234, List.forall_mem_cons.mpr ⟨cl_7_237, List.forall_mem_cons.mpr ⟨cl_7_240, List.forall_mem_cons.mpr ⟨cl_7_246, List.forall_mem_cons.mpr ⟨cl_7_249, fun _ h => (List.not_mem_nil h).elim⟩⟩⟩⟩⟩⟩⟩⟩⟩⟩⟩⟩⟩⟩⟩⟩⟩⟩⟩⟩⟩⟩⟩⟩⟩⟩⟩⟩⟩⟩⟩⟩⟩⟩⟩⟩⟩⟩⟩⟩⟩⟩⟩⟩⟩⟩⟩⟩⟩⟩⟩⟩⟩⟩⟩
  | 8 =>
    exact List.forall_mem_cons.mpr ⟨cl_8_1, List.forall_mem_cons.mpr ⟨cl_8_95, List.forall_mem_cons.mpr ⟨cl_8_105, List.forall_mem_cons.mpr ⟨cl_8_116, List.forall_mem_cons.mpr ⟨cl_8_120, List.forall_mem_cons.mpr ⟨cl_8_124, List.forall_mem_cons.mpr ⟨cl_8_127, List.forall_mem_cons.mpr ⟨cl_8_134, List.forall_mem_cons.mpr ⟨cl_8_137, List.forall_mem_cons.mpr ⟨cl_8_141, List.forall_mem_cons.mpr ⟨cl_8_148, List.forall_mem_cons.mpr ⟨cl_8_157, List.forall_mem_cons.mpr ⟨cl_8_164, List.forall_mem_cons.mpr ⟨cl_8_167, List.forall_mem_cons.mpr ⟨cl_8_170, List.forall_mem_cons.mpr ⟨cl_8_178, List.forall_mem_cons.mpr ⟨cl_8_182, List.forall_mem_cons.mpr ⟨cl_8_185, List.forall_mem_cons.mpr ⟨cl_8_195, List.forall_mem_cons.mpr ⟨cl_8_199, List.forall_mem_cons.mpr ⟨cl_8_210, fun _ h => (List.not_mem_nil h).elim⟩⟩⟩⟩⟩⟩⟩⟩⟩⟩⟩⟩⟩⟩⟩⟩⟩⟩⟩⟩⟩
  | 9 =>
    exact List.forall_mem_cons.mpr ⟨cl_9_9, fun _ h => (List.not_mem_nil h).elim⟩
  | 10 =>
    exact List.forall_mem_cons.mpr ⟨cl_10_7, List.forall_mem_cons.mpr ⟨cl_10_15, List.forall_mem_cons.mpr ⟨cl_10_18, List.forall_mem_cons.mpr ⟨cl_10_21, List.forall_mem_cons.mpr ⟨cl_10_25, List.forall_mem_cons.mpr ⟨cl_10_26, List.forall_mem_cons.mpr ⟨cl_10_31, List.forall_mem_cons.mpr ⟨cl_10_32, List.forall_mem_cons.mpr ⟨cl_10_36, List.forall_mem_cons.mpr ⟨cl_10_40, List.forall_mem_cons.mpr ⟨cl_10_41, List.forall_mem_cons.mpr ⟨cl_10_45, List.forall_mem_cons.mpr ⟨cl_10_46, List.forall_mem_cons.mpr ⟨cl_10_50, List.forall_mem_cons.mpr ⟨cl_10_51, List.forall_mem_cons.mpr ⟨cl_10_55, List.forall_mem_cons.mpr ⟨cl_10_56, List.forall_mem_cons.mpr ⟨cl_10_60, List.forall_mem_cons.mpr ⟨cl_10_61, List.forall_mem_cons.mpr ⟨cl_10_65, List.forall_mem_cons.mpr ⟨cl_10_66, List.forall_mem_cons.mpr ⟨cl_10_70, List.forall_mem_cons.mpr ⟨cl_10_71, List.forall_mem_cons.mpr ⟨cl_10_75, List.forall_mem_cons.mpr ⟨cl_10_76, List.forall_mem_cons.mpr ⟨cl_10_80, List.forall_mem_cons.mpr ⟨cl_10_81, List.forall_mem_cons.mpr ⟨cl_10_84, List.forall_mem_cons.mpr ⟨cl_10_85, List.forall_mem_cons.mpr ⟨cl_10_88, List.forall_mem_cons.mpr ⟨cl_10_89, List.forall_mem_cons.mpr ⟨cl_10_92, fun _ h => (List.not_mem_nil h).elim⟩⟩⟩⟩⟩⟩⟩⟩⟩⟩⟩⟩⟩⟩⟩⟩⟩⟩⟩⟩⟩⟩⟩⟩⟩⟩⟩⟩⟩⟩⟩⟩
  | n + 11 => exact fun _ h => (List.not_mem_nil h).elim
theorem tb_rm {own x kd k : Nat} (h : am_rm own x = (kd, k)) (hk : kd ≠ 9) : tb_CL own x kd k := by
  unfold am_rm at h
  cases hl : (am_rmL own).lookup x with
  | none => rw [hl] at h; cases h; exact absurd rfl hk
  | some v =>
    rw [hl] at h
    have h : v = (kd, k) := h
    subst h
    exact tb_cl own _ (tb_lk hl)
/-- the rows of calls of the law's own street() are not among these -/
def am_FXs : Prop := ∀ own x, am_rm own x = (0, am_lst) → own = am_ow am_law
theorem tb_arr : ∀ t, t < 3 → Cond.arrayClass (am_at t) ∈ am_tbl := by
  intro t ht
  match t, ht with
  | 0, _ => exact (tb_1 78 rfl rfl)
  | 1, _ => exact (tb_4 97 rfl rfl)
  | 2, _ => exact (tb_1 43 rfl rfl)
theorem tb_FX : am_FX := by
  refine ⟨fun own x c k h => ?_, fun own x c h => ?_, tb_arr, fun own x k h hk => ?_, fun own x k h => tb_rm h (by decide), fun own x k h => tb_rm h (by decide), fun own x v h => ?_, fun own x k h => tb_rm h (by decide), (tb_1 22 rfl rfl), (tb_1 23 rfl rfl), fun own x k h => tb_rm h (by decide), fun own x k h => tb_rm h (by decide), fun own x k h => tb_rm h (by decide), fun own x k h => tb_rm h (by decide)⟩
  · exact tb_fo own _ (tb_lk h)
  · exact tb_no own _ (tb_lk h)
  · exact (show k = am_lst ∨ am_LS own x k from tb_rm h (by decide)).resolve_left hk
  · exact tb_kl own _ (tb_lk h)
theorem tb_sound (l : Launch) (D : va_G) (d k : Nat) (as : List Value) (h : am_H) (Z : Option Value → am_H → Prop) (e : am_call d k as h Z) : am_MM l D k as h Z := am_sound tb_FX (fun k hk => ⟨lk_all k hk, ck_all k hk⟩) l D d k as h Z e
