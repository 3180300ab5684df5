theorem tw_141 : (.methodLink "PageStore" 85 ⟨"PageStore", "indexIn", "(III)I"⟩ : Cond) ∈ ps_tbl := ps_t2 0 rfl rfl
theorem tw_142 : (.fieldLink "PageStore" 102 "PageStore$Values" "numbers" "LPageStore$Column;" : Cond) ∈ ps_tbl := ps_t1 69 rfl rfl
theorem tw_143 : (.fieldLink "PageStore" 99 "PageStore$Values" "kinds" "LPageStore$Column;" : Cond) ∈ ps_tbl := ps_t1 66 rfl rfl
theorem tw_144 : (.methodLink "PageStore" 105 ⟨"PageStore$Column", "put", "(II)V"⟩ : Cond) ∈ ps_tbl := ps_t2 52 rfl rfl
theorem tw_145 : (.fieldLink "PageStore" 138 "PageStore" "cursorKeyKind" "I" : Cond) ∈ ps_tbl := ps_t1 134 rfl rfl
theorem tw_146 : (.fieldLink "PageStore" 142 "PageStore" "cursorKeyNumber" "I" : Cond) ∈ ps_tbl := ps_t1 135 rfl rfl
theorem tw_147 : (.methodLink "PageStore" 148 ⟨"PageStore", "isSave", "(I)Z"⟩ : Cond) ∈ ps_tbl := ps_t2 140 rfl rfl
theorem tw_148 : (.methodLink "PageStore" 151 ⟨"PageStore", "countAtSave", "(II)I"⟩ : Cond) ∈ ps_tbl := ps_t2 15 rfl rfl
theorem tw_149 : (.instanceMethod ⟨"PageStore", "indexIn", "(III)I"⟩ : Cond) ∈ ps_tbl := ps_t2 2 rfl rfl
theorem tw_150 : (.selects "PageStore" ⟨"PageStore", "indexIn", "(III)I"⟩ ⟨"PageStore", "indexIn", "(III)I"⟩ : Cond) ∈ ps_tbl := ps_ts (y := ⟨"PageStore", "indexIn", "(III)I"⟩) (n := 10) 3 rfl rfl
theorem tw_151 : (.code ⟨"PageStore", "indexIn", "(III)I"⟩ prog_1_method_30_code 4 (some .int) : Cond) ∈ ps_tbl := ps_t2 3 rfl rfl
theorem tw_152 : (.instanceMethod ⟨"PageStore", "isSave", "(I)Z"⟩ : Cond) ∈ ps_tbl := ps_t2 142 rfl rfl
theorem tw_153 : (.selects "PageStore" ⟨"PageStore", "isSave", "(I)Z"⟩ ⟨"PageStore", "isSave", "(I)Z"⟩ : Cond) ∈ ps_tbl := ps_ts (y := ⟨"PageStore", "isSave", "(I)Z"⟩) (n := 10) 13 rfl rfl
theorem tw_154 : (.code ⟨"PageStore", "isSave", "(I)Z"⟩ prog_1_method_27_code 2 (some .boolean) : Cond) ∈ ps_tbl := ps_t2 143 rfl rfl
theorem tw_155 : (.instanceMethod ⟨"PageStore", "countAtSave", "(II)I"⟩ : Cond) ∈ ps_tbl := ps_t2 17 rfl rfl
theorem tw_156 : (.selects "PageStore" ⟨"PageStore", "countAtSave", "(II)I"⟩ ⟨"PageStore", "countAtSave", "(II)I"⟩ : Cond) ∈ ps_tbl := ps_ts (y := ⟨"PageStore", "countAtSave", "(II)I"⟩) (n := 10) 6 rfl rfl
theorem tw_157 : (.code ⟨"PageStore", "countAtSave", "(II)I"⟩ prog_1_method_33_code 3 (some .int) : Cond) ∈ ps_tbl := ps_t2 18 rfl rfl
theorem k_PS_indexIn : ps_cdV ps_tbl y_PS_indexIn prog_1_method_30_code 4 (some .int) := ⟨tw_149, tw_150, tw_108, tw_151⟩
theorem k_PS_isSave : ps_cdV ps_tbl y_PS_isSave prog_1_method_27_code 2 (some .boolean) := ⟨tw_152, tw_153, tw_108, tw_154⟩
theorem k_PS_countAtSave : ps_cdV ps_tbl y_PS_countAtSave prog_1_method_33_code 3 (some .int) := ⟨tw_155, tw_156, tw_108, tw_157⟩
set_option maxHeartbeats 4000000 in
set_option maxRecDepth 100000 in
/-- PageStore.number -/
theorem c_number (l : Launch) (dC : Nat → ClassId) (dI : Nat → Nat → Nat) (cI : ClassId) (tys : List (ClassId × FieldType)) (ht : tys[0]? = some (cI, FieldType.int)) (a q K : Nat → Nat) (S : Nat) (ck cu : Int32) (F : Nat → Nat → Int32) (N : Nat → Nat) (hw : ps_wf F N) (hKb : ∀ j, K j ≤ 65536) (hSb : S ≤ 15) (row place : Int32) (hrw : ps_rows K F) : ps_mI classes l y_PS_number w_PS_number ({ frames := 2, cells := 0, slots := 0, locals := 44 }) (dC, dI) tys [.ref (a 0), .int row, .int place] (pw cI a q K S ck cu F N) (fun r u => u = pw cI a q K S ck cu F N ∧ ps_c (ps_ok K F (nI 1) row place) (r = F 3 (ps_ix F row place)) (r = 0)) := by
  refine ps_mI_of (by decide) rfl (Nat.le_of_ble_eq_true rfl) ?_
  intro p e s m below meth c A ls C0 hA hK hP hD hS hl
  obtain ⟨hx, hb, hr, hml, hts, hown, hlocks, hin⟩ := C0
  have hl : lv_has ls 4 [(0, .ref (a 0)), (1, .int row), (2, .int place)] := hl
  have hP : va_P (dC, dI) classes (pw cI a q K S ck cu F N) s.heap := hP
  have hD : va_D A (pw cI a q K S ck cu F N) := hD
  refine lv_aload_n hx hb d_PS_number_0 rfl (lv_at hl 0 rfl) ?_
  refine lv_iconst (v := nI 1) hx hb d_PS_number_1 (by decide) ?_
  refine lv_iload_n hx hb d_PS_number_2 rfl (lv_at hl 1 rfl) ?_
  refine lv_iload_n hx hb d_PS_number_3 rfl (lv_at hl 2 rfl) ?_
  refine ps_readI (wc := (pw cI a q K S ck cu F N)) hP hD hS hA [0, 1, 2, 3, 4, 5, 6, 7, 8, 9, 10, 11, 12, 13, 14, 15, 16, 17, 18, 19, 20, 21, 22, 23, 24, 25, 26, 27, 28, 29, 30, 31, 32, 33, 34, 35, 36, 37, 38, 39] rfl (fun _ _ h => h.1) (ps_runVI ⟨hx, hb, hml, hown, hts⟩ (c_ixin l dC dI cI tys ht a q K S ck cu F N hw hKb hSb (nI 1) row place) (ps_cwV ps_gd 3 hts tw_141 k_PS_indexIn e_PS_indexIn ⟨Nat.le_of_ble_eq_true rfl, Nat.le_of_ble_eq_true rfl⟩) hK hP hD [0, 1, 2, 3, 4, 5, 6, 7, 8, 9, 10, 11, 12, 13, 14, 15, 16, 17, 18, 19, 20, 21, 22, 23, 24, 25, 26, 27, 28, 29, 30, 31, 32, 33, 34, 35, 36, 37, 38, 39] (by decide) rfl 0 cPS rfl rfl rfl hl.1 rfl (Nat.le_of_ble_eq_true rfl) d_PS_number_4 ⟨Nat.zero_le _, Nat.zero_le _⟩) (fun r_1 H locs hr_1 hP hS => ?_)
  obtain ⟨-, hr_1⟩ := hr_1
  rcases hr_1 with ⟨hcr_1, hr_1⟩ | ⟨hcr_1, hr_1⟩
  · obtain ⟨eix, hix⟩ := ps_ok_ix hKb hrw (Or.inl rfl) hcr_1
    rw [eix] at hr_1
    subst hr_1
    have hix31 : ps_ix F row place < 2 ^ 31 := by have b1 := hKb 1; omega
    refine lv_istore_n (lv' := [(3, .int (nI (ps_ix F row place))), (0, .ref (a 0)), (1, .int row), (2, .int place)]) hx hb d_PS_number_7 rfl hl (by decide) rfl (fun ls hl => ?_)
    refine lv_iload_n hx hb d_PS_number_8 rfl (lv_at hl 0 rfl) ?_
    refine lv_iconst (v := (-1)) hx hb d_PS_number_9 (by decide) ?_
    refine lv_icmp_ne (tgt := 17) hx hb d_PS_number_10 (by decide) (fun c_2 => ?_) (fun c_2 => ?_)
    · refine lv_aload_n hx hb d_PS_number_17 rfl (lv_at hl 1 rfl) ?_
      refine va_get (D := (dC, dI)) (ci := cPS) (v := .ref (a 3)) (C := R_PS) (T := F_PS) (N := 10) hx hb hts i_PS hown hK hP 0 rfl rfl 4 (by decide) (hts _ tw_103) (fun _ h9 => h9) rfl d_PS_number_18 ?_
      refine va_get (D := (dC, dI)) (ci := cVal) (v := .ref (a 11)) (C := R_Val) (T := F_Val) (N := 2) hx hb hts i_Val hown hK hP 3 rfl rfl 1 (by decide) (hts _ tw_142) (fun _ h9 => h9) rfl d_PS_number_21 ?_
      refine lv_iload_n hx hb d_PS_number_24 rfl (lv_at hl 0 rfl) ?_
      refine ps_readI (wc := [(a 11, .inr (cCol, [.int (nI 32768), .ref (q 3)])), (q 3, .inl (cI, N 3, .inl (F 3)))]) hP hD hS hA [14, 15] rfl (fun _ _ h => h.1) (ps_runVI ⟨hx, hb, hml, hown, hts⟩ (c_at l dC dI cI tys ht (a 11) (q 3) 32768 (N 3) (F 3) (ps_ix F row place) (hw.z 3 (by decide)) (hw.n 3 (by decide)) hix31) (ps_cwV ps_gd 1 hts tw_102 k_Col_at e_Col_at ⟨Nat.le_of_ble_eq_true rfl, Nat.le_of_ble_eq_true rfl⟩) hK hP hD [14, 15] (by decide) rfl 0 cCol rfl rfl rfl hl.1 rfl (Nat.le_of_ble_eq_true rfl) d_PS_number_25 ⟨Nat.zero_le _, Nat.zero_le _⟩) (fun r_3 H locs hr_3 hP hS => ?_)
      obtain ⟨-, hr_3⟩ := hr_3
      subst hr_3
      exact ps_iret hx hb hr hlocks hK hP hD hS (Nat.le_of_ble_eq_true rfl) (Nat.le_of_ble_eq_true rfl) d_PS_number_28 (⟨rfl, ps_cy hcr_1 rfl⟩)
    · exact absurd c_2 (ps_m1 hix31)
  · subst hr_1
    refine lv_istore_n (lv' := [(3, .int (-1)), (0, .ref (a 0)), (1, .int row), (2, .int place)]) hx hb d_PS_number_7 rfl hl (by decide) rfl (fun ls hl => ?_)
    refine lv_iload_n hx hb d_PS_number_8 rfl (lv_at hl 0 rfl) ?_
    refine lv_iconst (v := (-1)) hx hb d_PS_number_9 (by decide) ?_
    refine lv_icmp_ne (tgt := 17) hx hb d_PS_number_10 (by decide) (fun c_4 => ?_) (fun c_4 => ?_)
    · exact absurd rfl c_4
    · refine lv_iconst (v := 0) hx hb d_PS_number_13 (by decide) ?_
      refine lv_goto (tgt := 28) hx hb d_PS_number_14 (by decide) ?_
      exact ps_iret hx hb hr hlocks hK hP hD hS (Nat.le_of_ble_eq_true rfl) (Nat.le_of_ble_eq_true rfl) d_PS_number_28 (⟨rfl, ps_cn hcr_1 rfl⟩)

set_option maxHeartbeats 4000000 in
set_option maxRecDepth 100000 in
/-- PageStore.get -/
theorem c_get (l : Launch) (dC : Nat → ClassId) (dI : Nat → Nat → Nat) (cI : ClassId) (tys : List (ClassId × FieldType)) (ht : tys[0]? = some (cI, FieldType.int)) (a q K : Nat → Nat) (S : Nat) (ck cu : Int32) (F : Nat → Nat → Int32) (N : Nat → Nat) (hw : ps_wf F N) (hKb : ∀ j, K j ≤ 65536) (hSb : S ≤ 15) (row place : Int32) (hrw : ps_rows K F) : ps_mI classes l y_PS_get w_PS_get ({ frames := 2, cells := 0, slots := 0, locals := 44 }) (dC, dI) tys [.ref (a 0), .int row, .int place] (pw cI a q K S ck cu F N) (fun r u => u = pw cI a q K S ck cu F N ∧ ps_c (ps_ok K F (nI 1) row place) (r = F 2 (ps_ix F row place)) (ps_c (ps_ok K F (nI 2) row place) (r = F 1 (ps_ix F row place)) (r = -1))) := by
  refine ps_mI_of (by decide) rfl (Nat.le_of_ble_eq_true rfl) ?_
  intro p e s m below meth c A ls C0 hA hK hP hD hS hl
  obtain ⟨hx, hb, hr, hml, hts, hown, hlocks, hin⟩ := C0
  have hl : lv_has ls 4 [(0, .ref (a 0)), (1, .int row), (2, .int place)] := hl
  have hP : va_P (dC, dI) classes (pw cI a q K S ck cu F N) s.heap := hP
  have hD : va_D A (pw cI a q K S ck cu F N) := hD
  refine lv_aload_n hx hb d_PS_get_0 rfl (lv_at hl 0 rfl) ?_
  refine lv_iconst (v := nI 1) hx hb d_PS_get_1 (by decide) ?_
  refine lv_iload_n hx hb d_PS_get_2 rfl (lv_at hl 1 rfl) ?_
  refine lv_iload_n hx hb d_PS_get_3 rfl (lv_at hl 2 rfl) ?_
  refine ps_readI (wc := (pw cI a q K S ck cu F N)) hP hD hS hA [0, 1, 2, 3, 4, 5, 6, 7, 8, 9, 10, 11, 12, 13, 14, 15, 16, 17, 18, 19, 20, 21, 22, 23, 24, 25, 26, 27, 28, 29, 30, 31, 32, 33, 34, 35, 36, 37, 38, 39] rfl (fun _ _ h => h.1) (ps_runVI ⟨hx, hb, hml, hown, hts⟩ (c_ixin l dC dI cI tys ht a q K S ck cu F N hw hKb hSb (nI 1) row place) (ps_cwV ps_gd 3 hts tw_141 k_PS_indexIn e_PS_indexIn ⟨Nat.le_of_ble_eq_true rfl, Nat.le_of_ble_eq_true rfl⟩) hK hP hD [0, 1, 2, 3, 4, 5, 6, 7, 8, 9, 10, 11, 12, 13, 14, 15, 16, 17, 18, 19, 20, 21, 22, 23, 24, 25, 26, 27, 28, 29, 30, 31, 32, 33, 34, 35, 36, 37, 38, 39] (by decide) rfl 0 cPS rfl rfl rfl hl.1 rfl (Nat.le_of_ble_eq_true rfl) d_PS_get_4 ⟨Nat.zero_le _, Nat.zero_le _⟩) (fun r_1 H locs hr_1 hP hS => ?_)
  obtain ⟨-, hr_1⟩ := hr_1
  rcases hr_1 with ⟨hcr_1, hr_1⟩ | ⟨hcr_1, hr_1⟩
  · obtain ⟨eix, hix⟩ := ps_ok_ix hKb hrw (Or.inl rfl) hcr_1
    rw [eix] at hr_1
    subst hr_1
    have hix31 : ps_ix F row place < 2 ^ 31 := by have b1 := hKb 1; omega
    refine lv_istore_n (lv' := [(3, .int (nI (ps_ix F row place))), (0, .ref (a 0)), (1, .int row), (2, .int place)]) hx hb d_PS_get_7 rfl hl (by decide) rfl (fun ls hl => ?_)
    refine lv_iload_n hx hb d_PS_get_8 rfl (lv_at hl 0 rfl) ?_
    refine lv_iconst (v := (-1)) hx hb d_PS_get_9 (by decide) ?_
    refine lv_icmp_eq (tgt := 25) hx hb d_PS_get_10 (by decide) (fun c_2 => ?_) (fun c_2 => ?_)
    · exact absurd c_2 (ps_m1 hix31)
    · refine lv_aload_n hx hb d_PS_get_13 rfl (lv_at hl 1 rfl) ?_
      refine va_get (D := (dC, dI)) (ci := cPS) (v := .ref (a 3)) (C := R_PS) (T := F_PS) (N := 10) hx hb hts i_PS hown hK hP 0 rfl rfl 4 (by decide) (hts _ tw_103) (fun _ h9 => h9) rfl d_PS_get_14 ?_
      refine va_get (D := (dC, dI)) (ci := cVal) (v := .ref (a 10)) (C := R_Val) (T := F_Val) (N := 2) hx hb hts i_Val hown hK hP 3 rfl rfl 0 (by decide) (hts _ tw_143) (fun _ h9 => h9) rfl d_PS_get_17 ?_
      refine lv_iload_n hx hb d_PS_get_20 rfl (lv_at hl 0 rfl) ?_
      refine ps_readI (wc := [(a 10, .inr (cCol, [.int (nI 32768), .ref (q 2)])), (q 2, .inl (cI, N 2, .inl (F 2)))]) hP hD hS hA [12, 13] rfl (fun _ _ h => h.1) (ps_runVI ⟨hx, hb, hml, hown, hts⟩ (c_at l dC dI cI tys ht (a 10) (q 2) 32768 (N 2) (F 2) (ps_ix F row place) (hw.z 2 (by decide)) (hw.n 2 (by decide)) hix31) (ps_cwV ps_gd 1 hts tw_102 k_Col_at e_Col_at ⟨Nat.le_of_ble_eq_true rfl, Nat.le_of_ble_eq_true rfl⟩) hK hP hD [12, 13] (by decide) rfl 0 cCol rfl rfl rfl hl.1 rfl (Nat.le_of_ble_eq_true rfl) d_PS_get_21 ⟨Nat.zero_le _, Nat.zero_le _⟩) (fun r_3 H locs hr_3 hP hS => ?_)
      obtain ⟨-, hr_3⟩ := hr_3
      subst hr_3
      exact ps_iret hx hb hr hlocks hK hP hD hS (Nat.le_of_ble_eq_true rfl) (Nat.le_of_ble_eq_true rfl) d_PS_get_24 (⟨rfl, ps_cy hcr_1 rfl⟩)
  · subst hr_1
    refine lv_istore_n (lv' := [(3, .int (-1)), (0, .ref (a 0)), (1, .int row), (2, .int place)]) hx hb d_PS_get_7 rfl hl (by decide) rfl (fun ls hl => ?_)
    refine lv_iload_n hx hb d_PS_get_8 rfl (lv_at hl 0 rfl) ?_
    refine lv_iconst (v := (-1)) hx hb d_PS_get_9 (by decide) ?_
    refine lv_icmp_eq (tgt := 25) hx hb d_PS_get_10 (by decide) (fun c_4 => ?_) (fun c_4 => ?_)
    · refine lv_aload_n hx hb d_PS_get_25 rfl (lv_at hl 1 rfl) ?_
      refine lv_iconst (v := nI 2) hx hb d_PS_get_26 (by decide) ?_
      refine lv_iload_n hx hb d_PS_get_27 rfl (lv_at hl 2 rfl) ?_
      refine lv_iload_n hx hb d_PS_get_28 rfl (lv_at hl 3 rfl) ?_
      refine ps_readI (wc := (pw cI a q K S ck cu F N)) hP hD hS hA [0, 1, 2, 3, 4, 5, 6, 7, 8, 9, 10, 11, 12, 13, 14, 15, 16, 17, 18, 19, 20, 21, 22, 23, 24, 25, 26, 27, 28, 29, 30, 31, 32, 33, 34, 35, 36, 37, 38, 39] rfl (fun _ _ h => h.1) (ps_runVI ⟨hx, hb, hml, hown, hts⟩ (c_ixin l dC dI cI tys ht a q K S ck cu F N hw hKb hSb (nI 2) row place) (ps_cwV ps_gd 3 hts tw_141 k_PS_indexIn e_PS_indexIn ⟨Nat.le_of_ble_eq_true rfl, Nat.le_of_ble_eq_true rfl⟩) hK hP hD [0, 1, 2, 3, 4, 5, 6, 7, 8, 9, 10, 11, 12, 13, 14, 15, 16, 17, 18, 19, 20, 21, 22, 23, 24, 25, 26, 27, 28, 29, 30, 31, 32, 33, 34, 35, 36, 37, 38, 39] (by decide) rfl 0 cPS rfl rfl rfl hl.1 rfl (Nat.le_of_ble_eq_true rfl) d_PS_get_29 ⟨Nat.zero_le _, Nat.zero_le _⟩) (fun r_5 H locs hr_5 hP hS => ?_)
      obtain ⟨-, hr_5⟩ := hr_5
      rcases hr_5 with ⟨hcr_5, hr_5⟩ | ⟨hcr_5, hr_5⟩
      · obtain ⟨eix, hix⟩ := ps_ok_ix hKb hrw (Or.inr rfl) hcr_5
        rw [eix] at hr_5
        subst hr_5
        have hix31 : ps_ix F row place < 2 ^ 31 := by have b1 := hKb 2; omega
        refine lv_istore_n (lv' := [(3, .int (nI (ps_ix F row place))), (0, .ref (a 0)), (1, .int row), (2, .int place)]) hx hb d_PS_get_32 rfl hl (by decide) rfl (fun ls hl => ?_)
        refine lv_iload_n hx hb d_PS_get_33 rfl (lv_at hl 0 rfl) ?_
        refine lv_iconst (v := (-1)) hx hb d_PS_get_34 (by decide) ?_
        refine lv_icmp_ne (tgt := 42) hx hb d_PS_get_35 (by decide) (fun c_6 => ?_) (fun c_6 => ?_)
        · refine lv_aload_n hx hb d_PS_get_42 rfl (lv_at hl 1 rfl) ?_
          refine va_get (D := (dC, dI)) (ci := cPS) (v := .ref (a 9)) (C := R_PS) (T := F_PS) (N := 10) hx hb hts i_PS hown hK hP 0 rfl rfl 5 (by decide) (hts _ tw_123) (fun _ h9 => h9) rfl d_PS_get_43 ?_
          refine lv_iload_n hx hb d_PS_get_46 rfl (lv_at hl 0 rfl) ?_
          refine ps_readI (wc := [(a 9, .inr (cCol, [.int (nI 65536), .ref (q 1)])), (q 1, .inl (cI, N 1, .inl (F 1)))]) hP hD hS hA [10, 11] rfl (fun _ _ h => h.1) (ps_runVI ⟨hx, hb, hml, hown, hts⟩ (c_at l dC dI cI tys ht (a 9) (q 1) 65536 (N 1) (F 1) (ps_ix F row place) (hw.z 1 (by decide)) (hw.n 1 (by decide)) hix31) (ps_cwV ps_gd 1 hts tw_102 k_Col_at e_Col_at ⟨Nat.le_of_ble_eq_true rfl, Nat.le_of_ble_eq_true rfl⟩) hK hP hD [10, 11] (by decide) rfl 0 cCol rfl rfl rfl hl.1 rfl (Nat.le_of_ble_eq_true rfl) d_PS_get_47 ⟨Nat.zero_le _, Nat.zero_le _⟩) (fun r_7 H locs hr_7 hP hS => ?_)
          obtain ⟨-, hr_7⟩ := hr_7
          subst hr_7
          exact ps_iret hx hb hr hlocks hK hP hD hS (Nat.le_of_ble_eq_true rfl) (Nat.le_of_ble_eq_true rfl) d_PS_get_50 (⟨rfl, ps_cn hcr_1 (ps_cy hcr_5 rfl)⟩)
        · exact absurd c_6 (ps_m1 hix31)
      · subst hr_5
        refine lv_istore_n (lv' := [(3, .int (-1)), (0, .ref (a 0)), (1, .int row), (2, .int place)]) hx hb d_PS_get_32 rfl hl (by decide) rfl (fun ls hl => ?_)
        refine lv_iload_n hx hb d_PS_get_33 rfl (lv_at hl 0 rfl) ?_
        refine lv_iconst (v := (-1)) hx hb d_PS_get_34 (by decide) ?_
        refine lv_icmp_ne (tgt := 42) hx hb d_PS_get_35 (by decide) (fun c_8 => ?_) (fun c_8 => ?_)
        · exact absurd rfl c_8
        · refine lv_iconst (v := (-1)) hx hb d_PS_get_38 (by decide) ?_
          refine lv_goto (tgt := 50) hx hb d_PS_get_39 (by decide) ?_
          exact ps_iret hx hb hr hlocks hK hP hD hS (Nat.le_of_ble_eq_true rfl) (Nat.le_of_ble_eq_true rfl) d_PS_get_50 (⟨rfl, ps_cn hcr_1 (ps_cn hcr_5 rfl)⟩)
    · exact absurd rfl c_4

set_option maxHeartbeats 4000000 in
set_option maxRecDepth 100000 in
/-- PageStore.setByte -/
theorem c_setByte (l : Launch) (dC : Nat → ClassId) (dI : Nat → Nat → Nat) (cI : ClassId) (tys : List (ClassId × FieldType)) (ht : tys[0]? = some (cI, FieldType.int)) (a q K : Nat → Nat) (S : Nat) (ck cu : Int32) (F : Nat → Nat → Int32) (N : Nat → Nat) (hw : ps_wf F N) (hKb : ∀ j, K j ≤ 65536) (hSb : S ≤ 15) (row place b : Int32) (hrw : ps_rows K F) (hk2 : K 2 ≤ 65536) (mc ms : Nat) (hm : ps_ok K F (nI 2) row place → ps_dc 65536 (N 1) (ps_ix F row place) ≤ mc ∧ ps_ds 65536 (N 1) (ps_ix F row place) ≤ ms) : ps_mI classes l y_PS_setByte w_PS_setByte ({ frames := 3, cells := mc, slots := ms, locals := 63 }) (dC, dI) tys [.ref (a 0), .int row, .int place, .int b] (pw cI a q K S ck cu F N) (fun r u => ps_c (ps_ok K F (nI 2) row place) (∃ q1 : Nat → Nat, r = 1 ∧ u = pw cI a q1 K S ck cu (ps_u F 1 (ps_ix F row place) (b &&& nI 255)) (ps_g N 1 (ps_ix F row place))) (r = -1 ∧ u = pw cI a q K S ck cu F N)) := by
  have b2x := hKb 2
  refine ps_mI_of (by decide) rfl (Nat.le_of_ble_eq_true rfl) ?_
  intro p e s m below meth c A ls C0 hA hK hP hD hS hl
  obtain ⟨hx, hb, hr, hml, hts, hown, hlocks, hin⟩ := C0
  have hl : lv_has ls 5 [(0, .ref (a 0)), (1, .int row), (2, .int place), (3, .int b)] := hl
  have hP : va_P (dC, dI) classes (pw cI a q K S ck cu F N) s.heap := hP
  have hD : va_D A (pw cI a q K S ck cu F N) := hD
  refine lv_aload_n hx hb d_PS_setByte_0 rfl (lv_at hl 0 rfl) ?_
  refine lv_iconst (v := nI 2) hx hb d_PS_setByte_1 (by decide) ?_
  refine lv_iload_n hx hb d_PS_setByte_2 rfl (lv_at hl 1 rfl) ?_
  refine lv_iload_n hx hb d_PS_setByte_3 rfl (lv_at hl 2 rfl) ?_
  refine ps_readI (wc := (pw cI a q K S ck cu F N)) hP hD hS hA [0, 1, 2, 3, 4, 5, 6, 7, 8, 9, 10, 11, 12, 13, 14, 15, 16, 17, 18, 19, 20, 21, 22, 23, 24, 25, 26, 27, 28, 29, 30, 31, 32, 33, 34, 35, 36, 37, 38, 39] rfl (fun _ _ h => h.1) (ps_runVI ⟨hx, hb, hml, hown, hts⟩ (c_ixin l dC dI cI tys ht a q K S ck cu F N hw hKb hSb (nI 2) row place) (ps_cwV ps_gd 3 hts tw_141 k_PS_indexIn e_PS_indexIn ⟨Nat.le_of_ble_eq_true rfl, Nat.le_of_ble_eq_true rfl⟩) hK hP hD [0, 1, 2, 3, 4, 5, 6, 7, 8, 9, 10, 11, 12, 13, 14, 15, 16, 17, 18, 19, 20, 21, 22, 23, 24, 25, 26, 27, 28, 29, 30, 31, 32, 33, 34, 35, 36, 37, 38, 39] (by decide) rfl 0 cPS rfl rfl rfl hl.1 rfl (Nat.le_of_ble_eq_true rfl) d_PS_setByte_4 ⟨Nat.zero_le _, Nat.zero_le _⟩) (fun r_1 H locs hr_1 hP hS => ?_)
  obtain ⟨-, hr_1⟩ := hr_1
  rcases hr_1 with ⟨hcr_1, hr_1⟩ | ⟨hcr_1, hr_1⟩
  · obtain ⟨eix, hix⟩ := ps_ok_ix hKb hrw (Or.inr rfl) hcr_1
    rw [eix] at hr_1
    subst hr_1
    have hix31 : ps_ix F row place < 2 ^ 31 := by have b1 := hKb 2; omega
    refine lv_istore (lv' := [(4, .int (nI (ps_ix F row place))), (0, .ref (a 0)), (1, .int row), (2, .int place), (3, .int b)]) hx hb d_PS_setByte_7 hl (by decide) rfl (fun ls hl => ?_)
    refine lv_iload hx hb d_PS_setByte_9 (lv_at hl 0 rfl) ?_
    refine lv_iconst (v := (-1)) hx hb d_PS_setByte_11 (by decide) ?_
    refine lv_icmp_ne (tgt := 17) hx hb d_PS_setByte_12 (by decide) (fun c_2 => ?_) (fun c_2 => ?_)
    · refine lv_aload_n hx hb d_PS_setByte_17 rfl (lv_at hl 1 rfl) ?_
      refine va_get (D := (dC, dI)) (ci := cPS) (v := .ref (a 9)) (C := R_PS) (T := F_PS) (N := 10) hx hb hts i_PS hown hK hP 0 rfl rfl 5 (by decide) (hts _ tw_123) (fun _ h9 => h9) rfl d_PS_setByte_18 ?_
      refine lv_iload hx hb d_PS_setByte_21 (lv_at hl 0 rfl) ?_
      refine lv_iload_n hx hb d_PS_setByte_23 rfl (lv_at hl 4 rfl) ?_
      refine lv_sipush (v := nI 255) hx hb d_PS_setByte_24 (by decide) ?_
      refine lv_iand hx hb d_PS_setByte_27 ?_
      refine ps_afterV (wc := [(a 9, .inr (cCol, [.int (nI 65536), .ref (q 1)])), (q 1, .inl (cI, N 1, .inl (F 1)))]) (wr := [0, 1, 2, 3, 4, 5, 6, 7, 8, 9, 12, 13, 14, 15, 16, 17, 18, 19, 20, 21, 22, 23, 24, 25, 26, 27, 28, 29, 30, 31, 32, 33, 34, 35, 36, 37, 38, 39].filterMap (fun z9 => ((pw cI a q K S ck cu F N) : va_W)[z9]?)) hP hD hS hA [10, 11] [0, 1, 2, 3, 4, 5, 6, 7, 8, 9, 12, 13, 14, 15, 16, 17, 18, 19, 20, 21, 22, 23, 24, 25, 26, 27, 28, 29, 30, 31, 32, 33, 34, 35, 36, 37, 38, 39] rfl rfl (by decide) (by decide) (ps_runVV ⟨hx, hb, hml, hown, hts⟩ (c_put l dC dI cI tys ht (a 9) (q 1) 65536 (N 1) (F 1) (ps_ix F row place) (b &&& (nI 255)) (hw.z 1 (by decide)) (by decide) (hw 1 (by decide)).2 (by have b2 := hKb 2; omega)) (ps_cwV ps_gd 2 hts tw_144 k_Col_put e_Col_put ⟨Nat.le_of_ble_eq_true rfl, Nat.le_of_ble_eq_true rfl⟩) hK hP hD [10, 11] (by decide) rfl 0 cCol rfl rfl rfl hl.1 rfl (Nat.le_of_ble_eq_true rfl) d_PS_setByte_28 ⟨by have h1 := hm hcr_1; show 0 + 0 + ps_dc 65536 (N 1) (ps_ix F row place) ≤ mc; omega, by have h1 := hm hcr_1; show 0 + 0 + ps_ds 65536 (N 1) (ps_ix F row place) ≤ ms; omega⟩) (fun u_3 H locs hu_3 hP hD hS => ?_)
      obtain ⟨q_5, hu_3⟩ := hu_3
      subst hu_3
      obtain ⟨hP, hD⟩ := ps_perm (ws' := (pw cI a (va_up q 1 q_5) K S ck cu (va_up F 1 (upd (F 1) (ps_ix F row place) (b &&& (nI 255)))) (va_up N 1 (ps_len 65536 (N 1) (ps_ix F row place))))) hP hD [0, 1, 2, 3, 4, 5, 6, 7, 8, 9, 38, 39, 10, 11, 12, 13, 14, 15, 16, 17, 18, 19, 20, 21, 22, 23, 24, 25, 26, 27, 28, 29, 30, 31, 32, 33, 34, 35, 36, 37] (by decide) rfl
      refine lv_iconst (v := 1) hx hb d_PS_setByte_31 (by decide) ?_
      exact ps_iret hx hb hr hlocks hK hP hD hS (by have h1 := hm hcr_1; show 0 + 0 + ps_dc 65536 (N 1) (ps_ix F row place) ≤ mc; omega) (by have h1 := hm hcr_1; show 0 + 0 + ps_ds 65536 (N 1) (ps_ix F row place) ≤ ms; omega) d_PS_setByte_32 (ps_cy hcr_1 ⟨(va_up q 1 q_5), rfl, rfl⟩)
    · exact absurd c_2 (ps_m1 hix31)
  · subst hr_1
    refine lv_istore (lv' := [(4, .int (-1)), (0, .ref (a 0)), (1, .int row), (2, .int place), (3, .int b)]) hx hb d_PS_setByte_7 hl (by decide) rfl (fun ls hl => ?_)
    refine lv_iload hx hb d_PS_setByte_9 (lv_at hl 0 rfl) ?_
    refine lv_iconst (v := (-1)) hx hb d_PS_setByte_11 (by decide) ?_
    refine lv_icmp_ne (tgt := 17) hx hb d_PS_setByte_12 (by decide) (fun c_6 => ?_) (fun c_6 => ?_)
    · exact absurd rfl c_6
    · refine lv_iconst (v := (-1)) hx hb d_PS_setByte_15 (by decide) ?_
      exact ps_iret hx hb hr hlocks hK hP hD hS (Nat.zero_le _) (Nat.zero_le _) d_PS_setByte_16 (ps_cn hcr_1 ⟨rfl, rfl⟩)

set_option maxHeartbeats 4000000 in
set_option maxRecDepth 100000 in
/-- PageStore.dictionary -/
theorem c_dictionary (l : Launch) (dC : Nat → ClassId) (dI : Nat → Nat → Nat) (cI : ClassId) (tys : List (ClassId × FieldType)) (ht : tys[0]? = some (cI, FieldType.int)) (a q K : Nat → Nat) (S : Nat) (ck cu : Int32) (F : Nat → Nat → Int32) (N : Nat → Nat) (hw : ps_wf F N) (hKb : ∀ j, K j ≤ 65536) (hSb : S ≤ 15) : ps_mI classes l y_PS_dictionary w_PS_dictionary ({ frames := 0, cells := 0, slots := 0, locals := 0 }) (dC, dI) tys [.ref (a 0)] (pw cI a q K S ck cu F N) (fun r u => ps_c (1024 ≤ K 3) (r = -3 ∧ u = pw cI a q K S ck cu F N) (r = nI (K 3 + 1) ∧ u = pw cI a q (va_up K 3 (K 3 + 1)) S ck cu F N)) := by
  refine ps_mI_of (by decide) rfl (Nat.le_of_ble_eq_true rfl) ?_
  intro p e s m below meth c A ls C0 hA hK hP hD hS hl
  obtain ⟨hx, hb, hr, hml, hts, hown, hlocks, hin⟩ := C0
  have hl : lv_has ls 1 [(0, .ref (a 0))] := hl
  have hP : va_P (dC, dI) classes (pw cI a q K S ck cu F N) s.heap := hP
  have hD : va_D A (pw cI a q K S ck cu F N) := hD
  refine lv_aload_n hx hb d_PS_dictionary_0 rfl (lv_at hl 0 rfl) ?_
  refine va_get (D := (dC, dI)) (ci := cPS) (v := .ref (a 1)) (C := R_PS) (T := F_PS) (N := 10) hx hb hts i_PS hown hK hP 0 rfl rfl 0 (by decide) (hts _ tw_97) (fun _ h9 => h9) rfl d_PS_dictionary_1 ?_
  refine lv_iconst (v := nI 3) hx hb d_PS_dictionary_4 (by decide) ?_
  refine va_iald hx hb hK hP 1 0 rfl ht (vp_in_nI (show 3 < 6 by decide) (by decide)) d_PS_dictionary_5 ?_
  refine ps_top (z := nI (K 3)) (ps_kat _ 3 (by decide)) ?_
  refine lv_sipush (v := nI 1024) hx hb d_PS_dictionary_6 (by decide) ?_
  refine lv_icmp_lt (tgt := 15) hx hb d_PS_dictionary_9 (by decide) (fun c_1 => ?_) (fun c_1 => ?_)
  · have c_1 : K 3 < 1024 := (nI_ltI (by have h0 := hKb 0; have h1 := hKb 1; have h2 := hKb 2; have h3 := hKb 3; have h4 := hKb 4; have h5 := hKb 5; omega) (by have h0 := hKb 0; have h1 := hKb 1; have h2 := hKb 2; have h3 := hKb 3; have h4 := hKb 4; have h5 := hKb 5; omega)).mp c_1
    refine lv_aload_n hx hb d_PS_dictionary_15 rfl (lv_at hl 0 rfl) ?_
    refine va_get (D := (dC, dI)) (ci := cPS) (v := .ref (a 1)) (C := R_PS) (T := F_PS) (N := 10) hx hb hts i_PS hown hK hP 0 rfl rfl 0 (by decide) (hts _ tw_97) (fun _ h9 => h9) rfl d_PS_dictionary_16 ?_
    refine lv_iconst (v := nI 3) hx hb d_PS_dictionary_19 (by decide) ?_
    refine lv_dup2_11 hx hb d_PS_dictionary_20 rfl rfl ?_
    refine va_iald hx hb hK hP 1 0 rfl ht (vp_in_nI (show 3 < 6 by decide) (by decide)) d_PS_dictionary_21 ?_
    refine ps_top (z := nI (K 3)) (ps_kat _ 3 (by decide)) ?_
    refine lv_iconst (v := nI 1) hx hb d_PS_dictionary_22 (by decide) ?_
    refine lv_iadd hx hb d_PS_dictionary_23 ?_
    refine ps_top (z := nI (K 3 + 1)) (nI_add _ _) ?_
    refine va_iast hx hb hK hP hD hS 1 0 rfl ht (vp_in_nI (show 3 < 6 by decide) (by decide)) d_PS_dictionary_24 (fun H locs hP hD hS => ?_)
    rw [nI_clamp (show 3 < 2 ^ 31 by decide)] at hP hD
    rw [ps_kup] at hP hD
    have hP : va_P (dC, dI) classes (pw cI a q (va_up K 3 (K 3 + 1)) S ck cu F N) H := hP
    have hD : va_D A (pw cI a q (va_up K 3 (K 3 + 1)) S ck cu F N) := hD
    refine lv_aload_n hx hb d_PS_dictionary_25 rfl (lv_at hl 0 rfl) ?_
    refine va_get (D := (dC, dI)) (ci := cPS) (v := .ref (a 1)) (C := R_PS) (T := F_PS) (N := 10) hx hb hts i_PS hown hK hP 0 rfl rfl 0 (by decide) (hts _ tw_97) (fun _ h9 => h9) rfl d_PS_dictionary_26 ?_
    refine lv_iconst (v := nI 3) hx hb d_PS_dictionary_29 (by decide) ?_
    refine va_iald hx hb hK hP 1 0 rfl ht (vp_in_nI (show 3 < 6 by decide) (by decide)) d_PS_dictionary_30 ?_
    refine ps_top (z := nI (K 3 + 1)) (ps_kat _ 3 (by decide)) ?_
    exact ps_iret hx hb hr hlocks hK hP hD hS (Nat.le_of_ble_eq_true rfl) (Nat.le_of_ble_eq_true rfl) d_PS_dictionary_31 (ps_cn (by omega) ⟨rfl, rfl⟩)
  · have c_1 : ¬ K 3 < 1024 := fun q => c_1 ((nI_ltI (by have h0 := hKb 0; have h1 := hKb 1; have h2 := hKb 2; have h3 := hKb 3; have h4 := hKb 4; have h5 := hKb 5; omega) (by have h0 := hKb 0; have h1 := hKb 1; have h2 := hKb 2; have h3 := hKb 3; have h4 := hKb 4; have h5 := hKb 5; omega)).mpr q)
    refine lv_bipush (v := (-3)) hx hb d_PS_dictionary_12 (by decide) ?_
    exact ps_iret hx hb hr hlocks hK hP hD hS (Nat.le_of_ble_eq_true rfl) (Nat.le_of_ble_eq_true rfl) d_PS_dictionary_14 (ps_cy (by omega) ⟨rfl, rfl⟩)

set_option maxHeartbeats 4000000 in
set_option maxRecDepth 100000 in
/-- PageStore.cursorKind -/
theorem c_cursorKind (l : Launch) (dC : Nat → ClassId) (dI : Nat → Nat → Nat) (cI : ClassId) (tys : List (ClassId × FieldType)) (ht : tys[0]? = some (cI, FieldType.int)) (a q K : Nat → Nat) (S : Nat) (ck cu : Int32) (F : Nat → Nat → Int32) (N : Nat → Nat) (hw : ps_wf F N) (hKb : ∀ j, K j ≤ 65536) (hSb : S ≤ 15) : ps_mI classes l y_PS_cursorKind w_PS_cursorKind ({ frames := 0, cells := 0, slots := 0, locals := 0 }) (dC, dI) tys [.ref (a 0)] (pw cI a q K S ck cu F N) (fun r u => u = pw cI a q K S ck cu F N ∧ r = ck) := by
  refine ps_mI_of (by decide) rfl (Nat.le_of_ble_eq_true rfl) ?_
  intro p e s m below meth c A ls C0 hA hK hP hD hS hl
  obtain ⟨hx, hb, hr, hml, hts, hown, hlocks, hin⟩ := C0
  have hl : lv_has ls 1 [(0, .ref (a 0))] := hl
  have hP : va_P (dC, dI) classes (pw cI a q K S ck cu F N) s.heap := hP
  have hD : va_D A (pw cI a q K S ck cu F N) := hD
  refine lv_aload_n hx hb d_PS_cursorKind_0 rfl (lv_at hl 0 rfl) ?_
  refine va_get (D := (dC, dI)) (ci := cPS) (v := .int ck) (C := R_PS) (T := F_PS) (N := 10) hx hb hts i_PS hown hK hP 0 rfl rfl 8 (by decide) (hts _ tw_145) (fun _ h9 => h9) rfl d_PS_cursorKind_1 ?_
  exact ps_iret hx hb hr hlocks hK hP hD hS (Nat.le_of_ble_eq_true rfl) (Nat.le_of_ble_eq_true rfl) d_PS_cursorKind_4 (⟨rfl, rfl⟩)

set_option maxHeartbeats 4000000 in
set_option maxRecDepth 100000 in
/-- PageStore.cursorNumber -/
theorem c_cursorNumber (l : Launch) (dC : Nat → ClassId) (dI : Nat → Nat → Nat) (cI : ClassId) (tys : List (ClassId × FieldType)) (ht : tys[0]? = some (cI, FieldType.int)) (a q K : Nat → Nat) (S : Nat) (ck cu : Int32) (F : Nat → Nat → Int32) (N : Nat → Nat) (hw : ps_wf F N) (hKb : ∀ j, K j ≤ 65536) (hSb : S ≤ 15) : ps_mI classes l y_PS_cursorNumber w_PS_cursorNumber ({ frames := 0, cells := 0, slots := 0, locals := 0 }) (dC, dI) tys [.ref (a 0)] (pw cI a q K S ck cu F N) (fun r u => u = pw cI a q K S ck cu F N ∧ r = cu) := by
  refine ps_mI_of (by decide) rfl (Nat.le_of_ble_eq_true rfl) ?_
  intro p e s m below meth c A ls C0 hA hK hP hD hS hl
  obtain ⟨hx, hb, hr, hml, hts, hown, hlocks, hin⟩ := C0
  have hl : lv_has ls 1 [(0, .ref (a 0))] := hl
  have hP : va_P (dC, dI) classes (pw cI a q K S ck cu F N) s.heap := hP
  have hD : va_D A (pw cI a q K S ck cu F N) := hD
  refine lv_aload_n hx hb d_PS_cursorNumber_0 rfl (lv_at hl 0 rfl) ?_
  refine va_get (D := (dC, dI)) (ci := cPS) (v := .int cu) (C := R_PS) (T := F_PS) (N := 10) hx hb hts i_PS hown hK hP 0 rfl rfl 9 (by decide) (hts _ tw_146) (fun _ h9 => h9) rfl d_PS_cursorNumber_1 ?_
  exact ps_iret hx hb hr hlocks hK hP hD hS (Nat.le_of_ble_eq_true rfl) (Nat.le_of_ble_eq_true rfl) d_PS_cursorNumber_4 (⟨rfl, rfl⟩)

set_option maxHeartbeats 4000000 in
set_option maxRecDepth 100000 in
/-- PageStore.noted -/
theorem c_noted (l : Launch) (dC : Nat → ClassId) (dI : Nat → Nat → Nat) (cI : ClassId) (tys : List (ClassId × FieldType)) (ht : tys[0]? = some (cI, FieldType.int)) (a q K : Nat → Nat) (S : Nat) (ck cu : Int32) (F : Nat → Nat → Int32) (N : Nat → Nat) (hw : ps_wf F N) (hKb : ∀ j, K j ≤ 65536) (hSb : S ≤ 15) (k w : Int32) : ps_mI classes l y_PS_noted w_PS_noted ({ frames := 2, cells := 0, slots := 0, locals := 43 }) (dC, dI) tys [.ref (a 0), .int k, .int w] (pw cI a q K S ck cu F N) (fun r u => u = pw cI a q K S ck cu F N ∧ ps_c (w < 0 ∨ nI 6 ≤ w) (r = -1) (ps_c (k = 0) (r = nI (K w.toNatClampNeg)) (ps_c ((nI 1 ≤ k ∧ k ≤ nI S) ∧ ¬ w = nI 5) (r = F 0 ((k.toNatClampNeg - 1) * 6 + w.toNatClampNeg)) (r = -1)))) := by
  refine ps_mI_of (by decide) rfl (Nat.le_of_ble_eq_true rfl) ?_
  intro p e s m below meth c A ls C0 hA hK hP hD hS hl
  obtain ⟨hx, hb, hr, hml, hts, hown, hlocks, hin⟩ := C0
  have hl : lv_has ls 3 [(0, .ref (a 0)), (1, .int k), (2, .int w)] := hl
  have hP : va_P (dC, dI) classes (pw cI a q K S ck cu F N) s.heap := hP
  have hD : va_D A (pw cI a q K S ck cu F N) := hD
  refine lv_iload_n hx hb d_PS_noted_0 rfl (lv_at hl 2 rfl) ?_
  refine lv_if_lt (tgt := 10) hx hb d_PS_noted_1 (by decide) (fun c_1 => ?_) (fun c_1 => ?_)
  · refine lv_iconst (v := (-1)) hx hb d_PS_noted_10 (by decide) ?_
    exact ps_iret hx hb hr hlocks hK hP hD hS (Nat.le_of_ble_eq_true rfl) (Nat.le_of_ble_eq_true rfl) d_PS_noted_11 (⟨rfl, ps_cy (Or.inl c_1) rfl⟩)
  · refine lv_iload_n hx hb d_PS_noted_4 rfl (lv_at hl 2 rfl) ?_
    refine lv_bipush (v := nI 6) hx hb d_PS_noted_5 (by decide) ?_
    refine lv_icmp_lt (tgt := 12) hx hb d_PS_noted_7 (by decide) (fun c_2 => ?_) (fun c_2 => ?_)
    · obtain ⟨w0, hw31, rfl⟩ := nI_of c_1
      have c_2 : w0 < 6 := (nI_ltI hw31 (by decide)).mp c_2
      rw [nI_clamp hw31]
      have hna : ¬ (nI w0 < 0 ∨ nI 6 ≤ nI w0) := fun q => q.elim (nI_pos hw31) (fun q => absurd ((nI_leI (by decide) hw31).mp q) (by omega))
      refine lv_iload_n hx hb d_PS_noted_12 rfl (lv_at hl 1 rfl) ?_
      refine lv_if_ne (tgt := 23) hx hb d_PS_noted_13 (by decide) (fun c_3 => ?_) (fun c_3 => ?_)
      · refine lv_aload_n hx hb d_PS_noted_23 rfl (lv_at hl 0 rfl) ?_
        refine lv_iload_n hx hb d_PS_noted_24 rfl (lv_at hl 1 rfl) ?_
        refine ps_readI (wc := (pw cI a q K S ck cu F N)) hP hD hS hA [0, 1, 2, 3, 4, 5, 6, 7, 8, 9, 10, 11, 12, 13, 14, 15, 16, 17, 18, 19, 20, 21, 22, 23, 24, 25, 26, 27, 28, 29, 30, 31, 32, 33, 34, 35, 36, 37, 38, 39] rfl (fun _ _ h => h.1) (ps_runVI ⟨hx, hb, hml, hown, hts⟩ (c_isSave l dC dI cI tys ht a q K S ck cu F N hw hKb hSb k) (ps_cwV ps_gd 1 hts tw_147 k_PS_isSave e_PS_isSave ⟨Nat.le_of_ble_eq_true rfl, Nat.le_of_ble_eq_true rfl⟩) hK hP hD [0, 1, 2, 3, 4, 5, 6, 7, 8, 9, 10, 11, 12, 13, 14, 15, 16, 17, 18, 19, 20, 21, 22, 23, 24, 25, 26, 27, 28, 29, 30, 31, 32, 33, 34, 35, 36, 37, 38, 39] (by decide) rfl 0 cPS rfl rfl rfl hl.1 rfl (Nat.le_of_ble_eq_true rfl) d_PS_noted_25 ⟨Nat.zero_le _, Nat.zero_le _⟩) (fun r_4 H locs hr_4 hP hS => ?_)
        obtain ⟨-, hr_4⟩ := hr_4
        subst hr_4
        refine lv_if_eq (tgt := 45) hx hb d_PS_noted_28 (by decide) (fun c_5 => ?_) (fun c_5 => ?_)
        · have c_5 := ps_ite0 c_5
          refine lv_iconst (v := (-1)) hx hb d_PS_noted_45 (by decide) ?_
          exact ps_iret hx hb hr hlocks hK hP hD hS (Nat.le_of_ble_eq_true rfl) (Nat.le_of_ble_eq_true rfl) d_PS_noted_46 (⟨rfl, ps_cn hna (ps_cn c_3 (ps_cn (fun q => c_5 q.1) rfl))⟩)
        · have c_5 := ps_ite1 c_5
          have hc := c_5
          obtain ⟨k0, hk1, hk2, rfl⟩ := ps_rng (by omega) c_5
          rw [nI_clamp (show k0 < 2 ^ 31 by omega)]
          refine lv_iload_n hx hb d_PS_noted_31 rfl (lv_at hl 2 rfl) ?_
          refine lv_iconst (v := nI 5) hx hb d_PS_noted_32 (by decide) ?_
          refine lv_icmp_eq (tgt := 45) hx hb d_PS_noted_33 (by decide) (fun c_6 => ?_) (fun c_6 => ?_)
          · have c_6 : w0 = 5 := (nI_eq (by have h0 := hKb 0; have h1 := hKb 1; have h2 := hKb 2; have h3 := hKb 3; have h4 := hKb 4; have h5 := hKb 5; omega) (by have h0 := hKb 0; have h1 := hKb 1; have h2 := hKb 2; have h3 := hKb 3; have h4 := hKb 4; have h5 := hKb 5; omega)).mp c_6
            refine lv_iconst (v := (-1)) hx hb d_PS_noted_45 (by decide) ?_
            exact ps_iret hx hb hr hlocks hK hP hD hS (Nat.le_of_ble_eq_true rfl) (Nat.le_of_ble_eq_true rfl) d_PS_noted_46 (⟨rfl, ps_cn hna (ps_cn c_3 (ps_cn (fun q => q.2 (by rw [c_6])) rfl))⟩)
          · have c_6 : ¬ w0 = 5 := fun q => c_6 ((nI_eq (by have h0 := hKb 0; have h1 := hKb 1; have h2 := hKb 2; have h3 := hKb 3; have h4 := hKb 4; have h5 := hKb 5; omega) (by have h0 := hKb 0; have h1 := hKb 1; have h2 := hKb 2; have h3 := hKb 3; have h4 := hKb 4; have h5 := hKb 5; omega)).mpr q)
            refine lv_aload_n hx hb d_PS_noted_36 rfl (lv_at hl 0 rfl) ?_
            refine lv_iload_n hx hb d_PS_noted_37 rfl (lv_at hl 1 rfl) ?_
            refine lv_iload_n hx hb d_PS_noted_38 rfl (lv_at hl 2 rfl) ?_
            refine ps_readI (wc := (pw cI a q K S ck cu F N)) hP hD hS hA [0, 1, 2, 3, 4, 5, 6, 7, 8, 9, 10, 11, 12, 13, 14, 15, 16, 17, 18, 19, 20, 21, 22, 23, 24, 25, 26, 27, 28, 29, 30, 31, 32, 33, 34, 35, 36, 37, 38, 39] rfl (fun _ _ h => h.1) (ps_runVI ⟨hx, hb, hml, hown, hts⟩ (c_cas l dC dI cI tys ht a q K S ck cu F N hw hKb hSb k0 w0 hk1 (by omega) c_2) (ps_cwV ps_gd 2 hts tw_148 k_PS_countAtSave e_PS_countAtSave ⟨Nat.le_of_ble_eq_true rfl, Nat.le_of_ble_eq_true rfl⟩) hK hP hD [0, 1, 2, 3, 4, 5, 6, 7, 8, 9, 10, 11, 12, 13, 14, 15, 16, 17, 18, 19, 20, 21, 22, 23, 24, 25, 26, 27, 28, 29, 30, 31, 32, 33, 34, 35, 36, 37, 38, 39] (by decide) rfl 0 cPS rfl rfl rfl hl.1 rfl (Nat.le_of_ble_eq_true rfl) d_PS_noted_39 ⟨Nat.zero_le _, Nat.zero_le _⟩) (fun r_7 H locs hr_7 hP hS => ?_)
            obtain ⟨-, hr_7⟩ := hr_7
            subst hr_7
            refine lv_goto (tgt := 46) hx hb d_PS_noted_42 (by decide) ?_
            exact ps_iret hx hb hr hlocks hK hP hD hS (Nat.le_of_ble_eq_true rfl) (Nat.le_of_ble_eq_true rfl) d_PS_noted_46 (⟨rfl, ps_cn hna (ps_cn c_3 (ps_cy ⟨hc, fun q => c_6 ((nI_eq hw31 (by decide)).mp q)⟩ rfl))⟩)
      · refine lv_aload_n hx hb d_PS_noted_16 rfl (lv_at hl 0 rfl) ?_
        refine va_get (D := (dC, dI)) (ci := cPS) (v := .ref (a 1)) (C := R_PS) (T := F_PS) (N := 10) hx hb hts i_PS hown hK hP 0 rfl rfl 0 (by decide) (hts _ tw_97) (fun _ h9 => h9) rfl d_PS_noted_17 ?_
        refine lv_iload_n hx hb d_PS_noted_20 rfl (lv_at hl 2 rfl) ?_
        refine va_iald hx hb hK hP 1 0 rfl ht (vp_in_nI (show w0 < 6 by omega) (by decide)) d_PS_noted_21 ?_
        refine ps_top (z := nI (K w0)) (ps_kat _ w0 hw31) ?_
        exact ps_iret hx hb hr hlocks hK hP hD hS (Nat.le_of_ble_eq_true rfl) (Nat.le_of_ble_eq_true rfl) d_PS_noted_22 (⟨rfl, ps_cn hna (ps_cy c_3 rfl)⟩)
    · refine lv_iconst (v := (-1)) hx hb d_PS_noted_10 (by decide) ?_
      exact ps_iret hx hb hr hlocks hK hP hD hS (Nat.le_of_ble_eq_true rfl) (Nat.le_of_ble_eq_true rfl) d_PS_noted_11 (⟨rfl, ps_cy (Or.inr (k2_le c_2)) rfl⟩)

set_option maxHeartbeats 4000000 in
set_option maxRecDepth 100000 in
/-- PageStore.save -/
theorem c_save (l : Launch) (dC : Nat → ClassId) (dI : Nat → Nat → Nat) (cI : ClassId) (tys : List (ClassId × FieldType)) (ht : tys[0]? = some (cI, FieldType.int)) (a q K : Nat → Nat) (S : Nat) (ck cu : Int32) (F : Nat → Nat → Int32) (N : Nat → Nat) (hw : ps_wf F N) (hKb : ∀ j, K j ≤ 65536) (hSb : S ≤ 15) (mc ms : Nat) (hm : ¬ 15 ≤ S → (ps_nl (N 0) (S * 6) 6 - N 0) ≤ mc ∧ (ps_psi 90 (ps_nl (N 0) (S * 6) 6) - ps_psi 90 (N 0)) ≤ ms) : ps_mI classes l y_PS_save w_PS_save ({ frames := 3, cells := mc, slots := ms, locals := 63 }) (dC, dI) tys [.ref (a 0)] (pw cI a q K S ck cu F N) (fun r u => ps_c (15 ≤ S) (r = -3 ∧ u = pw cI a q K S ck cu F N) (∃ q1 : Nat → Nat, r = nI (S + 1) ∧ u = pw cI a q1 K (S + 1) ck cu (va_up F 0 (ps_nt (F 0) K (S * 6) 6)) (va_up N 0 (ps_nl (N 0) (S * 6) 6)))) := by
  refine ps_mI_of (by decide) rfl (Nat.le_of_ble_eq_true rfl) ?_
  intro p e s m below meth c A ls C0 hA hK hP hD hS hl
  obtain ⟨hx, hb, hr, hml, hts, hown, hlocks, hin⟩ := C0
  have hl : lv_has ls 2 [(0, .ref (a 0))] := hl
  have hP : va_P (dC, dI) classes (pw cI a q K S ck cu F N) s.heap := hP
  have hD : va_D A (pw cI a q K S ck cu F N) := hD
  refine lv_aload_n hx hb d_PS_save_0 rfl (lv_at hl 0 rfl) ?_
  refine va_get (D := (dC, dI)) (ci := cPS) (v := .int (nI S)) (C := R_PS) (T := F_PS) (N := 10) hx hb hts i_PS hown hK hP 0 rfl rfl 2 (by decide) (hts _ tw_98) (fun _ h9 => h9) rfl d_PS_save_1 ?_
  refine lv_bipush (v := nI 15) hx hb d_PS_save_4 (by decide) ?_
  refine lv_icmp_lt (tgt := 12) hx hb d_PS_save_6 (by decide) (fun c_1 => ?_) (fun c_1 => ?_)
  · have c_1 : S < 15 := (nI_ltI (by have h0 := hKb 0; have h1 := hKb 1; have h2 := hKb 2; have h3 := hKb 3; have h4 := hKb 4; have h5 := hKb 5; omega) (by have h0 := hKb 0; have h1 := hKb 1; have h2 := hKb 2; have h3 := hKb 3; have h4 := hKb 4; have h5 := hKb 5; omega)).mp c_1
    refine lv_iconst (v := nI 0) hx hb d_PS_save_12 (by decide) ?_
    refine lv_istore_n (lv' := [(1, .int (nI 0)), (0, .ref (a 0))]) hx hb d_PS_save_13 rfl hl (by decide) rfl (fun ls hl => ?_)
    refine W.widen (k := ps_nl (N 0) (S * 6) 0 - N 0) (n := ps_psi 90 (ps_nl (N 0) (S * 6) 0) - ps_psi 90 (N 0)) (Nat.zero_le _) (Nat.zero_le _) ?_
    refine ps_loop (α := Nat × (Nat → Nat)) (fun x => (ps_nl (N 0) (S * 6) x.1 - N 0)) (fun x => (ps_psi 90 (ps_nl (N 0) (S * 6) x.1) - ps_psi 90 (N 0))) (fun x => 6 - x.1) (fun x H locs ls => lv_has ls 2 [(1, .int (nI x.1)), (0, .ref (a 0))] ∧ va_P (dC, dI) classes (pw cI a x.2 K S ck cu (va_up F 0 (ps_nt (F 0) K (S * 6) x.1)) (va_up N 0 (ps_nl (N 0) (S * 6) x.1))) H ∧ va_D A (pw cI a x.2 K S ck cu (va_up F 0 (ps_nt (F 0) K (S * 6) x.1)) (va_up N 0 (ps_nl (N 0) (S * 6) x.1))) ∧ va_S A s.heap H locs ∧ x.1 ≤ 6) ?_ (0, q) _ _ ls ⟨lv_sub hl [0, 1] rfl, (by have e : va_up F 0 (ps_nt (F 0) K (S * 6) 0) = F := (funext fun j => by by_cases h : j = 0 <;> simp [va_up, h, ps_nt]); have e2 : va_up N 0 (ps_nl (N 0) (S * 6) 0) = N := (funext fun j => by by_cases h : j = 0 <;> simp [va_up, h, ps_nl]); rw [e, e2]; exact hP), (by have e : va_up F 0 (ps_nt (F 0) K (S * 6) 0) = F := (funext fun j => by by_cases h : j = 0 <;> simp [va_up, h, ps_nt]); have e2 : va_up N 0 (ps_nl (N 0) (S * 6) 0) = N := (funext fun j => by by_cases h : j = 0 <;> simp [va_up, h, ps_nl]); rw [e, e2]; exact hD), hS, Nat.zero_le _⟩
    intro x H locs ls hI ih
    obtain ⟨hl, hP, hD, hS, hw6⟩ := hI
    have hN0 : N 0 ≤ 90 := (hw 0 (by decide)).2
    have hg0 := ps_nl_ge (N 0) (S * 6) x.1
    refine lv_iload_n hx hb d_PS_save_14 rfl (lv_at hl 0 rfl) ?_
    refine lv_bipush (v := nI 6) hx hb d_PS_save_15 (by decide) ?_
    refine lv_icmp_ge (tgt := 48) hx hb d_PS_save_17 (by decide) (fun c_2 => ?_) (fun c_2 => ?_)
    · have c_2 : 6 ≤ x.1 := (nI_leI (by have h0 := hKb 0; have h1 := hKb 1; have h2 := hKb 2; have h3 := hKb 3; have h4 := hKb 4; have h5 := hKb 5; omega) (by have h0 := hKb 0; have h1 := hKb 1; have h2 := hKb 2; have h3 := hKb 3; have h4 := hKb 4; have h5 := hKb 5; omega)).mp c_2
      refine lv_aload_n hx hb d_PS_save_48 rfl (lv_at hl 1 rfl) ?_
      refine lv_dup hx hb d_PS_save_49 rfl ?_
      refine va_get (D := (dC, dI)) (ci := cPS) (v := .int (nI S)) (C := R_PS) (T := F_PS) (N := 10) hx hb hts i_PS hown hK hP 0 rfl rfl 2 (by decide) (hts _ tw_98) (fun _ h9 => h9) rfl d_PS_save_50 ?_
      refine lv_iconst (v := nI 1) hx hb d_PS_save_53 (by decide) ?_
      refine lv_iadd hx hb d_PS_save_54 ?_
      refine ps_top (z := nI (S + 1)) (nI_add _ _) ?_
      refine va_put (D := (dC, dI)) (ci := cPS) (v := .int (nI (S + 1))) (ty := .int) (C := R_PS) (T := F_PS) (N := 10) hx hb hts i_PS t_PS t_PS_ok n_PS hown hK hP hD hS 0 rfl rfl 2 (by decide) (hts _ tw_98) (fun _ h9 => h9) rfl (by decide +kernel) rfl rfl (Nat.le_of_ble_eq_true rfl) d_PS_save_55 (fun H locs hP hD hS => ?_)
      have hP : va_P (dC, dI) classes (pw cI a x.2 K (S + 1) ck cu (va_up F 0 (ps_nt (F 0) K (S * 6) x.1)) (va_up N 0 (ps_nl (N 0) (S * 6) x.1))) H := hP
      have hD : va_D A (pw cI a x.2 K (S + 1) ck cu (va_up F 0 (ps_nt (F 0) K (S * 6) x.1)) (va_up N 0 (ps_nl (N 0) (S * 6) x.1))) := hD
      refine lv_aload_n hx hb d_PS_save_58 rfl (lv_at hl 1 rfl) ?_
      refine va_get (D := (dC, dI)) (ci := cPS) (v := .int (nI (S + 1))) (C := R_PS) (T := F_PS) (N := 10) hx hb hts i_PS hown hK hP 0 rfl rfl 2 (by decide) (hts _ tw_98) (fun _ h9 => h9) rfl d_PS_save_59 ?_
      obtain ⟨w, q9⟩ := x
      have hw9 : w = 6 := by have h1 : w ≤ 6 := hw6; omega
      subst hw9
      exact ps_iret hx hb hr hlocks hK hP hD hS ((hm (by omega)).1) ((hm (by omega)).2) d_PS_save_62 (ps_cn (by omega) ⟨q9, rfl, rfl⟩)
    · have c_2 : ¬ 6 ≤ x.1 := fun q => c_2 ((nI_leI (by have h0 := hKb 0; have h1 := hKb 1; have h2 := hKb 2; have h3 := hKb 3; have h4 := hKb 4; have h5 := hKb 5; omega) (by have h0 := hKb 0; have h1 := hKb 1; have h2 := hKb 2; have h3 := hKb 3; have h4 := hKb 4; have h5 := hKb 5; omega)).mpr q)
      refine lv_aload_n hx hb d_PS_save_20 rfl (lv_at hl 1 rfl) ?_
      refine va_get (D := (dC, dI)) (ci := cPS) (v := .ref (a 8)) (C := R_PS) (T := F_PS) (N := 10) hx hb hts i_PS hown hK hP 0 rfl rfl 1 (by decide) (hts _ tw_101) (fun _ h9 => h9) rfl d_PS_save_21 ?_
      refine lv_aload_n hx hb d_PS_save_24 rfl (lv_at hl 1 rfl) ?_
      refine va_get (D := (dC, dI)) (ci := cPS) (v := .int (nI S)) (C := R_PS) (T := F_PS) (N := 10) hx hb hts i_PS hown hK hP 0 rfl rfl 2 (by decide) (hts _ tw_98) (fun _ h9 => h9) rfl d_PS_save_25 ?_
      refine lv_bipush (v := nI 6) hx hb d_PS_save_28 (by decide) ?_
      refine lv_imul hx hb d_PS_save_30 ?_
      refine ps_top (z := nI (S * 6)) (pk_mul _ _) ?_
      refine lv_iload_n hx hb d_PS_save_31 rfl (lv_at hl 0 rfl) ?_
      refine lv_iadd hx hb d_PS_save_32 ?_
      refine ps_top (z := nI (S * 6 + x.1)) (nI_add _ _) ?_
      refine lv_aload_n hx hb d_PS_save_33 rfl (lv_at hl 1 rfl) ?_
      refine va_get (D := (dC, dI)) (ci := cPS) (v := .ref (a 1)) (C := R_PS) (T := F_PS) (N := 10) hx hb hts i_PS hown hK hP 0 rfl rfl 0 (by decide) (hts _ tw_97) (fun _ h9 => h9) rfl d_PS_save_34 ?_
      refine lv_iload_n hx hb d_PS_save_37 rfl (lv_at hl 0 rfl) ?_
      refine va_iald hx hb hK hP 1 0 rfl ht (vp_in_nI (show x.1 < 6 by omega) (by decide)) d_PS_save_38 ?_
      refine ps_top (z := nI (K x.1)) (ps_kat _ x.1 (by omega)) ?_
      have hle := ps_nl_le (n := N 0) (b := S * 6) (w := x.1) hN0 (by omega)
      have hle1 := ps_nl_le (n := N 0) (b := S * 6) (w := x.1 + 1) hN0 (by omega)
      have hle6 := ps_nl_le (n := N 0) (b := S * 6) (w := 6) hN0 (by omega)
      have hm1 := ps_nl_mono (N 0) (S * 6) (show x.1 ≤ x.1 + 1 by omega)
      have hm6 := ps_nl_mono (N 0) (S * 6) (show x.1 + 1 ≤ 6 by omega)
      have hp0 := ps_psi_le hg0 hle
      have hp1 := ps_psi_le hm1 hle1
      have hp6 := ps_psi_le hm6 hle6
      have hmm := hm (by omega)
      refine ps_afterV (wc := [(a 8, .inr (cCol, [.int (nI 90), .ref (x.2 0)])), (x.2 0, .inl (cI, ps_nl (N 0) (S * 6) x.1, .inl (ps_nt (F 0) K (S * 6) x.1)))]) (wr := [0, 1, 2, 3, 4, 5, 6, 7, 10, 11, 12, 13, 14, 15, 16, 17, 18, 19, 20, 21, 22, 23, 24, 25, 26, 27, 28, 29, 30, 31, 32, 33, 34, 35, 36, 37, 38, 39].filterMap (fun z9 => ((pw cI a x.2 K S ck cu (va_up F 0 (ps_nt (F 0) K (S * 6) x.1)) (va_up N 0 (ps_nl (N 0) (S * 6) x.1))) : va_W)[z9]?)) hP hD hS hA [8, 9] [0, 1, 2, 3, 4, 5, 6, 7, 10, 11, 12, 13, 14, 15, 16, 17, 18, 19, 20, 21, 22, 23, 24, 25, 26, 27, 28, 29, 30, 31, 32, 33, 34, 35, 36, 37, 38, 39] rfl rfl (by decide) (by decide) (ps_runVV ⟨hx, hb, hml, hown, hts⟩ (c_put l dC dI cI tys ht (a 8) (x.2 0) 90 (ps_nl (N 0) (S * 6) x.1) (ps_nt (F 0) K (S * 6) x.1) (S * 6 + x.1) (nI (K x.1)) (ps_nt_z (hw.z 0 (by decide))) (by decide) hle (by omega)) (ps_cwV ps_gd 2 hts tw_144 k_Col_put e_Col_put ⟨Nat.le_of_ble_eq_true rfl, Nat.le_of_ble_eq_true rfl⟩) hK hP hD [8, 9] (by decide) rfl 0 cCol rfl rfl rfl hl.1 rfl (Nat.le_of_ble_eq_true rfl) d_PS_save_39 ⟨by show ps_nl (N 0) (S * 6) x.1 - N 0 + (ps_nl (N 0) (S * 6) (x.1 + 1) - ps_nl (N 0) (S * 6) x.1) ≤ mc; omega, by show ps_psi 90 (ps_nl (N 0) (S * 6) x.1) - ps_psi 90 (N 0) + (ps_psi 90 (ps_nl (N 0) (S * 6) (x.1 + 1)) - ps_psi 90 (ps_nl (N 0) (S * 6) x.1)) ≤ ms; omega⟩) (fun u_3 H locs hu_3 hP hD hS => ?_)
      obtain ⟨q_5, hu_3⟩ := hu_3
      subst hu_3
      obtain ⟨hP, hD⟩ := ps_perm (ws' := (pw cI a (va_up x.2 0 q_5) K S ck cu (va_up F 0 (ps_nt (F 0) K (S * 6) (x.1 + 1))) (va_up N 0 (ps_nl (N 0) (S * 6) (x.1 + 1))))) hP hD [0, 1, 2, 3, 4, 5, 6, 7, 38, 39, 8, 9, 10, 11, 12, 13, 14, 15, 16, 17, 18, 19, 20, 21, 22, 23, 24, 25, 26, 27, 28, 29, 30, 31, 32, 33, 34, 35, 36, 37] (by decide) rfl
      refine W.widen (k := ps_nl (N 0) (S * 6) (x.1 + 1) - N 0) (n := ps_psi 90 (ps_nl (N 0) (S * 6) (x.1 + 1)) - ps_psi 90 (N 0)) (by show ps_nl (N 0) (S * 6) x.1 - N 0 + (ps_nl (N 0) (S * 6) (x.1 + 1) - ps_nl (N 0) (S * 6) x.1) ≤ ps_nl (N 0) (S * 6) (x.1 + 1) - N 0; omega) (by show ps_psi 90 (ps_nl (N 0) (S * 6) x.1) - ps_psi 90 (N 0) + (ps_psi 90 (ps_nl (N 0) (S * 6) (x.1 + 1)) - ps_psi 90 (ps_nl (N 0) (S * 6) x.1)) ≤ ps_psi 90 (ps_nl (N 0) (S * 6) (x.1 + 1)) - ps_psi 90 (N 0); omega) ?_
      refine lv_iinc (v := nI (x.1 + 1)) (lv' := [(1, .int (nI (x.1 + 1))), (0, .ref (a 0))]) hx hb d_PS_save_42 hl (k := 0) rfl (nI_1 _) (by decide) rfl (fun ls hl => ?_)
      refine lv_goto (tgt := 14) hx hb d_PS_save_45 (by decide) ?_
      exact ih (x.1 + 1, (va_up x.2 0 q_5)) _ _ ls (by show 6 - (x.1 + 1) < 6 - x.1; omega) ⟨lv_sub hl [0, 1] rfl, hP, hD, hS, by show x.1 + 1 ≤ 6; omega⟩
  · have c_1 : ¬ S < 15 := fun q => c_1 ((nI_ltI (by have h0 := hKb 0; have h1 := hKb 1; have h2 := hKb 2; have h3 := hKb 3; have h4 := hKb 4; have h5 := hKb 5; omega) (by have h0 := hKb 0; have h1 := hKb 1; have h2 := hKb 2; have h3 := hKb 3; have h4 := hKb 4; have h5 := hKb 5; omega)).mpr q)
    refine lv_bipush (v := (-3)) hx hb d_PS_save_9 (by decide) ?_
    exact ps_iret hx hb hr hlocks hK hP hD hS (Nat.zero_le _) (Nat.zero_le _) d_PS_save_11 (ps_cy (by omega) ⟨rfl, rfl⟩)
