theorem tw_240 : (.fieldLink "PageStoreModel" 70 "PageStoreModel" "rows" "I" : Cond) ∈ ps_tbl := ps_t2 164 rfl rfl
theorem tw_241 : (.fieldLink "PageStoreModel" 104 "PageStoreModel" "dictionaries" "I" : Cond) ∈ ps_tbl := ps_t2 170 rfl rfl
theorem tw_242 : (.fieldLink "PageStoreModel" 7 "PageStoreModel" "sorts" "[B" : Cond) ∈ ps_tbl := ps_t2 161 rfl rfl
theorem tw_243 : (.fieldLink "PageStoreModel" 13 "PageStoreModel" "firsts" "[I" : Cond) ∈ ps_tbl := ps_t2 162 rfl rfl
theorem tw_244 : (.fieldLink "PageStoreModel" 17 "PageStoreModel" "lengths" "[I" : Cond) ∈ ps_tbl := ps_t2 163 rfl rfl
theorem tw_245 : (.constant "PageStoreModel" 20 32768 : Cond) ∈ ps_tbl := ps_t2 158 rfl rfl
theorem tw_246 : (.fieldLink "PageStoreModel" 74 "PageStoreModel" "places" "I" : Cond) ∈ ps_tbl := ps_t2 167 rfl rfl
theorem tw_247 : (.methodLink "PageStoreModel" 77 ⟨"PageStoreModel", "row", "(III)I"⟩ : Cond) ∈ ps_tbl := ps_t3 10 rfl rfl
theorem tw_248 : (.fieldLink "PageStoreModel" 21 "PageStoreModel" "kinds" "[B" : Cond) ∈ ps_tbl := ps_t2 165 rfl rfl
theorem tw_249 : (.fieldLink "PageStoreModel" 24 "PageStoreModel" "numbers" "[I" : Cond) ∈ ps_tbl := ps_t2 166 rfl rfl
theorem tw_250 : (.constant "PageStoreModel" 27 65536 : Cond) ∈ ps_tbl := ps_t2 159 rfl rfl
theorem tw_251 : (.fieldLink "PageStoreModel" 81 "PageStoreModel" "used" "I" : Cond) ∈ ps_tbl := ps_t2 169 rfl rfl
theorem tw_252 : (.fieldLink "PageStoreModel" 28 "PageStoreModel" "bytes" "[B" : Cond) ∈ ps_tbl := ps_t2 168 rfl rfl
theorem tw_253 : (.methodLink "PageStoreModel" 84 ⟨"PageStoreModel", "isRow", "(I)Z"⟩ : Cond) ∈ ps_tbl := ps_t3 22 rfl rfl
theorem tw_254 : (.instanceMethod ⟨"PageStoreModel", "row", "(III)I"⟩ : Cond) ∈ ps_tbl := ps_t3 12 rfl rfl
theorem tw_255 : (.selects "PageStoreModel" ⟨"PageStoreModel", "row", "(III)I"⟩ ⟨"PageStoreModel", "row", "(III)I"⟩ : Cond) ∈ ps_tbl := ps_ts (y := ⟨"PageStoreModel", "row", "(III)I"⟩) (n := 27) 15 rfl rfl
theorem tw_256 : (.initialized "PageStoreModel" : Cond) ∈ ps_tbl := ps_t1 7 rfl rfl
theorem tw_257 : (.code ⟨"PageStoreModel", "row", "(III)I"⟩ prog_8_method_2_code 4 (some .int) : Cond) ∈ ps_tbl := ps_t3 13 rfl rfl
theorem tw_258 : (.instanceMethod ⟨"PageStoreModel", "isRow", "(I)Z"⟩ : Cond) ∈ ps_tbl := ps_t3 24 rfl rfl
theorem tw_259 : (.selects "PageStoreModel" ⟨"PageStoreModel", "isRow", "(I)Z"⟩ ⟨"PageStoreModel", "isRow", "(I)Z"⟩ : Cond) ∈ ps_tbl := ps_ts (y := ⟨"PageStoreModel", "isRow", "(I)Z"⟩) (n := 27) 16 rfl rfl
theorem tw_260 : (.code ⟨"PageStoreModel", "isRow", "(I)Z"⟩ prog_8_method_5_code 2 (some .boolean) : Cond) ∈ ps_tbl := ps_t3 25 rfl rfl
theorem k_Mod_row : ps_cdV ps_tbl y_Mod_row prog_8_method_2_code 4 (some .int) := ⟨tw_254, tw_255, tw_256, tw_257⟩
theorem k_Mod_isRow : ps_cdV ps_tbl y_Mod_isRow prog_8_method_5_code 2 (some .boolean) := ⟨tw_258, tw_259, tw_256, tw_260⟩
/-- the cells of a PageStoreModel: what it shares with the class is in F (the columns 2 .. 9), its own is in X -/
def mw (cI cB cS cZ : ClassId) (b K : Nat → Nat) (S : Nat) (ck cu : Int32) (F X : Nat → Nat → Int32) : va_W := [
  (b 0, .inr (cMod, [.ref (b 1), .ref (b 2), .ref (b 3), .int (nI (K 0)), .ref (b 4), .ref (b 5), .int (nI (K 1)), .ref (b 6), .int (nI (K 2)), .int (nI (K 3)), .ref (b 7), .ref (b 8), .ref (b 9), .ref (b 10), .ref (b 11), .ref (b 12), .int (nI (K 4)), .ref (b 13), .ref (b 14), .int (nI S), .ref (b 15), .ref (b 16), .ref (b 17), .ref (b 18), .int (nI (K 5)), .int ck, .int cu])),
  (b 1, .inl (cB, 16385, .inl (F 4))),
  (b 2, .inl (cI, 16385, .inl (F 5))),
  (b 3, .inl (cI, 16385, .inl (F 6))),
  (b 4, .inl (cB, 32768, .inl (F 2))),
  (b 5, .inl (cI, 32768, .inl (F 3))),
  (b 6, .inl (cB, 65536, .inl (X 0))),
  (b 7, .inl (cS, 16384, .inl (F 7))),
  (b 8, .inl (cB, 16384, .inl (F 8))),
  (b 9, .inl (cI, 16384, .inl (F 9))),
  (b 10, .inl (cB, 16384, .inl (X 1))),
  (b 11, .inl (cI, 16384, .inl (X 2))),
  (b 12, .inl (cZ, 16384, .inl (X 3))),
  (b 13, .inl (cI, 80, .inl (X 4))),
  (b 14, .inl (cI, 17, .inl (X 5))),
  (b 15, .inl (cI, 40000, .inl (X 6))),
  (b 16, .inl (cB, 40000, .inl (X 7))),
  (b 17, .inl (cI, 40000, .inl (X 8))),
  (b 18, .inl (cZ, 40000, .inl (X 9)))]
theorem mo_b8 {k : Nat} (h : k < 128) : (nI k).toInt8.toInt32 = nI k := lg_i2b_small (by rw [nI_toInt (by omega)]; omega) (by rw [nI_toInt (by omega)]; omega)
theorem mo_s16 {k : Nat} (h : k < 32768) : (nI k).toInt16.toInt32 = nI k := lg_i2s_small (by rw [nI_toInt (by omega)]; omega) (by rw [nI_toInt (by omega)]; omega)
theorem mo_nb {k : Nat} (h : k < 128) : vp_nar .byte (nI k) = nI k := by rw [vp_nar_byte, mo_b8 h]
theorem mo_ns {k : Nat} (h : k < 32768) : vp_nar .short (nI k) = nI k := by rw [vp_nar_short, mo_s16 h]
theorem mo_k15 {x : Int32} (h : nI 0 ≤ x ∧ x ≤ nI 15) : ∃ k : Nat, k ≤ 15 ∧ x = nI k := by
  obtain ⟨j, hj, rfl⟩ := nI_of (x := x) (fun q => by
    have h1 := h.1
    rw [Int32.le_iff_toInt_le] at h1
    rw [Int32.lt_iff_toInt_lt] at q
    have e1 : (nI 0).toInt = 0 := by decide
    have e0 : (0 : Int32).toInt = 0 := by decide
    omega)
  exact ⟨j, (nI_leI hj (by decide)).mp h.2, rfl⟩
theorem mo_neg {i : Nat} (h : i < 2 ^ 31) : (-1 : Int32) - nI i < 0 := by
  rw [Int32.lt_iff_toInt_lt, Int32.toInt_sub, nI_toInt h]
  have e1 : (-1 : Int32).toInt = -1 := by decide
  have e0 : (0 : Int32).toInt = 0 := by decide
  rw [e1, e0]
  unfold Int.bmod
  simp only []
  split <;> omega
theorem mo_inv {i : Nat} : (-1 : Int32) - ((-1 : Int32) - nI i) = nI i := by
  rw [Int32.sub_eq_add_neg, Int32.neg_sub, Int32.sub_eq_add_neg, Int32.add_comm (nI i), ← Int32.add_assoc]
  have : (-1 : Int32) + -(-1 : Int32) = 0 := by decide
  rw [this, Int32.zero_add]
/-- there is such a row, and such a place -/
def ps_at (K : Nat → Nat) (F : Nat → Nat → Int32) (row place : Int32) : Prop := (nI 1 ≤ row ∧ row ≤ nI (K 0)) ∧ ¬ place < 0 ∧ place < F 6 row.toNatClampNeg
theorem ps_at_ix {K : Nat → Nat} {F : Nat → Nat → Int32} {row place : Int32} (hb : ∀ j, K j ≤ 65536) (hr : ps_rows K F) (h : ps_at K F row place) : F 5 row.toNatClampNeg + place = nI (ps_ix F row place) ∧ ((F 4 row.toNatClampNeg = nI 1 ∧ ps_ix F row place < K 1) ∨ (F 4 row.toNatClampNeg = nI 2 ∧ ps_ix F row place < K 2)) := by
  obtain ⟨h1, h3, h4⟩ := h
  obtain ⟨j, hj1, hj2, e⟩ := ps_rng (by have := hb 0; omega) h1
  have b0 := hb 0
  have ej : row.toNatClampNeg = j := by rw [e]; exact nI_clamp (by omega)
  obtain ⟨s, l, e5, e6, hs⟩ := hr j hj1 hj2
  rcases hs with ⟨q1, q2⟩ | ⟨q1, q2⟩
  · have ho : ps_ok K F (nI 1) row place := ⟨h1, by rw [ej]; exact q1, h3, h4⟩
    have h9 := ps_ok_ix hb hr (Or.inl rfl) ho
    exact ⟨h9.1, Or.inl ⟨ho.2.1, h9.2⟩⟩
  · have ho : ps_ok K F (nI 2) row place := ⟨h1, by rw [ej]; exact q1, h3, h4⟩
    have h9 := ps_ok_ix hb hr (Or.inr rfl) ho
    exact ⟨h9.1, Or.inr ⟨ho.2.1, h9.2⟩⟩

set_option maxHeartbeats 4000000 in
set_option maxRecDepth 100000 in
/-- PageStoreModel.isRow -/
theorem m_isRow (l : Launch) (dC : Nat → ClassId) (dI : Nat → Nat → Nat) (cI : ClassId) (tys : List (ClassId × FieldType)) (ht : tys[0]? = some (cI, FieldType.int)) (cB cS cZ : ClassId) (htB : tys[1]? = some (cB, FieldType.byte)) (htS : tys[2]? = some (cS, FieldType.short)) (htZ : tys[3]? = some (cZ, FieldType.boolean)) (b K : Nat → Nat) (S : Nat) (ck cu : Int32) (F X : Nat → Nat → Int32) (hKb : ∀ j, K j ≤ 65536) (hSb : S ≤ 15) (x : Int32) : ps_mI classes l y_Mod_isRow w_Mod_isRow ({ frames := 0, cells := 0, slots := 0, locals := 0 }) (dC, dI) tys [.ref (b 0), .int x] (mw cI cB cS cZ b K S ck cu F X) (fun r u => u = mw cI cB cS cZ b K S ck cu F X ∧ r = (if nI 1 ≤ x ∧ x ≤ nI (K 0) then 1 else 0)) := by
  refine ps_mI_of (by decide) rfl (Nat.le_of_ble_eq_true rfl) ?_
  intro p e s m below meth c A ls C0 hA hK hP hD hS hl
  obtain ⟨hx, hb, hr, hml, hts, hown, hlocks, hin⟩ := C0
  have hl : lv_has ls 2 [(0, .ref (b 0)), (1, .int x)] := hl
  have hP : va_P (dC, dI) classes (mw cI cB cS cZ b K S ck cu F X) s.heap := hP
  have hD : va_D A (mw cI cB cS cZ b K S ck cu F X) := hD
  refine lv_iload_n hx hb d_Mod_isRow_0 rfl (lv_at hl 1 rfl) ?_
  refine lv_iconst (v := nI 1) hx hb d_Mod_isRow_1 (by decide) ?_
  refine lv_icmp_lt (tgt := 17) hx hb d_Mod_isRow_2 (by decide) (fun c_1 => ?_) (fun c_1 => ?_)
  · refine lv_iconst (v := 0) hx hb d_Mod_isRow_17 (by decide) ?_
    exact ps_zret hx hb hr hlocks hK hP hD hS rfl (Nat.le_of_ble_eq_true rfl) (Nat.le_of_ble_eq_true rfl) d_Mod_isRow_18 (⟨rfl, (if_neg (fun q => k2_nle c_1 q.1)).symm⟩)
  · refine lv_iload_n hx hb d_Mod_isRow_5 rfl (lv_at hl 1 rfl) ?_
    refine lv_aload_n hx hb d_Mod_isRow_6 rfl (lv_at hl 0 rfl) ?_
    refine va_get (D := (dC, dI)) (ci := cMod) (v := .int (nI (K 0))) (C := R_Mod) (T := F_Mod) (N := 27) hx hb hts i_Mod hown hK hP 0 rfl rfl 3 (by decide) (hts _ tw_240) (fun _ h9 => h9) rfl d_Mod_isRow_7 ?_
    refine lv_icmp_gt (tgt := 17) hx hb d_Mod_isRow_10 (by decide) (fun c_2 => ?_) (fun c_2 => ?_)
    · refine lv_iconst (v := 0) hx hb d_Mod_isRow_17 (by decide) ?_
      exact ps_zret hx hb hr hlocks hK hP hD hS rfl (Nat.le_of_ble_eq_true rfl) (Nat.le_of_ble_eq_true rfl) d_Mod_isRow_18 (⟨rfl, (if_neg (fun q => k2_nle c_2 q.2)).symm⟩)
    · refine lv_iconst (v := 1) hx hb d_Mod_isRow_13 (by decide) ?_
      refine lv_goto (tgt := 18) hx hb d_Mod_isRow_14 (by decide) ?_
      exact ps_zret hx hb hr hlocks hK hP hD hS rfl (Nat.le_of_ble_eq_true rfl) (Nat.le_of_ble_eq_true rfl) d_Mod_isRow_18 (⟨rfl, (if_pos ⟨k2_le c_1, k2_le c_2⟩).symm⟩)

set_option maxHeartbeats 4000000 in
set_option maxRecDepth 100000 in
/-- PageStoreModel.isDictionary -/
theorem m_isDic (l : Launch) (dC : Nat → ClassId) (dI : Nat → Nat → Nat) (cI : ClassId) (tys : List (ClassId × FieldType)) (ht : tys[0]? = some (cI, FieldType.int)) (cB cS cZ : ClassId) (htB : tys[1]? = some (cB, FieldType.byte)) (htS : tys[2]? = some (cS, FieldType.short)) (htZ : tys[3]? = some (cZ, FieldType.boolean)) (b K : Nat → Nat) (S : Nat) (ck cu : Int32) (F X : Nat → Nat → Int32) (hKb : ∀ j, K j ≤ 65536) (hSb : S ≤ 15) (x : Int32) : ps_mI classes l y_Mod_isDictionary w_Mod_isDictionary ({ frames := 0, cells := 0, slots := 0, locals := 0 }) (dC, dI) tys [.ref (b 0), .int x] (mw cI cB cS cZ b K S ck cu F X) (fun r u => u = mw cI cB cS cZ b K S ck cu F X ∧ r = (if nI 1 ≤ x ∧ x ≤ nI (K 3) then 1 else 0)) := by
  refine ps_mI_of (by decide) rfl (Nat.le_of_ble_eq_true rfl) ?_
  intro p e s m below meth c A ls C0 hA hK hP hD hS hl
  obtain ⟨hx, hb, hr, hml, hts, hown, hlocks, hin⟩ := C0
  have hl : lv_has ls 2 [(0, .ref (b 0)), (1, .int x)] := hl
  have hP : va_P (dC, dI) classes (mw cI cB cS cZ b K S ck cu F X) s.heap := hP
  have hD : va_D A (mw cI cB cS cZ b K S ck cu F X) := hD
  refine lv_iload_n hx hb d_Mod_isDictionary_0 rfl (lv_at hl 1 rfl) ?_
  refine lv_iconst (v := nI 1) hx hb d_Mod_isDictionary_1 (by decide) ?_
  refine lv_icmp_lt (tgt := 17) hx hb d_Mod_isDictionary_2 (by decide) (fun c_1 => ?_) (fun c_1 => ?_)
  · refine lv_iconst (v := 0) hx hb d_Mod_isDictionary_17 (by decide) ?_
    exact ps_zret hx hb hr hlocks hK hP hD hS rfl (Nat.le_of_ble_eq_true rfl) (Nat.le_of_ble_eq_true rfl) d_Mod_isDictionary_18 (⟨rfl, (if_neg (fun q => k2_nle c_1 q.1)).symm⟩)
  · refine lv_iload_n hx hb d_Mod_isDictionary_5 rfl (lv_at hl 1 rfl) ?_
    refine lv_aload_n hx hb d_Mod_isDictionary_6 rfl (lv_at hl 0 rfl) ?_
    refine va_get (D := (dC, dI)) (ci := cMod) (v := .int (nI (K 3))) (C := R_Mod) (T := F_Mod) (N := 27) hx hb hts i_Mod hown hK hP 0 rfl rfl 9 (by decide) (hts _ tw_241) (fun _ h9 => h9) rfl d_Mod_isDictionary_7 ?_
    refine lv_icmp_gt (tgt := 17) hx hb d_Mod_isDictionary_10 (by decide) (fun c_2 => ?_) (fun c_2 => ?_)
    · refine lv_iconst (v := 0) hx hb d_Mod_isDictionary_17 (by decide) ?_
      exact ps_zret hx hb hr hlocks hK hP hD hS rfl (Nat.le_of_ble_eq_true rfl) (Nat.le_of_ble_eq_true rfl) d_Mod_isDictionary_18 (⟨rfl, (if_neg (fun q => k2_nle c_2 q.2)).symm⟩)
    · refine lv_iconst (v := 1) hx hb d_Mod_isDictionary_13 (by decide) ?_
      refine lv_goto (tgt := 18) hx hb d_Mod_isDictionary_14 (by decide) ?_
      exact ps_zret hx hb hr hlocks hK hP hD hS rfl (Nat.le_of_ble_eq_true rfl) (Nat.le_of_ble_eq_true rfl) d_Mod_isDictionary_18 (⟨rfl, (if_pos ⟨k2_le c_1, k2_le c_2⟩).symm⟩)

set_option maxHeartbeats 4000000 in
set_option maxRecDepth 100000 in
/-- PageStoreModel.isKey -/
theorem m_isKey (l : Launch) (dC : Nat → ClassId) (dI : Nat → Nat → Nat) (cI : ClassId) (tys : List (ClassId × FieldType)) (ht : tys[0]? = some (cI, FieldType.int)) (x : Int32) : ps_mI classes l y_Mod_isKey w_Mod_isKey ({ frames := 0, cells := 0, slots := 0, locals := 0 }) (dC, dI) tys [.int x] ([]) (fun r u => u = [] ∧ r = (if nI 1 ≤ x ∧ x ≤ nI 15 then 1 else 0)) := by
  refine ps_mI_of (by decide) rfl (Nat.le_of_ble_eq_true rfl) ?_
  intro p e s m below meth c A ls C0 hA hK hP hD hS hl
  obtain ⟨hx, hb, hr, hml, hts, hown, hlocks, hin⟩ := C0
  have hl : lv_has ls 1 [(0, .int x)] := hl
  have hP : va_P (dC, dI) classes [] s.heap := hP
  have hD : va_D A [] := hD
  refine lv_iload_n hx hb d_Mod_isKey_0 rfl (lv_at hl 0 rfl) ?_
  refine lv_iconst (v := nI 1) hx hb d_Mod_isKey_1 (by decide) ?_
  refine lv_icmp_lt (tgt := 15) hx hb d_Mod_isKey_2 (by decide) (fun c_1 => ?_) (fun c_1 => ?_)
  · refine lv_iconst (v := 0) hx hb d_Mod_isKey_15 (by decide) ?_
    exact ps_zret hx hb hr hlocks hK hP hD hS rfl (Nat.le_of_ble_eq_true rfl) (Nat.le_of_ble_eq_true rfl) d_Mod_isKey_16 (⟨rfl, (if_neg (fun q => k2_nle c_1 q.1)).symm⟩)
  · refine lv_iload_n hx hb d_Mod_isKey_5 rfl (lv_at hl 0 rfl) ?_
    refine lv_bipush (v := nI 15) hx hb d_Mod_isKey_6 (by decide) ?_
    refine lv_icmp_gt (tgt := 15) hx hb d_Mod_isKey_8 (by decide) (fun c_2 => ?_) (fun c_2 => ?_)
    · refine lv_iconst (v := 0) hx hb d_Mod_isKey_15 (by decide) ?_
      exact ps_zret hx hb hr hlocks hK hP hD hS rfl (Nat.le_of_ble_eq_true rfl) (Nat.le_of_ble_eq_true rfl) d_Mod_isKey_16 (⟨rfl, (if_neg (fun q => k2_nle c_2 q.2)).symm⟩)
    · refine lv_iconst (v := 1) hx hb d_Mod_isKey_11 (by decide) ?_
      refine lv_goto (tgt := 16) hx hb d_Mod_isKey_12 (by decide) ?_
      exact ps_zret hx hb hr hlocks hK hP hD hS rfl (Nat.le_of_ble_eq_true rfl) (Nat.le_of_ble_eq_true rfl) d_Mod_isKey_16 (⟨rfl, (if_pos ⟨k2_le c_1, k2_le c_2⟩).symm⟩)

set_option maxHeartbeats 4000000 in
set_option maxRecDepth 100000 in
/-- PageStoreModel.row -/
theorem m_row (l : Launch) (dC : Nat → ClassId) (dI : Nat → Nat → Nat) (cI : ClassId) (tys : List (ClassId × FieldType)) (ht : tys[0]? = some (cI, FieldType.int)) (cB cS cZ : ClassId) (htB : tys[1]? = some (cB, FieldType.byte)) (htS : tys[2]? = some (cS, FieldType.short)) (htZ : tys[3]? = some (cZ, FieldType.boolean)) (b K : Nat → Nat) (S : Nat) (ck cu : Int32) (F X : Nat → Nat → Int32) (hKb : ∀ j, K j ≤ 65536) (hSb : S ≤ 15) (x s0 n : Int32) (hr : K 0 < 16384) (hx8 : x.toInt8.toInt32 = x) : ps_mI classes l y_Mod_row w_Mod_row ({ frames := 0, cells := 0, slots := 0, locals := 0 }) (dC, dI) tys [.ref (b 0), .int x, .int s0, .int n] (mw cI cB cS cZ b K S ck cu F X) (fun r u => r = nI (K 0 + 1) ∧ u = mw cI cB cS cZ b (va_up K 0 (K 0 + 1)) S ck cu (ps_Fr F (K 0 + 1) x s0 n) X) := by
  have hr0 := hr
  refine ps_mI_of (by decide) rfl (Nat.le_of_ble_eq_true rfl) ?_
  intro p e s m below meth c A ls C0 hA hK hP hD hS hl
  obtain ⟨hx, hb, hr, hml, hts, hown, hlocks, hin⟩ := C0
  have hl : lv_has ls 4 [(0, .ref (b 0)), (1, .int x), (2, .int s0), (3, .int n)] := hl
  have hP : va_P (dC, dI) classes (mw cI cB cS cZ b K S ck cu F X) s.heap := hP
  have hD : va_D A (mw cI cB cS cZ b K S ck cu F X) := hD
  refine lv_aload_n hx hb d_Mod_row_0 rfl (lv_at hl 0 rfl) ?_
  refine lv_dup hx hb d_Mod_row_1 rfl ?_
  refine va_get (D := (dC, dI)) (ci := cMod) (v := .int (nI (K 0))) (C := R_Mod) (T := F_Mod) (N := 27) hx hb hts i_Mod hown hK hP 0 rfl rfl 3 (by decide) (hts _ tw_240) (fun _ h9 => h9) rfl d_Mod_row_2 ?_
  refine lv_iconst (v := nI 1) hx hb d_Mod_row_5 (by decide) ?_
  refine lv_iadd hx hb d_Mod_row_6 ?_
  refine ps_top (z := nI (K 0 + 1)) (nI_add _ _) ?_
  refine va_put (D := (dC, dI)) (ci := cMod) (v := .int (nI (K 0 + 1))) (ty := .int) (C := R_Mod) (T := F_Mod) (N := 27) hx hb hts i_Mod t_Mod t_Mod_ok n_Mod hown hK hP hD hS 0 rfl rfl 3 (by decide) (hts _ tw_240) (fun _ h9 => h9) rfl (by decide +kernel) rfl rfl (Nat.le_of_ble_eq_true rfl) d_Mod_row_7 (fun H locs hP hD hS => ?_)
  have hP : va_P (dC, dI) classes (mw cI cB cS cZ b (va_up K 0 (K 0 + 1)) S ck cu F X) H := hP
  have hD : va_D A (mw cI cB cS cZ b (va_up K 0 (K 0 + 1)) S ck cu F X) := hD
  refine lv_aload_n hx hb d_Mod_row_10 rfl (lv_at hl 0 rfl) ?_
  refine va_get (D := (dC, dI)) (ci := cMod) (v := .ref (b 1)) (C := R_Mod) (T := F_Mod) (N := 27) hx hb hts i_Mod hown hK hP 0 rfl rfl 0 (by decide) (hts _ tw_242) (fun _ h9 => h9) rfl d_Mod_row_11 ?_
  refine lv_aload_n hx hb d_Mod_row_14 rfl (lv_at hl 0 rfl) ?_
  refine va_get (D := (dC, dI)) (ci := cMod) (v := .int (nI (K 0 + 1))) (C := R_Mod) (T := F_Mod) (N := 27) hx hb hts i_Mod hown hK hP 0 rfl rfl 3 (by decide) (hts _ tw_240) (fun _ h9 => h9) rfl d_Mod_row_15 ?_
  refine lv_iload_n hx hb d_Mod_row_18 rfl (lv_at hl 1 rfl) ?_
  refine lv_i2b (v := x) hx hb d_Mod_row_19 hx8 ?_
  refine va_bast (f := F 4) hx hb hK hP hD hS 1 1 rfl htB (vp_in_nI (show K 0 + 1 < 16385 from by omega) (by decide)) d_Mod_row_20 (fun H locs hP hD hS => ?_)
  rw [nI_clamp (show K 0 + 1 < 2 ^ 31 from by omega), (show vp_nar .byte x = x by rw [vp_nar_byte, hx8])] at hP hD
  have hP : va_P (dC, dI) classes (mw cI cB cS cZ b (va_up K 0 (K 0 + 1)) S ck cu (va_up F 4 (upd (F 4) (K 0 + 1) x)) X) H := hP
  have hD : va_D A (mw cI cB cS cZ b (va_up K 0 (K 0 + 1)) S ck cu (va_up F 4 (upd (F 4) (K 0 + 1) x)) X) := hD
  refine lv_aload_n hx hb d_Mod_row_21 rfl (lv_at hl 0 rfl) ?_
  refine va_get (D := (dC, dI)) (ci := cMod) (v := .ref (b 2)) (C := R_Mod) (T := F_Mod) (N := 27) hx hb hts i_Mod hown hK hP 0 rfl rfl 1 (by decide) (hts _ tw_243) (fun _ h9 => h9) rfl d_Mod_row_22 ?_
  refine lv_aload_n hx hb d_Mod_row_25 rfl (lv_at hl 0 rfl) ?_
  refine va_get (D := (dC, dI)) (ci := cMod) (v := .int (nI (K 0 + 1))) (C := R_Mod) (T := F_Mod) (N := 27) hx hb hts i_Mod hown hK hP 0 rfl rfl 3 (by decide) (hts _ tw_240) (fun _ h9 => h9) rfl d_Mod_row_26 ?_
  refine lv_iload_n hx hb d_Mod_row_29 rfl (lv_at hl 2 rfl) ?_
  refine va_iast (f := F 5) hx hb hK hP hD hS 2 0 rfl ht (vp_in_nI (show K 0 + 1 < 16385 from by omega) (by decide)) d_Mod_row_30 (fun H locs hP hD hS => ?_)
  rw [nI_clamp (show K 0 + 1 < 2 ^ 31 from by omega)] at hP hD
  have hP : va_P (dC, dI) classes (mw cI cB cS cZ b (va_up K 0 (K 0 + 1)) S ck cu (va_up (va_up F 4 (upd (F 4) (K 0 + 1) x)) 5 (upd (F 5) (K 0 + 1) s0)) X) H := hP
  have hD : va_D A (mw cI cB cS cZ b (va_up K 0 (K 0 + 1)) S ck cu (va_up (va_up F 4 (upd (F 4) (K 0 + 1) x)) 5 (upd (F 5) (K 0 + 1) s0)) X) := hD
  refine lv_aload_n hx hb d_Mod_row_31 rfl (lv_at hl 0 rfl) ?_
  refine va_get (D := (dC, dI)) (ci := cMod) (v := .ref (b 3)) (C := R_Mod) (T := F_Mod) (N := 27) hx hb hts i_Mod hown hK hP 0 rfl rfl 2 (by decide) (hts _ tw_244) (fun _ h9 => h9) rfl d_Mod_row_32 ?_
  refine lv_aload_n hx hb d_Mod_row_35 rfl (lv_at hl 0 rfl) ?_
  refine va_get (D := (dC, dI)) (ci := cMod) (v := .int (nI (K 0 + 1))) (C := R_Mod) (T := F_Mod) (N := 27) hx hb hts i_Mod hown hK hP 0 rfl rfl 3 (by decide) (hts _ tw_240) (fun _ h9 => h9) rfl d_Mod_row_36 ?_
  refine lv_iload_n hx hb d_Mod_row_39 rfl (lv_at hl 3 rfl) ?_
  refine va_iast (f := F 6) hx hb hK hP hD hS 3 0 rfl ht (vp_in_nI (show K 0 + 1 < 16385 from by omega) (by decide)) d_Mod_row_40 (fun H locs hP hD hS => ?_)
  rw [nI_clamp (show K 0 + 1 < 2 ^ 31 from by omega)] at hP hD
  have hP : va_P (dC, dI) classes (mw cI cB cS cZ b (va_up K 0 (K 0 + 1)) S ck cu (va_up (va_up (va_up F 4 (upd (F 4) (K 0 + 1) x)) 5 (upd (F 5) (K 0 + 1) s0)) 6 (upd (F 6) (K 0 + 1) n)) X) H := hP
  have hD : va_D A (mw cI cB cS cZ b (va_up K 0 (K 0 + 1)) S ck cu (va_up (va_up (va_up F 4 (upd (F 4) (K 0 + 1) x)) 5 (upd (F 5) (K 0 + 1) s0)) 6 (upd (F 6) (K 0 + 1) n)) X) := hD
  refine lv_aload_n hx hb d_Mod_row_41 rfl (lv_at hl 0 rfl) ?_
  refine va_get (D := (dC, dI)) (ci := cMod) (v := .int (nI (K 0 + 1))) (C := R_Mod) (T := F_Mod) (N := 27) hx hb hts i_Mod hown hK hP 0 rfl rfl 3 (by decide) (hts _ tw_240) (fun _ h9 => h9) rfl d_Mod_row_42 ?_
  exact ps_iret hx hb hr hlocks hK hP hD hS (Nat.le_of_ble_eq_true rfl) (Nat.le_of_ble_eq_true rfl) d_Mod_row_45 (⟨rfl, rfl⟩)

set_option maxHeartbeats 4000000 in
set_option maxRecDepth 100000 in
/-- PageStoreModel.values -/
theorem m_values (l : Launch) (dC : Nat → ClassId) (dI : Nat → Nat → Nat) (cI : ClassId) (tys : List (ClassId × FieldType)) (ht : tys[0]? = some (cI, FieldType.int)) (cB cS cZ : ClassId) (htB : tys[1]? = some (cB, FieldType.byte)) (htS : tys[2]? = some (cS, FieldType.short)) (htZ : tys[3]? = some (cZ, FieldType.boolean)) (b K : Nat → Nat) (S : Nat) (ck cu : Int32) (F X : Nat → Nat → Int32) (hKb : ∀ j, K j ≤ 65536) (hSb : S ≤ 15) (n : Int32) (hk0 : K 0 ≤ 16384) (hk1 : K 1 ≤ 32768) : ps_mI classes l y_Mod_values w_Mod_values ({ frames := 1, cells := 0, slots := 0, locals := 23 }) (dC, dI) tys [.ref (b 0), .int n] (mw cI cB cS cZ b K S ck cu F X) (fun r u => ps_c (n < 0 ∨ nI 32768 < n) (r = -1 ∧ u = mw cI cB cS cZ b K S ck cu F X) (ps_c (16384 ≤ K 0 ∨ 32768 < K 1 + n.toNatClampNeg) (r = -3 ∧ u = mw cI cB cS cZ b K S ck cu F X) (r = nI (K 0 + 1) ∧ u = mw cI cB cS cZ b (va_up (va_up K 1 (K 1 + n.toNatClampNeg)) 0 (K 0 + 1)) S ck cu (ps_Fr (ps_w (ps_w F 2 (K 1) (K 1 + n.toNatClampNeg)) 3 (K 1) (K 1 + n.toNatClampNeg)) (K 0 + 1) (nI 1) (nI (K 1)) n) X))) := by
  refine ps_mI_of (by decide) rfl (Nat.le_of_ble_eq_true rfl) ?_
  intro p e s m below meth c A ls C0 hA hK hP hD hS hl
  obtain ⟨hx, hb, hr, hml, hts, hown, hlocks, hin⟩ := C0
  have hl : lv_has ls 3 [(0, .ref (b 0)), (1, .int n)] := hl
  have hP : va_P (dC, dI) classes (mw cI cB cS cZ b K S ck cu F X) s.heap := hP
  have hD : va_D A (mw cI cB cS cZ b K S ck cu F X) := hD
  refine lv_iload_n hx hb d_Mod_values_0 rfl (lv_at hl 1 rfl) ?_
  refine lv_if_lt (tgt := 10) hx hb d_Mod_values_1 (by decide) (fun c_1 => ?_) (fun c_1 => ?_)
  · refine lv_iconst (v := (-1)) hx hb d_Mod_values_10 (by decide) ?_
    exact ps_iret hx hb hr hlocks hK hP hD hS (Nat.le_of_ble_eq_true rfl) (Nat.le_of_ble_eq_true rfl) d_Mod_values_11 (ps_cy (Or.inl c_1) ⟨rfl, rfl⟩)
  · refine lv_iload_n hx hb d_Mod_values_4 rfl (lv_at hl 1 rfl) ?_
    refine lv_ldc (v := 32768) hx hb hown (hts _ tw_245) d_Mod_values_5 ?_
    refine ps_top (z := nI 32768) (by decide) ?_
    refine lv_icmp_le (tgt := 12) hx hb d_Mod_values_7 (by decide) (fun c_2 => ?_) (fun c_2 => ?_)
    · obtain ⟨n0, hn0, rfl⟩ := nI_of c_1
      have c_2 : n0 ≤ 32768 := (nI_leI hn0 (by decide)).mp c_2
      rw [nI_clamp hn0]
      have hna : ¬ (nI n0 < 0 ∨ nI 32768 < nI n0) := fun q => q.elim (nI_pos hn0) (nI_nlt (by omega) (by decide))
      refine lv_aload_n hx hb d_Mod_values_12 rfl (lv_at hl 0 rfl) ?_
      refine va_get (D := (dC, dI)) (ci := cMod) (v := .int (nI (K 0))) (C := R_Mod) (T := F_Mod) (N := 27) hx hb hts i_Mod hown hK hP 0 rfl rfl 3 (by decide) (hts _ tw_240) (fun _ h9 => h9) rfl d_Mod_values_13 ?_
      refine lv_sipush (v := nI 16384) hx hb d_Mod_values_16 (by decide) ?_
      refine lv_icmp_eq (tgt := 33) hx hb d_Mod_values_19 (by decide) (fun c_3 => ?_) (fun c_3 => ?_)
      · have c_3 : K 0 = 16384 := (nI_eq (by have h0 := hKb 0; have h1 := hKb 1; have h2 := hKb 2; have h3 := hKb 3; have h4 := hKb 4; have h5 := hKb 5; omega) (by have h0 := hKb 0; have h1 := hKb 1; have h2 := hKb 2; have h3 := hKb 3; have h4 := hKb 4; have h5 := hKb 5; omega)).mp c_3
        refine lv_bipush (v := (-3)) hx hb d_Mod_values_33 (by decide) ?_
        exact ps_iret hx hb hr hlocks hK hP hD hS (Nat.le_of_ble_eq_true rfl) (Nat.le_of_ble_eq_true rfl) d_Mod_values_35 (ps_cn hna (ps_cy (by omega) ⟨rfl, rfl⟩))
      · have c_3 : ¬ K 0 = 16384 := fun q => c_3 ((nI_eq (by have h0 := hKb 0; have h1 := hKb 1; have h2 := hKb 2; have h3 := hKb 3; have h4 := hKb 4; have h5 := hKb 5; omega) (by have h0 := hKb 0; have h1 := hKb 1; have h2 := hKb 2; have h3 := hKb 3; have h4 := hKb 4; have h5 := hKb 5; omega)).mpr q)
        refine lv_aload_n hx hb d_Mod_values_22 rfl (lv_at hl 0 rfl) ?_
        refine va_get (D := (dC, dI)) (ci := cMod) (v := .int (nI (K 1))) (C := R_Mod) (T := F_Mod) (N := 27) hx hb hts i_Mod hown hK hP 0 rfl rfl 6 (by decide) (hts _ tw_246) (fun _ h9 => h9) rfl d_Mod_values_23 ?_
        refine lv_iload_n hx hb d_Mod_values_26 rfl (lv_at hl 1 rfl) ?_
        refine lv_iadd hx hb d_Mod_values_27 ?_
        refine ps_top (z := nI (K 1 + n0)) (nI_add _ _) ?_
        refine lv_ldc (v := 32768) hx hb hown (hts _ tw_245) d_Mod_values_28 ?_
        refine ps_top (z := nI 32768) (by decide) ?_
        refine lv_icmp_le (tgt := 36) hx hb d_Mod_values_30 (by decide) (fun c_4 => ?_) (fun c_4 => ?_)
        · have c_4 : K 1 + n0 ≤ 32768 := (nI_leI (by have h0 := hKb 0; have h1 := hKb 1; have h2 := hKb 2; have h3 := hKb 3; have h4 := hKb 4; have h5 := hKb 5; omega) (by have h0 := hKb 0; have h1 := hKb 1; have h2 := hKb 2; have h3 := hKb 3; have h4 := hKb 4; have h5 := hKb 5; omega)).mp c_4
          refine lv_iconst (v := nI 0) hx hb d_Mod_values_36 (by decide) ?_
          refine lv_istore_n (lv' := [(2, .int (nI 0)), (0, .ref (b 0)), (1, .int (nI n0))]) hx hb d_Mod_values_37 rfl hl (by decide) rfl (fun ls hl => ?_)
          refine ps_loop (α := Nat) (fun i => 0) (fun i => 0) (fun i => n0 - i) (fun i H locs ls => lv_has ls 3 [(2, .int (nI i)), (0, .ref (b 0)), (1, .int (nI n0))] ∧ va_P (dC, dI) classes (mw cI cB cS cZ b K S ck cu (va_up (va_up F 2 (ps_fil (F 2) (K 1) (K 1 + i) 0)) 3 (ps_fil (F 3) (K 1) (K 1 + i) 0)) X) H ∧ va_D A (mw cI cB cS cZ b K S ck cu (va_up (va_up F 2 (ps_fil (F 2) (K 1) (K 1 + i) 0)) 3 (ps_fil (F 3) (K 1) (K 1 + i) 0)) X) ∧ va_S A s.heap H locs ∧ i ≤ n0) ?_ 0 _ _ ls ⟨lv_sub hl [0, 1, 2] rfl, (by have e0 : va_up F 2 (ps_fil (F 2) (K 1) (K 1 + 0) 0) = F := (funext fun j => by by_cases h : j = 2 <;> simp [va_up, h, ps_fil_0]); have e1 : va_up F 3 (ps_fil (F 3) (K 1) (K 1 + 0) 0) = F := (funext fun j => by by_cases h : j = 3 <;> simp [va_up, h, ps_fil_0]); rw [e0, e1]; exact hP), (by have e0 : va_up F 2 (ps_fil (F 2) (K 1) (K 1 + 0) 0) = F := (funext fun j => by by_cases h : j = 2 <;> simp [va_up, h, ps_fil_0]); have e1 : va_up F 3 (ps_fil (F 3) (K 1) (K 1 + 0) 0) = F := (funext fun j => by by_cases h : j = 3 <;> simp [va_up, h, ps_fil_0]); rw [e0, e1]; exact hD), hS, Nat.zero_le _⟩
          intro i H locs ls hI ih
          obtain ⟨hl, hP, hD, hS, hin⟩ := hI
          refine lv_iload_n hx hb d_Mod_values_38 rfl (lv_at hl 0 rfl) ?_
          refine lv_iload_n hx hb d_Mod_values_39 rfl (lv_at hl 2 rfl) ?_
          refine lv_icmp_ge (tgt := 73) hx hb d_Mod_values_40 (by decide) (fun c_5 => ?_) (fun c_5 => ?_)
          · have c_5 : n0 ≤ i := (nI_leI (by have h0 := hKb 0; have h1 := hKb 1; have h2 := hKb 2; have h3 := hKb 3; have h4 := hKb 4; have h5 := hKb 5; omega) (by have h0 := hKb 0; have h1 := hKb 1; have h2 := hKb 2; have h3 := hKb 3; have h4 := hKb 4; have h5 := hKb 5; omega)).mp c_5
            have hi9 : i = n0 := by omega
            subst hi9
            refine lv_aload_n hx hb d_Mod_values_73 rfl (lv_at hl 1 rfl) ?_
            refine lv_dup hx hb d_Mod_values_74 rfl ?_
            refine va_get (D := (dC, dI)) (ci := cMod) (v := .int (nI (K 1))) (C := R_Mod) (T := F_Mod) (N := 27) hx hb hts i_Mod hown hK hP 0 rfl rfl 6 (by decide) (hts _ tw_246) (fun _ h9 => h9) rfl d_Mod_values_75 ?_
            refine lv_iload_n hx hb d_Mod_values_78 rfl (lv_at hl 2 rfl) ?_
            refine lv_iadd hx hb d_Mod_values_79 ?_
            refine ps_top (z := nI (K 1 + i)) (nI_add _ _) ?_
            refine va_put (D := (dC, dI)) (ci := cMod) (v := .int (nI (K 1 + i))) (ty := .int) (C := R_Mod) (T := F_Mod) (N := 27) hx hb hts i_Mod t_Mod t_Mod_ok n_Mod hown hK hP hD hS 0 rfl rfl 6 (by decide) (hts _ tw_246) (fun _ h9 => h9) rfl (by decide +kernel) rfl rfl (Nat.le_of_ble_eq_true rfl) d_Mod_values_80 (fun H locs hP hD hS => ?_)
            have hP : va_P (dC, dI) classes (mw cI cB cS cZ b (va_up K 1 (K 1 + i)) S ck cu (va_up (va_up F 2 (ps_fil (F 2) (K 1) (K 1 + i) 0)) 3 (ps_fil (F 3) (K 1) (K 1 + i) 0)) X) H := hP
            have hD : va_D A (mw cI cB cS cZ b (va_up K 1 (K 1 + i)) S ck cu (va_up (va_up F 2 (ps_fil (F 2) (K 1) (K 1 + i) 0)) 3 (ps_fil (F 3) (K 1) (K 1 + i) 0)) X) := hD
            refine lv_aload_n hx hb d_Mod_values_83 rfl (lv_at hl 1 rfl) ?_
            refine lv_iconst (v := nI 1) hx hb d_Mod_values_84 (by decide) ?_
            refine lv_aload_n hx hb d_Mod_values_85 rfl (lv_at hl 1 rfl) ?_
            refine va_get (D := (dC, dI)) (ci := cMod) (v := .int (nI (K 1 + i))) (C := R_Mod) (T := F_Mod) (N := 27) hx hb hts i_Mod hown hK hP 0 rfl rfl 6 (by decide) (hts _ tw_246) (fun _ h9 => h9) rfl d_Mod_values_86 ?_
            refine lv_iload_n hx hb d_Mod_values_89 rfl (lv_at hl 2 rfl) ?_
            refine lv_isub hx hb d_Mod_values_90 ?_
            refine ps_top (z := nI (K 1)) (by rw [pk_sub (by omega)]; congr 1; omega) ?_
            refine lv_iload_n hx hb d_Mod_values_91 rfl (lv_at hl 2 rfl) ?_
            refine ps_afterI (wc := (mw cI cB cS cZ b (va_up K 1 (K 1 + i)) S ck cu (va_up (va_up F 2 (ps_fil (F 2) (K 1) (K 1 + i) 0)) 3 (ps_fil (F 3) (K 1) (K 1 + i) 0)) X)) (wr := []) hP hD hS hA [0, 1, 2, 3, 4, 5, 6, 7, 8, 9, 10, 11, 12, 13, 14, 15, 16, 17, 18] [] rfl rfl (by decide) (by decide) (ps_runVI ⟨hx, hb, hml, hown, hts⟩ (m_row l dC dI cI tys ht cB cS cZ htB htS htZ b (va_up K 1 (K 1 + i)) S ck cu (va_up (va_up F 2 (ps_fil (F 2) (K 1) (K 1 + i) 0)) 3 (ps_fil (F 3) (K 1) (K 1 + i) 0)) X (ps_kb (x := K 1 + i) hKb (by omega)) hSb (nI 1) (nI (K 1)) (nI i) (show K 0 < 16384 by omega) (mo_b8 (by decide))) (ps_cwV ps_gd 3 hts tw_247 k_Mod_row e_Mod_row ⟨Nat.le_of_ble_eq_true rfl, Nat.le_of_ble_eq_true rfl⟩) hK hP hD [0, 1, 2, 3, 4, 5, 6, 7, 8, 9, 10, 11, 12, 13, 14, 15, 16, 17, 18] (by decide) rfl 0 cMod rfl rfl rfl hl.1 rfl (Nat.le_of_ble_eq_true rfl) d_Mod_values_92 ⟨Nat.zero_le _, Nat.zero_le _⟩) (fun r_7 u_6 H locs hu_6 hP hD hS => ?_)
            obtain ⟨hr_7, hu_6⟩ := hu_6
            subst hr_7
            subst hu_6
            have hP : va_P (dC, dI) classes (mw cI cB cS cZ b (va_up (va_up K 1 (K 1 + i)) 0 (K 0 + 1)) S ck cu (va_up (va_up (va_up (va_up (va_up F 2 (ps_fil (F 2) (K 1) (K 1 + i) 0)) 3 (ps_fil (F 3) (K 1) (K 1 + i) 0)) 4 (upd (F 4) (K 0 + 1) (nI 1))) 5 (upd (F 5) (K 0 + 1) (nI (K 1)))) 6 (upd (F 6) (K 0 + 1) (nI i))) X) H := hP
            have hD : va_D A (mw cI cB cS cZ b (va_up (va_up K 1 (K 1 + i)) 0 (K 0 + 1)) S ck cu (va_up (va_up (va_up (va_up (va_up F 2 (ps_fil (F 2) (K 1) (K 1 + i) 0)) 3 (ps_fil (F 3) (K 1) (K 1 + i) 0)) 4 (upd (F 4) (K 0 + 1) (nI 1))) 5 (upd (F 5) (K 0 + 1) (nI (K 1)))) 6 (upd (F 6) (K 0 + 1) (nI i))) X) := hD
            exact ps_iret hx hb hr hlocks hK hP hD hS (Nat.le_of_ble_eq_true rfl) (Nat.le_of_ble_eq_true rfl) d_Mod_values_95 (ps_cn hna (ps_cn (by omega) ⟨rfl, rfl⟩))
          · have c_5 : ¬ n0 ≤ i := fun q => c_5 ((nI_leI (by have h0 := hKb 0; have h1 := hKb 1; have h2 := hKb 2; have h3 := hKb 3; have h4 := hKb 4; have h5 := hKb 5; omega) (by have h0 := hKb 0; have h1 := hKb 1; have h2 := hKb 2; have h3 := hKb 3; have h4 := hKb 4; have h5 := hKb 5; omega)).mpr q)
            refine lv_aload_n hx hb d_Mod_values_43 rfl (lv_at hl 1 rfl) ?_
            refine va_get (D := (dC, dI)) (ci := cMod) (v := .ref (b 4)) (C := R_Mod) (T := F_Mod) (N := 27) hx hb hts i_Mod hown hK hP 0 rfl rfl 4 (by decide) (hts _ tw_248) (fun _ h9 => h9) rfl d_Mod_values_44 ?_
            refine lv_aload_n hx hb d_Mod_values_47 rfl (lv_at hl 1 rfl) ?_
            refine va_get (D := (dC, dI)) (ci := cMod) (v := .int (nI (K 1))) (C := R_Mod) (T := F_Mod) (N := 27) hx hb hts i_Mod hown hK hP 0 rfl rfl 6 (by decide) (hts _ tw_246) (fun _ h9 => h9) rfl d_Mod_values_48 ?_
            refine lv_iload_n hx hb d_Mod_values_51 rfl (lv_at hl 0 rfl) ?_
            refine lv_iadd hx hb d_Mod_values_52 ?_
            refine ps_top (z := nI (K 1 + i)) (nI_add _ _) ?_
            refine lv_iconst (v := 0) hx hb d_Mod_values_53 (by decide) ?_
            refine va_bast (f := ps_fil (F 2) (K 1) (K 1 + i) 0) hx hb hK hP hD hS 4 1 rfl htB (vp_in_nI (show K 1 + i < 32768 from by omega) (by decide)) d_Mod_values_54 (fun H locs hP hD hS => ?_)
            rw [nI_clamp (show K 1 + i < 2 ^ 31 from by omega), (show vp_nar .byte 0 = 0 by decide)] at hP hD
            rw [ps_fil_s (by omega)] at hP hD
            have hP : va_P (dC, dI) classes (mw cI cB cS cZ b K S ck cu (va_up (va_up F 2 (ps_fil (F 2) (K 1) (K 1 + (i + 1)) 0)) 3 (ps_fil (F 3) (K 1) (K 1 + i) 0)) X) H := hP
            have hD : va_D A (mw cI cB cS cZ b K S ck cu (va_up (va_up F 2 (ps_fil (F 2) (K 1) (K 1 + (i + 1)) 0)) 3 (ps_fil (F 3) (K 1) (K 1 + i) 0)) X) := hD
            refine lv_aload_n hx hb d_Mod_values_55 rfl (lv_at hl 1 rfl) ?_
            refine va_get (D := (dC, dI)) (ci := cMod) (v := .ref (b 5)) (C := R_Mod) (T := F_Mod) (N := 27) hx hb hts i_Mod hown hK hP 0 rfl rfl 5 (by decide) (hts _ tw_249) (fun _ h9 => h9) rfl d_Mod_values_56 ?_
            refine lv_aload_n hx hb d_Mod_values_59 rfl (lv_at hl 1 rfl) ?_
            refine va_get (D := (dC, dI)) (ci := cMod) (v := .int (nI (K 1))) (C := R_Mod) (T := F_Mod) (N := 27) hx hb hts i_Mod hown hK hP 0 rfl rfl 6 (by decide) (hts _ tw_246) (fun _ h9 => h9) rfl d_Mod_values_60 ?_
            refine lv_iload_n hx hb d_Mod_values_63 rfl (lv_at hl 0 rfl) ?_
            refine lv_iadd hx hb d_Mod_values_64 ?_
            refine ps_top (z := nI (K 1 + i)) (nI_add _ _) ?_
            refine lv_iconst (v := 0) hx hb d_Mod_values_65 (by decide) ?_
            refine va_iast (f := ps_fil (F 3) (K 1) (K 1 + i) 0) hx hb hK hP hD hS 5 0 rfl ht (vp_in_nI (show K 1 + i < 32768 from by omega) (by decide)) d_Mod_values_66 (fun H locs hP hD hS => ?_)
            rw [nI_clamp (show K 1 + i < 2 ^ 31 from by omega)] at hP hD
            rw [ps_fil_s (by omega)] at hP hD
            have hP : va_P (dC, dI) classes (mw cI cB cS cZ b K S ck cu (va_up (va_up F 2 (ps_fil (F 2) (K 1) (K 1 + (i + 1)) 0)) 3 (ps_fil (F 3) (K 1) (K 1 + (i + 1)) 0)) X) H := hP
            have hD : va_D A (mw cI cB cS cZ b K S ck cu (va_up (va_up F 2 (ps_fil (F 2) (K 1) (K 1 + (i + 1)) 0)) 3 (ps_fil (F 3) (K 1) (K 1 + (i + 1)) 0)) X) := hD
            refine lv_iinc (v := nI (i + 1)) (lv' := [(2, .int (nI (i + 1))), (0, .ref (b 0)), (1, .int (nI n0))]) hx hb d_Mod_values_67 hl (k := 0) rfl (nI_1 _) (by decide) rfl (fun ls hl => ?_)
            refine lv_goto (tgt := 38) hx hb d_Mod_values_70 (by decide) ?_
            exact ih (i + 1) _ _ ls (by omega) ⟨lv_sub hl [0, 1, 2] rfl, hP, hD, hS, by omega⟩
        · have c_4 : ¬ K 1 + n0 ≤ 32768 := fun q => c_4 ((nI_leI (by have h0 := hKb 0; have h1 := hKb 1; have h2 := hKb 2; have h3 := hKb 3; have h4 := hKb 4; have h5 := hKb 5; omega) (by have h0 := hKb 0; have h1 := hKb 1; have h2 := hKb 2; have h3 := hKb 3; have h4 := hKb 4; have h5 := hKb 5; omega)).mpr q)
          refine lv_bipush (v := (-3)) hx hb d_Mod_values_33 (by decide) ?_
          exact ps_iret hx hb hr hlocks hK hP hD hS (Nat.le_of_ble_eq_true rfl) (Nat.le_of_ble_eq_true rfl) d_Mod_values_35 (ps_cn hna (ps_cy (by omega) ⟨rfl, rfl⟩))
    · refine lv_iconst (v := (-1)) hx hb d_Mod_values_10 (by decide) ?_
      exact ps_iret hx hb hr hlocks hK hP hD hS (Nat.le_of_ble_eq_true rfl) (Nat.le_of_ble_eq_true rfl) d_Mod_values_11 (ps_cy (Or.inr (k2_lt c_2)) ⟨rfl, rfl⟩)

set_option maxHeartbeats 4000000 in
set_option maxRecDepth 100000 in
/-- PageStoreModel.bytes -/
theorem m_bytes (l : Launch) (dC : Nat → ClassId) (dI : Nat → Nat → Nat) (cI : ClassId) (tys : List (ClassId × FieldType)) (ht : tys[0]? = some (cI, FieldType.int)) (cB cS cZ : ClassId) (htB : tys[1]? = some (cB, FieldType.byte)) (htS : tys[2]? = some (cS, FieldType.short)) (htZ : tys[3]? = some (cZ, FieldType.boolean)) (b K : Nat → Nat) (S : Nat) (ck cu : Int32) (F X : Nat → Nat → Int32) (hKb : ∀ j, K j ≤ 65536) (hSb : S ≤ 15) (n : Int32) (hk0 : K 0 ≤ 16384) (hk1 : K 2 ≤ 65536) : ps_mI classes l y_Mod_bytes w_Mod_bytes ({ frames := 1, cells := 0, slots := 0, locals := 23 }) (dC, dI) tys [.ref (b 0), .int n] (mw cI cB cS cZ b K S ck cu F X) (fun r u => ps_c (n < 0 ∨ nI 65536 < n) (r = -1 ∧ u = mw cI cB cS cZ b K S ck cu F X) (ps_c (16384 ≤ K 0 ∨ 65536 < K 2 + n.toNatClampNeg) (r = -3 ∧ u = mw cI cB cS cZ b K S ck cu F X) (r = nI (K 0 + 1) ∧ u = mw cI cB cS cZ b (va_up (va_up K 2 (K 2 + n.toNatClampNeg)) 0 (K 0 + 1)) S ck cu (ps_Fr (ps_w F 1 (K 2) (K 2 + n.toNatClampNeg)) (K 0 + 1) (nI 2) (nI (K 2)) n) (ps_w X 0 (K 2) (K 2 + n.toNatClampNeg))))) := by
  refine ps_mI_of (by decide) rfl (Nat.le_of_ble_eq_true rfl) ?_
  intro p e s m below meth c A ls C0 hA hK hP hD hS hl
  obtain ⟨hx, hb, hr, hml, hts, hown, hlocks, hin⟩ := C0
  have hl : lv_has ls 3 [(0, .ref (b 0)), (1, .int n)] := hl
  have hP : va_P (dC, dI) classes (mw cI cB cS cZ b K S ck cu F X) s.heap := hP
  have hD : va_D A (mw cI cB cS cZ b K S ck cu F X) := hD
  refine lv_iload_n hx hb d_Mod_bytes_0 rfl (lv_at hl 1 rfl) ?_
  refine lv_if_lt (tgt := 10) hx hb d_Mod_bytes_1 (by decide) (fun c_1 => ?_) (fun c_1 => ?_)
  · refine lv_iconst (v := (-1)) hx hb d_Mod_bytes_10 (by decide) ?_
    exact ps_iret hx hb hr hlocks hK hP hD hS (Nat.le_of_ble_eq_true rfl) (Nat.le_of_ble_eq_true rfl) d_Mod_bytes_11 (ps_cy (Or.inl c_1) ⟨rfl, rfl⟩)
  · refine lv_iload_n hx hb d_Mod_bytes_4 rfl (lv_at hl 1 rfl) ?_
    refine lv_ldc (v := 65536) hx hb hown (hts _ tw_250) d_Mod_bytes_5 ?_
    refine ps_top (z := nI 65536) (by decide) ?_
    refine lv_icmp_le (tgt := 12) hx hb d_Mod_bytes_7 (by decide) (fun c_2 => ?_) (fun c_2 => ?_)
    · obtain ⟨n0, hn0, rfl⟩ := nI_of c_1
      have c_2 : n0 ≤ 65536 := (nI_leI hn0 (by decide)).mp c_2
      rw [nI_clamp hn0]
      have hna : ¬ (nI n0 < 0 ∨ nI 65536 < nI n0) := fun q => q.elim (nI_pos hn0) (nI_nlt (by omega) (by decide))
      refine lv_aload_n hx hb d_Mod_bytes_12 rfl (lv_at hl 0 rfl) ?_
      refine va_get (D := (dC, dI)) (ci := cMod) (v := .int (nI (K 0))) (C := R_Mod) (T := F_Mod) (N := 27) hx hb hts i_Mod hown hK hP 0 rfl rfl 3 (by decide) (hts _ tw_240) (fun _ h9 => h9) rfl d_Mod_bytes_13 ?_
      refine lv_sipush (v := nI 16384) hx hb d_Mod_bytes_16 (by decide) ?_
      refine lv_icmp_eq (tgt := 33) hx hb d_Mod_bytes_19 (by decide) (fun c_3 => ?_) (fun c_3 => ?_)
      · have c_3 : K 0 = 16384 := (nI_eq (by have h0 := hKb 0; have h1 := hKb 1; have h2 := hKb 2; have h3 := hKb 3; have h4 := hKb 4; have h5 := hKb 5; omega) (by have h0 := hKb 0; have h1 := hKb 1; have h2 := hKb 2; have h3 := hKb 3; have h4 := hKb 4; have h5 := hKb 5; omega)).mp c_3
        refine lv_bipush (v := (-3)) hx hb d_Mod_bytes_33 (by decide) ?_
        exact ps_iret hx hb hr hlocks hK hP hD hS (Nat.le_of_ble_eq_true rfl) (Nat.le_of_ble_eq_true rfl) d_Mod_bytes_35 (ps_cn hna (ps_cy (by omega) ⟨rfl, rfl⟩))
      · have c_3 : ¬ K 0 = 16384 := fun q => c_3 ((nI_eq (by have h0 := hKb 0; have h1 := hKb 1; have h2 := hKb 2; have h3 := hKb 3; have h4 := hKb 4; have h5 := hKb 5; omega) (by have h0 := hKb 0; have h1 := hKb 1; have h2 := hKb 2; have h3 := hKb 3; have h4 := hKb 4; have h5 := hKb 5; omega)).mpr q)
        refine lv_aload_n hx hb d_Mod_bytes_22 rfl (lv_at hl 0 rfl) ?_
        refine va_get (D := (dC, dI)) (ci := cMod) (v := .int (nI (K 2))) (C := R_Mod) (T := F_Mod) (N := 27) hx hb hts i_Mod hown hK hP 0 rfl rfl 8 (by decide) (hts _ tw_251) (fun _ h9 => h9) rfl d_Mod_bytes_23 ?_
        refine lv_iload_n hx hb d_Mod_bytes_26 rfl (lv_at hl 1 rfl) ?_
        refine lv_iadd hx hb d_Mod_bytes_27 ?_
        refine ps_top (z := nI (K 2 + n0)) (nI_add _ _) ?_
        refine lv_ldc (v := 65536) hx hb hown (hts _ tw_250) d_Mod_bytes_28 ?_
        refine ps_top (z := nI 65536) (by decide) ?_
        refine lv_icmp_le (tgt := 36) hx hb d_Mod_bytes_30 (by decide) (fun c_4 => ?_) (fun c_4 => ?_)
        · have c_4 : K 2 + n0 ≤ 65536 := (nI_leI (by have h0 := hKb 0; have h1 := hKb 1; have h2 := hKb 2; have h3 := hKb 3; have h4 := hKb 4; have h5 := hKb 5; omega) (by have h0 := hKb 0; have h1 := hKb 1; have h2 := hKb 2; have h3 := hKb 3; have h4 := hKb 4; have h5 := hKb 5; omega)).mp c_4
          refine lv_iconst (v := nI 0) hx hb d_Mod_bytes_36 (by decide) ?_
          refine lv_istore_n (lv' := [(2, .int (nI 0)), (0, .ref (b 0)), (1, .int (nI n0))]) hx hb d_Mod_bytes_37 rfl hl (by decide) rfl (fun ls hl => ?_)
          refine ps_loop (α := Nat) (fun i => 0) (fun i => 0) (fun i => n0 - i) (fun i H locs ls => lv_has ls 3 [(2, .int (nI i)), (0, .ref (b 0)), (1, .int (nI n0))] ∧ va_P (dC, dI) classes (mw cI cB cS cZ b K S ck cu F (va_up X 0 (ps_fil (X 0) (K 2) (K 2 + i) 0))) H ∧ va_D A (mw cI cB cS cZ b K S ck cu F (va_up X 0 (ps_fil (X 0) (K 2) (K 2 + i) 0))) ∧ va_S A s.heap H locs ∧ i ≤ n0) ?_ 0 _ _ ls ⟨lv_sub hl [0, 1, 2] rfl, (by have e0 : va_up X 0 (ps_fil (X 0) (K 2) (K 2 + 0) 0) = X := (funext fun j => by by_cases h : j = 0 <;> simp [va_up, h, ps_fil_0]); rw [e0]; exact hP), (by have e0 : va_up X 0 (ps_fil (X 0) (K 2) (K 2 + 0) 0) = X := (funext fun j => by by_cases h : j = 0 <;> simp [va_up, h, ps_fil_0]); rw [e0]; exact hD), hS, Nat.zero_le _⟩
          intro i H locs ls hI ih
          obtain ⟨hl, hP, hD, hS, hin⟩ := hI
          refine lv_iload_n hx hb d_Mod_bytes_38 rfl (lv_at hl 0 rfl) ?_
          refine lv_iload_n hx hb d_Mod_bytes_39 rfl (lv_at hl 2 rfl) ?_
          refine lv_icmp_ge (tgt := 61) hx hb d_Mod_bytes_40 (by decide) (fun c_5 => ?_) (fun c_5 => ?_)
          · have c_5 : n0 ≤ i := (nI_leI (by have h0 := hKb 0; have h1 := hKb 1; have h2 := hKb 2; have h3 := hKb 3; have h4 := hKb 4; have h5 := hKb 5; omega) (by have h0 := hKb 0; have h1 := hKb 1; have h2 := hKb 2; have h3 := hKb 3; have h4 := hKb 4; have h5 := hKb 5; omega)).mp c_5
            have hi9 : i = n0 := by omega
            subst hi9
            refine lv_aload_n hx hb d_Mod_bytes_61 rfl (lv_at hl 1 rfl) ?_
            refine lv_dup hx hb d_Mod_bytes_62 rfl ?_
            refine va_get (D := (dC, dI)) (ci := cMod) (v := .int (nI (K 2))) (C := R_Mod) (T := F_Mod) (N := 27) hx hb hts i_Mod hown hK hP 0 rfl rfl 8 (by decide) (hts _ tw_251) (fun _ h9 => h9) rfl d_Mod_bytes_63 ?_
            refine lv_iload_n hx hb d_Mod_bytes_66 rfl (lv_at hl 2 rfl) ?_
            refine lv_iadd hx hb d_Mod_bytes_67 ?_
            refine ps_top (z := nI (K 2 + i)) (nI_add _ _) ?_
            refine va_put (D := (dC, dI)) (ci := cMod) (v := .int (nI (K 2 + i))) (ty := .int) (C := R_Mod) (T := F_Mod) (N := 27) hx hb hts i_Mod t_Mod t_Mod_ok n_Mod hown hK hP hD hS 0 rfl rfl 8 (by decide) (hts _ tw_251) (fun _ h9 => h9) rfl (by decide +kernel) rfl rfl (Nat.le_of_ble_eq_true rfl) d_Mod_bytes_68 (fun H locs hP hD hS => ?_)
            have hP : va_P (dC, dI) classes (mw cI cB cS cZ b (va_up K 2 (K 2 + i)) S ck cu F (va_up X 0 (ps_fil (X 0) (K 2) (K 2 + i) 0))) H := hP
            have hD : va_D A (mw cI cB cS cZ b (va_up K 2 (K 2 + i)) S ck cu F (va_up X 0 (ps_fil (X 0) (K 2) (K 2 + i) 0))) := hD
            refine lv_aload_n hx hb d_Mod_bytes_71 rfl (lv_at hl 1 rfl) ?_
            refine lv_iconst (v := nI 2) hx hb d_Mod_bytes_72 (by decide) ?_
            refine lv_aload_n hx hb d_Mod_bytes_73 rfl (lv_at hl 1 rfl) ?_
            refine va_get (D := (dC, dI)) (ci := cMod) (v := .int (nI (K 2 + i))) (C := R_Mod) (T := F_Mod) (N := 27) hx hb hts i_Mod hown hK hP 0 rfl rfl 8 (by decide) (hts _ tw_251) (fun _ h9 => h9) rfl d_Mod_bytes_74 ?_
            refine lv_iload_n hx hb d_Mod_bytes_77 rfl (lv_at hl 2 rfl) ?_
            refine lv_isub hx hb d_Mod_bytes_78 ?_
            refine ps_top (z := nI (K 2)) (by rw [pk_sub (by omega)]; congr 1; omega) ?_
            refine lv_iload_n hx hb d_Mod_bytes_79 rfl (lv_at hl 2 rfl) ?_
            refine ps_afterI (wc := (mw cI cB cS cZ b (va_up K 2 (K 2 + i)) S ck cu F (va_up X 0 (ps_fil (X 0) (K 2) (K 2 + i) 0)))) (wr := []) hP hD hS hA [0, 1, 2, 3, 4, 5, 6, 7, 8, 9, 10, 11, 12, 13, 14, 15, 16, 17, 18] [] rfl rfl (by decide) (by decide) (ps_runVI ⟨hx, hb, hml, hown, hts⟩ (m_row l dC dI cI tys ht cB cS cZ htB htS htZ b (va_up K 2 (K 2 + i)) S ck cu F (va_up X 0 (ps_fil (X 0) (K 2) (K 2 + i) 0)) (ps_kb (x := K 2 + i) hKb (by omega)) hSb (nI 2) (nI (K 2)) (nI i) (show K 0 < 16384 by omega) (mo_b8 (by decide))) (ps_cwV ps_gd 3 hts tw_247 k_Mod_row e_Mod_row ⟨Nat.le_of_ble_eq_true rfl, Nat.le_of_ble_eq_true rfl⟩) hK hP hD [0, 1, 2, 3, 4, 5, 6, 7, 8, 9, 10, 11, 12, 13, 14, 15, 16, 17, 18] (by decide) rfl 0 cMod rfl rfl rfl hl.1 rfl (Nat.le_of_ble_eq_true rfl) d_Mod_bytes_80 ⟨Nat.zero_le _, Nat.zero_le _⟩) (fun r_7 u_6 H locs hu_6 hP hD hS => ?_)
            obtain ⟨hr_7, hu_6⟩ := hu_6
            subst hr_7
            subst hu_6
            have hP : va_P (dC, dI) classes (mw cI cB cS cZ b (va_up (va_up K 2 (K 2 + i)) 0 (K 0 + 1)) S ck cu (va_up (va_up (va_up F 4 (upd (F 4) (K 0 + 1) (nI 2))) 5 (upd (F 5) (K 0 + 1) (nI (K 2)))) 6 (upd (F 6) (K 0 + 1) (nI i))) (va_up X 0 (ps_fil (X 0) (K 2) (K 2 + i) 0))) H := hP
            have hD : va_D A (mw cI cB cS cZ b (va_up (va_up K 2 (K 2 + i)) 0 (K 0 + 1)) S ck cu (va_up (va_up (va_up F 4 (upd (F 4) (K 0 + 1) (nI 2))) 5 (upd (F 5) (K 0 + 1) (nI (K 2)))) 6 (upd (F 6) (K 0 + 1) (nI i))) (va_up X 0 (ps_fil (X 0) (K 2) (K 2 + i) 0))) := hD
            exact ps_iret hx hb hr hlocks hK hP hD hS (Nat.le_of_ble_eq_true rfl) (Nat.le_of_ble_eq_true rfl) d_Mod_bytes_83 (ps_cn hna (ps_cn (by omega) ⟨rfl, rfl⟩))
          · have c_5 : ¬ n0 ≤ i := fun q => c_5 ((nI_leI (by have h0 := hKb 0; have h1 := hKb 1; have h2 := hKb 2; have h3 := hKb 3; have h4 := hKb 4; have h5 := hKb 5; omega) (by have h0 := hKb 0; have h1 := hKb 1; have h2 := hKb 2; have h3 := hKb 3; have h4 := hKb 4; have h5 := hKb 5; omega)).mpr q)
            refine lv_aload_n hx hb d_Mod_bytes_43 rfl (lv_at hl 1 rfl) ?_
            refine va_get (D := (dC, dI)) (ci := cMod) (v := .ref (b 6)) (C := R_Mod) (T := F_Mod) (N := 27) hx hb hts i_Mod hown hK hP 0 rfl rfl 7 (by decide) (hts _ tw_252) (fun _ h9 => h9) rfl d_Mod_bytes_44 ?_
            refine lv_aload_n hx hb d_Mod_bytes_47 rfl (lv_at hl 1 rfl) ?_
            refine va_get (D := (dC, dI)) (ci := cMod) (v := .int (nI (K 2))) (C := R_Mod) (T := F_Mod) (N := 27) hx hb hts i_Mod hown hK hP 0 rfl rfl 8 (by decide) (hts _ tw_251) (fun _ h9 => h9) rfl d_Mod_bytes_48 ?_
            refine lv_iload_n hx hb d_Mod_bytes_51 rfl (lv_at hl 0 rfl) ?_
            refine lv_iadd hx hb d_Mod_bytes_52 ?_
            refine ps_top (z := nI (K 2 + i)) (nI_add _ _) ?_
            refine lv_iconst (v := 0) hx hb d_Mod_bytes_53 (by decide) ?_
            refine va_bast (f := ps_fil (X 0) (K 2) (K 2 + i) 0) hx hb hK hP hD hS 6 1 rfl htB (vp_in_nI (show K 2 + i < 65536 from by omega) (by decide)) d_Mod_bytes_54 (fun H locs hP hD hS => ?_)
            rw [nI_clamp (show K 2 + i < 2 ^ 31 from by omega), (show vp_nar .byte 0 = 0 by decide)] at hP hD
            rw [ps_fil_s (by omega)] at hP hD
            have hP : va_P (dC, dI) classes (mw cI cB cS cZ b K S ck cu F (va_up X 0 (ps_fil (X 0) (K 2) (K 2 + (i + 1)) 0))) H := hP
            have hD : va_D A (mw cI cB cS cZ b K S ck cu F (va_up X 0 (ps_fil (X 0) (K 2) (K 2 + (i + 1)) 0))) := hD
            refine lv_iinc (v := nI (i + 1)) (lv' := [(2, .int (nI (i + 1))), (0, .ref (b 0)), (1, .int (nI n0))]) hx hb d_Mod_bytes_55 hl (k := 0) rfl (nI_1 _) (by decide) rfl (fun ls hl => ?_)
            refine lv_goto (tgt := 38) hx hb d_Mod_bytes_58 (by decide) ?_
            exact ih (i + 1) _ _ ls (by omega) ⟨lv_sub hl [0, 1, 2] rfl, hP, hD, hS, by omega⟩
        · have c_4 : ¬ K 2 + n0 ≤ 65536 := fun q => c_4 ((nI_leI (by have h0 := hKb 0; have h1 := hKb 1; have h2 := hKb 2; have h3 := hKb 3; have h4 := hKb 4; have h5 := hKb 5; omega) (by have h0 := hKb 0; have h1 := hKb 1; have h2 := hKb 2; have h3 := hKb 3; have h4 := hKb 4; have h5 := hKb 5; omega)).mpr q)
          refine lv_bipush (v := (-3)) hx hb d_Mod_bytes_33 (by decide) ?_
          exact ps_iret hx hb hr hlocks hK hP hD hS (Nat.le_of_ble_eq_true rfl) (Nat.le_of_ble_eq_true rfl) d_Mod_bytes_35 (ps_cn hna (ps_cy (by omega) ⟨rfl, rfl⟩))
    · refine lv_iconst (v := (-1)) hx hb d_Mod_bytes_10 (by decide) ?_
      exact ps_iret hx hb hr hlocks hK hP hD hS (Nat.le_of_ble_eq_true rfl) (Nat.le_of_ble_eq_true rfl) d_Mod_bytes_11 (ps_cy (Or.inr (k2_lt c_2)) ⟨rfl, rfl⟩)

set_option maxHeartbeats 4000000 in
set_option maxRecDepth 100000 in
/-- PageStoreModel.sort -/
theorem m_sort (l : Launch) (dC : Nat → ClassId) (dI : Nat → Nat → Nat) (cI : ClassId) (tys : List (ClassId × FieldType)) (ht : tys[0]? = some (cI, FieldType.int)) (cB cS cZ : ClassId) (htB : tys[1]? = some (cB, FieldType.byte)) (htS : tys[2]? = some (cS, FieldType.short)) (htZ : tys[3]? = some (cZ, FieldType.boolean)) (b K : Nat → Nat) (S : Nat) (ck cu : Int32) (F X : Nat → Nat → Int32) (hKb : ∀ j, K j ≤ 65536) (hSb : S ≤ 15) (row : Int32) (hk0 : K 0 ≤ 16384) : ps_mI classes l y_Mod_sort w_Mod_sort ({ frames := 1, cells := 0, slots := 0, locals := 21 }) (dC, dI) tys [.ref (b 0), .int row] (mw cI cB cS cZ b K S ck cu F X) (fun r u => u = mw cI cB cS cZ b K S ck cu F X ∧ ps_c (nI 1 ≤ row ∧ row ≤ nI (K 0)) (r = F 4 row.toNatClampNeg) (r = -1)) := by
  refine ps_mI_of (by decide) rfl (Nat.le_of_ble_eq_true rfl) ?_
  intro p e s m below meth c A ls C0 hA hK hP hD hS hl
  obtain ⟨hx, hb, hr, hml, hts, hown, hlocks, hin⟩ := C0
  have hl : lv_has ls 2 [(0, .ref (b 0)), (1, .int row)] := hl
  have hP : va_P (dC, dI) classes (mw cI cB cS cZ b K S ck cu F X) s.heap := hP
  have hD : va_D A (mw cI cB cS cZ b K S ck cu F X) := hD
  refine lv_aload_n hx hb d_Mod_sort_0 rfl (lv_at hl 0 rfl) ?_
  refine lv_iload_n hx hb d_Mod_sort_1 rfl (lv_at hl 1 rfl) ?_
  refine ps_readI (wc := (mw cI cB cS cZ b K S ck cu F X)) hP hD hS hA [0, 1, 2, 3, 4, 5, 6, 7, 8, 9, 10, 11, 12, 13, 14, 15, 16, 17, 18] rfl (fun _ _ h => h.1) (ps_runVI ⟨hx, hb, hml, hown, hts⟩ (m_isRow l dC dI cI tys ht cB cS cZ htB htS htZ b K S ck cu F X hKb hSb row) (ps_cwV ps_gd 1 hts tw_253 k_Mod_isRow e_Mod_isRow ⟨Nat.le_of_ble_eq_true rfl, Nat.le_of_ble_eq_true rfl⟩) hK hP hD [0, 1, 2, 3, 4, 5, 6, 7, 8, 9, 10, 11, 12, 13, 14, 15, 16, 17, 18] (by decide) rfl 0 cMod rfl rfl rfl hl.1 rfl (Nat.le_of_ble_eq_true rfl) d_Mod_sort_2 ⟨Nat.zero_le _, Nat.zero_le _⟩) (fun r_1 H locs hr_1 hP hS => ?_)
  obtain ⟨-, hr_1⟩ := hr_1
  subst hr_1
  refine lv_if_eq (tgt := 17) hx hb d_Mod_sort_5 (by decide) (fun c_2 => ?_) (fun c_2 => ?_)
  · have c_2 := ps_ite0 c_2
    refine lv_iconst (v := (-1)) hx hb d_Mod_sort_17 (by decide) ?_
    exact ps_iret hx hb hr hlocks hK hP hD hS (Nat.le_of_ble_eq_true rfl) (Nat.le_of_ble_eq_true rfl) d_Mod_sort_18 (⟨rfl, ps_cn c_2 rfl⟩)
  · have c_2 := ps_ite1 c_2
    have hc := c_2
    obtain ⟨j, hj1, hj2, rfl⟩ := ps_rng (by have h0 := hKb 0; have h1 := hKb 1; have h2 := hKb 2; have h3 := hKb 3; have h4 := hKb 4; have h5 := hKb 5; omega) c_2
    have hj3 : j < 2 ^ 31 := by have h0 := hKb 0; have h1 := hKb 1; have h2 := hKb 2; have h3 := hKb 3; have h4 := hKb 4; have h5 := hKb 5; omega
    rw [nI_clamp hj3]
    refine lv_aload_n hx hb d_Mod_sort_8 rfl (lv_at hl 0 rfl) ?_
    refine va_get (D := (dC, dI)) (ci := cMod) (v := .ref (b 1)) (C := R_Mod) (T := F_Mod) (N := 27) hx hb hts i_Mod hown hK hP 0 rfl rfl 0 (by decide) (hts _ tw_242) (fun _ h9 => h9) rfl d_Mod_sort_9 ?_
    refine lv_iload_n hx hb d_Mod_sort_12 rfl (lv_at hl 1 rfl) ?_
    refine va_bald (f := F 4) hx hb hK hP 1 1 rfl htB (vp_in_nI (show j < 16385 from by omega) (by decide)) d_Mod_sort_13 ?_
    refine ps_top (z := (F 4) j) (by rw [nI_clamp (show j < 2 ^ 31 from by omega)]) ?_
    refine lv_goto (tgt := 18) hx hb d_Mod_sort_14 (by decide) ?_
    exact ps_iret hx hb hr hlocks hK hP hD hS (Nat.le_of_ble_eq_true rfl) (Nat.le_of_ble_eq_true rfl) d_Mod_sort_18 (⟨rfl, ps_cy hc rfl⟩)

set_option maxHeartbeats 4000000 in
set_option maxRecDepth 100000 in
/-- PageStoreModel.length -/
theorem m_length (l : Launch) (dC : Nat → ClassId) (dI : Nat → Nat → Nat) (cI : ClassId) (tys : List (ClassId × FieldType)) (ht : tys[0]? = some (cI, FieldType.int)) (cB cS cZ : ClassId) (htB : tys[1]? = some (cB, FieldType.byte)) (htS : tys[2]? = some (cS, FieldType.short)) (htZ : tys[3]? = some (cZ, FieldType.boolean)) (b K : Nat → Nat) (S : Nat) (ck cu : Int32) (F X : Nat → Nat → Int32) (hKb : ∀ j, K j ≤ 65536) (hSb : S ≤ 15) (row : Int32) (hk0 : K 0 ≤ 16384) : ps_mI classes l y_Mod_length w_Mod_length ({ frames := 1, cells := 0, slots := 0, locals := 21 }) (dC, dI) tys [.ref (b 0), .int row] (mw cI cB cS cZ b K S ck cu F X) (fun r u => u = mw cI cB cS cZ b K S ck cu F X ∧ ps_c (nI 1 ≤ row ∧ row ≤ nI (K 0)) (r = F 6 row.toNatClampNeg) (r = -1)) := by
  refine ps_mI_of (by decide) rfl (Nat.le_of_ble_eq_true rfl) ?_
  intro p e s m below meth c A ls C0 hA hK hP hD hS hl
  obtain ⟨hx, hb, hr, hml, hts, hown, hlocks, hin⟩ := C0
  have hl : lv_has ls 2 [(0, .ref (b 0)), (1, .int row)] := hl
  have hP : va_P (dC, dI) classes (mw cI cB cS cZ b K S ck cu F X) s.heap := hP
  have hD : va_D A (mw cI cB cS cZ b K S ck cu F X) := hD
  refine lv_aload_n hx hb d_Mod_length_0 rfl (lv_at hl 0 rfl) ?_
  refine lv_iload_n hx hb d_Mod_length_1 rfl (lv_at hl 1 rfl) ?_
  refine ps_readI (wc := (mw cI cB cS cZ b K S ck cu F X)) hP hD hS hA [0, 1, 2, 3, 4, 5, 6, 7, 8, 9, 10, 11, 12, 13, 14, 15, 16, 17, 18] rfl (fun _ _ h => h.1) (ps_runVI ⟨hx, hb, hml, hown, hts⟩ (m_isRow l dC dI cI tys ht cB cS cZ htB htS htZ b K S ck cu F X hKb hSb row) (ps_cwV ps_gd 1 hts tw_253 k_Mod_isRow e_Mod_isRow ⟨Nat.le_of_ble_eq_true rfl, Nat.le_of_ble_eq_true rfl⟩) hK hP hD [0, 1, 2, 3, 4, 5, 6, 7, 8, 9, 10, 11, 12, 13, 14, 15, 16, 17, 18] (by decide) rfl 0 cMod rfl rfl rfl hl.1 rfl (Nat.le_of_ble_eq_true rfl) d_Mod_length_2 ⟨Nat.zero_le _, Nat.zero_le _⟩) (fun r_1 H locs hr_1 hP hS => ?_)
  obtain ⟨-, hr_1⟩ := hr_1
  subst hr_1
  refine lv_if_eq (tgt := 17) hx hb d_Mod_length_5 (by decide) (fun c_2 => ?_) (fun c_2 => ?_)
  · have c_2 := ps_ite0 c_2
    refine lv_iconst (v := (-1)) hx hb d_Mod_length_17 (by decide) ?_
    exact ps_iret hx hb hr hlocks hK hP hD hS (Nat.le_of_ble_eq_true rfl) (Nat.le_of_ble_eq_true rfl) d_Mod_length_18 (⟨rfl, ps_cn c_2 rfl⟩)
  · have c_2 := ps_ite1 c_2
    have hc := c_2
    obtain ⟨j, hj1, hj2, rfl⟩ := ps_rng (by have h0 := hKb 0; have h1 := hKb 1; have h2 := hKb 2; have h3 := hKb 3; have h4 := hKb 4; have h5 := hKb 5; omega) c_2
    have hj3 : j < 2 ^ 31 := by have h0 := hKb 0; have h1 := hKb 1; have h2 := hKb 2; have h3 := hKb 3; have h4 := hKb 4; have h5 := hKb 5; omega
    rw [nI_clamp hj3]
    refine lv_aload_n hx hb d_Mod_length_8 rfl (lv_at hl 0 rfl) ?_
    refine va_get (D := (dC, dI)) (ci := cMod) (v := .ref (b 3)) (C := R_Mod) (T := F_Mod) (N := 27) hx hb hts i_Mod hown hK hP 0 rfl rfl 2 (by decide) (hts _ tw_244) (fun _ h9 => h9) rfl d_Mod_length_9 ?_
    refine lv_iload_n hx hb d_Mod_length_12 rfl (lv_at hl 1 rfl) ?_
    refine va_iald (f := F 6) hx hb hK hP 3 0 rfl ht (vp_in_nI (show j < 16385 from by omega) (by decide)) d_Mod_length_13 ?_
    refine ps_top (z := (F 6) j) (by rw [nI_clamp (show j < 2 ^ 31 from by omega)]) ?_
    refine lv_goto (tgt := 18) hx hb d_Mod_length_14 (by decide) ?_
    exact ps_iret hx hb hr hlocks hK hP hD hS (Nat.le_of_ble_eq_true rfl) (Nat.le_of_ble_eq_true rfl) d_Mod_length_18 (⟨rfl, ps_cy hc rfl⟩)

set_option maxHeartbeats 4000000 in
set_option maxRecDepth 100000 in
/-- PageStoreModel.part -/
theorem m_part (l : Launch) (dC : Nat → ClassId) (dI : Nat → Nat → Nat) (cI : ClassId) (tys : List (ClassId × FieldType)) (ht : tys[0]? = some (cI, FieldType.int)) (cB cS cZ : ClassId) (htB : tys[1]? = some (cB, FieldType.byte)) (htS : tys[2]? = some (cS, FieldType.short)) (htZ : tys[3]? = some (cZ, FieldType.boolean)) (b K : Nat → Nat) (S : Nat) (ck cu : Int32) (F X : Nat → Nat → Int32) (hKb : ∀ j, K j ≤ 65536) (hSb : S ≤ 15) (row fr n : Int32) (hk0 : K 0 ≤ 16384) (hrw : ps_rows K F) : ps_mI classes l y_Mod_part w_Mod_part ({ frames := 1, cells := 0, slots := 0, locals := 23 }) (dC, dI) tys [.ref (b 0), .int row, .int fr, .int n] (mw cI cB cS cZ b K S ck cu F X) (fun r u => ps_c (¬ ((nI 1 ≤ row ∧ row ≤ nI (K 0)) ∧ ¬ fr < 0 ∧ ¬ n < 0 ∧ fr.toNatClampNeg + n.toNatClampNeg ≤ (F 6 row.toNatClampNeg).toNatClampNeg)) (r = -1 ∧ u = mw cI cB cS cZ b K S ck cu F X) (ps_c (16384 ≤ K 0) (r = -3 ∧ u = mw cI cB cS cZ b K S ck cu F X) (r = nI (K 0 + 1) ∧ u = mw cI cB cS cZ b (va_up K 0 (K 0 + 1)) S ck cu (ps_Fr F (K 0 + 1) (F 4 row.toNatClampNeg) (F 5 row.toNatClampNeg + fr) n) X))) := by
  refine ps_mI_of (by decide) rfl (Nat.le_of_ble_eq_true rfl) ?_
  intro p e s m below meth c A ls C0 hA hK hP hD hS hl
  obtain ⟨hx, hb, hr, hml, hts, hown, hlocks, hin⟩ := C0
  have hl : lv_has ls 4 [(0, .ref (b 0)), (1, .int row), (2, .int fr), (3, .int n)] := hl
  have hP : va_P (dC, dI) classes (mw cI cB cS cZ b K S ck cu F X) s.heap := hP
  have hD : va_D A (mw cI cB cS cZ b K S ck cu F X) := hD
  refine lv_aload_n hx hb d_Mod_part_0 rfl (lv_at hl 0 rfl) ?_
  refine lv_iload_n hx hb d_Mod_part_1 rfl (lv_at hl 1 rfl) ?_
  refine ps_readI (wc := (mw cI cB cS cZ b K S ck cu F X)) hP hD hS hA [0, 1, 2, 3, 4, 5, 6, 7, 8, 9, 10, 11, 12, 13, 14, 15, 16, 17, 18] rfl (fun _ _ h => h.1) (ps_runVI ⟨hx, hb, hml, hown, hts⟩ (m_isRow l dC dI cI tys ht cB cS cZ htB htS htZ b K S ck cu F X hKb hSb row) (ps_cwV ps_gd 1 hts tw_253 k_Mod_isRow e_Mod_isRow ⟨Nat.le_of_ble_eq_true rfl, Nat.le_of_ble_eq_true rfl⟩) hK hP hD [0, 1, 2, 3, 4, 5, 6, 7, 8, 9, 10, 11, 12, 13, 14, 15, 16, 17, 18] (by decide) rfl 0 cMod rfl rfl rfl hl.1 rfl (Nat.le_of_ble_eq_true rfl) d_Mod_part_2 ⟨Nat.zero_le _, Nat.zero_le _⟩) (fun r_1 H locs hr_1 hP hS => ?_)
  obtain ⟨-, hr_1⟩ := hr_1
  subst hr_1
  refine lv_if_eq (tgt := 38) hx hb d_Mod_part_5 (by decide) (fun c_2 => ?_) (fun c_2 => ?_)
  · have c_2 := ps_ite0 c_2
    refine lv_iconst (v := (-1)) hx hb d_Mod_part_38 (by decide) ?_
    exact ps_iret hx hb hr hlocks hK hP hD hS (Nat.le_of_ble_eq_true rfl) (Nat.le_of_ble_eq_true rfl) d_Mod_part_39 (ps_cy (fun q => c_2 q.1) ⟨rfl, rfl⟩)
  · have c_2 := ps_ite1 c_2
    have hc := c_2
    obtain ⟨j, hj1, hj2, rfl⟩ := ps_rng (by have h0 := hKb 0; have h1 := hKb 1; have h2 := hKb 2; have h3 := hKb 3; have h4 := hKb 4; have h5 := hKb 5; omega) c_2
    have hj3 : j < 2 ^ 31 := by have h0 := hKb 0; have h1 := hKb 1; have h2 := hKb 2; have h3 := hKb 3; have h4 := hKb 4; have h5 := hKb 5; omega
    rw [nI_clamp hj3]
    obtain ⟨s0, l0, e5, e6, hs⟩ := hrw j hj1 hj2
    have hl0 : l0 ≤ 65536 := by have b1 := hKb 1; have b2 := hKb 2; rcases hs with q | q <;> omega
    have h48 : (F 4 j).toInt8.toInt32 = F 4 j := by rcases hs with ⟨q, -⟩ | ⟨q, -⟩ <;> rw [q] <;> exact mo_b8 (by decide)
    refine lv_iload_n hx hb d_Mod_part_8 rfl (lv_at hl 2 rfl) ?_
    refine lv_if_lt (tgt := 38) hx hb d_Mod_part_9 (by decide) (fun c_3 => ?_) (fun c_3 => ?_)
    · refine lv_iconst (v := (-1)) hx hb d_Mod_part_38 (by decide) ?_
      exact ps_iret hx hb hr hlocks hK hP hD hS (Nat.le_of_ble_eq_true rfl) (Nat.le_of_ble_eq_true rfl) d_Mod_part_39 (ps_cy (fun q => q.2.1 c_3) ⟨rfl, rfl⟩)
    · refine lv_iload_n hx hb d_Mod_part_12 rfl (lv_at hl 3 rfl) ?_
      refine lv_if_lt (tgt := 38) hx hb d_Mod_part_13 (by decide) (fun c_4 => ?_) (fun c_4 => ?_)
      · refine lv_iconst (v := (-1)) hx hb d_Mod_part_38 (by decide) ?_
        exact ps_iret hx hb hr hlocks hK hP hD hS (Nat.le_of_ble_eq_true rfl) (Nat.le_of_ble_eq_true rfl) d_Mod_part_39 (ps_cy (fun q => q.2.2.1 c_4) ⟨rfl, rfl⟩)
      · obtain ⟨f0, hf0, rfl⟩ := nI_of c_3
        obtain ⟨n0, hn0, rfl⟩ := nI_of c_4
        rw [e6, nI_clamp hf0, nI_clamp hn0, nI_clamp (show l0 < 2 ^ 31 by omega)]
        refine lv_iload_n hx hb d_Mod_part_16 rfl (lv_at hl 2 rfl) ?_
        refine lv_aload_n hx hb d_Mod_part_17 rfl (lv_at hl 0 rfl) ?_
        refine va_get (D := (dC, dI)) (ci := cMod) (v := .ref (b 3)) (C := R_Mod) (T := F_Mod) (N := 27) hx hb hts i_Mod hown hK hP 0 rfl rfl 2 (by decide) (hts _ tw_244) (fun _ h9 => h9) rfl d_Mod_part_18 ?_
        refine lv_iload_n hx hb d_Mod_part_21 rfl (lv_at hl 1 rfl) ?_
        refine va_iald (f := F 6) hx hb hK hP 3 0 rfl ht (vp_in_nI (show j < 16385 from by omega) (by decide)) d_Mod_part_22 ?_
        refine ps_top (z := (F 6) j) (by rw [nI_clamp (show j < 2 ^ 31 from by omega)]) ?_
        refine ps_top (z := nI l0) e6 ?_
        refine lv_icmp_gt (tgt := 38) hx hb d_Mod_part_23 (by decide) (fun c_5 => ?_) (fun c_5 => ?_)
        · have c_5 : l0 < f0 := (nI_ltI (by have h0 := hKb 0; have h1 := hKb 1; have h2 := hKb 2; have h3 := hKb 3; have h4 := hKb 4; have h5 := hKb 5; omega) (by have h0 := hKb 0; have h1 := hKb 1; have h2 := hKb 2; have h3 := hKb 3; have h4 := hKb 4; have h5 := hKb 5; omega)).mp c_5
          refine lv_iconst (v := (-1)) hx hb d_Mod_part_38 (by decide) ?_
          exact ps_iret hx hb hr hlocks hK hP hD hS (Nat.le_of_ble_eq_true rfl) (Nat.le_of_ble_eq_true rfl) d_Mod_part_39 (ps_cy (fun q => absurd q.2.2.2 (by omega)) ⟨rfl, rfl⟩)
        · have c_5 : ¬ l0 < f0 := fun q => c_5 ((nI_ltI (by have h0 := hKb 0; have h1 := hKb 1; have h2 := hKb 2; have h3 := hKb 3; have h4 := hKb 4; have h5 := hKb 5; omega) (by have h0 := hKb 0; have h1 := hKb 1; have h2 := hKb 2; have h3 := hKb 3; have h4 := hKb 4; have h5 := hKb 5; omega)).mpr q)
          refine lv_iload_n hx hb d_Mod_part_26 rfl (lv_at hl 3 rfl) ?_
          refine lv_aload_n hx hb d_Mod_part_27 rfl (lv_at hl 0 rfl) ?_
          refine va_get (D := (dC, dI)) (ci := cMod) (v := .ref (b 3)) (C := R_Mod) (T := F_Mod) (N := 27) hx hb hts i_Mod hown hK hP 0 rfl rfl 2 (by decide) (hts _ tw_244) (fun _ h9 => h9) rfl d_Mod_part_28 ?_
          refine lv_iload_n hx hb d_Mod_part_31 rfl (lv_at hl 1 rfl) ?_
          refine va_iald (f := F 6) hx hb hK hP 3 0 rfl ht (vp_in_nI (show j < 16385 from by omega) (by decide)) d_Mod_part_32 ?_
          refine ps_top (z := (F 6) j) (by rw [nI_clamp (show j < 2 ^ 31 from by omega)]) ?_
          refine ps_top (z := nI l0) e6 ?_
          refine lv_iload_n hx hb d_Mod_part_33 rfl (lv_at hl 2 rfl) ?_
          refine lv_isub hx hb d_Mod_part_34 ?_
          refine ps_top (z := nI (l0 - f0)) (pk_sub (by have h0 := hKb 0; have h1 := hKb 1; have h2 := hKb 2; have h3 := hKb 3; have h4 := hKb 4; have h5 := hKb 5; omega)) ?_
          refine lv_icmp_le (tgt := 40) hx hb d_Mod_part_35 (by decide) (fun c_6 => ?_) (fun c_6 => ?_)
          · have c_6 : n0 ≤ l0 - f0 := (nI_leI (by have h0 := hKb 0; have h1 := hKb 1; have h2 := hKb 2; have h3 := hKb 3; have h4 := hKb 4; have h5 := hKb 5; omega) (by have h0 := hKb 0; have h1 := hKb 1; have h2 := hKb 2; have h3 := hKb 3; have h4 := hKb 4; have h5 := hKb 5; omega)).mp c_6
            have hok : ¬ ¬ ((nI 1 ≤ nI j ∧ nI j ≤ nI (K 0)) ∧ ¬ nI f0 < 0 ∧ ¬ nI n0 < 0 ∧ f0 + n0 ≤ l0) := fun q => q ⟨hc, nI_pos hf0, nI_pos hn0, by omega⟩
            refine lv_aload_n hx hb d_Mod_part_40 rfl (lv_at hl 0 rfl) ?_
            refine va_get (D := (dC, dI)) (ci := cMod) (v := .int (nI (K 0))) (C := R_Mod) (T := F_Mod) (N := 27) hx hb hts i_Mod hown hK hP 0 rfl rfl 3 (by decide) (hts _ tw_240) (fun _ h9 => h9) rfl d_Mod_part_41 ?_
            refine lv_sipush (v := nI 16384) hx hb d_Mod_part_44 (by decide) ?_
            refine lv_icmp_ne (tgt := 55) hx hb d_Mod_part_47 (by decide) (fun c_7 => ?_) (fun c_7 => ?_)
            · have c_7 : ¬ K 0 = 16384 := fun q => c_7 ((nI_eq (by have h0 := hKb 0; have h1 := hKb 1; have h2 := hKb 2; have h3 := hKb 3; have h4 := hKb 4; have h5 := hKb 5; omega) (by have h0 := hKb 0; have h1 := hKb 1; have h2 := hKb 2; have h3 := hKb 3; have h4 := hKb 4; have h5 := hKb 5; omega)).mpr q)
              refine lv_aload_n hx hb d_Mod_part_55 rfl (lv_at hl 0 rfl) ?_
              refine lv_aload_n hx hb d_Mod_part_56 rfl (lv_at hl 0 rfl) ?_
              refine va_get (D := (dC, dI)) (ci := cMod) (v := .ref (b 1)) (C := R_Mod) (T := F_Mod) (N := 27) hx hb hts i_Mod hown hK hP 0 rfl rfl 0 (by decide) (hts _ tw_242) (fun _ h9 => h9) rfl d_Mod_part_57 ?_
              refine lv_iload_n hx hb d_Mod_part_60 rfl (lv_at hl 1 rfl) ?_
              refine va_bald (f := F 4) hx hb hK hP 1 1 rfl htB (vp_in_nI (show j < 16385 from by omega) (by decide)) d_Mod_part_61 ?_
              refine ps_top (z := (F 4) j) (by rw [nI_clamp (show j < 2 ^ 31 from by omega)]) ?_
              refine lv_aload_n hx hb d_Mod_part_62 rfl (lv_at hl 0 rfl) ?_
              refine va_get (D := (dC, dI)) (ci := cMod) (v := .ref (b 2)) (C := R_Mod) (T := F_Mod) (N := 27) hx hb hts i_Mod hown hK hP 0 rfl rfl 1 (by decide) (hts _ tw_243) (fun _ h9 => h9) rfl d_Mod_part_63 ?_
              refine lv_iload_n hx hb d_Mod_part_66 rfl (lv_at hl 1 rfl) ?_
              refine va_iald (f := F 5) hx hb hK hP 2 0 rfl ht (vp_in_nI (show j < 16385 from by omega) (by decide)) d_Mod_part_67 ?_
              refine ps_top (z := (F 5) j) (by rw [nI_clamp (show j < 2 ^ 31 from by omega)]) ?_
              refine lv_iload_n hx hb d_Mod_part_68 rfl (lv_at hl 2 rfl) ?_
              refine lv_iadd hx hb d_Mod_part_69 ?_
              refine lv_iload_n hx hb d_Mod_part_70 rfl (lv_at hl 3 rfl) ?_
              refine ps_afterI (wc := (mw cI cB cS cZ b K S ck cu F X)) (wr := []) hP hD hS hA [0, 1, 2, 3, 4, 5, 6, 7, 8, 9, 10, 11, 12, 13, 14, 15, 16, 17, 18] [] rfl rfl (by decide) (by decide) (ps_runVI ⟨hx, hb, hml, hown, hts⟩ (m_row l dC dI cI tys ht cB cS cZ htB htS htZ b K S ck cu F X hKb hSb ((F 4) j) (((F 5) j) + (nI f0)) (nI n0) (show K 0 < 16384 by omega) h48) (ps_cwV ps_gd 3 hts tw_247 k_Mod_row e_Mod_row ⟨Nat.le_of_ble_eq_true rfl, Nat.le_of_ble_eq_true rfl⟩) hK hP hD [0, 1, 2, 3, 4, 5, 6, 7, 8, 9, 10, 11, 12, 13, 14, 15, 16, 17, 18] (by decide) rfl 0 cMod rfl rfl rfl hl.1 rfl (Nat.le_of_ble_eq_true rfl) d_Mod_part_71 ⟨Nat.zero_le _, Nat.zero_le _⟩) (fun r_9 u_8 H locs hu_8 hP hD hS => ?_)
              obtain ⟨hr_9, hu_8⟩ := hu_8
              subst hr_9
              subst hu_8
              have hP : va_P (dC, dI) classes (mw cI cB cS cZ b (va_up K 0 (K 0 + 1)) S ck cu (va_up (va_up (va_up F 4 (upd (F 4) (K 0 + 1) ((F 4) j))) 5 (upd (F 5) (K 0 + 1) (((F 5) j) + (nI f0)))) 6 (upd (F 6) (K 0 + 1) (nI n0))) X) H := hP
              have hD : va_D A (mw cI cB cS cZ b (va_up K 0 (K 0 + 1)) S ck cu (va_up (va_up (va_up F 4 (upd (F 4) (K 0 + 1) ((F 4) j))) 5 (upd (F 5) (K 0 + 1) (((F 5) j) + (nI f0)))) 6 (upd (F 6) (K 0 + 1) (nI n0))) X) := hD
              exact ps_iret hx hb hr hlocks hK hP hD hS (Nat.le_of_ble_eq_true rfl) (Nat.le_of_ble_eq_true rfl) d_Mod_part_74 (ps_cn hok (ps_cn (by omega) ⟨rfl, rfl⟩))
            · have c_7 : K 0 = 16384 := (nI_eq (by have h0 := hKb 0; have h1 := hKb 1; have h2 := hKb 2; have h3 := hKb 3; have h4 := hKb 4; have h5 := hKb 5; omega) (by have h0 := hKb 0; have h1 := hKb 1; have h2 := hKb 2; have h3 := hKb 3; have h4 := hKb 4; have h5 := hKb 5; omega)).mp c_7
              refine lv_bipush (v := (-3)) hx hb d_Mod_part_50 (by decide) ?_
              refine lv_goto (tgt := 74) hx hb d_Mod_part_52 (by decide) ?_
              exact ps_iret hx hb hr hlocks hK hP hD hS (Nat.le_of_ble_eq_true rfl) (Nat.le_of_ble_eq_true rfl) d_Mod_part_74 (ps_cn hok (ps_cy (by omega) ⟨rfl, rfl⟩))
          · have c_6 : ¬ n0 ≤ l0 - f0 := fun q => c_6 ((nI_leI (by have h0 := hKb 0; have h1 := hKb 1; have h2 := hKb 2; have h3 := hKb 3; have h4 := hKb 4; have h5 := hKb 5; omega) (by have h0 := hKb 0; have h1 := hKb 1; have h2 := hKb 2; have h3 := hKb 3; have h4 := hKb 4; have h5 := hKb 5; omega)).mpr q)
            refine lv_iconst (v := (-1)) hx hb d_Mod_part_38 (by decide) ?_
            exact ps_iret hx hb hr hlocks hK hP hD hS (Nat.le_of_ble_eq_true rfl) (Nat.le_of_ble_eq_true rfl) d_Mod_part_39 (ps_cy (fun q => absurd q.2.2.2 (by omega)) ⟨rfl, rfl⟩)
