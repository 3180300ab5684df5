theorem tw_261 : (.methodLink "PageStoreModel" 97 ⟨"PageStoreModel", "at", "(II)I"⟩ : Cond) ∈ ps_tbl := ps_t3 38 rfl rfl
theorem tw_262 : (.fieldLink "PageStoreModel" 122 "PageStoreModel" "cursorKind" "I" : Cond) ∈ ps_tbl := ps_t2 186 rfl rfl
theorem tw_263 : (.fieldLink "PageStoreModel" 125 "PageStoreModel" "cursorNumber" "I" : Cond) ∈ ps_tbl := ps_t2 187 rfl rfl
theorem tw_264 : (.fieldLink "PageStoreModel" 107 "PageStoreModel" "keys" "I" : Cond) ∈ ps_tbl := ps_t2 177 rfl rfl
theorem tw_265 : (.fieldLink "PageStoreModel" 31 "PageStoreModel" "owners" "[S" : Cond) ∈ ps_tbl := ps_t2 171 rfl rfl
theorem tw_266 : (.fieldLink "PageStoreModel" 35 "PageStoreModel" "keyKinds" "[B" : Cond) ∈ ps_tbl := ps_t2 172 rfl rfl
theorem tw_267 : (.fieldLink "PageStoreModel" 38 "PageStoreModel" "keyNumbers" "[I" : Cond) ∈ ps_tbl := ps_t2 173 rfl rfl
theorem tw_268 : (.methodLink "PageStoreModel" 116 ⟨"PageStoreModel", "key", "(III)I"⟩ : Cond) ∈ ps_tbl := ps_t3 77 rfl rfl
theorem tw_269 : (.fieldLink "PageStoreModel" 47 "PageStoreModel" "gone" "[Z" : Cond) ∈ ps_tbl := ps_t2 176 rfl rfl
theorem tw_270 : (.methodLink "PageStoreModel" 110 ⟨"PageStoreModel", "isDictionary", "(I)Z"⟩ : Cond) ∈ ps_tbl := ps_t3 70 rfl rfl
theorem tw_271 : (.methodLink "PageStoreModel" 113 ⟨"PageStoreModel", "isKey", "(I)Z"⟩ : Cond) ∈ ps_tbl := ps_t3 74 rfl rfl
theorem tw_272 : (.methodLink "PageStoreModel" 119 ⟨"PageStoreModel", "there", "(III)I"⟩ : Cond) ∈ ps_tbl := ps_t3 85 rfl rfl
theorem tw_273 : (.fieldLink "PageStoreModel" 41 "PageStoreModel" "valueKinds" "[B" : Cond) ∈ ps_tbl := ps_t2 174 rfl rfl
theorem tw_274 : (.fieldLink "PageStoreModel" 44 "PageStoreModel" "valueNumbers" "[I" : Cond) ∈ ps_tbl := ps_t2 175 rfl rfl
theorem tw_275 : (.instanceMethod ⟨"PageStoreModel", "at", "(II)I"⟩ : Cond) ∈ ps_tbl := ps_t3 40 rfl rfl
theorem tw_276 : (.selects "PageStoreModel" ⟨"PageStoreModel", "at", "(II)I"⟩ ⟨"PageStoreModel", "at", "(II)I"⟩ : Cond) ∈ ps_tbl := ps_ts (y := ⟨"PageStoreModel", "at", "(II)I"⟩) (n := 27) 17 rfl rfl
theorem tw_277 : (.code ⟨"PageStoreModel", "at", "(II)I"⟩ prog_8_method_9_code 3 (some .int) : Cond) ∈ ps_tbl := ps_t3 41 rfl rfl
theorem tw_278 : (.instanceMethod ⟨"PageStoreModel", "key", "(III)I"⟩ : Cond) ∈ ps_tbl := ps_t3 79 rfl rfl
theorem tw_279 : (.selects "PageStoreModel" ⟨"PageStoreModel", "key", "(III)I"⟩ ⟨"PageStoreModel", "key", "(III)I"⟩ : Cond) ∈ ps_tbl := ps_ts (y := ⟨"PageStoreModel", "key", "(III)I"⟩) (n := 27) 21 rfl rfl
theorem tw_280 : (.code ⟨"PageStoreModel", "key", "(III)I"⟩ prog_8_method_19_code 5 (some .int) : Cond) ∈ ps_tbl := ps_t3 80 rfl rfl
theorem tw_281 : (.instanceMethod ⟨"PageStoreModel", "isDictionary", "(I)Z"⟩ : Cond) ∈ ps_tbl := ps_t3 72 rfl rfl
theorem tw_282 : (.selects "PageStoreModel" ⟨"PageStoreModel", "isDictionary", "(I)Z"⟩ ⟨"PageStoreModel", "isDictionary", "(I)Z"⟩ : Cond) ∈ ps_tbl := ps_ts (y := ⟨"PageStoreModel", "isDictionary", "(I)Z"⟩) (n := 27) 20 rfl rfl
theorem tw_283 : (.code ⟨"PageStoreModel", "isDictionary", "(I)Z"⟩ prog_8_method_17_code 2 (some .boolean) : Cond) ∈ ps_tbl := ps_t3 73 rfl rfl
theorem tw_284 : (.code ⟨"PageStoreModel", "isKey", "(I)Z"⟩ prog_8_method_18_code 1 (some .boolean) : Cond) ∈ ps_tbl := ps_t3 76 rfl rfl
theorem tw_285 : (.static ⟨"PageStoreModel", "isKey", "(I)Z"⟩ : Cond) ∈ ps_tbl := ps_t3 75 rfl rfl
theorem tw_286 : (.instanceMethod ⟨"PageStoreModel", "there", "(III)I"⟩ : Cond) ∈ ps_tbl := ps_t3 87 rfl rfl
theorem tw_287 : (.selects "PageStoreModel" ⟨"PageStoreModel", "there", "(III)I"⟩ ⟨"PageStoreModel", "there", "(III)I"⟩ : Cond) ∈ ps_tbl := ps_ts (y := ⟨"PageStoreModel", "there", "(III)I"⟩) (n := 27) 22 rfl rfl
theorem tw_288 : (.code ⟨"PageStoreModel", "there", "(III)I"⟩ prog_8_method_21_code 5 (some .int) : Cond) ∈ ps_tbl := ps_t3 88 rfl rfl
theorem k_Mod_at : ps_cdV ps_tbl y_Mod_at prog_8_method_9_code 3 (some .int) := ⟨tw_275, tw_276, tw_256, tw_277⟩
theorem k_Mod_key : ps_cdV ps_tbl y_Mod_key prog_8_method_19_code 5 (some .int) := ⟨tw_278, tw_279, tw_256, tw_280⟩
theorem k_Mod_isDictionary : ps_cdV ps_tbl y_Mod_isDictionary prog_8_method_17_code 2 (some .boolean) := ⟨tw_281, tw_282, tw_256, tw_283⟩
theorem k_Mod_isKey : ps_cdS ps_tbl y_Mod_isKey prog_8_method_18_code 1 (some .boolean) := ⟨tw_285, tw_256, tw_284⟩
theorem k_Mod_there : ps_cdV ps_tbl y_Mod_there prog_8_method_21_code 5 (some .int) := ⟨tw_286, tw_287, tw_256, tw_288⟩
theorem ps_at_ix3 {K : Nat → Nat} {F : Nat → Nat → Int32} {row place : Int32} (hb : ∀ j, K j ≤ 65536) (hr : ps_rows K F) (h : ps_at K F row place) : ∃ j : Nat, 1 ≤ j ∧ j ≤ K 0 ∧ row = nI j ∧ F 5 row.toNatClampNeg + place = nI (ps_ix F row place) ∧ ((F 4 j = nI 1 ∧ ps_ix F row place < K 1 ∧ ps_ok K F (nI 1) row place ∧ ¬ ps_ok K F (nI 2) row place) ∨ (F 4 j = nI 2 ∧ ps_ix F row place < K 2 ∧ ps_ok K F (nI 2) row place ∧ ¬ ps_ok K F (nI 1) row place)) := by
  have h9 := ps_at_ix hb hr h
  obtain ⟨h1, h3, h4⟩ := h
  obtain ⟨j, hj1, hj2, e⟩ := ps_rng (by have := hb 0; omega) h1
  have b0 := hb 0
  have ej : row.toNatClampNeg = j := by rw [e]; exact nI_clamp (by omega)
  refine ⟨j, hj1, hj2, e, h9.1, ?_⟩
  rcases h9.2 with ⟨q1, q2⟩ | ⟨q1, q2⟩
  · refine Or.inl ⟨by rw [← ej]; exact q1, q2, ⟨h1, q1, h3, h4⟩, fun q => ?_⟩
    have := q.2.1
    rw [q1] at this
    exact absurd this (by decide)
  · refine Or.inr ⟨by rw [← ej]; exact q1, q2, ⟨h1, q1, h3, h4⟩, fun q => ?_⟩
    have := q.2.1
    rw [q1] at this
    exact absurd this (by decide)
theorem ps_at_no {K : Nat → Nat} {F : Nat → Nat → Int32} {row place x : Int32} (h : ¬ ps_at K F row place) : ¬ ps_ok K F x row place := fun q => h ⟨q.1, q.2.2.1, q.2.2.2⟩
/-- what is told of by z, place i, must be remembered -/
def mo_open (S t b0 k5 : Nat) (X : Nat → Nat → Int32) (z : Int32) (i : Nat) : Prop := ¬ S = 0 ∧ i < t ∧ ps_not (fun j => X 6 j = z) b0 k5

set_option maxHeartbeats 4000000 in
set_option maxRecDepth 100000 in
/-- PageStoreModel.at -/
theorem m_at (l : Launch) (dC : Nat → ClassId) (dI : Nat → Nat → Nat) (cI : ClassId) (tys : List (ClassId × FieldType)) (ht : tys[0]? = some (cI, FieldType.int)) (cB cS cZ : ClassId) (htB : tys[1]? = some (cB, FieldType.byte)) (htS : tys[2]? = some (cS, FieldType.short)) (htZ : tys[3]? = some (cZ, FieldType.boolean)) (b K : Nat → Nat) (S : Nat) (ck cu : Int32) (F X : Nat → Nat → Int32) (hKb : ∀ j, K j ≤ 65536) (hSb : S ≤ 15) (row place : Int32) (hk0 : K 0 ≤ 16384) : ps_mI classes l y_Mod_at w_Mod_at ({ frames := 1, cells := 0, slots := 0, locals := 21 }) (dC, dI) tys [.ref (b 0), .int row, .int place] (mw cI cB cS cZ b K S ck cu F X) (fun r u => u = mw cI cB cS cZ b K S ck cu F X ∧ ps_c (ps_at K F row place) (r = F 5 row.toNatClampNeg + place) (r = -1)) := by
  refine ps_mI_of (by decide) rfl (Nat.le_of_ble_eq_true rfl) ?_
  intro p e s m below meth c A ls C0 hA hK hP hD hS hl
  obtain ⟨hx, hb, hr, hml, hts, hown, hlocks, hin⟩ := C0
  have hl : lv_has ls 3 [(0, .ref (b 0)), (1, .int row), (2, .int place)] := hl
  have hP : va_P (dC, dI) classes (mw cI cB cS cZ b K S ck cu F X) s.heap := hP
  have hD : va_D A (mw cI cB cS cZ b K S ck cu F X) := hD
  refine lv_aload_n hx hb d_Mod_at_0 rfl (lv_at hl 0 rfl) ?_
  refine lv_iload_n hx hb d_Mod_at_1 rfl (lv_at hl 1 rfl) ?_
  refine ps_readI (wc := (mw cI cB cS cZ b K S ck cu F X)) hP hD hS hA [0, 1, 2, 3, 4, 5, 6, 7, 8, 9, 10, 11, 12, 13, 14, 15, 16, 17, 18] rfl (fun _ _ h => h.1) (ps_runVI ⟨hx, hb, hml, hown, hts⟩ (m_isRow l dC dI cI tys ht cB cS cZ htB htS htZ b K S ck cu F X hKb hSb row) (ps_cwV ps_gd 1 hts tw_253 k_Mod_isRow e_Mod_isRow ⟨Nat.le_of_ble_eq_true rfl, Nat.le_of_ble_eq_true rfl⟩) hK hP hD [0, 1, 2, 3, 4, 5, 6, 7, 8, 9, 10, 11, 12, 13, 14, 15, 16, 17, 18] (by decide) rfl 0 cMod rfl rfl rfl hl.1 rfl (Nat.le_of_ble_eq_true rfl) d_Mod_at_2 ⟨Nat.zero_le _, Nat.zero_le _⟩) (fun r_1 H locs hr_1 hP hS => ?_)
  obtain ⟨-, hr_1⟩ := hr_1
  subst hr_1
  refine lv_if_eq (tgt := 33) hx hb d_Mod_at_5 (by decide) (fun c_2 => ?_) (fun c_2 => ?_)
  · have c_2 := ps_ite0 c_2
    refine lv_iconst (v := (-1)) hx hb d_Mod_at_33 (by decide) ?_
    exact ps_iret hx hb hr hlocks hK hP hD hS (Nat.le_of_ble_eq_true rfl) (Nat.le_of_ble_eq_true rfl) d_Mod_at_34 (⟨rfl, ps_cn (fun q => c_2 q.1) rfl⟩)
  · have c_2 := ps_ite1 c_2
    have hc := c_2
    obtain ⟨j, hj1, hj2, rfl⟩ := ps_rng (by have h0 := hKb 0; have h1 := hKb 1; have h2 := hKb 2; have h3 := hKb 3; have h4 := hKb 4; have h5 := hKb 5; omega) c_2
    have hj3 : j < 2 ^ 31 := by have h0 := hKb 0; have h1 := hKb 1; have h2 := hKb 2; have h3 := hKb 3; have h4 := hKb 4; have h5 := hKb 5; omega
    unfold ps_at
    rw [nI_clamp hj3]
    refine lv_iload_n hx hb d_Mod_at_8 rfl (lv_at hl 2 rfl) ?_
    refine lv_if_lt (tgt := 33) hx hb d_Mod_at_9 (by decide) (fun c_3 => ?_) (fun c_3 => ?_)
    · refine lv_iconst (v := (-1)) hx hb d_Mod_at_33 (by decide) ?_
      exact ps_iret hx hb hr hlocks hK hP hD hS (Nat.le_of_ble_eq_true rfl) (Nat.le_of_ble_eq_true rfl) d_Mod_at_34 (⟨rfl, ps_cn (fun q => q.2.1 c_3) rfl⟩)
    · refine lv_iload_n hx hb d_Mod_at_12 rfl (lv_at hl 2 rfl) ?_
      refine lv_aload_n hx hb d_Mod_at_13 rfl (lv_at hl 0 rfl) ?_
      refine va_get (D := (dC, dI)) (ci := cMod) (v := .ref (b 3)) (C := R_Mod) (T := F_Mod) (N := 27) hx hb hts i_Mod hown hK hP 0 rfl rfl 2 (by decide) (hts _ tw_244) (fun _ h9 => h9) rfl d_Mod_at_14 ?_
      refine lv_iload_n hx hb d_Mod_at_17 rfl (lv_at hl 1 rfl) ?_
      refine va_iald (f := F 6) hx hb hK hP 3 0 rfl ht (vp_in_nI (show j < 16385 from by omega) (by decide)) d_Mod_at_18 ?_
      refine ps_top (z := (F 6) j) (by rw [nI_clamp (show j < 2 ^ 31 from by omega)]) ?_
      refine lv_icmp_ge (tgt := 33) hx hb d_Mod_at_19 (by decide) (fun c_4 => ?_) (fun c_4 => ?_)
      · refine lv_iconst (v := (-1)) hx hb d_Mod_at_33 (by decide) ?_
        exact ps_iret hx hb hr hlocks hK hP hD hS (Nat.le_of_ble_eq_true rfl) (Nat.le_of_ble_eq_true rfl) d_Mod_at_34 (⟨rfl, ps_cn (fun q => k2_nlt c_4 q.2.2) rfl⟩)
      · refine lv_aload_n hx hb d_Mod_at_22 rfl (lv_at hl 0 rfl) ?_
        refine va_get (D := (dC, dI)) (ci := cMod) (v := .ref (b 2)) (C := R_Mod) (T := F_Mod) (N := 27) hx hb hts i_Mod hown hK hP 0 rfl rfl 1 (by decide) (hts _ tw_243) (fun _ h9 => h9) rfl d_Mod_at_23 ?_
        refine lv_iload_n hx hb d_Mod_at_26 rfl (lv_at hl 1 rfl) ?_
        refine va_iald (f := F 5) hx hb hK hP 2 0 rfl ht (vp_in_nI (show j < 16385 from by omega) (by decide)) d_Mod_at_27 ?_
        refine ps_top (z := (F 5) j) (by rw [nI_clamp (show j < 2 ^ 31 from by omega)]) ?_
        refine lv_iload_n hx hb d_Mod_at_28 rfl (lv_at hl 2 rfl) ?_
        refine lv_iadd hx hb d_Mod_at_29 ?_
        refine lv_goto (tgt := 34) hx hb d_Mod_at_30 (by decide) ?_
        exact ps_iret hx hb hr hlocks hK hP hD hS (Nat.le_of_ble_eq_true rfl) (Nat.le_of_ble_eq_true rfl) d_Mod_at_34 (⟨rfl, ps_cy ⟨hc, c_3, k2_lt c_4⟩ rfl⟩)

set_option maxHeartbeats 4000000 in
set_option maxRecDepth 100000 in
/-- PageStoreModel.get -/
theorem m_get (l : Launch) (dC : Nat → ClassId) (dI : Nat → Nat → Nat) (cI : ClassId) (tys : List (ClassId × FieldType)) (ht : tys[0]? = some (cI, FieldType.int)) (cB cS cZ : ClassId) (htB : tys[1]? = some (cB, FieldType.byte)) (htS : tys[2]? = some (cS, FieldType.short)) (htZ : tys[3]? = some (cZ, FieldType.boolean)) (b K : Nat → Nat) (S : Nat) (ck cu : Int32) (F X : Nat → Nat → Int32) (hKb : ∀ j, K j ≤ 65536) (hSb : S ≤ 15) (row place : Int32) (hk0 : K 0 ≤ 16384) (hk1 : K 1 ≤ 32768) (hrw : ps_rows K F) : ps_mI classes l y_Mod_get w_Mod_get ({ frames := 2, cells := 0, slots := 0, locals := 43 }) (dC, dI) tys [.ref (b 0), .int row, .int place] (mw cI cB cS cZ b K S ck cu F X) (fun r u => u = mw cI cB cS cZ b K S ck cu F X ∧ ps_c (ps_ok K F (nI 1) row place) (r = F 2 (ps_ix F row place)) (ps_c (ps_ok K F (nI 2) row place) (r = X 0 (ps_ix F row place) &&& nI 255) (r = -1))) := by
  refine ps_mI_of (by decide) rfl (Nat.le_of_ble_eq_true rfl) ?_
  intro p e s m below meth c A ls C0 hA hK hP hD hS hl
  obtain ⟨hx, hb, hr, hml, hts, hown, hlocks, hin⟩ := C0
  have hl : lv_has ls 4 [(0, .ref (b 0)), (1, .int row), (2, .int place)] := hl
  have hP : va_P (dC, dI) classes (mw cI cB cS cZ b K S ck cu F X) s.heap := hP
  have hD : va_D A (mw cI cB cS cZ b K S ck cu F X) := hD
  refine lv_aload_n hx hb d_Mod_get_0 rfl (lv_at hl 0 rfl) ?_
  refine lv_iload_n hx hb d_Mod_get_1 rfl (lv_at hl 1 rfl) ?_
  refine lv_iload_n hx hb d_Mod_get_2 rfl (lv_at hl 2 rfl) ?_
  refine ps_readI (wc := (mw cI cB cS cZ b K S ck cu F X)) hP hD hS hA [0, 1, 2, 3, 4, 5, 6, 7, 8, 9, 10, 11, 12, 13, 14, 15, 16, 17, 18] rfl (fun _ _ h => h.1) (ps_runVI ⟨hx, hb, hml, hown, hts⟩ (m_at l dC dI cI tys ht cB cS cZ htB htS htZ b K S ck cu F X hKb hSb row place hk0) (ps_cwV ps_gd 2 hts tw_261 k_Mod_at e_Mod_at ⟨Nat.le_of_ble_eq_true rfl, Nat.le_of_ble_eq_true rfl⟩) hK hP hD [0, 1, 2, 3, 4, 5, 6, 7, 8, 9, 10, 11, 12, 13, 14, 15, 16, 17, 18] (by decide) rfl 0 cMod rfl rfl rfl hl.1 rfl (Nat.le_of_ble_eq_true rfl) d_Mod_get_3 ⟨Nat.zero_le _, Nat.zero_le _⟩) (fun r_1 H locs hr_1 hP hS => ?_)
  obtain ⟨-, hr_1⟩ := hr_1
  rcases hr_1 with ⟨hat, hr_1⟩ | ⟨hat, hr_1⟩
  · obtain ⟨j, hj1, hj2, ej, eix, ⟨h4, hix, hok, hnok⟩ | ⟨h4, hix, hok, hnok⟩⟩ := ps_at_ix3 hKb hrw hat
    · rw [eix] at hr_1
      subst hr_1
      rw [ej] at hl
      have hix31 : ps_ix F row place < 2 ^ 31 := by have b1 := hKb 1; have b2 := hKb 2; omega
      have hj3 : j < 2 ^ 31 := by have b0 := hKb 0; omega
      refine lv_istore_n (lv' := [(3, .int (nI (ps_ix F row place))), (0, .ref (b 0)), (1, .int (nI j)), (2, .int place)]) hx hb d_Mod_get_6 rfl hl (by decide) rfl (fun ls hl => ?_)
      refine lv_iload_n hx hb d_Mod_get_7 rfl (lv_at hl 0 rfl) ?_
      refine lv_if_ge (tgt := 13) hx hb d_Mod_get_8 (by decide) (fun c_2 => ?_) (fun c_2 => ?_)
      · refine lv_aload_n hx hb d_Mod_get_13 rfl (lv_at hl 1 rfl) ?_
        refine va_get (D := (dC, dI)) (ci := cMod) (v := .ref (b 1)) (C := R_Mod) (T := F_Mod) (N := 27) hx hb hts i_Mod hown hK hP 0 rfl rfl 0 (by decide) (hts _ tw_242) (fun _ h9 => h9) rfl d_Mod_get_14 ?_
        refine lv_iload_n hx hb d_Mod_get_17 rfl (lv_at hl 2 rfl) ?_
        refine va_bald (f := F 4) hx hb hK hP 1 1 rfl htB (vp_in_nI (show j < 16385 from by omega) (by decide)) d_Mod_get_18 ?_
        refine ps_top (z := (F 4) j) (by rw [nI_clamp (show j < 2 ^ 31 from hj3)]) ?_
        refine ps_top (z := nI 1) h4 ?_
        refine lv_iconst (v := nI 1) hx hb d_Mod_get_19 (by decide) ?_
        refine lv_icmp_ne (tgt := 32) hx hb d_Mod_get_20 (by decide) (fun c_3 => ?_) (fun c_3 => ?_)
        · have c_3 : ¬ 1 = 1 := fun q => c_3 ((nI_eq (by have h0 := hKb 0; have h1 := hKb 1; have h2 := hKb 2; have h3 := hKb 3; have h4 := hKb 4; have h5 := hKb 5; omega) (by have h0 := hKb 0; have h1 := hKb 1; have h2 := hKb 2; have h3 := hKb 3; have h4 := hKb 4; have h5 := hKb 5; omega)).mpr q)
          exact absurd c_3 (by decide)
        · have c_3 : 1 = 1 := (nI_eq (by have h0 := hKb 0; have h1 := hKb 1; have h2 := hKb 2; have h3 := hKb 3; have h4 := hKb 4; have h5 := hKb 5; omega) (by have h0 := hKb 0; have h1 := hKb 1; have h2 := hKb 2; have h3 := hKb 3; have h4 := hKb 4; have h5 := hKb 5; omega)).mp c_3
          refine lv_aload_n hx hb d_Mod_get_23 rfl (lv_at hl 1 rfl) ?_
          refine va_get (D := (dC, dI)) (ci := cMod) (v := .ref (b 4)) (C := R_Mod) (T := F_Mod) (N := 27) hx hb hts i_Mod hown hK hP 0 rfl rfl 4 (by decide) (hts _ tw_248) (fun _ h9 => h9) rfl d_Mod_get_24 ?_
          refine lv_iload_n hx hb d_Mod_get_27 rfl (lv_at hl 0 rfl) ?_
          refine va_bald (f := F 2) hx hb hK hP 4 1 rfl htB (vp_in_nI (show ps_ix F row place < 32768 from by omega) (by decide)) d_Mod_get_28 ?_
          refine ps_top (z := (F 2) (ps_ix F row place)) (by rw [nI_clamp (show ps_ix F row place < 2 ^ 31 from hix31)]) ?_
          refine lv_goto (tgt := 42) hx hb d_Mod_get_29 (by decide) ?_
          exact ps_iret hx hb hr hlocks hK hP hD hS (Nat.le_of_ble_eq_true rfl) (Nat.le_of_ble_eq_true rfl) d_Mod_get_42 (⟨rfl, ps_cy hok rfl⟩)
      · exact absurd (nI_pos' (by have h0 := hKb 0; have h1 := hKb 1; have h2 := hKb 2; have h3 := hKb 3; have h4 := hKb 4; have h5 := hKb 5; omega)) c_2
    · rw [eix] at hr_1
      subst hr_1
      rw [ej] at hl
      have hix31 : ps_ix F row place < 2 ^ 31 := by have b1 := hKb 1; have b2 := hKb 2; omega
      have hj3 : j < 2 ^ 31 := by have b0 := hKb 0; omega
      refine lv_istore_n (lv' := [(3, .int (nI (ps_ix F row place))), (0, .ref (b 0)), (1, .int (nI j)), (2, .int place)]) hx hb d_Mod_get_6 rfl hl (by decide) rfl (fun ls hl => ?_)
      refine lv_iload_n hx hb d_Mod_get_7 rfl (lv_at hl 0 rfl) ?_
      refine lv_if_ge (tgt := 13) hx hb d_Mod_get_8 (by decide) (fun c_4 => ?_) (fun c_4 => ?_)
      · refine lv_aload_n hx hb d_Mod_get_13 rfl (lv_at hl 1 rfl) ?_
        refine va_get (D := (dC, dI)) (ci := cMod) (v := .ref (b 1)) (C := R_Mod) (T := F_Mod) (N := 27) hx hb hts i_Mod hown hK hP 0 rfl rfl 0 (by decide) (hts _ tw_242) (fun _ h9 => h9) rfl d_Mod_get_14 ?_
        refine lv_iload_n hx hb d_Mod_get_17 rfl (lv_at hl 2 rfl) ?_
        refine va_bald (f := F 4) hx hb hK hP 1 1 rfl htB (vp_in_nI (show j < 16385 from by omega) (by decide)) d_Mod_get_18 ?_
        refine ps_top (z := (F 4) j) (by rw [nI_clamp (show j < 2 ^ 31 from hj3)]) ?_
        refine ps_top (z := nI 2) h4 ?_
        refine lv_iconst (v := nI 1) hx hb d_Mod_get_19 (by decide) ?_
        refine lv_icmp_ne (tgt := 32) hx hb d_Mod_get_20 (by decide) (fun c_5 => ?_) (fun c_5 => ?_)
        · have c_5 : ¬ 2 = 1 := fun q => c_5 ((nI_eq (by have h0 := hKb 0; have h1 := hKb 1; have h2 := hKb 2; have h3 := hKb 3; have h4 := hKb 4; have h5 := hKb 5; omega) (by have h0 := hKb 0; have h1 := hKb 1; have h2 := hKb 2; have h3 := hKb 3; have h4 := hKb 4; have h5 := hKb 5; omega)).mpr q)
          refine lv_aload_n hx hb d_Mod_get_32 rfl (lv_at hl 1 rfl) ?_
          refine va_get (D := (dC, dI)) (ci := cMod) (v := .ref (b 6)) (C := R_Mod) (T := F_Mod) (N := 27) hx hb hts i_Mod hown hK hP 0 rfl rfl 7 (by decide) (hts _ tw_252) (fun _ h9 => h9) rfl d_Mod_get_33 ?_
          refine lv_iload_n hx hb d_Mod_get_36 rfl (lv_at hl 0 rfl) ?_
          refine va_bald (f := X 0) hx hb hK hP 6 1 rfl htB (vp_in_nI (show ps_ix F row place < 65536 from by have b2 := hKb 2; omega) (by decide)) d_Mod_get_37 ?_
          refine ps_top (z := (X 0) (ps_ix F row place)) (by rw [nI_clamp (show ps_ix F row place < 2 ^ 31 from hix31)]) ?_
          refine lv_sipush (v := nI 255) hx hb d_Mod_get_38 (by decide) ?_
          refine lv_iand hx hb d_Mod_get_41 ?_
          exact ps_iret hx hb hr hlocks hK hP hD hS (Nat.le_of_ble_eq_true rfl) (Nat.le_of_ble_eq_true rfl) d_Mod_get_42 (⟨rfl, ps_cn hnok (ps_cy hok rfl)⟩)
        · have c_5 : 2 = 1 := (nI_eq (by have h0 := hKb 0; have h1 := hKb 1; have h2 := hKb 2; have h3 := hKb 3; have h4 := hKb 4; have h5 := hKb 5; omega) (by have h0 := hKb 0; have h1 := hKb 1; have h2 := hKb 2; have h3 := hKb 3; have h4 := hKb 4; have h5 := hKb 5; omega)).mp c_5
          exact absurd c_5 (by decide)
      · exact absurd (nI_pos' (by have h0 := hKb 0; have h1 := hKb 1; have h2 := hKb 2; have h3 := hKb 3; have h4 := hKb 4; have h5 := hKb 5; omega)) c_4
  · subst hr_1
    refine lv_istore_n (lv' := [(3, .int (-1)), (0, .ref (b 0)), (1, .int row), (2, .int place)]) hx hb d_Mod_get_6 rfl hl (by decide) rfl (fun ls hl => ?_)
    refine lv_iload_n hx hb d_Mod_get_7 rfl (lv_at hl 0 rfl) ?_
    refine lv_if_ge (tgt := 13) hx hb d_Mod_get_8 (by decide) (fun c_6 => ?_) (fun c_6 => ?_)
    · exact absurd c_6 (by decide)
    · refine lv_iconst (v := (-1)) hx hb d_Mod_get_11 (by decide) ?_
      exact ps_iret hx hb hr hlocks hK hP hD hS (Nat.le_of_ble_eq_true rfl) (Nat.le_of_ble_eq_true rfl) d_Mod_get_12 (⟨rfl, ps_cn (ps_at_no hat) (ps_cn (ps_at_no hat) rfl)⟩)

set_option maxHeartbeats 4000000 in
set_option maxRecDepth 100000 in
/-- PageStoreModel.number -/
theorem m_number (l : Launch) (dC : Nat → ClassId) (dI : Nat → Nat → Nat) (cI : ClassId) (tys : List (ClassId × FieldType)) (ht : tys[0]? = some (cI, FieldType.int)) (cB cS cZ : ClassId) (htB : tys[1]? = some (cB, FieldType.byte)) (htS : tys[2]? = some (cS, FieldType.short)) (htZ : tys[3]? = some (cZ, FieldType.boolean)) (b K : Nat → Nat) (S : Nat) (ck cu : Int32) (F X : Nat → Nat → Int32) (hKb : ∀ j, K j ≤ 65536) (hSb : S ≤ 15) (row place : Int32) (hk0 : K 0 ≤ 16384) (hk1 : K 1 ≤ 32768) (hrw : ps_rows K F) : ps_mI classes l y_Mod_number w_Mod_number ({ frames := 2, cells := 0, slots := 0, locals := 43 }) (dC, dI) tys [.ref (b 0), .int row, .int place] (mw cI cB cS cZ b K S ck cu F X) (fun r u => u = mw cI cB cS cZ b K S ck cu F X ∧ ps_c (ps_ok K F (nI 1) row place) (r = F 3 (ps_ix F row place)) (r = 0)) := by
  refine ps_mI_of (by decide) rfl (Nat.le_of_ble_eq_true rfl) ?_
  intro p e s m below meth c A ls C0 hA hK hP hD hS hl
  obtain ⟨hx, hb, hr, hml, hts, hown, hlocks, hin⟩ := C0
  have hl : lv_has ls 4 [(0, .ref (b 0)), (1, .int row), (2, .int place)] := hl
  have hP : va_P (dC, dI) classes (mw cI cB cS cZ b K S ck cu F X) s.heap := hP
  have hD : va_D A (mw cI cB cS cZ b K S ck cu F X) := hD
  refine lv_aload_n hx hb d_Mod_number_0 rfl (lv_at hl 0 rfl) ?_
  refine lv_iload_n hx hb d_Mod_number_1 rfl (lv_at hl 1 rfl) ?_
  refine lv_iload_n hx hb d_Mod_number_2 rfl (lv_at hl 2 rfl) ?_
  refine ps_readI (wc := (mw cI cB cS cZ b K S ck cu F X)) hP hD hS hA [0, 1, 2, 3, 4, 5, 6, 7, 8, 9, 10, 11, 12, 13, 14, 15, 16, 17, 18] rfl (fun _ _ h => h.1) (ps_runVI ⟨hx, hb, hml, hown, hts⟩ (m_at l dC dI cI tys ht cB cS cZ htB htS htZ b K S ck cu F X hKb hSb row place hk0) (ps_cwV ps_gd 2 hts tw_261 k_Mod_at e_Mod_at ⟨Nat.le_of_ble_eq_true rfl, Nat.le_of_ble_eq_true rfl⟩) hK hP hD [0, 1, 2, 3, 4, 5, 6, 7, 8, 9, 10, 11, 12, 13, 14, 15, 16, 17, 18] (by decide) rfl 0 cMod rfl rfl rfl hl.1 rfl (Nat.le_of_ble_eq_true rfl) d_Mod_number_3 ⟨Nat.zero_le _, Nat.zero_le _⟩) (fun r_1 H locs hr_1 hP hS => ?_)
  obtain ⟨-, hr_1⟩ := hr_1
  rcases hr_1 with ⟨hat, hr_1⟩ | ⟨hat, hr_1⟩
  · obtain ⟨j, hj1, hj2, ej, eix, ⟨h4, hix, hok, hnok⟩ | ⟨h4, hix, hok, hnok⟩⟩ := ps_at_ix3 hKb hrw hat
    · rw [eix] at hr_1
      subst hr_1
      rw [ej] at hl
      have hix31 : ps_ix F row place < 2 ^ 31 := by have b1 := hKb 1; have b2 := hKb 2; omega
      have hj3 : j < 2 ^ 31 := by have b0 := hKb 0; omega
      refine lv_istore_n (lv' := [(3, .int (nI (ps_ix F row place))), (0, .ref (b 0)), (1, .int (nI j)), (2, .int place)]) hx hb d_Mod_number_6 rfl hl (by decide) rfl (fun ls hl => ?_)
      refine lv_iload_n hx hb d_Mod_number_7 rfl (lv_at hl 0 rfl) ?_
      refine lv_if_lt (tgt := 21) hx hb d_Mod_number_8 (by decide) (fun c_2 => ?_) (fun c_2 => ?_)
      · exact absurd c_2 (nI_pos (by have h0 := hKb 0; have h1 := hKb 1; have h2 := hKb 2; have h3 := hKb 3; have h4 := hKb 4; have h5 := hKb 5; omega))
      · refine lv_aload_n hx hb d_Mod_number_11 rfl (lv_at hl 1 rfl) ?_
        refine va_get (D := (dC, dI)) (ci := cMod) (v := .ref (b 1)) (C := R_Mod) (T := F_Mod) (N := 27) hx hb hts i_Mod hown hK hP 0 rfl rfl 0 (by decide) (hts _ tw_242) (fun _ h9 => h9) rfl d_Mod_number_12 ?_
        refine lv_iload_n hx hb d_Mod_number_15 rfl (lv_at hl 2 rfl) ?_
        refine va_bald (f := F 4) hx hb hK hP 1 1 rfl htB (vp_in_nI (show j < 16385 from by omega) (by decide)) d_Mod_number_16 ?_
        refine ps_top (z := (F 4) j) (by rw [nI_clamp (show j < 2 ^ 31 from hj3)]) ?_
        refine ps_top (z := nI 1) h4 ?_
        refine lv_iconst (v := nI 1) hx hb d_Mod_number_17 (by decide) ?_
        refine lv_icmp_eq (tgt := 25) hx hb d_Mod_number_18 (by decide) (fun c_3 => ?_) (fun c_3 => ?_)
        · have c_3 : 1 = 1 := (nI_eq (by have h0 := hKb 0; have h1 := hKb 1; have h2 := hKb 2; have h3 := hKb 3; have h4 := hKb 4; have h5 := hKb 5; omega) (by have h0 := hKb 0; have h1 := hKb 1; have h2 := hKb 2; have h3 := hKb 3; have h4 := hKb 4; have h5 := hKb 5; omega)).mp c_3
          refine lv_aload_n hx hb d_Mod_number_25 rfl (lv_at hl 1 rfl) ?_
          refine va_get (D := (dC, dI)) (ci := cMod) (v := .ref (b 5)) (C := R_Mod) (T := F_Mod) (N := 27) hx hb hts i_Mod hown hK hP 0 rfl rfl 5 (by decide) (hts _ tw_249) (fun _ h9 => h9) rfl d_Mod_number_26 ?_
          refine lv_iload_n hx hb d_Mod_number_29 rfl (lv_at hl 0 rfl) ?_
          refine va_iald (f := F 3) hx hb hK hP 5 0 rfl ht (vp_in_nI (show ps_ix F row place < 32768 from by omega) (by decide)) d_Mod_number_30 ?_
          refine ps_top (z := (F 3) (ps_ix F row place)) (by rw [nI_clamp (show ps_ix F row place < 2 ^ 31 from hix31)]) ?_
          exact ps_iret hx hb hr hlocks hK hP hD hS (Nat.le_of_ble_eq_true rfl) (Nat.le_of_ble_eq_true rfl) d_Mod_number_31 (⟨rfl, ps_cy hok rfl⟩)
        · have c_3 : ¬ 1 = 1 := fun q => c_3 ((nI_eq (by have h0 := hKb 0; have h1 := hKb 1; have h2 := hKb 2; have h3 := hKb 3; have h4 := hKb 4; have h5 := hKb 5; omega) (by have h0 := hKb 0; have h1 := hKb 1; have h2 := hKb 2; have h3 := hKb 3; have h4 := hKb 4; have h5 := hKb 5; omega)).mpr q)
          exact absurd c_3 (by decide)
    · rw [eix] at hr_1
      subst hr_1
      rw [ej] at hl
      have hix31 : ps_ix F row place < 2 ^ 31 := by have b1 := hKb 1; have b2 := hKb 2; omega
      have hj3 : j < 2 ^ 31 := by have b0 := hKb 0; omega
      refine lv_istore_n (lv' := [(3, .int (nI (ps_ix F row place))), (0, .ref (b 0)), (1, .int (nI j)), (2, .int place)]) hx hb d_Mod_number_6 rfl hl (by decide) rfl (fun ls hl => ?_)
      refine lv_iload_n hx hb d_Mod_number_7 rfl (lv_at hl 0 rfl) ?_
      refine lv_if_lt (tgt := 21) hx hb d_Mod_number_8 (by decide) (fun c_4 => ?_) (fun c_4 => ?_)
      · exact absurd c_4 (nI_pos (by have h0 := hKb 0; have h1 := hKb 1; have h2 := hKb 2; have h3 := hKb 3; have h4 := hKb 4; have h5 := hKb 5; omega))
      · refine lv_aload_n hx hb d_Mod_number_11 rfl (lv_at hl 1 rfl) ?_
        refine va_get (D := (dC, dI)) (ci := cMod) (v := .ref (b 1)) (C := R_Mod) (T := F_Mod) (N := 27) hx hb hts i_Mod hown hK hP 0 rfl rfl 0 (by decide) (hts _ tw_242) (fun _ h9 => h9) rfl d_Mod_number_12 ?_
        refine lv_iload_n hx hb d_Mod_number_15 rfl (lv_at hl 2 rfl) ?_
        refine va_bald (f := F 4) hx hb hK hP 1 1 rfl htB (vp_in_nI (show j < 16385 from by omega) (by decide)) d_Mod_number_16 ?_
        refine ps_top (z := (F 4) j) (by rw [nI_clamp (show j < 2 ^ 31 from hj3)]) ?_
        refine ps_top (z := nI 2) h4 ?_
        refine lv_iconst (v := nI 1) hx hb d_Mod_number_17 (by decide) ?_
        refine lv_icmp_eq (tgt := 25) hx hb d_Mod_number_18 (by decide) (fun c_5 => ?_) (fun c_5 => ?_)
        · have c_5 : 2 = 1 := (nI_eq (by have h0 := hKb 0; have h1 := hKb 1; have h2 := hKb 2; have h3 := hKb 3; have h4 := hKb 4; have h5 := hKb 5; omega) (by have h0 := hKb 0; have h1 := hKb 1; have h2 := hKb 2; have h3 := hKb 3; have h4 := hKb 4; have h5 := hKb 5; omega)).mp c_5
          exact absurd c_5 (by decide)
        · have c_5 : ¬ 2 = 1 := fun q => c_5 ((nI_eq (by have h0 := hKb 0; have h1 := hKb 1; have h2 := hKb 2; have h3 := hKb 3; have h4 := hKb 4; have h5 := hKb 5; omega) (by have h0 := hKb 0; have h1 := hKb 1; have h2 := hKb 2; have h3 := hKb 3; have h4 := hKb 4; have h5 := hKb 5; omega)).mpr q)
          refine lv_iconst (v := 0) hx hb d_Mod_number_21 (by decide) ?_
          refine lv_goto (tgt := 31) hx hb d_Mod_number_22 (by decide) ?_
          exact ps_iret hx hb hr hlocks hK hP hD hS (Nat.le_of_ble_eq_true rfl) (Nat.le_of_ble_eq_true rfl) d_Mod_number_31 (⟨rfl, ps_cn hnok rfl⟩)
  · subst hr_1
    refine lv_istore_n (lv' := [(3, .int (-1)), (0, .ref (b 0)), (1, .int row), (2, .int place)]) hx hb d_Mod_number_6 rfl hl (by decide) rfl (fun ls hl => ?_)
    refine lv_iload_n hx hb d_Mod_number_7 rfl (lv_at hl 0 rfl) ?_
    refine lv_if_lt (tgt := 21) hx hb d_Mod_number_8 (by decide) (fun c_6 => ?_) (fun c_6 => ?_)
    · refine lv_iconst (v := 0) hx hb d_Mod_number_21 (by decide) ?_
      refine lv_goto (tgt := 31) hx hb d_Mod_number_22 (by decide) ?_
      exact ps_iret hx hb hr hlocks hK hP hD hS (Nat.le_of_ble_eq_true rfl) (Nat.le_of_ble_eq_true rfl) d_Mod_number_31 (⟨rfl, ps_cn (ps_at_no hat) rfl⟩)
    · exact absurd (by decide) c_6

set_option maxHeartbeats 4000000 in
set_option maxRecDepth 100000 in
/-- PageStoreModel.setByte -/
theorem m_setByte (l : Launch) (dC : Nat → ClassId) (dI : Nat → Nat → Nat) (cI : ClassId) (tys : List (ClassId × FieldType)) (ht : tys[0]? = some (cI, FieldType.int)) (cB cS cZ : ClassId) (htB : tys[1]? = some (cB, FieldType.byte)) (htS : tys[2]? = some (cS, FieldType.short)) (htZ : tys[3]? = some (cZ, FieldType.boolean)) (b K : Nat → Nat) (S : Nat) (ck cu : Int32) (F X : Nat → Nat → Int32) (hKb : ∀ j, K j ≤ 65536) (hSb : S ≤ 15) (row place v : Int32) (hk0 : K 0 ≤ 16384) (hk1 : K 1 ≤ 32768) (hrw : ps_rows K F) : ps_mI classes l y_Mod_setByte w_Mod_setByte ({ frames := 2, cells := 0, slots := 0, locals := 43 }) (dC, dI) tys [.ref (b 0), .int row, .int place, .int v] (mw cI cB cS cZ b K S ck cu F X) (fun r u => ps_c (ps_ok K F (nI 2) row place) (r = 1 ∧ u = mw cI cB cS cZ b K S ck cu F (ps_u X 0 (ps_ix F row place) v.toInt8.toInt32)) (r = -1 ∧ u = mw cI cB cS cZ b K S ck cu F X)) := by
  refine ps_mI_of (by decide) rfl (Nat.le_of_ble_eq_true rfl) ?_
  intro p e s m below meth c A ls C0 hA hK hP hD hS hl
  obtain ⟨hx, hb, hr, hml, hts, hown, hlocks, hin⟩ := C0
  have hl : lv_has ls 5 [(0, .ref (b 0)), (1, .int row), (2, .int place), (3, .int v)] := hl
  have hP : va_P (dC, dI) classes (mw cI cB cS cZ b K S ck cu F X) s.heap := hP
  have hD : va_D A (mw cI cB cS cZ b K S ck cu F X) := hD
  refine lv_aload_n hx hb d_Mod_setByte_0 rfl (lv_at hl 0 rfl) ?_
  refine lv_iload_n hx hb d_Mod_setByte_1 rfl (lv_at hl 1 rfl) ?_
  refine lv_iload_n hx hb d_Mod_setByte_2 rfl (lv_at hl 2 rfl) ?_
  refine ps_readI (wc := (mw cI cB cS cZ b K S ck cu F X)) hP hD hS hA [0, 1, 2, 3, 4, 5, 6, 7, 8, 9, 10, 11, 12, 13, 14, 15, 16, 17, 18] rfl (fun _ _ h => h.1) (ps_runVI ⟨hx, hb, hml, hown, hts⟩ (m_at l dC dI cI tys ht cB cS cZ htB htS htZ b K S ck cu F X hKb hSb row place hk0) (ps_cwV ps_gd 2 hts tw_261 k_Mod_at e_Mod_at ⟨Nat.le_of_ble_eq_true rfl, Nat.le_of_ble_eq_true rfl⟩) hK hP hD [0, 1, 2, 3, 4, 5, 6, 7, 8, 9, 10, 11, 12, 13, 14, 15, 16, 17, 18] (by decide) rfl 0 cMod rfl rfl rfl hl.1 rfl (Nat.le_of_ble_eq_true rfl) d_Mod_setByte_3 ⟨Nat.zero_le _, Nat.zero_le _⟩) (fun r_1 H locs hr_1 hP hS => ?_)
  obtain ⟨-, hr_1⟩ := hr_1
  rcases hr_1 with ⟨hat, hr_1⟩ | ⟨hat, hr_1⟩
  · obtain ⟨j, hj1, hj2, ej, eix, ⟨h4, hix, hok, hnok⟩ | ⟨h4, hix, hok, hnok⟩⟩ := ps_at_ix3 hKb hrw hat
    · rw [eix] at hr_1
      subst hr_1
      rw [ej] at hl
      have hix31 : ps_ix F row place < 2 ^ 31 := by have b1 := hKb 1; have b2 := hKb 2; omega
      have hj3 : j < 2 ^ 31 := by have b0 := hKb 0; omega
      refine lv_istore (lv' := [(4, .int (nI (ps_ix F row place))), (0, .ref (b 0)), (1, .int (nI j)), (2, .int place), (3, .int v)]) hx hb d_Mod_setByte_6 hl (by decide) rfl (fun ls hl => ?_)
      refine lv_iload hx hb d_Mod_setByte_8 (lv_at hl 0 rfl) ?_
      refine lv_if_lt (tgt := 23) hx hb d_Mod_setByte_10 (by decide) (fun c_2 => ?_) (fun c_2 => ?_)
      · exact absurd c_2 (nI_pos (by have h0 := hKb 0; have h1 := hKb 1; have h2 := hKb 2; have h3 := hKb 3; have h4 := hKb 4; have h5 := hKb 5; omega))
      · refine lv_aload_n hx hb d_Mod_setByte_13 rfl (lv_at hl 1 rfl) ?_
        refine va_get (D := (dC, dI)) (ci := cMod) (v := .ref (b 1)) (C := R_Mod) (T := F_Mod) (N := 27) hx hb hts i_Mod hown hK hP 0 rfl rfl 0 (by decide) (hts _ tw_242) (fun _ h9 => h9) rfl d_Mod_setByte_14 ?_
        refine lv_iload_n hx hb d_Mod_setByte_17 rfl (lv_at hl 2 rfl) ?_
        refine va_bald (f := F 4) hx hb hK hP 1 1 rfl htB (vp_in_nI (show j < 16385 from by omega) (by decide)) d_Mod_setByte_18 ?_
        refine ps_top (z := (F 4) j) (by rw [nI_clamp (show j < 2 ^ 31 from hj3)]) ?_
        refine ps_top (z := nI 1) h4 ?_
        refine lv_iconst (v := nI 2) hx hb d_Mod_setByte_19 (by decide) ?_
        refine lv_icmp_eq (tgt := 25) hx hb d_Mod_setByte_20 (by decide) (fun c_3 => ?_) (fun c_3 => ?_)
        · have c_3 : 1 = 2 := (nI_eq (by have h0 := hKb 0; have h1 := hKb 1; have h2 := hKb 2; have h3 := hKb 3; have h4 := hKb 4; have h5 := hKb 5; omega) (by have h0 := hKb 0; have h1 := hKb 1; have h2 := hKb 2; have h3 := hKb 3; have h4 := hKb 4; have h5 := hKb 5; omega)).mp c_3
          exact absurd c_3 (by decide)
        · have c_3 : ¬ 1 = 2 := fun q => c_3 ((nI_eq (by have h0 := hKb 0; have h1 := hKb 1; have h2 := hKb 2; have h3 := hKb 3; have h4 := hKb 4; have h5 := hKb 5; omega) (by have h0 := hKb 0; have h1 := hKb 1; have h2 := hKb 2; have h3 := hKb 3; have h4 := hKb 4; have h5 := hKb 5; omega)).mpr q)
          refine lv_iconst (v := (-1)) hx hb d_Mod_setByte_23 (by decide) ?_
          exact ps_iret hx hb hr hlocks hK hP hD hS (Nat.le_of_ble_eq_true rfl) (Nat.le_of_ble_eq_true rfl) d_Mod_setByte_24 (ps_cn hnok ⟨rfl, rfl⟩)
    · rw [eix] at hr_1
      subst hr_1
      rw [ej] at hl
      have hix31 : ps_ix F row place < 2 ^ 31 := by have b1 := hKb 1; have b2 := hKb 2; omega
      have hj3 : j < 2 ^ 31 := by have b0 := hKb 0; omega
      refine lv_istore (lv' := [(4, .int (nI (ps_ix F row place))), (0, .ref (b 0)), (1, .int (nI j)), (2, .int place), (3, .int v)]) hx hb d_Mod_setByte_6 hl (by decide) rfl (fun ls hl => ?_)
      refine lv_iload hx hb d_Mod_setByte_8 (lv_at hl 0 rfl) ?_
      refine lv_if_lt (tgt := 23) hx hb d_Mod_setByte_10 (by decide) (fun c_4 => ?_) (fun c_4 => ?_)
      · exact absurd c_4 (nI_pos (by have h0 := hKb 0; have h1 := hKb 1; have h2 := hKb 2; have h3 := hKb 3; have h4 := hKb 4; have h5 := hKb 5; omega))
      · refine lv_aload_n hx hb d_Mod_setByte_13 rfl (lv_at hl 1 rfl) ?_
        refine va_get (D := (dC, dI)) (ci := cMod) (v := .ref (b 1)) (C := R_Mod) (T := F_Mod) (N := 27) hx hb hts i_Mod hown hK hP 0 rfl rfl 0 (by decide) (hts _ tw_242) (fun _ h9 => h9) rfl d_Mod_setByte_14 ?_
        refine lv_iload_n hx hb d_Mod_setByte_17 rfl (lv_at hl 2 rfl) ?_
        refine va_bald (f := F 4) hx hb hK hP 1 1 rfl htB (vp_in_nI (show j < 16385 from by omega) (by decide)) d_Mod_setByte_18 ?_
        refine ps_top (z := (F 4) j) (by rw [nI_clamp (show j < 2 ^ 31 from hj3)]) ?_
        refine ps_top (z := nI 2) h4 ?_
        refine lv_iconst (v := nI 2) hx hb d_Mod_setByte_19 (by decide) ?_
        refine lv_icmp_eq (tgt := 25) hx hb d_Mod_setByte_20 (by decide) (fun c_5 => ?_) (fun c_5 => ?_)
        · have c_5 : 2 = 2 := (nI_eq (by have h0 := hKb 0; have h1 := hKb 1; have h2 := hKb 2; have h3 := hKb 3; have h4 := hKb 4; have h5 := hKb 5; omega) (by have h0 := hKb 0; have h1 := hKb 1; have h2 := hKb 2; have h3 := hKb 3; have h4 := hKb 4; have h5 := hKb 5; omega)).mp c_5
          refine lv_aload_n hx hb d_Mod_setByte_25 rfl (lv_at hl 1 rfl) ?_
          refine va_get (D := (dC, dI)) (ci := cMod) (v := .ref (b 6)) (C := R_Mod) (T := F_Mod) (N := 27) hx hb hts i_Mod hown hK hP 0 rfl rfl 7 (by decide) (hts _ tw_252) (fun _ h9 => h9) rfl d_Mod_setByte_26 ?_
          refine lv_iload hx hb d_Mod_setByte_29 (lv_at hl 0 rfl) ?_
          refine lv_iload_n hx hb d_Mod_setByte_31 rfl (lv_at hl 4 rfl) ?_
          refine lv_i2b (v := v.toInt8.toInt32) hx hb d_Mod_setByte_32 rfl ?_
          refine va_bast (f := X 0) hx hb hK hP hD hS 6 1 rfl htB (vp_in_nI (show ps_ix F row place < 65536 from by have b2 := hKb 2; omega) (by decide)) d_Mod_setByte_33 (fun H locs hP hD hS => ?_)
          rw [nI_clamp (show ps_ix F row place < 2 ^ 31 from hix31), pk_vb] at hP hD
          have hP : va_P (dC, dI) classes (mw cI cB cS cZ b K S ck cu F (va_up X 0 (upd (X 0) (ps_ix F row place) v.toInt8.toInt32))) H := hP
          have hD : va_D A (mw cI cB cS cZ b K S ck cu F (va_up X 0 (upd (X 0) (ps_ix F row place) v.toInt8.toInt32))) := hD
          refine lv_iconst (v := 1) hx hb d_Mod_setByte_34 (by decide) ?_
          exact ps_iret hx hb hr hlocks hK hP hD hS (Nat.le_of_ble_eq_true rfl) (Nat.le_of_ble_eq_true rfl) d_Mod_setByte_35 (ps_cy hok ⟨rfl, rfl⟩)
        · have c_5 : ¬ 2 = 2 := fun q => c_5 ((nI_eq (by have h0 := hKb 0; have h1 := hKb 1; have h2 := hKb 2; have h3 := hKb 3; have h4 := hKb 4; have h5 := hKb 5; omega) (by have h0 := hKb 0; have h1 := hKb 1; have h2 := hKb 2; have h3 := hKb 3; have h4 := hKb 4; have h5 := hKb 5; omega)).mpr q)
          exact absurd c_5 (by decide)
  · subst hr_1
    refine lv_istore (lv' := [(4, .int (-1)), (0, .ref (b 0)), (1, .int row), (2, .int place), (3, .int v)]) hx hb d_Mod_setByte_6 hl (by decide) rfl (fun ls hl => ?_)
    refine lv_iload hx hb d_Mod_setByte_8 (lv_at hl 0 rfl) ?_
    refine lv_if_lt (tgt := 23) hx hb d_Mod_setByte_10 (by decide) (fun c_6 => ?_) (fun c_6 => ?_)
    · refine lv_iconst (v := (-1)) hx hb d_Mod_setByte_23 (by decide) ?_
      exact ps_iret hx hb hr hlocks hK hP hD hS (Nat.le_of_ble_eq_true rfl) (Nat.le_of_ble_eq_true rfl) d_Mod_setByte_24 (ps_cn (ps_at_no hat) ⟨rfl, rfl⟩)
    · exact absurd (by decide) c_6

set_option maxHeartbeats 4000000 in
set_option maxRecDepth 100000 in
/-- PageStoreModel.dictionary -/
theorem m_dictionary (l : Launch) (dC : Nat → ClassId) (dI : Nat → Nat → Nat) (cI : ClassId) (tys : List (ClassId × FieldType)) (ht : tys[0]? = some (cI, FieldType.int)) (cB cS cZ : ClassId) (htB : tys[1]? = some (cB, FieldType.byte)) (htS : tys[2]? = some (cS, FieldType.short)) (htZ : tys[3]? = some (cZ, FieldType.boolean)) (b K : Nat → Nat) (S : Nat) (ck cu : Int32) (F X : Nat → Nat → Int32) (hKb : ∀ j, K j ≤ 65536) (hSb : S ≤ 15) (hk3 : K 3 ≤ 1024) : ps_mI classes l y_Mod_dictionary w_Mod_dictionary ({ frames := 0, cells := 0, slots := 0, locals := 0 }) (dC, dI) tys [.ref (b 0)] (mw cI cB cS cZ b K S ck cu F X) (fun r u => ps_c (1024 ≤ K 3) (r = -3 ∧ u = mw cI cB cS cZ b K S ck cu F X) (r = nI (K 3 + 1) ∧ u = mw cI cB cS cZ b (va_up K 3 (K 3 + 1)) S ck cu F X)) := by
  refine ps_mI_of (by decide) rfl (Nat.le_of_ble_eq_true rfl) ?_
  intro p e s m below meth c A ls C0 hA hK hP hD hS hl
  obtain ⟨hx, hb, hr, hml, hts, hown, hlocks, hin⟩ := C0
  have hl : lv_has ls 1 [(0, .ref (b 0))] := hl
  have hP : va_P (dC, dI) classes (mw cI cB cS cZ b K S ck cu F X) s.heap := hP
  have hD : va_D A (mw cI cB cS cZ b K S ck cu F X) := hD
  refine lv_aload_n hx hb d_Mod_dictionary_0 rfl (lv_at hl 0 rfl) ?_
  refine va_get (D := (dC, dI)) (ci := cMod) (v := .int (nI (K 3))) (C := R_Mod) (T := F_Mod) (N := 27) hx hb hts i_Mod hown hK hP 0 rfl rfl 9 (by decide) (hts _ tw_241) (fun _ h9 => h9) rfl d_Mod_dictionary_1 ?_
  refine lv_sipush (v := nI 1024) hx hb d_Mod_dictionary_4 (by decide) ?_
  refine lv_icmp_ne (tgt := 13) hx hb d_Mod_dictionary_7 (by decide) (fun c_1 => ?_) (fun c_1 => ?_)
  · have c_1 : ¬ K 3 = 1024 := fun q => c_1 ((nI_eq (by have h0 := hKb 0; have h1 := hKb 1; have h2 := hKb 2; have h3 := hKb 3; have h4 := hKb 4; have h5 := hKb 5; omega) (by have h0 := hKb 0; have h1 := hKb 1; have h2 := hKb 2; have h3 := hKb 3; have h4 := hKb 4; have h5 := hKb 5; omega)).mpr q)
    refine lv_aload_n hx hb d_Mod_dictionary_13 rfl (lv_at hl 0 rfl) ?_
    refine lv_dup hx hb d_Mod_dictionary_14 rfl ?_
    refine va_get (D := (dC, dI)) (ci := cMod) (v := .int (nI (K 3))) (C := R_Mod) (T := F_Mod) (N := 27) hx hb hts i_Mod hown hK hP 0 rfl rfl 9 (by decide) (hts _ tw_241) (fun _ h9 => h9) rfl d_Mod_dictionary_15 ?_
    refine lv_iconst (v := nI 1) hx hb d_Mod_dictionary_18 (by decide) ?_
    refine lv_iadd hx hb d_Mod_dictionary_19 ?_
    refine ps_top (z := nI (K 3 + 1)) (nI_add _ _) ?_
    refine va_put (D := (dC, dI)) (ci := cMod) (v := .int (nI (K 3 + 1))) (ty := .int) (C := R_Mod) (T := F_Mod) (N := 27) hx hb hts i_Mod t_Mod t_Mod_ok n_Mod hown hK hP hD hS 0 rfl rfl 9 (by decide) (hts _ tw_241) (fun _ h9 => h9) rfl (by decide +kernel) rfl rfl (Nat.le_of_ble_eq_true rfl) d_Mod_dictionary_20 (fun H locs hP hD hS => ?_)
    have hP : va_P (dC, dI) classes (mw cI cB cS cZ b (va_up K 3 (K 3 + 1)) S ck cu F X) H := hP
    have hD : va_D A (mw cI cB cS cZ b (va_up K 3 (K 3 + 1)) S ck cu F X) := hD
    refine lv_aload_n hx hb d_Mod_dictionary_23 rfl (lv_at hl 0 rfl) ?_
    refine va_get (D := (dC, dI)) (ci := cMod) (v := .int (nI (K 3 + 1))) (C := R_Mod) (T := F_Mod) (N := 27) hx hb hts i_Mod hown hK hP 0 rfl rfl 9 (by decide) (hts _ tw_241) (fun _ h9 => h9) rfl d_Mod_dictionary_24 ?_
    exact ps_iret hx hb hr hlocks hK hP hD hS (Nat.le_of_ble_eq_true rfl) (Nat.le_of_ble_eq_true rfl) d_Mod_dictionary_27 (ps_cn (by omega) ⟨rfl, rfl⟩)
  · have c_1 : K 3 = 1024 := (nI_eq (by have h0 := hKb 0; have h1 := hKb 1; have h2 := hKb 2; have h3 := hKb 3; have h4 := hKb 4; have h5 := hKb 5; omega) (by have h0 := hKb 0; have h1 := hKb 1; have h2 := hKb 2; have h3 := hKb 3; have h4 := hKb 4; have h5 := hKb 5; omega)).mp c_1
    refine lv_bipush (v := (-3)) hx hb d_Mod_dictionary_10 (by decide) ?_
    exact ps_iret hx hb hr hlocks hK hP hD hS (Nat.le_of_ble_eq_true rfl) (Nat.le_of_ble_eq_true rfl) d_Mod_dictionary_12 (ps_cy (by omega) ⟨rfl, rfl⟩)

set_option maxHeartbeats 4000000 in
set_option maxRecDepth 100000 in
/-- PageStoreModel.cursorKind -/
theorem m_cursorKind (l : Launch) (dC : Nat → ClassId) (dI : Nat → Nat → Nat) (cI : ClassId) (tys : List (ClassId × FieldType)) (ht : tys[0]? = some (cI, FieldType.int)) (cB cS cZ : ClassId) (htB : tys[1]? = some (cB, FieldType.byte)) (htS : tys[2]? = some (cS, FieldType.short)) (htZ : tys[3]? = some (cZ, FieldType.boolean)) (b K : Nat → Nat) (S : Nat) (ck cu : Int32) (F X : Nat → Nat → Int32) (hKb : ∀ j, K j ≤ 65536) (hSb : S ≤ 15) : ps_mI classes l y_Mod_cursorKind w_Mod_cursorKind ({ frames := 0, cells := 0, slots := 0, locals := 0 }) (dC, dI) tys [.ref (b 0)] (mw cI cB cS cZ b K S ck cu F X) (fun r u => u = mw cI cB cS cZ b K S ck cu F X ∧ r = ck) := by
  refine ps_mI_of (by decide) rfl (Nat.le_of_ble_eq_true rfl) ?_
  intro p e s m below meth c A ls C0 hA hK hP hD hS hl
  obtain ⟨hx, hb, hr, hml, hts, hown, hlocks, hin⟩ := C0
  have hl : lv_has ls 1 [(0, .ref (b 0))] := hl
  have hP : va_P (dC, dI) classes (mw cI cB cS cZ b K S ck cu F X) s.heap := hP
  have hD : va_D A (mw cI cB cS cZ b K S ck cu F X) := hD
  refine lv_aload_n hx hb d_Mod_cursorKind_0 rfl (lv_at hl 0 rfl) ?_
  refine va_get (D := (dC, dI)) (ci := cMod) (v := .int ck) (C := R_Mod) (T := F_Mod) (N := 27) hx hb hts i_Mod hown hK hP 0 rfl rfl 25 (by decide) (hts _ tw_262) (fun _ h9 => h9) rfl d_Mod_cursorKind_1 ?_
  exact ps_iret hx hb hr hlocks hK hP hD hS (Nat.le_of_ble_eq_true rfl) (Nat.le_of_ble_eq_true rfl) d_Mod_cursorKind_4 (⟨rfl, rfl⟩)

set_option maxHeartbeats 4000000 in
set_option maxRecDepth 100000 in
/-- PageStoreModel.cursorNumber -/
theorem m_cursorNumber (l : Launch) (dC : Nat → ClassId) (dI : Nat → Nat → Nat) (cI : ClassId) (tys : List (ClassId × FieldType)) (ht : tys[0]? = some (cI, FieldType.int)) (cB cS cZ : ClassId) (htB : tys[1]? = some (cB, FieldType.byte)) (htS : tys[2]? = some (cS, FieldType.short)) (htZ : tys[3]? = some (cZ, FieldType.boolean)) (b K : Nat → Nat) (S : Nat) (ck cu : Int32) (F X : Nat → Nat → Int32) (hKb : ∀ j, K j ≤ 65536) (hSb : S ≤ 15) : ps_mI classes l y_Mod_cursorNumber w_Mod_cursorNumber ({ frames := 0, cells := 0, slots := 0, locals := 0 }) (dC, dI) tys [.ref (b 0)] (mw cI cB cS cZ b K S ck cu F X) (fun r u => u = mw cI cB cS cZ b K S ck cu F X ∧ r = cu) := by
  refine ps_mI_of (by decide) rfl (Nat.le_of_ble_eq_true rfl) ?_
  intro p e s m below meth c A ls C0 hA hK hP hD hS hl
  obtain ⟨hx, hb, hr, hml, hts, hown, hlocks, hin⟩ := C0
  have hl : lv_has ls 1 [(0, .ref (b 0))] := hl
  have hP : va_P (dC, dI) classes (mw cI cB cS cZ b K S ck cu F X) s.heap := hP
  have hD : va_D A (mw cI cB cS cZ b K S ck cu F X) := hD
  refine lv_aload_n hx hb d_Mod_cursorNumber_0 rfl (lv_at hl 0 rfl) ?_
  refine va_get (D := (dC, dI)) (ci := cMod) (v := .int cu) (C := R_Mod) (T := F_Mod) (N := 27) hx hb hts i_Mod hown hK hP 0 rfl rfl 26 (by decide) (hts _ tw_263) (fun _ h9 => h9) rfl d_Mod_cursorNumber_1 ?_
  exact ps_iret hx hb hr hlocks hK hP hD hS (Nat.le_of_ble_eq_true rfl) (Nat.le_of_ble_eq_true rfl) d_Mod_cursorNumber_4 (⟨rfl, rfl⟩)

set_option maxHeartbeats 4000000 in
set_option maxRecDepth 100000 in
/-- PageStoreModel.key -/
theorem m_key (l : Launch) (dC : Nat → ClassId) (dI : Nat → Nat → Nat) (cI : ClassId) (tys : List (ClassId × FieldType)) (ht : tys[0]? = some (cI, FieldType.int)) (cB cS cZ : ClassId) (htB : tys[1]? = some (cB, FieldType.byte)) (htS : tys[2]? = some (cS, FieldType.short)) (htZ : tys[3]? = some (cZ, FieldType.boolean)) (b K : Nat → Nat) (S : Nat) (ck cu : Int32) (F X : Nat → Nat → Int32) (hKb : ∀ j, K j ≤ 65536) (hSb : S ≤ 15) (d kk key : Int32) (hk4 : K 4 ≤ 16384) : ps_mI classes l y_Mod_key w_Mod_key ({ frames := 0, cells := 0, slots := 0, locals := 0 }) (dC, dI) tys [.ref (b 0), .int d, .int kk, .int key] (mw cI cB cS cZ b K S ck cu F X) (fun r u => u = mw cI cB cS cZ b K S ck cu F X ∧ ps_fst (fun j => F 9 j = key ∧ F 8 j = kk ∧ F 7 j = d) 0 (K 4) r) := by
  refine ps_mI_of (by decide) rfl (Nat.le_of_ble_eq_true rfl) ?_
  intro p e s m below meth c A ls C0 hA hK hP hD hS hl
  obtain ⟨hx, hb, hr, hml, hts, hown, hlocks, hin⟩ := C0
  have hl : lv_has ls 5 [(0, .ref (b 0)), (1, .int d), (2, .int kk), (3, .int key)] := hl
  have hP : va_P (dC, dI) classes (mw cI cB cS cZ b K S ck cu F X) s.heap := hP
  have hD : va_D A (mw cI cB cS cZ b K S ck cu F X) := hD
  refine lv_iconst (v := nI 0) hx hb d_Mod_key_0 (by decide) ?_
  refine lv_istore (lv' := [(4, .int (nI 0)), (0, .ref (b 0)), (1, .int d), (2, .int kk), (3, .int key)]) hx hb d_Mod_key_1 hl (by decide) rfl (fun ls hl => ?_)
  refine ps_loop (α := Nat) (fun i => 0) (fun i => 0) (fun i => K 4 - i) (fun i H locs ls => lv_has ls 5 [(4, .int (nI i)), (0, .ref (b 0)), (1, .int d), (2, .int kk), (3, .int key)] ∧ va_P (dC, dI) classes (mw cI cB cS cZ b K S ck cu F X) H ∧ va_D A (mw cI cB cS cZ b K S ck cu F X) ∧ va_S A s.heap H locs ∧ i ≤ K 4 ∧ ps_not (fun j => F 9 j = key ∧ F 8 j = kk ∧ F 7 j = d) 0 i) ?_ 0 _ _ ls ⟨lv_sub hl [0, 1, 2, 3, 4] rfl, hP, hD, hS, Nat.zero_le _, ps_not0⟩
  intro i H locs ls hI ih
  obtain ⟨hl, hP, hD, hS, hik, hno⟩ := hI
  refine lv_iload hx hb d_Mod_key_3 (lv_at hl 0 rfl) ?_
  refine lv_aload_n hx hb d_Mod_key_5 rfl (lv_at hl 1 rfl) ?_
  refine va_get (D := (dC, dI)) (ci := cMod) (v := .int (nI (K 4))) (C := R_Mod) (T := F_Mod) (N := 27) hx hb hts i_Mod hown hK hP 0 rfl rfl 16 (by decide) (hts _ tw_264) (fun _ h9 => h9) rfl d_Mod_key_6 ?_
  refine lv_icmp_ge (tgt := 51) hx hb d_Mod_key_9 (by decide) (fun c_1 => ?_) (fun c_1 => ?_)
  · have c_1 : K 4 ≤ i := (nI_leI (by have h0 := hKb 0; have h1 := hKb 1; have h2 := hKb 2; have h3 := hKb 3; have h4 := hKb 4; have h5 := hKb 5; omega) (by have h0 := hKb 0; have h1 := hKb 1; have h2 := hKb 2; have h3 := hKb 3; have h4 := hKb 4; have h5 := hKb 5; omega)).mp c_1
    refine lv_iload hx hb d_Mod_key_51 (lv_at hl 0 rfl) ?_
    refine lv_aload_n hx hb d_Mod_key_53 rfl (lv_at hl 1 rfl) ?_
    refine va_get (D := (dC, dI)) (ci := cMod) (v := .int (nI (K 4))) (C := R_Mod) (T := F_Mod) (N := 27) hx hb hts i_Mod hown hK hP 0 rfl rfl 16 (by decide) (hts _ tw_264) (fun _ h9 => h9) rfl d_Mod_key_54 ?_
    refine lv_icmp_ge (tgt := 65) hx hb d_Mod_key_57 (by decide) (fun c_2 => ?_) (fun c_2 => ?_)
    · have c_2 : K 4 ≤ i := (nI_leI (by have h0 := hKb 0; have h1 := hKb 1; have h2 := hKb 2; have h3 := hKb 3; have h4 := hKb 4; have h5 := hKb 5; omega) (by have h0 := hKb 0; have h1 := hKb 1; have h2 := hKb 2; have h3 := hKb 3; have h4 := hKb 4; have h5 := hKb 5; omega)).mp c_2
      refine lv_iconst (v := (-1)) hx hb d_Mod_key_65 (by decide) ?_
      exact ps_iret hx hb hr hlocks hK hP hD hS (Nat.le_of_ble_eq_true rfl) (Nat.le_of_ble_eq_true rfl) d_Mod_key_66 (⟨rfl, ps_fst_n (by omega) hno⟩)
    · have c_2 : ¬ K 4 ≤ i := fun q => c_2 ((nI_leI (by have h0 := hKb 0; have h1 := hKb 1; have h2 := hKb 2; have h3 := hKb 3; have h4 := hKb 4; have h5 := hKb 5; omega) (by have h0 := hKb 0; have h1 := hKb 1; have h2 := hKb 2; have h3 := hKb 3; have h4 := hKb 4; have h5 := hKb 5; omega)).mpr q)
      exact absurd (by omega) c_2
  · have c_1 : ¬ K 4 ≤ i := fun q => c_1 ((nI_leI (by have h0 := hKb 0; have h1 := hKb 1; have h2 := hKb 2; have h3 := hKb 3; have h4 := hKb 4; have h5 := hKb 5; omega) (by have h0 := hKb 0; have h1 := hKb 1; have h2 := hKb 2; have h3 := hKb 3; have h4 := hKb 4; have h5 := hKb 5; omega)).mpr q)
    refine lv_aload_n hx hb d_Mod_key_12 rfl (lv_at hl 1 rfl) ?_
    refine va_get (D := (dC, dI)) (ci := cMod) (v := .ref (b 7)) (C := R_Mod) (T := F_Mod) (N := 27) hx hb hts i_Mod hown hK hP 0 rfl rfl 10 (by decide) (hts _ tw_265) (fun _ h9 => h9) rfl d_Mod_key_13 ?_
    refine lv_iload hx hb d_Mod_key_16 (lv_at hl 0 rfl) ?_
    refine va_sald (f := F 7) hx hb hK hP 7 2 rfl htS (vp_in_nI (show i < 16384 from by omega) (by decide)) d_Mod_key_18 ?_
    refine ps_top (z := (F 7) i) (by rw [nI_clamp (show i < 2 ^ 31 from by omega)]) ?_
    refine lv_iload_n hx hb d_Mod_key_19 rfl (lv_at hl 2 rfl) ?_
    refine lv_icmp_ne (tgt := 45) hx hb d_Mod_key_20 (by decide) (fun c_3 => ?_) (fun c_3 => ?_)
    · refine lv_iinc (v := nI (i + 1)) (lv' := [(4, .int (nI (i + 1))), (0, .ref (b 0)), (1, .int d), (2, .int kk), (3, .int key)]) hx hb d_Mod_key_45 hl (k := 0) rfl (nI_1 _) (by decide) rfl (fun ls hl => ?_)
      refine lv_goto (tgt := 3) hx hb d_Mod_key_48 (by decide) ?_
      exact ih (i + 1) _ _ ls (by omega) ⟨lv_sub hl [0, 1, 2, 3, 4] rfl, hP, hD, hS, by omega, ps_nots hno (fun q => c_3 q.2.2)⟩
    · refine lv_aload_n hx hb d_Mod_key_23 rfl (lv_at hl 1 rfl) ?_
      refine va_get (D := (dC, dI)) (ci := cMod) (v := .ref (b 8)) (C := R_Mod) (T := F_Mod) (N := 27) hx hb hts i_Mod hown hK hP 0 rfl rfl 11 (by decide) (hts _ tw_266) (fun _ h9 => h9) rfl d_Mod_key_24 ?_
      refine lv_iload hx hb d_Mod_key_27 (lv_at hl 0 rfl) ?_
      refine va_bald (f := F 8) hx hb hK hP 8 1 rfl htB (vp_in_nI (show i < 16384 from by omega) (by decide)) d_Mod_key_29 ?_
      refine ps_top (z := (F 8) i) (by rw [nI_clamp (show i < 2 ^ 31 from by omega)]) ?_
      refine lv_iload_n hx hb d_Mod_key_30 rfl (lv_at hl 3 rfl) ?_
      refine lv_icmp_ne (tgt := 45) hx hb d_Mod_key_31 (by decide) (fun c_4 => ?_) (fun c_4 => ?_)
      · refine lv_iinc (v := nI (i + 1)) (lv' := [(4, .int (nI (i + 1))), (0, .ref (b 0)), (1, .int d), (2, .int kk), (3, .int key)]) hx hb d_Mod_key_45 hl (k := 0) rfl (nI_1 _) (by decide) rfl (fun ls hl => ?_)
        refine lv_goto (tgt := 3) hx hb d_Mod_key_48 (by decide) ?_
        exact ih (i + 1) _ _ ls (by omega) ⟨lv_sub hl [0, 1, 2, 3, 4] rfl, hP, hD, hS, by omega, ps_nots hno (fun q => c_4 q.2.1)⟩
      · refine lv_aload_n hx hb d_Mod_key_34 rfl (lv_at hl 1 rfl) ?_
        refine va_get (D := (dC, dI)) (ci := cMod) (v := .ref (b 9)) (C := R_Mod) (T := F_Mod) (N := 27) hx hb hts i_Mod hown hK hP 0 rfl rfl 12 (by decide) (hts _ tw_267) (fun _ h9 => h9) rfl d_Mod_key_35 ?_
        refine lv_iload hx hb d_Mod_key_38 (lv_at hl 0 rfl) ?_
        refine va_iald (f := F 9) hx hb hK hP 9 0 rfl ht (vp_in_nI (show i < 16384 from by omega) (by decide)) d_Mod_key_40 ?_
        refine ps_top (z := (F 9) i) (by rw [nI_clamp (show i < 2 ^ 31 from by omega)]) ?_
        refine lv_iload_n hx hb d_Mod_key_41 rfl (lv_at hl 4 rfl) ?_
        refine lv_icmp_eq (tgt := 51) hx hb d_Mod_key_42 (by decide) (fun c_5 => ?_) (fun c_5 => ?_)
        · refine lv_iload hx hb d_Mod_key_51 (lv_at hl 0 rfl) ?_
          refine lv_aload_n hx hb d_Mod_key_53 rfl (lv_at hl 1 rfl) ?_
          refine va_get (D := (dC, dI)) (ci := cMod) (v := .int (nI (K 4))) (C := R_Mod) (T := F_Mod) (N := 27) hx hb hts i_Mod hown hK hP 0 rfl rfl 16 (by decide) (hts _ tw_264) (fun _ h9 => h9) rfl d_Mod_key_54 ?_
          refine lv_icmp_ge (tgt := 65) hx hb d_Mod_key_57 (by decide) (fun c_6 => ?_) (fun c_6 => ?_)
          · have c_6 : K 4 ≤ i := (nI_leI (by have h0 := hKb 0; have h1 := hKb 1; have h2 := hKb 2; have h3 := hKb 3; have h4 := hKb 4; have h5 := hKb 5; omega) (by have h0 := hKb 0; have h1 := hKb 1; have h2 := hKb 2; have h3 := hKb 3; have h4 := hKb 4; have h5 := hKb 5; omega)).mp c_6
            exact absurd c_6 (by omega)
          · have c_6 : ¬ K 4 ≤ i := fun q => c_6 ((nI_leI (by have h0 := hKb 0; have h1 := hKb 1; have h2 := hKb 2; have h3 := hKb 3; have h4 := hKb 4; have h5 := hKb 5; omega) (by have h0 := hKb 0; have h1 := hKb 1; have h2 := hKb 2; have h3 := hKb 3; have h4 := hKb 4; have h5 := hKb 5; omega)).mpr q)
            refine lv_iload hx hb d_Mod_key_60 (lv_at hl 0 rfl) ?_
            refine lv_goto (tgt := 66) hx hb d_Mod_key_62 (by decide) ?_
            exact ps_iret hx hb hr hlocks hK hP hD hS (Nat.le_of_ble_eq_true rfl) (Nat.le_of_ble_eq_true rfl) d_Mod_key_66 (⟨rfl, ps_fst_y (Nat.zero_le _) (by omega) ⟨c_5, c_4, c_3⟩ hno⟩)
        · refine lv_iinc (v := nI (i + 1)) (lv' := [(4, .int (nI (i + 1))), (0, .ref (b 0)), (1, .int d), (2, .int kk), (3, .int key)]) hx hb d_Mod_key_45 hl (k := 0) rfl (nI_1 _) (by decide) rfl (fun ls hl => ?_)
          refine lv_goto (tgt := 3) hx hb d_Mod_key_48 (by decide) ?_
          exact ih (i + 1) _ _ ls (by omega) ⟨lv_sub hl [0, 1, 2, 3, 4] rfl, hP, hD, hS, by omega, ps_nots hno (fun q => c_5 q.1)⟩

set_option maxHeartbeats 4000000 in
set_option maxRecDepth 100000 in
/-- PageStoreModel.there -/
theorem m_there (l : Launch) (dC : Nat → ClassId) (dI : Nat → Nat → Nat) (cI : ClassId) (tys : List (ClassId × FieldType)) (ht : tys[0]? = some (cI, FieldType.int)) (cB cS cZ : ClassId) (htB : tys[1]? = some (cB, FieldType.byte)) (htS : tys[2]? = some (cS, FieldType.short)) (htZ : tys[3]? = some (cZ, FieldType.boolean)) (b K : Nat → Nat) (S : Nat) (ck cu : Int32) (F X : Nat → Nat → Int32) (hKb : ∀ j, K j ≤ 65536) (hSb : S ≤ 15) (d kk key : Int32) (hk4 : K 4 ≤ 16384) : ps_mI classes l y_Mod_there w_Mod_there ({ frames := 1, cells := 0, slots := 0, locals := 24 }) (dC, dI) tys [.ref (b 0), .int d, .int kk, .int key] (mw cI cB cS cZ b K S ck cu F X) (fun r u => u = mw cI cB cS cZ b K S ck cu F X ∧ ((ps_not (fun j => F 9 j = key ∧ F 8 j = kk ∧ F 7 j = d) 0 (K 4) ∧ r = -1) ∨ (∃ j : Nat, j < K 4 ∧ (fun j => F 9 j = key ∧ F 8 j = kk ∧ F 7 j = d) j ∧ ps_not (fun j => F 9 j = key ∧ F 8 j = kk ∧ F 7 j = d) 0 j ∧ ps_c (X 3 j = 0) (r = nI j) (r = -1)))) := by
  refine ps_mI_of (by decide) rfl (Nat.le_of_ble_eq_true rfl) ?_
  intro p e s m below meth c A ls C0 hA hK hP hD hS hl
  obtain ⟨hx, hb, hr, hml, hts, hown, hlocks, hin⟩ := C0
  have hl : lv_has ls 5 [(0, .ref (b 0)), (1, .int d), (2, .int kk), (3, .int key)] := hl
  have hP : va_P (dC, dI) classes (mw cI cB cS cZ b K S ck cu F X) s.heap := hP
  have hD : va_D A (mw cI cB cS cZ b K S ck cu F X) := hD
  refine lv_aload_n hx hb d_Mod_there_0 rfl (lv_at hl 0 rfl) ?_
  refine lv_iload_n hx hb d_Mod_there_1 rfl (lv_at hl 1 rfl) ?_
  refine lv_iload_n hx hb d_Mod_there_2 rfl (lv_at hl 2 rfl) ?_
  refine lv_iload_n hx hb d_Mod_there_3 rfl (lv_at hl 3 rfl) ?_
  refine ps_readI (wc := (mw cI cB cS cZ b K S ck cu F X)) hP hD hS hA [0, 1, 2, 3, 4, 5, 6, 7, 8, 9, 10, 11, 12, 13, 14, 15, 16, 17, 18] rfl (fun _ _ h => h.1) (ps_runVI ⟨hx, hb, hml, hown, hts⟩ (m_key l dC dI cI tys ht cB cS cZ htB htS htZ b K S ck cu F X hKb hSb d kk key hk4) (ps_cwV ps_gd 3 hts tw_268 k_Mod_key e_Mod_key ⟨Nat.le_of_ble_eq_true rfl, Nat.le_of_ble_eq_true rfl⟩) hK hP hD [0, 1, 2, 3, 4, 5, 6, 7, 8, 9, 10, 11, 12, 13, 14, 15, 16, 17, 18] (by decide) rfl 0 cMod rfl rfl rfl hl.1 rfl (Nat.le_of_ble_eq_true rfl) d_Mod_there_4 ⟨Nat.zero_le _, Nat.zero_le _⟩) (fun r_1 H locs hr_1 hP hS => ?_)
  obtain ⟨-, hr_1⟩ := hr_1
  rcases hr_1 with ⟨j, -, hj, hjm, hjn, hr_1⟩ | ⟨hnone, hr_1⟩
  · subst hr_1
    have hj31 : j < 2 ^ 31 := by have b4 := hKb 4; omega
    refine lv_istore (lv' := [(4, .int (nI j)), (0, .ref (b 0)), (1, .int d), (2, .int kk), (3, .int key)]) hx hb d_Mod_there_7 hl (by decide) rfl (fun ls hl => ?_)
    refine lv_iload hx hb d_Mod_there_9 (lv_at hl 0 rfl) ?_
    refine lv_if_lt (tgt := 29) hx hb d_Mod_there_11 (by decide) (fun c_2 => ?_) (fun c_2 => ?_)
    · exact absurd c_2 (nI_pos (by have h0 := hKb 0; have h1 := hKb 1; have h2 := hKb 2; have h3 := hKb 3; have h4 := hKb 4; have h5 := hKb 5; omega))
    · refine lv_aload_n hx hb d_Mod_there_14 rfl (lv_at hl 1 rfl) ?_
      refine va_get (D := (dC, dI)) (ci := cMod) (v := .ref (b 12)) (C := R_Mod) (T := F_Mod) (N := 27) hx hb hts i_Mod hown hK hP 0 rfl rfl 15 (by decide) (hts _ tw_269) (fun _ h9 => h9) rfl d_Mod_there_15 ?_
      refine lv_iload hx hb d_Mod_there_18 (lv_at hl 0 rfl) ?_
      refine va_zald (f := X 3) hx hb hK hP 12 3 rfl htZ (vp_in_nI (show j < 16384 from by omega) (by decide)) d_Mod_there_20 ?_
      refine ps_top (z := (X 3) j) (by rw [nI_clamp (show j < 2 ^ 31 from hj31)]) ?_
      refine lv_if_ne (tgt := 29) hx hb d_Mod_there_21 (by decide) (fun c_3 => ?_) (fun c_3 => ?_)
      · refine lv_iconst (v := (-1)) hx hb d_Mod_there_29 (by decide) ?_
        exact ps_iret hx hb hr hlocks hK hP hD hS (Nat.le_of_ble_eq_true rfl) (Nat.le_of_ble_eq_true rfl) d_Mod_there_30 (⟨rfl, Or.inr ⟨j, hj, hjm, hjn, ps_cn c_3 rfl⟩⟩)
      · refine lv_iload hx hb d_Mod_there_24 (lv_at hl 0 rfl) ?_
        refine lv_goto (tgt := 30) hx hb d_Mod_there_26 (by decide) ?_
        exact ps_iret hx hb hr hlocks hK hP hD hS (Nat.le_of_ble_eq_true rfl) (Nat.le_of_ble_eq_true rfl) d_Mod_there_30 (⟨rfl, Or.inr ⟨j, hj, hjm, hjn, ps_cy c_3 rfl⟩⟩)
  · subst hr_1
    refine lv_istore (lv' := [(4, .int (-1)), (0, .ref (b 0)), (1, .int d), (2, .int kk), (3, .int key)]) hx hb d_Mod_there_7 hl (by decide) rfl (fun ls hl => ?_)
    refine lv_iload hx hb d_Mod_there_9 (lv_at hl 0 rfl) ?_
    refine lv_if_lt (tgt := 29) hx hb d_Mod_there_11 (by decide) (fun c_4 => ?_) (fun c_4 => ?_)
    · refine lv_iconst (v := (-1)) hx hb d_Mod_there_29 (by decide) ?_
      exact ps_iret hx hb hr hlocks hK hP hD hS (Nat.le_of_ble_eq_true rfl) (Nat.le_of_ble_eq_true rfl) d_Mod_there_30 (⟨rfl, Or.inl ⟨hnone, rfl⟩⟩)
    · exact absurd (by decide) c_4

set_option maxHeartbeats 4000000 in
set_option maxRecDepth 100000 in
/-- PageStoreModel.find -/
theorem m_find (l : Launch) (dC : Nat → ClassId) (dI : Nat → Nat → Nat) (cI : ClassId) (tys : List (ClassId × FieldType)) (ht : tys[0]? = some (cI, FieldType.int)) (cB cS cZ : ClassId) (htB : tys[1]? = some (cB, FieldType.byte)) (htS : tys[2]? = some (cS, FieldType.short)) (htZ : tys[3]? = some (cZ, FieldType.boolean)) (b K : Nat → Nat) (S : Nat) (ck cu : Int32) (F X : Nat → Nat → Int32) (hKb : ∀ j, K j ≤ 65536) (hSb : S ≤ 15) (d kk key : Int32) (hk4 : K 4 ≤ 16384) : ps_mI classes l y_Mod_find w_Mod_find ({ frames := 2, cells := 0, slots := 0, locals := 48 }) (dC, dI) tys [.ref (b 0), .int d, .int kk, .int key] (mw cI cB cS cZ b K S ck cu F X) (fun r u => u = mw cI cB cS cZ b K S ck cu F X ∧ ps_c ((nI 1 ≤ d ∧ d ≤ nI (K 3)) ∧ (nI 1 ≤ kk ∧ kk ≤ nI 15)) ((ps_not (fun j => F 9 j = key ∧ F 8 j = kk ∧ F 7 j = d) 0 (K 4) ∧ r = -2) ∨ (∃ j : Nat, j < K 4 ∧ (fun j => F 9 j = key ∧ F 8 j = kk ∧ F 7 j = d) j ∧ ps_not (fun j => F 9 j = key ∧ F 8 j = kk ∧ F 7 j = d) 0 j ∧ ps_c (¬ X 3 j = 0) (r = -2) (r = X 1 j))) (r = -1)) := by
  refine ps_mI_of (by decide) rfl (Nat.le_of_ble_eq_true rfl) ?_
  intro p e s m below meth c A ls C0 hA hK hP hD hS hl
  obtain ⟨hx, hb, hr, hml, hts, hown, hlocks, hin⟩ := C0
  have hl : lv_has ls 5 [(0, .ref (b 0)), (1, .int d), (2, .int kk), (3, .int key)] := hl
  have hP : va_P (dC, dI) classes (mw cI cB cS cZ b K S ck cu F X) s.heap := hP
  have hD : va_D A (mw cI cB cS cZ b K S ck cu F X) := hD
  refine lv_aload_n hx hb d_Mod_find_0 rfl (lv_at hl 0 rfl) ?_
  refine lv_iload_n hx hb d_Mod_find_1 rfl (lv_at hl 1 rfl) ?_
  refine ps_readI (wc := (mw cI cB cS cZ b K S ck cu F X)) hP hD hS hA [0, 1, 2, 3, 4, 5, 6, 7, 8, 9, 10, 11, 12, 13, 14, 15, 16, 17, 18] rfl (fun _ _ h => h.1) (ps_runVI ⟨hx, hb, hml, hown, hts⟩ (m_isDic l dC dI cI tys ht cB cS cZ htB htS htZ b K S ck cu F X hKb hSb d) (ps_cwV ps_gd 1 hts tw_270 k_Mod_isDictionary e_Mod_isDictionary ⟨Nat.le_of_ble_eq_true rfl, Nat.le_of_ble_eq_true rfl⟩) hK hP hD [0, 1, 2, 3, 4, 5, 6, 7, 8, 9, 10, 11, 12, 13, 14, 15, 16, 17, 18] (by decide) rfl 0 cMod rfl rfl rfl hl.1 rfl (Nat.le_of_ble_eq_true rfl) d_Mod_find_2 ⟨Nat.zero_le _, Nat.zero_le _⟩) (fun r_1 H locs hr_1 hP hS => ?_)
  obtain ⟨-, hr_1⟩ := hr_1
  subst hr_1
  refine lv_if_eq (tgt := 15) hx hb d_Mod_find_5 (by decide) (fun c_2 => ?_) (fun c_2 => ?_)
  · have c_2 := ps_ite0 c_2
    refine lv_iconst (v := (-1)) hx hb d_Mod_find_15 (by decide) ?_
    exact ps_iret hx hb hr hlocks hK hP hD hS (Nat.le_of_ble_eq_true rfl) (Nat.le_of_ble_eq_true rfl) d_Mod_find_16 (⟨rfl, ps_cn (fun q => c_2 q.1) rfl⟩)
  · have c_2 := ps_ite1 c_2
    refine lv_iload_n hx hb d_Mod_find_8 rfl (lv_at hl 2 rfl) ?_
    refine ps_readI (wc := []) hP hD hS hA [] rfl (fun _ _ h => h.1) (ps_runSI ⟨hx, hb, hml, hown, hts⟩ (m_isKey l dC dI cI tys ht kk) (ps_cwS ps_gd 1 hts tw_271 k_Mod_isKey e_Mod_isKey ⟨Nat.le_of_ble_eq_true rfl, Nat.le_of_ble_eq_true rfl⟩) hK hP hD [] (by decide) rfl rfl hl.1 rfl (Nat.le_of_ble_eq_true rfl) d_Mod_find_9 ⟨Nat.zero_le _, Nat.zero_le _⟩) (fun r_3 H locs hr_3 hP hS => ?_)
    obtain ⟨-, hr_3⟩ := hr_3
    subst hr_3
    refine lv_if_ne (tgt := 17) hx hb d_Mod_find_12 (by decide) (fun c_4 => ?_) (fun c_4 => ?_)
    · have c_4 := ps_ite1 c_4
      refine lv_aload_n hx hb d_Mod_find_17 rfl (lv_at hl 0 rfl) ?_
      refine lv_iload_n hx hb d_Mod_find_18 rfl (lv_at hl 1 rfl) ?_
      refine lv_iload_n hx hb d_Mod_find_19 rfl (lv_at hl 2 rfl) ?_
      refine lv_iload_n hx hb d_Mod_find_20 rfl (lv_at hl 3 rfl) ?_
      refine ps_readI (wc := (mw cI cB cS cZ b K S ck cu F X)) hP hD hS hA [0, 1, 2, 3, 4, 5, 6, 7, 8, 9, 10, 11, 12, 13, 14, 15, 16, 17, 18] rfl (fun _ _ h => h.1) (ps_runVI ⟨hx, hb, hml, hown, hts⟩ (m_there l dC dI cI tys ht cB cS cZ htB htS htZ b K S ck cu F X hKb hSb d kk key hk4) (ps_cwV ps_gd 3 hts tw_272 k_Mod_there e_Mod_there ⟨Nat.le_of_ble_eq_true rfl, Nat.le_of_ble_eq_true rfl⟩) hK hP hD [0, 1, 2, 3, 4, 5, 6, 7, 8, 9, 10, 11, 12, 13, 14, 15, 16, 17, 18] (by decide) rfl 0 cMod rfl rfl rfl hl.1 rfl (Nat.le_of_ble_eq_true rfl) d_Mod_find_21 ⟨Nat.zero_le _, Nat.zero_le _⟩) (fun r_5 H locs hr_5 hP hS => ?_)
      obtain ⟨-, hr_5⟩ := hr_5
      rcases hr_5 with ⟨hnone, hr_5⟩ | ⟨j, hj, hjm, hjn, ⟨hgone, hr_5⟩ | ⟨hgone, hr_5⟩⟩
      · subst hr_5
        refine lv_istore (lv' := [(4, .int (-1)), (0, .ref (b 0)), (1, .int d), (2, .int kk), (3, .int key)]) hx hb d_Mod_find_24 hl (by decide) rfl (fun ls hl => ?_)
        refine lv_iload hx hb d_Mod_find_26 (lv_at hl 0 rfl) ?_
        refine lv_if_ge (tgt := 36) hx hb d_Mod_find_28 (by decide) (fun c_6 => ?_) (fun c_6 => ?_)
        · exact absurd c_6 (by decide)
        · refine lv_bipush (v := (-2)) hx hb d_Mod_find_31 (by decide) ?_
          refine lv_goto (tgt := 43) hx hb d_Mod_find_33 (by decide) ?_
          exact ps_iret hx hb hr hlocks hK hP hD hS (Nat.le_of_ble_eq_true rfl) (Nat.le_of_ble_eq_true rfl) d_Mod_find_43 (⟨rfl, ps_cy ⟨c_2, c_4⟩ (Or.inl ⟨hnone, rfl⟩)⟩)
      · subst hr_5
        have hj31 : j < 2 ^ 31 := by have b4 := hKb 4; omega
        refine lv_istore (lv' := [(4, .int (nI j)), (0, .ref (b 0)), (1, .int d), (2, .int kk), (3, .int key)]) hx hb d_Mod_find_24 hl (by decide) rfl (fun ls hl => ?_)
        refine lv_iload hx hb d_Mod_find_26 (lv_at hl 0 rfl) ?_
        refine lv_if_ge (tgt := 36) hx hb d_Mod_find_28 (by decide) (fun c_7 => ?_) (fun c_7 => ?_)
        · refine lv_aload_n hx hb d_Mod_find_36 rfl (lv_at hl 1 rfl) ?_
          refine va_get (D := (dC, dI)) (ci := cMod) (v := .ref (b 10)) (C := R_Mod) (T := F_Mod) (N := 27) hx hb hts i_Mod hown hK hP 0 rfl rfl 13 (by decide) (hts _ tw_273) (fun _ h9 => h9) rfl d_Mod_find_37 ?_
          refine lv_iload hx hb d_Mod_find_40 (lv_at hl 0 rfl) ?_
          refine va_bald (f := X 1) hx hb hK hP 10 1 rfl htB (vp_in_nI (show j < 16384 from by omega) (by decide)) d_Mod_find_42 ?_
          refine ps_top (z := (X 1) j) (by rw [nI_clamp (show j < 2 ^ 31 from hj31)]) ?_
          exact ps_iret hx hb hr hlocks hK hP hD hS (Nat.le_of_ble_eq_true rfl) (Nat.le_of_ble_eq_true rfl) d_Mod_find_43 (⟨rfl, ps_cy ⟨c_2, c_4⟩ (Or.inr ⟨j, hj, hjm, hjn, ps_cn (fun q => q hgone) rfl⟩)⟩)
        · exact absurd (nI_pos' (by have h0 := hKb 0; have h1 := hKb 1; have h2 := hKb 2; have h3 := hKb 3; have h4 := hKb 4; have h5 := hKb 5; omega)) c_7
      · subst hr_5
        refine lv_istore (lv' := [(4, .int (-1)), (0, .ref (b 0)), (1, .int d), (2, .int kk), (3, .int key)]) hx hb d_Mod_find_24 hl (by decide) rfl (fun ls hl => ?_)
        refine lv_iload hx hb d_Mod_find_26 (lv_at hl 0 rfl) ?_
        refine lv_if_ge (tgt := 36) hx hb d_Mod_find_28 (by decide) (fun c_8 => ?_) (fun c_8 => ?_)
        · exact absurd c_8 (by decide)
        · refine lv_bipush (v := (-2)) hx hb d_Mod_find_31 (by decide) ?_
          refine lv_goto (tgt := 43) hx hb d_Mod_find_33 (by decide) ?_
          exact ps_iret hx hb hr hlocks hK hP hD hS (Nat.le_of_ble_eq_true rfl) (Nat.le_of_ble_eq_true rfl) d_Mod_find_43 (⟨rfl, ps_cy ⟨c_2, c_4⟩ (Or.inr ⟨j, hj, hjm, hjn, ps_cy hgone rfl⟩)⟩)
    · have c_4 := ps_ite0 c_4
      refine lv_iconst (v := (-1)) hx hb d_Mod_find_15 (by decide) ?_
      exact ps_iret hx hb hr hlocks hK hP hD hS (Nat.le_of_ble_eq_true rfl) (Nat.le_of_ble_eq_true rfl) d_Mod_find_16 (⟨rfl, ps_cn (fun q => c_4 q.2) rfl⟩)

set_option maxHeartbeats 4000000 in
set_option maxRecDepth 100000 in
/-- PageStoreModel.found -/
theorem m_found (l : Launch) (dC : Nat → ClassId) (dI : Nat → Nat → Nat) (cI : ClassId) (tys : List (ClassId × FieldType)) (ht : tys[0]? = some (cI, FieldType.int)) (cB cS cZ : ClassId) (htB : tys[1]? = some (cB, FieldType.byte)) (htS : tys[2]? = some (cS, FieldType.short)) (htZ : tys[3]? = some (cZ, FieldType.boolean)) (b K : Nat → Nat) (S : Nat) (ck cu : Int32) (F X : Nat → Nat → Int32) (hKb : ∀ j, K j ≤ 65536) (hSb : S ≤ 15) (d kk key : Int32) (hk4 : K 4 ≤ 16384) : ps_mI classes l y_Mod_found w_Mod_found ({ frames := 2, cells := 0, slots := 0, locals := 48 }) (dC, dI) tys [.ref (b 0), .int d, .int kk, .int key] (mw cI cB cS cZ b K S ck cu F X) (fun r u => u = mw cI cB cS cZ b K S ck cu F X ∧ ps_c (nI 1 ≤ d ∧ d ≤ nI (K 3)) ((ps_not (fun j => F 9 j = key ∧ F 8 j = kk ∧ F 7 j = d) 0 (K 4) ∧ r = 0) ∨ (∃ j : Nat, j < K 4 ∧ (fun j => F 9 j = key ∧ F 8 j = kk ∧ F 7 j = d) j ∧ ps_not (fun j => F 9 j = key ∧ F 8 j = kk ∧ F 7 j = d) 0 j ∧ ps_c (¬ X 3 j = 0) (r = 0) (r = X 2 j))) (r = 0)) := by
  refine ps_mI_of (by decide) rfl (Nat.le_of_ble_eq_true rfl) ?_
  intro p e s m below meth c A ls C0 hA hK hP hD hS hl
  obtain ⟨hx, hb, hr, hml, hts, hown, hlocks, hin⟩ := C0
  have hl : lv_has ls 5 [(0, .ref (b 0)), (1, .int d), (2, .int kk), (3, .int key)] := hl
  have hP : va_P (dC, dI) classes (mw cI cB cS cZ b K S ck cu F X) s.heap := hP
  have hD : va_D A (mw cI cB cS cZ b K S ck cu F X) := hD
  refine lv_aload_n hx hb d_Mod_found_0 rfl (lv_at hl 0 rfl) ?_
  refine lv_iload_n hx hb d_Mod_found_1 rfl (lv_at hl 1 rfl) ?_
  refine ps_readI (wc := (mw cI cB cS cZ b K S ck cu F X)) hP hD hS hA [0, 1, 2, 3, 4, 5, 6, 7, 8, 9, 10, 11, 12, 13, 14, 15, 16, 17, 18] rfl (fun _ _ h => h.1) (ps_runVI ⟨hx, hb, hml, hown, hts⟩ (m_isDic l dC dI cI tys ht cB cS cZ htB htS htZ b K S ck cu F X hKb hSb d) (ps_cwV ps_gd 1 hts tw_270 k_Mod_isDictionary e_Mod_isDictionary ⟨Nat.le_of_ble_eq_true rfl, Nat.le_of_ble_eq_true rfl⟩) hK hP hD [0, 1, 2, 3, 4, 5, 6, 7, 8, 9, 10, 11, 12, 13, 14, 15, 16, 17, 18] (by decide) rfl 0 cMod rfl rfl rfl hl.1 rfl (Nat.le_of_ble_eq_true rfl) d_Mod_found_2 ⟨Nat.zero_le _, Nat.zero_le _⟩) (fun r_1 H locs hr_1 hP hS => ?_)
  obtain ⟨-, hr_1⟩ := hr_1
  subst hr_1
  refine lv_if_eq (tgt := 18) hx hb d_Mod_found_5 (by decide) (fun c_2 => ?_) (fun c_2 => ?_)
  · have c_2 := ps_ite0 c_2
    refine lv_iconst (v := (-1)) hx hb d_Mod_found_18 (by decide) ?_
    refine lv_istore (lv' := [(4, .int (-1)), (0, .ref (b 0)), (1, .int d), (2, .int kk), (3, .int key)]) hx hb d_Mod_found_19 hl (by decide) rfl (fun ls hl => ?_)
    refine lv_iload hx hb d_Mod_found_21 (lv_at hl 0 rfl) ?_
    refine lv_if_ge (tgt := 30) hx hb d_Mod_found_23 (by decide) (fun c_3 => ?_) (fun c_3 => ?_)
    · exact absurd c_3 (by decide)
    · refine lv_iconst (v := 0) hx hb d_Mod_found_26 (by decide) ?_
      refine lv_goto (tgt := 37) hx hb d_Mod_found_27 (by decide) ?_
      exact ps_iret hx hb hr hlocks hK hP hD hS (Nat.le_of_ble_eq_true rfl) (Nat.le_of_ble_eq_true rfl) d_Mod_found_37 (⟨rfl, ps_cn c_2 rfl⟩)
  · have c_2 := ps_ite1 c_2
    refine lv_aload_n hx hb d_Mod_found_8 rfl (lv_at hl 0 rfl) ?_
    refine lv_iload_n hx hb d_Mod_found_9 rfl (lv_at hl 1 rfl) ?_
    refine lv_iload_n hx hb d_Mod_found_10 rfl (lv_at hl 2 rfl) ?_
    refine lv_iload_n hx hb d_Mod_found_11 rfl (lv_at hl 3 rfl) ?_
    refine ps_readI (wc := (mw cI cB cS cZ b K S ck cu F X)) hP hD hS hA [0, 1, 2, 3, 4, 5, 6, 7, 8, 9, 10, 11, 12, 13, 14, 15, 16, 17, 18] rfl (fun _ _ h => h.1) (ps_runVI ⟨hx, hb, hml, hown, hts⟩ (m_there l dC dI cI tys ht cB cS cZ htB htS htZ b K S ck cu F X hKb hSb d kk key hk4) (ps_cwV ps_gd 3 hts tw_272 k_Mod_there e_Mod_there ⟨Nat.le_of_ble_eq_true rfl, Nat.le_of_ble_eq_true rfl⟩) hK hP hD [0, 1, 2, 3, 4, 5, 6, 7, 8, 9, 10, 11, 12, 13, 14, 15, 16, 17, 18] (by decide) rfl 0 cMod rfl rfl rfl hl.1 rfl (Nat.le_of_ble_eq_true rfl) d_Mod_found_12 ⟨Nat.zero_le _, Nat.zero_le _⟩) (fun r_4 H locs hr_4 hP hS => ?_)
    obtain ⟨-, hr_4⟩ := hr_4
    rcases hr_4 with ⟨hnone, hr_4⟩ | ⟨j, hj, hjm, hjn, ⟨hgone, hr_4⟩ | ⟨hgone, hr_4⟩⟩
    · subst hr_4
      refine lv_goto (tgt := 19) hx hb d_Mod_found_15 (by decide) ?_
      refine lv_istore (lv' := [(4, .int (-1)), (0, .ref (b 0)), (1, .int d), (2, .int kk), (3, .int key)]) hx hb d_Mod_found_19 hl (by decide) rfl (fun ls hl => ?_)
      refine lv_iload hx hb d_Mod_found_21 (lv_at hl 0 rfl) ?_
      refine lv_if_ge (tgt := 30) hx hb d_Mod_found_23 (by decide) (fun c_5 => ?_) (fun c_5 => ?_)
      · exact absurd c_5 (by decide)
      · refine lv_iconst (v := 0) hx hb d_Mod_found_26 (by decide) ?_
        refine lv_goto (tgt := 37) hx hb d_Mod_found_27 (by decide) ?_
        exact ps_iret hx hb hr hlocks hK hP hD hS (Nat.le_of_ble_eq_true rfl) (Nat.le_of_ble_eq_true rfl) d_Mod_found_37 (⟨rfl, ps_cy c_2 (Or.inl ⟨hnone, rfl⟩)⟩)
    · subst hr_4
      have hj31 : j < 2 ^ 31 := by have b4 := hKb 4; omega
      refine lv_goto (tgt := 19) hx hb d_Mod_found_15 (by decide) ?_
      refine lv_istore (lv' := [(4, .int (nI j)), (0, .ref (b 0)), (1, .int d), (2, .int kk), (3, .int key)]) hx hb d_Mod_found_19 hl (by decide) rfl (fun ls hl => ?_)
      refine lv_iload hx hb d_Mod_found_21 (lv_at hl 0 rfl) ?_
      refine lv_if_ge (tgt := 30) hx hb d_Mod_found_23 (by decide) (fun c_6 => ?_) (fun c_6 => ?_)
      · refine lv_aload_n hx hb d_Mod_found_30 rfl (lv_at hl 1 rfl) ?_
        refine va_get (D := (dC, dI)) (ci := cMod) (v := .ref (b 11)) (C := R_Mod) (T := F_Mod) (N := 27) hx hb hts i_Mod hown hK hP 0 rfl rfl 14 (by decide) (hts _ tw_274) (fun _ h9 => h9) rfl d_Mod_found_31 ?_
        refine lv_iload hx hb d_Mod_found_34 (lv_at hl 0 rfl) ?_
        refine va_iald (f := X 2) hx hb hK hP 11 0 rfl ht (vp_in_nI (show j < 16384 from by omega) (by decide)) d_Mod_found_36 ?_
        refine ps_top (z := (X 2) j) (by rw [nI_clamp (show j < 2 ^ 31 from hj31)]) ?_
        exact ps_iret hx hb hr hlocks hK hP hD hS (Nat.le_of_ble_eq_true rfl) (Nat.le_of_ble_eq_true rfl) d_Mod_found_37 (⟨rfl, ps_cy c_2 (Or.inr ⟨j, hj, hjm, hjn, ps_cn (fun q => q hgone) rfl⟩)⟩)
      · exact absurd (nI_pos' (by have h0 := hKb 0; have h1 := hKb 1; have h2 := hKb 2; have h3 := hKb 3; have h4 := hKb 4; have h5 := hKb 5; omega)) c_6
    · subst hr_4
      refine lv_goto (tgt := 19) hx hb d_Mod_found_15 (by decide) ?_
      refine lv_istore (lv' := [(4, .int (-1)), (0, .ref (b 0)), (1, .int d), (2, .int kk), (3, .int key)]) hx hb d_Mod_found_19 hl (by decide) rfl (fun ls hl => ?_)
      refine lv_iload hx hb d_Mod_found_21 (lv_at hl 0 rfl) ?_
      refine lv_if_ge (tgt := 30) hx hb d_Mod_found_23 (by decide) (fun c_7 => ?_) (fun c_7 => ?_)
      · exact absurd c_7 (by decide)
      · refine lv_iconst (v := 0) hx hb d_Mod_found_26 (by decide) ?_
        refine lv_goto (tgt := 37) hx hb d_Mod_found_27 (by decide) ?_
        exact ps_iret hx hb hr hlocks hK hP hD hS (Nat.le_of_ble_eq_true rfl) (Nat.le_of_ble_eq_true rfl) d_Mod_found_37 (⟨rfl, ps_cy c_2 (Or.inr ⟨j, hj, hjm, hjn, ps_cy hgone rfl⟩)⟩)

set_option maxHeartbeats 4000000 in
set_option maxRecDepth 100000 in
/-- PageStoreModel.count -/
theorem m_count (l : Launch) (dC : Nat → ClassId) (dI : Nat → Nat → Nat) (cI : ClassId) (tys : List (ClassId × FieldType)) (ht : tys[0]? = some (cI, FieldType.int)) (cB cS cZ : ClassId) (htB : tys[1]? = some (cB, FieldType.byte)) (htS : tys[2]? = some (cS, FieldType.short)) (htZ : tys[3]? = some (cZ, FieldType.boolean)) (b K : Nat → Nat) (S : Nat) (ck cu : Int32) (F X : Nat → Nat → Int32) (hKb : ∀ j, K j ≤ 65536) (hSb : S ≤ 15) (d : Int32) (hk4 : K 4 ≤ 16384) : ps_mI classes l y_Mod_count w_Mod_count ({ frames := 1, cells := 0, slots := 0, locals := 21 }) (dC, dI) tys [.ref (b 0), .int d] (mw cI cB cS cZ b K S ck cu F X) (fun r u => u = mw cI cB cS cZ b K S ck cu F X ∧ ps_c (nI 1 ≤ d ∧ d ≤ nI (K 3)) (r = nI (ps_cnt (fun j => decide (F 7 j = d ∧ X 3 j = 0)) (K 4))) (r = -1)) := by
  refine ps_mI_of (by decide) rfl (Nat.le_of_ble_eq_true rfl) ?_
  intro p e s m below meth c A ls C0 hA hK hP hD hS hl
  obtain ⟨hx, hb, hr, hml, hts, hown, hlocks, hin⟩ := C0
  have hl : lv_has ls 4 [(0, .ref (b 0)), (1, .int d)] := hl
  have hP : va_P (dC, dI) classes (mw cI cB cS cZ b K S ck cu F X) s.heap := hP
  have hD : va_D A (mw cI cB cS cZ b K S ck cu F X) := hD
  refine lv_aload_n hx hb d_Mod_count_0 rfl (lv_at hl 0 rfl) ?_
  refine lv_iload_n hx hb d_Mod_count_1 rfl (lv_at hl 1 rfl) ?_
  refine ps_readI (wc := (mw cI cB cS cZ b K S ck cu F X)) hP hD hS hA [0, 1, 2, 3, 4, 5, 6, 7, 8, 9, 10, 11, 12, 13, 14, 15, 16, 17, 18] rfl (fun _ _ h => h.1) (ps_runVI ⟨hx, hb, hml, hown, hts⟩ (m_isDic l dC dI cI tys ht cB cS cZ htB htS htZ b K S ck cu F X hKb hSb d) (ps_cwV ps_gd 1 hts tw_270 k_Mod_isDictionary e_Mod_isDictionary ⟨Nat.le_of_ble_eq_true rfl, Nat.le_of_ble_eq_true rfl⟩) hK hP hD [0, 1, 2, 3, 4, 5, 6, 7, 8, 9, 10, 11, 12, 13, 14, 15, 16, 17, 18] (by decide) rfl 0 cMod rfl rfl rfl hl.1 rfl (Nat.le_of_ble_eq_true rfl) d_Mod_count_2 ⟨Nat.zero_le _, Nat.zero_le _⟩) (fun r_1 H locs hr_1 hP hS => ?_)
  obtain ⟨-, hr_1⟩ := hr_1
  subst hr_1
  refine lv_if_ne (tgt := 10) hx hb d_Mod_count_5 (by decide) (fun c_2 => ?_) (fun c_2 => ?_)
  · have c_2 := ps_ite1 c_2
    refine lv_iconst (v := nI 0) hx hb d_Mod_count_10 (by decide) ?_
    refine lv_istore_n (lv' := [(2, .int (nI 0)), (0, .ref (b 0)), (1, .int d)]) hx hb d_Mod_count_11 rfl hl (by decide) rfl (fun ls hl => ?_)
    refine lv_iconst (v := nI 0) hx hb d_Mod_count_12 (by decide) ?_
    refine lv_istore_n (lv' := [(3, .int (nI 0)), (2, .int (nI 0)), (0, .ref (b 0)), (1, .int d)]) hx hb d_Mod_count_13 rfl hl (by decide) rfl (fun ls hl => ?_)
    refine ps_loop (α := Nat) (fun i => 0) (fun i => 0) (fun i => K 4 - i) (fun i H locs ls => lv_has ls 4 [(3, .int (nI i)), (2, .int (nI (ps_cnt (fun j => decide (F 7 j = d ∧ X 3 j = 0)) i))), (0, .ref (b 0)), (1, .int d)] ∧ va_P (dC, dI) classes (mw cI cB cS cZ b K S ck cu F X) H ∧ va_D A (mw cI cB cS cZ b K S ck cu F X) ∧ va_S A s.heap H locs ∧ i ≤ K 4) ?_ 0 _ _ ls ⟨lv_sub hl [0, 1, 2, 3] rfl, hP, hD, hS, Nat.zero_le _⟩
    intro i H locs ls hI ih
    obtain ⟨hl, hP, hD, hS, hik⟩ := hI
    refine lv_iload_n hx hb d_Mod_count_14 rfl (lv_at hl 0 rfl) ?_
    refine lv_aload_n hx hb d_Mod_count_15 rfl (lv_at hl 2 rfl) ?_
    refine va_get (D := (dC, dI)) (ci := cMod) (v := .int (nI (K 4))) (C := R_Mod) (T := F_Mod) (N := 27) hx hb hts i_Mod hown hK hP 0 rfl rfl 16 (by decide) (hts _ tw_264) (fun _ h9 => h9) rfl d_Mod_count_16 ?_
    refine lv_icmp_ge (tgt := 55) hx hb d_Mod_count_19 (by decide) (fun c_3 => ?_) (fun c_3 => ?_)
    · have c_3 : K 4 ≤ i := (nI_leI (by have h0 := hKb 0; have h1 := hKb 1; have h2 := hKb 2; have h3 := hKb 3; have h4 := hKb 4; have h5 := hKb 5; omega) (by have h0 := hKb 0; have h1 := hKb 1; have h2 := hKb 2; have h3 := hKb 3; have h4 := hKb 4; have h5 := hKb 5; omega)).mp c_3
      refine lv_iload_n hx hb d_Mod_count_55 rfl (lv_at hl 1 rfl) ?_
      have hi9 : i = K 4 := by omega
      subst hi9
      exact ps_iret hx hb hr hlocks hK hP hD hS (Nat.le_of_ble_eq_true rfl) (Nat.le_of_ble_eq_true rfl) d_Mod_count_56 (⟨rfl, ps_cy c_2 rfl⟩)
    · have c_3 : ¬ K 4 ≤ i := fun q => c_3 ((nI_leI (by have h0 := hKb 0; have h1 := hKb 1; have h2 := hKb 2; have h3 := hKb 3; have h4 := hKb 4; have h5 := hKb 5; omega) (by have h0 := hKb 0; have h1 := hKb 1; have h2 := hKb 2; have h3 := hKb 3; have h4 := hKb 4; have h5 := hKb 5; omega)).mpr q)
      refine lv_iload_n hx hb d_Mod_count_22 rfl (lv_at hl 1 rfl) ?_
      refine lv_aload_n hx hb d_Mod_count_23 rfl (lv_at hl 2 rfl) ?_
      refine va_get (D := (dC, dI)) (ci := cMod) (v := .ref (b 7)) (C := R_Mod) (T := F_Mod) (N := 27) hx hb hts i_Mod hown hK hP 0 rfl rfl 10 (by decide) (hts _ tw_265) (fun _ h9 => h9) rfl d_Mod_count_24 ?_
      refine lv_iload_n hx hb d_Mod_count_27 rfl (lv_at hl 0 rfl) ?_
      refine va_sald (f := F 7) hx hb hK hP 7 2 rfl htS (vp_in_nI (show i < 16384 from by omega) (by decide)) d_Mod_count_28 ?_
      refine ps_top (z := (F 7) i) (by rw [nI_clamp (show i < 2 ^ 31 from by omega)]) ?_
      refine lv_iload_n hx hb d_Mod_count_29 rfl (lv_at hl 3 rfl) ?_
      refine lv_icmp_ne (tgt := 46) hx hb d_Mod_count_30 (by decide) (fun c_4 => ?_) (fun c_4 => ?_)
      · refine lv_iconst (v := nI 0) hx hb d_Mod_count_46 (by decide) ?_
        refine lv_iadd hx hb d_Mod_count_47 ?_
        refine ps_top (z := nI (ps_cnt (fun j => decide (F 7 j = d ∧ X 3 j = 0)) (i + 1))) (by rw [ps_cnt_n (decide_eq_false (fun q => c_4 q.1)), nI_add]; rfl) ?_
        refine lv_istore_n (lv' := [(2, .int (nI (ps_cnt (fun j => decide (F 7 j = d ∧ X 3 j = 0)) (i + 1)))), (3, .int (nI i)), (0, .ref (b 0)), (1, .int d)]) hx hb d_Mod_count_48 rfl hl (by decide) rfl (fun ls hl => ?_)
        refine lv_iinc (v := nI (i + 1)) (lv' := [(3, .int (nI (i + 1))), (2, .int (nI (ps_cnt (fun j => decide (F 7 j = d ∧ X 3 j = 0)) (i + 1)))), (0, .ref (b 0)), (1, .int d)]) hx hb d_Mod_count_49 hl (k := 1) rfl (nI_1 _) (by decide) rfl (fun ls hl => ?_)
        refine lv_goto (tgt := 14) hx hb d_Mod_count_52 (by decide) ?_
        exact ih (i + 1) _ _ ls (by omega) ⟨lv_sub hl [0, 1, 2, 3] rfl, hP, hD, hS, by omega⟩
      · refine lv_aload_n hx hb d_Mod_count_33 rfl (lv_at hl 2 rfl) ?_
        refine va_get (D := (dC, dI)) (ci := cMod) (v := .ref (b 12)) (C := R_Mod) (T := F_Mod) (N := 27) hx hb hts i_Mod hown hK hP 0 rfl rfl 15 (by decide) (hts _ tw_269) (fun _ h9 => h9) rfl d_Mod_count_34 ?_
        refine lv_iload_n hx hb d_Mod_count_37 rfl (lv_at hl 0 rfl) ?_
        refine va_zald (f := X 3) hx hb hK hP 12 3 rfl htZ (vp_in_nI (show i < 16384 from by omega) (by decide)) d_Mod_count_38 ?_
        refine ps_top (z := (X 3) i) (by rw [nI_clamp (show i < 2 ^ 31 from by omega)]) ?_
        refine lv_if_ne (tgt := 46) hx hb d_Mod_count_39 (by decide) (fun c_5 => ?_) (fun c_5 => ?_)
        · refine lv_iconst (v := nI 0) hx hb d_Mod_count_46 (by decide) ?_
          refine lv_iadd hx hb d_Mod_count_47 ?_
          refine ps_top (z := nI (ps_cnt (fun j => decide (F 7 j = d ∧ X 3 j = 0)) (i + 1))) (by rw [ps_cnt_n (decide_eq_false (fun q => c_5 q.2)), nI_add]; rfl) ?_
          refine lv_istore_n (lv' := [(2, .int (nI (ps_cnt (fun j => decide (F 7 j = d ∧ X 3 j = 0)) (i + 1)))), (3, .int (nI i)), (0, .ref (b 0)), (1, .int d)]) hx hb d_Mod_count_48 rfl hl (by decide) rfl (fun ls hl => ?_)
          refine lv_iinc (v := nI (i + 1)) (lv' := [(3, .int (nI (i + 1))), (2, .int (nI (ps_cnt (fun j => decide (F 7 j = d ∧ X 3 j = 0)) (i + 1)))), (0, .ref (b 0)), (1, .int d)]) hx hb d_Mod_count_49 hl (k := 1) rfl (nI_1 _) (by decide) rfl (fun ls hl => ?_)
          refine lv_goto (tgt := 14) hx hb d_Mod_count_52 (by decide) ?_
          exact ih (i + 1) _ _ ls (by omega) ⟨lv_sub hl [0, 1, 2, 3] rfl, hP, hD, hS, by omega⟩
        · refine lv_iconst (v := nI 1) hx hb d_Mod_count_42 (by decide) ?_
          refine lv_goto (tgt := 47) hx hb d_Mod_count_43 (by decide) ?_
          refine lv_iadd hx hb d_Mod_count_47 ?_
          refine ps_top (z := nI (ps_cnt (fun j => decide (F 7 j = d ∧ X 3 j = 0)) (i + 1))) (by rw [ps_cnt_y (decide_eq_true ⟨c_4, c_5⟩), nI_add]) ?_
          refine lv_istore_n (lv' := [(2, .int (nI (ps_cnt (fun j => decide (F 7 j = d ∧ X 3 j = 0)) (i + 1)))), (3, .int (nI i)), (0, .ref (b 0)), (1, .int d)]) hx hb d_Mod_count_48 rfl hl (by decide) rfl (fun ls hl => ?_)
          refine lv_iinc (v := nI (i + 1)) (lv' := [(3, .int (nI (i + 1))), (2, .int (nI (ps_cnt (fun j => decide (F 7 j = d ∧ X 3 j = 0)) (i + 1)))), (0, .ref (b 0)), (1, .int d)]) hx hb d_Mod_count_49 hl (k := 1) rfl (nI_1 _) (by decide) rfl (fun ls hl => ?_)
          refine lv_goto (tgt := 14) hx hb d_Mod_count_52 (by decide) ?_
          exact ih (i + 1) _ _ ls (by omega) ⟨lv_sub hl [0, 1, 2, 3] rfl, hP, hD, hS, by omega⟩
  · have c_2 := ps_ite0 c_2
    refine lv_iconst (v := (-1)) hx hb d_Mod_count_8 (by decide) ?_
    exact ps_iret hx hb hr hlocks hK hP hD hS (Nat.le_of_ble_eq_true rfl) (Nat.le_of_ble_eq_true rfl) d_Mod_count_9 (⟨rfl, ps_cn c_2 rfl⟩)
