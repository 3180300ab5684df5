theorem tw_97 : (.fieldLink "PageStore" 9 "PageStore" "counts" "[I" : Cond) ∈ ps_tbl := ps_t1 126 rfl rfl
theorem tw_98 : (.fieldLink "PageStore" 145 "PageStore" "saves" "I" : Cond) ∈ ps_tbl := ps_t1 128 rfl rfl
theorem tw_99 : (.methodLink "PageStore" 125 ⟨"PageStore", "isDictionary", "(I)Z"⟩ : Cond) ∈ ps_tbl := ps_t2 65 rfl rfl
theorem tw_100 : (.methodLink "PageStore" 88 ⟨"PageStore", "isKind", "(II)Z"⟩ : Cond) ∈ ps_tbl := ps_t2 4 rfl rfl
theorem tw_101 : (.fieldLink "PageStore" 18 "PageStore" "notes" "LPageStore$Column;" : Cond) ∈ ps_tbl := ps_t1 127 rfl rfl
theorem tw_102 : (.methodLink "PageStore" 75 ⟨"PageStore$Column", "at", "(I)I"⟩ : Cond) ∈ ps_tbl := ps_t1 224 rfl rfl
theorem tw_103 : (.fieldLink "PageStore" 33 "PageStore" "places" "LPageStore$Values;" : Cond) ∈ ps_tbl := ps_t1 130 rfl rfl
theorem tw_104 : (.fieldLink "PageStore" 44 "PageStore" "keys" "LPageStore$Keys;" : Cond) ∈ ps_tbl := ps_t1 132 rfl rfl
theorem tw_105 : (.fieldLink "PageStore" 119 "PageStore$Keys" "values" "LPageStore$Values;" : Cond) ∈ ps_tbl := ps_t1 92 rfl rfl
theorem tw_106 : (.instanceMethod ⟨"PageStore", "isDictionary", "(I)Z"⟩ : Cond) ∈ ps_tbl := ps_t2 67 rfl rfl
theorem tw_107 : (.selects "PageStore" ⟨"PageStore", "isDictionary", "(I)Z"⟩ ⟨"PageStore", "isDictionary", "(I)Z"⟩ : Cond) ∈ ps_tbl := ps_ts (y := ⟨"PageStore", "isDictionary", "(I)Z"⟩) (n := 10) 9 rfl rfl
theorem tw_108 : (.initialized "PageStore" : Cond) ∈ ps_tbl := ps_t1 1 rfl rfl
theorem tw_109 : (.code ⟨"PageStore", "isDictionary", "(I)Z"⟩ prog_1_method_25_code 2 (some .boolean) : Cond) ∈ ps_tbl := ps_t2 68 rfl rfl
theorem tw_110 : (.code ⟨"PageStore", "isKind", "(II)Z"⟩ prog_1_method_23_code 2 (some .boolean) : Cond) ∈ ps_tbl := ps_t2 6 rfl rfl
theorem tw_111 : (.static ⟨"PageStore", "isKind", "(II)Z"⟩ : Cond) ∈ ps_tbl := ps_t2 5 rfl rfl
theorem k_PS_isDictionary : ps_cdV ps_tbl y_PS_isDictionary prog_1_method_25_code 2 (some .boolean) := ⟨tw_106, tw_107, tw_108, tw_109⟩
theorem k_PS_isKind : ps_cdS ps_tbl y_PS_isKind prog_1_method_23_code 2 (some .boolean) := ⟨tw_111, tw_108, tw_110⟩
/-- the most that column k can hold -/
def ps_lim (k : Nat) : Nat := [90, 65536, 32768, 32768, 16385, 16385, 16385, 16384, 16384, 16384, 16384, 16384, 40000, 40000, 40000, 40000].getD k 0
/-- the cells of a PageStore: a: where its objects are (they stay), q: where the columns' arrays are; K: what is counted, S: saves, F: the columns, N: their lengths -/
def pw (cI : ClassId) (a q K : Nat → Nat) (S : Nat) (ck cu : Int32) (F : Nat → Nat → Int32) (N : Nat → Nat) : va_W := [
  (a 0, .inr (cPS, [.ref (a 1), .ref (a 8), .int (nI S), .ref (a 2), .ref (a 3), .ref (a 9), .ref (a 4), .ref (a 6), .int ck, .int cu])),
  (a 1, .inl (cI, 6, .inl (fun j => nI (K j)))),
  (a 2, .inr (cRow, [.ref (a 12), .ref (a 13), .ref (a 14)])),
  (a 3, .inr (cVal, [.ref (a 10), .ref (a 11)])),
  (a 4, .inr (cKey, [.ref (a 15), .ref (a 16), .ref (a 17), .ref (a 5)])),
  (a 5, .inr (cVal, [.ref (a 18), .ref (a 19)])),
  (a 6, .inr (cMem, [.ref (a 20), .ref (a 21), .ref (a 7)])),
  (a 7, .inr (cVal, [.ref (a 22), .ref (a 23)])),
  (a 8, .inr (cCol, [.int (nI 90), .ref (q 0)])), (q 0, .inl (cI, N 0, .inl (F 0))),
  (a 9, .inr (cCol, [.int (nI 65536), .ref (q 1)])), (q 1, .inl (cI, N 1, .inl (F 1))),
  (a 10, .inr (cCol, [.int (nI 32768), .ref (q 2)])), (q 2, .inl (cI, N 2, .inl (F 2))),
  (a 11, .inr (cCol, [.int (nI 32768), .ref (q 3)])), (q 3, .inl (cI, N 3, .inl (F 3))),
  (a 12, .inr (cCol, [.int (nI 16385), .ref (q 4)])), (q 4, .inl (cI, N 4, .inl (F 4))),
  (a 13, .inr (cCol, [.int (nI 16385), .ref (q 5)])), (q 5, .inl (cI, N 5, .inl (F 5))),
  (a 14, .inr (cCol, [.int (nI 16385), .ref (q 6)])), (q 6, .inl (cI, N 6, .inl (F 6))),
  (a 15, .inr (cCol, [.int (nI 16384), .ref (q 7)])), (q 7, .inl (cI, N 7, .inl (F 7))),
  (a 16, .inr (cCol, [.int (nI 16384), .ref (q 8)])), (q 8, .inl (cI, N 8, .inl (F 8))),
  (a 17, .inr (cCol, [.int (nI 16384), .ref (q 9)])), (q 9, .inl (cI, N 9, .inl (F 9))),
  (a 18, .inr (cCol, [.int (nI 16384), .ref (q 10)])), (q 10, .inl (cI, N 10, .inl (F 10))),
  (a 19, .inr (cCol, [.int (nI 16384), .ref (q 11)])), (q 11, .inl (cI, N 11, .inl (F 11))),
  (a 20, .inr (cCol, [.int (nI 40000), .ref (q 12)])), (q 12, .inl (cI, N 12, .inl (F 12))),
  (a 21, .inr (cCol, [.int (nI 40000), .ref (q 13)])), (q 13, .inl (cI, N 13, .inl (F 13))),
  (a 22, .inr (cCol, [.int (nI 40000), .ref (q 14)])), (q 14, .inl (cI, N 14, .inl (F 14))),
  (a 23, .inr (cCol, [.int (nI 40000), .ref (q 15)])), (q 15, .inl (cI, N 15, .inl (F 15)))]
/-- the columns are 0 behind their ends, and in their limits -/
def ps_wf (F : Nat → Nat → Int32) (N : Nat → Nat) : Prop := ∀ k, k < 16 → ps_Z (N k) (F k) ∧ N k ≤ ps_lim k
theorem ps_lim_le : ∀ k, k < 16 → ps_lim k ≤ 65536 := by decide
theorem ps_wf.z {F : Nat → Nat → Int32} {N : Nat → Nat} (h : ps_wf F N) (k : Nat) (hk : k < 16) : ps_Z (N k) (F k) := (h k hk).1
theorem ps_wf.n {F : Nat → Nat → Int32} {N : Nat → Nat} (h : ps_wf F N) (k : Nat) (hk : k < 16) : N k < 2 ^ 31 := by
  have h1 := (h k hk).2
  have h2 := ps_lim_le k hk
  omega
theorem ps_kat (K : Nat → Nat) (c : Nat) (hc : c < 2 ^ 31) : (fun j => nI (K j)) (nI c).toNatClampNeg = nI (K c) := by rw [nI_clamp hc]
theorem ps_kup (K : Nat → Nat) (c x : Nat) : upd (fun j => nI (K j)) c (nI x) = fun j => nI (va_up K c x j) := by
  funext j
  by_cases h : j = c
  · subst h; rw [pk_us, va_up_self]
  · rw [pk_un h, va_up_ne _ _ h]
theorem ps_rng {x : Int32} {n : Nat} (hn : n < 2 ^ 31) (h : nI 1 ≤ x ∧ x ≤ nI n) : ∃ j : Nat, 1 ≤ j ∧ j ≤ n ∧ x = nI j := by
  obtain ⟨j, hj, rfl⟩ := nI_of (x := x) (fun q => by
    have h1 := h.1
    rw [Int32.le_iff_toInt_le] at h1
    rw [Int32.lt_iff_toInt_lt] at q
    have e1 : (nI 1).toInt = 1 := by decide
    have e0 : (0 : Int32).toInt = 0 := by decide
    omega)
  exact ⟨j, (nI_leI (by decide) hj).mp h.1, (nI_leI hj hn).mp h.2, rfl⟩
theorem ps_rng0 {x y : Int32} (hx : ¬ x < 0) (h : x < y) : ∃ j : Nat, j < 2 ^ 31 ∧ x = nI j := nI_of hx

set_option maxHeartbeats 4000000 in
set_option maxRecDepth 100000 in
/-- PageStore.isKind -/
theorem c_isKind (l : Launch) (dC : Nat → ClassId) (dI : Nat → Nat → Nat) (cI : ClassId) (tys : List (ClassId × FieldType)) (ht : tys[0]? = some (cI, FieldType.int)) (x lo : Int32) : ps_mI classes l y_PS_isKind w_PS_isKind ({ frames := 0, cells := 0, slots := 0, locals := 0 }) (dC, dI) tys [.int x, .int lo] ([]) (fun r u => u = [] ∧ r = (if lo ≤ x ∧ x ≤ nI 15 then 1 else 0)) := by
  refine ps_mI_of (by decide) rfl (Nat.le_of_ble_eq_true rfl) ?_
  intro p e s m below meth c A ls C0 hA hK hP hD hS hl
  obtain ⟨hx, hb, hr, hml, hts, hown, hlocks, hin⟩ := C0
  have hl : lv_has ls 2 [(0, .int x), (1, .int lo)] := hl
  have hP : va_P (dC, dI) classes [] s.heap := hP
  have hD : va_D A [] := hD
  refine lv_iload_n hx hb d_PS_isKind_0 rfl (lv_at hl 0 rfl) ?_
  refine lv_iload_n hx hb d_PS_isKind_1 rfl (lv_at hl 1 rfl) ?_
  refine lv_icmp_lt (tgt := 15) hx hb d_PS_isKind_2 (by decide) (fun c_1 => ?_) (fun c_1 => ?_)
  · refine lv_iconst (v := 0) hx hb d_PS_isKind_15 (by decide) ?_
    exact ps_zret hx hb hr hlocks hK hP hD hS rfl (Nat.le_of_ble_eq_true rfl) (Nat.le_of_ble_eq_true rfl) d_PS_isKind_16 (⟨rfl, (if_neg (fun q => k2_nle c_1 q.1)).symm⟩)
  · refine lv_iload_n hx hb d_PS_isKind_5 rfl (lv_at hl 0 rfl) ?_
    refine lv_bipush (v := nI 15) hx hb d_PS_isKind_6 (by decide) ?_
    refine lv_icmp_gt (tgt := 15) hx hb d_PS_isKind_8 (by decide) (fun c_2 => ?_) (fun c_2 => ?_)
    · refine lv_iconst (v := 0) hx hb d_PS_isKind_15 (by decide) ?_
      exact ps_zret hx hb hr hlocks hK hP hD hS rfl (Nat.le_of_ble_eq_true rfl) (Nat.le_of_ble_eq_true rfl) d_PS_isKind_16 (⟨rfl, (if_neg (fun q => k2_nle c_2 q.2)).symm⟩)
    · refine lv_iconst (v := 1) hx hb d_PS_isKind_11 (by decide) ?_
      refine lv_goto (tgt := 16) hx hb d_PS_isKind_12 (by decide) ?_
      exact ps_zret hx hb hr hlocks hK hP hD hS rfl (Nat.le_of_ble_eq_true rfl) (Nat.le_of_ble_eq_true rfl) d_PS_isKind_16 (⟨rfl, (if_pos ⟨k2_le c_1, k2_le c_2⟩).symm⟩)

set_option maxHeartbeats 4000000 in
set_option maxRecDepth 100000 in
/-- PageStore.isRow -/
theorem c_isRow (l : Launch) (dC : Nat → ClassId) (dI : Nat → Nat → Nat) (cI : ClassId) (tys : List (ClassId × FieldType)) (ht : tys[0]? = some (cI, FieldType.int)) (a q K : Nat → Nat) (S : Nat) (ck cu : Int32) (F : Nat → Nat → Int32) (N : Nat → Nat) (hw : ps_wf F N) (hKb : ∀ j, K j ≤ 65536) (hSb : S ≤ 15) (x : Int32) : ps_mI classes l y_PS_isRow w_PS_isRow ({ frames := 0, cells := 0, slots := 0, locals := 0 }) (dC, dI) tys [.ref (a 0), .int x] (pw cI a q K S ck cu F N) (fun r u => u = pw cI a q K S ck cu F N ∧ r = (if nI 1 ≤ x ∧ x ≤ nI (K 0) then 1 else 0)) := by
  refine ps_mI_of (by decide) rfl (Nat.le_of_ble_eq_true rfl) ?_
  intro p e s m below meth c A ls C0 hA hK hP hD hS hl
  obtain ⟨hx, hb, hr, hml, hts, hown, hlocks, hin⟩ := C0
  have hl : lv_has ls 2 [(0, .ref (a 0)), (1, .int x)] := hl
  have hP : va_P (dC, dI) classes (pw cI a q K S ck cu F N) s.heap := hP
  have hD : va_D A (pw cI a q K S ck cu F N) := hD
  refine lv_iload_n hx hb d_PS_isRow_0 rfl (lv_at hl 1 rfl) ?_
  refine lv_iconst (v := nI 1) hx hb d_PS_isRow_1 (by decide) ?_
  refine lv_icmp_lt (tgt := 19) hx hb d_PS_isRow_2 (by decide) (fun c_1 => ?_) (fun c_1 => ?_)
  · refine lv_iconst (v := 0) hx hb d_PS_isRow_19 (by decide) ?_
    exact ps_zret hx hb hr hlocks hK hP hD hS rfl (Nat.le_of_ble_eq_true rfl) (Nat.le_of_ble_eq_true rfl) d_PS_isRow_20 (⟨rfl, (if_neg (fun q => k2_nle c_1 q.1)).symm⟩)
  · refine lv_iload_n hx hb d_PS_isRow_5 rfl (lv_at hl 1 rfl) ?_
    refine lv_aload_n hx hb d_PS_isRow_6 rfl (lv_at hl 0 rfl) ?_
    refine va_get (D := (dC, dI)) (ci := cPS) (v := .ref (a 1)) (C := R_PS) (T := F_PS) (N := 10) hx hb hts i_PS hown hK hP 0 rfl rfl 0 (by decide) (hts _ tw_97) (fun _ h9 => h9) rfl d_PS_isRow_7 ?_
    refine lv_iconst (v := nI 0) hx hb d_PS_isRow_10 (by decide) ?_
    refine va_iald hx hb hK hP 1 0 rfl ht (vp_in_nI (show 0 < 6 by decide) (by decide)) d_PS_isRow_11 ?_
    refine ps_top (z := nI (K 0)) (ps_kat _ 0 (by decide)) ?_
    refine lv_icmp_gt (tgt := 19) hx hb d_PS_isRow_12 (by decide) (fun c_2 => ?_) (fun c_2 => ?_)
    · refine lv_iconst (v := 0) hx hb d_PS_isRow_19 (by decide) ?_
      exact ps_zret hx hb hr hlocks hK hP hD hS rfl (Nat.le_of_ble_eq_true rfl) (Nat.le_of_ble_eq_true rfl) d_PS_isRow_20 (⟨rfl, (if_neg (fun q => k2_nle c_2 q.2)).symm⟩)
    · refine lv_iconst (v := 1) hx hb d_PS_isRow_15 (by decide) ?_
      refine lv_goto (tgt := 20) hx hb d_PS_isRow_16 (by decide) ?_
      exact ps_zret hx hb hr hlocks hK hP hD hS rfl (Nat.le_of_ble_eq_true rfl) (Nat.le_of_ble_eq_true rfl) d_PS_isRow_20 (⟨rfl, (if_pos ⟨k2_le c_1, k2_le c_2⟩).symm⟩)

set_option maxHeartbeats 4000000 in
set_option maxRecDepth 100000 in
/-- PageStore.isDictionary -/
theorem c_isDic (l : Launch) (dC : Nat → ClassId) (dI : Nat → Nat → Nat) (cI : ClassId) (tys : List (ClassId × FieldType)) (ht : tys[0]? = some (cI, FieldType.int)) (a q K : Nat → Nat) (S : Nat) (ck cu : Int32) (F : Nat → Nat → Int32) (N : Nat → Nat) (hw : ps_wf F N) (hKb : ∀ j, K j ≤ 65536) (hSb : S ≤ 15) (x : Int32) : ps_mI classes l y_PS_isDictionary w_PS_isDictionary ({ frames := 0, cells := 0, slots := 0, locals := 0 }) (dC, dI) tys [.ref (a 0), .int x] (pw cI a q K S ck cu F N) (fun r u => u = pw cI a q K S ck cu F N ∧ r = (if nI 1 ≤ x ∧ x ≤ nI (K 3) then 1 else 0)) := by
  refine ps_mI_of (by decide) rfl (Nat.le_of_ble_eq_true rfl) ?_
  intro p e s m below meth c A ls C0 hA hK hP hD hS hl
  obtain ⟨hx, hb, hr, hml, hts, hown, hlocks, hin⟩ := C0
  have hl : lv_has ls 2 [(0, .ref (a 0)), (1, .int x)] := hl
  have hP : va_P (dC, dI) classes (pw cI a q K S ck cu F N) s.heap := hP
  have hD : va_D A (pw cI a q K S ck cu F N) := hD
  refine lv_iload_n hx hb d_PS_isDictionary_0 rfl (lv_at hl 1 rfl) ?_
  refine lv_iconst (v := nI 1) hx hb d_PS_isDictionary_1 (by decide) ?_
  refine lv_icmp_lt (tgt := 19) hx hb d_PS_isDictionary_2 (by decide) (fun c_1 => ?_) (fun c_1 => ?_)
  · refine lv_iconst (v := 0) hx hb d_PS_isDictionary_19 (by decide) ?_
    exact ps_zret hx hb hr hlocks hK hP hD hS rfl (Nat.le_of_ble_eq_true rfl) (Nat.le_of_ble_eq_true rfl) d_PS_isDictionary_20 (⟨rfl, (if_neg (fun q => k2_nle c_1 q.1)).symm⟩)
  · refine lv_iload_n hx hb d_PS_isDictionary_5 rfl (lv_at hl 1 rfl) ?_
    refine lv_aload_n hx hb d_PS_isDictionary_6 rfl (lv_at hl 0 rfl) ?_
    refine va_get (D := (dC, dI)) (ci := cPS) (v := .ref (a 1)) (C := R_PS) (T := F_PS) (N := 10) hx hb hts i_PS hown hK hP 0 rfl rfl 0 (by decide) (hts _ tw_97) (fun _ h9 => h9) rfl d_PS_isDictionary_7 ?_
    refine lv_iconst (v := nI 3) hx hb d_PS_isDictionary_10 (by decide) ?_
    refine va_iald hx hb hK hP 1 0 rfl ht (vp_in_nI (show 3 < 6 by decide) (by decide)) d_PS_isDictionary_11 ?_
    refine ps_top (z := nI (K 3)) (ps_kat _ 3 (by decide)) ?_
    refine lv_icmp_gt (tgt := 19) hx hb d_PS_isDictionary_12 (by decide) (fun c_2 => ?_) (fun c_2 => ?_)
    · refine lv_iconst (v := 0) hx hb d_PS_isDictionary_19 (by decide) ?_
      exact ps_zret hx hb hr hlocks hK hP hD hS rfl (Nat.le_of_ble_eq_true rfl) (Nat.le_of_ble_eq_true rfl) d_PS_isDictionary_20 (⟨rfl, (if_neg (fun q => k2_nle c_2 q.2)).symm⟩)
    · refine lv_iconst (v := 1) hx hb d_PS_isDictionary_15 (by decide) ?_
      refine lv_goto (tgt := 20) hx hb d_PS_isDictionary_16 (by decide) ?_
      exact ps_zret hx hb hr hlocks hK hP hD hS rfl (Nat.le_of_ble_eq_true rfl) (Nat.le_of_ble_eq_true rfl) d_PS_isDictionary_20 (⟨rfl, (if_pos ⟨k2_le c_1, k2_le c_2⟩).symm⟩)

set_option maxHeartbeats 4000000 in
set_option maxRecDepth 100000 in
/-- PageStore.isSave -/
theorem c_isSave (l : Launch) (dC : Nat → ClassId) (dI : Nat → Nat → Nat) (cI : ClassId) (tys : List (ClassId × FieldType)) (ht : tys[0]? = some (cI, FieldType.int)) (a q K : Nat → Nat) (S : Nat) (ck cu : Int32) (F : Nat → Nat → Int32) (N : Nat → Nat) (hw : ps_wf F N) (hKb : ∀ j, K j ≤ 65536) (hSb : S ≤ 15) (x : Int32) : ps_mI classes l y_PS_isSave w_PS_isSave ({ frames := 0, cells := 0, slots := 0, locals := 0 }) (dC, dI) tys [.ref (a 0), .int x] (pw cI a q K S ck cu F N) (fun r u => u = pw cI a q K S ck cu F N ∧ r = (if nI 1 ≤ x ∧ x ≤ nI S then 1 else 0)) := by
  refine ps_mI_of (by decide) rfl (Nat.le_of_ble_eq_true rfl) ?_
  intro p e s m below meth c A ls C0 hA hK hP hD hS hl
  obtain ⟨hx, hb, hr, hml, hts, hown, hlocks, hin⟩ := C0
  have hl : lv_has ls 2 [(0, .ref (a 0)), (1, .int x)] := hl
  have hP : va_P (dC, dI) classes (pw cI a q K S ck cu F N) s.heap := hP
  have hD : va_D A (pw cI a q K S ck cu F N) := hD
  refine lv_iload_n hx hb d_PS_isSave_0 rfl (lv_at hl 1 rfl) ?_
  refine lv_iconst (v := nI 1) hx hb d_PS_isSave_1 (by decide) ?_
  refine lv_icmp_lt (tgt := 17) hx hb d_PS_isSave_2 (by decide) (fun c_1 => ?_) (fun c_1 => ?_)
  · refine lv_iconst (v := 0) hx hb d_PS_isSave_17 (by decide) ?_
    exact ps_zret hx hb hr hlocks hK hP hD hS rfl (Nat.le_of_ble_eq_true rfl) (Nat.le_of_ble_eq_true rfl) d_PS_isSave_18 (⟨rfl, (if_neg (fun q => k2_nle c_1 q.1)).symm⟩)
  · refine lv_iload_n hx hb d_PS_isSave_5 rfl (lv_at hl 1 rfl) ?_
    refine lv_aload_n hx hb d_PS_isSave_6 rfl (lv_at hl 0 rfl) ?_
    refine va_get (D := (dC, dI)) (ci := cPS) (v := .int (nI S)) (C := R_PS) (T := F_PS) (N := 10) hx hb hts i_PS hown hK hP 0 rfl rfl 2 (by decide) (hts _ tw_98) (fun _ h9 => h9) rfl d_PS_isSave_7 ?_
    refine lv_icmp_gt (tgt := 17) hx hb d_PS_isSave_10 (by decide) (fun c_2 => ?_) (fun c_2 => ?_)
    · refine lv_iconst (v := 0) hx hb d_PS_isSave_17 (by decide) ?_
      exact ps_zret hx hb hr hlocks hK hP hD hS rfl (Nat.le_of_ble_eq_true rfl) (Nat.le_of_ble_eq_true rfl) d_PS_isSave_18 (⟨rfl, (if_neg (fun q => k2_nle c_2 q.2)).symm⟩)
    · refine lv_iconst (v := 1) hx hb d_PS_isSave_13 (by decide) ?_
      refine lv_goto (tgt := 18) hx hb d_PS_isSave_14 (by decide) ?_
      exact ps_zret hx hb hr hlocks hK hP hD hS rfl (Nat.le_of_ble_eq_true rfl) (Nat.le_of_ble_eq_true rfl) d_PS_isSave_18 (⟨rfl, (if_pos ⟨k2_le c_1, k2_le c_2⟩).symm⟩)

set_option maxHeartbeats 4000000 in
set_option maxRecDepth 100000 in
/-- PageStore.isKeyPossible -/
theorem c_isKP (l : Launch) (dC : Nat → ClassId) (dI : Nat → Nat → Nat) (cI : ClassId) (tys : List (ClassId × FieldType)) (ht : tys[0]? = some (cI, FieldType.int)) (a q K : Nat → Nat) (S : Nat) (ck cu : Int32) (F : Nat → Nat → Int32) (N : Nat → Nat) (hw : ps_wf F N) (hKb : ∀ j, K j ≤ 65536) (hSb : S ≤ 15) (d x : Int32) : ps_mI classes l y_PS_isKeyPossible w_PS_isKeyPossible ({ frames := 1, cells := 0, slots := 0, locals := 21 }) (dC, dI) tys [.ref (a 0), .int d, .int x] (pw cI a q K S ck cu F N) (fun r u => u = pw cI a q K S ck cu F N ∧ r = (if (nI 1 ≤ d ∧ d ≤ nI (K 3)) ∧ (nI 1 ≤ x ∧ x ≤ nI 15) then 1 else 0)) := by
  refine ps_mI_of (by decide) rfl (Nat.le_of_ble_eq_true rfl) ?_
  intro p e s m below meth c A ls C0 hA hK hP hD hS hl
  obtain ⟨hx, hb, hr, hml, hts, hown, hlocks, hin⟩ := C0
  have hl : lv_has ls 3 [(0, .ref (a 0)), (1, .int d), (2, .int x)] := hl
  have hP : va_P (dC, dI) classes (pw cI a q K S ck cu F N) s.heap := hP
  have hD : va_D A (pw cI a q K S ck cu F N) := hD
  refine lv_aload_n hx hb d_PS_isKeyPossible_0 rfl (lv_at hl 0 rfl) ?_
  refine lv_iload_n hx hb d_PS_isKeyPossible_1 rfl (lv_at hl 1 rfl) ?_
  refine ps_readI (wc := (pw cI a q K S ck cu F N)) hP hD hS hA [0, 1, 2, 3, 4, 5, 6, 7, 8, 9, 10, 11, 12, 13, 14, 15, 16, 17, 18, 19, 20, 21, 22, 23, 24, 25, 26, 27, 28, 29, 30, 31, 32, 33, 34, 35, 36, 37, 38, 39] rfl (fun _ _ h => h.1) (ps_runVI ⟨hx, hb, hml, hown, hts⟩ (c_isDic l dC dI cI tys ht a q K S ck cu F N hw hKb hSb d) (ps_cwV ps_gd 1 hts tw_99 k_PS_isDictionary e_PS_isDictionary ⟨Nat.le_of_ble_eq_true rfl, Nat.le_of_ble_eq_true rfl⟩) hK hP hD [0, 1, 2, 3, 4, 5, 6, 7, 8, 9, 10, 11, 12, 13, 14, 15, 16, 17, 18, 19, 20, 21, 22, 23, 24, 25, 26, 27, 28, 29, 30, 31, 32, 33, 34, 35, 36, 37, 38, 39] (by decide) rfl 0 cPS rfl rfl rfl hl.1 rfl (Nat.le_of_ble_eq_true rfl) d_PS_isKeyPossible_2 ⟨Nat.zero_le _, Nat.zero_le _⟩) (fun r_1 H locs hr_1 hP hS => ?_)
  obtain ⟨-, hr_1⟩ := hr_1
  subst hr_1
  refine lv_if_eq (tgt := 20) hx hb d_PS_isKeyPossible_5 (by decide) (fun c_2 => ?_) (fun c_2 => ?_)
  · have c_2 := ps_ite0 c_2
    refine lv_iconst (v := 0) hx hb d_PS_isKeyPossible_20 (by decide) ?_
    exact ps_zret hx hb hr hlocks hK hP hD hS rfl (Nat.le_of_ble_eq_true rfl) (Nat.le_of_ble_eq_true rfl) d_PS_isKeyPossible_21 (⟨rfl, (if_neg (fun q => c_2 q.1)).symm⟩)
  · have c_2 := ps_ite1 c_2
    refine lv_iload_n hx hb d_PS_isKeyPossible_8 rfl (lv_at hl 2 rfl) ?_
    refine lv_iconst (v := nI 1) hx hb d_PS_isKeyPossible_9 (by decide) ?_
    refine ps_readI (wc := []) hP hD hS hA [] rfl (fun _ _ h => h.1) (ps_runSI ⟨hx, hb, hml, hown, hts⟩ (c_isKind l dC dI cI tys ht x (nI 1)) (ps_cwS ps_gd 2 hts tw_100 k_PS_isKind e_PS_isKind ⟨Nat.le_of_ble_eq_true rfl, Nat.le_of_ble_eq_true rfl⟩) hK hP hD [] (by decide) rfl rfl hl.1 rfl (Nat.le_of_ble_eq_true rfl) d_PS_isKeyPossible_10 ⟨Nat.zero_le _, Nat.zero_le _⟩) (fun r_3 H locs hr_3 hP hS => ?_)
    obtain ⟨-, hr_3⟩ := hr_3
    subst hr_3
    refine lv_if_eq (tgt := 20) hx hb d_PS_isKeyPossible_13 (by decide) (fun c_4 => ?_) (fun c_4 => ?_)
    · have c_4 := ps_ite0 c_4
      refine lv_iconst (v := 0) hx hb d_PS_isKeyPossible_20 (by decide) ?_
      exact ps_zret hx hb hr hlocks hK hP hD hS rfl (Nat.le_of_ble_eq_true rfl) (Nat.le_of_ble_eq_true rfl) d_PS_isKeyPossible_21 (⟨rfl, (if_neg (fun q => c_4 q.2)).symm⟩)
    · have c_4 := ps_ite1 c_4
      refine lv_iconst (v := 1) hx hb d_PS_isKeyPossible_16 (by decide) ?_
      refine lv_goto (tgt := 21) hx hb d_PS_isKeyPossible_17 (by decide) ?_
      exact ps_zret hx hb hr hlocks hK hP hD hS rfl (Nat.le_of_ble_eq_true rfl) (Nat.le_of_ble_eq_true rfl) d_PS_isKeyPossible_21 (⟨rfl, (if_pos ⟨c_2, c_4⟩).symm⟩)

set_option maxHeartbeats 4000000 in
set_option maxRecDepth 100000 in
/-- PageStore.noRowLeft -/
theorem c_noRow (l : Launch) (dC : Nat → ClassId) (dI : Nat → Nat → Nat) (cI : ClassId) (tys : List (ClassId × FieldType)) (ht : tys[0]? = some (cI, FieldType.int)) (a q K : Nat → Nat) (S : Nat) (ck cu : Int32) (F : Nat → Nat → Int32) (N : Nat → Nat) (hw : ps_wf F N) (hKb : ∀ j, K j ≤ 65536) (hSb : S ≤ 15) : ps_mI classes l y_PS_noRowLeft w_PS_noRowLeft ({ frames := 0, cells := 0, slots := 0, locals := 0 }) (dC, dI) tys [.ref (a 0)] (pw cI a q K S ck cu F N) (fun r u => u = pw cI a q K S ck cu F N ∧ r = (if 16384 ≤ K 0 then 1 else 0)) := by
  refine ps_mI_of (by decide) rfl (Nat.le_of_ble_eq_true rfl) ?_
  intro p e s m below meth c A ls C0 hA hK hP hD hS hl
  obtain ⟨hx, hb, hr, hml, hts, hown, hlocks, hin⟩ := C0
  have hl : lv_has ls 1 [(0, .ref (a 0))] := hl
  have hP : va_P (dC, dI) classes (pw cI a q K S ck cu F N) s.heap := hP
  have hD : va_D A (pw cI a q K S ck cu F N) := hD
  refine lv_aload_n hx hb d_PS_noRowLeft_0 rfl (lv_at hl 0 rfl) ?_
  refine va_get (D := (dC, dI)) (ci := cPS) (v := .ref (a 1)) (C := R_PS) (T := F_PS) (N := 10) hx hb hts i_PS hown hK hP 0 rfl rfl 0 (by decide) (hts _ tw_97) (fun _ h9 => h9) rfl d_PS_noRowLeft_1 ?_
  refine lv_iconst (v := nI 0) hx hb d_PS_noRowLeft_4 (by decide) ?_
  refine va_iald hx hb hK hP 1 0 rfl ht (vp_in_nI (show 0 < 6 by decide) (by decide)) d_PS_noRowLeft_5 ?_
  refine ps_top (z := nI (K 0)) (ps_kat _ 0 (by decide)) ?_
  refine lv_sipush (v := nI 16384) hx hb d_PS_noRowLeft_6 (by decide) ?_
  refine lv_icmp_lt (tgt := 16) hx hb d_PS_noRowLeft_9 (by decide) (fun c_1 => ?_) (fun c_1 => ?_)
  · have c_1 : K 0 < 16384 := (nI_ltI (by have h0 := hKb 0; have h1 := hKb 1; have h2 := hKb 2; have h3 := hKb 3; have h4 := hKb 4; have h5 := hKb 5; omega) (by have h0 := hKb 0; have h1 := hKb 1; have h2 := hKb 2; have h3 := hKb 3; have h4 := hKb 4; have h5 := hKb 5; omega)).mp c_1
    refine lv_iconst (v := 0) hx hb d_PS_noRowLeft_16 (by decide) ?_
    exact ps_zret hx hb hr hlocks hK hP hD hS rfl (Nat.le_of_ble_eq_true rfl) (Nat.le_of_ble_eq_true rfl) d_PS_noRowLeft_17 (⟨rfl, (if_neg (by omega)).symm⟩)
  · have c_1 : ¬ K 0 < 16384 := fun q => c_1 ((nI_ltI (by have h0 := hKb 0; have h1 := hKb 1; have h2 := hKb 2; have h3 := hKb 3; have h4 := hKb 4; have h5 := hKb 5; omega) (by have h0 := hKb 0; have h1 := hKb 1; have h2 := hKb 2; have h3 := hKb 3; have h4 := hKb 4; have h5 := hKb 5; omega)).mpr q)
    refine lv_iconst (v := 1) hx hb d_PS_noRowLeft_12 (by decide) ?_
    refine lv_goto (tgt := 17) hx hb d_PS_noRowLeft_13 (by decide) ?_
    exact ps_zret hx hb hr hlocks hK hP hD hS rfl (Nat.le_of_ble_eq_true rfl) (Nat.le_of_ble_eq_true rfl) d_PS_noRowLeft_17 (⟨rfl, (if_pos (by omega)).symm⟩)

set_option maxHeartbeats 4000000 in
set_option maxRecDepth 100000 in
/-- PageStore.countAtSave -/
theorem c_cas (l : Launch) (dC : Nat → ClassId) (dI : Nat → Nat → Nat) (cI : ClassId) (tys : List (ClassId × FieldType)) (ht : tys[0]? = some (cI, FieldType.int)) (a q K : Nat → Nat) (S : Nat) (ck cu : Int32) (F : Nat → Nat → Int32) (N : Nat → Nat) (hw : ps_wf F N) (hKb : ∀ j, K j ≤ 65536) (hSb : S ≤ 15) (k w : Nat) (hk1 : 1 ≤ k) (hk : k ≤ 15) (hw0 : w < 6) : ps_mI classes l y_PS_countAtSave w_PS_countAtSave ({ frames := 1, cells := 0, slots := 0, locals := 21 }) (dC, dI) tys [.ref (a 0), .int (nI k), .int (nI w)] (pw cI a q K S ck cu F N) (fun r u => u = pw cI a q K S ck cu F N ∧ r = F 0 ((k - 1) * 6 + w)) := by
  refine ps_mI_of (by decide) rfl (Nat.le_of_ble_eq_true rfl) ?_
  intro p e s m below meth c A ls C0 hA hK hP hD hS hl
  obtain ⟨hx, hb, hr, hml, hts, hown, hlocks, hin⟩ := C0
  have hl : lv_has ls 3 [(0, .ref (a 0)), (1, .int (nI k)), (2, .int (nI w))] := hl
  have hP : va_P (dC, dI) classes (pw cI a q K S ck cu F N) s.heap := hP
  have hD : va_D A (pw cI a q K S ck cu F N) := hD
  refine lv_aload_n hx hb d_PS_countAtSave_0 rfl (lv_at hl 0 rfl) ?_
  refine va_get (D := (dC, dI)) (ci := cPS) (v := .ref (a 8)) (C := R_PS) (T := F_PS) (N := 10) hx hb hts i_PS hown hK hP 0 rfl rfl 1 (by decide) (hts _ tw_101) (fun _ h9 => h9) rfl d_PS_countAtSave_1 ?_
  refine lv_iload_n hx hb d_PS_countAtSave_4 rfl (lv_at hl 1 rfl) ?_
  refine lv_iconst (v := nI 1) hx hb d_PS_countAtSave_5 (by decide) ?_
  refine lv_isub hx hb d_PS_countAtSave_6 ?_
  refine ps_top (z := nI (k - 1)) (pk_sub (by have h0 := hKb 0; have h1 := hKb 1; have h2 := hKb 2; have h3 := hKb 3; have h4 := hKb 4; have h5 := hKb 5; omega)) ?_
  refine lv_bipush (v := nI 6) hx hb d_PS_countAtSave_7 (by decide) ?_
  refine lv_imul hx hb d_PS_countAtSave_9 ?_
  refine ps_top (z := nI ((k - 1) * 6)) (pk_mul _ _) ?_
  refine lv_iload_n hx hb d_PS_countAtSave_10 rfl (lv_at hl 2 rfl) ?_
  refine lv_iadd hx hb d_PS_countAtSave_11 ?_
  refine ps_top (z := nI ((k - 1) * 6 + w)) (nI_add _ _) ?_
  refine ps_readI (wc := [(a 8, .inr (cCol, [.int (nI 90), .ref (q 0)])), (q 0, .inl (cI, N 0, .inl (F 0)))]) hP hD hS hA [8, 9] rfl (fun _ _ h => h.1) (ps_runVI ⟨hx, hb, hml, hown, hts⟩ (c_at l dC dI cI tys ht (a 8) (q 0) 90 (N 0) (F 0) ((k - 1) * 6 + w) (hw.z 0 (by decide)) (hw.n 0 (by decide)) (by omega)) (ps_cwV ps_gd 1 hts tw_102 k_Col_at e_Col_at ⟨Nat.le_of_ble_eq_true rfl, Nat.le_of_ble_eq_true rfl⟩) hK hP hD [8, 9] (by decide) rfl 0 cCol rfl rfl rfl hl.1 rfl (Nat.le_of_ble_eq_true rfl) d_PS_countAtSave_12 ⟨Nat.zero_le _, Nat.zero_le _⟩) (fun r_1 H locs hr_1 hP hS => ?_)
  obtain ⟨-, hr_1⟩ := hr_1
  subst hr_1
  exact ps_iret hx hb hr hlocks hK hP hD hS (Nat.le_of_ble_eq_true rfl) (Nat.le_of_ble_eq_true rfl) d_PS_countAtSave_15 (⟨rfl, rfl⟩)

set_option maxHeartbeats 4000000 in
set_option maxRecDepth 100000 in
/-- PageStore.valuesOf -/
theorem c_vof (l : Launch) (dC : Nat → ClassId) (dI : Nat → Nat → Nat) (cI : ClassId) (tys : List (ClassId × FieldType)) (ht : tys[0]? = some (cI, FieldType.int)) (a q K : Nat → Nat) (S : Nat) (ck cu : Int32) (F : Nat → Nat → Int32) (N : Nat → Nat) (hw : ps_wf F N) (hKb : ∀ j, K j ≤ 65536) (hSb : S ≤ 15) (x : Int32) : ps_mR classes l y_PS_valuesOf w_PS_valuesOf ({ frames := 0, cells := 0, slots := 0, locals := 0 }) (dC, dI) tys [.ref (a 0), .int x] (pw cI a q K S ck cu F N) (fun r u => u = pw cI a q K S ck cu F N ∧ r = (if x = nI 4 then a 5 else a 3)) := by
  refine ps_mR_of (by decide) rfl (Nat.le_of_ble_eq_true rfl) ?_
  intro p e s m below meth c A ls C0 hA hK hP hD hS hl
  obtain ⟨hx, hb, hr, hml, hts, hown, hlocks, hin⟩ := C0
  have hl : lv_has ls 2 [(0, .ref (a 0)), (1, .int x)] := hl
  have hP : va_P (dC, dI) classes (pw cI a q K S ck cu F N) s.heap := hP
  have hD : va_D A (pw cI a q K S ck cu F N) := hD
  refine lv_iload_n hx hb d_PS_valuesOf_0 rfl (lv_at hl 1 rfl) ?_
  refine lv_iconst (v := nI 4) hx hb d_PS_valuesOf_1 (by decide) ?_
  refine lv_icmp_ne (tgt := 15) hx hb d_PS_valuesOf_2 (by decide) (fun c_1 => ?_) (fun c_1 => ?_)
  · refine lv_aload_n hx hb d_PS_valuesOf_15 rfl (lv_at hl 0 rfl) ?_
    refine va_get (D := (dC, dI)) (ci := cPS) (v := .ref (a 3)) (C := R_PS) (T := F_PS) (N := 10) hx hb hts i_PS hown hK hP 0 rfl rfl 4 (by decide) (hts _ tw_103) (fun _ h9 => h9) rfl d_PS_valuesOf_16 ?_
    exact ps_aret hx hb hr (Or.inl ⟨_, rfl⟩) hlocks hK hP hD hS (Nat.le_of_ble_eq_true rfl) (Nat.le_of_ble_eq_true rfl) d_PS_valuesOf_19 ⟨rfl, (if_neg c_1).symm⟩
  · refine lv_aload_n hx hb d_PS_valuesOf_5 rfl (lv_at hl 0 rfl) ?_
    refine va_get (D := (dC, dI)) (ci := cPS) (v := .ref (a 4)) (C := R_PS) (T := F_PS) (N := 10) hx hb hts i_PS hown hK hP 0 rfl rfl 6 (by decide) (hts _ tw_104) (fun _ h9 => h9) rfl d_PS_valuesOf_6 ?_
    refine va_get (D := (dC, dI)) (ci := cKey) (v := .ref (a 5)) (C := R_Key) (T := F_Key) (N := 4) hx hb hts i_Key hown hK hP 4 rfl rfl 3 (by decide) (hts _ tw_105) (fun _ h9 => h9) rfl d_PS_valuesOf_9 ?_
    refine lv_goto (tgt := 19) hx hb d_PS_valuesOf_12 (by decide) ?_
    exact ps_aret hx hb hr (Or.inl ⟨_, rfl⟩) hlocks hK hP hD hS (Nat.le_of_ble_eq_true rfl) (Nat.le_of_ble_eq_true rfl) d_PS_valuesOf_19 ⟨rfl, (if_pos c_1).symm⟩
