theorem tw_134 : (.methodLink "PageStore" 68 ⟨"PageStore", "isRow", "(I)Z"⟩ : Cond) ∈ ps_tbl := ps_t1 220 rfl rfl
theorem tw_135 : (.fieldLink "PageStore" 79 "PageStore$Rows" "sorts" "LPageStore$Column;" : Cond) ∈ ps_tbl := ps_t1 42 rfl rfl
theorem tw_136 : (.fieldLink "PageStore" 72 "PageStore$Rows" "lengths" "LPageStore$Column;" : Cond) ∈ ps_tbl := ps_t1 46 rfl rfl
theorem tw_137 : (.fieldLink "PageStore" 82 "PageStore$Rows" "starts" "LPageStore$Column;" : Cond) ∈ ps_tbl := ps_t1 44 rfl rfl
theorem tw_138 : (.instanceMethod ⟨"PageStore", "isRow", "(I)Z"⟩ : Cond) ∈ ps_tbl := ps_t1 222 rfl rfl
theorem tw_139 : (.selects "PageStore" ⟨"PageStore", "isRow", "(I)Z"⟩ ⟨"PageStore", "isRow", "(I)Z"⟩ : Cond) ∈ ps_tbl := ps_ts (y := ⟨"PageStore", "isRow", "(I)Z"⟩) (n := 10) 2 rfl rfl
theorem tw_140 : (.code ⟨"PageStore", "isRow", "(I)Z"⟩ prog_1_method_24_code 2 (some .boolean) : Cond) ∈ ps_tbl := ps_t1 223 rfl rfl
theorem k_PS_isRow : ps_cdV ps_tbl y_PS_isRow prog_1_method_24_code 2 (some .boolean) := ⟨tw_138, tw_139, tw_108, tw_140⟩
theorem ps_m1 {i : Nat} (h : i < 2 ^ 31) : ¬ nI i = -1 := fun q => by
  have h1 := congrArg Int32.toInt q
  rw [nI_toInt h] at h1
  have h2 : (-1 : Int32).toInt = -1 := by decide
  omega
theorem ps_sub_le {f n l : Nat} (hf : f < 2 ^ 31) (hn : n < 2 ^ 31) (hl : l ≤ 65536) : nI f ≤ nI l - nI n ↔ f + n ≤ l := by
  rw [Int32.le_iff_toInt_le, Int32.toInt_sub, nI_toInt hf, nI_toInt hn, nI_toInt (by omega)]
  unfold Int.bmod
  simp only []
  split <;> omega
/-- the rows are in order, and lie in what is taken -/
def ps_rows (K : Nat → Nat) (F : Nat → Nat → Int32) : Prop := ∀ r, 1 ≤ r → r ≤ K 0 → ∃ s l : Nat, F 5 r = nI s ∧ F 6 r = nI l ∧ ((F 4 r = nI 1 ∧ s + l ≤ K 1) ∨ (F 4 r = nI 2 ∧ s + l ≤ K 2))
/-- there is such a row of sort x, and such a place -/
def ps_ok (K : Nat → Nat) (F : Nat → Nat → Int32) (x row place : Int32) : Prop := (nI 1 ≤ row ∧ row ≤ nI (K 0)) ∧ F 4 row.toNatClampNeg = x ∧ ¬ place < 0 ∧ place < F 6 row.toNatClampNeg
def ps_ix (F : Nat → Nat → Int32) (row place : Int32) : Nat := (F 5 row.toNatClampNeg).toNatClampNeg + place.toNatClampNeg
theorem ps_ok_ix {K : Nat → Nat} {F : Nat → Nat → Int32} {x : Nat} {row place : Int32} (hb : ∀ j, K j ≤ 65536) (hr : ps_rows K F) (hx : x = 1 ∨ x = 2) (h : ps_ok K F (nI x) row place) : F 5 row.toNatClampNeg + place = nI (ps_ix F row place) ∧ ps_ix F row place < K x := by
  obtain ⟨h1, h2, h3, h4⟩ := h
  obtain ⟨j, hj1, hj2, rfl⟩ := ps_rng (by have := hb 0; omega) h1
  have b0 := hb 0
  have b1 := hb 1
  have b2 := hb 2
  rw [nI_clamp (by omega)] at h2 h4 ⊢
  obtain ⟨s, l, e5, e6, hs⟩ := hr j hj1 hj2
  obtain ⟨p, hp, rfl⟩ := nI_of h3
  unfold ps_ix
  rw [nI_clamp (by omega), e5]
  rw [e6] at h4
  have hl : l < 2 ^ 31 := by rcases hs with q | q <;> omega
  have hpl := (nI_ltI hp hl).mp h4
  have hs31 : s < 2 ^ 31 := by rcases hs with q | q <;> omega
  rw [nI_clamp hs31, nI_clamp hp, nI_add]
  refine ⟨rfl, ?_⟩
  rcases hs with ⟨q1, q2⟩ | ⟨q1, q2⟩
  · rw [q1] at h2
    rcases hx with rfl | rfl
    · omega
    · exact absurd h2 (by decide)
  · rw [q1] at h2
    rcases hx with rfl | rfl
    · exact absurd h2 (by decide)
    · omega
/-- the notes that a save writes, w of them; and how long their row is then -/
def ps_nt (f : Nat → Int32) (K : Nat → Nat) (b : Nat) : Nat → Nat → Int32
  | 0 => f
  | w + 1 => upd (ps_nt f K b w) (b + w) (nI (K w))
def ps_nl (n b : Nat) : Nat → Nat
  | 0 => n
  | w + 1 => ps_len 90 (ps_nl n b w) (b + w)
theorem ps_nl_le {n b w : Nat} (hn : n ≤ 90) (hb : b + w ≤ 90) : ps_nl n b w ≤ 90 := by
  induction w with
  | zero => exact hn
  | succ w ih => exact ps_len_le (ih (by omega)) (by omega)
theorem ps_nl_ge (n b w : Nat) : n ≤ ps_nl n b w := by
  induction w with
  | zero => exact Nat.le_refl _
  | succ w ih => exact Nat.le_trans ih (ps_len_ge _ _ _)
theorem ps_nl_mono (n b : Nat) {w v : Nat} (h : w ≤ v) : ps_nl n b w ≤ ps_nl n b v := by
  induction v with
  | zero => rw [Nat.le_zero.mp h]; exact Nat.le_refl _
  | succ v ih =>
    by_cases e : w = v + 1
    · subst e; exact Nat.le_refl _
    · exact Nat.le_trans (ih (by omega)) (ps_len_ge _ _ _)
theorem ps_nt_z {f : Nat → Int32} {K : Nat → Nat} {n b w : Nat} (h : ps_Z n f) : ps_Z (ps_nl n b w) (ps_nt f K b w) := by
  induction w with
  | zero => exact h
  | succ w ih => exact ps_Z_upd ih

set_option maxHeartbeats 4000000 in
set_option maxRecDepth 100000 in
/-- PageStore.sort -/
theorem c_sort (l : Launch) (dC : Nat → ClassId) (dI : Nat → Nat → Nat) (cI : ClassId) (tys : List (ClassId × FieldType)) (ht : tys[0]? = some (cI, FieldType.int)) (a q K : Nat → Nat) (S : Nat) (ck cu : Int32) (F : Nat → Nat → Int32) (N : Nat → Nat) (hw : ps_wf F N) (hKb : ∀ j, K j ≤ 65536) (hSb : S ≤ 15) (row : Int32) : ps_mI classes l y_PS_sort w_PS_sort ({ frames := 1, cells := 0, slots := 0, locals := 21 }) (dC, dI) tys [.ref (a 0), .int row] (pw cI a q K S ck cu F N) (fun r u => u = pw cI a q K S ck cu F N ∧ ps_c (nI 1 ≤ row ∧ row ≤ nI (K 0)) (r = F 4 row.toNatClampNeg) (r = -1)) := by
  refine ps_mI_of (by decide) rfl (Nat.le_of_ble_eq_true rfl) ?_
  intro p e s m below meth c A ls C0 hA hK hP hD hS hl
  obtain ⟨hx, hb, hr, hml, hts, hown, hlocks, hin⟩ := C0
  have hl : lv_has ls 2 [(0, .ref (a 0)), (1, .int row)] := hl
  have hP : va_P (dC, dI) classes (pw cI a q K S ck cu F N) s.heap := hP
  have hD : va_D A (pw cI a q K S ck cu F N) := hD
  refine lv_aload_n hx hb d_PS_sort_0 rfl (lv_at hl 0 rfl) ?_
  refine lv_iload_n hx hb d_PS_sort_1 rfl (lv_at hl 1 rfl) ?_
  refine ps_readI (wc := (pw cI a q K S ck cu F N)) hP hD hS hA [0, 1, 2, 3, 4, 5, 6, 7, 8, 9, 10, 11, 12, 13, 14, 15, 16, 17, 18, 19, 20, 21, 22, 23, 24, 25, 26, 27, 28, 29, 30, 31, 32, 33, 34, 35, 36, 37, 38, 39] rfl (fun _ _ h => h.1) (ps_runVI ⟨hx, hb, hml, hown, hts⟩ (c_isRow l dC dI cI tys ht a q K S ck cu F N hw hKb hSb row) (ps_cwV ps_gd 1 hts tw_134 k_PS_isRow e_PS_isRow ⟨Nat.le_of_ble_eq_true rfl, Nat.le_of_ble_eq_true rfl⟩) hK hP hD [0, 1, 2, 3, 4, 5, 6, 7, 8, 9, 10, 11, 12, 13, 14, 15, 16, 17, 18, 19, 20, 21, 22, 23, 24, 25, 26, 27, 28, 29, 30, 31, 32, 33, 34, 35, 36, 37, 38, 39] (by decide) rfl 0 cPS rfl rfl rfl hl.1 rfl (Nat.le_of_ble_eq_true rfl) d_PS_sort_2 ⟨Nat.zero_le _, Nat.zero_le _⟩) (fun r_1 H locs hr_1 hP hS => ?_)
  obtain ⟨-, hr_1⟩ := hr_1
  subst hr_1
  refine lv_if_eq (tgt := 22) hx hb d_PS_sort_5 (by decide) (fun c_2 => ?_) (fun c_2 => ?_)
  · have c_2 := ps_ite0 c_2
    refine lv_iconst (v := (-1)) hx hb d_PS_sort_22 (by decide) ?_
    exact ps_iret hx hb hr hlocks hK hP hD hS (Nat.le_of_ble_eq_true rfl) (Nat.le_of_ble_eq_true rfl) d_PS_sort_23 (⟨rfl, ps_cn c_2 rfl⟩)
  · have c_2 := ps_ite1 c_2
    have hc := c_2
    obtain ⟨j, hj1, hj2, rfl⟩ := ps_rng (by have h0 := hKb 0; have h1 := hKb 1; have h2 := hKb 2; have h3 := hKb 3; have h4 := hKb 4; have h5 := hKb 5; omega) c_2
    have hj3 : j < 2 ^ 31 := by have h0 := hKb 0; have h1 := hKb 1; have h2 := hKb 2; have h3 := hKb 3; have h4 := hKb 4; have h5 := hKb 5; omega
    rw [nI_clamp hj3]
    refine lv_aload_n hx hb d_PS_sort_8 rfl (lv_at hl 0 rfl) ?_
    refine va_get (D := (dC, dI)) (ci := cPS) (v := .ref (a 2)) (C := R_PS) (T := F_PS) (N := 10) hx hb hts i_PS hown hK hP 0 rfl rfl 3 (by decide) (hts _ tw_112) (fun _ h9 => h9) rfl d_PS_sort_9 ?_
    refine va_get (D := (dC, dI)) (ci := cRow) (v := .ref (a 12)) (C := R_Row) (T := F_Row) (N := 3) hx hb hts i_Row hown hK hP 2 rfl rfl 0 (by decide) (hts _ tw_135) (fun _ h9 => h9) rfl d_PS_sort_12 ?_
    refine lv_iload_n hx hb d_PS_sort_15 rfl (lv_at hl 1 rfl) ?_
    refine ps_readI (wc := [(a 12, .inr (cCol, [.int (nI 16385), .ref (q 4)])), (q 4, .inl (cI, N 4, .inl (F 4)))]) hP hD hS hA [16, 17] rfl (fun _ _ h => h.1) (ps_runVI ⟨hx, hb, hml, hown, hts⟩ (c_at l dC dI cI tys ht (a 12) (q 4) 16385 (N 4) (F 4) j (hw.z 4 (by decide)) (hw.n 4 (by decide)) (by omega)) (ps_cwV ps_gd 1 hts tw_102 k_Col_at e_Col_at ⟨Nat.le_of_ble_eq_true rfl, Nat.le_of_ble_eq_true rfl⟩) hK hP hD [16, 17] (by decide) rfl 0 cCol rfl rfl rfl hl.1 rfl (Nat.le_of_ble_eq_true rfl) d_PS_sort_16 ⟨Nat.zero_le _, Nat.zero_le _⟩) (fun r_3 H locs hr_3 hP hS => ?_)
    obtain ⟨-, hr_3⟩ := hr_3
    subst hr_3
    refine lv_goto (tgt := 23) hx hb d_PS_sort_19 (by decide) ?_
    exact ps_iret hx hb hr hlocks hK hP hD hS (Nat.le_of_ble_eq_true rfl) (Nat.le_of_ble_eq_true rfl) d_PS_sort_23 (⟨rfl, ps_cy hc rfl⟩)

set_option maxHeartbeats 4000000 in
set_option maxRecDepth 100000 in
/-- PageStore.length -/
theorem c_length (l : Launch) (dC : Nat → ClassId) (dI : Nat → Nat → Nat) (cI : ClassId) (tys : List (ClassId × FieldType)) (ht : tys[0]? = some (cI, FieldType.int)) (a q K : Nat → Nat) (S : Nat) (ck cu : Int32) (F : Nat → Nat → Int32) (N : Nat → Nat) (hw : ps_wf F N) (hKb : ∀ j, K j ≤ 65536) (hSb : S ≤ 15) (row : Int32) : ps_mI classes l y_PS_length w_PS_length ({ frames := 1, cells := 0, slots := 0, locals := 21 }) (dC, dI) tys [.ref (a 0), .int row] (pw cI a q K S ck cu F N) (fun r u => u = pw cI a q K S ck cu F N ∧ ps_c (nI 1 ≤ row ∧ row ≤ nI (K 0)) (r = F 6 row.toNatClampNeg) (r = -1)) := by
  refine ps_mI_of (by decide) rfl (Nat.le_of_ble_eq_true rfl) ?_
  intro p e s m below meth c A ls C0 hA hK hP hD hS hl
  obtain ⟨hx, hb, hr, hml, hts, hown, hlocks, hin⟩ := C0
  have hl : lv_has ls 2 [(0, .ref (a 0)), (1, .int row)] := hl
  have hP : va_P (dC, dI) classes (pw cI a q K S ck cu F N) s.heap := hP
  have hD : va_D A (pw cI a q K S ck cu F N) := hD
  refine lv_aload_n hx hb d_PS_length_0 rfl (lv_at hl 0 rfl) ?_
  refine lv_iload_n hx hb d_PS_length_1 rfl (lv_at hl 1 rfl) ?_
  refine ps_readI (wc := (pw cI a q K S ck cu F N)) hP hD hS hA [0, 1, 2, 3, 4, 5, 6, 7, 8, 9, 10, 11, 12, 13, 14, 15, 16, 17, 18, 19, 20, 21, 22, 23, 24, 25, 26, 27, 28, 29, 30, 31, 32, 33, 34, 35, 36, 37, 38, 39] rfl (fun _ _ h => h.1) (ps_runVI ⟨hx, hb, hml, hown, hts⟩ (c_isRow l dC dI cI tys ht a q K S ck cu F N hw hKb hSb row) (ps_cwV ps_gd 1 hts tw_134 k_PS_isRow e_PS_isRow ⟨Nat.le_of_ble_eq_true rfl, Nat.le_of_ble_eq_true rfl⟩) hK hP hD [0, 1, 2, 3, 4, 5, 6, 7, 8, 9, 10, 11, 12, 13, 14, 15, 16, 17, 18, 19, 20, 21, 22, 23, 24, 25, 26, 27, 28, 29, 30, 31, 32, 33, 34, 35, 36, 37, 38, 39] (by decide) rfl 0 cPS rfl rfl rfl hl.1 rfl (Nat.le_of_ble_eq_true rfl) d_PS_length_2 ⟨Nat.zero_le _, Nat.zero_le _⟩) (fun r_1 H locs hr_1 hP hS => ?_)
  obtain ⟨-, hr_1⟩ := hr_1
  subst hr_1
  refine lv_if_eq (tgt := 22) hx hb d_PS_length_5 (by decide) (fun c_2 => ?_) (fun c_2 => ?_)
  · have c_2 := ps_ite0 c_2
    refine lv_iconst (v := (-1)) hx hb d_PS_length_22 (by decide) ?_
    exact ps_iret hx hb hr hlocks hK hP hD hS (Nat.le_of_ble_eq_true rfl) (Nat.le_of_ble_eq_true rfl) d_PS_length_23 (⟨rfl, ps_cn c_2 rfl⟩)
  · have c_2 := ps_ite1 c_2
    have hc := c_2
    obtain ⟨j, hj1, hj2, rfl⟩ := ps_rng (by have h0 := hKb 0; have h1 := hKb 1; have h2 := hKb 2; have h3 := hKb 3; have h4 := hKb 4; have h5 := hKb 5; omega) c_2
    have hj3 : j < 2 ^ 31 := by have h0 := hKb 0; have h1 := hKb 1; have h2 := hKb 2; have h3 := hKb 3; have h4 := hKb 4; have h5 := hKb 5; omega
    rw [nI_clamp hj3]
    refine lv_aload_n hx hb d_PS_length_8 rfl (lv_at hl 0 rfl) ?_
    refine va_get (D := (dC, dI)) (ci := cPS) (v := .ref (a 2)) (C := R_PS) (T := F_PS) (N := 10) hx hb hts i_PS hown hK hP 0 rfl rfl 3 (by decide) (hts _ tw_112) (fun _ h9 => h9) rfl d_PS_length_9 ?_
    refine va_get (D := (dC, dI)) (ci := cRow) (v := .ref (a 14)) (C := R_Row) (T := F_Row) (N := 3) hx hb hts i_Row hown hK hP 2 rfl rfl 2 (by decide) (hts _ tw_136) (fun _ h9 => h9) rfl d_PS_length_12 ?_
    refine lv_iload_n hx hb d_PS_length_15 rfl (lv_at hl 1 rfl) ?_
    refine ps_readI (wc := [(a 14, .inr (cCol, [.int (nI 16385), .ref (q 6)])), (q 6, .inl (cI, N 6, .inl (F 6)))]) hP hD hS hA [20, 21] rfl (fun _ _ h => h.1) (ps_runVI ⟨hx, hb, hml, hown, hts⟩ (c_at l dC dI cI tys ht (a 14) (q 6) 16385 (N 6) (F 6) j (hw.z 6 (by decide)) (hw.n 6 (by decide)) (by omega)) (ps_cwV ps_gd 1 hts tw_102 k_Col_at e_Col_at ⟨Nat.le_of_ble_eq_true rfl, Nat.le_of_ble_eq_true rfl⟩) hK hP hD [20, 21] (by decide) rfl 0 cCol rfl rfl rfl hl.1 rfl (Nat.le_of_ble_eq_true rfl) d_PS_length_16 ⟨Nat.zero_le _, Nat.zero_le _⟩) (fun r_3 H locs hr_3 hP hS => ?_)
    obtain ⟨-, hr_3⟩ := hr_3
    subst hr_3
    refine lv_goto (tgt := 23) hx hb d_PS_length_19 (by decide) ?_
    exact ps_iret hx hb hr hlocks hK hP hD hS (Nat.le_of_ble_eq_true rfl) (Nat.le_of_ble_eq_true rfl) d_PS_length_23 (⟨rfl, ps_cy hc rfl⟩)

set_option maxHeartbeats 4000000 in
set_option maxRecDepth 100000 in
/-- PageStore.part -/
theorem c_part (l : Launch) (dC : Nat → ClassId) (dI : Nat → Nat → Nat) (cI : ClassId) (tys : List (ClassId × FieldType)) (ht : tys[0]? = some (cI, FieldType.int)) (a q K : Nat → Nat) (S : Nat) (ck cu : Int32) (F : Nat → Nat → Int32) (N : Nat → Nat) (hw : ps_wf F N) (hKb : ∀ j, K j ≤ 65536) (hSb : S ≤ 15) (row fr n : Int32) (hrw : ps_rows K F) (mc ms : Nat) (hm : ¬ ¬ ((nI 1 ≤ row ∧ row ≤ nI (K 0)) ∧ ¬ fr < 0 ∧ ¬ n < 0 ∧ fr.toNatClampNeg + n.toNatClampNeg ≤ (F 6 row.toNatClampNeg).toNatClampNeg) → ¬ 16384 ≤ K 0 → ps_rc N (K 0 + 1) ≤ mc ∧ ps_rs N (K 0 + 1) ≤ ms) : ps_mI classes l y_PS_part w_PS_part ({ frames := 5, cells := mc, slots := ms, locals := 110 }) (dC, dI) tys [.ref (a 0), .int row, .int fr, .int n] (pw cI a q K S ck cu F N) (fun r u => ps_c (¬ ((nI 1 ≤ row ∧ row ≤ nI (K 0)) ∧ ¬ fr < 0 ∧ ¬ n < 0 ∧ fr.toNatClampNeg + n.toNatClampNeg ≤ (F 6 row.toNatClampNeg).toNatClampNeg)) (r = -1 ∧ u = pw cI a q K S ck cu F N) (ps_c (16384 ≤ K 0) (r = -3 ∧ u = pw cI a q K S ck cu F N) (∃ q1 : Nat → Nat, r = nI (K 0 + 1) ∧ u = pw cI a q1 (va_up K 0 (K 0 + 1)) S ck cu (ps_Fr F (K 0 + 1) (F 4 row.toNatClampNeg) (F 5 row.toNatClampNeg + fr) n) (ps_Nr N (K 0 + 1))))) := by
  refine ps_mI_of (by decide) rfl (Nat.le_of_ble_eq_true rfl) ?_
  intro p e s m below meth c A ls C0 hA hK hP hD hS hl
  obtain ⟨hx, hb, hr, hml, hts, hown, hlocks, hin⟩ := C0
  have hl : lv_has ls 4 [(0, .ref (a 0)), (1, .int row), (2, .int fr), (3, .int n)] := hl
  have hP : va_P (dC, dI) classes (pw cI a q K S ck cu F N) s.heap := hP
  have hD : va_D A (pw cI a q K S ck cu F N) := hD
  refine lv_aload_n hx hb d_PS_part_0 rfl (lv_at hl 0 rfl) ?_
  refine lv_iload_n hx hb d_PS_part_1 rfl (lv_at hl 1 rfl) ?_
  refine ps_readI (wc := (pw cI a q K S ck cu F N)) hP hD hS hA [0, 1, 2, 3, 4, 5, 6, 7, 8, 9, 10, 11, 12, 13, 14, 15, 16, 17, 18, 19, 20, 21, 22, 23, 24, 25, 26, 27, 28, 29, 30, 31, 32, 33, 34, 35, 36, 37, 38, 39] rfl (fun _ _ h => h.1) (ps_runVI ⟨hx, hb, hml, hown, hts⟩ (c_isRow l dC dI cI tys ht a q K S ck cu F N hw hKb hSb row) (ps_cwV ps_gd 1 hts tw_134 k_PS_isRow e_PS_isRow ⟨Nat.le_of_ble_eq_true rfl, Nat.le_of_ble_eq_true rfl⟩) hK hP hD [0, 1, 2, 3, 4, 5, 6, 7, 8, 9, 10, 11, 12, 13, 14, 15, 16, 17, 18, 19, 20, 21, 22, 23, 24, 25, 26, 27, 28, 29, 30, 31, 32, 33, 34, 35, 36, 37, 38, 39] (by decide) rfl 0 cPS rfl rfl rfl hl.1 rfl (Nat.le_of_ble_eq_true rfl) d_PS_part_2 ⟨Nat.zero_le _, Nat.zero_le _⟩) (fun r_1 H locs hr_1 hP hS => ?_)
  obtain ⟨-, hr_1⟩ := hr_1
  subst hr_1
  refine lv_if_eq (tgt := 16) hx hb d_PS_part_5 (by decide) (fun c_2 => ?_) (fun c_2 => ?_)
  · have c_2 := ps_ite0 c_2
    refine lv_iconst (v := (-1)) hx hb d_PS_part_16 (by decide) ?_
    exact ps_iret hx hb hr hlocks hK hP hD hS (Nat.zero_le _) (Nat.zero_le _) d_PS_part_17 (ps_cy (fun q => c_2 q.1) ⟨rfl, rfl⟩)
  · have c_2 := ps_ite1 c_2
    have hc := c_2
    obtain ⟨j, hj1, hj2, rfl⟩ := ps_rng (by have h0 := hKb 0; have h1 := hKb 1; have h2 := hKb 2; have h3 := hKb 3; have h4 := hKb 4; have h5 := hKb 5; omega) c_2
    have hj3 : j < 2 ^ 31 := by have h0 := hKb 0; have h1 := hKb 1; have h2 := hKb 2; have h3 := hKb 3; have h4 := hKb 4; have h5 := hKb 5; omega
    rw [nI_clamp hj3] at hm ⊢
    obtain ⟨s0, l0, e5, e6, hs⟩ := hrw j hj1 hj2
    have hl0 : l0 ≤ 65536 := by have b1 := hKb 1; have b2 := hKb 2; rcases hs with q | q <;> omega
    refine lv_iload_n hx hb d_PS_part_8 rfl (lv_at hl 2 rfl) ?_
    refine lv_if_lt (tgt := 16) hx hb d_PS_part_9 (by decide) (fun c_3 => ?_) (fun c_3 => ?_)
    · refine lv_iconst (v := (-1)) hx hb d_PS_part_16 (by decide) ?_
      exact ps_iret hx hb hr hlocks hK hP hD hS (Nat.zero_le _) (Nat.zero_le _) d_PS_part_17 (ps_cy (fun q => q.2.1 c_3) ⟨rfl, rfl⟩)
    · refine lv_iload_n hx hb d_PS_part_12 rfl (lv_at hl 3 rfl) ?_
      refine lv_if_ge (tgt := 18) hx hb d_PS_part_13 (by decide) (fun c_4 => ?_) (fun c_4 => ?_)
      · obtain ⟨f0, hf0, rfl⟩ := nI_of c_3
        obtain ⟨n0, hn0, rfl⟩ := nI_of (k2_nlt c_4)
        rw [e6, nI_clamp hf0, nI_clamp hn0, nI_clamp (show l0 < 2 ^ 31 by omega)] at hm ⊢
        refine lv_iload_n hx hb d_PS_part_18 rfl (lv_at hl 2 rfl) ?_
        refine lv_aload_n hx hb d_PS_part_19 rfl (lv_at hl 0 rfl) ?_
        refine va_get (D := (dC, dI)) (ci := cPS) (v := .ref (a 2)) (C := R_PS) (T := F_PS) (N := 10) hx hb hts i_PS hown hK hP 0 rfl rfl 3 (by decide) (hts _ tw_112) (fun _ h9 => h9) rfl d_PS_part_20 ?_
        refine va_get (D := (dC, dI)) (ci := cRow) (v := .ref (a 14)) (C := R_Row) (T := F_Row) (N := 3) hx hb hts i_Row hown hK hP 2 rfl rfl 2 (by decide) (hts _ tw_136) (fun _ h9 => h9) rfl d_PS_part_23 ?_
        refine lv_iload_n hx hb d_PS_part_26 rfl (lv_at hl 1 rfl) ?_
        refine ps_readI (wc := [(a 14, .inr (cCol, [.int (nI 16385), .ref (q 6)])), (q 6, .inl (cI, N 6, .inl (F 6)))]) hP hD hS hA [20, 21] rfl (fun _ _ h => h.1) (ps_runVI ⟨hx, hb, hml, hown, hts⟩ (c_at l dC dI cI tys ht (a 14) (q 6) 16385 (N 6) (F 6) j (hw.z 6 (by decide)) (hw.n 6 (by decide)) (by omega)) (ps_cwV ps_gd 1 hts tw_102 k_Col_at e_Col_at ⟨Nat.le_of_ble_eq_true rfl, Nat.le_of_ble_eq_true rfl⟩) hK hP hD [20, 21] (by decide) rfl 0 cCol rfl rfl rfl hl.1 rfl (Nat.le_of_ble_eq_true rfl) d_PS_part_27 ⟨Nat.zero_le _, Nat.zero_le _⟩) (fun r_5 H locs hr_5 hP hS => ?_)
        obtain ⟨-, hr_5⟩ := hr_5
        subst hr_5
        refine ps_top (z := nI l0) e6 ?_
        refine lv_iload_n hx hb d_PS_part_30 rfl (lv_at hl 3 rfl) ?_
        refine lv_isub hx hb d_PS_part_31 ?_
        refine ps_top (z := nI l0 - nI n0) rfl ?_
        refine lv_icmp_le (tgt := 37) hx hb d_PS_part_32 (by decide) (fun c_6 => ?_) (fun c_6 => ?_)
        · have c_6 : f0 + n0 ≤ l0 := (ps_sub_le hf0 hn0 hl0).mp c_6
          have hok : ¬ ¬ ((nI 1 ≤ nI j ∧ nI j ≤ nI (K 0)) ∧ ¬ nI f0 < 0 ∧ ¬ nI n0 < 0 ∧ f0 + n0 ≤ l0) := fun q => q ⟨hc, nI_pos hf0, nI_pos hn0, c_6⟩
          refine lv_aload_n hx hb d_PS_part_37 rfl (lv_at hl 0 rfl) ?_
          refine ps_readI (wc := (pw cI a q K S ck cu F N)) hP hD hS hA [0, 1, 2, 3, 4, 5, 6, 7, 8, 9, 10, 11, 12, 13, 14, 15, 16, 17, 18, 19, 20, 21, 22, 23, 24, 25, 26, 27, 28, 29, 30, 31, 32, 33, 34, 35, 36, 37, 38, 39] rfl (fun _ _ h => h.1) (ps_runVI ⟨hx, hb, hml, hown, hts⟩ (c_noRow l dC dI cI tys ht a q K S ck cu F N hw hKb hSb) (ps_cwV ps_gd 0 hts tw_119 k_PS_noRowLeft e_PS_noRowLeft ⟨Nat.le_of_ble_eq_true rfl, Nat.le_of_ble_eq_true rfl⟩) hK hP hD [0, 1, 2, 3, 4, 5, 6, 7, 8, 9, 10, 11, 12, 13, 14, 15, 16, 17, 18, 19, 20, 21, 22, 23, 24, 25, 26, 27, 28, 29, 30, 31, 32, 33, 34, 35, 36, 37, 38, 39] (by decide) rfl 0 cPS rfl rfl rfl hl.1 rfl (Nat.le_of_ble_eq_true rfl) d_PS_part_38 ⟨Nat.zero_le _, Nat.zero_le _⟩) (fun r_7 H locs hr_7 hP hS => ?_)
          obtain ⟨-, hr_7⟩ := hr_7
          subst hr_7
          refine lv_if_eq (tgt := 47) hx hb d_PS_part_41 (by decide) (fun c_8 => ?_) (fun c_8 => ?_)
          · have c_8 := ps_ite0 c_8
            refine lv_aload_n hx hb d_PS_part_47 rfl (lv_at hl 0 rfl) ?_
            refine lv_aload_n hx hb d_PS_part_48 rfl (lv_at hl 0 rfl) ?_
            refine va_get (D := (dC, dI)) (ci := cPS) (v := .ref (a 2)) (C := R_PS) (T := F_PS) (N := 10) hx hb hts i_PS hown hK hP 0 rfl rfl 3 (by decide) (hts _ tw_112) (fun _ h9 => h9) rfl d_PS_part_49 ?_
            refine va_get (D := (dC, dI)) (ci := cRow) (v := .ref (a 12)) (C := R_Row) (T := F_Row) (N := 3) hx hb hts i_Row hown hK hP 2 rfl rfl 0 (by decide) (hts _ tw_135) (fun _ h9 => h9) rfl d_PS_part_52 ?_
            refine lv_iload_n hx hb d_PS_part_55 rfl (lv_at hl 1 rfl) ?_
            refine ps_readI (wc := [(a 12, .inr (cCol, [.int (nI 16385), .ref (q 4)])), (q 4, .inl (cI, N 4, .inl (F 4)))]) hP hD hS hA [16, 17] rfl (fun _ _ h => h.1) (ps_runVI ⟨hx, hb, hml, hown, hts⟩ (c_at l dC dI cI tys ht (a 12) (q 4) 16385 (N 4) (F 4) j (hw.z 4 (by decide)) (hw.n 4 (by decide)) (by omega)) (ps_cwV ps_gd 1 hts tw_102 k_Col_at e_Col_at ⟨Nat.le_of_ble_eq_true rfl, Nat.le_of_ble_eq_true rfl⟩) hK hP hD [16, 17] (by decide) rfl 0 cCol rfl rfl rfl hl.1 rfl (Nat.le_of_ble_eq_true rfl) d_PS_part_56 ⟨Nat.zero_le _, Nat.zero_le _⟩) (fun r_9 H locs hr_9 hP hS => ?_)
            obtain ⟨-, hr_9⟩ := hr_9
            subst hr_9
            refine lv_aload_n hx hb d_PS_part_59 rfl (lv_at hl 0 rfl) ?_
            refine va_get (D := (dC, dI)) (ci := cPS) (v := .ref (a 2)) (C := R_PS) (T := F_PS) (N := 10) hx hb hts i_PS hown hK hP 0 rfl rfl 3 (by decide) (hts _ tw_112) (fun _ h9 => h9) rfl d_PS_part_60 ?_
            refine va_get (D := (dC, dI)) (ci := cRow) (v := .ref (a 13)) (C := R_Row) (T := F_Row) (N := 3) hx hb hts i_Row hown hK hP 2 rfl rfl 1 (by decide) (hts _ tw_137) (fun _ h9 => h9) rfl d_PS_part_63 ?_
            refine lv_iload_n hx hb d_PS_part_66 rfl (lv_at hl 1 rfl) ?_
            refine ps_readI (wc := [(a 13, .inr (cCol, [.int (nI 16385), .ref (q 5)])), (q 5, .inl (cI, N 5, .inl (F 5)))]) hP hD hS hA [18, 19] rfl (fun _ _ h => h.1) (ps_runVI ⟨hx, hb, hml, hown, hts⟩ (c_at l dC dI cI tys ht (a 13) (q 5) 16385 (N 5) (F 5) j (hw.z 5 (by decide)) (hw.n 5 (by decide)) (by omega)) (ps_cwV ps_gd 1 hts tw_102 k_Col_at e_Col_at ⟨Nat.le_of_ble_eq_true rfl, Nat.le_of_ble_eq_true rfl⟩) hK hP hD [18, 19] (by decide) rfl 0 cCol rfl rfl rfl hl.1 rfl (Nat.le_of_ble_eq_true rfl) d_PS_part_67 ⟨Nat.zero_le _, Nat.zero_le _⟩) (fun r_10 H locs hr_10 hP hS => ?_)
            obtain ⟨-, hr_10⟩ := hr_10
            subst hr_10
            refine lv_iload_n hx hb d_PS_part_70 rfl (lv_at hl 2 rfl) ?_
            refine lv_iadd hx hb d_PS_part_71 ?_
            refine lv_iload_n hx hb d_PS_part_72 rfl (lv_at hl 3 rfl) ?_
            refine ps_afterI (wc := (pw cI a q K S ck cu F N)) (wr := []) hP hD hS hA [0, 1, 2, 3, 4, 5, 6, 7, 8, 9, 10, 11, 12, 13, 14, 15, 16, 17, 18, 19, 20, 21, 22, 23, 24, 25, 26, 27, 28, 29, 30, 31, 32, 33, 34, 35, 36, 37, 38, 39] [] rfl rfl (by decide) (by decide) (ps_runVI ⟨hx, hb, hml, hown, hts⟩ (c_addRow l dC dI cI tys ht a q K S ck cu F N hw hKb hSb ((F 4) j) (((F 5) j) + (nI f0)) (nI n0) (show K 0 < 16384 by omega)) (ps_cwV ps_gd 3 hts tw_121 k_PS_addRow e_PS_addRow ⟨Nat.le_of_ble_eq_true rfl, Nat.le_of_ble_eq_true rfl⟩) hK hP hD [0, 1, 2, 3, 4, 5, 6, 7, 8, 9, 10, 11, 12, 13, 14, 15, 16, 17, 18, 19, 20, 21, 22, 23, 24, 25, 26, 27, 28, 29, 30, 31, 32, 33, 34, 35, 36, 37, 38, 39] (by decide) rfl 0 cPS rfl rfl rfl hl.1 rfl (Nat.le_of_ble_eq_true rfl) d_PS_part_73 ⟨by have h1 := hm hok (by omega); show 0 + 0 + 0 + 0 + 0 + ps_rc N (K 0 + 1) ≤ mc; omega, by have h1 := hm hok (by omega); show 0 + 0 + 0 + 0 + 0 + ps_rs N (K 0 + 1) ≤ ms; omega⟩) (fun r_12 u_11 H locs hu_11 hP hD hS => ?_)
            obtain ⟨hr_12, q_13, hu_11⟩ := hu_11
            subst hr_12
            subst hu_11
            have hP : va_P (dC, dI) classes (pw cI a q_13 (va_up K 0 (K 0 + 1)) S ck cu (va_up (va_up (va_up F 4 (upd (F 4) (K 0 + 1) ((F 4) j))) 5 (upd (F 5) (K 0 + 1) (((F 5) j) + (nI f0)))) 6 (upd (F 6) (K 0 + 1) (nI n0))) (va_up (va_up (va_up N 4 (ps_len 16385 (N 4) (K 0 + 1))) 5 (ps_len 16385 (N 5) (K 0 + 1))) 6 (ps_len 16385 (N 6) (K 0 + 1)))) H := hP
            have hD : va_D A (pw cI a q_13 (va_up K 0 (K 0 + 1)) S ck cu (va_up (va_up (va_up F 4 (upd (F 4) (K 0 + 1) ((F 4) j))) 5 (upd (F 5) (K 0 + 1) (((F 5) j) + (nI f0)))) 6 (upd (F 6) (K 0 + 1) (nI n0))) (va_up (va_up (va_up N 4 (ps_len 16385 (N 4) (K 0 + 1))) 5 (ps_len 16385 (N 5) (K 0 + 1))) 6 (ps_len 16385 (N 6) (K 0 + 1)))) := hD
            exact ps_iret hx hb hr hlocks hK hP hD hS (by have h1 := hm hok (by omega); show 0 + 0 + 0 + 0 + 0 + ps_rc N (K 0 + 1) ≤ mc; omega) (by have h1 := hm hok (by omega); show 0 + 0 + 0 + 0 + 0 + ps_rs N (K 0 + 1) ≤ ms; omega) d_PS_part_76 (ps_cn hok (ps_cn c_8 ⟨_, rfl, rfl⟩))
          · have c_8 := ps_ite1 c_8
            refine lv_bipush (v := (-3)) hx hb d_PS_part_44 (by decide) ?_
            exact ps_iret hx hb hr hlocks hK hP hD hS (Nat.zero_le _) (Nat.zero_le _) d_PS_part_46 (ps_cn hok (ps_cy c_8 ⟨rfl, rfl⟩))
        · have c_6 : ¬ f0 + n0 ≤ l0 := fun q => c_6 ((ps_sub_le hf0 hn0 hl0).mpr q)
          refine lv_iconst (v := (-1)) hx hb d_PS_part_35 (by decide) ?_
          exact ps_iret hx hb hr hlocks hK hP hD hS (Nat.zero_le _) (Nat.zero_le _) d_PS_part_36 (ps_cy (fun q => c_6 q.2.2.2) ⟨rfl, rfl⟩)
      · refine lv_iconst (v := (-1)) hx hb d_PS_part_16 (by decide) ?_
        exact ps_iret hx hb hr hlocks hK hP hD hS (Nat.zero_le _) (Nat.zero_le _) d_PS_part_17 (ps_cy (fun q => q.2.2.1 (k2_lt c_4)) ⟨rfl, rfl⟩)

set_option maxHeartbeats 4000000 in
set_option maxRecDepth 100000 in
/-- PageStore.indexIn -/
theorem c_ixin (l : Launch) (dC : Nat → ClassId) (dI : Nat → Nat → Nat) (cI : ClassId) (tys : List (ClassId × FieldType)) (ht : tys[0]? = some (cI, FieldType.int)) (a q K : Nat → Nat) (S : Nat) (ck cu : Int32) (F : Nat → Nat → Int32) (N : Nat → Nat) (hw : ps_wf F N) (hKb : ∀ j, K j ≤ 65536) (hSb : S ≤ 15) (x row place : Int32) : ps_mI classes l y_PS_indexIn w_PS_indexIn ({ frames := 1, cells := 0, slots := 0, locals := 21 }) (dC, dI) tys [.ref (a 0), .int x, .int row, .int place] (pw cI a q K S ck cu F N) (fun r u => u = pw cI a q K S ck cu F N ∧ ps_c (ps_ok K F x row place) (r = F 5 row.toNatClampNeg + place) (r = -1)) := by
  refine ps_mI_of (by decide) rfl (Nat.le_of_ble_eq_true rfl) ?_
  intro p e s m below meth c A ls C0 hA hK hP hD hS hl
  obtain ⟨hx, hb, hr, hml, hts, hown, hlocks, hin⟩ := C0
  have hl : lv_has ls 4 [(0, .ref (a 0)), (1, .int x), (2, .int row), (3, .int place)] := hl
  have hP : va_P (dC, dI) classes (pw cI a q K S ck cu F N) s.heap := hP
  have hD : va_D A (pw cI a q K S ck cu F N) := hD
  refine lv_aload_n hx hb d_PS_indexIn_0 rfl (lv_at hl 0 rfl) ?_
  refine lv_iload_n hx hb d_PS_indexIn_1 rfl (lv_at hl 2 rfl) ?_
  refine ps_readI (wc := (pw cI a q K S ck cu F N)) hP hD hS hA [0, 1, 2, 3, 4, 5, 6, 7, 8, 9, 10, 11, 12, 13, 14, 15, 16, 17, 18, 19, 20, 21, 22, 23, 24, 25, 26, 27, 28, 29, 30, 31, 32, 33, 34, 35, 36, 37, 38, 39] rfl (fun _ _ h => h.1) (ps_runVI ⟨hx, hb, hml, hown, hts⟩ (c_isRow l dC dI cI tys ht a q K S ck cu F N hw hKb hSb row) (ps_cwV ps_gd 1 hts tw_134 k_PS_isRow e_PS_isRow ⟨Nat.le_of_ble_eq_true rfl, Nat.le_of_ble_eq_true rfl⟩) hK hP hD [0, 1, 2, 3, 4, 5, 6, 7, 8, 9, 10, 11, 12, 13, 14, 15, 16, 17, 18, 19, 20, 21, 22, 23, 24, 25, 26, 27, 28, 29, 30, 31, 32, 33, 34, 35, 36, 37, 38, 39] (by decide) rfl 0 cPS rfl rfl rfl hl.1 rfl (Nat.le_of_ble_eq_true rfl) d_PS_indexIn_2 ⟨Nat.zero_le _, Nat.zero_le _⟩) (fun r_1 H locs hr_1 hP hS => ?_)
  obtain ⟨-, hr_1⟩ := hr_1
  subst hr_1
  refine lv_if_eq (tgt := 23) hx hb d_PS_indexIn_5 (by decide) (fun c_2 => ?_) (fun c_2 => ?_)
  · have c_2 := ps_ite0 c_2
    refine lv_iconst (v := (-1)) hx hb d_PS_indexIn_23 (by decide) ?_
    exact ps_iret hx hb hr hlocks hK hP hD hS (Nat.le_of_ble_eq_true rfl) (Nat.le_of_ble_eq_true rfl) d_PS_indexIn_24 (⟨rfl, ps_cn (fun q => c_2 q.1) rfl⟩)
  · have c_2 := ps_ite1 c_2
    have hc := c_2
    obtain ⟨j, hj1, hj2, rfl⟩ := ps_rng (by have h0 := hKb 0; have h1 := hKb 1; have h2 := hKb 2; have h3 := hKb 3; have h4 := hKb 4; have h5 := hKb 5; omega) c_2
    have hj3 : j < 2 ^ 31 := by have h0 := hKb 0; have h1 := hKb 1; have h2 := hKb 2; have h3 := hKb 3; have h4 := hKb 4; have h5 := hKb 5; omega
    unfold ps_ok
    rw [nI_clamp hj3]
    refine lv_aload_n hx hb d_PS_indexIn_8 rfl (lv_at hl 0 rfl) ?_
    refine va_get (D := (dC, dI)) (ci := cPS) (v := .ref (a 2)) (C := R_PS) (T := F_PS) (N := 10) hx hb hts i_PS hown hK hP 0 rfl rfl 3 (by decide) (hts _ tw_112) (fun _ h9 => h9) rfl d_PS_indexIn_9 ?_
    refine va_get (D := (dC, dI)) (ci := cRow) (v := .ref (a 12)) (C := R_Row) (T := F_Row) (N := 3) hx hb hts i_Row hown hK hP 2 rfl rfl 0 (by decide) (hts _ tw_135) (fun _ h9 => h9) rfl d_PS_indexIn_12 ?_
    refine lv_iload_n hx hb d_PS_indexIn_15 rfl (lv_at hl 2 rfl) ?_
    refine ps_readI (wc := [(a 12, .inr (cCol, [.int (nI 16385), .ref (q 4)])), (q 4, .inl (cI, N 4, .inl (F 4)))]) hP hD hS hA [16, 17] rfl (fun _ _ h => h.1) (ps_runVI ⟨hx, hb, hml, hown, hts⟩ (c_at l dC dI cI tys ht (a 12) (q 4) 16385 (N 4) (F 4) j (hw.z 4 (by decide)) (hw.n 4 (by decide)) (by omega)) (ps_cwV ps_gd 1 hts tw_102 k_Col_at e_Col_at ⟨Nat.le_of_ble_eq_true rfl, Nat.le_of_ble_eq_true rfl⟩) hK hP hD [16, 17] (by decide) rfl 0 cCol rfl rfl rfl hl.1 rfl (Nat.le_of_ble_eq_true rfl) d_PS_indexIn_16 ⟨Nat.zero_le _, Nat.zero_le _⟩) (fun r_3 H locs hr_3 hP hS => ?_)
    obtain ⟨-, hr_3⟩ := hr_3
    subst hr_3
    refine lv_iload_n hx hb d_PS_indexIn_19 rfl (lv_at hl 1 rfl) ?_
    refine lv_icmp_eq (tgt := 25) hx hb d_PS_indexIn_20 (by decide) (fun c_4 => ?_) (fun c_4 => ?_)
    · refine lv_iload_n hx hb d_PS_indexIn_25 rfl (lv_at hl 3 rfl) ?_
      refine lv_if_lt (tgt := 44) hx hb d_PS_indexIn_26 (by decide) (fun c_5 => ?_) (fun c_5 => ?_)
      · refine lv_iconst (v := (-1)) hx hb d_PS_indexIn_44 (by decide) ?_
        exact ps_iret hx hb hr hlocks hK hP hD hS (Nat.le_of_ble_eq_true rfl) (Nat.le_of_ble_eq_true rfl) d_PS_indexIn_45 (⟨rfl, ps_cn (fun q => q.2.2.1 c_5) rfl⟩)
      · refine lv_iload_n hx hb d_PS_indexIn_29 rfl (lv_at hl 3 rfl) ?_
        refine lv_aload_n hx hb d_PS_indexIn_30 rfl (lv_at hl 0 rfl) ?_
        refine va_get (D := (dC, dI)) (ci := cPS) (v := .ref (a 2)) (C := R_PS) (T := F_PS) (N := 10) hx hb hts i_PS hown hK hP 0 rfl rfl 3 (by decide) (hts _ tw_112) (fun _ h9 => h9) rfl d_PS_indexIn_31 ?_
        refine va_get (D := (dC, dI)) (ci := cRow) (v := .ref (a 14)) (C := R_Row) (T := F_Row) (N := 3) hx hb hts i_Row hown hK hP 2 rfl rfl 2 (by decide) (hts _ tw_136) (fun _ h9 => h9) rfl d_PS_indexIn_34 ?_
        refine lv_iload_n hx hb d_PS_indexIn_37 rfl (lv_at hl 2 rfl) ?_
        refine ps_readI (wc := [(a 14, .inr (cCol, [.int (nI 16385), .ref (q 6)])), (q 6, .inl (cI, N 6, .inl (F 6)))]) hP hD hS hA [20, 21] rfl (fun _ _ h => h.1) (ps_runVI ⟨hx, hb, hml, hown, hts⟩ (c_at l dC dI cI tys ht (a 14) (q 6) 16385 (N 6) (F 6) j (hw.z 6 (by decide)) (hw.n 6 (by decide)) (by omega)) (ps_cwV ps_gd 1 hts tw_102 k_Col_at e_Col_at ⟨Nat.le_of_ble_eq_true rfl, Nat.le_of_ble_eq_true rfl⟩) hK hP hD [20, 21] (by decide) rfl 0 cCol rfl rfl rfl hl.1 rfl (Nat.le_of_ble_eq_true rfl) d_PS_indexIn_38 ⟨Nat.zero_le _, Nat.zero_le _⟩) (fun r_6 H locs hr_6 hP hS => ?_)
        obtain ⟨-, hr_6⟩ := hr_6
        subst hr_6
        refine lv_icmp_lt (tgt := 46) hx hb d_PS_indexIn_41 (by decide) (fun c_7 => ?_) (fun c_7 => ?_)
        · refine lv_aload_n hx hb d_PS_indexIn_46 rfl (lv_at hl 0 rfl) ?_
          refine va_get (D := (dC, dI)) (ci := cPS) (v := .ref (a 2)) (C := R_PS) (T := F_PS) (N := 10) hx hb hts i_PS hown hK hP 0 rfl rfl 3 (by decide) (hts _ tw_112) (fun _ h9 => h9) rfl d_PS_indexIn_47 ?_
          refine va_get (D := (dC, dI)) (ci := cRow) (v := .ref (a 13)) (C := R_Row) (T := F_Row) (N := 3) hx hb hts i_Row hown hK hP 2 rfl rfl 1 (by decide) (hts _ tw_137) (fun _ h9 => h9) rfl d_PS_indexIn_50 ?_
          refine lv_iload_n hx hb d_PS_indexIn_53 rfl (lv_at hl 2 rfl) ?_
          refine ps_readI (wc := [(a 13, .inr (cCol, [.int (nI 16385), .ref (q 5)])), (q 5, .inl (cI, N 5, .inl (F 5)))]) hP hD hS hA [18, 19] rfl (fun _ _ h => h.1) (ps_runVI ⟨hx, hb, hml, hown, hts⟩ (c_at l dC dI cI tys ht (a 13) (q 5) 16385 (N 5) (F 5) j (hw.z 5 (by decide)) (hw.n 5 (by decide)) (by omega)) (ps_cwV ps_gd 1 hts tw_102 k_Col_at e_Col_at ⟨Nat.le_of_ble_eq_true rfl, Nat.le_of_ble_eq_true rfl⟩) hK hP hD [18, 19] (by decide) rfl 0 cCol rfl rfl rfl hl.1 rfl (Nat.le_of_ble_eq_true rfl) d_PS_indexIn_54 ⟨Nat.zero_le _, Nat.zero_le _⟩) (fun r_8 H locs hr_8 hP hS => ?_)
          obtain ⟨-, hr_8⟩ := hr_8
          subst hr_8
          refine lv_iload_n hx hb d_PS_indexIn_57 rfl (lv_at hl 3 rfl) ?_
          refine lv_iadd hx hb d_PS_indexIn_58 ?_
          exact ps_iret hx hb hr hlocks hK hP hD hS (Nat.le_of_ble_eq_true rfl) (Nat.le_of_ble_eq_true rfl) d_PS_indexIn_59 (⟨rfl, ps_cy ⟨hc, c_4, c_5, c_7⟩ rfl⟩)
        · refine lv_iconst (v := (-1)) hx hb d_PS_indexIn_44 (by decide) ?_
          exact ps_iret hx hb hr hlocks hK hP hD hS (Nat.le_of_ble_eq_true rfl) (Nat.le_of_ble_eq_true rfl) d_PS_indexIn_45 (⟨rfl, ps_cn (fun q => c_7 q.2.2.2) rfl⟩)
    · refine lv_iconst (v := (-1)) hx hb d_PS_indexIn_23 (by decide) ?_
      exact ps_iret hx hb hr hlocks hK hP hD hS (Nat.le_of_ble_eq_true rfl) (Nat.le_of_ble_eq_true rfl) d_PS_indexIn_24 (⟨rfl, ps_cn (fun q => c_4 q.2.1) rfl⟩)
