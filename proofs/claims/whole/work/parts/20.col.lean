theorem tw_0 : (.methodLink "java/util/Arrays" 13 ⟨"java/util/Arrays", "rangeCheck", "(III)V"⟩ : Cond) ∈ ps_tbl := ps_t1 179 rfl rfl
theorem tw_1 : (.arrayClass .int : Cond) ∈ ps_tbl := ps_t1 32 rfl rfl
theorem tw_2 : (.methodLink "java/util/Arrays" 304 ⟨"java/lang/Math", "min", "(II)I"⟩ : Cond) ∈ ps_tbl := ps_t1 207 rfl rfl
theorem tw_3 : (.static ⟨"java/lang/Math", "min", "(II)I"⟩ : Cond) ∈ ps_tbl := ps_t1 174 rfl rfl
theorem tw_4 : (.initialized "java/lang/Math" : Cond) ∈ ps_tbl := ps_t1 8 rfl rfl
theorem tw_5 : (.code ⟨"java/lang/Math", "min", "(II)I"⟩ Lib.Math.min.code 2 (some .int) : Cond) ∈ ps_tbl := ps_t1 175 rfl rfl
theorem tw_6 : (.methodLink "java/util/Arrays" 150 ⟨"java/lang/System", "arraycopy", "(Ljava/lang/Object;ILjava/lang/Object;II)V"⟩ : Cond) ∈ ps_tbl := ps_t1 208 rfl rfl
theorem tw_7 : (.native ⟨"java/lang/System", "arraycopy", "(Ljava/lang/Object;ILjava/lang/Object;II)V"⟩ : Cond) ∈ ps_tbl := ps_t1 210 rfl rfl
theorem tw_8 : (.static ⟨"java/lang/System", "arraycopy", "(Ljava/lang/Object;ILjava/lang/Object;II)V"⟩ : Cond) ∈ ps_tbl := ps_t1 209 rfl rfl
theorem tw_9 : (.initialized "java/lang/System" : Cond) ∈ ps_tbl := ps_t1 10 rfl rfl
theorem tw_10 : (.fieldLink "PageStore$Column" 9 "PageStore$Column" "cells" "[I" : Cond) ∈ ps_tbl := ps_t1 26 rfl rfl
theorem tw_11 : (.fieldLink "PageStore$Column" 13 "PageStore$Column" "limit" "I" : Cond) ∈ ps_tbl := ps_t1 25 rfl rfl
theorem tw_12 : (.methodLink "PageStore$Column" 17 ⟨"java/lang/Math", "max", "(II)I"⟩ : Cond) ∈ ps_tbl := ps_t1 194 rfl rfl
theorem tw_13 : (.static ⟨"java/lang/Math", "max", "(II)I"⟩ : Cond) ∈ ps_tbl := ps_t1 195 rfl rfl
theorem tw_14 : (.code ⟨"java/lang/Math", "max", "(II)I"⟩ Lib.Math.max.code 2 (some .int) : Cond) ∈ ps_tbl := ps_t1 196 rfl rfl
theorem tw_15 : (.methodLink "PageStore$Column" 23 ⟨"java/util/Arrays", "copyOf", "([II)[I"⟩ : Cond) ∈ ps_tbl := ps_t1 197 rfl rfl
theorem tw_16 : (.methodLink "PageStore$Column" 29 ⟨"java/lang/Math", "min", "(II)I"⟩ : Cond) ∈ ps_tbl := ps_t1 173 rfl rfl
theorem tw_17 : (.methodLink "PageStore$Column" 32 ⟨"java/util/Arrays", "fill", "([IIII)V"⟩ : Cond) ∈ ps_tbl := ps_t1 176 rfl rfl
theorem tw_18 : (.initialized "java/util/Arrays" : Cond) ∈ ps_tbl := ps_t1 9 rfl rfl
theorem tw_19 : (.code ⟨"java/util/Arrays", "rangeCheck", "(III)V"⟩ prog_12_method_30_code 3 none : Cond) ∈ ps_tbl := ps_t1 181 rfl rfl
theorem tw_20 : (.static ⟨"java/util/Arrays", "rangeCheck", "(III)V"⟩ : Cond) ∈ ps_tbl := ps_t1 180 rfl rfl
theorem tw_21 : (.code ⟨"java/util/Arrays", "copyOf", "([II)[I"⟩ prog_12_method_123_code 3 (some (.array .int)) : Cond) ∈ ps_tbl := ps_t1 199 rfl rfl
theorem tw_22 : (.static ⟨"java/util/Arrays", "copyOf", "([II)[I"⟩ : Cond) ∈ ps_tbl := ps_t1 198 rfl rfl
theorem tw_23 : (.code ⟨"java/util/Arrays", "fill", "([IIII)V"⟩ prog_12_method_104_code 5 none : Cond) ∈ ps_tbl := ps_t1 178 rfl rfl
theorem tw_24 : (.static ⟨"java/util/Arrays", "fill", "([IIII)V"⟩ : Cond) ∈ ps_tbl := ps_t1 177 rfl rfl
theorem k_Arr_rangeCheck : ps_cdS ps_tbl y_Arr_rangeCheck prog_12_method_30_code 3 none := ⟨tw_20, tw_18, tw_19⟩
theorem k_Arr_copyOf : ps_cdS ps_tbl y_Arr_copyOf prog_12_method_123_code 3 (some (.array .int)) := ⟨tw_22, tw_18, tw_21⟩
theorem k_Arr_fill : ps_cdS ps_tbl y_Arr_fill prog_12_method_104_code 5 none := ⟨tw_24, tw_18, tw_23⟩
def pc_W (cI : ClassId) (h q lim n : Nat) (f : Nat → Int32) : va_W := [(h, .inr (cCol, [.int (nI lim), .ref q])), (q, .inl (cI, n, .inl f))]
def pv_W (cI : ClassId) (h k qk x qx lim n1 n2 : Nat) (f1 f2 : Nat → Int32) : va_W := [(h, .inr (cVal, [.ref k, .ref x])), (k, .inr (cCol, [.int (nI lim), .ref qk])), (qk, .inl (cI, n1, .inl f1)), (x, .inr (cCol, [.int (nI lim), .ref qx])), (qx, .inl (cI, n2, .inl f2))]
def pr_W (cI : ClassId) (h k1 q1 k2 q2 k3 q3 lim n1 n2 n3 : Nat) (f1 f2 f3 : Nat → Int32) : va_W := [(h, .inr (cRow, [.ref k1, .ref k2, .ref k3])), (k1, .inr (cCol, [.int (nI lim), .ref q1])), (q1, .inl (cI, n1, .inl f1)), (k2, .inr (cCol, [.int (nI lim), .ref q2])), (q2, .inl (cI, n2, .inl f2)), (k3, .inr (cCol, [.int (nI lim), .ref q3])), (q3, .inl (cI, n3, .inl f3))]
def pk_W (cI : ClassId) (h hv k1 q1 k2 q2 k3 q3 lim n1 n2 n3 : Nat) (f1 f2 f3 : Nat → Int32) : va_W := [(h, .inr (cKey, [.ref k1, .ref k2, .ref k3, .ref hv])), (k1, .inr (cCol, [.int (nI lim), .ref q1])), (q1, .inl (cI, n1, .inl f1)), (k2, .inr (cCol, [.int (nI lim), .ref q2])), (q2, .inl (cI, n2, .inl f2)), (k3, .inr (cCol, [.int (nI lim), .ref q3])), (q3, .inl (cI, n3, .inl f3))]
def pq_W (cI : ClassId) (h hv k1 q1 k2 q2 k3 q3 kv qv xv lim n1 n2 n3 nv : Nat) (f1 f2 f3 fv : Nat → Int32) : va_W := [(h, .inr (cKey, [.ref k1, .ref k2, .ref k3, .ref hv])), (k1, .inr (cCol, [.int (nI lim), .ref q1])), (q1, .inl (cI, n1, .inl f1)), (k2, .inr (cCol, [.int (nI lim), .ref q2])), (q2, .inl (cI, n2, .inl f2)), (k3, .inr (cCol, [.int (nI lim), .ref q3])), (q3, .inl (cI, n3, .inl f3)), (hv, .inr (cVal, [.ref kv, .ref xv])), (kv, .inr (cCol, [.int (nI lim), .ref qv])), (qv, .inl (cI, nv, .inl fv))]
def pm_W (cI : ClassId) (h ho k1 q1 k2 q2 lim n1 n2 : Nat) (f1 f2 : Nat → Int32) : va_W := [(h, .inr (cMem, [.ref k1, .ref k2, .ref ho])), (k1, .inr (cCol, [.int (nI lim), .ref q1])), (q1, .inl (cI, n1, .inl f1)), (k2, .inr (cCol, [.int (nI lim), .ref q2])), (q2, .inl (cI, n2, .inl f2))]
def pn_W (cI : ClassId) (h k1 q1 k2 q2 ho k3 q3 k4 q4 hv kv qv xv qx lim vl n1 n2 n3 n4 nv nx : Nat) (f1 f2 f3 f4 fv fx : Nat → Int32) : va_W := [(h, .inr (cMem, [.ref k1, .ref k2, .ref ho])), (k1, .inr (cCol, [.int (nI lim), .ref q1])), (q1, .inl (cI, n1, .inl f1)), (k2, .inr (cCol, [.int (nI lim), .ref q2])), (q2, .inl (cI, n2, .inl f2)), (ho, .inr (cVal, [.ref k3, .ref k4])), (k3, .inr (cCol, [.int (nI lim), .ref q3])), (q3, .inl (cI, n3, .inl f3)), (k4, .inr (cCol, [.int (nI lim), .ref q4])), (q4, .inl (cI, n4, .inl f4)), (hv, .inr (cVal, [.ref kv, .ref xv])), (kv, .inr (cCol, [.int (nI vl), .ref qv])), (qv, .inl (cI, nv, .inl fv)), (xv, .inr (cCol, [.int (nI vl), .ref qx])), (qx, .inl (cI, nx, .inl fx))]

set_option maxHeartbeats 4000000 in
set_option maxRecDepth 100000 in
/-- Arrays.rangeCheck passes -/
theorem c_rangeCheck (l : Launch) (dC : Nat → ClassId) (dI : Nat → Nat → Nat) (cI : ClassId) (tys : List (ClassId × FieldType)) (ht : tys[0]? = some (cI, FieldType.int)) (n a b : Nat) (hab : a ≤ b) (hbn : b ≤ n) (hn : n < 2 ^ 31) : ps_mV classes l y_Arr_rangeCheck w_Arr_rangeCheck ({ frames := 0, cells := 0, slots := 0, locals := 0 }) (dC, dI) tys [.int (nI n), .int (nI a), .int (nI b)] ([]) (fun u => u = []) := by
  refine ps_mV_of (by decide) rfl (Nat.le_of_ble_eq_true rfl) ?_
  intro p e s m below meth c A ls C0 hA hK hP hD hS hl
  obtain ⟨hx, hb, hr, hml, hts, hown, hlocks, hin⟩ := C0
  have hl : lv_has ls 3 [(0, .int (nI n)), (1, .int (nI a)), (2, .int (nI b))] := hl
  have hP : va_P (dC, dI) classes [] s.heap := hP
  have hD : va_D A [] := hD
  refine lv_iload_n hx hb d_Arr_rangeCheck_0 rfl (lv_at hl 1 rfl) ?_
  refine lv_iload_n hx hb d_Arr_rangeCheck_1 rfl (lv_at hl 2 rfl) ?_
  refine lv_icmp_le (tgt := 46) hx hb d_Arr_rangeCheck_2 (by decide) (fun c_1 => ?_) (fun c_1 => ?_)
  · have c_1 : a ≤ b := (nI_leI (by omega) (by omega)).mp c_1
    refine lv_iload_n hx hb d_Arr_rangeCheck_46 rfl (lv_at hl 1 rfl) ?_
    refine lv_if_ge (tgt := 59) hx hb d_Arr_rangeCheck_47 (by decide) (fun c_2 => ?_) (fun c_2 => ?_)
    · refine lv_iload_n hx hb d_Arr_rangeCheck_59 rfl (lv_at hl 2 rfl) ?_
      refine lv_iload_n hx hb d_Arr_rangeCheck_60 rfl (lv_at hl 0 rfl) ?_
      refine lv_icmp_le (tgt := 73) hx hb d_Arr_rangeCheck_61 (by decide) (fun c_3 => ?_) (fun c_3 => ?_)
      · have c_3 : b ≤ n := (nI_leI (by omega) (by omega)).mp c_3
        exact ps_vret hx hb hr hlocks hK hP hD hS (Nat.le_of_ble_eq_true rfl) (Nat.le_of_ble_eq_true rfl) d_Arr_rangeCheck_73 rfl
      · have c_3 : ¬ b ≤ n := fun q => c_3 ((nI_leI (by omega) (by omega)).mpr q)
        exact absurd hbn c_3
    · exact absurd (nI_pos' (by omega)) c_2
  · have c_1 : ¬ a ≤ b := fun q => c_1 ((nI_leI (by omega) (by omega)).mpr q)
    exact absurd hab c_1

set_option maxHeartbeats 4000000 in
set_option maxRecDepth 100000 in
/-- Arrays.fill: places a .. b-1 become x -/
theorem c_fill (l : Launch) (dC : Nat → ClassId) (dI : Nat → Nat → Nat) (cI : ClassId) (tys : List (ClassId × FieldType)) (ht : tys[0]? = some (cI, FieldType.int)) (q n : Nat) (f : Nat → Int32) (a b : Nat) (x : Int32) (hab : a ≤ b) (hbn : b ≤ n) (hn : n < 2 ^ 31) : ps_mV classes l y_Arr_fill w_Arr_fill ({ frames := 1, cells := 0, slots := 0, locals := 22 }) (dC, dI) tys [.ref q, .int (nI a), .int (nI b), .int x] ([(q, .inl (cI, n, .inl f))]) (fun u => u = [(q, .inl (cI, n, .inl (ps_fil f a b x)))]) := by
  refine ps_mV_of (by decide) rfl (Nat.le_of_ble_eq_true rfl) ?_
  intro p e s m below meth c A ls C0 hA hK hP hD hS hl
  obtain ⟨hx, hb, hr, hml, hts, hown, hlocks, hin⟩ := C0
  have hl : lv_has ls 5 [(0, .ref q), (1, .int (nI a)), (2, .int (nI b)), (3, .int x)] := hl
  have hP : va_P (dC, dI) classes [(q, .inl (cI, n, .inl f))] s.heap := hP
  have hD : va_D A [(q, .inl (cI, n, .inl f))] := hD
  refine lv_aload_n hx hb d_Arr_fill_0 rfl (lv_at hl 0 rfl) ?_
  refine va_alen hx hb hK hP 0 0 rfl ht (v := nI n) rfl d_Arr_fill_1 ?_
  refine lv_iload_n hx hb d_Arr_fill_2 rfl (lv_at hl 1 rfl) ?_
  refine lv_iload_n hx hb d_Arr_fill_3 rfl (lv_at hl 2 rfl) ?_
  refine ps_afterV (wc := []) (wr := [0].filterMap (fun z9 => ([(q, .inl (cI, n, .inl f))] : va_W)[z9]?)) hP hD hS hA [] [0] rfl rfl (by decide) (by decide) (ps_runSV ⟨hx, hb, hml, hown, hts⟩ (c_rangeCheck l dC dI cI tys ht n a b hab hbn hn) (ps_cwS ps_gd 3 hts tw_0 k_Arr_rangeCheck e_Arr_rangeCheck ⟨Nat.le_of_ble_eq_true rfl, Nat.le_of_ble_eq_true rfl⟩) hK hP hD [] (by decide) rfl rfl hl.1 rfl (Nat.le_of_ble_eq_true rfl) d_Arr_fill_4 ⟨Nat.zero_le _, Nat.zero_le _⟩) (fun u_1 H locs hu_1 hP hD hS => ?_)
  subst hu_1
  obtain ⟨hP, hD⟩ := ps_perm (ws' := [(q, .inl (cI, n, .inl f))]) hP hD [0] (by decide) rfl
  refine lv_iload_n hx hb d_Arr_fill_7 rfl (lv_at hl 1 rfl) ?_
  refine lv_istore (lv' := [(4, .int (nI a)), (0, .ref q), (1, .int (nI a)), (2, .int (nI b)), (3, .int x)]) hx hb d_Arr_fill_8 hl (by decide) rfl (fun ls hl => ?_)
  refine ps_loop (α := Nat) (fun i => 0) (fun i => 0) (fun i => b - i) (fun i H locs ls => lv_has ls 5 [(4, .int (nI i)), (0, .ref q), (1, .int (nI a)), (2, .int (nI b)), (3, .int x)] ∧ va_P (dC, dI) classes [(q, .inl (cI, n, .inl (ps_fil f a i x)))] H ∧ va_D A [(q, .inl (cI, n, .inl (ps_fil f a i x)))] ∧ va_S A s.heap H locs ∧ a ≤ i ∧ i ≤ b) ?_ a _ _ ls ⟨lv_sub hl [0, 1, 2, 3, 4] rfl, by rw [ps_fil_0]; exact hP, by rw [ps_fil_0]; exact hD, hS, Nat.le_refl a, hab⟩
  intro i H locs ls hI ih
  obtain ⟨hl, hP, hD, hS, hai, hib⟩ := hI
  refine lv_iload hx hb d_Arr_fill_10 (lv_at hl 0 rfl) ?_
  refine lv_iload_n hx hb d_Arr_fill_12 rfl (lv_at hl 3 rfl) ?_
  refine lv_icmp_ge (tgt := 27) hx hb d_Arr_fill_13 (by decide) (fun c_3 => ?_) (fun c_3 => ?_)
  · have c_3 : b ≤ i := (nI_leI (by omega) (by omega)).mp c_3
    have hi : i = b := by omega
    subst hi
    exact ps_vret hx hb hr hlocks hK hP hD hS (Nat.le_of_ble_eq_true rfl) (Nat.le_of_ble_eq_true rfl) d_Arr_fill_27 rfl
  · have c_3 : ¬ b ≤ i := fun q => c_3 ((nI_leI (by omega) (by omega)).mpr q)
    refine lv_aload_n hx hb d_Arr_fill_16 rfl (lv_at hl 1 rfl) ?_
    refine lv_iload hx hb d_Arr_fill_17 (lv_at hl 0 rfl) ?_
    refine lv_iload_n hx hb d_Arr_fill_19 rfl (lv_at hl 4 rfl) ?_
    refine va_iast hx hb hK hP hD hS 0 0 rfl ht (vp_in_nI (by omega) hn) d_Arr_fill_20 (fun H locs hP hD hS => ?_)
    rw [nI_clamp (show i < 2 ^ 31 by omega)] at hP hD
    rw [ps_fil_s hai] at hP hD
    have hP : va_P (dC, dI) classes [(q, .inl (cI, n, .inl (ps_fil f a (i + 1) x)))] H := hP
    have hD : va_D A [(q, .inl (cI, n, .inl (ps_fil f a (i + 1) x)))] := hD
    refine lv_iinc (v := nI (i + 1)) (lv' := [(4, .int (nI (i + 1))), (0, .ref q), (1, .int (nI a)), (2, .int (nI b)), (3, .int x)]) hx hb d_Arr_fill_21 hl (k := 0) rfl (nI_1 i) (by decide) rfl (fun ls hl => ?_)
    refine lv_goto (tgt := 10) hx hb d_Arr_fill_24 (by decide) ?_
    exact ih (i + 1) _ _ ls (by omega) ⟨lv_sub hl [0, 1, 2, 3, 4] rfl, hP, hD, hS, by omega, by omega⟩

set_option maxHeartbeats 4000000 in
set_option maxRecDepth 100000 in
/-- Arrays.copyOf to a longer array: the same row, 0 from n on -/
theorem c_copyOf (l : Launch) (dC : Nat → ClassId) (dI : Nat → Nat → Nat) (cI : ClassId) (tys : List (ClassId × FieldType)) (ht : tys[0]? = some (cI, FieldType.int)) (q n : Nat) (f : Nat → Int32) (k : Nat) (hz : ps_Z n f) (hnk : n < k) (hk : k < 100000000) : ps_mR classes l y_Arr_copyOf w_Arr_copyOf ({ frames := 1, cells := 1, slots := k, locals := 18 }) (dC, dI) tys [.ref q, .int (nI k)] ([(q, .inl (cI, n, .inl f))]) (fun r u => u = [(q, .inl (cI, n, .inl f)), (r, .inl (cI, k, .inl f))]) := by
  refine ps_mR_of (by decide) rfl (Nat.le_of_ble_eq_true rfl) ?_
  intro p e s m below meth c A ls C0 hA hK hP hD hS hl
  obtain ⟨hx, hb, hr, hml, hts, hown, hlocks, hin⟩ := C0
  have hl : lv_has ls 3 [(0, .ref q), (1, .int (nI k))] := hl
  have hP : va_P (dC, dI) classes [(q, .inl (cI, n, .inl f))] s.heap := hP
  have hD : va_D A [(q, .inl (cI, n, .inl f))] := hD
  refine lv_iload_n hx hb d_Arr_copyOf_0 rfl (lv_at hl 1 rfl) ?_
  refine lv_aload_n hx hb d_Arr_copyOf_1 rfl (lv_at hl 0 rfl) ?_
  refine va_alen hx hb hK hP 0 0 rfl ht (v := nI n) rfl d_Arr_copyOf_2 ?_
  refine lv_icmp_ne (tgt := 14) hx hb d_Arr_copyOf_3 (by decide) (fun c_1 => ?_) (fun c_1 => ?_)
  · have c_1 : ¬ k = n := fun q => c_1 ((nI_eq (by omega) (by omega)).mpr q)
    refine lv_iload_n hx hb d_Arr_copyOf_14 rfl (lv_at hl 1 rfl) ?_
    refine ps_newi hx hb (hts _ tw_1) hK 0 ht hP hD hS hA hk (Nat.le_of_ble_eq_true rfl) (by show 0 + k ≤ k; omega) d_Arr_copyOf_15 (fun q2 H hP hD hS => ?_)
    have hP : va_P (dC, dI) classes [(q, .inl (cI, n, .inl f)), (q2, .inl (cI, k, .inl (fun _ => 0)))] H := hP
    have hD : va_D A [(q, .inl (cI, n, .inl f)), (q2, .inl (cI, k, .inl (fun _ => 0)))] := hD
    refine lv_astore_n (lv' := [(2, .ref q2), (0, .ref q), (1, .int (nI k))]) hx hb d_Arr_copyOf_17 rfl hl (by decide) rfl (fun ls hl => ?_)
    refine lv_aload_n hx hb d_Arr_copyOf_18 rfl (lv_at hl 1 rfl) ?_
    refine lv_iconst (v := nI 0) hx hb d_Arr_copyOf_19 (by decide) ?_
    refine lv_aload_n hx hb d_Arr_copyOf_20 rfl (lv_at hl 0 rfl) ?_
    refine lv_iconst (v := nI 0) hx hb d_Arr_copyOf_21 (by decide) ?_
    refine lv_aload_n hx hb d_Arr_copyOf_22 rfl (lv_at hl 1 rfl) ?_
    refine va_alen hx hb hK hP 0 0 rfl ht (v := nI n) rfl d_Arr_copyOf_23 ?_
    refine lv_iload_n hx hb d_Arr_copyOf_24 rfl (lv_at hl 2 rfl) ?_
    refine va_mmin hx hb (by rw [hml]; exact hl.1.symm) hown (hts _ tw_2) (hts _ tw_3) (hts _ tw_4) (hts _ tw_5) (Nat.le_of_ble_eq_true rfl) (Nat.le_of_ble_eq_true rfl) (Nat.le_of_ble_eq_true rfl) (by show 0 + k ≤ k; omega) d_Arr_copyOf_25 ?_
    refine ps_top (z := nI (min n k)) (ps_min (by omega) (by omega)) ?_
    rw [Nat.min_eq_left (Nat.le_of_lt hnk)]
    refine va_copyi hx hb (by rw [hml]; exact hl.1.symm) hown (hts _ tw_6) (hts _ tw_7) (hts _ tw_8) (hts _ tw_9) hK hP hD hS 0 1 0 0 rfl rfl ht ht rfl (nI_pos (by decide)) (nI_pos (by decide)) (nI_pos (by omega)) (by rw [nI_clamp (by decide), nI_clamp (by omega)]; omega) (by rw [nI_clamp (by decide), nI_clamp (by omega)]; omega) (fun _ _ => rfl) (Nat.le_of_ble_eq_true rfl) (Nat.le_of_ble_eq_true rfl) d_Arr_copyOf_28 (fun H locs hP hD hS => ?_)
    rw [nI_clamp (show 0 < 2 ^ 31 by decide), nI_clamp (show n < 2 ^ 31 by omega), ps_cpy hz] at hP hD
    have hP : va_P (dC, dI) classes [(q, .inl (cI, n, .inl f)), (q2, .inl (cI, k, .inl f))] H := hP
    have hD : va_D A [(q, .inl (cI, n, .inl f)), (q2, .inl (cI, k, .inl f))] := hD
    refine lv_aload_n hx hb d_Arr_copyOf_31 rfl (lv_at hl 0 rfl) ?_
    exact ps_aret hx hb hr (Or.inr ⟨_, rfl⟩) hlocks hK hP hD hS (Nat.le_of_ble_eq_true rfl) (by show 0 + k ≤ k; omega) d_Arr_copyOf_32 rfl
  · have c_1 : k = n := (nI_eq (by omega) (by omega)).mp c_1
    exact absurd c_1 (by omega)

set_option maxHeartbeats 4000000 in
set_option maxRecDepth 100000 in
/-- Column.at -/
theorem c_at (l : Launch) (dC : Nat → ClassId) (dI : Nat → Nat → Nat) (cI : ClassId) (tys : List (ClassId × FieldType)) (ht : tys[0]? = some (cI, FieldType.int)) (h q lim n : Nat) (f : Nat → Int32) (i : Nat) (hz : ps_Z n f) (hn : n < 2 ^ 31) (hi : i < 2 ^ 31) : ps_mI classes l y_Col_at w_Col_at ({ frames := 0, cells := 0, slots := 0, locals := 0 }) (dC, dI) tys [.ref h, .int (nI i)] (pc_W cI h q lim n f) (fun r u => u = pc_W cI h q lim n f ∧ r = f i) := by
  refine ps_mI_of (by decide) rfl (Nat.le_of_ble_eq_true rfl) ?_
  intro p e s m below meth c A ls C0 hA hK hP hD hS hl
  obtain ⟨hx, hb, hr, hml, hts, hown, hlocks, hin⟩ := C0
  have hl : lv_has ls 2 [(0, .ref h), (1, .int (nI i))] := hl
  have hP : va_P (dC, dI) classes [(h, .inr (cCol, [.int (nI lim), .ref q])), (q, .inl (cI, n, .inl f))] s.heap := hP
  have hD : va_D A [(h, .inr (cCol, [.int (nI lim), .ref q])), (q, .inl (cI, n, .inl f))] := hD
  refine lv_iload_n hx hb d_Col_at_0 rfl (lv_at hl 1 rfl) ?_
  refine lv_if_lt (tgt := 22) hx hb d_Col_at_1 (by decide) (fun c_1 => ?_) (fun c_1 => ?_)
  · exact absurd c_1 (nI_pos (by omega))
  · refine lv_iload_n hx hb d_Col_at_4 rfl (lv_at hl 1 rfl) ?_
    refine lv_aload_n hx hb d_Col_at_5 rfl (lv_at hl 0 rfl) ?_
    refine va_get (D := (dC, dI)) (ci := cCol) (v := .ref q) (C := R_Col) (T := F_Col) (N := 2) hx hb hts i_Col hown hK hP 0 rfl rfl 1 (by decide) (hts _ tw_10) (fun _ h9 => h9) rfl d_Col_at_6 ?_
    refine va_alen hx hb hK hP 1 0 rfl ht (v := nI n) rfl d_Col_at_9 ?_
    refine lv_icmp_ge (tgt := 22) hx hb d_Col_at_10 (by decide) (fun c_2 => ?_) (fun c_2 => ?_)
    · have c_2 : n ≤ i := (nI_leI (by omega) (by omega)).mp c_2
      refine lv_iconst (v := 0) hx hb d_Col_at_22 (by decide) ?_
      exact ps_iret hx hb hr hlocks hK hP hD hS (Nat.le_of_ble_eq_true rfl) (Nat.le_of_ble_eq_true rfl) d_Col_at_23 (⟨rfl, (hz i (by omega)).symm⟩)
    · have c_2 : ¬ n ≤ i := fun q => c_2 ((nI_leI (by omega) (by omega)).mpr q)
      refine lv_aload_n hx hb d_Col_at_13 rfl (lv_at hl 0 rfl) ?_
      refine va_get (D := (dC, dI)) (ci := cCol) (v := .ref q) (C := R_Col) (T := F_Col) (N := 2) hx hb hts i_Col hown hK hP 0 rfl rfl 1 (by decide) (hts _ tw_10) (fun _ h9 => h9) rfl d_Col_at_14 ?_
      refine lv_iload_n hx hb d_Col_at_17 rfl (lv_at hl 1 rfl) ?_
      refine va_iald hx hb hK hP 1 0 rfl ht (vp_in_nI (by omega) hn) d_Col_at_18 ?_
      refine ps_top (z := f i) (by rw [nI_clamp hi]) ?_
      refine lv_goto (tgt := 23) hx hb d_Col_at_19 (by decide) ?_
      exact ps_iret hx hb hr hlocks hK hP hD hS (Nat.le_of_ble_eq_true rfl) (Nat.le_of_ble_eq_true rfl) d_Col_at_23 (⟨rfl, rfl⟩)

set_option maxHeartbeats 4000000 in
set_option maxRecDepth 100000 in
/-- Column.put -/
theorem c_put (l : Launch) (dC : Nat → ClassId) (dI : Nat → Nat → Nat) (cI : ClassId) (tys : List (ClassId × FieldType)) (ht : tys[0]? = some (cI, FieldType.int)) (h q lim n : Nat) (f : Nat → Int32) (i : Nat) (x : Int32) (hz : ps_Z n f) (hlim : lim ≤ 65536) (hn : n ≤ lim) (hi : i < lim) : ps_mV classes l y_Col_put w_Col_put ({ frames := 2, cells := ps_dc lim n i, slots := ps_ds lim n i, locals := 40 }) (dC, dI) tys [.ref h, .int (nI i), .int x] (pc_W cI h q lim n f) (fun u => ∃ q1 : Nat, u = pc_W cI h q1 lim (ps_len lim n i) (upd f i x)) := by
  refine ps_mV_of (by decide) rfl (Nat.le_of_ble_eq_true rfl) ?_
  intro p e s m below meth c A ls C0 hA hK hP hD hS hl
  obtain ⟨hx, hb, hr, hml, hts, hown, hlocks, hin⟩ := C0
  have hl : lv_has ls 4 [(0, .ref h), (1, .int (nI i)), (2, .int x)] := hl
  have hP : va_P (dC, dI) classes [(h, .inr (cCol, [.int (nI lim), .ref q])), (q, .inl (cI, n, .inl f))] s.heap := hP
  have hD : va_D A [(h, .inr (cCol, [.int (nI lim), .ref q])), (q, .inl (cI, n, .inl f))] := hD
  refine lv_iload_n hx hb d_Col_put_0 rfl (lv_at hl 1 rfl) ?_
  refine lv_if_lt (tgt := 12) hx hb d_Col_put_1 (by decide) (fun c_1 => ?_) (fun c_1 => ?_)
  · exact absurd c_1 (nI_pos (by omega))
  · refine lv_iload_n hx hb d_Col_put_4 rfl (lv_at hl 1 rfl) ?_
    refine lv_aload_n hx hb d_Col_put_5 rfl (lv_at hl 0 rfl) ?_
    refine va_get (D := (dC, dI)) (ci := cCol) (v := .int (nI lim)) (C := R_Col) (T := F_Col) (N := 2) hx hb hts i_Col hown hK hP 0 rfl rfl 0 (by decide) (hts _ tw_11) (fun _ h9 => h9) rfl d_Col_put_6 ?_
    refine lv_icmp_lt (tgt := 13) hx hb d_Col_put_9 (by decide) (fun c_2 => ?_) (fun c_2 => ?_)
    · have c_2 : i < lim := (nI_ltI (by omega) (by omega)).mp c_2
      refine lv_iload_n hx hb d_Col_put_13 rfl (lv_at hl 1 rfl) ?_
      refine lv_aload_n hx hb d_Col_put_14 rfl (lv_at hl 0 rfl) ?_
      refine va_get (D := (dC, dI)) (ci := cCol) (v := .ref q) (C := R_Col) (T := F_Col) (N := 2) hx hb hts i_Col hown hK hP 0 rfl rfl 1 (by decide) (hts _ tw_10) (fun _ h9 => h9) rfl d_Col_put_15 ?_
      refine va_alen hx hb hK hP 1 0 rfl ht (v := nI n) rfl d_Col_put_18 ?_
      refine lv_icmp_lt (tgt := 65) hx hb d_Col_put_19 (by decide) (fun c_3 => ?_) (fun c_3 => ?_)
      · have c_3 : i < n := (nI_ltI (by omega) (by omega)).mp c_3
        refine lv_aload_n hx hb d_Col_put_65 rfl (lv_at hl 0 rfl) ?_
        refine va_get (D := (dC, dI)) (ci := cCol) (v := .ref q) (C := R_Col) (T := F_Col) (N := 2) hx hb hts i_Col hown hK hP 0 rfl rfl 1 (by decide) (hts _ tw_10) (fun _ h9 => h9) rfl d_Col_put_66 ?_
        refine lv_iload_n hx hb d_Col_put_69 rfl (lv_at hl 1 rfl) ?_
        refine lv_iload_n hx hb d_Col_put_70 rfl (lv_at hl 2 rfl) ?_
        refine va_iast hx hb hK hP hD hS 1 0 rfl ht (vp_in_nI (by omega) (by omega)) d_Col_put_71 (fun H locs hP hD hS => ?_)
        rw [nI_clamp (show i < 2 ^ 31 by omega)] at hP hD
        have hP : va_P (dC, dI) classes [(h, .inr (cCol, [.int (nI lim), .ref q])), (q, .inl (cI, n, .inl (upd f i x)))] H := hP
        have hD : va_D A [(h, .inr (cCol, [.int (nI lim), .ref q])), (q, .inl (cI, n, .inl (upd f i x)))] := hD
        exact ps_vret hx hb hr hlocks hK hP hD hS (Nat.zero_le _) (Nat.zero_le _) d_Col_put_72 (⟨q, by unfold ps_len; rw [if_pos (by omega)]; rfl⟩)
      · have c_3 : ¬ i < n := fun q => c_3 ((nI_ltI (by omega) (by omega)).mpr q)
        refine lv_iload_n hx hb d_Col_put_22 rfl (lv_at hl 1 rfl) ?_
        refine lv_iconst (v := nI 1) hx hb d_Col_put_23 (by decide) ?_
        refine lv_iadd hx hb d_Col_put_24 ?_
        refine ps_top (z := nI (i + 1)) (nI_add _ _) ?_
        refine lv_iconst (v := nI 2) hx hb d_Col_put_25 (by decide) ?_
        refine lv_aload_n hx hb d_Col_put_26 rfl (lv_at hl 0 rfl) ?_
        refine va_get (D := (dC, dI)) (ci := cCol) (v := .ref q) (C := R_Col) (T := F_Col) (N := 2) hx hb hts i_Col hown hK hP 0 rfl rfl 1 (by decide) (hts _ tw_10) (fun _ h9 => h9) rfl d_Col_put_27 ?_
        refine va_alen hx hb hK hP 1 0 rfl ht (v := nI n) rfl d_Col_put_30 ?_
        refine lv_imul hx hb d_Col_put_31 ?_
        refine ps_top (z := nI (2 * n)) (pk_mul _ _) ?_
        refine va_mmax hx hb (by rw [hml]; exact hl.1.symm) hown (hts _ tw_12) (hts _ tw_13) (hts _ tw_4) (hts _ tw_14) (Nat.le_of_ble_eq_true rfl) (Nat.le_of_ble_eq_true rfl) (Nat.zero_le _) (Nat.zero_le _) d_Col_put_32 ?_
        refine ps_top (z := nI (max (i + 1) (2 * n))) (ps_max (by omega) (by omega)) ?_
        refine lv_istore_n (lv' := [(3, .int (nI (max (i + 1) (2 * n)))), (0, .ref h), (1, .int (nI i)), (2, .int x)]) hx hb d_Col_put_35 rfl hl (by decide) rfl (fun ls hl => ?_)
        refine lv_aload_n hx hb d_Col_put_36 rfl (lv_at hl 1 rfl) ?_
        refine lv_aload_n hx hb d_Col_put_37 rfl (lv_at hl 1 rfl) ?_
        refine va_get (D := (dC, dI)) (ci := cCol) (v := .ref q) (C := R_Col) (T := F_Col) (N := 2) hx hb hts i_Col hown hK hP 0 rfl rfl 1 (by decide) (hts _ tw_10) (fun _ h9 => h9) rfl d_Col_put_38 ?_
        refine lv_iload_n hx hb d_Col_put_41 rfl (lv_at hl 0 rfl) ?_
        refine lv_aload_n hx hb d_Col_put_42 rfl (lv_at hl 1 rfl) ?_
        refine va_get (D := (dC, dI)) (ci := cCol) (v := .int (nI lim)) (C := R_Col) (T := F_Col) (N := 2) hx hb hts i_Col hown hK hP 0 rfl rfl 0 (by decide) (hts _ tw_11) (fun _ h9 => h9) rfl d_Col_put_43 ?_
        refine lv_iconst (v := nI 2) hx hb d_Col_put_46 (by decide) ?_
        refine lv_idiv hx hb d_Col_put_47 (by decide) ?_
        refine ps_top (z := nI (lim / 2)) (pk_div (by omega) (by omega) (by omega)) ?_
        refine lv_icmp_le (tgt := 58) hx hb d_Col_put_48 (by decide) (fun c_4 => ?_) (fun c_4 => ?_)
        · have c_4 : max (i + 1) (2 * n) ≤ lim / 2 := (nI_leI (by omega) (by omega)).mp c_4
          have hk0 : ps_len lim n i = max (i + 1) (2 * n) := ps_len_lo (by omega) c_4
          refine lv_iload_n hx hb d_Col_put_58 rfl (lv_at hl 0 rfl) ?_
          refine ps_afterR (wc := [(q, .inl (cI, n, .inl f))]) (wr := [0].filterMap (fun z9 => ([(h, .inr (cCol, [.int (nI lim), .ref q])), (q, .inl (cI, n, .inl f))] : va_W)[z9]?)) hP hD hS hA [1] [0] rfl rfl (by decide) (by decide) (ps_runSR ⟨hx, hb, hml, hown, hts⟩ (c_copyOf l dC dI cI tys ht q n f (max (i + 1) (2 * n)) hz (by omega) (by omega)) (ps_cwS ps_gd 2 hts tw_15 k_Arr_copyOf e_Arr_copyOf ⟨Nat.le_of_ble_eq_true rfl, Nat.le_of_ble_eq_true rfl⟩) hK hP hD [1] (by decide) rfl rfl hl.1 rfl (Nat.le_of_ble_eq_true rfl) d_Col_put_59 ⟨by have h1 := ps_pay hn hi (by omega); show 0 + 1 ≤ ps_dc lim n i; omega, by have h1 := ps_pay hn hi (by omega); show 0 + (max (i + 1) (2 * n)) ≤ ps_ds lim n i; omega⟩) (fun r_6 u_5 H locs hu_5 hP hD hS => ?_)
          subst hu_5
          obtain ⟨hP, hD⟩ := ps_perm (ws' := [(h, .inr (cCol, [.int (nI lim), .ref q])), (q, .inl (cI, n, .inl f)), (r_6, .inl (cI, max (i + 1) (2 * n), .inl f))]) hP hD [0, 1, 2] (by decide) rfl
          refine va_put (D := (dC, dI)) (ci := cCol) (v := .ref r_6) (ty := .array .int) (C := R_Col) (T := F_Col) (N := 2) hx hb hts i_Col t_Col t_Col_ok n_Col hown hK hP hD hS 0 rfl rfl 1 (by decide) (hts _ tw_10) (fun _ h9 => h9) rfl (by decide +kernel) rfl rfl (Nat.le_of_ble_eq_true rfl) d_Col_put_62 (fun H locs hP hD hS => ?_)
          have hP : va_P (dC, dI) classes [(h, .inr (cCol, [.int (nI lim), .ref r_6])), (q, .inl (cI, n, .inl f)), (r_6, .inl (cI, max (i + 1) (2 * n), .inl f))] H := hP
          have hD : va_D A [(h, .inr (cCol, [.int (nI lim), .ref r_6])), (q, .inl (cI, n, .inl f)), (r_6, .inl (cI, max (i + 1) (2 * n), .inl f))] := hD
          refine lv_aload_n hx hb d_Col_put_65 rfl (lv_at hl 1 rfl) ?_
          refine va_get (D := (dC, dI)) (ci := cCol) (v := .ref r_6) (C := R_Col) (T := F_Col) (N := 2) hx hb hts i_Col hown hK hP 0 rfl rfl 1 (by decide) (hts _ tw_10) (fun _ h9 => h9) rfl d_Col_put_66 ?_
          refine lv_iload_n hx hb d_Col_put_69 rfl (lv_at hl 2 rfl) ?_
          refine lv_iload_n hx hb d_Col_put_70 rfl (lv_at hl 3 rfl) ?_
          refine va_iast hx hb hK hP hD hS 2 0 rfl ht (vp_in_nI (by omega) (by omega)) d_Col_put_71 (fun H locs hP hD hS => ?_)
          rw [nI_clamp (show i < 2 ^ 31 by omega)] at hP hD
          have hP : va_P (dC, dI) classes [(h, .inr (cCol, [.int (nI lim), .ref r_6])), (q, .inl (cI, n, .inl f)), (r_6, .inl (cI, max (i + 1) (2 * n), .inl (upd f i x)))] H := hP
          have hD : va_D A [(h, .inr (cCol, [.int (nI lim), .ref r_6])), (q, .inl (cI, n, .inl f)), (r_6, .inl (cI, max (i + 1) (2 * n), .inl (upd f i x)))] := hD
          obtain ⟨hP, hD⟩ := ps_perm (ws' := [(h, .inr (cCol, [.int (nI lim), .ref r_6])), (r_6, .inl (cI, max (i + 1) (2 * n), .inl (upd f i x)))]) hP hD [0, 2] (by decide) rfl
          exact ps_vret hx hb hr hlocks hK hP hD hS (by have h1 := ps_pay hn hi (by omega); show 0 + 1 ≤ ps_dc lim n i; omega) (by have h1 := ps_pay hn hi (by omega); show 0 + (max (i + 1) (2 * n)) ≤ ps_ds lim n i; omega) d_Col_put_72 (⟨r_6, by rw [hk0]; rfl⟩)
        · have c_4 : ¬ max (i + 1) (2 * n) ≤ lim / 2 := fun q => c_4 ((nI_leI (by omega) (by omega)).mpr q)
          have hk0 : ps_len lim n i = lim := ps_len_hi (by omega) hi c_4
          refine lv_aload_n hx hb d_Col_put_51 rfl (lv_at hl 1 rfl) ?_
          refine va_get (D := (dC, dI)) (ci := cCol) (v := .int (nI lim)) (C := R_Col) (T := F_Col) (N := 2) hx hb hts i_Col hown hK hP 0 rfl rfl 0 (by decide) (hts _ tw_11) (fun _ h9 => h9) rfl d_Col_put_52 ?_
          refine lv_goto (tgt := 59) hx hb d_Col_put_55 (by decide) ?_
          refine ps_afterR (wc := [(q, .inl (cI, n, .inl f))]) (wr := [0].filterMap (fun z9 => ([(h, .inr (cCol, [.int (nI lim), .ref q])), (q, .inl (cI, n, .inl f))] : va_W)[z9]?)) hP hD hS hA [1] [0] rfl rfl (by decide) (by decide) (ps_runSR ⟨hx, hb, hml, hown, hts⟩ (c_copyOf l dC dI cI tys ht q n f lim hz (by omega) (by omega)) (ps_cwS ps_gd 2 hts tw_15 k_Arr_copyOf e_Arr_copyOf ⟨Nat.le_of_ble_eq_true rfl, Nat.le_of_ble_eq_true rfl⟩) hK hP hD [1] (by decide) rfl rfl hl.1 rfl (Nat.le_of_ble_eq_true rfl) d_Col_put_59 ⟨by have h1 := ps_pay hn hi (by omega); show 0 + 1 ≤ ps_dc lim n i; omega, by have h1 := ps_pay hn hi (by omega); show 0 + lim ≤ ps_ds lim n i; omega⟩) (fun r_8 u_7 H locs hu_7 hP hD hS => ?_)
          subst hu_7
          obtain ⟨hP, hD⟩ := ps_perm (ws' := [(h, .inr (cCol, [.int (nI lim), .ref q])), (q, .inl (cI, n, .inl f)), (r_8, .inl (cI, lim, .inl f))]) hP hD [0, 1, 2] (by decide) rfl
          refine va_put (D := (dC, dI)) (ci := cCol) (v := .ref r_8) (ty := .array .int) (C := R_Col) (T := F_Col) (N := 2) hx hb hts i_Col t_Col t_Col_ok n_Col hown hK hP hD hS 0 rfl rfl 1 (by decide) (hts _ tw_10) (fun _ h9 => h9) rfl (by decide +kernel) rfl rfl (Nat.le_of_ble_eq_true rfl) d_Col_put_62 (fun H locs hP hD hS => ?_)
          have hP : va_P (dC, dI) classes [(h, .inr (cCol, [.int (nI lim), .ref r_8])), (q, .inl (cI, n, .inl f)), (r_8, .inl (cI, lim, .inl f))] H := hP
          have hD : va_D A [(h, .inr (cCol, [.int (nI lim), .ref r_8])), (q, .inl (cI, n, .inl f)), (r_8, .inl (cI, lim, .inl f))] := hD
          refine lv_aload_n hx hb d_Col_put_65 rfl (lv_at hl 1 rfl) ?_
          refine va_get (D := (dC, dI)) (ci := cCol) (v := .ref r_8) (C := R_Col) (T := F_Col) (N := 2) hx hb hts i_Col hown hK hP 0 rfl rfl 1 (by decide) (hts _ tw_10) (fun _ h9 => h9) rfl d_Col_put_66 ?_
          refine lv_iload_n hx hb d_Col_put_69 rfl (lv_at hl 2 rfl) ?_
          refine lv_iload_n hx hb d_Col_put_70 rfl (lv_at hl 3 rfl) ?_
          refine va_iast hx hb hK hP hD hS 2 0 rfl ht (vp_in_nI (by omega) (by omega)) d_Col_put_71 (fun H locs hP hD hS => ?_)
          rw [nI_clamp (show i < 2 ^ 31 by omega)] at hP hD
          have hP : va_P (dC, dI) classes [(h, .inr (cCol, [.int (nI lim), .ref r_8])), (q, .inl (cI, n, .inl f)), (r_8, .inl (cI, lim, .inl (upd f i x)))] H := hP
          have hD : va_D A [(h, .inr (cCol, [.int (nI lim), .ref r_8])), (q, .inl (cI, n, .inl f)), (r_8, .inl (cI, lim, .inl (upd f i x)))] := hD
          obtain ⟨hP, hD⟩ := ps_perm (ws' := [(h, .inr (cCol, [.int (nI lim), .ref r_8])), (r_8, .inl (cI, lim, .inl (upd f i x)))]) hP hD [0, 2] (by decide) rfl
          exact ps_vret hx hb hr hlocks hK hP hD hS (by have h1 := ps_pay hn hi (by omega); show 0 + 1 ≤ ps_dc lim n i; omega) (by have h1 := ps_pay hn hi (by omega); show 0 + lim ≤ ps_ds lim n i; omega) d_Col_put_72 (⟨r_8, by rw [hk0]; rfl⟩)
    · have c_2 : ¬ i < lim := fun q => c_2 ((nI_ltI (by omega) (by omega)).mpr q)
      exact absurd hi c_2

set_option maxHeartbeats 4000000 in
set_option maxRecDepth 100000 in
/-- Column.wipe -/
theorem c_wipe (l : Launch) (dC : Nat → ClassId) (dI : Nat → Nat → Nat) (cI : ClassId) (tys : List (ClassId × FieldType)) (ht : tys[0]? = some (cI, FieldType.int)) (h q lim n : Nat) (f : Nat → Int32) (a b : Nat) (hz : ps_Z n f) (hn : n < 2 ^ 31) (ha : a < 2 ^ 31) (hb0 : b < 2 ^ 31) : ps_mV classes l y_Col_wipe w_Col_wipe ({ frames := 2, cells := 0, slots := 0, locals := 46 }) (dC, dI) tys [.ref h, .int (nI a), .int (nI b)] (pc_W cI h q lim n f) (fun u => u = pc_W cI h q lim n (ps_fil f a b 0)) := by
  refine ps_mV_of (by decide) rfl (Nat.le_of_ble_eq_true rfl) ?_
  intro p e s m below meth c A ls C0 hA hK hP hD hS hl
  obtain ⟨hx, hb, hr, hml, hts, hown, hlocks, hin⟩ := C0
  have hl : lv_has ls 4 [(0, .ref h), (1, .int (nI a)), (2, .int (nI b))] := hl
  have hP : va_P (dC, dI) classes [(h, .inr (cCol, [.int (nI lim), .ref q])), (q, .inl (cI, n, .inl f))] s.heap := hP
  have hD : va_D A [(h, .inr (cCol, [.int (nI lim), .ref q])), (q, .inl (cI, n, .inl f))] := hD
  refine lv_iload_n hx hb d_Col_wipe_0 rfl (lv_at hl 2 rfl) ?_
  refine lv_aload_n hx hb d_Col_wipe_1 rfl (lv_at hl 0 rfl) ?_
  refine va_get (D := (dC, dI)) (ci := cCol) (v := .ref q) (C := R_Col) (T := F_Col) (N := 2) hx hb hts i_Col hown hK hP 0 rfl rfl 1 (by decide) (hts _ tw_10) (fun _ h9 => h9) rfl d_Col_wipe_2 ?_
  refine va_alen hx hb hK hP 1 0 rfl ht (v := nI n) rfl d_Col_wipe_5 ?_
  refine va_mmin hx hb (by rw [hml]; exact hl.1.symm) hown (hts _ tw_16) (hts _ tw_3) (hts _ tw_4) (hts _ tw_5) (Nat.le_of_ble_eq_true rfl) (Nat.le_of_ble_eq_true rfl) (Nat.zero_le _) (Nat.zero_le _) d_Col_wipe_6 ?_
  refine ps_top (z := nI (min b n)) (ps_min (by omega) (by omega)) ?_
  refine lv_istore_n (lv' := [(3, .int (nI (min b n))), (0, .ref h), (1, .int (nI a)), (2, .int (nI b))]) hx hb d_Col_wipe_9 rfl hl (by decide) rfl (fun ls hl => ?_)
  refine lv_iload_n hx hb d_Col_wipe_10 rfl (lv_at hl 2 rfl) ?_
  refine lv_if_lt (tgt := 29) hx hb d_Col_wipe_11 (by decide) (fun c_1 => ?_) (fun c_1 => ?_)
  · exact absurd c_1 (nI_pos (by omega))
  · refine lv_iload_n hx hb d_Col_wipe_14 rfl (lv_at hl 2 rfl) ?_
    refine lv_iload_n hx hb d_Col_wipe_15 rfl (lv_at hl 0 rfl) ?_
    refine lv_icmp_ge (tgt := 29) hx hb d_Col_wipe_16 (by decide) (fun c_2 => ?_) (fun c_2 => ?_)
    · have c_2 : min b n ≤ a := (nI_leI (by omega) (by omega)).mp c_2
      exact ps_vret hx hb hr hlocks hK hP hD hS (Nat.le_of_ble_eq_true rfl) (Nat.le_of_ble_eq_true rfl) d_Col_wipe_29 (by rw [ps_fil_none hz (by omega)]; rfl)
    · have c_2 : ¬ min b n ≤ a := fun q => c_2 ((nI_leI (by omega) (by omega)).mpr q)
      refine lv_aload_n hx hb d_Col_wipe_19 rfl (lv_at hl 1 rfl) ?_
      refine va_get (D := (dC, dI)) (ci := cCol) (v := .ref q) (C := R_Col) (T := F_Col) (N := 2) hx hb hts i_Col hown hK hP 0 rfl rfl 1 (by decide) (hts _ tw_10) (fun _ h9 => h9) rfl d_Col_wipe_20 ?_
      refine lv_iload_n hx hb d_Col_wipe_23 rfl (lv_at hl 2 rfl) ?_
      refine lv_iload_n hx hb d_Col_wipe_24 rfl (lv_at hl 0 rfl) ?_
      refine lv_iconst (v := 0) hx hb d_Col_wipe_25 (by decide) ?_
      refine ps_afterV (wc := [(q, .inl (cI, n, .inl f))]) (wr := [0].filterMap (fun z9 => ([(h, .inr (cCol, [.int (nI lim), .ref q])), (q, .inl (cI, n, .inl f))] : va_W)[z9]?)) hP hD hS hA [1] [0] rfl rfl (by decide) (by decide) (ps_runSV ⟨hx, hb, hml, hown, hts⟩ (c_fill l dC dI cI tys ht q n f a (min b n) 0 (by omega) (by omega) hn) (ps_cwS ps_gd 4 hts tw_17 k_Arr_fill e_Arr_fill ⟨Nat.le_of_ble_eq_true rfl, Nat.le_of_ble_eq_true rfl⟩) hK hP hD [1] (by decide) rfl rfl hl.1 rfl (Nat.le_of_ble_eq_true rfl) d_Col_wipe_26 ⟨Nat.zero_le _, Nat.zero_le _⟩) (fun u_3 H locs hu_3 hP hD hS => ?_)
      rw [ps_fil_cut hz] at hu_3
      subst hu_3
      obtain ⟨hP, hD⟩ := ps_perm (ws' := [(h, .inr (cCol, [.int (nI lim), .ref q])), (q, .inl (cI, n, .inl (ps_fil f a b 0)))]) hP hD [0, 1] (by decide) rfl
      exact ps_vret hx hb hr hlocks hK hP hD hS (Nat.le_of_ble_eq_true rfl) (Nat.le_of_ble_eq_true rfl) d_Col_wipe_29 rfl
