theorem tw_44 : (.methodLink "PageStore$Keys" 37 ⟨"PageStore$Column", "at", "(I)I"⟩ : Cond) ∈ ps_tbl := ps_t2 73 rfl rfl
theorem tw_45 : (.fieldLink "PageStore$Keys" 29 "PageStore$Keys" "values" "LPageStore$Values;" : Cond) ∈ ps_tbl := ps_t1 91 rfl rfl
theorem tw_46 : (.fieldLink "PageStore$Keys" 49 "PageStore$Values" "kinds" "LPageStore$Column;" : Cond) ∈ ps_tbl := ps_t1 65 rfl rfl
theorem tw_47 : (.methodLink "PageStore$Keys" 45 ⟨"PageStore$Keys", "isThere", "(II)Z"⟩ : Cond) ∈ ps_tbl := ps_t2 92 rfl rfl
theorem tw_48 : (.methodLink "PageStore$Keys" 41 ⟨"PageStore$Keys", "indexOf", "(IIII)I"⟩ : Cond) ∈ ps_tbl := ps_t2 91 rfl rfl
theorem tw_49 : (.instanceMethod ⟨"PageStore$Column", "at", "(I)I"⟩ : Cond) ∈ ps_tbl := ps_t1 225 rfl rfl
theorem tw_50 : (.selects "PageStore$Column" ⟨"PageStore$Column", "at", "(I)I"⟩ ⟨"PageStore$Column", "at", "(I)I"⟩ : Cond) ∈ ps_tbl := ps_t1 226 rfl rfl
theorem tw_51 : (.code ⟨"PageStore$Column", "at", "(I)I"⟩ prog_2_method_2_code 2 (some .int) : Cond) ∈ ps_tbl := ps_t1 227 rfl rfl
theorem tw_52 : (.instanceMethod ⟨"PageStore$Keys", "isThere", "(II)Z"⟩ : Cond) ∈ ps_tbl := ps_t2 94 rfl rfl
theorem tw_53 : (.selects "PageStore$Keys" ⟨"PageStore$Keys", "isThere", "(II)Z"⟩ ⟨"PageStore$Keys", "isThere", "(II)Z"⟩ : Cond) ∈ ps_tbl := ps_ts (y := ⟨"PageStore$Keys", "isThere", "(II)Z"⟩) (n := 4) 11 rfl rfl
theorem tw_54 : (.initialized "PageStore$Keys" : Cond) ∈ ps_tbl := ps_t1 5 rfl rfl
theorem tw_55 : (.code ⟨"PageStore$Keys", "isThere", "(II)Z"⟩ prog_3_method_7_code 3 (some .boolean) : Cond) ∈ ps_tbl := ps_t2 95 rfl rfl
theorem tw_56 : (.instanceMethod ⟨"PageStore$Keys", "indexOf", "(IIII)I"⟩ : Cond) ∈ ps_tbl := ps_t2 70 rfl rfl
theorem tw_57 : (.selects "PageStore$Keys" ⟨"PageStore$Keys", "indexOf", "(IIII)I"⟩ ⟨"PageStore$Keys", "indexOf", "(IIII)I"⟩ : Cond) ∈ ps_tbl := ps_t2 71 rfl rfl
theorem tw_58 : (.code ⟨"PageStore$Keys", "indexOf", "(IIII)I"⟩ prog_3_method_3_code 6 (some .int) : Cond) ∈ ps_tbl := ps_t2 72 rfl rfl
theorem k_Col_at : ps_cdV ps_tbl y_Col_at prog_2_method_2_code 2 (some .int) := ⟨tw_49, tw_50, tw_39, tw_51⟩
theorem k_Key_isThere : ps_cdV ps_tbl y_Key_isThere prog_3_method_7_code 3 (some .boolean) := ⟨tw_52, tw_53, tw_54, tw_55⟩
theorem k_Key_indexOf : ps_cdV ps_tbl y_Key_indexOf prog_3_method_3_code 6 (some .int) := ⟨tw_56, tw_57, tw_54, tw_58⟩
set_option maxHeartbeats 4000000 in
set_option maxRecDepth 100000 in
/-- Keys.isThere -/
theorem c_kis (l : Launch) (dC : Nat → ClassId) (dI : Nat → Nat → Nat) (cI : ClassId) (tys : List (ClassId × FieldType)) (ht : tys[0]? = some (cI, FieldType.int)) (h hv k1 q1 k2 q2 k3 q3 kv qv xv lim n1 n2 n3 nv : Nat) (f1 f2 f3 fv : Nat → Int32) (i : Nat) (d : Int32) (hz1 : ps_Z n1 f1) (hz2 : ps_Z n2 f2) (hz3 : ps_Z n3 f3) (hzv : ps_Z nv fv) (hn1 : n1 < 2 ^ 31) (hn2 : n2 < 2 ^ 31) (hn3 : n3 < 2 ^ 31) (hnv : nv < 2 ^ 31) (hi : i < 2 ^ 31) : ps_mI classes l y_Key_isThere w_Key_isThere ({ frames := 1, cells := 0, slots := 0, locals := 21 }) (dC, dI) tys [.ref h, .int (nI i), .int d] (pq_W cI h hv k1 q1 k2 q2 k3 q3 kv qv xv lim n1 n2 n3 nv f1 f2 f3 fv) (fun r u => u = pq_W cI h hv k1 q1 k2 q2 k3 q3 kv qv xv lim n1 n2 n3 nv f1 f2 f3 fv ∧ r = (if f1 i = d ∧ ¬ fv i = -1 then 1 else 0)) := by
  refine ps_mI_of (by decide) rfl (Nat.le_of_ble_eq_true rfl) ?_
  intro p e s m below meth c A ls C0 hA hK hP hD hS hl
  obtain ⟨hx, hb, hr, hml, hts, hown, hlocks, hin⟩ := C0
  have hl : lv_has ls 3 [(0, .ref h), (1, .int (nI i)), (2, .int d)] := hl
  have hP : va_P (dC, dI) classes [(h, .inr (cKey, [.ref k1, .ref k2, .ref k3, .ref hv])), (k1, .inr (cCol, [.int (nI lim), .ref q1])), (q1, .inl (cI, n1, .inl f1)), (k2, .inr (cCol, [.int (nI lim), .ref q2])), (q2, .inl (cI, n2, .inl f2)), (k3, .inr (cCol, [.int (nI lim), .ref q3])), (q3, .inl (cI, n3, .inl f3)), (hv, .inr (cVal, [.ref kv, .ref xv])), (kv, .inr (cCol, [.int (nI lim), .ref qv])), (qv, .inl (cI, nv, .inl fv))] s.heap := hP
  have hD : va_D A [(h, .inr (cKey, [.ref k1, .ref k2, .ref k3, .ref hv])), (k1, .inr (cCol, [.int (nI lim), .ref q1])), (q1, .inl (cI, n1, .inl f1)), (k2, .inr (cCol, [.int (nI lim), .ref q2])), (q2, .inl (cI, n2, .inl f2)), (k3, .inr (cCol, [.int (nI lim), .ref q3])), (q3, .inl (cI, n3, .inl f3)), (hv, .inr (cVal, [.ref kv, .ref xv])), (kv, .inr (cCol, [.int (nI lim), .ref qv])), (qv, .inl (cI, nv, .inl fv))] := hD
  refine lv_aload_n hx hb d_Key_isThere_0 rfl (lv_at hl 0 rfl) ?_
  refine va_get (D := (dC, dI)) (ci := cKey) (v := .ref k1) (C := R_Key) (T := F_Key) (N := 4) hx hb hts i_Key hown hK hP 0 rfl rfl 0 (by decide) (hts _ tw_33) (fun _ h9 => h9) rfl d_Key_isThere_1 ?_
  refine lv_iload_n hx hb d_Key_isThere_4 rfl (lv_at hl 1 rfl) ?_
  refine ps_readI (wc := [(k1, .inr (cCol, [.int (nI lim), .ref q1])), (q1, .inl (cI, n1, .inl f1))]) hP hD hS hA [1, 2] rfl (fun _ _ h => h.1) (ps_runVI ⟨hx, hb, hml, hown, hts⟩ (c_at l dC dI cI tys ht k1 q1 lim n1 f1 i hz1 hn1 hi) (ps_cwV ps_gd 1 hts tw_44 k_Col_at e_Col_at ⟨Nat.le_of_ble_eq_true rfl, Nat.le_of_ble_eq_true rfl⟩) hK hP hD [1, 2] (by decide) rfl 0 cCol rfl rfl rfl hl.1 rfl (Nat.le_of_ble_eq_true rfl) d_Key_isThere_5 ⟨Nat.zero_le _, Nat.zero_le _⟩) (fun r_1 H locs hr_1 hP hS => ?_)
  obtain ⟨-, hr_1⟩ := hr_1
  subst hr_1
  refine lv_iload_n hx hb d_Key_isThere_8 rfl (lv_at hl 2 rfl) ?_
  refine lv_icmp_ne (tgt := 31) hx hb d_Key_isThere_9 (by decide) (fun c_2 => ?_) (fun c_2 => ?_)
  · refine lv_iconst (v := 0) hx hb d_Key_isThere_31 (by decide) ?_
    exact ps_zret hx hb hr hlocks hK hP hD hS rfl (Nat.le_of_ble_eq_true rfl) (Nat.le_of_ble_eq_true rfl) d_Key_isThere_32 (⟨rfl, (if_neg (fun q => c_2 q.1)).symm⟩)
  · refine lv_aload_n hx hb d_Key_isThere_12 rfl (lv_at hl 0 rfl) ?_
    refine va_get (D := (dC, dI)) (ci := cKey) (v := .ref hv) (C := R_Key) (T := F_Key) (N := 4) hx hb hts i_Key hown hK hP 0 rfl rfl 3 (by decide) (hts _ tw_45) (fun _ h9 => h9) rfl d_Key_isThere_13 ?_
    refine va_get (D := (dC, dI)) (ci := cVal) (v := .ref kv) (C := R_Val) (T := F_Val) (N := 2) hx hb hts i_Val hown hK hP 7 rfl rfl 0 (by decide) (hts _ tw_46) (fun _ h9 => h9) rfl d_Key_isThere_16 ?_
    refine lv_iload_n hx hb d_Key_isThere_19 rfl (lv_at hl 1 rfl) ?_
    refine ps_readI (wc := [(kv, .inr (cCol, [.int (nI lim), .ref qv])), (qv, .inl (cI, nv, .inl fv))]) hP hD hS hA [8, 9] rfl (fun _ _ h => h.1) (ps_runVI ⟨hx, hb, hml, hown, hts⟩ (c_at l dC dI cI tys ht kv qv lim nv fv i hzv hnv hi) (ps_cwV ps_gd 1 hts tw_44 k_Col_at e_Col_at ⟨Nat.le_of_ble_eq_true rfl, Nat.le_of_ble_eq_true rfl⟩) hK hP hD [8, 9] (by decide) rfl 0 cCol rfl rfl rfl hl.1 rfl (Nat.le_of_ble_eq_true rfl) d_Key_isThere_20 ⟨Nat.zero_le _, Nat.zero_le _⟩) (fun r_3 H locs hr_3 hP hS => ?_)
    obtain ⟨-, hr_3⟩ := hr_3
    subst hr_3
    refine lv_iconst (v := (-1)) hx hb d_Key_isThere_23 (by decide) ?_
    refine lv_icmp_eq (tgt := 31) hx hb d_Key_isThere_24 (by decide) (fun c_4 => ?_) (fun c_4 => ?_)
    · refine lv_iconst (v := 0) hx hb d_Key_isThere_31 (by decide) ?_
      exact ps_zret hx hb hr hlocks hK hP hD hS rfl (Nat.le_of_ble_eq_true rfl) (Nat.le_of_ble_eq_true rfl) d_Key_isThere_32 (⟨rfl, (if_neg (fun q => q.2 c_4)).symm⟩)
    · refine lv_iconst (v := 1) hx hb d_Key_isThere_27 (by decide) ?_
      refine lv_goto (tgt := 32) hx hb d_Key_isThere_28 (by decide) ?_
      exact ps_zret hx hb hr hlocks hK hP hD hS rfl (Nat.le_of_ble_eq_true rfl) (Nat.le_of_ble_eq_true rfl) d_Key_isThere_32 (⟨rfl, (if_pos ⟨c_2, c_4⟩).symm⟩)

set_option maxHeartbeats 4000000 in
set_option maxRecDepth 100000 in
/-- Keys.indexOf -/
theorem c_kof (l : Launch) (dC : Nat → ClassId) (dI : Nat → Nat → Nat) (cI : ClassId) (tys : List (ClassId × FieldType)) (ht : tys[0]? = some (cI, FieldType.int)) (h hv k1 q1 k2 q2 k3 q3 kv qv xv lim n1 n2 n3 nv : Nat) (f1 f2 f3 fv : Nat → Int32) (d k x : Int32) (E : Nat) (hz1 : ps_Z n1 f1) (hz2 : ps_Z n2 f2) (hz3 : ps_Z n3 f3) (hzv : ps_Z nv fv) (hn1 : n1 < 2 ^ 31) (hn2 : n2 < 2 ^ 31) (hn3 : n3 < 2 ^ 31) (hnv : nv < 2 ^ 31) (hE : E < 2 ^ 31) : ps_mI classes l y_Key_indexOf w_Key_indexOf ({ frames := 1, cells := 0, slots := 0, locals := 21 }) (dC, dI) tys [.ref h, .int d, .int k, .int x, .int (nI E)] (pq_W cI h hv k1 q1 k2 q2 k3 q3 kv qv xv lim n1 n2 n3 nv f1 f2 f3 fv) (fun r u => u = pq_W cI h hv k1 q1 k2 q2 k3 q3 kv qv xv lim n1 n2 n3 nv f1 f2 f3 fv ∧ ps_fst (fun j => f3 j = x ∧ f2 j = k ∧ f1 j = d) 0 E r) := by
  refine ps_mI_of (by decide) rfl (Nat.le_of_ble_eq_true rfl) ?_
  intro p e s m below meth c A ls C0 hA hK hP hD hS hl
  obtain ⟨hx, hb, hr, hml, hts, hown, hlocks, hin⟩ := C0
  have hl : lv_has ls 6 [(0, .ref h), (1, .int d), (2, .int k), (3, .int x), (4, .int (nI E))] := hl
  have hP : va_P (dC, dI) classes [(h, .inr (cKey, [.ref k1, .ref k2, .ref k3, .ref hv])), (k1, .inr (cCol, [.int (nI lim), .ref q1])), (q1, .inl (cI, n1, .inl f1)), (k2, .inr (cCol, [.int (nI lim), .ref q2])), (q2, .inl (cI, n2, .inl f2)), (k3, .inr (cCol, [.int (nI lim), .ref q3])), (q3, .inl (cI, n3, .inl f3)), (hv, .inr (cVal, [.ref kv, .ref xv])), (kv, .inr (cCol, [.int (nI lim), .ref qv])), (qv, .inl (cI, nv, .inl fv))] s.heap := hP
  have hD : va_D A [(h, .inr (cKey, [.ref k1, .ref k2, .ref k3, .ref hv])), (k1, .inr (cCol, [.int (nI lim), .ref q1])), (q1, .inl (cI, n1, .inl f1)), (k2, .inr (cCol, [.int (nI lim), .ref q2])), (q2, .inl (cI, n2, .inl f2)), (k3, .inr (cCol, [.int (nI lim), .ref q3])), (q3, .inl (cI, n3, .inl f3)), (hv, .inr (cVal, [.ref kv, .ref xv])), (kv, .inr (cCol, [.int (nI lim), .ref qv])), (qv, .inl (cI, nv, .inl fv))] := hD
  refine lv_iconst (v := nI 0) hx hb d_Key_indexOf_0 (by decide) ?_
  refine lv_istore (lv' := [(5, .int (nI 0)), (0, .ref h), (1, .int d), (2, .int k), (3, .int x), (4, .int (nI E))]) hx hb d_Key_indexOf_1 hl (by decide) rfl (fun ls hl => ?_)
  refine ps_loop (α := Nat) (fun i => 0) (fun i => 0) (fun i => E - i) (fun i H locs ls => lv_has ls 6 [(5, .int (nI i)), (0, .ref h), (1, .int d), (2, .int k), (3, .int x), (4, .int (nI E))] ∧ va_P (dC, dI) classes [(h, .inr (cKey, [.ref k1, .ref k2, .ref k3, .ref hv])), (k1, .inr (cCol, [.int (nI lim), .ref q1])), (q1, .inl (cI, n1, .inl f1)), (k2, .inr (cCol, [.int (nI lim), .ref q2])), (q2, .inl (cI, n2, .inl f2)), (k3, .inr (cCol, [.int (nI lim), .ref q3])), (q3, .inl (cI, n3, .inl f3)), (hv, .inr (cVal, [.ref kv, .ref xv])), (kv, .inr (cCol, [.int (nI lim), .ref qv])), (qv, .inl (cI, nv, .inl fv))] H ∧ va_D A [(h, .inr (cKey, [.ref k1, .ref k2, .ref k3, .ref hv])), (k1, .inr (cCol, [.int (nI lim), .ref q1])), (q1, .inl (cI, n1, .inl f1)), (k2, .inr (cCol, [.int (nI lim), .ref q2])), (q2, .inl (cI, n2, .inl f2)), (k3, .inr (cCol, [.int (nI lim), .ref q3])), (q3, .inl (cI, n3, .inl f3)), (hv, .inr (cVal, [.ref kv, .ref xv])), (kv, .inr (cCol, [.int (nI lim), .ref qv])), (qv, .inl (cI, nv, .inl fv))] ∧ va_S A s.heap H locs ∧ i ≤ E ∧ ps_not (fun j => f3 j = x ∧ f2 j = k ∧ f1 j = d) 0 i) ?_ 0 _ _ ls ⟨lv_sub hl [0, 1, 2, 3, 4, 5] rfl, hP, hD, hS, Nat.zero_le _, ps_not0⟩
  intro i H locs ls hI ih
  obtain ⟨hl, hP, hD, hS, hiE, hno⟩ := hI
  refine lv_iload hx hb d_Key_indexOf_3 (lv_at hl 0 rfl) ?_
  refine lv_iload hx hb d_Key_indexOf_5 (lv_at hl 5 rfl) ?_
  refine lv_icmp_ge (tgt := 58) hx hb d_Key_indexOf_7 (by decide) (fun c_1 => ?_) (fun c_1 => ?_)
  · have c_1 : E ≤ i := (nI_leI (by omega) (by omega)).mp c_1
    refine lv_iconst (v := (-1)) hx hb d_Key_indexOf_58 (by decide) ?_
    exact ps_iret hx hb hr hlocks hK hP hD hS (Nat.le_of_ble_eq_true rfl) (Nat.le_of_ble_eq_true rfl) d_Key_indexOf_59 (⟨rfl, ps_fst_n (by omega) hno⟩)
  · have c_1 : ¬ E ≤ i := fun q => c_1 ((nI_leI (by omega) (by omega)).mpr q)
    refine lv_aload_n hx hb d_Key_indexOf_10 rfl (lv_at hl 1 rfl) ?_
    refine va_get (D := (dC, dI)) (ci := cKey) (v := .ref k3) (C := R_Key) (T := F_Key) (N := 4) hx hb hts i_Key hown hK hP 0 rfl rfl 2 (by decide) (hts _ tw_36) (fun _ h9 => h9) rfl d_Key_indexOf_11 ?_
    refine lv_iload hx hb d_Key_indexOf_14 (lv_at hl 0 rfl) ?_
    refine ps_readI (wc := [(k3, .inr (cCol, [.int (nI lim), .ref q3])), (q3, .inl (cI, n3, .inl f3))]) hP hD hS hA [5, 6] rfl (fun _ _ h => h.1) (ps_runVI ⟨hx, hb, hml, hown, hts⟩ (c_at l dC dI cI tys ht k3 q3 lim n3 f3 i hz3 hn3 (by omega)) (ps_cwV ps_gd 1 hts tw_44 k_Col_at e_Col_at ⟨Nat.le_of_ble_eq_true rfl, Nat.le_of_ble_eq_true rfl⟩) hK hP hD [5, 6] (by decide) rfl 0 cCol rfl rfl rfl hl.1 rfl (Nat.le_of_ble_eq_true rfl) d_Key_indexOf_16 ⟨Nat.zero_le _, Nat.zero_le _⟩) (fun r_2 H locs hr_2 hP hS => ?_)
    obtain ⟨-, hr_2⟩ := hr_2
    subst hr_2
    refine lv_iload_n hx hb d_Key_indexOf_19 rfl (lv_at hl 4 rfl) ?_
    refine lv_icmp_ne (tgt := 52) hx hb d_Key_indexOf_20 (by decide) (fun c_3 => ?_) (fun c_3 => ?_)
    · refine lv_iinc (v := nI (i + 1)) (lv' := [(5, .int (nI (i + 1))), (0, .ref h), (1, .int d), (2, .int k), (3, .int x), (4, .int (nI E))]) hx hb d_Key_indexOf_52 hl (k := 0) rfl (nI_1 i) (by decide) rfl (fun ls hl => ?_)
      refine lv_goto (tgt := 3) hx hb d_Key_indexOf_55 (by decide) ?_
      exact ih (i + 1) _ _ ls (by omega) ⟨lv_sub hl [0, 1, 2, 3, 4, 5] rfl, hP, hD, hS, by omega, ps_nots hno (fun q => c_3 q.1)⟩
    · refine lv_aload_n hx hb d_Key_indexOf_23 rfl (lv_at hl 1 rfl) ?_
      refine va_get (D := (dC, dI)) (ci := cKey) (v := .ref k2) (C := R_Key) (T := F_Key) (N := 4) hx hb hts i_Key hown hK hP 0 rfl rfl 1 (by decide) (hts _ tw_35) (fun _ h9 => h9) rfl d_Key_indexOf_24 ?_
      refine lv_iload hx hb d_Key_indexOf_27 (lv_at hl 0 rfl) ?_
      refine ps_readI (wc := [(k2, .inr (cCol, [.int (nI lim), .ref q2])), (q2, .inl (cI, n2, .inl f2))]) hP hD hS hA [3, 4] rfl (fun _ _ h => h.1) (ps_runVI ⟨hx, hb, hml, hown, hts⟩ (c_at l dC dI cI tys ht k2 q2 lim n2 f2 i hz2 hn2 (by omega)) (ps_cwV ps_gd 1 hts tw_44 k_Col_at e_Col_at ⟨Nat.le_of_ble_eq_true rfl, Nat.le_of_ble_eq_true rfl⟩) hK hP hD [3, 4] (by decide) rfl 0 cCol rfl rfl rfl hl.1 rfl (Nat.le_of_ble_eq_true rfl) d_Key_indexOf_29 ⟨Nat.zero_le _, Nat.zero_le _⟩) (fun r_4 H locs hr_4 hP hS => ?_)
      obtain ⟨-, hr_4⟩ := hr_4
      subst hr_4
      refine lv_iload_n hx hb d_Key_indexOf_32 rfl (lv_at hl 3 rfl) ?_
      refine lv_icmp_ne (tgt := 52) hx hb d_Key_indexOf_33 (by decide) (fun c_5 => ?_) (fun c_5 => ?_)
      · refine lv_iinc (v := nI (i + 1)) (lv' := [(5, .int (nI (i + 1))), (0, .ref h), (1, .int d), (2, .int k), (3, .int x), (4, .int (nI E))]) hx hb d_Key_indexOf_52 hl (k := 0) rfl (nI_1 i) (by decide) rfl (fun ls hl => ?_)
        refine lv_goto (tgt := 3) hx hb d_Key_indexOf_55 (by decide) ?_
        exact ih (i + 1) _ _ ls (by omega) ⟨lv_sub hl [0, 1, 2, 3, 4, 5] rfl, hP, hD, hS, by omega, ps_nots hno (fun q => c_5 q.2.1)⟩
      · refine lv_aload_n hx hb d_Key_indexOf_36 rfl (lv_at hl 1 rfl) ?_
        refine va_get (D := (dC, dI)) (ci := cKey) (v := .ref k1) (C := R_Key) (T := F_Key) (N := 4) hx hb hts i_Key hown hK hP 0 rfl rfl 0 (by decide) (hts _ tw_33) (fun _ h9 => h9) rfl d_Key_indexOf_37 ?_
        refine lv_iload hx hb d_Key_indexOf_40 (lv_at hl 0 rfl) ?_
        refine ps_readI (wc := [(k1, .inr (cCol, [.int (nI lim), .ref q1])), (q1, .inl (cI, n1, .inl f1))]) hP hD hS hA [1, 2] rfl (fun _ _ h => h.1) (ps_runVI ⟨hx, hb, hml, hown, hts⟩ (c_at l dC dI cI tys ht k1 q1 lim n1 f1 i hz1 hn1 (by omega)) (ps_cwV ps_gd 1 hts tw_44 k_Col_at e_Col_at ⟨Nat.le_of_ble_eq_true rfl, Nat.le_of_ble_eq_true rfl⟩) hK hP hD [1, 2] (by decide) rfl 0 cCol rfl rfl rfl hl.1 rfl (Nat.le_of_ble_eq_true rfl) d_Key_indexOf_42 ⟨Nat.zero_le _, Nat.zero_le _⟩) (fun r_6 H locs hr_6 hP hS => ?_)
        obtain ⟨-, hr_6⟩ := hr_6
        subst hr_6
        refine lv_iload_n hx hb d_Key_indexOf_45 rfl (lv_at hl 2 rfl) ?_
        refine lv_icmp_ne (tgt := 52) hx hb d_Key_indexOf_46 (by decide) (fun c_7 => ?_) (fun c_7 => ?_)
        · refine lv_iinc (v := nI (i + 1)) (lv' := [(5, .int (nI (i + 1))), (0, .ref h), (1, .int d), (2, .int k), (3, .int x), (4, .int (nI E))]) hx hb d_Key_indexOf_52 hl (k := 0) rfl (nI_1 i) (by decide) rfl (fun ls hl => ?_)
          refine lv_goto (tgt := 3) hx hb d_Key_indexOf_55 (by decide) ?_
          exact ih (i + 1) _ _ ls (by omega) ⟨lv_sub hl [0, 1, 2, 3, 4, 5] rfl, hP, hD, hS, by omega, ps_nots hno (fun q => c_7 q.2.2)⟩
        · refine lv_iload hx hb d_Key_indexOf_49 (lv_at hl 0 rfl) ?_
          exact ps_iret hx hb hr hlocks hK hP hD hS (Nat.le_of_ble_eq_true rfl) (Nat.le_of_ble_eq_true rfl) d_Key_indexOf_51 (⟨rfl, ps_fst_y (Nat.zero_le _) (by omega) ⟨c_3, c_5, c_7⟩ hno⟩)

set_option maxHeartbeats 4000000 in
set_option maxRecDepth 100000 in
/-- Keys.firstThere -/
theorem c_kfirst (l : Launch) (dC : Nat → ClassId) (dI : Nat → Nat → Nat) (cI : ClassId) (tys : List (ClassId × FieldType)) (ht : tys[0]? = some (cI, FieldType.int)) (h hv k1 q1 k2 q2 k3 q3 kv qv xv lim n1 n2 n3 nv : Nat) (f1 f2 f3 fv : Nat → Int32) (d : Int32) (a E : Nat) (hz1 : ps_Z n1 f1) (hz2 : ps_Z n2 f2) (hz3 : ps_Z n3 f3) (hzv : ps_Z nv fv) (hn1 : n1 < 2 ^ 31) (hn2 : n2 < 2 ^ 31) (hn3 : n3 < 2 ^ 31) (hnv : nv < 2 ^ 31) (hE : E < 2 ^ 31) (ha : a < 2 ^ 31) : ps_mI classes l y_Key_firstThere w_Key_firstThere ({ frames := 2, cells := 0, slots := 0, locals := 43 }) (dC, dI) tys [.ref h, .int d, .int (nI a), .int (nI E)] (pq_W cI h hv k1 q1 k2 q2 k3 q3 kv qv xv lim n1 n2 n3 nv f1 f2 f3 fv) (fun r u => u = pq_W cI h hv k1 q1 k2 q2 k3 q3 kv qv xv lim n1 n2 n3 nv f1 f2 f3 fv ∧ ps_fst (fun j => f1 j = d ∧ ¬ fv j = -1) a E r) := by
  refine ps_mI_of (by decide) rfl (Nat.le_of_ble_eq_true rfl) ?_
  intro p e s m below meth c A ls C0 hA hK hP hD hS hl
  obtain ⟨hx, hb, hr, hml, hts, hown, hlocks, hin⟩ := C0
  have hl : lv_has ls 5 [(0, .ref h), (1, .int d), (2, .int (nI a)), (3, .int (nI E))] := hl
  have hP : va_P (dC, dI) classes [(h, .inr (cKey, [.ref k1, .ref k2, .ref k3, .ref hv])), (k1, .inr (cCol, [.int (nI lim), .ref q1])), (q1, .inl (cI, n1, .inl f1)), (k2, .inr (cCol, [.int (nI lim), .ref q2])), (q2, .inl (cI, n2, .inl f2)), (k3, .inr (cCol, [.int (nI lim), .ref q3])), (q3, .inl (cI, n3, .inl f3)), (hv, .inr (cVal, [.ref kv, .ref xv])), (kv, .inr (cCol, [.int (nI lim), .ref qv])), (qv, .inl (cI, nv, .inl fv))] s.heap := hP
  have hD : va_D A [(h, .inr (cKey, [.ref k1, .ref k2, .ref k3, .ref hv])), (k1, .inr (cCol, [.int (nI lim), .ref q1])), (q1, .inl (cI, n1, .inl f1)), (k2, .inr (cCol, [.int (nI lim), .ref q2])), (q2, .inl (cI, n2, .inl f2)), (k3, .inr (cCol, [.int (nI lim), .ref q3])), (q3, .inl (cI, n3, .inl f3)), (hv, .inr (cVal, [.ref kv, .ref xv])), (kv, .inr (cCol, [.int (nI lim), .ref qv])), (qv, .inl (cI, nv, .inl fv))] := hD
  refine lv_iload_n hx hb d_Key_firstThere_0 rfl (lv_at hl 2 rfl) ?_
  refine lv_istore (lv' := [(4, .int (nI a)), (0, .ref h), (1, .int d), (2, .int (nI a)), (3, .int (nI E))]) hx hb d_Key_firstThere_1 hl (by decide) rfl (fun ls hl => ?_)
  refine ps_loop (α := Nat) (fun i => 0) (fun i => 0) (fun i => E - i) (fun i H locs ls => lv_has ls 5 [(4, .int (nI i)), (0, .ref h), (1, .int d), (2, .int (nI a)), (3, .int (nI E))] ∧ va_P (dC, dI) classes [(h, .inr (cKey, [.ref k1, .ref k2, .ref k3, .ref hv])), (k1, .inr (cCol, [.int (nI lim), .ref q1])), (q1, .inl (cI, n1, .inl f1)), (k2, .inr (cCol, [.int (nI lim), .ref q2])), (q2, .inl (cI, n2, .inl f2)), (k3, .inr (cCol, [.int (nI lim), .ref q3])), (q3, .inl (cI, n3, .inl f3)), (hv, .inr (cVal, [.ref kv, .ref xv])), (kv, .inr (cCol, [.int (nI lim), .ref qv])), (qv, .inl (cI, nv, .inl fv))] H ∧ va_D A [(h, .inr (cKey, [.ref k1, .ref k2, .ref k3, .ref hv])), (k1, .inr (cCol, [.int (nI lim), .ref q1])), (q1, .inl (cI, n1, .inl f1)), (k2, .inr (cCol, [.int (nI lim), .ref q2])), (q2, .inl (cI, n2, .inl f2)), (k3, .inr (cCol, [.int (nI lim), .ref q3])), (q3, .inl (cI, n3, .inl f3)), (hv, .inr (cVal, [.ref kv, .ref xv])), (kv, .inr (cCol, [.int (nI lim), .ref qv])), (qv, .inl (cI, nv, .inl fv))] ∧ va_S A s.heap H locs ∧ a ≤ i ∧ i < 2 ^ 31 ∧ ps_not (fun j => f1 j = d ∧ ¬ fv j = -1) a i) ?_ a _ _ ls ⟨lv_sub hl [0, 1, 2, 3, 4] rfl, hP, hD, hS, Nat.le_refl _, ha, ps_not0⟩
  intro i H locs ls hI ih
  obtain ⟨hl, hP, hD, hS, hai, hi31, hno⟩ := hI
  refine lv_iload hx hb d_Key_firstThere_3 (lv_at hl 0 rfl) ?_
  refine lv_iload_n hx hb d_Key_firstThere_5 rfl (lv_at hl 4 rfl) ?_
  refine lv_icmp_ge (tgt := 28) hx hb d_Key_firstThere_6 (by decide) (fun c_1 => ?_) (fun c_1 => ?_)
  · have c_1 : E ≤ i := (nI_leI (by omega) (by omega)).mp c_1
    refine lv_iconst (v := (-1)) hx hb d_Key_firstThere_28 (by decide) ?_
    exact ps_iret hx hb hr hlocks hK hP hD hS (Nat.le_of_ble_eq_true rfl) (Nat.le_of_ble_eq_true rfl) d_Key_firstThere_29 (⟨rfl, ps_fst_n (by omega) hno⟩)
  · have c_1 : ¬ E ≤ i := fun q => c_1 ((nI_leI (by omega) (by omega)).mpr q)
    refine lv_aload_n hx hb d_Key_firstThere_9 rfl (lv_at hl 1 rfl) ?_
    refine lv_iload hx hb d_Key_firstThere_10 (lv_at hl 0 rfl) ?_
    refine lv_iload_n hx hb d_Key_firstThere_12 rfl (lv_at hl 2 rfl) ?_
    refine ps_readI (wc := [(h, .inr (cKey, [.ref k1, .ref k2, .ref k3, .ref hv])), (k1, .inr (cCol, [.int (nI lim), .ref q1])), (q1, .inl (cI, n1, .inl f1)), (k2, .inr (cCol, [.int (nI lim), .ref q2])), (q2, .inl (cI, n2, .inl f2)), (k3, .inr (cCol, [.int (nI lim), .ref q3])), (q3, .inl (cI, n3, .inl f3)), (hv, .inr (cVal, [.ref kv, .ref xv])), (kv, .inr (cCol, [.int (nI lim), .ref qv])), (qv, .inl (cI, nv, .inl fv))]) hP hD hS hA [0, 1, 2, 3, 4, 5, 6, 7, 8, 9] rfl (fun _ _ h => h.1) (ps_runVI ⟨hx, hb, hml, hown, hts⟩ (c_kis l dC dI cI tys ht h hv k1 q1 k2 q2 k3 q3 kv qv xv lim n1 n2 n3 nv f1 f2 f3 fv i d hz1 hz2 hz3 hzv hn1 hn2 hn3 hnv (by omega)) (ps_cwV ps_gd 2 hts tw_47 k_Key_isThere e_Key_isThere ⟨Nat.le_of_ble_eq_true rfl, Nat.le_of_ble_eq_true rfl⟩) hK hP hD [0, 1, 2, 3, 4, 5, 6, 7, 8, 9] (by decide) rfl 0 cKey rfl rfl rfl hl.1 rfl (Nat.le_of_ble_eq_true rfl) d_Key_firstThere_13 ⟨Nat.zero_le _, Nat.zero_le _⟩) (fun r_2 H locs hr_2 hP hS => ?_)
    obtain ⟨-, hr_2⟩ := hr_2
    subst hr_2
    refine lv_if_eq (tgt := 22) hx hb d_Key_firstThere_16 (by decide) (fun c_3 => ?_) (fun c_3 => ?_)
    · have c_3 := ps_ite0 c_3
      refine lv_iinc (v := nI (i + 1)) (lv' := [(4, .int (nI (i + 1))), (0, .ref h), (1, .int d), (2, .int (nI a)), (3, .int (nI E))]) hx hb d_Key_firstThere_22 hl (k := 0) rfl (nI_1 i) (by decide) rfl (fun ls hl => ?_)
      refine lv_goto (tgt := 3) hx hb d_Key_firstThere_25 (by decide) ?_
      exact ih (i + 1) _ _ ls (by omega) ⟨lv_sub hl [0, 1, 2, 3, 4] rfl, hP, hD, hS, by omega, by omega, ps_nots hno c_3⟩
    · have c_3 := ps_ite1 c_3
      refine lv_iload hx hb d_Key_firstThere_19 (lv_at hl 0 rfl) ?_
      exact ps_iret hx hb hr hlocks hK hP hD hS (Nat.le_of_ble_eq_true rfl) (Nat.le_of_ble_eq_true rfl) d_Key_firstThere_21 (⟨rfl, ps_fst_y hai (by omega) c_3 hno⟩)

set_option maxHeartbeats 4000000 in
set_option maxRecDepth 100000 in
/-- Keys.howManyThere -/
theorem c_khow (l : Launch) (dC : Nat → ClassId) (dI : Nat → Nat → Nat) (cI : ClassId) (tys : List (ClassId × FieldType)) (ht : tys[0]? = some (cI, FieldType.int)) (h hv k1 q1 k2 q2 k3 q3 kv qv xv lim n1 n2 n3 nv : Nat) (f1 f2 f3 fv : Nat → Int32) (d : Int32) (E : Nat) (hz1 : ps_Z n1 f1) (hz2 : ps_Z n2 f2) (hz3 : ps_Z n3 f3) (hzv : ps_Z nv fv) (hn1 : n1 < 2 ^ 31) (hn2 : n2 < 2 ^ 31) (hn3 : n3 < 2 ^ 31) (hnv : nv < 2 ^ 31) (hE : E < 2 ^ 31) : ps_mI classes l y_Key_howManyThere w_Key_howManyThere ({ frames := 2, cells := 0, slots := 0, locals := 43 }) (dC, dI) tys [.ref h, .int d, .int (nI E)] (pq_W cI h hv k1 q1 k2 q2 k3 q3 kv qv xv lim n1 n2 n3 nv f1 f2 f3 fv) (fun r u => u = pq_W cI h hv k1 q1 k2 q2 k3 q3 kv qv xv lim n1 n2 n3 nv f1 f2 f3 fv ∧ r = nI (ps_cnt (fun j => decide (f1 j = d ∧ ¬ fv j = -1)) E)) := by
  refine ps_mI_of (by decide) rfl (Nat.le_of_ble_eq_true rfl) ?_
  intro p e s m below meth c A ls C0 hA hK hP hD hS hl
  obtain ⟨hx, hb, hr, hml, hts, hown, hlocks, hin⟩ := C0
  have hl : lv_has ls 5 [(0, .ref h), (1, .int d), (2, .int (nI E))] := hl
  have hP : va_P (dC, dI) classes [(h, .inr (cKey, [.ref k1, .ref k2, .ref k3, .ref hv])), (k1, .inr (cCol, [.int (nI lim), .ref q1])), (q1, .inl (cI, n1, .inl f1)), (k2, .inr (cCol, [.int (nI lim), .ref q2])), (q2, .inl (cI, n2, .inl f2)), (k3, .inr (cCol, [.int (nI lim), .ref q3])), (q3, .inl (cI, n3, .inl f3)), (hv, .inr (cVal, [.ref kv, .ref xv])), (kv, .inr (cCol, [.int (nI lim), .ref qv])), (qv, .inl (cI, nv, .inl fv))] s.heap := hP
  have hD : va_D A [(h, .inr (cKey, [.ref k1, .ref k2, .ref k3, .ref hv])), (k1, .inr (cCol, [.int (nI lim), .ref q1])), (q1, .inl (cI, n1, .inl f1)), (k2, .inr (cCol, [.int (nI lim), .ref q2])), (q2, .inl (cI, n2, .inl f2)), (k3, .inr (cCol, [.int (nI lim), .ref q3])), (q3, .inl (cI, n3, .inl f3)), (hv, .inr (cVal, [.ref kv, .ref xv])), (kv, .inr (cCol, [.int (nI lim), .ref qv])), (qv, .inl (cI, nv, .inl fv))] := hD
  refine lv_iconst (v := nI 0) hx hb d_Key_howManyThere_0 (by decide) ?_
  refine lv_istore_n (lv' := [(3, .int (nI 0)), (0, .ref h), (1, .int d), (2, .int (nI E))]) hx hb d_Key_howManyThere_1 rfl hl (by decide) rfl (fun ls hl => ?_)
  refine lv_iconst (v := nI 0) hx hb d_Key_howManyThere_2 (by decide) ?_
  refine lv_istore (lv' := [(4, .int (nI 0)), (3, .int (nI 0)), (0, .ref h), (1, .int d), (2, .int (nI E))]) hx hb d_Key_howManyThere_3 hl (by decide) rfl (fun ls hl => ?_)
  refine ps_loop (α := Nat) (fun i => 0) (fun i => 0) (fun i => E - i) (fun i H locs ls => lv_has ls 5 [(4, .int (nI i)), (3, .int (nI (ps_cnt (fun j => decide (f1 j = d ∧ ¬ fv j = -1)) i))), (0, .ref h), (1, .int d), (2, .int (nI E))] ∧ va_P (dC, dI) classes [(h, .inr (cKey, [.ref k1, .ref k2, .ref k3, .ref hv])), (k1, .inr (cCol, [.int (nI lim), .ref q1])), (q1, .inl (cI, n1, .inl f1)), (k2, .inr (cCol, [.int (nI lim), .ref q2])), (q2, .inl (cI, n2, .inl f2)), (k3, .inr (cCol, [.int (nI lim), .ref q3])), (q3, .inl (cI, n3, .inl f3)), (hv, .inr (cVal, [.ref kv, .ref xv])), (kv, .inr (cCol, [.int (nI lim), .ref qv])), (qv, .inl (cI, nv, .inl fv))] H ∧ va_D A [(h, .inr (cKey, [.ref k1, .ref k2, .ref k3, .ref hv])), (k1, .inr (cCol, [.int (nI lim), .ref q1])), (q1, .inl (cI, n1, .inl f1)), (k2, .inr (cCol, [.int (nI lim), .ref q2])), (q2, .inl (cI, n2, .inl f2)), (k3, .inr (cCol, [.int (nI lim), .ref q3])), (q3, .inl (cI, n3, .inl f3)), (hv, .inr (cVal, [.ref kv, .ref xv])), (kv, .inr (cCol, [.int (nI lim), .ref qv])), (qv, .inl (cI, nv, .inl fv))] ∧ va_S A s.heap H locs ∧ i ≤ E) ?_ 0 _ _ ls ⟨lv_sub hl [0, 1, 2, 3, 4] rfl, hP, hD, hS, Nat.zero_le _⟩
  intro i H locs ls hI ih
  obtain ⟨hl, hP, hD, hS, hiE⟩ := hI
  refine lv_iload hx hb d_Key_howManyThere_5 (lv_at hl 0 rfl) ?_
  refine lv_iload_n hx hb d_Key_howManyThere_7 rfl (lv_at hl 4 rfl) ?_
  refine lv_icmp_ge (tgt := 30) hx hb d_Key_howManyThere_8 (by decide) (fun c_1 => ?_) (fun c_1 => ?_)
  · have c_1 : E ≤ i := (nI_leI (by omega) (by omega)).mp c_1
    refine lv_iload_n hx hb d_Key_howManyThere_30 rfl (lv_at hl 1 rfl) ?_
    have hi : i = E := by omega
    subst hi
    exact ps_iret hx hb hr hlocks hK hP hD hS (Nat.le_of_ble_eq_true rfl) (Nat.le_of_ble_eq_true rfl) d_Key_howManyThere_31 (⟨rfl, rfl⟩)
  · have c_1 : ¬ E ≤ i := fun q => c_1 ((nI_leI (by omega) (by omega)).mpr q)
    refine lv_aload_n hx hb d_Key_howManyThere_11 rfl (lv_at hl 2 rfl) ?_
    refine lv_iload hx hb d_Key_howManyThere_12 (lv_at hl 0 rfl) ?_
    refine lv_iload_n hx hb d_Key_howManyThere_14 rfl (lv_at hl 3 rfl) ?_
    refine ps_readI (wc := [(h, .inr (cKey, [.ref k1, .ref k2, .ref k3, .ref hv])), (k1, .inr (cCol, [.int (nI lim), .ref q1])), (q1, .inl (cI, n1, .inl f1)), (k2, .inr (cCol, [.int (nI lim), .ref q2])), (q2, .inl (cI, n2, .inl f2)), (k3, .inr (cCol, [.int (nI lim), .ref q3])), (q3, .inl (cI, n3, .inl f3)), (hv, .inr (cVal, [.ref kv, .ref xv])), (kv, .inr (cCol, [.int (nI lim), .ref qv])), (qv, .inl (cI, nv, .inl fv))]) hP hD hS hA [0, 1, 2, 3, 4, 5, 6, 7, 8, 9] rfl (fun _ _ h => h.1) (ps_runVI ⟨hx, hb, hml, hown, hts⟩ (c_kis l dC dI cI tys ht h hv k1 q1 k2 q2 k3 q3 kv qv xv lim n1 n2 n3 nv f1 f2 f3 fv i d hz1 hz2 hz3 hzv hn1 hn2 hn3 hnv (by omega)) (ps_cwV ps_gd 2 hts tw_47 k_Key_isThere e_Key_isThere ⟨Nat.le_of_ble_eq_true rfl, Nat.le_of_ble_eq_true rfl⟩) hK hP hD [0, 1, 2, 3, 4, 5, 6, 7, 8, 9] (by decide) rfl 0 cKey rfl rfl rfl hl.1 rfl (Nat.le_of_ble_eq_true rfl) d_Key_howManyThere_15 ⟨Nat.zero_le _, Nat.zero_le _⟩) (fun r_2 H locs hr_2 hP hS => ?_)
    obtain ⟨-, hr_2⟩ := hr_2
    subst hr_2
    refine lv_if_eq (tgt := 24) hx hb d_Key_howManyThere_18 (by decide) (fun c_3 => ?_) (fun c_3 => ?_)
    · have c_3 := ps_ite0 c_3
      rw [show ps_cnt (fun j => decide (f1 j = d ∧ ¬ fv j = -1)) i = ps_cnt (fun j => decide (f1 j = d ∧ ¬ fv j = -1)) (i + 1) from (ps_cnt_n (decide_eq_false c_3)).symm] at hl
      refine lv_iinc (v := nI (i + 1)) (lv' := [(4, .int (nI (i + 1))), (3, .int (nI (ps_cnt (fun j => decide (f1 j = d ∧ ¬ fv j = -1)) (i + 1)))), (0, .ref h), (1, .int d), (2, .int (nI E))]) hx hb d_Key_howManyThere_24 hl (k := 0) rfl (nI_1 i) (by decide) rfl (fun ls hl => ?_)
      refine lv_goto (tgt := 5) hx hb d_Key_howManyThere_27 (by decide) ?_
      exact ih (i + 1) _ _ ls (by omega) ⟨lv_sub hl [0, 1, 2, 3, 4] rfl, hP, hD, hS, by omega⟩
    · have c_3 := ps_ite1 c_3
      refine lv_iinc (v := nI (ps_cnt (fun j => decide (f1 j = d ∧ ¬ fv j = -1)) (i + 1))) (lv' := [(3, .int (nI (ps_cnt (fun j => decide (f1 j = d ∧ ¬ fv j = -1)) (i + 1)))), (4, .int (nI i)), (0, .ref h), (1, .int d), (2, .int (nI E))]) hx hb d_Key_howManyThere_21 hl (k := 1) rfl (by rw [ps_cnt_y (decide_eq_true c_3)]; exact nI_1 _) (by decide) rfl (fun ls hl => ?_)
      refine lv_iinc (v := nI (i + 1)) (lv' := [(4, .int (nI (i + 1))), (3, .int (nI (ps_cnt (fun j => decide (f1 j = d ∧ ¬ fv j = -1)) (i + 1)))), (0, .ref h), (1, .int d), (2, .int (nI E))]) hx hb d_Key_howManyThere_24 hl (k := 1) rfl (nI_1 i) (by decide) rfl (fun ls hl => ?_)
      refine lv_goto (tgt := 5) hx hb d_Key_howManyThere_27 (by decide) ?_
      exact ih (i + 1) _ _ ls (by omega) ⟨lv_sub hl [0, 1, 2, 3, 4] rfl, hP, hD, hS, by omega⟩

set_option maxHeartbeats 4000000 in
set_option maxRecDepth 100000 in
/-- Keys.indexIfThere -/
theorem c_kift (l : Launch) (dC : Nat → ClassId) (dI : Nat → Nat → Nat) (cI : ClassId) (tys : List (ClassId × FieldType)) (ht : tys[0]? = some (cI, FieldType.int)) (h hv k1 q1 k2 q2 k3 q3 kv qv xv lim n1 n2 n3 nv : Nat) (f1 f2 f3 fv : Nat → Int32) (d k x : Int32) (E : Nat) (hz1 : ps_Z n1 f1) (hz2 : ps_Z n2 f2) (hz3 : ps_Z n3 f3) (hzv : ps_Z nv fv) (hn1 : n1 < 2 ^ 31) (hn2 : n2 < 2 ^ 31) (hn3 : n3 < 2 ^ 31) (hnv : nv < 2 ^ 31) (hE : E < 2 ^ 31) : ps_mI classes l y_Key_indexIfThere w_Key_indexIfThere ({ frames := 2, cells := 0, slots := 0, locals := 46 }) (dC, dI) tys [.ref h, .int d, .int k, .int x, .int (nI E)] (pq_W cI h hv k1 q1 k2 q2 k3 q3 kv qv xv lim n1 n2 n3 nv f1 f2 f3 fv) (fun r u => u = pq_W cI h hv k1 q1 k2 q2 k3 q3 kv qv xv lim n1 n2 n3 nv f1 f2 f3 fv ∧ ∃ z : Int32, ps_fst (fun j => f3 j = x ∧ f2 j = k ∧ f1 j = d) 0 E z ∧ ((∃ j : Nat, z = nI j ∧ j < E ∧ f1 j = d ∧ ¬ fv j = -1 ∧ r = nI j) ∨ ((z = -1 ∨ ∃ j : Nat, z = nI j ∧ j < E ∧ fv j = -1) ∧ r = -1))) := by
  refine ps_mI_of (by decide) rfl (Nat.le_of_ble_eq_true rfl) ?_
  intro p e s m below meth c A ls C0 hA hK hP hD hS hl
  obtain ⟨hx, hb, hr, hml, hts, hown, hlocks, hin⟩ := C0
  have hl : lv_has ls 6 [(0, .ref h), (1, .int d), (2, .int k), (3, .int x), (4, .int (nI E))] := hl
  have hP : va_P (dC, dI) classes [(h, .inr (cKey, [.ref k1, .ref k2, .ref k3, .ref hv])), (k1, .inr (cCol, [.int (nI lim), .ref q1])), (q1, .inl (cI, n1, .inl f1)), (k2, .inr (cCol, [.int (nI lim), .ref q2])), (q2, .inl (cI, n2, .inl f2)), (k3, .inr (cCol, [.int (nI lim), .ref q3])), (q3, .inl (cI, n3, .inl f3)), (hv, .inr (cVal, [.ref kv, .ref xv])), (kv, .inr (cCol, [.int (nI lim), .ref qv])), (qv, .inl (cI, nv, .inl fv))] s.heap := hP
  have hD : va_D A [(h, .inr (cKey, [.ref k1, .ref k2, .ref k3, .ref hv])), (k1, .inr (cCol, [.int (nI lim), .ref q1])), (q1, .inl (cI, n1, .inl f1)), (k2, .inr (cCol, [.int (nI lim), .ref q2])), (q2, .inl (cI, n2, .inl f2)), (k3, .inr (cCol, [.int (nI lim), .ref q3])), (q3, .inl (cI, n3, .inl f3)), (hv, .inr (cVal, [.ref kv, .ref xv])), (kv, .inr (cCol, [.int (nI lim), .ref qv])), (qv, .inl (cI, nv, .inl fv))] := hD
  refine lv_aload_n hx hb d_Key_indexIfThere_0 rfl (lv_at hl 0 rfl) ?_
  refine lv_iload_n hx hb d_Key_indexIfThere_1 rfl (lv_at hl 1 rfl) ?_
  refine lv_iload_n hx hb d_Key_indexIfThere_2 rfl (lv_at hl 2 rfl) ?_
  refine lv_iload_n hx hb d_Key_indexIfThere_3 rfl (lv_at hl 3 rfl) ?_
  refine lv_iload hx hb d_Key_indexIfThere_4 (lv_at hl 4 rfl) ?_
  refine ps_readI (wc := [(h, .inr (cKey, [.ref k1, .ref k2, .ref k3, .ref hv])), (k1, .inr (cCol, [.int (nI lim), .ref q1])), (q1, .inl (cI, n1, .inl f1)), (k2, .inr (cCol, [.int (nI lim), .ref q2])), (q2, .inl (cI, n2, .inl f2)), (k3, .inr (cCol, [.int (nI lim), .ref q3])), (q3, .inl (cI, n3, .inl f3)), (hv, .inr (cVal, [.ref kv, .ref xv])), (kv, .inr (cCol, [.int (nI lim), .ref qv])), (qv, .inl (cI, nv, .inl fv))]) hP hD hS hA [0, 1, 2, 3, 4, 5, 6, 7, 8, 9] rfl (fun _ _ h => h.1) (ps_runVI ⟨hx, hb, hml, hown, hts⟩ (c_kof l dC dI cI tys ht h hv k1 q1 k2 q2 k3 q3 kv qv xv lim n1 n2 n3 nv f1 f2 f3 fv d k x E hz1 hz2 hz3 hzv hn1 hn2 hn3 hnv hE) (ps_cwV ps_gd 4 hts tw_48 k_Key_indexOf e_Key_indexOf ⟨Nat.le_of_ble_eq_true rfl, Nat.le_of_ble_eq_true rfl⟩) hK hP hD [0, 1, 2, 3, 4, 5, 6, 7, 8, 9] (by decide) rfl 0 cKey rfl rfl rfl hl.1 rfl (Nat.le_of_ble_eq_true rfl) d_Key_indexIfThere_6 ⟨Nat.zero_le _, Nat.zero_le _⟩) (fun r_1 H locs hr_1 hP hS => ?_)
  obtain ⟨-, hr_1⟩ := hr_1
  refine lv_istore (lv' := [(5, .int r_1), (0, .ref h), (1, .int d), (2, .int k), (3, .int x), (4, .int (nI E))]) hx hb d_Key_indexIfThere_9 hl (by decide) rfl (fun ls hl => ?_)
  refine lv_iload hx hb d_Key_indexIfThere_11 (lv_at hl 0 rfl) ?_
  refine lv_iconst (v := (-1)) hx hb d_Key_indexIfThere_13 (by decide) ?_
  refine lv_icmp_eq (tgt := 32) hx hb d_Key_indexIfThere_14 (by decide) (fun c_2 => ?_) (fun c_2 => ?_)
  · refine lv_iconst (v := (-1)) hx hb d_Key_indexIfThere_32 (by decide) ?_
    exact ps_iret hx hb hr hlocks hK hP hD hS (Nat.le_of_ble_eq_true rfl) (Nat.le_of_ble_eq_true rfl) d_Key_indexIfThere_33 (⟨rfl, _, hr_1, Or.inr ⟨Or.inl c_2, rfl⟩⟩)
  · obtain ⟨j, -, hjE, hjM, hjn, hj⟩ := ps_fst_some hr_1 c_2
    have hr_1 : ps_fst (fun j => f3 j = x ∧ f2 j = k ∧ f1 j = d) 0 E r_1 := hr_1
    subst hj
    refine lv_aload_n hx hb d_Key_indexIfThere_17 rfl (lv_at hl 1 rfl) ?_
    refine lv_iload hx hb d_Key_indexIfThere_18 (lv_at hl 0 rfl) ?_
    refine lv_iload_n hx hb d_Key_indexIfThere_20 rfl (lv_at hl 2 rfl) ?_
    refine ps_readI (wc := [(h, .inr (cKey, [.ref k1, .ref k2, .ref k3, .ref hv])), (k1, .inr (cCol, [.int (nI lim), .ref q1])), (q1, .inl (cI, n1, .inl f1)), (k2, .inr (cCol, [.int (nI lim), .ref q2])), (q2, .inl (cI, n2, .inl f2)), (k3, .inr (cCol, [.int (nI lim), .ref q3])), (q3, .inl (cI, n3, .inl f3)), (hv, .inr (cVal, [.ref kv, .ref xv])), (kv, .inr (cCol, [.int (nI lim), .ref qv])), (qv, .inl (cI, nv, .inl fv))]) hP hD hS hA [0, 1, 2, 3, 4, 5, 6, 7, 8, 9] rfl (fun _ _ h => h.1) (ps_runVI ⟨hx, hb, hml, hown, hts⟩ (c_kis l dC dI cI tys ht h hv k1 q1 k2 q2 k3 q3 kv qv xv lim n1 n2 n3 nv f1 f2 f3 fv j d hz1 hz2 hz3 hzv hn1 hn2 hn3 hnv (by omega)) (ps_cwV ps_gd 2 hts tw_47 k_Key_isThere e_Key_isThere ⟨Nat.le_of_ble_eq_true rfl, Nat.le_of_ble_eq_true rfl⟩) hK hP hD [0, 1, 2, 3, 4, 5, 6, 7, 8, 9] (by decide) rfl 0 cKey rfl rfl rfl hl.1 rfl (Nat.le_of_ble_eq_true rfl) d_Key_indexIfThere_21 ⟨Nat.zero_le _, Nat.zero_le _⟩) (fun r_3 H locs hr_3 hP hS => ?_)
    obtain ⟨-, hr_3⟩ := hr_3
    subst hr_3
    refine lv_if_eq (tgt := 32) hx hb d_Key_indexIfThere_24 (by decide) (fun c_4 => ?_) (fun c_4 => ?_)
    · have c_4 := ps_ite0 c_4
      refine lv_iconst (v := (-1)) hx hb d_Key_indexIfThere_32 (by decide) ?_
      exact ps_iret hx hb hr hlocks hK hP hD hS (Nat.le_of_ble_eq_true rfl) (Nat.le_of_ble_eq_true rfl) d_Key_indexIfThere_33 (⟨rfl, _, hr_1, Or.inr ⟨Or.inr ⟨j, rfl, hjE, Classical.byContradiction (fun q => c_4 ⟨hjM.2.2, q⟩)⟩, rfl⟩⟩)
    · have c_4 := ps_ite1 c_4
      refine lv_iload hx hb d_Key_indexIfThere_27 (lv_at hl 0 rfl) ?_
      refine lv_goto (tgt := 33) hx hb d_Key_indexIfThere_29 (by decide) ?_
      exact ps_iret hx hb hr hlocks hK hP hD hS (Nat.le_of_ble_eq_true rfl) (Nat.le_of_ble_eq_true rfl) d_Key_indexIfThere_33 (⟨rfl, _, hr_1, Or.inl ⟨j, rfl, hjE, c_4.1, c_4.2, rfl⟩⟩)
