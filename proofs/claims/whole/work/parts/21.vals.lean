theorem tw_25 : (.fieldLink "PageStore$Values" 14 "PageStore$Values" "kinds" "LPageStore$Column;" : Cond) ∈ ps_tbl := ps_t1 63 rfl rfl
theorem tw_26 : (.methodLink "PageStore$Values" 23 ⟨"PageStore$Column", "put", "(II)V"⟩ : Cond) ∈ ps_tbl := ps_t2 38 rfl rfl
theorem tw_27 : (.fieldLink "PageStore$Values" 20 "PageStore$Values" "numbers" "LPageStore$Column;" : Cond) ∈ ps_tbl := ps_t1 67 rfl rfl
theorem tw_28 : (.methodLink "PageStore$Values" 27 ⟨"PageStore$Column", "wipe", "(II)V"⟩ : Cond) ∈ ps_tbl := ps_t1 169 rfl rfl
theorem tw_29 : (.fieldLink "PageStore$Rows" 14 "PageStore$Rows" "sorts" "LPageStore$Column;" : Cond) ∈ ps_tbl := ps_t1 41 rfl rfl
theorem tw_30 : (.methodLink "PageStore$Rows" 26 ⟨"PageStore$Column", "put", "(II)V"⟩ : Cond) ∈ ps_tbl := ps_t1 190 rfl rfl
theorem tw_31 : (.fieldLink "PageStore$Rows" 20 "PageStore$Rows" "starts" "LPageStore$Column;" : Cond) ∈ ps_tbl := ps_t1 43 rfl rfl
theorem tw_32 : (.fieldLink "PageStore$Rows" 23 "PageStore$Rows" "lengths" "LPageStore$Column;" : Cond) ∈ ps_tbl := ps_t1 45 rfl rfl
theorem tw_33 : (.fieldLink "PageStore$Keys" 14 "PageStore$Keys" "dictionaries" "LPageStore$Column;" : Cond) ∈ ps_tbl := ps_t1 86 rfl rfl
theorem tw_34 : (.methodLink "PageStore$Keys" 33 ⟨"PageStore$Column", "put", "(II)V"⟩ : Cond) ∈ ps_tbl := ps_t2 82 rfl rfl
theorem tw_35 : (.fieldLink "PageStore$Keys" 20 "PageStore$Keys" "kinds" "LPageStore$Column;" : Cond) ∈ ps_tbl := ps_t1 87 rfl rfl
theorem tw_36 : (.fieldLink "PageStore$Keys" 23 "PageStore$Keys" "numbers" "LPageStore$Column;" : Cond) ∈ ps_tbl := ps_t1 89 rfl rfl
theorem tw_37 : (.instanceMethod ⟨"PageStore$Column", "put", "(II)V"⟩ : Cond) ∈ ps_tbl := ps_t1 191 rfl rfl
theorem tw_38 : (.selects "PageStore$Column" ⟨"PageStore$Column", "put", "(II)V"⟩ ⟨"PageStore$Column", "put", "(II)V"⟩ : Cond) ∈ ps_tbl := ps_t1 192 rfl rfl
theorem tw_39 : (.initialized "PageStore$Column" : Cond) ∈ ps_tbl := ps_t1 2 rfl rfl
theorem tw_40 : (.code ⟨"PageStore$Column", "put", "(II)V"⟩ prog_2_method_3_code 4 none : Cond) ∈ ps_tbl := ps_t1 193 rfl rfl
theorem tw_41 : (.instanceMethod ⟨"PageStore$Column", "wipe", "(II)V"⟩ : Cond) ∈ ps_tbl := ps_t1 170 rfl rfl
theorem tw_42 : (.selects "PageStore$Column" ⟨"PageStore$Column", "wipe", "(II)V"⟩ ⟨"PageStore$Column", "wipe", "(II)V"⟩ : Cond) ∈ ps_tbl := ps_t1 171 rfl rfl
theorem tw_43 : (.code ⟨"PageStore$Column", "wipe", "(II)V"⟩ prog_2_method_4_code 4 none : Cond) ∈ ps_tbl := ps_t1 172 rfl rfl
theorem k_Col_put : ps_cdV ps_tbl y_Col_put prog_2_method_3_code 4 none := ⟨tw_37, tw_38, tw_39, tw_40⟩
theorem k_Col_wipe : ps_cdV ps_tbl y_Col_wipe prog_2_method_4_code 4 none := ⟨tw_41, tw_42, tw_39, tw_43⟩
set_option maxHeartbeats 4000000 in
set_option maxRecDepth 100000 in
/-- Values.write -/
theorem c_vwrite (l : Launch) (dC : Nat → ClassId) (dI : Nat → Nat → Nat) (cI : ClassId) (tys : List (ClassId × FieldType)) (ht : tys[0]? = some (cI, FieldType.int)) (h k qk x qx lim n1 n2 : Nat) (f1 f2 : Nat → Int32) (i : Nat) (v w : Int32) (hz1 : ps_Z n1 f1) (hz2 : ps_Z n2 f2) (hlim : lim ≤ 65536) (hn1 : n1 ≤ lim) (hn2 : n2 ≤ lim) (hi : i < lim) : ps_mV classes l y_Val_write w_Val_write ({ frames := 3, cells := ps_dc lim n1 i + ps_dc lim n2 i, slots := ps_ds lim n1 i + ps_ds lim n2 i, locals := 63 }) (dC, dI) tys [.ref h, .int (nI i), .int v, .int w] (pv_W cI h k qk x qx lim n1 n2 f1 f2) (fun u => ∃ q1 q2 : Nat, u = pv_W cI h k q1 x q2 lim (ps_len lim n1 i) (ps_len lim n2 i) (upd f1 i v) (upd f2 i (if v = 0 then 0 else w))) := by
  refine ps_mV_of (by decide) rfl (Nat.le_of_ble_eq_true rfl) ?_
  intro p e s m below meth c A ls C0 hA hK hP hD hS hl
  obtain ⟨hx, hb, hr, hml, hts, hown, hlocks, hin⟩ := C0
  have hl : lv_has ls 4 [(0, .ref h), (1, .int (nI i)), (2, .int v), (3, .int w)] := hl
  have hP : va_P (dC, dI) classes [(h, .inr (cVal, [.ref k, .ref x])), (k, .inr (cCol, [.int (nI lim), .ref qk])), (qk, .inl (cI, n1, .inl f1)), (x, .inr (cCol, [.int (nI lim), .ref qx])), (qx, .inl (cI, n2, .inl f2))] s.heap := hP
  have hD : va_D A [(h, .inr (cVal, [.ref k, .ref x])), (k, .inr (cCol, [.int (nI lim), .ref qk])), (qk, .inl (cI, n1, .inl f1)), (x, .inr (cCol, [.int (nI lim), .ref qx])), (qx, .inl (cI, n2, .inl f2))] := hD
  refine lv_aload_n hx hb d_Val_write_0 rfl (lv_at hl 0 rfl) ?_
  refine va_get (D := (dC, dI)) (ci := cVal) (v := .ref k) (C := R_Val) (T := F_Val) (N := 2) hx hb hts i_Val hown hK hP 0 rfl rfl 0 (by decide) (hts _ tw_25) (fun _ h9 => h9) rfl d_Val_write_1 ?_
  refine lv_iload_n hx hb d_Val_write_4 rfl (lv_at hl 1 rfl) ?_
  refine lv_iload_n hx hb d_Val_write_5 rfl (lv_at hl 2 rfl) ?_
  refine ps_afterV (wc := [(k, .inr (cCol, [.int (nI lim), .ref qk])), (qk, .inl (cI, n1, .inl f1))]) (wr := [0, 3, 4].filterMap (fun z9 => ([(h, .inr (cVal, [.ref k, .ref x])), (k, .inr (cCol, [.int (nI lim), .ref qk])), (qk, .inl (cI, n1, .inl f1)), (x, .inr (cCol, [.int (nI lim), .ref qx])), (qx, .inl (cI, n2, .inl f2))] : va_W)[z9]?)) hP hD hS hA [1, 2] [0, 3, 4] rfl rfl (by decide) (by decide) (ps_runVV ⟨hx, hb, hml, hown, hts⟩ (c_put l dC dI cI tys ht k qk lim n1 f1 i v hz1 hlim hn1 hi) (ps_cwV ps_gd 2 hts tw_26 k_Col_put e_Col_put ⟨Nat.le_of_ble_eq_true rfl, Nat.le_of_ble_eq_true rfl⟩) hK hP hD [1, 2] (by decide) rfl 0 cCol rfl rfl rfl hl.1 rfl (Nat.le_of_ble_eq_true rfl) d_Val_write_6 ⟨by show 0 + ps_dc lim n1 i ≤ ps_dc lim n1 i + ps_dc lim n2 i; omega, by show 0 + ps_ds lim n1 i ≤ ps_ds lim n1 i + ps_ds lim n2 i; omega⟩) (fun u_1 H locs hu_1 hP hD hS => ?_)
  obtain ⟨q_3, hu_1⟩ := hu_1
  subst hu_1
  obtain ⟨hP, hD⟩ := ps_perm (ws' := [(h, .inr (cVal, [.ref k, .ref x])), (k, .inr (cCol, [.int (nI lim), .ref q_3])), (q_3, .inl (cI, ps_len lim n1 i, .inl (upd f1 i v))), (x, .inr (cCol, [.int (nI lim), .ref qx])), (qx, .inl (cI, n2, .inl f2))]) hP hD [0, 3, 4, 1, 2] (by decide) rfl
  refine lv_aload_n hx hb d_Val_write_9 rfl (lv_at hl 0 rfl) ?_
  refine va_get (D := (dC, dI)) (ci := cVal) (v := .ref x) (C := R_Val) (T := F_Val) (N := 2) hx hb hts i_Val hown hK hP 0 rfl rfl 1 (by decide) (hts _ tw_27) (fun _ h9 => h9) rfl d_Val_write_10 ?_
  refine lv_iload_n hx hb d_Val_write_13 rfl (lv_at hl 1 rfl) ?_
  refine lv_iload_n hx hb d_Val_write_14 rfl (lv_at hl 2 rfl) ?_
  refine lv_if_ne (tgt := 22) hx hb d_Val_write_15 (by decide) (fun c_4 => ?_) (fun c_4 => ?_)
  · refine lv_iload_n hx hb d_Val_write_22 rfl (lv_at hl 3 rfl) ?_
    refine ps_afterV (wc := [(x, .inr (cCol, [.int (nI lim), .ref qx])), (qx, .inl (cI, n2, .inl f2))]) (wr := [0, 1, 2].filterMap (fun z9 => ([(h, .inr (cVal, [.ref k, .ref x])), (k, .inr (cCol, [.int (nI lim), .ref q_3])), (q_3, .inl (cI, ps_len lim n1 i, .inl (upd f1 i v))), (x, .inr (cCol, [.int (nI lim), .ref qx])), (qx, .inl (cI, n2, .inl f2))] : va_W)[z9]?)) hP hD hS hA [3, 4] [0, 1, 2] rfl rfl (by decide) (by decide) (ps_runVV ⟨hx, hb, hml, hown, hts⟩ (c_put l dC dI cI tys ht x qx lim n2 f2 i w hz2 hlim hn2 hi) (ps_cwV ps_gd 2 hts tw_26 k_Col_put e_Col_put ⟨Nat.le_of_ble_eq_true rfl, Nat.le_of_ble_eq_true rfl⟩) hK hP hD [3, 4] (by decide) rfl 0 cCol rfl rfl rfl hl.1 rfl (Nat.le_of_ble_eq_true rfl) d_Val_write_23 ⟨by show 0 + ps_dc lim n1 i + ps_dc lim n2 i ≤ ps_dc lim n1 i + ps_dc lim n2 i; omega, by show 0 + ps_ds lim n1 i + ps_ds lim n2 i ≤ ps_ds lim n1 i + ps_ds lim n2 i; omega⟩) (fun u_5 H locs hu_5 hP hD hS => ?_)
    obtain ⟨q_7, hu_5⟩ := hu_5
    subst hu_5
    obtain ⟨hP, hD⟩ := ps_perm (ws' := [(h, .inr (cVal, [.ref k, .ref x])), (k, .inr (cCol, [.int (nI lim), .ref q_3])), (q_3, .inl (cI, ps_len lim n1 i, .inl (upd f1 i v))), (x, .inr (cCol, [.int (nI lim), .ref q_7])), (q_7, .inl (cI, ps_len lim n2 i, .inl (upd f2 i w)))]) hP hD [0, 1, 2, 3, 4] (by decide) rfl
    exact ps_vret hx hb hr hlocks hK hP hD hS (by show 0 + ps_dc lim n1 i + ps_dc lim n2 i ≤ ps_dc lim n1 i + ps_dc lim n2 i; omega) (by show 0 + ps_ds lim n1 i + ps_ds lim n2 i ≤ ps_ds lim n1 i + ps_ds lim n2 i; omega) d_Val_write_26 (⟨q_3, q_7, by rw [if_neg c_4]; rfl⟩)
  · refine lv_iconst (v := 0) hx hb d_Val_write_18 (by decide) ?_
    refine lv_goto (tgt := 23) hx hb d_Val_write_19 (by decide) ?_
    refine ps_afterV (wc := [(x, .inr (cCol, [.int (nI lim), .ref qx])), (qx, .inl (cI, n2, .inl f2))]) (wr := [0, 1, 2].filterMap (fun z9 => ([(h, .inr (cVal, [.ref k, .ref x])), (k, .inr (cCol, [.int (nI lim), .ref q_3])), (q_3, .inl (cI, ps_len lim n1 i, .inl (upd f1 i v))), (x, .inr (cCol, [.int (nI lim), .ref qx])), (qx, .inl (cI, n2, .inl f2))] : va_W)[z9]?)) hP hD hS hA [3, 4] [0, 1, 2] rfl rfl (by decide) (by decide) (ps_runVV ⟨hx, hb, hml, hown, hts⟩ (c_put l dC dI cI tys ht x qx lim n2 f2 i 0 hz2 hlim hn2 hi) (ps_cwV ps_gd 2 hts tw_26 k_Col_put e_Col_put ⟨Nat.le_of_ble_eq_true rfl, Nat.le_of_ble_eq_true rfl⟩) hK hP hD [3, 4] (by decide) rfl 0 cCol rfl rfl rfl hl.1 rfl (Nat.le_of_ble_eq_true rfl) d_Val_write_23 ⟨by show 0 + ps_dc lim n1 i + ps_dc lim n2 i ≤ ps_dc lim n1 i + ps_dc lim n2 i; omega, by show 0 + ps_ds lim n1 i + ps_ds lim n2 i ≤ ps_ds lim n1 i + ps_ds lim n2 i; omega⟩) (fun u_8 H locs hu_8 hP hD hS => ?_)
    obtain ⟨q_10, hu_8⟩ := hu_8
    subst hu_8
    obtain ⟨hP, hD⟩ := ps_perm (ws' := [(h, .inr (cVal, [.ref k, .ref x])), (k, .inr (cCol, [.int (nI lim), .ref q_3])), (q_3, .inl (cI, ps_len lim n1 i, .inl (upd f1 i v))), (x, .inr (cCol, [.int (nI lim), .ref q_10])), (q_10, .inl (cI, ps_len lim n2 i, .inl (upd f2 i 0)))]) hP hD [0, 1, 2, 3, 4] (by decide) rfl
    exact ps_vret hx hb hr hlocks hK hP hD hS (by show 0 + ps_dc lim n1 i + ps_dc lim n2 i ≤ ps_dc lim n1 i + ps_dc lim n2 i; omega) (by show 0 + ps_ds lim n1 i + ps_ds lim n2 i ≤ ps_ds lim n1 i + ps_ds lim n2 i; omega) d_Val_write_26 (⟨q_3, q_10, by rw [if_pos c_4]; rfl⟩)

set_option maxHeartbeats 4000000 in
set_option maxRecDepth 100000 in
/-- Values.wipe -/
theorem c_vwipe (l : Launch) (dC : Nat → ClassId) (dI : Nat → Nat → Nat) (cI : ClassId) (tys : List (ClassId × FieldType)) (ht : tys[0]? = some (cI, FieldType.int)) (h k qk x qx lim n1 n2 : Nat) (f1 f2 : Nat → Int32) (a b : Nat) (hz1 : ps_Z n1 f1) (hz2 : ps_Z n2 f2) (hn1 : n1 < 2 ^ 31) (hn2 : n2 < 2 ^ 31) (ha : a < 2 ^ 31) (hb0 : b < 2 ^ 31) : ps_mV classes l y_Val_wipe w_Val_wipe ({ frames := 3, cells := 0, slots := 0, locals := 69 }) (dC, dI) tys [.ref h, .int (nI a), .int (nI b)] (pv_W cI h k qk x qx lim n1 n2 f1 f2) (fun u => u = pv_W cI h k qk x qx lim n1 n2 (ps_fil f1 a b 0) (ps_fil f2 a b 0)) := by
  refine ps_mV_of (by decide) rfl (Nat.le_of_ble_eq_true rfl) ?_
  intro p e s m below meth c A ls C0 hA hK hP hD hS hl
  obtain ⟨hx, hb, hr, hml, hts, hown, hlocks, hin⟩ := C0
  have hl : lv_has ls 3 [(0, .ref h), (1, .int (nI a)), (2, .int (nI b))] := hl
  have hP : va_P (dC, dI) classes [(h, .inr (cVal, [.ref k, .ref x])), (k, .inr (cCol, [.int (nI lim), .ref qk])), (qk, .inl (cI, n1, .inl f1)), (x, .inr (cCol, [.int (nI lim), .ref qx])), (qx, .inl (cI, n2, .inl f2))] s.heap := hP
  have hD : va_D A [(h, .inr (cVal, [.ref k, .ref x])), (k, .inr (cCol, [.int (nI lim), .ref qk])), (qk, .inl (cI, n1, .inl f1)), (x, .inr (cCol, [.int (nI lim), .ref qx])), (qx, .inl (cI, n2, .inl f2))] := hD
  refine lv_aload_n hx hb d_Val_wipe_0 rfl (lv_at hl 0 rfl) ?_
  refine va_get (D := (dC, dI)) (ci := cVal) (v := .ref k) (C := R_Val) (T := F_Val) (N := 2) hx hb hts i_Val hown hK hP 0 rfl rfl 0 (by decide) (hts _ tw_25) (fun _ h9 => h9) rfl d_Val_wipe_1 ?_
  refine lv_iload_n hx hb d_Val_wipe_4 rfl (lv_at hl 1 rfl) ?_
  refine lv_iload_n hx hb d_Val_wipe_5 rfl (lv_at hl 2 rfl) ?_
  refine ps_afterV (wc := [(k, .inr (cCol, [.int (nI lim), .ref qk])), (qk, .inl (cI, n1, .inl f1))]) (wr := [0, 3, 4].filterMap (fun z9 => ([(h, .inr (cVal, [.ref k, .ref x])), (k, .inr (cCol, [.int (nI lim), .ref qk])), (qk, .inl (cI, n1, .inl f1)), (x, .inr (cCol, [.int (nI lim), .ref qx])), (qx, .inl (cI, n2, .inl f2))] : va_W)[z9]?)) hP hD hS hA [1, 2] [0, 3, 4] rfl rfl (by decide) (by decide) (ps_runVV ⟨hx, hb, hml, hown, hts⟩ (c_wipe l dC dI cI tys ht k qk lim n1 f1 a b hz1 hn1 ha hb0) (ps_cwV ps_gd 2 hts tw_28 k_Col_wipe e_Col_wipe ⟨Nat.le_of_ble_eq_true rfl, Nat.le_of_ble_eq_true rfl⟩) hK hP hD [1, 2] (by decide) rfl 0 cCol rfl rfl rfl hl.1 rfl (Nat.le_of_ble_eq_true rfl) d_Val_wipe_6 ⟨Nat.zero_le _, Nat.zero_le _⟩) (fun u_1 H locs hu_1 hP hD hS => ?_)
  subst hu_1
  obtain ⟨hP, hD⟩ := ps_perm (ws' := [(h, .inr (cVal, [.ref k, .ref x])), (k, .inr (cCol, [.int (nI lim), .ref qk])), (qk, .inl (cI, n1, .inl (ps_fil f1 a b 0))), (x, .inr (cCol, [.int (nI lim), .ref qx])), (qx, .inl (cI, n2, .inl f2))]) hP hD [0, 3, 4, 1, 2] (by decide) rfl
  refine lv_aload_n hx hb d_Val_wipe_9 rfl (lv_at hl 0 rfl) ?_
  refine va_get (D := (dC, dI)) (ci := cVal) (v := .ref x) (C := R_Val) (T := F_Val) (N := 2) hx hb hts i_Val hown hK hP 0 rfl rfl 1 (by decide) (hts _ tw_27) (fun _ h9 => h9) rfl d_Val_wipe_10 ?_
  refine lv_iload_n hx hb d_Val_wipe_13 rfl (lv_at hl 1 rfl) ?_
  refine lv_iload_n hx hb d_Val_wipe_14 rfl (lv_at hl 2 rfl) ?_
  refine ps_afterV (wc := [(x, .inr (cCol, [.int (nI lim), .ref qx])), (qx, .inl (cI, n2, .inl f2))]) (wr := [0, 1, 2].filterMap (fun z9 => ([(h, .inr (cVal, [.ref k, .ref x])), (k, .inr (cCol, [.int (nI lim), .ref qk])), (qk, .inl (cI, n1, .inl (ps_fil f1 a b 0))), (x, .inr (cCol, [.int (nI lim), .ref qx])), (qx, .inl (cI, n2, .inl f2))] : va_W)[z9]?)) hP hD hS hA [3, 4] [0, 1, 2] rfl rfl (by decide) (by decide) (ps_runVV ⟨hx, hb, hml, hown, hts⟩ (c_wipe l dC dI cI tys ht x qx lim n2 f2 a b hz2 hn2 ha hb0) (ps_cwV ps_gd 2 hts tw_28 k_Col_wipe e_Col_wipe ⟨Nat.le_of_ble_eq_true rfl, Nat.le_of_ble_eq_true rfl⟩) hK hP hD [3, 4] (by decide) rfl 0 cCol rfl rfl rfl hl.1 rfl (Nat.le_of_ble_eq_true rfl) d_Val_wipe_15 ⟨Nat.zero_le _, Nat.zero_le _⟩) (fun u_3 H locs hu_3 hP hD hS => ?_)
  subst hu_3
  obtain ⟨hP, hD⟩ := ps_perm (ws' := [(h, .inr (cVal, [.ref k, .ref x])), (k, .inr (cCol, [.int (nI lim), .ref qk])), (qk, .inl (cI, n1, .inl (ps_fil f1 a b 0))), (x, .inr (cCol, [.int (nI lim), .ref qx])), (qx, .inl (cI, n2, .inl (ps_fil f2 a b 0)))]) hP hD [0, 1, 2, 3, 4] (by decide) rfl
  exact ps_vret hx hb hr hlocks hK hP hD hS (Nat.le_of_ble_eq_true rfl) (Nat.le_of_ble_eq_true rfl) d_Val_wipe_18 rfl

set_option maxHeartbeats 4000000 in
set_option maxRecDepth 100000 in
/-- c_rwrite -/
theorem c_rwrite (l : Launch) (dC : Nat → ClassId) (dI : Nat → Nat → Nat) (cI : ClassId) (tys : List (ClassId × FieldType)) (ht : tys[0]? = some (cI, FieldType.int)) (h k1 q1 k2 q2 k3 q3 lim n1 n2 n3 : Nat) (f1 f2 f3 : Nat → Int32) (i : Nat) (x1 x2 x3 : Int32) (hz1 : ps_Z n1 f1) (hz2 : ps_Z n2 f2) (hz3 : ps_Z n3 f3) (hlim : lim ≤ 65536) (hn1 : n1 ≤ lim) (hn2 : n2 ≤ lim) (hn3 : n3 ≤ lim) (hi : i < lim) : ps_mV classes l y_Row_write w_Row_write ({ frames := 3, cells := ps_dc lim n1 i + ps_dc lim n2 i + ps_dc lim n3 i, slots := ps_ds lim n1 i + ps_ds lim n2 i + ps_ds lim n3 i, locals := 63 }) (dC, dI) tys [.ref h, .int (nI i), .int x1, .int x2, .int x3] (pr_W cI h k1 q1 k2 q2 k3 q3 lim n1 n2 n3 f1 f2 f3) (fun u => ∃ p1 p2 p3 : Nat, u = pr_W cI h k1 p1 k2 p2 k3 p3 lim (ps_len lim n1 i) (ps_len lim n2 i) (ps_len lim n3 i) (upd f1 i x1) (upd f2 i x2) (upd f3 i x3)) := by
  refine ps_mV_of (by decide) rfl (Nat.le_of_ble_eq_true rfl) ?_
  intro p e s m below meth c A ls C0 hA hK hP hD hS hl
  obtain ⟨hx, hb, hr, hml, hts, hown, hlocks, hin⟩ := C0
  have hl : lv_has ls 5 [(0, .ref h), (1, .int (nI i)), (2, .int x1), (3, .int x2), (4, .int x3)] := hl
  have hP : va_P (dC, dI) classes [(h, .inr (cRow, [.ref k1, .ref k2, .ref k3])), (k1, .inr (cCol, [.int (nI lim), .ref q1])), (q1, .inl (cI, n1, .inl f1)), (k2, .inr (cCol, [.int (nI lim), .ref q2])), (q2, .inl (cI, n2, .inl f2)), (k3, .inr (cCol, [.int (nI lim), .ref q3])), (q3, .inl (cI, n3, .inl f3))] s.heap := hP
  have hD : va_D A [(h, .inr (cRow, [.ref k1, .ref k2, .ref k3])), (k1, .inr (cCol, [.int (nI lim), .ref q1])), (q1, .inl (cI, n1, .inl f1)), (k2, .inr (cCol, [.int (nI lim), .ref q2])), (q2, .inl (cI, n2, .inl f2)), (k3, .inr (cCol, [.int (nI lim), .ref q3])), (q3, .inl (cI, n3, .inl f3))] := hD
  refine lv_aload_n hx hb d_Row_write_0 rfl (lv_at hl 0 rfl) ?_
  refine va_get (D := (dC, dI)) (ci := cRow) (v := .ref k1) (C := R_Row) (T := F_Row) (N := 3) hx hb hts i_Row hown hK hP 0 rfl rfl 0 (by decide) (hts _ tw_29) (fun _ h9 => h9) rfl d_Row_write_1 ?_
  refine lv_iload_n hx hb d_Row_write_4 rfl (lv_at hl 1 rfl) ?_
  refine lv_iload_n hx hb d_Row_write_5 rfl (lv_at hl 2 rfl) ?_
  refine ps_afterV (wc := [(k1, .inr (cCol, [.int (nI lim), .ref q1])), (q1, .inl (cI, n1, .inl f1))]) (wr := [0, 3, 4, 5, 6].filterMap (fun z9 => ([(h, .inr (cRow, [.ref k1, .ref k2, .ref k3])), (k1, .inr (cCol, [.int (nI lim), .ref q1])), (q1, .inl (cI, n1, .inl f1)), (k2, .inr (cCol, [.int (nI lim), .ref q2])), (q2, .inl (cI, n2, .inl f2)), (k3, .inr (cCol, [.int (nI lim), .ref q3])), (q3, .inl (cI, n3, .inl f3))] : va_W)[z9]?)) hP hD hS hA [1, 2] [0, 3, 4, 5, 6] rfl rfl (by decide) (by decide) (ps_runVV ⟨hx, hb, hml, hown, hts⟩ (c_put l dC dI cI tys ht k1 q1 lim n1 f1 i x1 hz1 hlim hn1 hi) (ps_cwV ps_gd 2 hts tw_30 k_Col_put e_Col_put ⟨Nat.le_of_ble_eq_true rfl, Nat.le_of_ble_eq_true rfl⟩) hK hP hD [1, 2] (by decide) rfl 0 cCol rfl rfl rfl hl.1 rfl (Nat.le_of_ble_eq_true rfl) d_Row_write_6 ⟨by show 0 + ps_dc lim n1 i ≤ ps_dc lim n1 i + ps_dc lim n2 i + ps_dc lim n3 i; omega, by show 0 + ps_ds lim n1 i ≤ ps_ds lim n1 i + ps_ds lim n2 i + ps_ds lim n3 i; omega⟩) (fun u_1 H locs hu_1 hP hD hS => ?_)
  obtain ⟨q_3, hu_1⟩ := hu_1
  subst hu_1
  obtain ⟨hP, hD⟩ := ps_perm (ws' := [(h, .inr (cRow, [.ref k1, .ref k2, .ref k3])), (k1, .inr (cCol, [.int (nI lim), .ref q_3])), (q_3, .inl (cI, ps_len lim n1 i, .inl (upd f1 i x1))), (k2, .inr (cCol, [.int (nI lim), .ref q2])), (q2, .inl (cI, n2, .inl f2)), (k3, .inr (cCol, [.int (nI lim), .ref q3])), (q3, .inl (cI, n3, .inl f3))]) hP hD [0, 5, 6, 1, 2, 3, 4] (by decide) rfl
  refine lv_aload_n hx hb d_Row_write_9 rfl (lv_at hl 0 rfl) ?_
  refine va_get (D := (dC, dI)) (ci := cRow) (v := .ref k2) (C := R_Row) (T := F_Row) (N := 3) hx hb hts i_Row hown hK hP 0 rfl rfl 1 (by decide) (hts _ tw_31) (fun _ h9 => h9) rfl d_Row_write_10 ?_
  refine lv_iload_n hx hb d_Row_write_13 rfl (lv_at hl 1 rfl) ?_
  refine lv_iload_n hx hb d_Row_write_14 rfl (lv_at hl 3 rfl) ?_
  refine ps_afterV (wc := [(k2, .inr (cCol, [.int (nI lim), .ref q2])), (q2, .inl (cI, n2, .inl f2))]) (wr := [0, 1, 2, 5, 6].filterMap (fun z9 => ([(h, .inr (cRow, [.ref k1, .ref k2, .ref k3])), (k1, .inr (cCol, [.int (nI lim), .ref q_3])), (q_3, .inl (cI, ps_len lim n1 i, .inl (upd f1 i x1))), (k2, .inr (cCol, [.int (nI lim), .ref q2])), (q2, .inl (cI, n2, .inl f2)), (k3, .inr (cCol, [.int (nI lim), .ref q3])), (q3, .inl (cI, n3, .inl f3))] : va_W)[z9]?)) hP hD hS hA [3, 4] [0, 1, 2, 5, 6] rfl rfl (by decide) (by decide) (ps_runVV ⟨hx, hb, hml, hown, hts⟩ (c_put l dC dI cI tys ht k2 q2 lim n2 f2 i x2 hz2 hlim hn2 hi) (ps_cwV ps_gd 2 hts tw_30 k_Col_put e_Col_put ⟨Nat.le_of_ble_eq_true rfl, Nat.le_of_ble_eq_true rfl⟩) hK hP hD [3, 4] (by decide) rfl 0 cCol rfl rfl rfl hl.1 rfl (Nat.le_of_ble_eq_true rfl) d_Row_write_15 ⟨by show 0 + ps_dc lim n1 i + ps_dc lim n2 i ≤ ps_dc lim n1 i + ps_dc lim n2 i + ps_dc lim n3 i; omega, by show 0 + ps_ds lim n1 i + ps_ds lim n2 i ≤ ps_ds lim n1 i + ps_ds lim n2 i + ps_ds lim n3 i; omega⟩) (fun u_4 H locs hu_4 hP hD hS => ?_)
  obtain ⟨q_6, hu_4⟩ := hu_4
  subst hu_4
  obtain ⟨hP, hD⟩ := ps_perm (ws' := [(h, .inr (cRow, [.ref k1, .ref k2, .ref k3])), (k1, .inr (cCol, [.int (nI lim), .ref q_3])), (q_3, .inl (cI, ps_len lim n1 i, .inl (upd f1 i x1))), (k2, .inr (cCol, [.int (nI lim), .ref q_6])), (q_6, .inl (cI, ps_len lim n2 i, .inl (upd f2 i x2))), (k3, .inr (cCol, [.int (nI lim), .ref q3])), (q3, .inl (cI, n3, .inl f3))]) hP hD [0, 1, 2, 5, 6, 3, 4] (by decide) rfl
  refine lv_aload_n hx hb d_Row_write_18 rfl (lv_at hl 0 rfl) ?_
  refine va_get (D := (dC, dI)) (ci := cRow) (v := .ref k3) (C := R_Row) (T := F_Row) (N := 3) hx hb hts i_Row hown hK hP 0 rfl rfl 2 (by decide) (hts _ tw_32) (fun _ h9 => h9) rfl d_Row_write_19 ?_
  refine lv_iload_n hx hb d_Row_write_22 rfl (lv_at hl 1 rfl) ?_
  refine lv_iload hx hb d_Row_write_23 (lv_at hl 4 rfl) ?_
  refine ps_afterV (wc := [(k3, .inr (cCol, [.int (nI lim), .ref q3])), (q3, .inl (cI, n3, .inl f3))]) (wr := [0, 1, 2, 3, 4].filterMap (fun z9 => ([(h, .inr (cRow, [.ref k1, .ref k2, .ref k3])), (k1, .inr (cCol, [.int (nI lim), .ref q_3])), (q_3, .inl (cI, ps_len lim n1 i, .inl (upd f1 i x1))), (k2, .inr (cCol, [.int (nI lim), .ref q_6])), (q_6, .inl (cI, ps_len lim n2 i, .inl (upd f2 i x2))), (k3, .inr (cCol, [.int (nI lim), .ref q3])), (q3, .inl (cI, n3, .inl f3))] : va_W)[z9]?)) hP hD hS hA [5, 6] [0, 1, 2, 3, 4] rfl rfl (by decide) (by decide) (ps_runVV ⟨hx, hb, hml, hown, hts⟩ (c_put l dC dI cI tys ht k3 q3 lim n3 f3 i x3 hz3 hlim hn3 hi) (ps_cwV ps_gd 2 hts tw_30 k_Col_put e_Col_put ⟨Nat.le_of_ble_eq_true rfl, Nat.le_of_ble_eq_true rfl⟩) hK hP hD [5, 6] (by decide) rfl 0 cCol rfl rfl rfl hl.1 rfl (Nat.le_of_ble_eq_true rfl) d_Row_write_25 ⟨by show 0 + ps_dc lim n1 i + ps_dc lim n2 i + ps_dc lim n3 i ≤ ps_dc lim n1 i + ps_dc lim n2 i + ps_dc lim n3 i; omega, by show 0 + ps_ds lim n1 i + ps_ds lim n2 i + ps_ds lim n3 i ≤ ps_ds lim n1 i + ps_ds lim n2 i + ps_ds lim n3 i; omega⟩) (fun u_7 H locs hu_7 hP hD hS => ?_)
  obtain ⟨q_9, hu_7⟩ := hu_7
  subst hu_7
  obtain ⟨hP, hD⟩ := ps_perm (ws' := [(h, .inr (cRow, [.ref k1, .ref k2, .ref k3])), (k1, .inr (cCol, [.int (nI lim), .ref q_3])), (q_3, .inl (cI, ps_len lim n1 i, .inl (upd f1 i x1))), (k2, .inr (cCol, [.int (nI lim), .ref q_6])), (q_6, .inl (cI, ps_len lim n2 i, .inl (upd f2 i x2))), (k3, .inr (cCol, [.int (nI lim), .ref q_9])), (q_9, .inl (cI, ps_len lim n3 i, .inl (upd f3 i x3)))]) hP hD [0, 1, 2, 3, 4, 5, 6] (by decide) rfl
  exact ps_vret hx hb hr hlocks hK hP hD hS (by show 0 + ps_dc lim n1 i + ps_dc lim n2 i + ps_dc lim n3 i ≤ ps_dc lim n1 i + ps_dc lim n2 i + ps_dc lim n3 i; omega) (by show 0 + ps_ds lim n1 i + ps_ds lim n2 i + ps_ds lim n3 i ≤ ps_ds lim n1 i + ps_ds lim n2 i + ps_ds lim n3 i; omega) d_Row_write_28 (⟨q_3, q_6, q_9, rfl⟩)

set_option maxHeartbeats 4000000 in
set_option maxRecDepth 100000 in
/-- c_kwrite -/
theorem c_kwrite (l : Launch) (dC : Nat → ClassId) (dI : Nat → Nat → Nat) (cI : ClassId) (tys : List (ClassId × FieldType)) (ht : tys[0]? = some (cI, FieldType.int)) (h k1 q1 k2 q2 k3 q3 lim n1 n2 n3 : Nat) (f1 f2 f3 : Nat → Int32) (hv : Nat) (i : Nat) (x1 x2 x3 : Int32) (hz1 : ps_Z n1 f1) (hz2 : ps_Z n2 f2) (hz3 : ps_Z n3 f3) (hlim : lim ≤ 65536) (hn1 : n1 ≤ lim) (hn2 : n2 ≤ lim) (hn3 : n3 ≤ lim) (hi : i < lim) : ps_mV classes l y_Key_write w_Key_write ({ frames := 3, cells := ps_dc lim n1 i + ps_dc lim n2 i + ps_dc lim n3 i, slots := ps_ds lim n1 i + ps_ds lim n2 i + ps_ds lim n3 i, locals := 63 }) (dC, dI) tys [.ref h, .int (nI i), .int x1, .int x2, .int x3] (pk_W cI h hv k1 q1 k2 q2 k3 q3 lim n1 n2 n3 f1 f2 f3) (fun u => ∃ p1 p2 p3 : Nat, u = pk_W cI h hv k1 p1 k2 p2 k3 p3 lim (ps_len lim n1 i) (ps_len lim n2 i) (ps_len lim n3 i) (upd f1 i x1) (upd f2 i x2) (upd f3 i x3)) := by
  refine ps_mV_of (by decide) rfl (Nat.le_of_ble_eq_true rfl) ?_
  intro p e s m below meth c A ls C0 hA hK hP hD hS hl
  obtain ⟨hx, hb, hr, hml, hts, hown, hlocks, hin⟩ := C0
  have hl : lv_has ls 5 [(0, .ref h), (1, .int (nI i)), (2, .int x1), (3, .int x2), (4, .int x3)] := hl
  have hP : va_P (dC, dI) classes [(h, .inr (cKey, [.ref k1, .ref k2, .ref k3, .ref hv])), (k1, .inr (cCol, [.int (nI lim), .ref q1])), (q1, .inl (cI, n1, .inl f1)), (k2, .inr (cCol, [.int (nI lim), .ref q2])), (q2, .inl (cI, n2, .inl f2)), (k3, .inr (cCol, [.int (nI lim), .ref q3])), (q3, .inl (cI, n3, .inl f3))] s.heap := hP
  have hD : va_D A [(h, .inr (cKey, [.ref k1, .ref k2, .ref k3, .ref hv])), (k1, .inr (cCol, [.int (nI lim), .ref q1])), (q1, .inl (cI, n1, .inl f1)), (k2, .inr (cCol, [.int (nI lim), .ref q2])), (q2, .inl (cI, n2, .inl f2)), (k3, .inr (cCol, [.int (nI lim), .ref q3])), (q3, .inl (cI, n3, .inl f3))] := hD
  refine lv_aload_n hx hb d_Key_write_0 rfl (lv_at hl 0 rfl) ?_
  refine va_get (D := (dC, dI)) (ci := cKey) (v := .ref k1) (C := R_Key) (T := F_Key) (N := 4) hx hb hts i_Key hown hK hP 0 rfl rfl 0 (by decide) (hts _ tw_33) (fun _ h9 => h9) rfl d_Key_write_1 ?_
  refine lv_iload_n hx hb d_Key_write_4 rfl (lv_at hl 1 rfl) ?_
  refine lv_iload_n hx hb d_Key_write_5 rfl (lv_at hl 2 rfl) ?_
  refine ps_afterV (wc := [(k1, .inr (cCol, [.int (nI lim), .ref q1])), (q1, .inl (cI, n1, .inl f1))]) (wr := [0, 3, 4, 5, 6].filterMap (fun z9 => ([(h, .inr (cKey, [.ref k1, .ref k2, .ref k3, .ref hv])), (k1, .inr (cCol, [.int (nI lim), .ref q1])), (q1, .inl (cI, n1, .inl f1)), (k2, .inr (cCol, [.int (nI lim), .ref q2])), (q2, .inl (cI, n2, .inl f2)), (k3, .inr (cCol, [.int (nI lim), .ref q3])), (q3, .inl (cI, n3, .inl f3))] : va_W)[z9]?)) hP hD hS hA [1, 2] [0, 3, 4, 5, 6] rfl rfl (by decide) (by decide) (ps_runVV ⟨hx, hb, hml, hown, hts⟩ (c_put l dC dI cI tys ht k1 q1 lim n1 f1 i x1 hz1 hlim hn1 hi) (ps_cwV ps_gd 2 hts tw_34 k_Col_put e_Col_put ⟨Nat.le_of_ble_eq_true rfl, Nat.le_of_ble_eq_true rfl⟩) hK hP hD [1, 2] (by decide) rfl 0 cCol rfl rfl rfl hl.1 rfl (Nat.le_of_ble_eq_true rfl) d_Key_write_6 ⟨by show 0 + ps_dc lim n1 i ≤ ps_dc lim n1 i + ps_dc lim n2 i + ps_dc lim n3 i; omega, by show 0 + ps_ds lim n1 i ≤ ps_ds lim n1 i + ps_ds lim n2 i + ps_ds lim n3 i; omega⟩) (fun u_1 H locs hu_1 hP hD hS => ?_)
  obtain ⟨q_3, hu_1⟩ := hu_1
  subst hu_1
  obtain ⟨hP, hD⟩ := ps_perm (ws' := [(h, .inr (cKey, [.ref k1, .ref k2, .ref k3, .ref hv])), (k1, .inr (cCol, [.int (nI lim), .ref q_3])), (q_3, .inl (cI, ps_len lim n1 i, .inl (upd f1 i x1))), (k2, .inr (cCol, [.int (nI lim), .ref q2])), (q2, .inl (cI, n2, .inl f2)), (k3, .inr (cCol, [.int (nI lim), .ref q3])), (q3, .inl (cI, n3, .inl f3))]) hP hD [0, 5, 6, 1, 2, 3, 4] (by decide) rfl
  refine lv_aload_n hx hb d_Key_write_9 rfl (lv_at hl 0 rfl) ?_
  refine va_get (D := (dC, dI)) (ci := cKey) (v := .ref k2) (C := R_Key) (T := F_Key) (N := 4) hx hb hts i_Key hown hK hP 0 rfl rfl 1 (by decide) (hts _ tw_35) (fun _ h9 => h9) rfl d_Key_write_10 ?_
  refine lv_iload_n hx hb d_Key_write_13 rfl (lv_at hl 1 rfl) ?_
  refine lv_iload_n hx hb d_Key_write_14 rfl (lv_at hl 3 rfl) ?_
  refine ps_afterV (wc := [(k2, .inr (cCol, [.int (nI lim), .ref q2])), (q2, .inl (cI, n2, .inl f2))]) (wr := [0, 1, 2, 5, 6].filterMap (fun z9 => ([(h, .inr (cKey, [.ref k1, .ref k2, .ref k3, .ref hv])), (k1, .inr (cCol, [.int (nI lim), .ref q_3])), (q_3, .inl (cI, ps_len lim n1 i, .inl (upd f1 i x1))), (k2, .inr (cCol, [.int (nI lim), .ref q2])), (q2, .inl (cI, n2, .inl f2)), (k3, .inr (cCol, [.int (nI lim), .ref q3])), (q3, .inl (cI, n3, .inl f3))] : va_W)[z9]?)) hP hD hS hA [3, 4] [0, 1, 2, 5, 6] rfl rfl (by decide) (by decide) (ps_runVV ⟨hx, hb, hml, hown, hts⟩ (c_put l dC dI cI tys ht k2 q2 lim n2 f2 i x2 hz2 hlim hn2 hi) (ps_cwV ps_gd 2 hts tw_34 k_Col_put e_Col_put ⟨Nat.le_of_ble_eq_true rfl, Nat.le_of_ble_eq_true rfl⟩) hK hP hD [3, 4] (by decide) rfl 0 cCol rfl rfl rfl hl.1 rfl (Nat.le_of_ble_eq_true rfl) d_Key_write_15 ⟨by show 0 + ps_dc lim n1 i + ps_dc lim n2 i ≤ ps_dc lim n1 i + ps_dc lim n2 i + ps_dc lim n3 i; omega, by show 0 + ps_ds lim n1 i + ps_ds lim n2 i ≤ ps_ds lim n1 i + ps_ds lim n2 i + ps_ds lim n3 i; omega⟩) (fun u_4 H locs hu_4 hP hD hS => ?_)
  obtain ⟨q_6, hu_4⟩ := hu_4
  subst hu_4
  obtain ⟨hP, hD⟩ := ps_perm (ws' := [(h, .inr (cKey, [.ref k1, .ref k2, .ref k3, .ref hv])), (k1, .inr (cCol, [.int (nI lim), .ref q_3])), (q_3, .inl (cI, ps_len lim n1 i, .inl (upd f1 i x1))), (k2, .inr (cCol, [.int (nI lim), .ref q_6])), (q_6, .inl (cI, ps_len lim n2 i, .inl (upd f2 i x2))), (k3, .inr (cCol, [.int (nI lim), .ref q3])), (q3, .inl (cI, n3, .inl f3))]) hP hD [0, 1, 2, 5, 6, 3, 4] (by decide) rfl
  refine lv_aload_n hx hb d_Key_write_18 rfl (lv_at hl 0 rfl) ?_
  refine va_get (D := (dC, dI)) (ci := cKey) (v := .ref k3) (C := R_Key) (T := F_Key) (N := 4) hx hb hts i_Key hown hK hP 0 rfl rfl 2 (by decide) (hts _ tw_36) (fun _ h9 => h9) rfl d_Key_write_19 ?_
  refine lv_iload_n hx hb d_Key_write_22 rfl (lv_at hl 1 rfl) ?_
  refine lv_iload hx hb d_Key_write_23 (lv_at hl 4 rfl) ?_
  refine ps_afterV (wc := [(k3, .inr (cCol, [.int (nI lim), .ref q3])), (q3, .inl (cI, n3, .inl f3))]) (wr := [0, 1, 2, 3, 4].filterMap (fun z9 => ([(h, .inr (cKey, [.ref k1, .ref k2, .ref k3, .ref hv])), (k1, .inr (cCol, [.int (nI lim), .ref q_3])), (q_3, .inl (cI, ps_len lim n1 i, .inl (upd f1 i x1))), (k2, .inr (cCol, [.int (nI lim), .ref q_6])), (q_6, .inl (cI, ps_len lim n2 i, .inl (upd f2 i x2))), (k3, .inr (cCol, [.int (nI lim), .ref q3])), (q3, .inl (cI, n3, .inl f3))] : va_W)[z9]?)) hP hD hS hA [5, 6] [0, 1, 2, 3, 4] rfl rfl (by decide) (by decide) (ps_runVV ⟨hx, hb, hml, hown, hts⟩ (c_put l dC dI cI tys ht k3 q3 lim n3 f3 i x3 hz3 hlim hn3 hi) (ps_cwV ps_gd 2 hts tw_34 k_Col_put e_Col_put ⟨Nat.le_of_ble_eq_true rfl, Nat.le_of_ble_eq_true rfl⟩) hK hP hD [5, 6] (by decide) rfl 0 cCol rfl rfl rfl hl.1 rfl (Nat.le_of_ble_eq_true rfl) d_Key_write_25 ⟨by show 0 + ps_dc lim n1 i + ps_dc lim n2 i + ps_dc lim n3 i ≤ ps_dc lim n1 i + ps_dc lim n2 i + ps_dc lim n3 i; omega, by show 0 + ps_ds lim n1 i + ps_ds lim n2 i + ps_ds lim n3 i ≤ ps_ds lim n1 i + ps_ds lim n2 i + ps_ds lim n3 i; omega⟩) (fun u_7 H locs hu_7 hP hD hS => ?_)
  obtain ⟨q_9, hu_7⟩ := hu_7
  subst hu_7
  obtain ⟨hP, hD⟩ := ps_perm (ws' := [(h, .inr (cKey, [.ref k1, .ref k2, .ref k3, .ref hv])), (k1, .inr (cCol, [.int (nI lim), .ref q_3])), (q_3, .inl (cI, ps_len lim n1 i, .inl (upd f1 i x1))), (k2, .inr (cCol, [.int (nI lim), .ref q_6])), (q_6, .inl (cI, ps_len lim n2 i, .inl (upd f2 i x2))), (k3, .inr (cCol, [.int (nI lim), .ref q_9])), (q_9, .inl (cI, ps_len lim n3 i, .inl (upd f3 i x3)))]) hP hD [0, 1, 2, 3, 4, 5, 6] (by decide) rfl
  exact ps_vret hx hb hr hlocks hK hP hD hS (by show 0 + ps_dc lim n1 i + ps_dc lim n2 i + ps_dc lim n3 i ≤ ps_dc lim n1 i + ps_dc lim n2 i + ps_dc lim n3 i; omega) (by show 0 + ps_ds lim n1 i + ps_ds lim n2 i + ps_ds lim n3 i ≤ ps_ds lim n1 i + ps_ds lim n2 i + ps_ds lim n3 i; omega) d_Key_write_28 (⟨q_3, q_6, q_9, rfl⟩)
