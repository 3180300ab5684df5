theorem tw_118 : (.constant "PageStore" 31 32768 : Cond) ∈ ps_tbl := ps_t1 56 rfl rfl
theorem tw_119 : (.methodLink "PageStore" 55 ⟨"PageStore", "noRowLeft", "()Z"⟩ : Cond) ∈ ps_tbl := ps_t1 161 rfl rfl
theorem tw_120 : (.methodLink "PageStore" 59 ⟨"PageStore$Values", "wipe", "(II)V"⟩ : Cond) ∈ ps_tbl := ps_t1 165 rfl rfl
theorem tw_121 : (.methodLink "PageStore" 63 ⟨"PageStore", "addRow", "(III)I"⟩ : Cond) ∈ ps_tbl := ps_t1 182 rfl rfl
theorem tw_122 : (.constant "PageStore" 37 65536 : Cond) ∈ ps_tbl := ps_t1 75 rfl rfl
theorem tw_123 : (.fieldLink "PageStore" 38 "PageStore" "octets" "LPageStore$Column;" : Cond) ∈ ps_tbl := ps_t1 131 rfl rfl
theorem tw_124 : (.methodLink "PageStore" 67 ⟨"PageStore$Column", "wipe", "(II)V"⟩ : Cond) ∈ ps_tbl := ps_t1 215 rfl rfl
theorem tw_125 : (.instanceMethod ⟨"PageStore", "noRowLeft", "()Z"⟩ : Cond) ∈ ps_tbl := ps_t1 163 rfl rfl
theorem tw_126 : (.selects "PageStore" ⟨"PageStore", "noRowLeft", "()Z"⟩ ⟨"PageStore", "noRowLeft", "()Z"⟩ : Cond) ∈ ps_tbl := ps_ts (y := ⟨"PageStore", "noRowLeft", "()Z"⟩) (n := 10) 0 rfl rfl
theorem tw_127 : (.code ⟨"PageStore", "noRowLeft", "()Z"⟩ prog_1_method_28_code 1 (some .boolean) : Cond) ∈ ps_tbl := ps_t1 164 rfl rfl
theorem tw_128 : (.instanceMethod ⟨"PageStore$Values", "wipe", "(II)V"⟩ : Cond) ∈ ps_tbl := ps_t1 166 rfl rfl
theorem tw_129 : (.selects "PageStore$Values" ⟨"PageStore$Values", "wipe", "(II)V"⟩ ⟨"PageStore$Values", "wipe", "(II)V"⟩ : Cond) ∈ ps_tbl := ps_t1 167 rfl rfl
theorem tw_130 : (.code ⟨"PageStore$Values", "wipe", "(II)V"⟩ prog_6_method_3_code 3 none : Cond) ∈ ps_tbl := ps_t1 168 rfl rfl
theorem tw_131 : (.instanceMethod ⟨"PageStore", "addRow", "(III)I"⟩ : Cond) ∈ ps_tbl := ps_t1 184 rfl rfl
theorem tw_132 : (.selects "PageStore" ⟨"PageStore", "addRow", "(III)I"⟩ ⟨"PageStore", "addRow", "(III)I"⟩ : Cond) ∈ ps_tbl := ps_ts (y := ⟨"PageStore", "addRow", "(III)I"⟩) (n := 10) 1 rfl rfl
theorem tw_133 : (.code ⟨"PageStore", "addRow", "(III)I"⟩ prog_1_method_29_code 4 (some .int) : Cond) ∈ ps_tbl := ps_t1 185 rfl rfl
theorem k_PS_noRowLeft : ps_cdV ps_tbl y_PS_noRowLeft prog_1_method_28_code 1 (some .boolean) := ⟨tw_125, tw_126, tw_108, tw_127⟩
theorem k_Val_wipe : ps_cdV ps_tbl y_Val_wipe prog_6_method_3_code 3 none := ⟨tw_128, tw_129, tw_69, tw_130⟩
theorem k_PS_addRow : ps_cdV ps_tbl y_PS_addRow prog_1_method_29_code 4 (some .int) := ⟨tw_131, tw_132, tw_108, tw_133⟩
set_option maxHeartbeats 4000000 in
set_option maxRecDepth 100000 in
/-- PageStore.values -/
theorem c_values (l : Launch) (dC : Nat → ClassId) (dI : Nat → Nat → Nat) (cI : ClassId) (tys : List (ClassId × FieldType)) (ht : tys[0]? = some (cI, FieldType.int)) (a q K : Nat → Nat) (S : Nat) (ck cu : Int32) (F : Nat → Nat → Int32) (N : Nat → Nat) (hw : ps_wf F N) (hKb : ∀ j, K j ≤ 65536) (hSb : S ≤ 15) (n : Int32) (hk1 : K 1 ≤ 32768) (mc ms : Nat) (hm : ¬ (n < 0 ∨ nI 32768 < n) → ¬ (16384 ≤ K 0 ∨ 32768 < K 1 + n.toNatClampNeg) → ps_rc N (K 0 + 1) ≤ mc ∧ ps_rs N (K 0 + 1) ≤ ms) : ps_mI classes l y_PS_values w_PS_values ({ frames := 5, cells := mc, slots := ms, locals := 110 }) (dC, dI) tys [.ref (a 0), .int n] (pw cI a q K S ck cu F N) (fun r u => ps_c (n < 0 ∨ nI 32768 < n) (r = -1 ∧ u = pw cI a q K S ck cu F N) (ps_c (16384 ≤ K 0 ∨ 32768 < K 1 + n.toNatClampNeg) (r = -3 ∧ u = pw cI a q K S ck cu F N) (∃ q1 : Nat → Nat, r = nI (K 0 + 1) ∧ u = pw cI a q1 (va_up (va_up K 1 (K 1 + n.toNatClampNeg)) 0 (K 0 + 1)) S ck cu (ps_Fr (ps_w (ps_w F 2 (K 1) (K 1 + n.toNatClampNeg)) 3 (K 1) (K 1 + n.toNatClampNeg)) (K 0 + 1) (nI 1) (nI (K 1)) n) (ps_Nr N (K 0 + 1))))) := by
  refine ps_mI_of (by decide) rfl (Nat.le_of_ble_eq_true rfl) ?_
  intro p e s m below meth c A ls C0 hA hK hP hD hS hl
  obtain ⟨hx, hb, hr, hml, hts, hown, hlocks, hin⟩ := C0
  have hl : lv_has ls 3 [(0, .ref (a 0)), (1, .int n)] := hl
  have hP : va_P (dC, dI) classes (pw cI a q K S ck cu F N) s.heap := hP
  have hD : va_D A (pw cI a q K S ck cu F N) := hD
  refine lv_iload_n hx hb d_PS_values_0 rfl (lv_at hl 1 rfl) ?_
  refine lv_if_lt (tgt := 10) hx hb d_PS_values_1 (by decide) (fun c_1 => ?_) (fun c_1 => ?_)
  · refine lv_iconst (v := (-1)) hx hb d_PS_values_10 (by decide) ?_
    exact ps_iret hx hb hr hlocks hK hP hD hS (Nat.zero_le _) (Nat.zero_le _) d_PS_values_11 (ps_cy (Or.inl c_1) ⟨rfl, rfl⟩)
  · refine lv_iload_n hx hb d_PS_values_4 rfl (lv_at hl 1 rfl) ?_
    refine lv_ldc (v := 32768) hx hb hown (hts _ tw_118) d_PS_values_5 ?_
    refine ps_top (z := nI 32768) (by decide) ?_
    refine lv_icmp_le (tgt := 12) hx hb d_PS_values_7 (by decide) (fun c_2 => ?_) (fun c_2 => ?_)
    · obtain ⟨n0, hn0, rfl⟩ := nI_of c_1
      have c_2 : n0 ≤ 32768 := (nI_leI hn0 (by decide)).mp c_2
      rw [nI_clamp hn0] at hm ⊢
      have hna : ¬ (nI n0 < 0 ∨ nI 32768 < nI n0) := fun q => q.elim (nI_pos hn0) (nI_nlt (by omega) (by decide))
      refine lv_aload_n hx hb d_PS_values_12 rfl (lv_at hl 0 rfl) ?_
      refine va_get (D := (dC, dI)) (ci := cPS) (v := .ref (a 1)) (C := R_PS) (T := F_PS) (N := 10) hx hb hts i_PS hown hK hP 0 rfl rfl 0 (by decide) (hts _ tw_97) (fun _ h9 => h9) rfl d_PS_values_13 ?_
      refine lv_iconst (v := nI 1) hx hb d_PS_values_16 (by decide) ?_
      refine va_iald hx hb hK hP 1 0 rfl ht (vp_in_nI (show 1 < 6 by decide) (by decide)) d_PS_values_17 ?_
      refine ps_top (z := nI (K 1)) (ps_kat _ 1 (by decide)) ?_
      refine lv_istore_n (lv' := [(2, .int (nI (K 1))), (0, .ref (a 0)), (1, .int (nI n0))]) hx hb d_PS_values_18 rfl hl (by decide) rfl (fun ls hl => ?_)
      refine lv_aload_n hx hb d_PS_values_19 rfl (lv_at hl 1 rfl) ?_
      refine ps_readI (wc := (pw cI a q K S ck cu F N)) hP hD hS hA [0, 1, 2, 3, 4, 5, 6, 7, 8, 9, 10, 11, 12, 13, 14, 15, 16, 17, 18, 19, 20, 21, 22, 23, 24, 25, 26, 27, 28, 29, 30, 31, 32, 33, 34, 35, 36, 37, 38, 39] rfl (fun _ _ h => h.1) (ps_runVI ⟨hx, hb, hml, hown, hts⟩ (c_noRow l dC dI cI tys ht a q K S ck cu F N hw hKb hSb) (ps_cwV ps_gd 0 hts tw_119 k_PS_noRowLeft e_PS_noRowLeft ⟨Nat.le_of_ble_eq_true rfl, Nat.le_of_ble_eq_true rfl⟩) hK hP hD [0, 1, 2, 3, 4, 5, 6, 7, 8, 9, 10, 11, 12, 13, 14, 15, 16, 17, 18, 19, 20, 21, 22, 23, 24, 25, 26, 27, 28, 29, 30, 31, 32, 33, 34, 35, 36, 37, 38, 39] (by decide) rfl 0 cPS rfl rfl rfl hl.1 rfl (Nat.le_of_ble_eq_true rfl) d_PS_values_20 ⟨Nat.zero_le _, Nat.zero_le _⟩) (fun r_3 H locs hr_3 hP hS => ?_)
      obtain ⟨-, hr_3⟩ := hr_3
      subst hr_3
      refine lv_if_ne (tgt := 34) hx hb d_PS_values_23 (by decide) (fun c_4 => ?_) (fun c_4 => ?_)
      · have c_4 := ps_ite1 c_4
        refine lv_bipush (v := (-3)) hx hb d_PS_values_34 (by decide) ?_
        exact ps_iret hx hb hr hlocks hK hP hD hS (Nat.zero_le _) (Nat.zero_le _) d_PS_values_36 (ps_cn hna (ps_cy (by omega) ⟨rfl, rfl⟩))
      · have c_4 := ps_ite0 c_4
        refine lv_iload_n hx hb d_PS_values_26 rfl (lv_at hl 2 rfl) ?_
        refine lv_ldc (v := 32768) hx hb hown (hts _ tw_118) d_PS_values_27 ?_
        refine ps_top (z := nI 32768) (by decide) ?_
        refine lv_iload_n hx hb d_PS_values_29 rfl (lv_at hl 0 rfl) ?_
        refine lv_isub hx hb d_PS_values_30 ?_
        refine ps_top (z := nI (32768 - (K 1))) (pk_sub (by have h0 := hKb 0; have h1 := hKb 1; have h2 := hKb 2; have h3 := hKb 3; have h4 := hKb 4; have h5 := hKb 5; omega)) ?_
        refine lv_icmp_le (tgt := 37) hx hb d_PS_values_31 (by decide) (fun c_5 => ?_) (fun c_5 => ?_)
        · have c_5 : n0 ≤ 32768 - (K 1) := (nI_leI (by have h0 := hKb 0; have h1 := hKb 1; have h2 := hKb 2; have h3 := hKb 3; have h4 := hKb 4; have h5 := hKb 5; omega) (by have h0 := hKb 0; have h1 := hKb 1; have h2 := hKb 2; have h3 := hKb 3; have h4 := hKb 4; have h5 := hKb 5; omega)).mp c_5
          refine lv_aload_n hx hb d_PS_values_37 rfl (lv_at hl 1 rfl) ?_
          refine va_get (D := (dC, dI)) (ci := cPS) (v := .ref (a 3)) (C := R_PS) (T := F_PS) (N := 10) hx hb hts i_PS hown hK hP 0 rfl rfl 4 (by decide) (hts _ tw_103) (fun _ h9 => h9) rfl d_PS_values_38 ?_
          refine lv_iload_n hx hb d_PS_values_41 rfl (lv_at hl 0 rfl) ?_
          refine lv_iload_n hx hb d_PS_values_42 rfl (lv_at hl 0 rfl) ?_
          refine lv_iload_n hx hb d_PS_values_43 rfl (lv_at hl 2 rfl) ?_
          refine lv_iadd hx hb d_PS_values_44 ?_
          refine ps_top (z := nI (K 1 + n0)) (nI_add _ _) ?_
          refine ps_afterV (wc := [(a 3, .inr (cVal, [.ref (a 10), .ref (a 11)])), (a 10, .inr (cCol, [.int (nI 32768), .ref (q 2)])), (q 2, .inl (cI, N 2, .inl (F 2))), (a 11, .inr (cCol, [.int (nI 32768), .ref (q 3)])), (q 3, .inl (cI, N 3, .inl (F 3)))]) (wr := [0, 1, 2, 4, 5, 6, 7, 8, 9, 10, 11, 16, 17, 18, 19, 20, 21, 22, 23, 24, 25, 26, 27, 28, 29, 30, 31, 32, 33, 34, 35, 36, 37, 38, 39].filterMap (fun z9 => ((pw cI a q K S ck cu F N) : va_W)[z9]?)) hP hD hS hA [3, 12, 13, 14, 15] [0, 1, 2, 4, 5, 6, 7, 8, 9, 10, 11, 16, 17, 18, 19, 20, 21, 22, 23, 24, 25, 26, 27, 28, 29, 30, 31, 32, 33, 34, 35, 36, 37, 38, 39] rfl rfl (by decide) (by decide) (ps_runVV ⟨hx, hb, hml, hown, hts⟩ (c_vwipe l dC dI cI tys ht (a 3) (a 10) (q 2) (a 11) (q 3) 32768 (N 2) (N 3) (F 2) (F 3) (K 1) (K 1 + n0) (hw.z 2 (by decide)) (hw.z 3 (by decide)) (hw.n 2 (by decide)) (hw.n 3 (by decide)) (by omega) (by omega)) (ps_cwV ps_gd 2 hts tw_120 k_Val_wipe e_Val_wipe ⟨Nat.le_of_ble_eq_true rfl, Nat.le_of_ble_eq_true rfl⟩) hK hP hD [3, 12, 13, 14, 15] (by decide) rfl 0 cVal rfl rfl rfl hl.1 rfl (Nat.le_of_ble_eq_true rfl) d_PS_values_45 ⟨Nat.zero_le _, Nat.zero_le _⟩) (fun u_6 H locs hu_6 hP hD hS => ?_)
          subst hu_6
          obtain ⟨hP, hD⟩ := ps_perm (ws' := (pw cI a q K S ck cu (va_up (va_up F 2 (ps_fil (F 2) (K 1) (K 1 + n0) 0)) 3 (ps_fil (F 3) (K 1) (K 1 + n0) 0)) N)) hP hD [0, 1, 2, 35, 3, 4, 5, 6, 7, 8, 9, 10, 36, 37, 38, 39, 11, 12, 13, 14, 15, 16, 17, 18, 19, 20, 21, 22, 23, 24, 25, 26, 27, 28, 29, 30, 31, 32, 33, 34] (by decide) rfl
          refine lv_aload_n hx hb d_PS_values_48 rfl (lv_at hl 1 rfl) ?_
          refine va_get (D := (dC, dI)) (ci := cPS) (v := .ref (a 1)) (C := R_PS) (T := F_PS) (N := 10) hx hb hts i_PS hown hK hP 0 rfl rfl 0 (by decide) (hts _ tw_97) (fun _ h9 => h9) rfl d_PS_values_49 ?_
          refine lv_iconst (v := nI 1) hx hb d_PS_values_52 (by decide) ?_
          refine lv_iload_n hx hb d_PS_values_53 rfl (lv_at hl 0 rfl) ?_
          refine lv_iload_n hx hb d_PS_values_54 rfl (lv_at hl 2 rfl) ?_
          refine lv_iadd hx hb d_PS_values_55 ?_
          refine ps_top (z := nI (K 1 + n0)) (nI_add _ _) ?_
          refine va_iast hx hb hK hP hD hS 1 0 rfl ht (vp_in_nI (show 1 < 6 by decide) (by decide)) d_PS_values_56 (fun H locs hP hD hS => ?_)
          rw [nI_clamp (show 1 < 2 ^ 31 by decide)] at hP hD
          rw [ps_kup] at hP hD
          have hP : va_P (dC, dI) classes (pw cI a q (va_up K 1 (K 1 + n0)) S ck cu (va_up (va_up F 2 (ps_fil (F 2) (K 1) (K 1 + n0) 0)) 3 (ps_fil (F 3) (K 1) (K 1 + n0) 0)) N) H := hP
          have hD : va_D A (pw cI a q (va_up K 1 (K 1 + n0)) S ck cu (va_up (va_up F 2 (ps_fil (F 2) (K 1) (K 1 + n0) 0)) 3 (ps_fil (F 3) (K 1) (K 1 + n0) 0)) N) := hD
          refine lv_aload_n hx hb d_PS_values_57 rfl (lv_at hl 1 rfl) ?_
          refine lv_iconst (v := nI 1) hx hb d_PS_values_58 (by decide) ?_
          refine lv_iload_n hx hb d_PS_values_59 rfl (lv_at hl 0 rfl) ?_
          refine lv_iload_n hx hb d_PS_values_60 rfl (lv_at hl 2 rfl) ?_
          refine ps_afterI (wc := (pw cI a q (va_up K 1 (K 1 + n0)) S ck cu (va_up (va_up F 2 (ps_fil (F 2) (K 1) (K 1 + n0) 0)) 3 (ps_fil (F 3) (K 1) (K 1 + n0) 0)) N)) (wr := []) hP hD hS hA [0, 1, 2, 3, 4, 5, 6, 7, 8, 9, 10, 11, 12, 13, 14, 15, 16, 17, 18, 19, 20, 21, 22, 23, 24, 25, 26, 27, 28, 29, 30, 31, 32, 33, 34, 35, 36, 37, 38, 39] [] rfl rfl (by decide) (by decide) (ps_runVI ⟨hx, hb, hml, hown, hts⟩ (c_addRow l dC dI cI tys ht a q (va_up K 1 (K 1 + n0)) S ck cu (va_up (va_up F 2 (ps_fil (F 2) (K 1) (K 1 + n0) 0)) 3 (ps_fil (F 3) (K 1) (K 1 + n0) 0)) N (ps_wf_w 3 (ps_wf_w 2 hw)) (ps_kb (x := K 1 + n0) hKb (by omega)) hSb (nI 1) (nI (K 1)) (nI n0) (show K 0 < 16384 by omega)) (ps_cwV ps_gd 3 hts tw_121 k_PS_addRow e_PS_addRow ⟨Nat.le_of_ble_eq_true rfl, Nat.le_of_ble_eq_true rfl⟩) hK hP hD [0, 1, 2, 3, 4, 5, 6, 7, 8, 9, 10, 11, 12, 13, 14, 15, 16, 17, 18, 19, 20, 21, 22, 23, 24, 25, 26, 27, 28, 29, 30, 31, 32, 33, 34, 35, 36, 37, 38, 39] (by decide) rfl 0 cPS rfl rfl rfl hl.1 rfl (Nat.le_of_ble_eq_true rfl) d_PS_values_61 ⟨by have h1 := hm hna (by omega); show 0 + 0 + 0 + ps_rc N (K 0 + 1) ≤ mc; omega, by have h1 := hm hna (by omega); show 0 + 0 + 0 + ps_rs N (K 0 + 1) ≤ ms; omega⟩) (fun r_9 u_8 H locs hu_8 hP hD hS => ?_)
          obtain ⟨hr_9, q_10, hu_8⟩ := hu_8
          subst hr_9
          subst hu_8
          have hP : va_P (dC, dI) classes (pw cI a q_10 (va_up (va_up K 1 (K 1 + n0)) 0 (K 0 + 1)) S ck cu (va_up (va_up (va_up (va_up (va_up F 2 (ps_fil (F 2) (K 1) (K 1 + n0) 0)) 3 (ps_fil (F 3) (K 1) (K 1 + n0) 0)) 4 (upd (F 4) (K 0 + 1) (nI 1))) 5 (upd (F 5) (K 0 + 1) (nI (K 1)))) 6 (upd (F 6) (K 0 + 1) (nI n0))) (va_up (va_up (va_up N 4 (ps_len 16385 (N 4) (K 0 + 1))) 5 (ps_len 16385 (N 5) (K 0 + 1))) 6 (ps_len 16385 (N 6) (K 0 + 1)))) H := hP
          have hD : va_D A (pw cI a q_10 (va_up (va_up K 1 (K 1 + n0)) 0 (K 0 + 1)) S ck cu (va_up (va_up (va_up (va_up (va_up F 2 (ps_fil (F 2) (K 1) (K 1 + n0) 0)) 3 (ps_fil (F 3) (K 1) (K 1 + n0) 0)) 4 (upd (F 4) (K 0 + 1) (nI 1))) 5 (upd (F 5) (K 0 + 1) (nI (K 1)))) 6 (upd (F 6) (K 0 + 1) (nI n0))) (va_up (va_up (va_up N 4 (ps_len 16385 (N 4) (K 0 + 1))) 5 (ps_len 16385 (N 5) (K 0 + 1))) 6 (ps_len 16385 (N 6) (K 0 + 1)))) := hD
          exact ps_iret hx hb hr hlocks hK hP hD hS (by have h1 := hm hna (by omega); show 0 + 0 + 0 + ps_rc N (K 0 + 1) ≤ mc; omega) (by have h1 := hm hna (by omega); show 0 + 0 + 0 + ps_rs N (K 0 + 1) ≤ ms; omega) d_PS_values_64 (ps_cn hna (ps_cn (by omega) ⟨_, rfl, rfl⟩))
        · have c_5 : ¬ n0 ≤ 32768 - (K 1) := fun q => c_5 ((nI_leI (by have h0 := hKb 0; have h1 := hKb 1; have h2 := hKb 2; have h3 := hKb 3; have h4 := hKb 4; have h5 := hKb 5; omega) (by have h0 := hKb 0; have h1 := hKb 1; have h2 := hKb 2; have h3 := hKb 3; have h4 := hKb 4; have h5 := hKb 5; omega)).mpr q)
          refine lv_bipush (v := (-3)) hx hb d_PS_values_34 (by decide) ?_
          exact ps_iret hx hb hr hlocks hK hP hD hS (Nat.zero_le _) (Nat.zero_le _) d_PS_values_36 (ps_cn hna (ps_cy (by omega) ⟨rfl, rfl⟩))
    · refine lv_iconst (v := (-1)) hx hb d_PS_values_10 (by decide) ?_
      exact ps_iret hx hb hr hlocks hK hP hD hS (Nat.zero_le _) (Nat.zero_le _) d_PS_values_11 (ps_cy (Or.inr (k2_lt c_2)) ⟨rfl, rfl⟩)

set_option maxHeartbeats 4000000 in
set_option maxRecDepth 100000 in
/-- PageStore.bytes -/
theorem c_bytes (l : Launch) (dC : Nat → ClassId) (dI : Nat → Nat → Nat) (cI : ClassId) (tys : List (ClassId × FieldType)) (ht : tys[0]? = some (cI, FieldType.int)) (a q K : Nat → Nat) (S : Nat) (ck cu : Int32) (F : Nat → Nat → Int32) (N : Nat → Nat) (hw : ps_wf F N) (hKb : ∀ j, K j ≤ 65536) (hSb : S ≤ 15) (n : Int32) (hk1 : K 2 ≤ 65536) (mc ms : Nat) (hm : ¬ (n < 0 ∨ nI 65536 < n) → ¬ (16384 ≤ K 0 ∨ 65536 < K 2 + n.toNatClampNeg) → ps_rc N (K 0 + 1) ≤ mc ∧ ps_rs N (K 0 + 1) ≤ ms) : ps_mI classes l y_PS_bytes w_PS_bytes ({ frames := 5, cells := mc, slots := ms, locals := 110 }) (dC, dI) tys [.ref (a 0), .int n] (pw cI a q K S ck cu F N) (fun r u => ps_c (n < 0 ∨ nI 65536 < n) (r = -1 ∧ u = pw cI a q K S ck cu F N) (ps_c (16384 ≤ K 0 ∨ 65536 < K 2 + n.toNatClampNeg) (r = -3 ∧ u = pw cI a q K S ck cu F N) (∃ q1 : Nat → Nat, r = nI (K 0 + 1) ∧ u = pw cI a q1 (va_up (va_up K 2 (K 2 + n.toNatClampNeg)) 0 (K 0 + 1)) S ck cu (ps_Fr (ps_w F 1 (K 2) (K 2 + n.toNatClampNeg)) (K 0 + 1) (nI 2) (nI (K 2)) n) (ps_Nr N (K 0 + 1))))) := by
  refine ps_mI_of (by decide) rfl (Nat.le_of_ble_eq_true rfl) ?_
  intro p e s m below meth c A ls C0 hA hK hP hD hS hl
  obtain ⟨hx, hb, hr, hml, hts, hown, hlocks, hin⟩ := C0
  have hl : lv_has ls 3 [(0, .ref (a 0)), (1, .int n)] := hl
  have hP : va_P (dC, dI) classes (pw cI a q K S ck cu F N) s.heap := hP
  have hD : va_D A (pw cI a q K S ck cu F N) := hD
  refine lv_iload_n hx hb d_PS_bytes_0 rfl (lv_at hl 1 rfl) ?_
  refine lv_if_lt (tgt := 10) hx hb d_PS_bytes_1 (by decide) (fun c_1 => ?_) (fun c_1 => ?_)
  · refine lv_iconst (v := (-1)) hx hb d_PS_bytes_10 (by decide) ?_
    exact ps_iret hx hb hr hlocks hK hP hD hS (Nat.zero_le _) (Nat.zero_le _) d_PS_bytes_11 (ps_cy (Or.inl c_1) ⟨rfl, rfl⟩)
  · refine lv_iload_n hx hb d_PS_bytes_4 rfl (lv_at hl 1 rfl) ?_
    refine lv_ldc (v := 65536) hx hb hown (hts _ tw_122) d_PS_bytes_5 ?_
    refine ps_top (z := nI 65536) (by decide) ?_
    refine lv_icmp_le (tgt := 12) hx hb d_PS_bytes_7 (by decide) (fun c_2 => ?_) (fun c_2 => ?_)
    · obtain ⟨n0, hn0, rfl⟩ := nI_of c_1
      have c_2 : n0 ≤ 65536 := (nI_leI hn0 (by decide)).mp c_2
      rw [nI_clamp hn0] at hm ⊢
      have hna : ¬ (nI n0 < 0 ∨ nI 65536 < nI n0) := fun q => q.elim (nI_pos hn0) (nI_nlt (by omega) (by decide))
      refine lv_aload_n hx hb d_PS_bytes_12 rfl (lv_at hl 0 rfl) ?_
      refine va_get (D := (dC, dI)) (ci := cPS) (v := .ref (a 1)) (C := R_PS) (T := F_PS) (N := 10) hx hb hts i_PS hown hK hP 0 rfl rfl 0 (by decide) (hts _ tw_97) (fun _ h9 => h9) rfl d_PS_bytes_13 ?_
      refine lv_iconst (v := nI 2) hx hb d_PS_bytes_16 (by decide) ?_
      refine va_iald hx hb hK hP 1 0 rfl ht (vp_in_nI (show 2 < 6 by decide) (by decide)) d_PS_bytes_17 ?_
      refine ps_top (z := nI (K 2)) (ps_kat _ 2 (by decide)) ?_
      refine lv_istore_n (lv' := [(2, .int (nI (K 2))), (0, .ref (a 0)), (1, .int (nI n0))]) hx hb d_PS_bytes_18 rfl hl (by decide) rfl (fun ls hl => ?_)
      refine lv_aload_n hx hb d_PS_bytes_19 rfl (lv_at hl 1 rfl) ?_
      refine ps_readI (wc := (pw cI a q K S ck cu F N)) hP hD hS hA [0, 1, 2, 3, 4, 5, 6, 7, 8, 9, 10, 11, 12, 13, 14, 15, 16, 17, 18, 19, 20, 21, 22, 23, 24, 25, 26, 27, 28, 29, 30, 31, 32, 33, 34, 35, 36, 37, 38, 39] rfl (fun _ _ h => h.1) (ps_runVI ⟨hx, hb, hml, hown, hts⟩ (c_noRow l dC dI cI tys ht a q K S ck cu F N hw hKb hSb) (ps_cwV ps_gd 0 hts tw_119 k_PS_noRowLeft e_PS_noRowLeft ⟨Nat.le_of_ble_eq_true rfl, Nat.le_of_ble_eq_true rfl⟩) hK hP hD [0, 1, 2, 3, 4, 5, 6, 7, 8, 9, 10, 11, 12, 13, 14, 15, 16, 17, 18, 19, 20, 21, 22, 23, 24, 25, 26, 27, 28, 29, 30, 31, 32, 33, 34, 35, 36, 37, 38, 39] (by decide) rfl 0 cPS rfl rfl rfl hl.1 rfl (Nat.le_of_ble_eq_true rfl) d_PS_bytes_20 ⟨Nat.zero_le _, Nat.zero_le _⟩) (fun r_3 H locs hr_3 hP hS => ?_)
      obtain ⟨-, hr_3⟩ := hr_3
      subst hr_3
      refine lv_if_ne (tgt := 34) hx hb d_PS_bytes_23 (by decide) (fun c_4 => ?_) (fun c_4 => ?_)
      · have c_4 := ps_ite1 c_4
        refine lv_bipush (v := (-3)) hx hb d_PS_bytes_34 (by decide) ?_
        exact ps_iret hx hb hr hlocks hK hP hD hS (Nat.zero_le _) (Nat.zero_le _) d_PS_bytes_36 (ps_cn hna (ps_cy (by omega) ⟨rfl, rfl⟩))
      · have c_4 := ps_ite0 c_4
        refine lv_iload_n hx hb d_PS_bytes_26 rfl (lv_at hl 2 rfl) ?_
        refine lv_ldc (v := 65536) hx hb hown (hts _ tw_122) d_PS_bytes_27 ?_
        refine ps_top (z := nI 65536) (by decide) ?_
        refine lv_iload_n hx hb d_PS_bytes_29 rfl (lv_at hl 0 rfl) ?_
        refine lv_isub hx hb d_PS_bytes_30 ?_
        refine ps_top (z := nI (65536 - (K 2))) (pk_sub (by have h0 := hKb 0; have h1 := hKb 1; have h2 := hKb 2; have h3 := hKb 3; have h4 := hKb 4; have h5 := hKb 5; omega)) ?_
        refine lv_icmp_le (tgt := 37) hx hb d_PS_bytes_31 (by decide) (fun c_5 => ?_) (fun c_5 => ?_)
        · have c_5 : n0 ≤ 65536 - (K 2) := (nI_leI (by have h0 := hKb 0; have h1 := hKb 1; have h2 := hKb 2; have h3 := hKb 3; have h4 := hKb 4; have h5 := hKb 5; omega) (by have h0 := hKb 0; have h1 := hKb 1; have h2 := hKb 2; have h3 := hKb 3; have h4 := hKb 4; have h5 := hKb 5; omega)).mp c_5
          refine lv_aload_n hx hb d_PS_bytes_37 rfl (lv_at hl 1 rfl) ?_
          refine va_get (D := (dC, dI)) (ci := cPS) (v := .ref (a 9)) (C := R_PS) (T := F_PS) (N := 10) hx hb hts i_PS hown hK hP 0 rfl rfl 5 (by decide) (hts _ tw_123) (fun _ h9 => h9) rfl d_PS_bytes_38 ?_
          refine lv_iload_n hx hb d_PS_bytes_41 rfl (lv_at hl 0 rfl) ?_
          refine lv_iload_n hx hb d_PS_bytes_42 rfl (lv_at hl 0 rfl) ?_
          refine lv_iload_n hx hb d_PS_bytes_43 rfl (lv_at hl 2 rfl) ?_
          refine lv_iadd hx hb d_PS_bytes_44 ?_
          refine ps_top (z := nI (K 2 + n0)) (nI_add _ _) ?_
          refine ps_afterV (wc := [(a 9, .inr (cCol, [.int (nI 65536), .ref (q 1)])), (q 1, .inl (cI, N 1, .inl (F 1)))]) (wr := [0, 1, 2, 3, 4, 5, 6, 7, 8, 9, 12, 13, 14, 15, 16, 17, 18, 19, 20, 21, 22, 23, 24, 25, 26, 27, 28, 29, 30, 31, 32, 33, 34, 35, 36, 37, 38, 39].filterMap (fun z9 => ((pw cI a q K S ck cu F N) : va_W)[z9]?)) hP hD hS hA [10, 11] [0, 1, 2, 3, 4, 5, 6, 7, 8, 9, 12, 13, 14, 15, 16, 17, 18, 19, 20, 21, 22, 23, 24, 25, 26, 27, 28, 29, 30, 31, 32, 33, 34, 35, 36, 37, 38, 39] rfl rfl (by decide) (by decide) (ps_runVV ⟨hx, hb, hml, hown, hts⟩ (c_wipe l dC dI cI tys ht (a 9) (q 1) 65536 (N 1) (F 1) (K 2) (K 2 + n0) (hw.z 1 (by decide)) (hw.n 1 (by decide)) (by omega) (by omega)) (ps_cwV ps_gd 2 hts tw_124 k_Col_wipe e_Col_wipe ⟨Nat.le_of_ble_eq_true rfl, Nat.le_of_ble_eq_true rfl⟩) hK hP hD [10, 11] (by decide) rfl 0 cCol rfl rfl rfl hl.1 rfl (Nat.le_of_ble_eq_true rfl) d_PS_bytes_45 ⟨Nat.zero_le _, Nat.zero_le _⟩) (fun u_6 H locs hu_6 hP hD hS => ?_)
          subst hu_6
          obtain ⟨hP, hD⟩ := ps_perm (ws' := (pw cI a q K S ck cu (va_up F 1 (ps_fil (F 1) (K 2) (K 2 + n0) 0)) N)) hP hD [0, 1, 2, 3, 4, 5, 6, 7, 8, 9, 38, 39, 10, 11, 12, 13, 14, 15, 16, 17, 18, 19, 20, 21, 22, 23, 24, 25, 26, 27, 28, 29, 30, 31, 32, 33, 34, 35, 36, 37] (by decide) rfl
          refine lv_aload_n hx hb d_PS_bytes_48 rfl (lv_at hl 1 rfl) ?_
          refine va_get (D := (dC, dI)) (ci := cPS) (v := .ref (a 1)) (C := R_PS) (T := F_PS) (N := 10) hx hb hts i_PS hown hK hP 0 rfl rfl 0 (by decide) (hts _ tw_97) (fun _ h9 => h9) rfl d_PS_bytes_49 ?_
          refine lv_iconst (v := nI 2) hx hb d_PS_bytes_52 (by decide) ?_
          refine lv_iload_n hx hb d_PS_bytes_53 rfl (lv_at hl 0 rfl) ?_
          refine lv_iload_n hx hb d_PS_bytes_54 rfl (lv_at hl 2 rfl) ?_
          refine lv_iadd hx hb d_PS_bytes_55 ?_
          refine ps_top (z := nI (K 2 + n0)) (nI_add _ _) ?_
          refine va_iast hx hb hK hP hD hS 1 0 rfl ht (vp_in_nI (show 2 < 6 by decide) (by decide)) d_PS_bytes_56 (fun H locs hP hD hS => ?_)
          rw [nI_clamp (show 2 < 2 ^ 31 by decide)] at hP hD
          rw [ps_kup] at hP hD
          have hP : va_P (dC, dI) classes (pw cI a q (va_up K 2 (K 2 + n0)) S ck cu (va_up F 1 (ps_fil (F 1) (K 2) (K 2 + n0) 0)) N) H := hP
          have hD : va_D A (pw cI a q (va_up K 2 (K 2 + n0)) S ck cu (va_up F 1 (ps_fil (F 1) (K 2) (K 2 + n0) 0)) N) := hD
          refine lv_aload_n hx hb d_PS_bytes_57 rfl (lv_at hl 1 rfl) ?_
          refine lv_iconst (v := nI 2) hx hb d_PS_bytes_58 (by decide) ?_
          refine lv_iload_n hx hb d_PS_bytes_59 rfl (lv_at hl 0 rfl) ?_
          refine lv_iload_n hx hb d_PS_bytes_60 rfl (lv_at hl 2 rfl) ?_
          refine ps_afterI (wc := (pw cI a q (va_up K 2 (K 2 + n0)) S ck cu (va_up F 1 (ps_fil (F 1) (K 2) (K 2 + n0) 0)) N)) (wr := []) hP hD hS hA [0, 1, 2, 3, 4, 5, 6, 7, 8, 9, 10, 11, 12, 13, 14, 15, 16, 17, 18, 19, 20, 21, 22, 23, 24, 25, 26, 27, 28, 29, 30, 31, 32, 33, 34, 35, 36, 37, 38, 39] [] rfl rfl (by decide) (by decide) (ps_runVI ⟨hx, hb, hml, hown, hts⟩ (c_addRow l dC dI cI tys ht a q (va_up K 2 (K 2 + n0)) S ck cu (va_up F 1 (ps_fil (F 1) (K 2) (K 2 + n0) 0)) N (ps_wf_w 1 hw) (ps_kb (x := K 2 + n0) hKb (by omega)) hSb (nI 2) (nI (K 2)) (nI n0) (show K 0 < 16384 by omega)) (ps_cwV ps_gd 3 hts tw_121 k_PS_addRow e_PS_addRow ⟨Nat.le_of_ble_eq_true rfl, Nat.le_of_ble_eq_true rfl⟩) hK hP hD [0, 1, 2, 3, 4, 5, 6, 7, 8, 9, 10, 11, 12, 13, 14, 15, 16, 17, 18, 19, 20, 21, 22, 23, 24, 25, 26, 27, 28, 29, 30, 31, 32, 33, 34, 35, 36, 37, 38, 39] (by decide) rfl 0 cPS rfl rfl rfl hl.1 rfl (Nat.le_of_ble_eq_true rfl) d_PS_bytes_61 ⟨by have h1 := hm hna (by omega); show 0 + 0 + 0 + ps_rc N (K 0 + 1) ≤ mc; omega, by have h1 := hm hna (by omega); show 0 + 0 + 0 + ps_rs N (K 0 + 1) ≤ ms; omega⟩) (fun r_9 u_8 H locs hu_8 hP hD hS => ?_)
          obtain ⟨hr_9, q_10, hu_8⟩ := hu_8
          subst hr_9
          subst hu_8
          have hP : va_P (dC, dI) classes (pw cI a q_10 (va_up (va_up K 2 (K 2 + n0)) 0 (K 0 + 1)) S ck cu (va_up (va_up (va_up (va_up F 1 (ps_fil (F 1) (K 2) (K 2 + n0) 0)) 4 (upd (F 4) (K 0 + 1) (nI 2))) 5 (upd (F 5) (K 0 + 1) (nI (K 2)))) 6 (upd (F 6) (K 0 + 1) (nI n0))) (va_up (va_up (va_up N 4 (ps_len 16385 (N 4) (K 0 + 1))) 5 (ps_len 16385 (N 5) (K 0 + 1))) 6 (ps_len 16385 (N 6) (K 0 + 1)))) H := hP
          have hD : va_D A (pw cI a q_10 (va_up (va_up K 2 (K 2 + n0)) 0 (K 0 + 1)) S ck cu (va_up (va_up (va_up (va_up F 1 (ps_fil (F 1) (K 2) (K 2 + n0) 0)) 4 (upd (F 4) (K 0 + 1) (nI 2))) 5 (upd (F 5) (K 0 + 1) (nI (K 2)))) 6 (upd (F 6) (K 0 + 1) (nI n0))) (va_up (va_up (va_up N 4 (ps_len 16385 (N 4) (K 0 + 1))) 5 (ps_len 16385 (N 5) (K 0 + 1))) 6 (ps_len 16385 (N 6) (K 0 + 1)))) := hD
          exact ps_iret hx hb hr hlocks hK hP hD hS (by have h1 := hm hna (by omega); show 0 + 0 + 0 + ps_rc N (K 0 + 1) ≤ mc; omega) (by have h1 := hm hna (by omega); show 0 + 0 + 0 + ps_rs N (K 0 + 1) ≤ ms; omega) d_PS_bytes_64 (ps_cn hna (ps_cn (by omega) ⟨_, rfl, rfl⟩))
        · have c_5 : ¬ n0 ≤ 65536 - (K 2) := fun q => c_5 ((nI_leI (by have h0 := hKb 0; have h1 := hKb 1; have h2 := hKb 2; have h3 := hKb 3; have h4 := hKb 4; have h5 := hKb 5; omega) (by have h0 := hKb 0; have h1 := hKb 1; have h2 := hKb 2; have h3 := hKb 3; have h4 := hKb 4; have h5 := hKb 5; omega)).mpr q)
          refine lv_bipush (v := (-3)) hx hb d_PS_bytes_34 (by decide) ?_
          exact ps_iret hx hb hr hlocks hK hP hD hS (Nat.zero_le _) (Nat.zero_le _) d_PS_bytes_36 (ps_cn hna (ps_cy (by omega) ⟨rfl, rfl⟩))
    · refine lv_iconst (v := (-1)) hx hb d_PS_bytes_10 (by decide) ?_
      exact ps_iret hx hb hr hlocks hK hP hD hS (Nat.zero_le _) (Nat.zero_le _) d_PS_bytes_11 (ps_cy (Or.inr (k2_lt c_2)) ⟨rfl, rfl⟩)
