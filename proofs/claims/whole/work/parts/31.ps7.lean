theorem tw_184 : (.methodLink "PageStore" 92 ⟨"PageStore", "remember", "(II)Z"⟩ : Cond) ∈ ps_tbl := ps_t2 7 rfl rfl
theorem tw_185 : (.methodLink "PageStore" 128 ⟨"PageStore$Keys", "howManyThere", "(II)I"⟩ : Cond) ∈ ps_tbl := ps_t2 108 rfl rfl
theorem tw_186 : (.methodLink "PageStore" 108 ⟨"PageStore", "isKeyPossible", "(II)Z"⟩ : Cond) ∈ ps_tbl := ps_t2 61 rfl rfl
theorem tw_187 : (.methodLink "PageStore" 122 ⟨"PageStore$Keys", "indexIfThere", "(IIII)I"⟩ : Cond) ∈ ps_tbl := ps_t2 87 rfl rfl
theorem tw_188 : (.instanceMethod ⟨"PageStore", "remember", "(II)Z"⟩ : Cond) ∈ ps_tbl := ps_t2 9 rfl rfl
theorem tw_189 : (.selects "PageStore" ⟨"PageStore", "remember", "(II)Z"⟩ ⟨"PageStore", "remember", "(II)Z"⟩ : Cond) ∈ ps_tbl := ps_ts (y := ⟨"PageStore", "remember", "(II)Z"⟩) (n := 10) 4 rfl rfl
theorem tw_190 : (.code ⟨"PageStore", "remember", "(II)Z"⟩ prog_1_method_34_code 4 (some .boolean) : Cond) ∈ ps_tbl := ps_t2 10 rfl rfl
theorem tw_191 : (.instanceMethod ⟨"PageStore$Keys", "howManyThere", "(II)I"⟩ : Cond) ∈ ps_tbl := ps_t2 109 rfl rfl
theorem tw_192 : (.selects "PageStore$Keys" ⟨"PageStore$Keys", "howManyThere", "(II)I"⟩ ⟨"PageStore$Keys", "howManyThere", "(II)I"⟩ : Cond) ∈ ps_tbl := ps_t2 110 rfl rfl
theorem tw_193 : (.code ⟨"PageStore$Keys", "howManyThere", "(II)I"⟩ prog_3_method_6_code 5 (some .int) : Cond) ∈ ps_tbl := ps_t2 111 rfl rfl
theorem tw_194 : (.instanceMethod ⟨"PageStore", "isKeyPossible", "(II)Z"⟩ : Cond) ∈ ps_tbl := ps_t2 63 rfl rfl
theorem tw_195 : (.selects "PageStore" ⟨"PageStore", "isKeyPossible", "(II)Z"⟩ ⟨"PageStore", "isKeyPossible", "(II)Z"⟩ : Cond) ∈ ps_tbl := ps_ts (y := ⟨"PageStore", "isKeyPossible", "(II)Z"⟩) (n := 10) 8 rfl rfl
theorem tw_196 : (.code ⟨"PageStore", "isKeyPossible", "(II)Z"⟩ prog_1_method_26_code 3 (some .boolean) : Cond) ∈ ps_tbl := ps_t2 64 rfl rfl
theorem tw_197 : (.instanceMethod ⟨"PageStore$Keys", "indexIfThere", "(IIII)I"⟩ : Cond) ∈ ps_tbl := ps_t2 88 rfl rfl
theorem tw_198 : (.selects "PageStore$Keys" ⟨"PageStore$Keys", "indexIfThere", "(IIII)I"⟩ ⟨"PageStore$Keys", "indexIfThere", "(IIII)I"⟩ : Cond) ∈ ps_tbl := ps_t2 89 rfl rfl
theorem tw_199 : (.code ⟨"PageStore$Keys", "indexIfThere", "(IIII)I"⟩ prog_3_method_4_code 6 (some .int) : Cond) ∈ ps_tbl := ps_t2 90 rfl rfl
theorem k_PS_remember : ps_cdV ps_tbl y_PS_remember prog_1_method_34_code 4 (some .boolean) := ⟨tw_188, tw_189, tw_108, tw_190⟩
theorem k_Key_howManyThere : ps_cdV ps_tbl y_Key_howManyThere prog_3_method_6_code 5 (some .int) := ⟨tw_191, tw_192, tw_54, tw_193⟩
theorem k_PS_isKeyPossible : ps_cdV ps_tbl y_PS_isKeyPossible prog_1_method_26_code 3 (some .boolean) := ⟨tw_194, tw_195, tw_108, tw_196⟩
theorem k_Key_indexIfThere : ps_cdV ps_tbl y_Key_indexIfThere prog_3_method_4_code 6 (some .int) := ⟨tw_197, tw_198, tw_54, tw_199⟩
set_option maxHeartbeats 4000000 in
set_option maxRecDepth 100000 in
/-- PageStore.set -/
theorem c_set (l : Launch) (dC : Nat → ClassId) (dI : Nat → Nat → Nat) (cI : ClassId) (tys : List (ClassId × FieldType)) (ht : tys[0]? = some (cI, FieldType.int)) (a q K : Nat → Nat) (S : Nat) (ck cu : Int32) (F : Nat → Nat → Int32) (N : Nat → Nat) (hw : ps_wf F N) (hKb : ∀ j, K j ≤ 65536) (hSb : S ≤ 15) (row place kind number : Int32) (hrw : ps_rows K F) (hk1 : K 1 ≤ 32768) (t b : Nat) (ht0 : t ≤ 65536) (hb0 : b ≤ 65536) (htw : ¬ S = 0 → F 0 ((S - 1) * 6 + 1) = nI t) (htb : ¬ S = 0 → F 0 ((S - 1) * 6 + 5) = nI b) (mc ms : Nat) (hm1 : (ps_ok K F (nI 1) row place ∧ (nI 0 ≤ kind ∧ kind ≤ nI 15)) → ps_must S t b (K 5) F 1 (ps_ix F row place) → ¬ 40000 ≤ K 5 → ps_mc N (K 5) + ps_vc 32768 N 2 (ps_ix F row place) ≤ mc ∧ ps_ms N (K 5) + ps_vs 32768 N 2 (ps_ix F row place) ≤ ms) (hm2 : (ps_ok K F (nI 1) row place ∧ (nI 0 ≤ kind ∧ kind ≤ nI 15)) → ¬ ps_must S t b (K 5) F 1 (ps_ix F row place) → ps_vc 32768 N 2 (ps_ix F row place) ≤ mc ∧ ps_vs 32768 N 2 (ps_ix F row place) ≤ ms) : ps_mI classes l y_PS_set w_PS_set ({ frames := 6, cells := mc, slots := ms, locals := 133 }) (dC, dI) tys [.ref (a 0), .int row, .int place, .int kind, .int number] (pw cI a q K S ck cu F N) (fun r u => ps_c (ps_ok K F (nI 1) row place ∧ (nI 0 ≤ kind ∧ kind ≤ nI 15)) (ps_c (ps_must S t b (K 5) F 1 (ps_ix F row place)) (ps_c (40000 ≤ K 5) (r = -3 ∧ u = pw cI a q K S ck cu F N) (∃ q1 : Nat → Nat, r = 1 ∧ u = pw cI a q1 (va_up K 5 (K 5 + 1)) S ck cu (ps_Fv (ps_Fm F (K 5) (nI 1) (ps_ix F row place) (F 2 (ps_ix F row place)) (F 3 (ps_ix F row place))) 2 (ps_ix F row place) kind number) (ps_Nv (ps_Nm N (K 5)) 2 (ps_ix F row place)))) (∃ q1 : Nat → Nat, r = 1 ∧ u = pw cI a q1 K S ck cu (ps_Fv F 2 (ps_ix F row place) kind number) (ps_Nv N 2 (ps_ix F row place)))) (r = -1 ∧ u = pw cI a q K S ck cu F N)) := by
  refine ps_mI_of (by decide) rfl (Nat.le_of_ble_eq_true rfl) ?_
  intro p e s m below meth c A ls C0 hA hK hP hD hS hl
  obtain ⟨hx, hb, hr, hml, hts, hown, hlocks, hin⟩ := C0
  have hl : lv_has ls 6 [(0, .ref (a 0)), (1, .int row), (2, .int place), (3, .int kind), (4, .int number)] := hl
  have hP : va_P (dC, dI) classes (pw cI a q K S ck cu F N) s.heap := hP
  have hD : va_D A (pw cI a q K S ck cu F N) := hD
  refine lv_aload_n hx hb d_PS_set_0 rfl (lv_at hl 0 rfl) ?_
  refine lv_iconst (v := nI 1) hx hb d_PS_set_1 (by decide) ?_
  refine lv_iload_n hx hb d_PS_set_2 rfl (lv_at hl 1 rfl) ?_
  refine lv_iload_n hx hb d_PS_set_3 rfl (lv_at hl 2 rfl) ?_
  refine ps_readI (wc := (pw cI a q K S ck cu F N)) hP hD hS hA [0, 1, 2, 3, 4, 5, 6, 7, 8, 9, 10, 11, 12, 13, 14, 15, 16, 17, 18, 19, 20, 21, 22, 23, 24, 25, 26, 27, 28, 29, 30, 31, 32, 33, 34, 35, 36, 37, 38, 39] rfl (fun _ _ h => h.1) (ps_runVI ⟨hx, hb, hml, hown, hts⟩ (c_ixin l dC dI cI tys ht a q K S ck cu F N hw hKb hSb (nI 1) row place) (ps_cwV ps_gd 3 hts tw_141 k_PS_indexIn e_PS_indexIn ⟨Nat.le_of_ble_eq_true rfl, Nat.le_of_ble_eq_true rfl⟩) hK hP hD [0, 1, 2, 3, 4, 5, 6, 7, 8, 9, 10, 11, 12, 13, 14, 15, 16, 17, 18, 19, 20, 21, 22, 23, 24, 25, 26, 27, 28, 29, 30, 31, 32, 33, 34, 35, 36, 37, 38, 39] (by decide) rfl 0 cPS rfl rfl rfl hl.1 rfl (Nat.le_of_ble_eq_true rfl) d_PS_set_4 ⟨Nat.zero_le _, Nat.zero_le _⟩) (fun r_1 H locs hr_1 hP hS => ?_)
  obtain ⟨-, hr_1⟩ := hr_1
  rcases hr_1 with ⟨hcr_1, hr_1⟩ | ⟨hcr_1, hr_1⟩
  · obtain ⟨eix, hix⟩ := ps_ok_ix hKb hrw (Or.inl rfl) hcr_1
    rw [eix] at hr_1
    subst hr_1
    have hix31 : ps_ix F row place < 2 ^ 31 := by have b1 := hKb 1; omega
    refine lv_istore (lv' := [(5, .int (nI (ps_ix F row place))), (0, .ref (a 0)), (1, .int row), (2, .int place), (3, .int kind), (4, .int number)]) hx hb d_PS_set_7 hl (by decide) rfl (fun ls hl => ?_)
    refine lv_iload hx hb d_PS_set_9 (lv_at hl 0 rfl) ?_
    refine lv_iconst (v := (-1)) hx hb d_PS_set_11 (by decide) ?_
    refine lv_icmp_eq (tgt := 23) hx hb d_PS_set_12 (by decide) (fun c_2 => ?_) (fun c_2 => ?_)
    · exact absurd c_2 (ps_m1 hix31)
    · refine lv_iload_n hx hb d_PS_set_15 rfl (lv_at hl 4 rfl) ?_
      refine lv_iconst (v := nI 0) hx hb d_PS_set_16 (by decide) ?_
      refine ps_readI (wc := []) hP hD hS hA [] rfl (fun _ _ h => h.1) (ps_runSI ⟨hx, hb, hml, hown, hts⟩ (c_isKind l dC dI cI tys ht kind (nI 0)) (ps_cwS ps_gd 2 hts tw_100 k_PS_isKind e_PS_isKind ⟨Nat.le_of_ble_eq_true rfl, Nat.le_of_ble_eq_true rfl⟩) hK hP hD [] (by decide) rfl rfl hl.1 rfl (Nat.le_of_ble_eq_true rfl) d_PS_set_17 ⟨Nat.zero_le _, Nat.zero_le _⟩) (fun r_3 H locs hr_3 hP hS => ?_)
      obtain ⟨-, hr_3⟩ := hr_3
      subst hr_3
      refine lv_if_ne (tgt := 25) hx hb d_PS_set_20 (by decide) (fun c_4 => ?_) (fun c_4 => ?_)
      · have c_4 := ps_ite1 c_4
        refine lv_aload_n hx hb d_PS_set_25 rfl (lv_at hl 1 rfl) ?_
        refine lv_iconst (v := nI 1) hx hb d_PS_set_26 (by decide) ?_
        refine lv_iload hx hb d_PS_set_27 (lv_at hl 0 rfl) ?_
        by_cases hmu : ps_must S t b (K 5) F 1 (ps_ix F row place)
        · by_cases hfull : 40000 ≤ K 5
          · refine ps_afterI (wc := (pw cI a q K S ck cu F N)) (wr := []) hP hD hS hA [0, 1, 2, 3, 4, 5, 6, 7, 8, 9, 10, 11, 12, 13, 14, 15, 16, 17, 18, 19, 20, 21, 22, 23, 24, 25, 26, 27, 28, 29, 30, 31, 32, 33, 34, 35, 36, 37, 38, 39] [] rfl rfl (by decide) (by decide) (ps_runVI ⟨hx, hb, hml, hown, hts⟩ (c_rem1 l dC dI cI tys ht a q K S ck cu F N hw hKb hSb (ps_ix F row place) t b ht0 hb0 hix31 htw htb 0 0 (fun _ q => absurd hfull q)) (ps_cwV ps_gd 2 hts tw_184 k_PS_remember e_PS_remember ⟨Nat.le_of_ble_eq_true rfl, Nat.le_of_ble_eq_true rfl⟩) hK hP hD [0, 1, 2, 3, 4, 5, 6, 7, 8, 9, 10, 11, 12, 13, 14, 15, 16, 17, 18, 19, 20, 21, 22, 23, 24, 25, 26, 27, 28, 29, 30, 31, 32, 33, 34, 35, 36, 37, 38, 39] (by decide) rfl 0 cPS rfl rfl rfl hl.1 rfl (Nat.le_of_ble_eq_true rfl) d_PS_set_29 ⟨by show 0 + 0 + 0 + 0 ≤ mc; omega, by show 0 + 0 + 0 + 0 ≤ ms; omega⟩) (fun r_6 u_5 H locs hu_5 hP hD hS => ?_)
            obtain ⟨hr_6, vu_5⟩ := (hu_5.y hmu).y hfull
            subst hr_6
            subst vu_5
            have hP : va_P (dC, dI) classes (pw cI a q K S ck cu F N) H := hP
            have hD : va_D A (pw cI a q K S ck cu F N) := hD
            refine lv_if_ne (tgt := 38) hx hb d_PS_set_32 (by decide) (fun c_7 => ?_) (fun c_7 => ?_)
            · exact absurd rfl c_7
            · refine lv_bipush (v := (-3)) hx hb d_PS_set_35 (by decide) ?_
              exact ps_iret hx hb hr hlocks hK hP hD hS (Nat.zero_le _) (Nat.zero_le _) d_PS_set_37 (ps_cy ⟨hcr_1, c_4⟩ (ps_cy hmu (ps_cy hfull ⟨rfl, rfl⟩)))
          · have hpay := hm1 ⟨hcr_1, c_4⟩ hmu hfull
            refine ps_afterI (wc := (pw cI a q K S ck cu F N)) (wr := []) hP hD hS hA [0, 1, 2, 3, 4, 5, 6, 7, 8, 9, 10, 11, 12, 13, 14, 15, 16, 17, 18, 19, 20, 21, 22, 23, 24, 25, 26, 27, 28, 29, 30, 31, 32, 33, 34, 35, 36, 37, 38, 39] [] rfl rfl (by decide) (by decide) (ps_runVI ⟨hx, hb, hml, hown, hts⟩ (c_rem1 l dC dI cI tys ht a q K S ck cu F N hw hKb hSb (ps_ix F row place) t b ht0 hb0 hix31 htw htb (ps_mc N (K 5)) (ps_ms N (K 5)) (fun _ _ => ⟨Nat.le_refl _, Nat.le_refl _⟩)) (ps_cwV ps_gd 2 hts tw_184 k_PS_remember e_PS_remember ⟨Nat.le_of_ble_eq_true rfl, Nat.le_of_ble_eq_true rfl⟩) hK hP hD [0, 1, 2, 3, 4, 5, 6, 7, 8, 9, 10, 11, 12, 13, 14, 15, 16, 17, 18, 19, 20, 21, 22, 23, 24, 25, 26, 27, 28, 29, 30, 31, 32, 33, 34, 35, 36, 37, 38, 39] (by decide) rfl 0 cPS rfl rfl rfl hl.1 rfl (Nat.le_of_ble_eq_true rfl) d_PS_set_29 ⟨by show 0 + 0 + 0 + ps_mc N (K 5) ≤ mc; omega, by show 0 + 0 + 0 + ps_ms N (K 5) ≤ ms; omega⟩) (fun r_9 u_8 H locs hu_8 hP hD hS => ?_)
            obtain ⟨q_10, hr_9, vu_8⟩ := (hu_8.y hmu).n hfull
            subst hr_9
            subst vu_8
            have hP : va_P (dC, dI) classes (pw cI a q_10 (va_up K 5 (K 5 + 1)) S ck cu (va_up (va_up (va_up (va_up F 12 (upd (F 12) (K 5) (nI 1))) 13 (upd (F 13) (K 5) (nI (ps_ix F row place)))) 14 (upd (F 14) (K 5) (F 2 (ps_ix F row place)))) 15 (upd (F 15) (K 5) (if F 2 (ps_ix F row place) = 0 then 0 else F 3 (ps_ix F row place)))) (va_up (va_up (va_up (va_up N 12 (ps_len 40000 (N 12) (K 5))) 13 (ps_len 40000 (N 13) (K 5))) 14 (ps_len 40000 (N 14) (K 5))) 15 (ps_len 40000 (N 15) (K 5)))) H := hP
            have hD : va_D A (pw cI a q_10 (va_up K 5 (K 5 + 1)) S ck cu (va_up (va_up (va_up (va_up F 12 (upd (F 12) (K 5) (nI 1))) 13 (upd (F 13) (K 5) (nI (ps_ix F row place)))) 14 (upd (F 14) (K 5) (F 2 (ps_ix F row place)))) 15 (upd (F 15) (K 5) (if F 2 (ps_ix F row place) = 0 then 0 else F 3 (ps_ix F row place)))) (va_up (va_up (va_up (va_up N 12 (ps_len 40000 (N 12) (K 5))) 13 (ps_len 40000 (N 13) (K 5))) 14 (ps_len 40000 (N 14) (K 5))) 15 (ps_len 40000 (N 15) (K 5)))) := hD
            refine lv_if_ne (tgt := 38) hx hb d_PS_set_32 (by decide) (fun c_11 => ?_) (fun c_11 => ?_)
            · refine lv_aload_n hx hb d_PS_set_38 rfl (lv_at hl 1 rfl) ?_
              refine va_get (D := (dC, dI)) (ci := cPS) (v := .ref (a 3)) (C := R_PS) (T := F_PS) (N := 10) hx hb hts i_PS hown hK hP 0 rfl rfl 4 (by decide) (hts _ tw_103) (fun _ h9 => h9) rfl d_PS_set_39 ?_
              refine lv_iload hx hb d_PS_set_42 (lv_at hl 0 rfl) ?_
              refine lv_iload_n hx hb d_PS_set_44 rfl (lv_at hl 4 rfl) ?_
              refine lv_iload hx hb d_PS_set_45 (lv_at hl 5 rfl) ?_
              have hilim : ps_ix F row place < 32768 := by omega
              have hw9 := ps_wf_m (o := nI 1) (i := ps_ix F row place) (v := F 2 (ps_ix F row place)) (w := F 3 (ps_ix F row place)) hw (show K 5 < 40000 by omega)
              refine ps_afterV (wc := [(a 3, .inr (cVal, [.ref (a 10), .ref (a 11)])), (a 10, .inr (cCol, [.int (nI 32768), .ref (q_10 2)])), (q_10 2, .inl (cI, N 2, .inl (F 2))), (a 11, .inr (cCol, [.int (nI 32768), .ref (q_10 3)])), (q_10 3, .inl (cI, N 3, .inl (F 3)))]) (wr := [0, 1, 2, 4, 5, 6, 7, 8, 9, 10, 11, 16, 17, 18, 19, 20, 21, 22, 23, 24, 25, 26, 27, 28, 29, 30, 31, 32, 33, 34, 35, 36, 37, 38, 39].filterMap (fun z9 => ((pw cI a q_10 (va_up K 5 (K 5 + 1)) S ck cu (va_up (va_up (va_up (va_up F 12 (upd (F 12) (K 5) (nI 1))) 13 (upd (F 13) (K 5) (nI (ps_ix F row place)))) 14 (upd (F 14) (K 5) (F 2 (ps_ix F row place)))) 15 (upd (F 15) (K 5) (if F 2 (ps_ix F row place) = 0 then 0 else F 3 (ps_ix F row place)))) (va_up (va_up (va_up (va_up N 12 (ps_len 40000 (N 12) (K 5))) 13 (ps_len 40000 (N 13) (K 5))) 14 (ps_len 40000 (N 14) (K 5))) 15 (ps_len 40000 (N 15) (K 5)))) : va_W)[z9]?)) hP hD hS hA [3, 12, 13, 14, 15] [0, 1, 2, 4, 5, 6, 7, 8, 9, 10, 11, 16, 17, 18, 19, 20, 21, 22, 23, 24, 25, 26, 27, 28, 29, 30, 31, 32, 33, 34, 35, 36, 37, 38, 39] rfl rfl (by decide) (by decide) (ps_runVV ⟨hx, hb, hml, hown, hts⟩ (c_vwrite l dC dI cI tys ht (a 3) (a 10) (q_10 2) (a 11) (q_10 3) 32768 (N 2) (N 3) (F 2) (F 3) (ps_ix F row place) kind number (hw.z 2 (by decide)) (hw.z 3 (by decide)) (by decide) (hw 2 (by decide)).2 (hw 3 (by decide)).2 hilim) (ps_cwV ps_gd 3 hts tw_159 k_Val_write e_Val_write ⟨Nat.le_of_ble_eq_true rfl, Nat.le_of_ble_eq_true rfl⟩) hK hP hD [3, 12, 13, 14, 15] (by decide) rfl 0 cVal rfl rfl rfl hl.1 rfl (Nat.le_of_ble_eq_true rfl) d_PS_set_47 ⟨by show 0 + 0 + 0 + ps_mc N (K 5) + ps_vc 32768 N 2 (ps_ix F row place) ≤ mc; omega, by show 0 + 0 + 0 + ps_ms N (K 5) + ps_vs 32768 N 2 (ps_ix F row place) ≤ ms; omega⟩) (fun u_12 H locs hu_12 hP hD hS => ?_)
              obtain ⟨q_14, q_15, hu_12⟩ := hu_12
              subst hu_12
              obtain ⟨hP, hD⟩ := ps_perm (ws' := (pw cI a (va_up (va_up q_10 2 q_14) 3 q_15) (va_up K 5 (K 5 + 1)) S ck cu (va_up (va_up (va_up (va_up (va_up (va_up F 12 (upd (F 12) (K 5) (nI 1))) 13 (upd (F 13) (K 5) (nI (ps_ix F row place)))) 14 (upd (F 14) (K 5) (F 2 (ps_ix F row place)))) 15 (upd (F 15) (K 5) (if F 2 (ps_ix F row place) = 0 then 0 else F 3 (ps_ix F row place)))) 2 (upd (F 2) (ps_ix F row place) kind)) 3 (upd (F 3) (ps_ix F row place) (if kind = 0 then 0 else number))) (va_up (va_up (va_up (va_up (va_up (va_up N 12 (ps_len 40000 (N 12) (K 5))) 13 (ps_len 40000 (N 13) (K 5))) 14 (ps_len 40000 (N 14) (K 5))) 15 (ps_len 40000 (N 15) (K 5))) 2 (ps_len 32768 (N 2) (ps_ix F row place))) 3 (ps_len 32768 (N 3) (ps_ix F row place))))) hP hD [0, 1, 2, 35, 3, 4, 5, 6, 7, 8, 9, 10, 36, 37, 38, 39, 11, 12, 13, 14, 15, 16, 17, 18, 19, 20, 21, 22, 23, 24, 25, 26, 27, 28, 29, 30, 31, 32, 33, 34] (by decide) rfl
              refine lv_iconst (v := 1) hx hb d_PS_set_50 (by decide) ?_
              exact ps_iret hx hb hr hlocks hK hP hD hS (by show 0 + 0 + 0 + ps_mc N (K 5) + ps_vc 32768 N 2 (ps_ix F row place) ≤ mc; omega) (by show 0 + 0 + 0 + ps_ms N (K 5) + ps_vs 32768 N 2 (ps_ix F row place) ≤ ms; omega) d_PS_set_51 (ps_cy ⟨hcr_1, c_4⟩ (ps_cy hmu (ps_cn hfull ⟨(va_up (va_up q_10 2 q_14) 3 q_15), rfl, rfl⟩)))
            · exact absurd c_11 (by decide)
        · have hpay := hm2 ⟨hcr_1, c_4⟩ hmu
          refine ps_afterI (wc := (pw cI a q K S ck cu F N)) (wr := []) hP hD hS hA [0, 1, 2, 3, 4, 5, 6, 7, 8, 9, 10, 11, 12, 13, 14, 15, 16, 17, 18, 19, 20, 21, 22, 23, 24, 25, 26, 27, 28, 29, 30, 31, 32, 33, 34, 35, 36, 37, 38, 39] [] rfl rfl (by decide) (by decide) (ps_runVI ⟨hx, hb, hml, hown, hts⟩ (c_rem1 l dC dI cI tys ht a q K S ck cu F N hw hKb hSb (ps_ix F row place) t b ht0 hb0 hix31 htw htb 0 0 (fun q => absurd q hmu)) (ps_cwV ps_gd 2 hts tw_184 k_PS_remember e_PS_remember ⟨Nat.le_of_ble_eq_true rfl, Nat.le_of_ble_eq_true rfl⟩) hK hP hD [0, 1, 2, 3, 4, 5, 6, 7, 8, 9, 10, 11, 12, 13, 14, 15, 16, 17, 18, 19, 20, 21, 22, 23, 24, 25, 26, 27, 28, 29, 30, 31, 32, 33, 34, 35, 36, 37, 38, 39] (by decide) rfl 0 cPS rfl rfl rfl hl.1 rfl (Nat.le_of_ble_eq_true rfl) d_PS_set_29 ⟨by show 0 + 0 + 0 + 0 ≤ mc; omega, by show 0 + 0 + 0 + 0 ≤ ms; omega⟩) (fun r_17 u_16 H locs hu_16 hP hD hS => ?_)
          obtain ⟨hr_17, vu_16⟩ := hu_16.n hmu
          subst hr_17
          subst vu_16
          have hP : va_P (dC, dI) classes (pw cI a q K S ck cu F N) H := hP
          have hD : va_D A (pw cI a q K S ck cu F N) := hD
          refine lv_if_ne (tgt := 38) hx hb d_PS_set_32 (by decide) (fun c_18 => ?_) (fun c_18 => ?_)
          · refine lv_aload_n hx hb d_PS_set_38 rfl (lv_at hl 1 rfl) ?_
            refine va_get (D := (dC, dI)) (ci := cPS) (v := .ref (a 3)) (C := R_PS) (T := F_PS) (N := 10) hx hb hts i_PS hown hK hP 0 rfl rfl 4 (by decide) (hts _ tw_103) (fun _ h9 => h9) rfl d_PS_set_39 ?_
            refine lv_iload hx hb d_PS_set_42 (lv_at hl 0 rfl) ?_
            refine lv_iload_n hx hb d_PS_set_44 rfl (lv_at hl 4 rfl) ?_
            refine lv_iload hx hb d_PS_set_45 (lv_at hl 5 rfl) ?_
            have hilim : ps_ix F row place < 32768 := by omega
            refine ps_afterV (wc := [(a 3, .inr (cVal, [.ref (a 10), .ref (a 11)])), (a 10, .inr (cCol, [.int (nI 32768), .ref (q 2)])), (q 2, .inl (cI, N 2, .inl (F 2))), (a 11, .inr (cCol, [.int (nI 32768), .ref (q 3)])), (q 3, .inl (cI, N 3, .inl (F 3)))]) (wr := [0, 1, 2, 4, 5, 6, 7, 8, 9, 10, 11, 16, 17, 18, 19, 20, 21, 22, 23, 24, 25, 26, 27, 28, 29, 30, 31, 32, 33, 34, 35, 36, 37, 38, 39].filterMap (fun z9 => ((pw cI a q K S ck cu F N) : va_W)[z9]?)) hP hD hS hA [3, 12, 13, 14, 15] [0, 1, 2, 4, 5, 6, 7, 8, 9, 10, 11, 16, 17, 18, 19, 20, 21, 22, 23, 24, 25, 26, 27, 28, 29, 30, 31, 32, 33, 34, 35, 36, 37, 38, 39] rfl rfl (by decide) (by decide) (ps_runVV ⟨hx, hb, hml, hown, hts⟩ (c_vwrite l dC dI cI tys ht (a 3) (a 10) (q 2) (a 11) (q 3) 32768 (N 2) (N 3) (F 2) (F 3) (ps_ix F row place) kind number (hw.z 2 (by decide)) (hw.z 3 (by decide)) (by decide) (hw 2 (by decide)).2 (hw 3 (by decide)).2 hilim) (ps_cwV ps_gd 3 hts tw_159 k_Val_write e_Val_write ⟨Nat.le_of_ble_eq_true rfl, Nat.le_of_ble_eq_true rfl⟩) hK hP hD [3, 12, 13, 14, 15] (by decide) rfl 0 cVal rfl rfl rfl hl.1 rfl (Nat.le_of_ble_eq_true rfl) d_PS_set_47 ⟨by show 0 + 0 + 0 + 0 + ps_vc 32768 N 2 (ps_ix F row place) ≤ mc; omega, by show 0 + 0 + 0 + 0 + ps_vs 32768 N 2 (ps_ix F row place) ≤ ms; omega⟩) (fun u_19 H locs hu_19 hP hD hS => ?_)
            obtain ⟨q_21, q_22, hu_19⟩ := hu_19
            subst hu_19
            obtain ⟨hP, hD⟩ := ps_perm (ws' := (pw cI a (va_up (va_up q 2 q_21) 3 q_22) K S ck cu (va_up (va_up F 2 (upd (F 2) (ps_ix F row place) kind)) 3 (upd (F 3) (ps_ix F row place) (if kind = 0 then 0 else number))) (va_up (va_up N 2 (ps_len 32768 (N 2) (ps_ix F row place))) 3 (ps_len 32768 (N 3) (ps_ix F row place))))) hP hD [0, 1, 2, 35, 3, 4, 5, 6, 7, 8, 9, 10, 36, 37, 38, 39, 11, 12, 13, 14, 15, 16, 17, 18, 19, 20, 21, 22, 23, 24, 25, 26, 27, 28, 29, 30, 31, 32, 33, 34] (by decide) rfl
            refine lv_iconst (v := 1) hx hb d_PS_set_50 (by decide) ?_
            exact ps_iret hx hb hr hlocks hK hP hD hS (by show 0 + 0 + 0 + 0 + ps_vc 32768 N 2 (ps_ix F row place) ≤ mc; omega) (by show 0 + 0 + 0 + 0 + ps_vs 32768 N 2 (ps_ix F row place) ≤ ms; omega) d_PS_set_51 (ps_cy ⟨hcr_1, c_4⟩ (ps_cn hmu ⟨(va_up (va_up q 2 q_21) 3 q_22), rfl, rfl⟩))
          · exact absurd c_18 (by decide)
      · have c_4 := ps_ite0 c_4
        refine lv_iconst (v := (-1)) hx hb d_PS_set_23 (by decide) ?_
        exact ps_iret hx hb hr hlocks hK hP hD hS (Nat.zero_le _) (Nat.zero_le _) d_PS_set_24 (ps_cn (fun q => c_4 q.2) ⟨rfl, rfl⟩)
  · subst hr_1
    refine lv_istore (lv' := [(5, .int (-1)), (0, .ref (a 0)), (1, .int row), (2, .int place), (3, .int kind), (4, .int number)]) hx hb d_PS_set_7 hl (by decide) rfl (fun ls hl => ?_)
    refine lv_iload hx hb d_PS_set_9 (lv_at hl 0 rfl) ?_
    refine lv_iconst (v := (-1)) hx hb d_PS_set_11 (by decide) ?_
    refine lv_icmp_eq (tgt := 23) hx hb d_PS_set_12 (by decide) (fun c_23 => ?_) (fun c_23 => ?_)
    · refine lv_iconst (v := (-1)) hx hb d_PS_set_23 (by decide) ?_
      exact ps_iret hx hb hr hlocks hK hP hD hS (Nat.zero_le _) (Nat.zero_le _) d_PS_set_24 (ps_cn (fun q => hcr_1 q.1) ⟨rfl, rfl⟩)
    · exact absurd rfl c_23

set_option maxHeartbeats 4000000 in
set_option maxRecDepth 100000 in
/-- PageStore.count -/
theorem c_count (l : Launch) (dC : Nat → ClassId) (dI : Nat → Nat → Nat) (cI : ClassId) (tys : List (ClassId × FieldType)) (ht : tys[0]? = some (cI, FieldType.int)) (a q K : Nat → Nat) (S : Nat) (ck cu : Int32) (F : Nat → Nat → Int32) (N : Nat → Nat) (hw : ps_wf F N) (hKb : ∀ j, K j ≤ 65536) (hSb : S ≤ 15) (d : Int32) : ps_mI classes l y_PS_count w_PS_count ({ frames := 3, cells := 0, slots := 0, locals := 67 }) (dC, dI) tys [.ref (a 0), .int d] (pw cI a q K S ck cu F N) (fun r u => u = pw cI a q K S ck cu F N ∧ ps_c (nI 1 ≤ d ∧ d ≤ nI (K 3)) (r = nI (ps_cnt (fun j => decide (F 7 j = d ∧ ¬ F 10 j = -1)) (K 4))) (r = -1)) := by
  refine ps_mI_of (by decide) rfl (Nat.le_of_ble_eq_true rfl) ?_
  intro p e s m below meth c A ls C0 hA hK hP hD hS hl
  obtain ⟨hx, hb, hr, hml, hts, hown, hlocks, hin⟩ := C0
  have hl : lv_has ls 2 [(0, .ref (a 0)), (1, .int d)] := hl
  have hP : va_P (dC, dI) classes (pw cI a q K S ck cu F N) s.heap := hP
  have hD : va_D A (pw cI a q K S ck cu F N) := hD
  refine lv_aload_n hx hb d_PS_count_0 rfl (lv_at hl 0 rfl) ?_
  refine lv_iload_n hx hb d_PS_count_1 rfl (lv_at hl 1 rfl) ?_
  refine ps_readI (wc := (pw cI a q K S ck cu F N)) hP hD hS hA [0, 1, 2, 3, 4, 5, 6, 7, 8, 9, 10, 11, 12, 13, 14, 15, 16, 17, 18, 19, 20, 21, 22, 23, 24, 25, 26, 27, 28, 29, 30, 31, 32, 33, 34, 35, 36, 37, 38, 39] rfl (fun _ _ h => h.1) (ps_runVI ⟨hx, hb, hml, hown, hts⟩ (c_isDic l dC dI cI tys ht a q K S ck cu F N hw hKb hSb d) (ps_cwV ps_gd 1 hts tw_99 k_PS_isDictionary e_PS_isDictionary ⟨Nat.le_of_ble_eq_true rfl, Nat.le_of_ble_eq_true rfl⟩) hK hP hD [0, 1, 2, 3, 4, 5, 6, 7, 8, 9, 10, 11, 12, 13, 14, 15, 16, 17, 18, 19, 20, 21, 22, 23, 24, 25, 26, 27, 28, 29, 30, 31, 32, 33, 34, 35, 36, 37, 38, 39] (by decide) rfl 0 cPS rfl rfl rfl hl.1 rfl (Nat.le_of_ble_eq_true rfl) d_PS_count_2 ⟨Nat.zero_le _, Nat.zero_le _⟩) (fun r_1 H locs hr_1 hP hS => ?_)
  obtain ⟨-, hr_1⟩ := hr_1
  subst hr_1
  refine lv_if_eq (tgt := 25) hx hb d_PS_count_5 (by decide) (fun c_2 => ?_) (fun c_2 => ?_)
  · have c_2 := ps_ite0 c_2
    refine lv_iconst (v := (-1)) hx hb d_PS_count_25 (by decide) ?_
    exact ps_iret hx hb hr hlocks hK hP hD hS (Nat.le_of_ble_eq_true rfl) (Nat.le_of_ble_eq_true rfl) d_PS_count_26 (⟨rfl, ps_cn c_2 rfl⟩)
  · have c_2 := ps_ite1 c_2
    refine lv_aload_n hx hb d_PS_count_8 rfl (lv_at hl 0 rfl) ?_
    refine va_get (D := (dC, dI)) (ci := cPS) (v := .ref (a 4)) (C := R_PS) (T := F_PS) (N := 10) hx hb hts i_PS hown hK hP 0 rfl rfl 6 (by decide) (hts _ tw_104) (fun _ h9 => h9) rfl d_PS_count_9 ?_
    refine lv_iload_n hx hb d_PS_count_12 rfl (lv_at hl 1 rfl) ?_
    refine lv_aload_n hx hb d_PS_count_13 rfl (lv_at hl 0 rfl) ?_
    refine va_get (D := (dC, dI)) (ci := cPS) (v := .ref (a 1)) (C := R_PS) (T := F_PS) (N := 10) hx hb hts i_PS hown hK hP 0 rfl rfl 0 (by decide) (hts _ tw_97) (fun _ h9 => h9) rfl d_PS_count_14 ?_
    refine lv_iconst (v := nI 4) hx hb d_PS_count_17 (by decide) ?_
    refine va_iald hx hb hK hP 1 0 rfl ht (vp_in_nI (show 4 < 6 by decide) (by decide)) d_PS_count_18 ?_
    refine ps_top (z := nI (K 4)) (ps_kat _ 4 (by decide)) ?_
    refine ps_readI (wc := [(a 4, .inr (cKey, [.ref (a 15), .ref (a 16), .ref (a 17), .ref (a 5)])), (a 15, .inr (cCol, [.int (nI 16384), .ref (q 7)])), (q 7, .inl (cI, N 7, .inl (F 7))), (a 16, .inr (cCol, [.int (nI 16384), .ref (q 8)])), (q 8, .inl (cI, N 8, .inl (F 8))), (a 17, .inr (cCol, [.int (nI 16384), .ref (q 9)])), (q 9, .inl (cI, N 9, .inl (F 9))), (a 5, .inr (cVal, [.ref (a 18), .ref (a 19)])), (a 18, .inr (cCol, [.int (nI 16384), .ref (q 10)])), (q 10, .inl (cI, N 10, .inl (F 10)))]) hP hD hS hA [4, 22, 23, 24, 25, 26, 27, 5, 28, 29] rfl (fun _ _ h => h.1) (ps_runVI ⟨hx, hb, hml, hown, hts⟩ (c_khow l dC dI cI tys ht (a 4) (a 5) (a 15) (q 7) (a 16) (q 8) (a 17) (q 9) (a 18) (q 10) (a 19) 16384 (N 7) (N 8) (N 9) (N 10) (F 7) (F 8) (F 9) (F 10) d (K 4) (hw.z 7 (by decide)) (hw.z 8 (by decide)) (hw.z 9 (by decide)) (hw.z 10 (by decide)) (hw.n 7 (by decide)) (hw.n 8 (by decide)) (hw.n 9 (by decide)) (hw.n 10 (by decide)) (by have b4 := hKb 4; omega)) (ps_cwV ps_gd 2 hts tw_185 k_Key_howManyThere e_Key_howManyThere ⟨Nat.le_of_ble_eq_true rfl, Nat.le_of_ble_eq_true rfl⟩) hK hP hD [4, 22, 23, 24, 25, 26, 27, 5, 28, 29] (by decide) rfl 0 cKey rfl rfl rfl hl.1 rfl (Nat.le_of_ble_eq_true rfl) d_PS_count_19 ⟨Nat.zero_le _, Nat.zero_le _⟩) (fun r_3 H locs hr_3 hP hS => ?_)
    obtain ⟨-, hr_3⟩ := hr_3
    subst hr_3
    refine lv_goto (tgt := 26) hx hb d_PS_count_22 (by decide) ?_
    exact ps_iret hx hb hr hlocks hK hP hD hS (Nat.le_of_ble_eq_true rfl) (Nat.le_of_ble_eq_true rfl) d_PS_count_26 (⟨rfl, ps_cy c_2 rfl⟩)

set_option maxHeartbeats 4000000 in
set_option maxRecDepth 100000 in
/-- PageStore.find -/
theorem c_find (l : Launch) (dC : Nat → ClassId) (dI : Nat → Nat → Nat) (cI : ClassId) (tys : List (ClassId × FieldType)) (ht : tys[0]? = some (cI, FieldType.int)) (a q K : Nat → Nat) (S : Nat) (ck cu : Int32) (F : Nat → Nat → Int32) (N : Nat → Nat) (hw : ps_wf F N) (hKb : ∀ j, K j ≤ 65536) (hSb : S ≤ 15) (d kk key : Int32) : ps_mI classes l y_PS_find w_PS_find ({ frames := 3, cells := 0, slots := 0, locals := 71 }) (dC, dI) tys [.ref (a 0), .int d, .int kk, .int key] (pw cI a q K S ck cu F N) (fun r u => u = pw cI a q K S ck cu F N ∧ ps_c ((nI 1 ≤ d ∧ d ≤ nI (K 3)) ∧ (nI 1 ≤ kk ∧ kk ≤ nI 15)) ((ps_not (fun j => F 9 j = key ∧ F 8 j = kk ∧ F 7 j = d) 0 (K 4) ∧ r = -2) ∨ (∃ j : Nat, j < K 4 ∧ (fun j => F 9 j = key ∧ F 8 j = kk ∧ F 7 j = d) j ∧ ps_not (fun j => F 9 j = key ∧ F 8 j = kk ∧ F 7 j = d) 0 j ∧ ps_c (F 10 j = -1) (r = -2) (r = F 10 j))) (r = -1)) := by
  refine ps_mI_of (by decide) rfl (Nat.le_of_ble_eq_true rfl) ?_
  intro p e s m below meth c A ls C0 hA hK hP hD hS hl
  obtain ⟨hx, hb, hr, hml, hts, hown, hlocks, hin⟩ := C0
  have hl : lv_has ls 5 [(0, .ref (a 0)), (1, .int d), (2, .int kk), (3, .int key)] := hl
  have hP : va_P (dC, dI) classes (pw cI a q K S ck cu F N) s.heap := hP
  have hD : va_D A (pw cI a q K S ck cu F N) := hD
  refine lv_aload_n hx hb d_PS_find_0 rfl (lv_at hl 0 rfl) ?_
  refine lv_iload_n hx hb d_PS_find_1 rfl (lv_at hl 1 rfl) ?_
  refine lv_iload_n hx hb d_PS_find_2 rfl (lv_at hl 2 rfl) ?_
  refine ps_readI (wc := (pw cI a q K S ck cu F N)) hP hD hS hA [0, 1, 2, 3, 4, 5, 6, 7, 8, 9, 10, 11, 12, 13, 14, 15, 16, 17, 18, 19, 20, 21, 22, 23, 24, 25, 26, 27, 28, 29, 30, 31, 32, 33, 34, 35, 36, 37, 38, 39] rfl (fun _ _ h => h.1) (ps_runVI ⟨hx, hb, hml, hown, hts⟩ (c_isKP l dC dI cI tys ht a q K S ck cu F N hw hKb hSb d kk) (ps_cwV ps_gd 2 hts tw_186 k_PS_isKeyPossible e_PS_isKeyPossible ⟨Nat.le_of_ble_eq_true rfl, Nat.le_of_ble_eq_true rfl⟩) hK hP hD [0, 1, 2, 3, 4, 5, 6, 7, 8, 9, 10, 11, 12, 13, 14, 15, 16, 17, 18, 19, 20, 21, 22, 23, 24, 25, 26, 27, 28, 29, 30, 31, 32, 33, 34, 35, 36, 37, 38, 39] (by decide) rfl 0 cPS rfl rfl rfl hl.1 rfl (Nat.le_of_ble_eq_true rfl) d_PS_find_3 ⟨Nat.zero_le _, Nat.zero_le _⟩) (fun r_1 H locs hr_1 hP hS => ?_)
  obtain ⟨-, hr_1⟩ := hr_1
  subst hr_1
  refine lv_if_ne (tgt := 11) hx hb d_PS_find_6 (by decide) (fun c_2 => ?_) (fun c_2 => ?_)
  · have c_2 := ps_ite1 c_2
    refine lv_aload_n hx hb d_PS_find_11 rfl (lv_at hl 0 rfl) ?_
    refine va_get (D := (dC, dI)) (ci := cPS) (v := .ref (a 4)) (C := R_PS) (T := F_PS) (N := 10) hx hb hts i_PS hown hK hP 0 rfl rfl 6 (by decide) (hts _ tw_104) (fun _ h9 => h9) rfl d_PS_find_12 ?_
    refine lv_iload_n hx hb d_PS_find_15 rfl (lv_at hl 1 rfl) ?_
    refine lv_iload_n hx hb d_PS_find_16 rfl (lv_at hl 2 rfl) ?_
    refine lv_iload_n hx hb d_PS_find_17 rfl (lv_at hl 3 rfl) ?_
    refine lv_aload_n hx hb d_PS_find_18 rfl (lv_at hl 0 rfl) ?_
    refine va_get (D := (dC, dI)) (ci := cPS) (v := .ref (a 1)) (C := R_PS) (T := F_PS) (N := 10) hx hb hts i_PS hown hK hP 0 rfl rfl 0 (by decide) (hts _ tw_97) (fun _ h9 => h9) rfl d_PS_find_19 ?_
    refine lv_iconst (v := nI 4) hx hb d_PS_find_22 (by decide) ?_
    refine va_iald hx hb hK hP 1 0 rfl ht (vp_in_nI (show 4 < 6 by decide) (by decide)) d_PS_find_23 ?_
    refine ps_top (z := nI (K 4)) (ps_kat _ 4 (by decide)) ?_
    refine ps_readI (wc := [(a 4, .inr (cKey, [.ref (a 15), .ref (a 16), .ref (a 17), .ref (a 5)])), (a 15, .inr (cCol, [.int (nI 16384), .ref (q 7)])), (q 7, .inl (cI, N 7, .inl (F 7))), (a 16, .inr (cCol, [.int (nI 16384), .ref (q 8)])), (q 8, .inl (cI, N 8, .inl (F 8))), (a 17, .inr (cCol, [.int (nI 16384), .ref (q 9)])), (q 9, .inl (cI, N 9, .inl (F 9))), (a 5, .inr (cVal, [.ref (a 18), .ref (a 19)])), (a 18, .inr (cCol, [.int (nI 16384), .ref (q 10)])), (q 10, .inl (cI, N 10, .inl (F 10)))]) hP hD hS hA [4, 22, 23, 24, 25, 26, 27, 5, 28, 29] rfl (fun _ _ h => h.1) (ps_runVI ⟨hx, hb, hml, hown, hts⟩ (c_kift l dC dI cI tys ht (a 4) (a 5) (a 15) (q 7) (a 16) (q 8) (a 17) (q 9) (a 18) (q 10) (a 19) 16384 (N 7) (N 8) (N 9) (N 10) (F 7) (F 8) (F 9) (F 10) d kk key (K 4) (hw.z 7 (by decide)) (hw.z 8 (by decide)) (hw.z 9 (by decide)) (hw.z 10 (by decide)) (hw.n 7 (by decide)) (hw.n 8 (by decide)) (hw.n 9 (by decide)) (hw.n 10 (by decide)) (by have b4 := hKb 4; omega)) (ps_cwV ps_gd 4 hts tw_187 k_Key_indexIfThere e_Key_indexIfThere ⟨Nat.le_of_ble_eq_true rfl, Nat.le_of_ble_eq_true rfl⟩) hK hP hD [4, 22, 23, 24, 25, 26, 27, 5, 28, 29] (by decide) rfl 0 cKey rfl rfl rfl hl.1 rfl (Nat.le_of_ble_eq_true rfl) d_PS_find_24 ⟨Nat.zero_le _, Nat.zero_le _⟩) (fun r_3 H locs hr_3 hP hS => ?_)
    obtain ⟨-, hr_3⟩ := hr_3
    rcases ps_ift (M := (fun j => F 9 j = key ∧ F 8 j = kk ∧ F 7 j = d)) (by have b4 := hKb 4; omega) (fun j q => q.2.2) hr_3 with ⟨hnone, hr_3⟩ | ⟨j, hj, hjm, hjn, ⟨hgone, hr_3⟩ | ⟨hgone, hr_3⟩⟩
    · subst hr_3
      refine lv_istore (lv' := [(4, .int (-1)), (0, .ref (a 0)), (1, .int d), (2, .int kk), (3, .int key)]) hx hb d_PS_find_27 hl (by decide) rfl (fun ls hl => ?_)
      refine lv_iload hx hb d_PS_find_29 (lv_at hl 0 rfl) ?_
      refine lv_iconst (v := (-1)) hx hb d_PS_find_31 (by decide) ?_
      refine lv_icmp_ne (tgt := 40) hx hb d_PS_find_32 (by decide) (fun c_4 => ?_) (fun c_4 => ?_)
      · exact absurd rfl c_4
      · refine lv_bipush (v := (-2)) hx hb d_PS_find_35 (by decide) ?_
        refine lv_goto (tgt := 55) hx hb d_PS_find_37 (by decide) ?_
        exact ps_iret hx hb hr hlocks hK hP hD hS (Nat.le_of_ble_eq_true rfl) (Nat.le_of_ble_eq_true rfl) d_PS_find_55 (⟨rfl, ps_cy c_2 (Or.inl ⟨hnone, rfl⟩)⟩)
    · subst hr_3
      refine lv_istore (lv' := [(4, .int (-1)), (0, .ref (a 0)), (1, .int d), (2, .int kk), (3, .int key)]) hx hb d_PS_find_27 hl (by decide) rfl (fun ls hl => ?_)
      refine lv_iload hx hb d_PS_find_29 (lv_at hl 0 rfl) ?_
      refine lv_iconst (v := (-1)) hx hb d_PS_find_31 (by decide) ?_
      refine lv_icmp_ne (tgt := 40) hx hb d_PS_find_32 (by decide) (fun c_5 => ?_) (fun c_5 => ?_)
      · exact absurd rfl c_5
      · refine lv_bipush (v := (-2)) hx hb d_PS_find_35 (by decide) ?_
        refine lv_goto (tgt := 55) hx hb d_PS_find_37 (by decide) ?_
        exact ps_iret hx hb hr hlocks hK hP hD hS (Nat.le_of_ble_eq_true rfl) (Nat.le_of_ble_eq_true rfl) d_PS_find_55 (⟨rfl, ps_cy c_2 (Or.inr ⟨j, hj, hjm, hjn, ps_cy hgone rfl⟩)⟩)
    · subst hr_3
      have hj31 : j < 2 ^ 31 := by have b4 := hKb 4; omega
      refine lv_istore (lv' := [(4, .int (nI j)), (0, .ref (a 0)), (1, .int d), (2, .int kk), (3, .int key)]) hx hb d_PS_find_27 hl (by decide) rfl (fun ls hl => ?_)
      refine lv_iload hx hb d_PS_find_29 (lv_at hl 0 rfl) ?_
      refine lv_iconst (v := (-1)) hx hb d_PS_find_31 (by decide) ?_
      refine lv_icmp_ne (tgt := 40) hx hb d_PS_find_32 (by decide) (fun c_6 => ?_) (fun c_6 => ?_)
      · refine lv_aload_n hx hb d_PS_find_40 rfl (lv_at hl 1 rfl) ?_
        refine va_get (D := (dC, dI)) (ci := cPS) (v := .ref (a 4)) (C := R_PS) (T := F_PS) (N := 10) hx hb hts i_PS hown hK hP 0 rfl rfl 6 (by decide) (hts _ tw_104) (fun _ h9 => h9) rfl d_PS_find_41 ?_
        refine va_get (D := (dC, dI)) (ci := cKey) (v := .ref (a 5)) (C := R_Key) (T := F_Key) (N := 4) hx hb hts i_Key hown hK hP 4 rfl rfl 3 (by decide) (hts _ tw_105) (fun _ h9 => h9) rfl d_PS_find_44 ?_
        refine va_get (D := (dC, dI)) (ci := cVal) (v := .ref (a 18)) (C := R_Val) (T := F_Val) (N := 2) hx hb hts i_Val hown hK hP 5 rfl rfl 0 (by decide) (hts _ tw_143) (fun _ h9 => h9) rfl d_PS_find_47 ?_
        refine lv_iload hx hb d_PS_find_50 (lv_at hl 0 rfl) ?_
        refine ps_readI (wc := [(a 18, .inr (cCol, [.int (nI 16384), .ref (q 10)])), (q 10, .inl (cI, N 10, .inl (F 10)))]) hP hD hS hA [28, 29] rfl (fun _ _ h => h.1) (ps_runVI ⟨hx, hb, hml, hown, hts⟩ (c_at l dC dI cI tys ht (a 18) (q 10) 16384 (N 10) (F 10) j (hw.z 10 (by decide)) (hw.n 10 (by decide)) hj31) (ps_cwV ps_gd 1 hts tw_102 k_Col_at e_Col_at ⟨Nat.le_of_ble_eq_true rfl, Nat.le_of_ble_eq_true rfl⟩) hK hP hD [28, 29] (by decide) rfl 0 cCol rfl rfl rfl hl.1 rfl (Nat.le_of_ble_eq_true rfl) d_PS_find_52 ⟨Nat.zero_le _, Nat.zero_le _⟩) (fun r_7 H locs hr_7 hP hS => ?_)
        obtain ⟨-, hr_7⟩ := hr_7
        subst hr_7
        exact ps_iret hx hb hr hlocks hK hP hD hS (Nat.le_of_ble_eq_true rfl) (Nat.le_of_ble_eq_true rfl) d_PS_find_55 (⟨rfl, ps_cy c_2 (Or.inr ⟨j, hj, hjm, hjn, ps_cn hgone rfl⟩)⟩)
      · exact absurd c_6 (ps_m1 hj31)
  · have c_2 := ps_ite0 c_2
    refine lv_iconst (v := (-1)) hx hb d_PS_find_9 (by decide) ?_
    exact ps_iret hx hb hr hlocks hK hP hD hS (Nat.le_of_ble_eq_true rfl) (Nat.le_of_ble_eq_true rfl) d_PS_find_10 (⟨rfl, ps_cn c_2 rfl⟩)

set_option maxHeartbeats 4000000 in
set_option maxRecDepth 100000 in
/-- PageStore.found -/
theorem c_found (l : Launch) (dC : Nat → ClassId) (dI : Nat → Nat → Nat) (cI : ClassId) (tys : List (ClassId × FieldType)) (ht : tys[0]? = some (cI, FieldType.int)) (a q K : Nat → Nat) (S : Nat) (ck cu : Int32) (F : Nat → Nat → Int32) (N : Nat → Nat) (hw : ps_wf F N) (hKb : ∀ j, K j ≤ 65536) (hSb : S ≤ 15) (d kk key : Int32) : ps_mI classes l y_PS_found w_PS_found ({ frames := 3, cells := 0, slots := 0, locals := 71 }) (dC, dI) tys [.ref (a 0), .int d, .int kk, .int key] (pw cI a q K S ck cu F N) (fun r u => u = pw cI a q K S ck cu F N ∧ ((ps_not (fun j => F 9 j = key ∧ F 8 j = kk ∧ F 7 j = d) 0 (K 4) ∧ r = 0) ∨ (∃ j : Nat, j < K 4 ∧ (fun j => F 9 j = key ∧ F 8 j = kk ∧ F 7 j = d) j ∧ ps_not (fun j => F 9 j = key ∧ F 8 j = kk ∧ F 7 j = d) 0 j ∧ ps_c (F 10 j = -1) (r = 0) (r = F 11 j)))) := by
  refine ps_mI_of (by decide) rfl (Nat.le_of_ble_eq_true rfl) ?_
  intro p e s m below meth c A ls C0 hA hK hP hD hS hl
  obtain ⟨hx, hb, hr, hml, hts, hown, hlocks, hin⟩ := C0
  have hl : lv_has ls 5 [(0, .ref (a 0)), (1, .int d), (2, .int kk), (3, .int key)] := hl
  have hP : va_P (dC, dI) classes (pw cI a q K S ck cu F N) s.heap := hP
  have hD : va_D A (pw cI a q K S ck cu F N) := hD
  refine lv_aload_n hx hb d_PS_found_0 rfl (lv_at hl 0 rfl) ?_
  refine va_get (D := (dC, dI)) (ci := cPS) (v := .ref (a 4)) (C := R_PS) (T := F_PS) (N := 10) hx hb hts i_PS hown hK hP 0 rfl rfl 6 (by decide) (hts _ tw_104) (fun _ h9 => h9) rfl d_PS_found_1 ?_
  refine lv_iload_n hx hb d_PS_found_4 rfl (lv_at hl 1 rfl) ?_
  refine lv_iload_n hx hb d_PS_found_5 rfl (lv_at hl 2 rfl) ?_
  refine lv_iload_n hx hb d_PS_found_6 rfl (lv_at hl 3 rfl) ?_
  refine lv_aload_n hx hb d_PS_found_7 rfl (lv_at hl 0 rfl) ?_
  refine va_get (D := (dC, dI)) (ci := cPS) (v := .ref (a 1)) (C := R_PS) (T := F_PS) (N := 10) hx hb hts i_PS hown hK hP 0 rfl rfl 0 (by decide) (hts _ tw_97) (fun _ h9 => h9) rfl d_PS_found_8 ?_
  refine lv_iconst (v := nI 4) hx hb d_PS_found_11 (by decide) ?_
  refine va_iald hx hb hK hP 1 0 rfl ht (vp_in_nI (show 4 < 6 by decide) (by decide)) d_PS_found_12 ?_
  refine ps_top (z := nI (K 4)) (ps_kat _ 4 (by decide)) ?_
  refine ps_readI (wc := [(a 4, .inr (cKey, [.ref (a 15), .ref (a 16), .ref (a 17), .ref (a 5)])), (a 15, .inr (cCol, [.int (nI 16384), .ref (q 7)])), (q 7, .inl (cI, N 7, .inl (F 7))), (a 16, .inr (cCol, [.int (nI 16384), .ref (q 8)])), (q 8, .inl (cI, N 8, .inl (F 8))), (a 17, .inr (cCol, [.int (nI 16384), .ref (q 9)])), (q 9, .inl (cI, N 9, .inl (F 9))), (a 5, .inr (cVal, [.ref (a 18), .ref (a 19)])), (a 18, .inr (cCol, [.int (nI 16384), .ref (q 10)])), (q 10, .inl (cI, N 10, .inl (F 10)))]) hP hD hS hA [4, 22, 23, 24, 25, 26, 27, 5, 28, 29] rfl (fun _ _ h => h.1) (ps_runVI ⟨hx, hb, hml, hown, hts⟩ (c_kift l dC dI cI tys ht (a 4) (a 5) (a 15) (q 7) (a 16) (q 8) (a 17) (q 9) (a 18) (q 10) (a 19) 16384 (N 7) (N 8) (N 9) (N 10) (F 7) (F 8) (F 9) (F 10) d kk key (K 4) (hw.z 7 (by decide)) (hw.z 8 (by decide)) (hw.z 9 (by decide)) (hw.z 10 (by decide)) (hw.n 7 (by decide)) (hw.n 8 (by decide)) (hw.n 9 (by decide)) (hw.n 10 (by decide)) (by have b4 := hKb 4; omega)) (ps_cwV ps_gd 4 hts tw_187 k_Key_indexIfThere e_Key_indexIfThere ⟨Nat.le_of_ble_eq_true rfl, Nat.le_of_ble_eq_true rfl⟩) hK hP hD [4, 22, 23, 24, 25, 26, 27, 5, 28, 29] (by decide) rfl 0 cKey rfl rfl rfl hl.1 rfl (Nat.le_of_ble_eq_true rfl) d_PS_found_13 ⟨Nat.zero_le _, Nat.zero_le _⟩) (fun r_1 H locs hr_1 hP hS => ?_)
  obtain ⟨-, hr_1⟩ := hr_1
  rcases ps_ift (M := (fun j => F 9 j = key ∧ F 8 j = kk ∧ F 7 j = d)) (by have b4 := hKb 4; omega) (fun j q => q.2.2) hr_1 with ⟨hnone, hr_1⟩ | ⟨j, hj, hjm, hjn, ⟨hgone, hr_1⟩ | ⟨hgone, hr_1⟩⟩
  · subst hr_1
    refine lv_istore (lv' := [(4, .int (-1)), (0, .ref (a 0)), (1, .int d), (2, .int kk), (3, .int key)]) hx hb d_PS_found_16 hl (by decide) rfl (fun ls hl => ?_)
    refine lv_iload hx hb d_PS_found_18 (lv_at hl 0 rfl) ?_
    refine lv_iconst (v := (-1)) hx hb d_PS_found_20 (by decide) ?_
    refine lv_icmp_ne (tgt := 28) hx hb d_PS_found_21 (by decide) (fun c_2 => ?_) (fun c_2 => ?_)
    · exact absurd rfl c_2
    · refine lv_iconst (v := 0) hx hb d_PS_found_24 (by decide) ?_
      refine lv_goto (tgt := 43) hx hb d_PS_found_25 (by decide) ?_
      exact ps_iret hx hb hr hlocks hK hP hD hS (Nat.le_of_ble_eq_true rfl) (Nat.le_of_ble_eq_true rfl) d_PS_found_43 (⟨rfl, Or.inl ⟨hnone, rfl⟩⟩)
  · subst hr_1
    refine lv_istore (lv' := [(4, .int (-1)), (0, .ref (a 0)), (1, .int d), (2, .int kk), (3, .int key)]) hx hb d_PS_found_16 hl (by decide) rfl (fun ls hl => ?_)
    refine lv_iload hx hb d_PS_found_18 (lv_at hl 0 rfl) ?_
    refine lv_iconst (v := (-1)) hx hb d_PS_found_20 (by decide) ?_
    refine lv_icmp_ne (tgt := 28) hx hb d_PS_found_21 (by decide) (fun c_3 => ?_) (fun c_3 => ?_)
    · exact absurd rfl c_3
    · refine lv_iconst (v := 0) hx hb d_PS_found_24 (by decide) ?_
      refine lv_goto (tgt := 43) hx hb d_PS_found_25 (by decide) ?_
      exact ps_iret hx hb hr hlocks hK hP hD hS (Nat.le_of_ble_eq_true rfl) (Nat.le_of_ble_eq_true rfl) d_PS_found_43 (⟨rfl, Or.inr ⟨j, hj, hjm, hjn, ps_cy hgone rfl⟩⟩)
  · subst hr_1
    have hj31 : j < 2 ^ 31 := by have b4 := hKb 4; omega
    refine lv_istore (lv' := [(4, .int (nI j)), (0, .ref (a 0)), (1, .int d), (2, .int kk), (3, .int key)]) hx hb d_PS_found_16 hl (by decide) rfl (fun ls hl => ?_)
    refine lv_iload hx hb d_PS_found_18 (lv_at hl 0 rfl) ?_
    refine lv_iconst (v := (-1)) hx hb d_PS_found_20 (by decide) ?_
    refine lv_icmp_ne (tgt := 28) hx hb d_PS_found_21 (by decide) (fun c_4 => ?_) (fun c_4 => ?_)
    · refine lv_aload_n hx hb d_PS_found_28 rfl (lv_at hl 1 rfl) ?_
      refine va_get (D := (dC, dI)) (ci := cPS) (v := .ref (a 4)) (C := R_PS) (T := F_PS) (N := 10) hx hb hts i_PS hown hK hP 0 rfl rfl 6 (by decide) (hts _ tw_104) (fun _ h9 => h9) rfl d_PS_found_29 ?_
      refine va_get (D := (dC, dI)) (ci := cKey) (v := .ref (a 5)) (C := R_Key) (T := F_Key) (N := 4) hx hb hts i_Key hown hK hP 4 rfl rfl 3 (by decide) (hts _ tw_105) (fun _ h9 => h9) rfl d_PS_found_32 ?_
      refine va_get (D := (dC, dI)) (ci := cVal) (v := .ref (a 19)) (C := R_Val) (T := F_Val) (N := 2) hx hb hts i_Val hown hK hP 5 rfl rfl 1 (by decide) (hts _ tw_142) (fun _ h9 => h9) rfl d_PS_found_35 ?_
      refine lv_iload hx hb d_PS_found_38 (lv_at hl 0 rfl) ?_
      refine ps_readI (wc := [(a 19, .inr (cCol, [.int (nI 16384), .ref (q 11)])), (q 11, .inl (cI, N 11, .inl (F 11)))]) hP hD hS hA [30, 31] rfl (fun _ _ h => h.1) (ps_runVI ⟨hx, hb, hml, hown, hts⟩ (c_at l dC dI cI tys ht (a 19) (q 11) 16384 (N 11) (F 11) j (hw.z 11 (by decide)) (hw.n 11 (by decide)) hj31) (ps_cwV ps_gd 1 hts tw_102 k_Col_at e_Col_at ⟨Nat.le_of_ble_eq_true rfl, Nat.le_of_ble_eq_true rfl⟩) hK hP hD [30, 31] (by decide) rfl 0 cCol rfl rfl rfl hl.1 rfl (Nat.le_of_ble_eq_true rfl) d_PS_found_40 ⟨Nat.zero_le _, Nat.zero_le _⟩) (fun r_5 H locs hr_5 hP hS => ?_)
      obtain ⟨-, hr_5⟩ := hr_5
      subst hr_5
      exact ps_iret hx hb hr hlocks hK hP hD hS (Nat.le_of_ble_eq_true rfl) (Nat.le_of_ble_eq_true rfl) d_PS_found_43 (⟨rfl, Or.inr ⟨j, hj, hjm, hjn, ps_cn hgone rfl⟩⟩)
    · exact absurd c_4 (ps_m1 hj31)

set_option maxHeartbeats 4000000 in
set_option maxRecDepth 100000 in
/-- PageStore.undefine -/
theorem c_undefine (l : Launch) (dC : Nat → ClassId) (dI : Nat → Nat → Nat) (cI : ClassId) (tys : List (ClassId × FieldType)) (ht : tys[0]? = some (cI, FieldType.int)) (a q K : Nat → Nat) (S : Nat) (ck cu : Int32) (F : Nat → Nat → Int32) (N : Nat → Nat) (hw : ps_wf F N) (hKb : ∀ j, K j ≤ 65536) (hSb : S ≤ 15) (d kk key : Int32) (hk4 : K 4 ≤ 16384) (t b : Nat) (ht0 : t ≤ 65536) (hb0 : b ≤ 65536) (htw : ¬ S = 0 → F 0 ((S - 1) * 6 + 4) = nI t) (htb : ¬ S = 0 → F 0 ((S - 1) * 6 + 5) = nI b) (mc ms : Nat) (hm1 : ((nI 1 ≤ d ∧ d ≤ nI (K 3)) ∧ (nI 1 ≤ kk ∧ kk ≤ nI 15)) → ∀ j : Nat, j < K 4 → (fun j => F 9 j = key ∧ F 8 j = kk ∧ F 7 j = d) j → ps_not (fun j => F 9 j = key ∧ F 8 j = kk ∧ F 7 j = d) 0 j → ¬ F 10 j = -1 → ps_must S t b (K 5) F 4 j → ¬ 40000 ≤ K 5 → ps_mc N (K 5) + ps_vc 16384 N 10 j ≤ mc ∧ ps_ms N (K 5) + ps_vs 16384 N 10 j ≤ ms) (hm2 : ((nI 1 ≤ d ∧ d ≤ nI (K 3)) ∧ (nI 1 ≤ kk ∧ kk ≤ nI 15)) → ∀ j : Nat, j < K 4 → (fun j => F 9 j = key ∧ F 8 j = kk ∧ F 7 j = d) j → ps_not (fun j => F 9 j = key ∧ F 8 j = kk ∧ F 7 j = d) 0 j → ¬ F 10 j = -1 → ¬ ps_must S t b (K 5) F 4 j → ps_vc 16384 N 10 j ≤ mc ∧ ps_vs 16384 N 10 j ≤ ms) : ps_mI classes l y_PS_undefine w_PS_undefine ({ frames := 6, cells := mc, slots := ms, locals := 133 }) (dC, dI) tys [.ref (a 0), .int d, .int kk, .int key] (pw cI a q K S ck cu F N) (fun r u => ps_c ((nI 1 ≤ d ∧ d ≤ nI (K 3)) ∧ (nI 1 ≤ kk ∧ kk ≤ nI 15)) ((ps_not (fun j => F 9 j = key ∧ F 8 j = kk ∧ F 7 j = d) 0 (K 4) ∧ r = -2 ∧ u = pw cI a q K S ck cu F N) ∨ (∃ j : Nat, j < K 4 ∧ (fun j => F 9 j = key ∧ F 8 j = kk ∧ F 7 j = d) j ∧ ps_not (fun j => F 9 j = key ∧ F 8 j = kk ∧ F 7 j = d) 0 j ∧ ps_c (F 10 j = -1) (r = -2 ∧ u = pw cI a q K S ck cu F N) (ps_c (ps_must S t b (K 5) F 4 j) (ps_c (40000 ≤ K 5) (r = -3 ∧ u = pw cI a q K S ck cu F N) (∃ q1 : Nat → Nat, r = 1 ∧ u = pw cI a q1 (va_up K 5 (K 5 + 1)) S ck cu (ps_Fv (ps_Fm F (K 5) (nI 4) j (F 10 j) (F 11 j)) 10 j (-1) 0) (ps_Nv (ps_Nm N (K 5)) 10 j))) (∃ q1 : Nat → Nat, r = 1 ∧ u = pw cI a q1 K S ck cu (ps_Fv F 10 j (-1) 0) (ps_Nv N 10 j))))) (r = -1 ∧ u = pw cI a q K S ck cu F N)) := by
  refine ps_mI_of (by decide) rfl (Nat.le_of_ble_eq_true rfl) ?_
  intro p e s m below meth c A ls C0 hA hK hP hD hS hl
  obtain ⟨hx, hb, hr, hml, hts, hown, hlocks, hin⟩ := C0
  have hl : lv_has ls 5 [(0, .ref (a 0)), (1, .int d), (2, .int kk), (3, .int key)] := hl
  have hP : va_P (dC, dI) classes (pw cI a q K S ck cu F N) s.heap := hP
  have hD : va_D A (pw cI a q K S ck cu F N) := hD
  refine lv_aload_n hx hb d_PS_undefine_0 rfl (lv_at hl 0 rfl) ?_
  refine lv_iload_n hx hb d_PS_undefine_1 rfl (lv_at hl 1 rfl) ?_
  refine lv_iload_n hx hb d_PS_undefine_2 rfl (lv_at hl 2 rfl) ?_
  refine ps_readI (wc := (pw cI a q K S ck cu F N)) hP hD hS hA [0, 1, 2, 3, 4, 5, 6, 7, 8, 9, 10, 11, 12, 13, 14, 15, 16, 17, 18, 19, 20, 21, 22, 23, 24, 25, 26, 27, 28, 29, 30, 31, 32, 33, 34, 35, 36, 37, 38, 39] rfl (fun _ _ h => h.1) (ps_runVI ⟨hx, hb, hml, hown, hts⟩ (c_isKP l dC dI cI tys ht a q K S ck cu F N hw hKb hSb d kk) (ps_cwV ps_gd 2 hts tw_186 k_PS_isKeyPossible e_PS_isKeyPossible ⟨Nat.le_of_ble_eq_true rfl, Nat.le_of_ble_eq_true rfl⟩) hK hP hD [0, 1, 2, 3, 4, 5, 6, 7, 8, 9, 10, 11, 12, 13, 14, 15, 16, 17, 18, 19, 20, 21, 22, 23, 24, 25, 26, 27, 28, 29, 30, 31, 32, 33, 34, 35, 36, 37, 38, 39] (by decide) rfl 0 cPS rfl rfl rfl hl.1 rfl (Nat.le_of_ble_eq_true rfl) d_PS_undefine_3 ⟨Nat.zero_le _, Nat.zero_le _⟩) (fun r_1 H locs hr_1 hP hS => ?_)
  obtain ⟨-, hr_1⟩ := hr_1
  subst hr_1
  refine lv_if_ne (tgt := 11) hx hb d_PS_undefine_6 (by decide) (fun c_2 => ?_) (fun c_2 => ?_)
  · have c_2 := ps_ite1 c_2
    refine lv_aload_n hx hb d_PS_undefine_11 rfl (lv_at hl 0 rfl) ?_
    refine va_get (D := (dC, dI)) (ci := cPS) (v := .ref (a 4)) (C := R_PS) (T := F_PS) (N := 10) hx hb hts i_PS hown hK hP 0 rfl rfl 6 (by decide) (hts _ tw_104) (fun _ h9 => h9) rfl d_PS_undefine_12 ?_
    refine lv_iload_n hx hb d_PS_undefine_15 rfl (lv_at hl 1 rfl) ?_
    refine lv_iload_n hx hb d_PS_undefine_16 rfl (lv_at hl 2 rfl) ?_
    refine lv_iload_n hx hb d_PS_undefine_17 rfl (lv_at hl 3 rfl) ?_
    refine lv_aload_n hx hb d_PS_undefine_18 rfl (lv_at hl 0 rfl) ?_
    refine va_get (D := (dC, dI)) (ci := cPS) (v := .ref (a 1)) (C := R_PS) (T := F_PS) (N := 10) hx hb hts i_PS hown hK hP 0 rfl rfl 0 (by decide) (hts _ tw_97) (fun _ h9 => h9) rfl d_PS_undefine_19 ?_
    refine lv_iconst (v := nI 4) hx hb d_PS_undefine_22 (by decide) ?_
    refine va_iald hx hb hK hP 1 0 rfl ht (vp_in_nI (show 4 < 6 by decide) (by decide)) d_PS_undefine_23 ?_
    refine ps_top (z := nI (K 4)) (ps_kat _ 4 (by decide)) ?_
    refine ps_readI (wc := [(a 4, .inr (cKey, [.ref (a 15), .ref (a 16), .ref (a 17), .ref (a 5)])), (a 15, .inr (cCol, [.int (nI 16384), .ref (q 7)])), (q 7, .inl (cI, N 7, .inl (F 7))), (a 16, .inr (cCol, [.int (nI 16384), .ref (q 8)])), (q 8, .inl (cI, N 8, .inl (F 8))), (a 17, .inr (cCol, [.int (nI 16384), .ref (q 9)])), (q 9, .inl (cI, N 9, .inl (F 9))), (a 5, .inr (cVal, [.ref (a 18), .ref (a 19)])), (a 18, .inr (cCol, [.int (nI 16384), .ref (q 10)])), (q 10, .inl (cI, N 10, .inl (F 10)))]) hP hD hS hA [4, 22, 23, 24, 25, 26, 27, 5, 28, 29] rfl (fun _ _ h => h.1) (ps_runVI ⟨hx, hb, hml, hown, hts⟩ (c_kift l dC dI cI tys ht (a 4) (a 5) (a 15) (q 7) (a 16) (q 8) (a 17) (q 9) (a 18) (q 10) (a 19) 16384 (N 7) (N 8) (N 9) (N 10) (F 7) (F 8) (F 9) (F 10) d kk key (K 4) (hw.z 7 (by decide)) (hw.z 8 (by decide)) (hw.z 9 (by decide)) (hw.z 10 (by decide)) (hw.n 7 (by decide)) (hw.n 8 (by decide)) (hw.n 9 (by decide)) (hw.n 10 (by decide)) (by have b4 := hKb 4; omega)) (ps_cwV ps_gd 4 hts tw_187 k_Key_indexIfThere e_Key_indexIfThere ⟨Nat.le_of_ble_eq_true rfl, Nat.le_of_ble_eq_true rfl⟩) hK hP hD [4, 22, 23, 24, 25, 26, 27, 5, 28, 29] (by decide) rfl 0 cKey rfl rfl rfl hl.1 rfl (Nat.le_of_ble_eq_true rfl) d_PS_undefine_24 ⟨Nat.zero_le _, Nat.zero_le _⟩) (fun r_3 H locs hr_3 hP hS => ?_)
    obtain ⟨-, hr_3⟩ := hr_3
    rcases ps_ift (M := (fun j => F 9 j = key ∧ F 8 j = kk ∧ F 7 j = d)) (by have b4 := hKb 4; omega) (fun j q => q.2.2) hr_3 with ⟨hnone, hr_3⟩ | ⟨j, hj, hjm, hjn, ⟨hgone, hr_3⟩ | ⟨hgone, hr_3⟩⟩
    · subst hr_3
      refine lv_istore (lv' := [(4, .int (-1)), (0, .ref (a 0)), (1, .int d), (2, .int kk), (3, .int key)]) hx hb d_PS_undefine_27 hl (by decide) rfl (fun ls hl => ?_)
      refine lv_iload hx hb d_PS_undefine_29 (lv_at hl 0 rfl) ?_
      refine lv_iconst (v := (-1)) hx hb d_PS_undefine_31 (by decide) ?_
      refine lv_icmp_ne (tgt := 38) hx hb d_PS_undefine_32 (by decide) (fun c_4 => ?_) (fun c_4 => ?_)
      · exact absurd rfl c_4
      · refine lv_bipush (v := (-2)) hx hb d_PS_undefine_35 (by decide) ?_
        exact ps_iret hx hb hr hlocks hK hP hD hS (Nat.zero_le _) (Nat.zero_le _) d_PS_undefine_37 (ps_cy c_2 (Or.inl ⟨hnone, rfl, rfl⟩))
    · subst hr_3
      refine lv_istore (lv' := [(4, .int (-1)), (0, .ref (a 0)), (1, .int d), (2, .int kk), (3, .int key)]) hx hb d_PS_undefine_27 hl (by decide) rfl (fun ls hl => ?_)
      refine lv_iload hx hb d_PS_undefine_29 (lv_at hl 0 rfl) ?_
      refine lv_iconst (v := (-1)) hx hb d_PS_undefine_31 (by decide) ?_
      refine lv_icmp_ne (tgt := 38) hx hb d_PS_undefine_32 (by decide) (fun c_5 => ?_) (fun c_5 => ?_)
      · exact absurd rfl c_5
      · refine lv_bipush (v := (-2)) hx hb d_PS_undefine_35 (by decide) ?_
        exact ps_iret hx hb hr hlocks hK hP hD hS (Nat.zero_le _) (Nat.zero_le _) d_PS_undefine_37 (ps_cy c_2 (Or.inr ⟨j, hj, hjm, hjn, ps_cy hgone ⟨rfl, rfl⟩⟩))
    · subst hr_3
      have hj31 : j < 2 ^ 31 := by have b4 := hKb 4; omega
      refine lv_istore (lv' := [(4, .int (nI j)), (0, .ref (a 0)), (1, .int d), (2, .int kk), (3, .int key)]) hx hb d_PS_undefine_27 hl (by decide) rfl (fun ls hl => ?_)
      refine lv_iload hx hb d_PS_undefine_29 (lv_at hl 0 rfl) ?_
      refine lv_iconst (v := (-1)) hx hb d_PS_undefine_31 (by decide) ?_
      refine lv_icmp_ne (tgt := 38) hx hb d_PS_undefine_32 (by decide) (fun c_6 => ?_) (fun c_6 => ?_)
      · refine lv_aload_n hx hb d_PS_undefine_38 rfl (lv_at hl 1 rfl) ?_
        refine lv_iconst (v := nI 4) hx hb d_PS_undefine_39 (by decide) ?_
        refine lv_iload hx hb d_PS_undefine_40 (lv_at hl 0 rfl) ?_
        by_cases hmu : ps_must S t b (K 5) F 4 j
        · by_cases hfull : 40000 ≤ K 5
          · refine ps_afterI (wc := (pw cI a q K S ck cu F N)) (wr := []) hP hD hS hA [0, 1, 2, 3, 4, 5, 6, 7, 8, 9, 10, 11, 12, 13, 14, 15, 16, 17, 18, 19, 20, 21, 22, 23, 24, 25, 26, 27, 28, 29, 30, 31, 32, 33, 34, 35, 36, 37, 38, 39] [] rfl rfl (by decide) (by decide) (ps_runVI ⟨hx, hb, hml, hown, hts⟩ (c_rem4 l dC dI cI tys ht a q K S ck cu F N hw hKb hSb j t b ht0 hb0 hj31 htw htb 0 0 (fun _ q => absurd hfull q)) (ps_cwV ps_gd 2 hts tw_184 k_PS_remember e_PS_remember ⟨Nat.le_of_ble_eq_true rfl, Nat.le_of_ble_eq_true rfl⟩) hK hP hD [0, 1, 2, 3, 4, 5, 6, 7, 8, 9, 10, 11, 12, 13, 14, 15, 16, 17, 18, 19, 20, 21, 22, 23, 24, 25, 26, 27, 28, 29, 30, 31, 32, 33, 34, 35, 36, 37, 38, 39] (by decide) rfl 0 cPS rfl rfl rfl hl.1 rfl (Nat.le_of_ble_eq_true rfl) d_PS_undefine_42 ⟨by show 0 + 0 + 0 + 0 ≤ mc; omega, by show 0 + 0 + 0 + 0 ≤ ms; omega⟩) (fun r_8 u_7 H locs hu_7 hP hD hS => ?_)
            obtain ⟨hr_8, vu_7⟩ := (hu_7.y hmu).y hfull
            subst hr_8
            subst vu_7
            have hP : va_P (dC, dI) classes (pw cI a q K S ck cu F N) H := hP
            have hD : va_D A (pw cI a q K S ck cu F N) := hD
            refine lv_if_ne (tgt := 51) hx hb d_PS_undefine_45 (by decide) (fun c_9 => ?_) (fun c_9 => ?_)
            · exact absurd rfl c_9
            · refine lv_bipush (v := (-3)) hx hb d_PS_undefine_48 (by decide) ?_
              exact ps_iret hx hb hr hlocks hK hP hD hS (Nat.zero_le _) (Nat.zero_le _) d_PS_undefine_50 (ps_cy c_2 (Or.inr ⟨j, hj, hjm, hjn, ps_cn hgone (ps_cy hmu (ps_cy hfull ⟨rfl, rfl⟩))⟩))
          · have hpay := hm1 c_2 j hj hjm hjn hgone hmu hfull
            refine ps_afterI (wc := (pw cI a q K S ck cu F N)) (wr := []) hP hD hS hA [0, 1, 2, 3, 4, 5, 6, 7, 8, 9, 10, 11, 12, 13, 14, 15, 16, 17, 18, 19, 20, 21, 22, 23, 24, 25, 26, 27, 28, 29, 30, 31, 32, 33, 34, 35, 36, 37, 38, 39] [] rfl rfl (by decide) (by decide) (ps_runVI ⟨hx, hb, hml, hown, hts⟩ (c_rem4 l dC dI cI tys ht a q K S ck cu F N hw hKb hSb j t b ht0 hb0 hj31 htw htb (ps_mc N (K 5)) (ps_ms N (K 5)) (fun _ _ => ⟨Nat.le_refl _, Nat.le_refl _⟩)) (ps_cwV ps_gd 2 hts tw_184 k_PS_remember e_PS_remember ⟨Nat.le_of_ble_eq_true rfl, Nat.le_of_ble_eq_true rfl⟩) hK hP hD [0, 1, 2, 3, 4, 5, 6, 7, 8, 9, 10, 11, 12, 13, 14, 15, 16, 17, 18, 19, 20, 21, 22, 23, 24, 25, 26, 27, 28, 29, 30, 31, 32, 33, 34, 35, 36, 37, 38, 39] (by decide) rfl 0 cPS rfl rfl rfl hl.1 rfl (Nat.le_of_ble_eq_true rfl) d_PS_undefine_42 ⟨by show 0 + 0 + 0 + ps_mc N (K 5) ≤ mc; omega, by show 0 + 0 + 0 + ps_ms N (K 5) ≤ ms; omega⟩) (fun r_11 u_10 H locs hu_10 hP hD hS => ?_)
            obtain ⟨q_12, hr_11, vu_10⟩ := (hu_10.y hmu).n hfull
            subst hr_11
            subst vu_10
            have hP : va_P (dC, dI) classes (pw cI a q_12 (va_up K 5 (K 5 + 1)) S ck cu (va_up (va_up (va_up (va_up F 12 (upd (F 12) (K 5) (nI 4))) 13 (upd (F 13) (K 5) (nI j))) 14 (upd (F 14) (K 5) (F 10 j))) 15 (upd (F 15) (K 5) (if F 10 j = 0 then 0 else F 11 j))) (va_up (va_up (va_up (va_up N 12 (ps_len 40000 (N 12) (K 5))) 13 (ps_len 40000 (N 13) (K 5))) 14 (ps_len 40000 (N 14) (K 5))) 15 (ps_len 40000 (N 15) (K 5)))) H := hP
            have hD : va_D A (pw cI a q_12 (va_up K 5 (K 5 + 1)) S ck cu (va_up (va_up (va_up (va_up F 12 (upd (F 12) (K 5) (nI 4))) 13 (upd (F 13) (K 5) (nI j))) 14 (upd (F 14) (K 5) (F 10 j))) 15 (upd (F 15) (K 5) (if F 10 j = 0 then 0 else F 11 j))) (va_up (va_up (va_up (va_up N 12 (ps_len 40000 (N 12) (K 5))) 13 (ps_len 40000 (N 13) (K 5))) 14 (ps_len 40000 (N 14) (K 5))) 15 (ps_len 40000 (N 15) (K 5)))) := hD
            refine lv_if_ne (tgt := 51) hx hb d_PS_undefine_45 (by decide) (fun c_13 => ?_) (fun c_13 => ?_)
            · refine lv_aload_n hx hb d_PS_undefine_51 rfl (lv_at hl 1 rfl) ?_
              refine va_get (D := (dC, dI)) (ci := cPS) (v := .ref (a 4)) (C := R_PS) (T := F_PS) (N := 10) hx hb hts i_PS hown hK hP 0 rfl rfl 6 (by decide) (hts _ tw_104) (fun _ h9 => h9) rfl d_PS_undefine_52 ?_
              refine va_get (D := (dC, dI)) (ci := cKey) (v := .ref (a 5)) (C := R_Key) (T := F_Key) (N := 4) hx hb hts i_Key hown hK hP 4 rfl rfl 3 (by decide) (hts _ tw_105) (fun _ h9 => h9) rfl d_PS_undefine_55 ?_
              refine lv_iload hx hb d_PS_undefine_58 (lv_at hl 0 rfl) ?_
              refine lv_iconst (v := (-1)) hx hb d_PS_undefine_60 (by decide) ?_
              refine lv_iconst (v := 0) hx hb d_PS_undefine_61 (by decide) ?_
              have hilim : j < 16384 := by omega
              have hw9 := ps_wf_m (o := nI 4) (i := j) (v := F 10 j) (w := F 11 j) hw (show K 5 < 40000 by omega)
              refine ps_afterV (wc := [(a 5, .inr (cVal, [.ref (a 18), .ref (a 19)])), (a 18, .inr (cCol, [.int (nI 16384), .ref (q_12 10)])), (q_12 10, .inl (cI, N 10, .inl (F 10))), (a 19, .inr (cCol, [.int (nI 16384), .ref (q_12 11)])), (q_12 11, .inl (cI, N 11, .inl (F 11)))]) (wr := [0, 1, 2, 3, 4, 6, 7, 8, 9, 10, 11, 12, 13, 14, 15, 16, 17, 18, 19, 20, 21, 22, 23, 24, 25, 26, 27, 32, 33, 34, 35, 36, 37, 38, 39].filterMap (fun z9 => ((pw cI a q_12 (va_up K 5 (K 5 + 1)) S ck cu (va_up (va_up (va_up (va_up F 12 (upd (F 12) (K 5) (nI 4))) 13 (upd (F 13) (K 5) (nI j))) 14 (upd (F 14) (K 5) (F 10 j))) 15 (upd (F 15) (K 5) (if F 10 j = 0 then 0 else F 11 j))) (va_up (va_up (va_up (va_up N 12 (ps_len 40000 (N 12) (K 5))) 13 (ps_len 40000 (N 13) (K 5))) 14 (ps_len 40000 (N 14) (K 5))) 15 (ps_len 40000 (N 15) (K 5)))) : va_W)[z9]?)) hP hD hS hA [5, 28, 29, 30, 31] [0, 1, 2, 3, 4, 6, 7, 8, 9, 10, 11, 12, 13, 14, 15, 16, 17, 18, 19, 20, 21, 22, 23, 24, 25, 26, 27, 32, 33, 34, 35, 36, 37, 38, 39] rfl rfl (by decide) (by decide) (ps_runVV ⟨hx, hb, hml, hown, hts⟩ (c_vwrite l dC dI cI tys ht (a 5) (a 18) (q_12 10) (a 19) (q_12 11) 16384 (N 10) (N 11) (F 10) (F 11) j (-1) 0 (hw.z 10 (by decide)) (hw.z 11 (by decide)) (by decide) (hw 10 (by decide)).2 (hw 11 (by decide)).2 hilim) (ps_cwV ps_gd 3 hts tw_159 k_Val_write e_Val_write ⟨Nat.le_of_ble_eq_true rfl, Nat.le_of_ble_eq_true rfl⟩) hK hP hD [5, 28, 29, 30, 31] (by decide) rfl 0 cVal rfl rfl rfl hl.1 rfl (Nat.le_of_ble_eq_true rfl) d_PS_undefine_62 ⟨by show 0 + 0 + 0 + ps_mc N (K 5) + ps_vc 16384 N 10 j ≤ mc; omega, by show 0 + 0 + 0 + ps_ms N (K 5) + ps_vs 16384 N 10 j ≤ ms; omega⟩) (fun u_14 H locs hu_14 hP hD hS => ?_)
              obtain ⟨q_16, q_17, hu_14⟩ := hu_14
              subst hu_14
              obtain ⟨hP, hD⟩ := ps_perm (ws' := (pw cI a (va_up (va_up q_12 10 q_16) 11 q_17) (va_up K 5 (K 5 + 1)) S ck cu (va_up (va_up (va_up (va_up (va_up (va_up F 12 (upd (F 12) (K 5) (nI 4))) 13 (upd (F 13) (K 5) (nI j))) 14 (upd (F 14) (K 5) (F 10 j))) 15 (upd (F 15) (K 5) (if F 10 j = 0 then 0 else F 11 j))) 10 (upd (F 10) j (-1))) 11 (upd (F 11) j (if (-1) = 0 then 0 else 0))) (va_up (va_up (va_up (va_up (va_up (va_up N 12 (ps_len 40000 (N 12) (K 5))) 13 (ps_len 40000 (N 13) (K 5))) 14 (ps_len 40000 (N 14) (K 5))) 15 (ps_len 40000 (N 15) (K 5))) 10 (ps_len 16384 (N 10) j)) 11 (ps_len 16384 (N 11) j)))) hP hD [0, 1, 2, 3, 4, 35, 5, 6, 7, 8, 9, 10, 11, 12, 13, 14, 15, 16, 17, 18, 19, 20, 21, 22, 23, 24, 25, 26, 36, 37, 38, 39, 27, 28, 29, 30, 31, 32, 33, 34] (by decide) rfl
              refine lv_iconst (v := 1) hx hb d_PS_undefine_65 (by decide) ?_
              exact ps_iret hx hb hr hlocks hK hP hD hS (by show 0 + 0 + 0 + ps_mc N (K 5) + ps_vc 16384 N 10 j ≤ mc; omega) (by show 0 + 0 + 0 + ps_ms N (K 5) + ps_vs 16384 N 10 j ≤ ms; omega) d_PS_undefine_66 (ps_cy c_2 (Or.inr ⟨j, hj, hjm, hjn, ps_cn hgone (ps_cy hmu (ps_cn hfull ⟨(va_up (va_up q_12 10 q_16) 11 q_17), rfl, rfl⟩))⟩))
            · exact absurd c_13 (by decide)
        · have hpay := hm2 c_2 j hj hjm hjn hgone hmu
          refine ps_afterI (wc := (pw cI a q K S ck cu F N)) (wr := []) hP hD hS hA [0, 1, 2, 3, 4, 5, 6, 7, 8, 9, 10, 11, 12, 13, 14, 15, 16, 17, 18, 19, 20, 21, 22, 23, 24, 25, 26, 27, 28, 29, 30, 31, 32, 33, 34, 35, 36, 37, 38, 39] [] rfl rfl (by decide) (by decide) (ps_runVI ⟨hx, hb, hml, hown, hts⟩ (c_rem4 l dC dI cI tys ht a q K S ck cu F N hw hKb hSb j t b ht0 hb0 hj31 htw htb 0 0 (fun q => absurd q hmu)) (ps_cwV ps_gd 2 hts tw_184 k_PS_remember e_PS_remember ⟨Nat.le_of_ble_eq_true rfl, Nat.le_of_ble_eq_true rfl⟩) hK hP hD [0, 1, 2, 3, 4, 5, 6, 7, 8, 9, 10, 11, 12, 13, 14, 15, 16, 17, 18, 19, 20, 21, 22, 23, 24, 25, 26, 27, 28, 29, 30, 31, 32, 33, 34, 35, 36, 37, 38, 39] (by decide) rfl 0 cPS rfl rfl rfl hl.1 rfl (Nat.le_of_ble_eq_true rfl) d_PS_undefine_42 ⟨by show 0 + 0 + 0 + 0 ≤ mc; omega, by show 0 + 0 + 0 + 0 ≤ ms; omega⟩) (fun r_19 u_18 H locs hu_18 hP hD hS => ?_)
          obtain ⟨hr_19, vu_18⟩ := hu_18.n hmu
          subst hr_19
          subst vu_18
          have hP : va_P (dC, dI) classes (pw cI a q K S ck cu F N) H := hP
          have hD : va_D A (pw cI a q K S ck cu F N) := hD
          refine lv_if_ne (tgt := 51) hx hb d_PS_undefine_45 (by decide) (fun c_20 => ?_) (fun c_20 => ?_)
          · refine lv_aload_n hx hb d_PS_undefine_51 rfl (lv_at hl 1 rfl) ?_
            refine va_get (D := (dC, dI)) (ci := cPS) (v := .ref (a 4)) (C := R_PS) (T := F_PS) (N := 10) hx hb hts i_PS hown hK hP 0 rfl rfl 6 (by decide) (hts _ tw_104) (fun _ h9 => h9) rfl d_PS_undefine_52 ?_
            refine va_get (D := (dC, dI)) (ci := cKey) (v := .ref (a 5)) (C := R_Key) (T := F_Key) (N := 4) hx hb hts i_Key hown hK hP 4 rfl rfl 3 (by decide) (hts _ tw_105) (fun _ h9 => h9) rfl d_PS_undefine_55 ?_
            refine lv_iload hx hb d_PS_undefine_58 (lv_at hl 0 rfl) ?_
            refine lv_iconst (v := (-1)) hx hb d_PS_undefine_60 (by decide) ?_
            refine lv_iconst (v := 0) hx hb d_PS_undefine_61 (by decide) ?_
            have hilim : j < 16384 := by omega
            refine ps_afterV (wc := [(a 5, .inr (cVal, [.ref (a 18), .ref (a 19)])), (a 18, .inr (cCol, [.int (nI 16384), .ref (q 10)])), (q 10, .inl (cI, N 10, .inl (F 10))), (a 19, .inr (cCol, [.int (nI 16384), .ref (q 11)])), (q 11, .inl (cI, N 11, .inl (F 11)))]) (wr := [0, 1, 2, 3, 4, 6, 7, 8, 9, 10, 11, 12, 13, 14, 15, 16, 17, 18, 19, 20, 21, 22, 23, 24, 25, 26, 27, 32, 33, 34, 35, 36, 37, 38, 39].filterMap (fun z9 => ((pw cI a q K S ck cu F N) : va_W)[z9]?)) hP hD hS hA [5, 28, 29, 30, 31] [0, 1, 2, 3, 4, 6, 7, 8, 9, 10, 11, 12, 13, 14, 15, 16, 17, 18, 19, 20, 21, 22, 23, 24, 25, 26, 27, 32, 33, 34, 35, 36, 37, 38, 39] rfl rfl (by decide) (by decide) (ps_runVV ⟨hx, hb, hml, hown, hts⟩ (c_vwrite l dC dI cI tys ht (a 5) (a 18) (q 10) (a 19) (q 11) 16384 (N 10) (N 11) (F 10) (F 11) j (-1) 0 (hw.z 10 (by decide)) (hw.z 11 (by decide)) (by decide) (hw 10 (by decide)).2 (hw 11 (by decide)).2 hilim) (ps_cwV ps_gd 3 hts tw_159 k_Val_write e_Val_write ⟨Nat.le_of_ble_eq_true rfl, Nat.le_of_ble_eq_true rfl⟩) hK hP hD [5, 28, 29, 30, 31] (by decide) rfl 0 cVal rfl rfl rfl hl.1 rfl (Nat.le_of_ble_eq_true rfl) d_PS_undefine_62 ⟨by show 0 + 0 + 0 + 0 + ps_vc 16384 N 10 j ≤ mc; omega, by show 0 + 0 + 0 + 0 + ps_vs 16384 N 10 j ≤ ms; omega⟩) (fun u_21 H locs hu_21 hP hD hS => ?_)
            obtain ⟨q_23, q_24, hu_21⟩ := hu_21
            subst hu_21
            obtain ⟨hP, hD⟩ := ps_perm (ws' := (pw cI a (va_up (va_up q 10 q_23) 11 q_24) K S ck cu (va_up (va_up F 10 (upd (F 10) j (-1))) 11 (upd (F 11) j (if (-1) = 0 then 0 else 0))) (va_up (va_up N 10 (ps_len 16384 (N 10) j)) 11 (ps_len 16384 (N 11) j)))) hP hD [0, 1, 2, 3, 4, 35, 5, 6, 7, 8, 9, 10, 11, 12, 13, 14, 15, 16, 17, 18, 19, 20, 21, 22, 23, 24, 25, 26, 36, 37, 38, 39, 27, 28, 29, 30, 31, 32, 33, 34] (by decide) rfl
            refine lv_iconst (v := 1) hx hb d_PS_undefine_65 (by decide) ?_
            exact ps_iret hx hb hr hlocks hK hP hD hS (by show 0 + 0 + 0 + 0 + ps_vc 16384 N 10 j ≤ mc; omega) (by show 0 + 0 + 0 + 0 + ps_vs 16384 N 10 j ≤ ms; omega) d_PS_undefine_66 (ps_cy c_2 (Or.inr ⟨j, hj, hjm, hjn, ps_cn hgone (ps_cn hmu ⟨(va_up (va_up q 10 q_23) 11 q_24), rfl, rfl⟩)⟩))
          · exact absurd c_20 (by decide)
      · exact absurd c_6 (ps_m1 hj31)
  · have c_2 := ps_ite0 c_2
    refine lv_iconst (v := (-1)) hx hb d_PS_undefine_9 (by decide) ?_
    exact ps_iret hx hb hr hlocks hK hP hD hS (Nat.zero_le _) (Nat.zero_le _) d_PS_undefine_10 (ps_cn c_2 ⟨rfl, rfl⟩)
