theorem tw_306 : (.methodLink "PageStoreModel" 101 ⟨"PageStoreModel", "remember", "(I)Z"⟩ : Cond) ∈ ps_tbl := ps_t3 42 rfl rfl
theorem tw_307 : (.instanceMethod ⟨"PageStoreModel", "remember", "(I)Z"⟩ : Cond) ∈ ps_tbl := ps_t3 44 rfl rfl
theorem tw_308 : (.selects "PageStoreModel" ⟨"PageStoreModel", "remember", "(I)Z"⟩ ⟨"PageStoreModel", "remember", "(I)Z"⟩ : Cond) ∈ ps_tbl := ps_ts (y := ⟨"PageStoreModel", "remember", "(I)Z"⟩) (n := 27) 18 rfl rfl
theorem tw_309 : (.code ⟨"PageStoreModel", "remember", "(I)Z"⟩ prog_8_method_11_code 2 (some .boolean) : Cond) ∈ ps_tbl := ps_t3 45 rfl rfl
theorem k_Mod_remember : ps_cdV ps_tbl y_Mod_remember prog_8_method_11_code 2 (some .boolean) := ⟨tw_307, tw_308, tw_256, tw_309⟩
set_option maxHeartbeats 4000000 in
set_option maxRecDepth 100000 in
/-- PageStoreModel.set -/
theorem m_set (l : Launch) (dC : Nat → ClassId) (dI : Nat → Nat → Nat) (cI : ClassId) (tys : List (ClassId × FieldType)) (ht : tys[0]? = some (cI, FieldType.int)) (cB cS cZ : ClassId) (htB : tys[1]? = some (cB, FieldType.byte)) (htS : tys[2]? = some (cS, FieldType.short)) (htZ : tys[3]? = some (cZ, FieldType.boolean)) (b K : Nat → Nat) (S : Nat) (ck cu : Int32) (F X : Nat → Nat → Int32) (hKb : ∀ j, K j ≤ 65536) (hSb : S ≤ 15) (row place kind number : Int32) (hk0 : K 0 ≤ 16384) (hk1 : K 1 ≤ 32768) (hrw : ps_rows K F) (t b0 : Nat) (ht0 : t ≤ 65536) (hb0 : b0 ≤ K 5) (hk5 : K 5 ≤ 40000) (htw : ¬ S = 0 → X 4 (5 * S + 1) = nI t) (htb : ¬ S = 0 → X 5 S = nI b0) (hby : ∀ j, vp_nar .byte (F 2 j) = F 2 j) : ps_mI classes l y_Mod_set w_Mod_set ({ frames := 2, cells := 0, slots := 0, locals := 44 }) (dC, dI) tys [.ref (b 0), .int row, .int place, .int kind, .int number] (mw cI cB cS cZ b K S ck cu F X) (fun r u => ps_c (ps_ok K F (nI 1) row place ∧ (nI 0 ≤ kind ∧ kind ≤ nI 15)) (ps_c (mo_open S t b0 (K 5) X (nI (ps_ix F row place)) (ps_ix F row place)) (ps_c (40000 ≤ K 5) (r = -3 ∧ u = mw cI cB cS cZ b K S ck cu F X) (r = 1 ∧ u = mw cI cB cS cZ b (va_up K 5 (K 5 + 1)) S ck cu (ps_Fv (ps_Fm F (K 5) (nI 1) (ps_ix F row place) (F 2 (ps_ix F row place)) (F 3 (ps_ix F row place))) 2 (ps_ix F row place) kind number) (mo_Xp X (K 5) (ps_ix F row place) (F 2 (ps_ix F row place)) (F 3 (ps_ix F row place))))) (r = 1 ∧ u = mw cI cB cS cZ b K S ck cu (ps_Fv F 2 (ps_ix F row place) kind number) X)) (r = -1 ∧ u = mw cI cB cS cZ b K S ck cu F X)) := by
  refine ps_mI_of (by decide) rfl (Nat.le_of_ble_eq_true rfl) ?_
  intro p e s m below meth c A ls C0 hA hK hP hD hS hl
  obtain ⟨hx, hb, hr, hml, hts, hown, hlocks, hin⟩ := C0
  have hl : lv_has ls 6 [(0, .ref (b 0)), (1, .int row), (2, .int place), (3, .int kind), (4, .int number)] := hl
  have hP : va_P (dC, dI) classes (mw cI cB cS cZ b K S ck cu F X) s.heap := hP
  have hD : va_D A (mw cI cB cS cZ b K S ck cu F X) := hD
  refine lv_aload_n hx hb d_Mod_set_0 rfl (lv_at hl 0 rfl) ?_
  refine lv_iload_n hx hb d_Mod_set_1 rfl (lv_at hl 1 rfl) ?_
  refine lv_iload_n hx hb d_Mod_set_2 rfl (lv_at hl 2 rfl) ?_
  refine ps_readI (wc := (mw cI cB cS cZ b K S ck cu F X)) hP hD hS hA [0, 1, 2, 3, 4, 5, 6, 7, 8, 9, 10, 11, 12, 13, 14, 15, 16, 17, 18] rfl (fun _ _ h => h.1) (ps_runVI ⟨hx, hb, hml, hown, hts⟩ (m_at l dC dI cI tys ht cB cS cZ htB htS htZ b K S ck cu F X hKb hSb row place hk0) (ps_cwV ps_gd 2 hts tw_261 k_Mod_at e_Mod_at ⟨Nat.le_of_ble_eq_true rfl, Nat.le_of_ble_eq_true rfl⟩) hK hP hD [0, 1, 2, 3, 4, 5, 6, 7, 8, 9, 10, 11, 12, 13, 14, 15, 16, 17, 18] (by decide) rfl 0 cMod rfl rfl rfl hl.1 rfl (Nat.le_of_ble_eq_true rfl) d_Mod_set_3 ⟨Nat.zero_le _, Nat.zero_le _⟩) (fun r_1 H locs hr_1 hP hS => ?_)
  obtain ⟨-, hr_1⟩ := hr_1
  rcases hr_1 with ⟨hat, hr_1⟩ | ⟨hat, hr_1⟩
  · obtain ⟨j, hj1, hj2, ej, eix, ⟨h4, hix, hok, hnok⟩ | ⟨h4, hix, hok, hnok⟩⟩ := ps_at_ix3 hKb hrw hat
    · rw [eix] at hr_1
      subst hr_1
      rw [ej] at hl
      have hix31 : ps_ix F row place < 2 ^ 31 := by have b1 := hKb 1; have b2 := hKb 2; omega
      have hj3 : j < 2 ^ 31 := by have b0 := hKb 0; omega
      refine lv_istore (lv' := [(5, .int (nI (ps_ix F row place))), (0, .ref (b 0)), (1, .int (nI j)), (2, .int place), (3, .int kind), (4, .int number)]) hx hb d_Mod_set_6 hl (by decide) rfl (fun ls hl => ?_)
      refine lv_iload hx hb d_Mod_set_8 (lv_at hl 0 rfl) ?_
      refine lv_if_lt (tgt := 33) hx hb d_Mod_set_10 (by decide) (fun c_2 => ?_) (fun c_2 => ?_)
      · exact absurd c_2 (nI_pos (by have h0 := hKb 0; have h1 := hKb 1; have h2 := hKb 2; have h3 := hKb 3; have h4 := hKb 4; have h5 := hKb 5; omega))
      · refine lv_aload_n hx hb d_Mod_set_13 rfl (lv_at hl 1 rfl) ?_
        refine va_get (D := (dC, dI)) (ci := cMod) (v := .ref (b 1)) (C := R_Mod) (T := F_Mod) (N := 27) hx hb hts i_Mod hown hK hP 0 rfl rfl 0 (by decide) (hts _ tw_242) (fun _ h9 => h9) rfl d_Mod_set_14 ?_
        refine lv_iload_n hx hb d_Mod_set_17 rfl (lv_at hl 2 rfl) ?_
        refine va_bald (f := F 4) hx hb hK hP 1 1 rfl htB (vp_in_nI (show j < 16385 from by omega) (by decide)) d_Mod_set_18 ?_
        refine ps_top (z := (F 4) j) (by rw [nI_clamp (show j < 2 ^ 31 from hj3)]) ?_
        refine ps_top (z := nI 1) h4 ?_
        refine lv_iconst (v := nI 1) hx hb d_Mod_set_19 (by decide) ?_
        refine lv_icmp_ne (tgt := 33) hx hb d_Mod_set_20 (by decide) (fun c_3 => ?_) (fun c_3 => ?_)
        · have c_3 : ¬ 1 = 1 := fun q => c_3 ((nI_eq (by have h0 := hKb 0; have h1 := hKb 1; have h2 := hKb 2; have h3 := hKb 3; have h4 := hKb 4; have h5 := hKb 5; omega) (by have h0 := hKb 0; have h1 := hKb 1; have h2 := hKb 2; have h3 := hKb 3; have h4 := hKb 4; have h5 := hKb 5; omega)).mpr q)
          exact absurd c_3 (by decide)
        · have c_3 : 1 = 1 := (nI_eq (by have h0 := hKb 0; have h1 := hKb 1; have h2 := hKb 2; have h3 := hKb 3; have h4 := hKb 4; have h5 := hKb 5; omega) (by have h0 := hKb 0; have h1 := hKb 1; have h2 := hKb 2; have h3 := hKb 3; have h4 := hKb 4; have h5 := hKb 5; omega)).mp c_3
          refine lv_iload_n hx hb d_Mod_set_23 rfl (lv_at hl 4 rfl) ?_
          refine lv_if_lt (tgt := 33) hx hb d_Mod_set_24 (by decide) (fun c_4 => ?_) (fun c_4 => ?_)
          · refine lv_iconst (v := (-1)) hx hb d_Mod_set_33 (by decide) ?_
            exact ps_iret hx hb hr hlocks hK hP hD hS (Nat.le_of_ble_eq_true rfl) (Nat.le_of_ble_eq_true rfl) d_Mod_set_34 (ps_cn (fun q => k2_nle (show kind < nI 0 from c_4) q.2.1) ⟨rfl, rfl⟩)
          · refine lv_iload_n hx hb d_Mod_set_27 rfl (lv_at hl 4 rfl) ?_
            refine lv_bipush (v := nI 15) hx hb d_Mod_set_28 (by decide) ?_
            refine lv_icmp_le (tgt := 35) hx hb d_Mod_set_30 (by decide) (fun c_5 => ?_) (fun c_5 => ?_)
            · have hkd : nI 0 ≤ kind ∧ kind ≤ nI 15 := ⟨k2_le (show ¬ kind < nI 0 from c_4), c_5⟩
              obtain ⟨k0, hk15, ek⟩ := mo_k15 hkd
              refine lv_aload_n hx hb d_Mod_set_35 rfl (lv_at hl 1 rfl) ?_
              refine lv_iload hx hb d_Mod_set_36 (lv_at hl 0 rfl) ?_
              refine ps_afterI (wc := (mw cI cB cS cZ b K S ck cu F X)) (wr := []) hP hD hS hA [0, 1, 2, 3, 4, 5, 6, 7, 8, 9, 10, 11, 12, 13, 14, 15, 16, 17, 18] [] rfl rfl (by decide) (by decide) (ps_runVI ⟨hx, hb, hml, hown, hts⟩ (m_remP l dC dI cI tys ht cB cS cZ htB htS htZ b K S ck cu F X hKb hSb (ps_ix F row place) (by omega) t b0 ht0 hb0 hk5 htw htb hby) (ps_cwV ps_gd 1 hts tw_306 k_Mod_remember e_Mod_remember ⟨Nat.le_of_ble_eq_true rfl, Nat.le_of_ble_eq_true rfl⟩) hK hP hD [0, 1, 2, 3, 4, 5, 6, 7, 8, 9, 10, 11, 12, 13, 14, 15, 16, 17, 18] (by decide) rfl 0 cMod rfl rfl rfl hl.1 rfl (Nat.le_of_ble_eq_true rfl) d_Mod_set_38 ⟨Nat.zero_le _, Nat.zero_le _⟩) (fun r_7 u_6 H locs hu_6 hP hD hS => ?_)
              rcases hu_6 with ⟨hmu, ⟨hfull, hr_7, hu_6⟩ | ⟨hfull, hr_7, hu_6⟩⟩ | ⟨hmu, hr_7, hu_6⟩
              · subst hr_7
                subst hu_6
                have hP : va_P (dC, dI) classes (mw cI cB cS cZ b K S ck cu F X) H := hP
                have hD : va_D A (mw cI cB cS cZ b K S ck cu F X) := hD
                refine lv_if_ne (tgt := 47) hx hb d_Mod_set_41 (by decide) (fun c_8 => ?_) (fun c_8 => ?_)
                · exact absurd rfl c_8
                · refine lv_bipush (v := (-3)) hx hb d_Mod_set_44 (by decide) ?_
                  exact ps_iret hx hb hr hlocks hK hP hD hS (Nat.le_of_ble_eq_true rfl) (Nat.le_of_ble_eq_true rfl) d_Mod_set_46 (ps_cy ⟨hok, hkd⟩ (ps_cy hmu (ps_cy hfull ⟨rfl, rfl⟩)))
              · subst hr_7
                subst hu_6
                have hP : va_P (dC, dI) classes (mw cI cB cS cZ b (va_up K 5 (K 5 + 1)) S ck cu F (va_up (va_up (va_up X 6 (upd (X 6) (K 5) (nI (ps_ix F row place)))) 7 (upd (X 7) (K 5) (F 2 (ps_ix F row place)))) 8 (upd (X 8) (K 5) (F 3 (ps_ix F row place))))) H := hP
                have hD : va_D A (mw cI cB cS cZ b (va_up K 5 (K 5 + 1)) S ck cu F (va_up (va_up (va_up X 6 (upd (X 6) (K 5) (nI (ps_ix F row place)))) 7 (upd (X 7) (K 5) (F 2 (ps_ix F row place)))) 8 (upd (X 8) (K 5) (F 3 (ps_ix F row place))))) := hD
                refine lv_if_ne (tgt := 47) hx hb d_Mod_set_41 (by decide) (fun c_9 => ?_) (fun c_9 => ?_)
                · refine lv_aload_n hx hb d_Mod_set_47 rfl (lv_at hl 1 rfl) ?_
                  refine va_get (D := (dC, dI)) (ci := cMod) (v := .ref (b 4)) (C := R_Mod) (T := F_Mod) (N := 27) hx hb hts i_Mod hown hK hP 0 rfl rfl 4 (by decide) (hts _ tw_248) (fun _ h9 => h9) rfl d_Mod_set_48 ?_
                  refine lv_iload hx hb d_Mod_set_51 (lv_at hl 0 rfl) ?_
                  refine lv_iload_n hx hb d_Mod_set_53 rfl (lv_at hl 4 rfl) ?_
                  refine lv_i2b (v := kind) hx hb d_Mod_set_54 (by rw [ek]; exact mo_b8 (by omega)) ?_
                  refine va_bast (f := F 2) hx hb hK hP hD hS 4 1 rfl htB (vp_in_nI (show ps_ix F row place < 32768 from by omega) (by decide)) d_Mod_set_55 (fun H locs hP hD hS => ?_)
                  rw [nI_clamp (show ps_ix F row place < 2 ^ 31 from hix31), (show vp_nar .byte kind = kind by rw [ek]; exact mo_nb (by omega))] at hP hD
                  have hP : va_P (dC, dI) classes (mw cI cB cS cZ b (va_up K 5 (K 5 + 1)) S ck cu (va_up F 2 (upd (F 2) (ps_ix F row place) kind)) (va_up (va_up (va_up X 6 (upd (X 6) (K 5) (nI (ps_ix F row place)))) 7 (upd (X 7) (K 5) (F 2 (ps_ix F row place)))) 8 (upd (X 8) (K 5) (F 3 (ps_ix F row place))))) H := hP
                  have hD : va_D A (mw cI cB cS cZ b (va_up K 5 (K 5 + 1)) S ck cu (va_up F 2 (upd (F 2) (ps_ix F row place) kind)) (va_up (va_up (va_up X 6 (upd (X 6) (K 5) (nI (ps_ix F row place)))) 7 (upd (X 7) (K 5) (F 2 (ps_ix F row place)))) 8 (upd (X 8) (K 5) (F 3 (ps_ix F row place))))) := hD
                  refine lv_aload_n hx hb d_Mod_set_56 rfl (lv_at hl 1 rfl) ?_
                  refine va_get (D := (dC, dI)) (ci := cMod) (v := .ref (b 5)) (C := R_Mod) (T := F_Mod) (N := 27) hx hb hts i_Mod hown hK hP 0 rfl rfl 5 (by decide) (hts _ tw_249) (fun _ h9 => h9) rfl d_Mod_set_57 ?_
                  refine lv_iload hx hb d_Mod_set_60 (lv_at hl 0 rfl) ?_
                  refine lv_iload_n hx hb d_Mod_set_62 rfl (lv_at hl 4 rfl) ?_
                  refine lv_if_ne (tgt := 70) hx hb d_Mod_set_63 (by decide) (fun c_10 => ?_) (fun c_10 => ?_)
                  · refine lv_iload hx hb d_Mod_set_70 (lv_at hl 5 rfl) ?_
                    refine va_iast (f := F 3) hx hb hK hP hD hS 5 0 rfl ht (vp_in_nI (show ps_ix F row place < 32768 from by omega) (by decide)) d_Mod_set_72 (fun H locs hP hD hS => ?_)
                    rw [nI_clamp (show ps_ix F row place < 2 ^ 31 from hix31)] at hP hD
                    have hP : va_P (dC, dI) classes (mw cI cB cS cZ b (va_up K 5 (K 5 + 1)) S ck cu (va_up (va_up F 2 (upd (F 2) (ps_ix F row place) kind)) 3 (upd (F 3) (ps_ix F row place) number)) (va_up (va_up (va_up X 6 (upd (X 6) (K 5) (nI (ps_ix F row place)))) 7 (upd (X 7) (K 5) (F 2 (ps_ix F row place)))) 8 (upd (X 8) (K 5) (F 3 (ps_ix F row place))))) H := hP
                    have hD : va_D A (mw cI cB cS cZ b (va_up K 5 (K 5 + 1)) S ck cu (va_up (va_up F 2 (upd (F 2) (ps_ix F row place) kind)) 3 (upd (F 3) (ps_ix F row place) number)) (va_up (va_up (va_up X 6 (upd (X 6) (K 5) (nI (ps_ix F row place)))) 7 (upd (X 7) (K 5) (F 2 (ps_ix F row place)))) 8 (upd (X 8) (K 5) (F 3 (ps_ix F row place))))) := hD
                    refine lv_iconst (v := 1) hx hb d_Mod_set_73 (by decide) ?_
                    exact ps_iret hx hb hr hlocks hK hP hD hS (Nat.le_of_ble_eq_true rfl) (Nat.le_of_ble_eq_true rfl) d_Mod_set_74 (ps_cy ⟨hok, hkd⟩ (ps_cy hmu (ps_cn hfull ⟨rfl, by unfold ps_Fv; rw [if_neg c_10]; rfl⟩)))
                  · refine lv_iconst (v := 0) hx hb d_Mod_set_66 (by decide) ?_
                    refine lv_goto (tgt := 72) hx hb d_Mod_set_67 (by decide) ?_
                    refine va_iast (f := F 3) hx hb hK hP hD hS 5 0 rfl ht (vp_in_nI (show ps_ix F row place < 32768 from by omega) (by decide)) d_Mod_set_72 (fun H locs hP hD hS => ?_)
                    rw [nI_clamp (show ps_ix F row place < 2 ^ 31 from hix31)] at hP hD
                    have hP : va_P (dC, dI) classes (mw cI cB cS cZ b (va_up K 5 (K 5 + 1)) S ck cu (va_up (va_up F 2 (upd (F 2) (ps_ix F row place) kind)) 3 (upd (F 3) (ps_ix F row place) 0)) (va_up (va_up (va_up X 6 (upd (X 6) (K 5) (nI (ps_ix F row place)))) 7 (upd (X 7) (K 5) (F 2 (ps_ix F row place)))) 8 (upd (X 8) (K 5) (F 3 (ps_ix F row place))))) H := hP
                    have hD : va_D A (mw cI cB cS cZ b (va_up K 5 (K 5 + 1)) S ck cu (va_up (va_up F 2 (upd (F 2) (ps_ix F row place) kind)) 3 (upd (F 3) (ps_ix F row place) 0)) (va_up (va_up (va_up X 6 (upd (X 6) (K 5) (nI (ps_ix F row place)))) 7 (upd (X 7) (K 5) (F 2 (ps_ix F row place)))) 8 (upd (X 8) (K 5) (F 3 (ps_ix F row place))))) := hD
                    refine lv_iconst (v := 1) hx hb d_Mod_set_73 (by decide) ?_
                    exact ps_iret hx hb hr hlocks hK hP hD hS (Nat.le_of_ble_eq_true rfl) (Nat.le_of_ble_eq_true rfl) d_Mod_set_74 (ps_cy ⟨hok, hkd⟩ (ps_cy hmu (ps_cn hfull ⟨rfl, by unfold ps_Fv; rw [if_pos c_10]; rfl⟩)))
                · exact absurd c_9 (by decide)
              · subst hr_7
                subst hu_6
                have hP : va_P (dC, dI) classes (mw cI cB cS cZ b K S ck cu F X) H := hP
                have hD : va_D A (mw cI cB cS cZ b K S ck cu F X) := hD
                refine lv_if_ne (tgt := 47) hx hb d_Mod_set_41 (by decide) (fun c_11 => ?_) (fun c_11 => ?_)
                · refine lv_aload_n hx hb d_Mod_set_47 rfl (lv_at hl 1 rfl) ?_
                  refine va_get (D := (dC, dI)) (ci := cMod) (v := .ref (b 4)) (C := R_Mod) (T := F_Mod) (N := 27) hx hb hts i_Mod hown hK hP 0 rfl rfl 4 (by decide) (hts _ tw_248) (fun _ h9 => h9) rfl d_Mod_set_48 ?_
                  refine lv_iload hx hb d_Mod_set_51 (lv_at hl 0 rfl) ?_
                  refine lv_iload_n hx hb d_Mod_set_53 rfl (lv_at hl 4 rfl) ?_
                  refine lv_i2b (v := kind) hx hb d_Mod_set_54 (by rw [ek]; exact mo_b8 (by omega)) ?_
                  refine va_bast (f := F 2) hx hb hK hP hD hS 4 1 rfl htB (vp_in_nI (show ps_ix F row place < 32768 from by omega) (by decide)) d_Mod_set_55 (fun H locs hP hD hS => ?_)
                  rw [nI_clamp (show ps_ix F row place < 2 ^ 31 from hix31), (show vp_nar .byte kind = kind by rw [ek]; exact mo_nb (by omega))] at hP hD
                  have hP : va_P (dC, dI) classes (mw cI cB cS cZ b K S ck cu (va_up F 2 (upd (F 2) (ps_ix F row place) kind)) X) H := hP
                  have hD : va_D A (mw cI cB cS cZ b K S ck cu (va_up F 2 (upd (F 2) (ps_ix F row place) kind)) X) := hD
                  refine lv_aload_n hx hb d_Mod_set_56 rfl (lv_at hl 1 rfl) ?_
                  refine va_get (D := (dC, dI)) (ci := cMod) (v := .ref (b 5)) (C := R_Mod) (T := F_Mod) (N := 27) hx hb hts i_Mod hown hK hP 0 rfl rfl 5 (by decide) (hts _ tw_249) (fun _ h9 => h9) rfl d_Mod_set_57 ?_
                  refine lv_iload hx hb d_Mod_set_60 (lv_at hl 0 rfl) ?_
                  refine lv_iload_n hx hb d_Mod_set_62 rfl (lv_at hl 4 rfl) ?_
                  refine lv_if_ne (tgt := 70) hx hb d_Mod_set_63 (by decide) (fun c_12 => ?_) (fun c_12 => ?_)
                  · refine lv_iload hx hb d_Mod_set_70 (lv_at hl 5 rfl) ?_
                    refine va_iast (f := F 3) hx hb hK hP hD hS 5 0 rfl ht (vp_in_nI (show ps_ix F row place < 32768 from by omega) (by decide)) d_Mod_set_72 (fun H locs hP hD hS => ?_)
                    rw [nI_clamp (show ps_ix F row place < 2 ^ 31 from hix31)] at hP hD
                    have hP : va_P (dC, dI) classes (mw cI cB cS cZ b K S ck cu (va_up (va_up F 2 (upd (F 2) (ps_ix F row place) kind)) 3 (upd (F 3) (ps_ix F row place) number)) X) H := hP
                    have hD : va_D A (mw cI cB cS cZ b K S ck cu (va_up (va_up F 2 (upd (F 2) (ps_ix F row place) kind)) 3 (upd (F 3) (ps_ix F row place) number)) X) := hD
                    refine lv_iconst (v := 1) hx hb d_Mod_set_73 (by decide) ?_
                    exact ps_iret hx hb hr hlocks hK hP hD hS (Nat.le_of_ble_eq_true rfl) (Nat.le_of_ble_eq_true rfl) d_Mod_set_74 (ps_cy ⟨hok, hkd⟩ (ps_cn hmu ⟨rfl, by unfold ps_Fv; rw [if_neg c_12]; rfl⟩))
                  · refine lv_iconst (v := 0) hx hb d_Mod_set_66 (by decide) ?_
                    refine lv_goto (tgt := 72) hx hb d_Mod_set_67 (by decide) ?_
                    refine va_iast (f := F 3) hx hb hK hP hD hS 5 0 rfl ht (vp_in_nI (show ps_ix F row place < 32768 from by omega) (by decide)) d_Mod_set_72 (fun H locs hP hD hS => ?_)
                    rw [nI_clamp (show ps_ix F row place < 2 ^ 31 from hix31)] at hP hD
                    have hP : va_P (dC, dI) classes (mw cI cB cS cZ b K S ck cu (va_up (va_up F 2 (upd (F 2) (ps_ix F row place) kind)) 3 (upd (F 3) (ps_ix F row place) 0)) X) H := hP
                    have hD : va_D A (mw cI cB cS cZ b K S ck cu (va_up (va_up F 2 (upd (F 2) (ps_ix F row place) kind)) 3 (upd (F 3) (ps_ix F row place) 0)) X) := hD
                    refine lv_iconst (v := 1) hx hb d_Mod_set_73 (by decide) ?_
                    exact ps_iret hx hb hr hlocks hK hP hD hS (Nat.le_of_ble_eq_true rfl) (Nat.le_of_ble_eq_true rfl) d_Mod_set_74 (ps_cy ⟨hok, hkd⟩ (ps_cn hmu ⟨rfl, by unfold ps_Fv; rw [if_pos c_12]; rfl⟩))
                · exact absurd c_11 (by decide)
            · refine lv_iconst (v := (-1)) hx hb d_Mod_set_33 (by decide) ?_
              exact ps_iret hx hb hr hlocks hK hP hD hS (Nat.le_of_ble_eq_true rfl) (Nat.le_of_ble_eq_true rfl) d_Mod_set_34 (ps_cn (fun q => c_5 q.2.2) ⟨rfl, rfl⟩)
    · rw [eix] at hr_1
      subst hr_1
      rw [ej] at hl
      have hix31 : ps_ix F row place < 2 ^ 31 := by have b1 := hKb 1; have b2 := hKb 2; omega
      have hj3 : j < 2 ^ 31 := by have b0 := hKb 0; omega
      refine lv_istore (lv' := [(5, .int (nI (ps_ix F row place))), (0, .ref (b 0)), (1, .int (nI j)), (2, .int place), (3, .int kind), (4, .int number)]) hx hb d_Mod_set_6 hl (by decide) rfl (fun ls hl => ?_)
      refine lv_iload hx hb d_Mod_set_8 (lv_at hl 0 rfl) ?_
      refine lv_if_lt (tgt := 33) hx hb d_Mod_set_10 (by decide) (fun c_13 => ?_) (fun c_13 => ?_)
      · exact absurd c_13 (nI_pos (by have h0 := hKb 0; have h1 := hKb 1; have h2 := hKb 2; have h3 := hKb 3; have h4 := hKb 4; have h5 := hKb 5; omega))
      · refine lv_aload_n hx hb d_Mod_set_13 rfl (lv_at hl 1 rfl) ?_
        refine va_get (D := (dC, dI)) (ci := cMod) (v := .ref (b 1)) (C := R_Mod) (T := F_Mod) (N := 27) hx hb hts i_Mod hown hK hP 0 rfl rfl 0 (by decide) (hts _ tw_242) (fun _ h9 => h9) rfl d_Mod_set_14 ?_
        refine lv_iload_n hx hb d_Mod_set_17 rfl (lv_at hl 2 rfl) ?_
        refine va_bald (f := F 4) hx hb hK hP 1 1 rfl htB (vp_in_nI (show j < 16385 from by omega) (by decide)) d_Mod_set_18 ?_
        refine ps_top (z := (F 4) j) (by rw [nI_clamp (show j < 2 ^ 31 from hj3)]) ?_
        refine ps_top (z := nI 2) h4 ?_
        refine lv_iconst (v := nI 1) hx hb d_Mod_set_19 (by decide) ?_
        refine lv_icmp_ne (tgt := 33) hx hb d_Mod_set_20 (by decide) (fun c_14 => ?_) (fun c_14 => ?_)
        · have c_14 : ¬ 2 = 1 := fun q => c_14 ((nI_eq (by have h0 := hKb 0; have h1 := hKb 1; have h2 := hKb 2; have h3 := hKb 3; have h4 := hKb 4; have h5 := hKb 5; omega) (by have h0 := hKb 0; have h1 := hKb 1; have h2 := hKb 2; have h3 := hKb 3; have h4 := hKb 4; have h5 := hKb 5; omega)).mpr q)
          refine lv_iconst (v := (-1)) hx hb d_Mod_set_33 (by decide) ?_
          exact ps_iret hx hb hr hlocks hK hP hD hS (Nat.le_of_ble_eq_true rfl) (Nat.le_of_ble_eq_true rfl) d_Mod_set_34 (ps_cn (fun q => hnok q.1) ⟨rfl, rfl⟩)
        · have c_14 : 2 = 1 := (nI_eq (by have h0 := hKb 0; have h1 := hKb 1; have h2 := hKb 2; have h3 := hKb 3; have h4 := hKb 4; have h5 := hKb 5; omega) (by have h0 := hKb 0; have h1 := hKb 1; have h2 := hKb 2; have h3 := hKb 3; have h4 := hKb 4; have h5 := hKb 5; omega)).mp c_14
          exact absurd c_14 (by decide)
  · subst hr_1
    refine lv_istore (lv' := [(5, .int (-1)), (0, .ref (b 0)), (1, .int row), (2, .int place), (3, .int kind), (4, .int number)]) hx hb d_Mod_set_6 hl (by decide) rfl (fun ls hl => ?_)
    refine lv_iload hx hb d_Mod_set_8 (lv_at hl 0 rfl) ?_
    refine lv_if_lt (tgt := 33) hx hb d_Mod_set_10 (by decide) (fun c_15 => ?_) (fun c_15 => ?_)
    · refine lv_iconst (v := (-1)) hx hb d_Mod_set_33 (by decide) ?_
      exact ps_iret hx hb hr hlocks hK hP hD hS (Nat.le_of_ble_eq_true rfl) (Nat.le_of_ble_eq_true rfl) d_Mod_set_34 (ps_cn (fun q => ps_at_no hat q.1) ⟨rfl, rfl⟩)
    · exact absurd (by decide) c_15

set_option maxHeartbeats 4000000 in
set_option maxRecDepth 100000 in
/-- PageStoreModel.undefine -/
theorem m_undefine (l : Launch) (dC : Nat → ClassId) (dI : Nat → Nat → Nat) (cI : ClassId) (tys : List (ClassId × FieldType)) (ht : tys[0]? = some (cI, FieldType.int)) (cB cS cZ : ClassId) (htB : tys[1]? = some (cB, FieldType.byte)) (htS : tys[2]? = some (cS, FieldType.short)) (htZ : tys[3]? = some (cZ, FieldType.boolean)) (b K : Nat → Nat) (S : Nat) (ck cu : Int32) (F X : Nat → Nat → Int32) (hKb : ∀ j, K j ≤ 65536) (hSb : S ≤ 15) (d kk key : Int32) (hk4 : K 4 ≤ 16384) (t b0 : Nat) (ht0 : t ≤ 65536) (hb0 : b0 ≤ K 5) (hk5 : K 5 ≤ 40000) (htw : ¬ S = 0 → X 4 (5 * S + 4) = nI t) (htb : ¬ S = 0 → X 5 S = nI b0) (hby : ∀ j, vp_nar .byte (X 1 j) = X 1 j) (hbz : ∀ j, vp_nar .boolean (X 3 j) = X 3 j) : ps_mI classes l y_Mod_undefine w_Mod_undefine ({ frames := 2, cells := 0, slots := 0, locals := 48 }) (dC, dI) tys [.ref (b 0), .int d, .int kk, .int key] (mw cI cB cS cZ b K S ck cu F X) (fun r u => ps_c ((nI 1 ≤ d ∧ d ≤ nI (K 3)) ∧ (nI 1 ≤ kk ∧ kk ≤ nI 15)) ((ps_not (fun j => F 9 j = key ∧ F 8 j = kk ∧ F 7 j = d) 0 (K 4) ∧ r = -2 ∧ u = mw cI cB cS cZ b K S ck cu F X) ∨ (∃ j : Nat, j < K 4 ∧ (fun j => F 9 j = key ∧ F 8 j = kk ∧ F 7 j = d) j ∧ ps_not (fun j => F 9 j = key ∧ F 8 j = kk ∧ F 7 j = d) 0 j ∧ ps_c (¬ X 3 j = 0) (r = -2 ∧ u = mw cI cB cS cZ b K S ck cu F X) (∃ z : Int32, z = (-1) - nI j ∧ ps_c (mo_open S t b0 (K 5) X z j) (ps_c (40000 ≤ K 5) (r = -3 ∧ u = mw cI cB cS cZ b K S ck cu F X) (r = 1 ∧ u = mw cI cB cS cZ b (va_up K 5 (K 5 + 1)) S ck cu (ps_Fv (ps_Fm F (K 5) (nI 4) j (F 10 j) (F 11 j)) 10 j (-1) 0) (va_up (mo_Xk X (K 5) j z) 3 (upd (X 3) j 1)))) (r = 1 ∧ u = mw cI cB cS cZ b K S ck cu (ps_Fv F 10 j (-1) 0) (va_up X 3 (upd (X 3) j 1)))))) (r = -1 ∧ u = mw cI cB cS cZ b K S ck cu F X)) := by
  refine ps_mI_of (by decide) rfl (Nat.le_of_ble_eq_true rfl) ?_
  intro p e s m below meth c A ls C0 hA hK hP hD hS hl
  obtain ⟨hx, hb, hr, hml, hts, hown, hlocks, hin⟩ := C0
  have hl : lv_has ls 5 [(0, .ref (b 0)), (1, .int d), (2, .int kk), (3, .int key)] := hl
  have hP : va_P (dC, dI) classes (mw cI cB cS cZ b K S ck cu F X) s.heap := hP
  have hD : va_D A (mw cI cB cS cZ b K S ck cu F X) := hD
  refine lv_aload_n hx hb d_Mod_undefine_0 rfl (lv_at hl 0 rfl) ?_
  refine lv_iload_n hx hb d_Mod_undefine_1 rfl (lv_at hl 1 rfl) ?_
  refine ps_readI (wc := (mw cI cB cS cZ b K S ck cu F X)) hP hD hS hA [0, 1, 2, 3, 4, 5, 6, 7, 8, 9, 10, 11, 12, 13, 14, 15, 16, 17, 18] rfl (fun _ _ h => h.1) (ps_runVI ⟨hx, hb, hml, hown, hts⟩ (m_isDic l dC dI cI tys ht cB cS cZ htB htS htZ b K S ck cu F X hKb hSb d) (ps_cwV ps_gd 1 hts tw_270 k_Mod_isDictionary e_Mod_isDictionary ⟨Nat.le_of_ble_eq_true rfl, Nat.le_of_ble_eq_true rfl⟩) hK hP hD [0, 1, 2, 3, 4, 5, 6, 7, 8, 9, 10, 11, 12, 13, 14, 15, 16, 17, 18] (by decide) rfl 0 cMod rfl rfl rfl hl.1 rfl (Nat.le_of_ble_eq_true rfl) d_Mod_undefine_2 ⟨Nat.zero_le _, Nat.zero_le _⟩) (fun r_1 H locs hr_1 hP hS => ?_)
  obtain ⟨-, hr_1⟩ := hr_1
  subst hr_1
  refine lv_if_eq (tgt := 15) hx hb d_Mod_undefine_5 (by decide) (fun c_2 => ?_) (fun c_2 => ?_)
  · have c_2 := ps_ite0 c_2
    refine lv_iconst (v := (-1)) hx hb d_Mod_undefine_15 (by decide) ?_
    exact ps_iret hx hb hr hlocks hK hP hD hS (Nat.le_of_ble_eq_true rfl) (Nat.le_of_ble_eq_true rfl) d_Mod_undefine_16 (ps_cn (fun q => c_2 q.1) ⟨rfl, rfl⟩)
  · have c_2 := ps_ite1 c_2
    refine lv_iload_n hx hb d_Mod_undefine_8 rfl (lv_at hl 2 rfl) ?_
    refine ps_readI (wc := []) hP hD hS hA [] rfl (fun _ _ h => h.1) (ps_runSI ⟨hx, hb, hml, hown, hts⟩ (m_isKey l dC dI cI tys ht kk) (ps_cwS ps_gd 1 hts tw_271 k_Mod_isKey e_Mod_isKey ⟨Nat.le_of_ble_eq_true rfl, Nat.le_of_ble_eq_true rfl⟩) hK hP hD [] (by decide) rfl rfl hl.1 rfl (Nat.le_of_ble_eq_true rfl) d_Mod_undefine_9 ⟨Nat.zero_le _, Nat.zero_le _⟩) (fun r_3 H locs hr_3 hP hS => ?_)
    obtain ⟨-, hr_3⟩ := hr_3
    subst hr_3
    refine lv_if_ne (tgt := 17) hx hb d_Mod_undefine_12 (by decide) (fun c_4 => ?_) (fun c_4 => ?_)
    · have c_4 := ps_ite1 c_4
      refine lv_aload_n hx hb d_Mod_undefine_17 rfl (lv_at hl 0 rfl) ?_
      refine lv_iload_n hx hb d_Mod_undefine_18 rfl (lv_at hl 1 rfl) ?_
      refine lv_iload_n hx hb d_Mod_undefine_19 rfl (lv_at hl 2 rfl) ?_
      refine lv_iload_n hx hb d_Mod_undefine_20 rfl (lv_at hl 3 rfl) ?_
      refine ps_readI (wc := (mw cI cB cS cZ b K S ck cu F X)) hP hD hS hA [0, 1, 2, 3, 4, 5, 6, 7, 8, 9, 10, 11, 12, 13, 14, 15, 16, 17, 18] rfl (fun _ _ h => h.1) (ps_runVI ⟨hx, hb, hml, hown, hts⟩ (m_there l dC dI cI tys ht cB cS cZ htB htS htZ b K S ck cu F X hKb hSb d kk key hk4) (ps_cwV ps_gd 3 hts tw_272 k_Mod_there e_Mod_there ⟨Nat.le_of_ble_eq_true rfl, Nat.le_of_ble_eq_true rfl⟩) hK hP hD [0, 1, 2, 3, 4, 5, 6, 7, 8, 9, 10, 11, 12, 13, 14, 15, 16, 17, 18] (by decide) rfl 0 cMod rfl rfl rfl hl.1 rfl (Nat.le_of_ble_eq_true rfl) d_Mod_undefine_21 ⟨Nat.zero_le _, Nat.zero_le _⟩) (fun r_5 H locs hr_5 hP hS => ?_)
      obtain ⟨-, hr_5⟩ := hr_5
      rcases hr_5 with ⟨hnone, hr_5⟩ | ⟨j, hj, hjm, hjn, ⟨hgone, hr_5⟩ | ⟨hgone, hr_5⟩⟩
      · subst hr_5
        refine lv_istore (lv' := [(4, .int (-1)), (0, .ref (b 0)), (1, .int d), (2, .int kk), (3, .int key)]) hx hb d_Mod_undefine_24 hl (by decide) rfl (fun ls hl => ?_)
        refine lv_iload hx hb d_Mod_undefine_26 (lv_at hl 0 rfl) ?_
        refine lv_if_ge (tgt := 34) hx hb d_Mod_undefine_28 (by decide) (fun c_6 => ?_) (fun c_6 => ?_)
        · exact absurd c_6 (by decide)
        · refine lv_bipush (v := (-2)) hx hb d_Mod_undefine_31 (by decide) ?_
          exact ps_iret hx hb hr hlocks hK hP hD hS (Nat.le_of_ble_eq_true rfl) (Nat.le_of_ble_eq_true rfl) d_Mod_undefine_33 (ps_cy ⟨c_2, c_4⟩ (Or.inl ⟨hnone, rfl, rfl⟩))
      · subst hr_5
        have hj31 : j < 2 ^ 31 := by have b4 := hKb 4; omega
        refine lv_istore (lv' := [(4, .int (nI j)), (0, .ref (b 0)), (1, .int d), (2, .int kk), (3, .int key)]) hx hb d_Mod_undefine_24 hl (by decide) rfl (fun ls hl => ?_)
        refine lv_iload hx hb d_Mod_undefine_26 (lv_at hl 0 rfl) ?_
        refine lv_if_ge (tgt := 34) hx hb d_Mod_undefine_28 (by decide) (fun c_7 => ?_) (fun c_7 => ?_)
        · refine lv_aload_n hx hb d_Mod_undefine_34 rfl (lv_at hl 1 rfl) ?_
          refine lv_iconst (v := (-1)) hx hb d_Mod_undefine_35 (by decide) ?_
          refine lv_iload hx hb d_Mod_undefine_36 (lv_at hl 0 rfl) ?_
          refine lv_isub hx hb d_Mod_undefine_38 ?_
          refine lv_topi (fun z hz => ?_)
          refine ps_afterI (wc := (mw cI cB cS cZ b K S ck cu F X)) (wr := []) hP hD hS hA [0, 1, 2, 3, 4, 5, 6, 7, 8, 9, 10, 11, 12, 13, 14, 15, 16, 17, 18] [] rfl rfl (by decide) (by decide) (ps_runVI ⟨hx, hb, hml, hown, hts⟩ (m_remK l dC dI cI tys ht cB cS cZ htB htS htZ b K S ck cu F X hKb hSb j (by omega) z hz t b0 ht0 hb0 hk5 htw htb hby hbz) (ps_cwV ps_gd 1 hts tw_306 k_Mod_remember e_Mod_remember ⟨Nat.le_of_ble_eq_true rfl, Nat.le_of_ble_eq_true rfl⟩) hK hP hD [0, 1, 2, 3, 4, 5, 6, 7, 8, 9, 10, 11, 12, 13, 14, 15, 16, 17, 18] (by decide) rfl 0 cMod rfl rfl rfl hl.1 rfl (Nat.le_of_ble_eq_true rfl) d_Mod_undefine_39 ⟨Nat.zero_le _, Nat.zero_le _⟩) (fun r_9 u_8 H locs hu_8 hP hD hS => ?_)
          rcases hu_8 with ⟨hmu, ⟨hfull, hr_9, hu_8⟩ | ⟨hfull, hr_9, hu_8⟩⟩ | ⟨hmu, hr_9, hu_8⟩
          · subst hr_9
            subst hu_8
            have hP : va_P (dC, dI) classes (mw cI cB cS cZ b K S ck cu F X) H := hP
            have hD : va_D A (mw cI cB cS cZ b K S ck cu F X) := hD
            refine lv_if_ne (tgt := 48) hx hb d_Mod_undefine_42 (by decide) (fun c_10 => ?_) (fun c_10 => ?_)
            · exact absurd rfl c_10
            · refine lv_bipush (v := (-3)) hx hb d_Mod_undefine_45 (by decide) ?_
              exact ps_iret hx hb hr hlocks hK hP hD hS (Nat.le_of_ble_eq_true rfl) (Nat.le_of_ble_eq_true rfl) d_Mod_undefine_47 (ps_cy ⟨c_2, c_4⟩ (Or.inr ⟨j, hj, hjm, hjn, ps_cn (fun q => q hgone) ⟨z, hz, ps_cy hmu (ps_cy hfull ⟨rfl, rfl⟩)⟩⟩))
          · subst hr_9
            subst hu_8
            have hP : va_P (dC, dI) classes (mw cI cB cS cZ b (va_up K 5 (K 5 + 1)) S ck cu F (va_up (va_up (va_up (va_up X 6 (upd (X 6) (K 5) z)) 7 (upd (X 7) (K 5) (X 1 j))) 8 (upd (X 8) (K 5) (X 2 j))) 9 (upd (X 9) (K 5) (X 3 j)))) H := hP
            have hD : va_D A (mw cI cB cS cZ b (va_up K 5 (K 5 + 1)) S ck cu F (va_up (va_up (va_up (va_up X 6 (upd (X 6) (K 5) z)) 7 (upd (X 7) (K 5) (X 1 j))) 8 (upd (X 8) (K 5) (X 2 j))) 9 (upd (X 9) (K 5) (X 3 j)))) := hD
            refine lv_if_ne (tgt := 48) hx hb d_Mod_undefine_42 (by decide) (fun c_11 => ?_) (fun c_11 => ?_)
            · refine lv_aload_n hx hb d_Mod_undefine_48 rfl (lv_at hl 1 rfl) ?_
              refine va_get (D := (dC, dI)) (ci := cMod) (v := .ref (b 12)) (C := R_Mod) (T := F_Mod) (N := 27) hx hb hts i_Mod hown hK hP 0 rfl rfl 15 (by decide) (hts _ tw_269) (fun _ h9 => h9) rfl d_Mod_undefine_49 ?_
              refine lv_iload hx hb d_Mod_undefine_52 (lv_at hl 0 rfl) ?_
              refine lv_iconst (v := 1) hx hb d_Mod_undefine_54 (by decide) ?_
              refine va_zast (f := X 3) hx hb hK hP hD hS 12 3 rfl htZ (vp_in_nI (show j < 16384 from by omega) (by decide)) d_Mod_undefine_55 (fun H locs hP hD hS => ?_)
              rw [nI_clamp (show j < 2 ^ 31 from hj31), (show vp_nar .boolean 1 = 1 by decide)] at hP hD
              have hP : va_P (dC, dI) classes (mw cI cB cS cZ b (va_up K 5 (K 5 + 1)) S ck cu F (va_up (va_up (va_up (va_up (va_up X 6 (upd (X 6) (K 5) z)) 7 (upd (X 7) (K 5) (X 1 j))) 8 (upd (X 8) (K 5) (X 2 j))) 9 (upd (X 9) (K 5) (X 3 j))) 3 (upd (X 3) j 1))) H := hP
              have hD : va_D A (mw cI cB cS cZ b (va_up K 5 (K 5 + 1)) S ck cu F (va_up (va_up (va_up (va_up (va_up X 6 (upd (X 6) (K 5) z)) 7 (upd (X 7) (K 5) (X 1 j))) 8 (upd (X 8) (K 5) (X 2 j))) 9 (upd (X 9) (K 5) (X 3 j))) 3 (upd (X 3) j 1))) := hD
              refine lv_iconst (v := 1) hx hb d_Mod_undefine_56 (by decide) ?_
              exact ps_iret hx hb hr hlocks hK hP hD hS (Nat.le_of_ble_eq_true rfl) (Nat.le_of_ble_eq_true rfl) d_Mod_undefine_57 (ps_cy ⟨c_2, c_4⟩ (Or.inr ⟨j, hj, hjm, hjn, ps_cn (fun q => q hgone) ⟨z, hz, ps_cy hmu (ps_cn hfull ⟨rfl, rfl⟩)⟩⟩))
            · exact absurd c_11 (by decide)
          · subst hr_9
            subst hu_8
            have hP : va_P (dC, dI) classes (mw cI cB cS cZ b K S ck cu F X) H := hP
            have hD : va_D A (mw cI cB cS cZ b K S ck cu F X) := hD
            refine lv_if_ne (tgt := 48) hx hb d_Mod_undefine_42 (by decide) (fun c_12 => ?_) (fun c_12 => ?_)
            · refine lv_aload_n hx hb d_Mod_undefine_48 rfl (lv_at hl 1 rfl) ?_
              refine va_get (D := (dC, dI)) (ci := cMod) (v := .ref (b 12)) (C := R_Mod) (T := F_Mod) (N := 27) hx hb hts i_Mod hown hK hP 0 rfl rfl 15 (by decide) (hts _ tw_269) (fun _ h9 => h9) rfl d_Mod_undefine_49 ?_
              refine lv_iload hx hb d_Mod_undefine_52 (lv_at hl 0 rfl) ?_
              refine lv_iconst (v := 1) hx hb d_Mod_undefine_54 (by decide) ?_
              refine va_zast (f := X 3) hx hb hK hP hD hS 12 3 rfl htZ (vp_in_nI (show j < 16384 from by omega) (by decide)) d_Mod_undefine_55 (fun H locs hP hD hS => ?_)
              rw [nI_clamp (show j < 2 ^ 31 from hj31), (show vp_nar .boolean 1 = 1 by decide)] at hP hD
              have hP : va_P (dC, dI) classes (mw cI cB cS cZ b K S ck cu F (va_up X 3 (upd (X 3) j 1))) H := hP
              have hD : va_D A (mw cI cB cS cZ b K S ck cu F (va_up X 3 (upd (X 3) j 1))) := hD
              refine lv_iconst (v := 1) hx hb d_Mod_undefine_56 (by decide) ?_
              exact ps_iret hx hb hr hlocks hK hP hD hS (Nat.le_of_ble_eq_true rfl) (Nat.le_of_ble_eq_true rfl) d_Mod_undefine_57 (ps_cy ⟨c_2, c_4⟩ (Or.inr ⟨j, hj, hjm, hjn, ps_cn (fun q => q hgone) ⟨z, hz, ps_cn hmu ⟨rfl, rfl⟩⟩⟩))
            · exact absurd c_12 (by decide)
        · exact absurd (nI_pos' (by have h0 := hKb 0; have h1 := hKb 1; have h2 := hKb 2; have h3 := hKb 3; have h4 := hKb 4; have h5 := hKb 5; omega)) c_7
      · subst hr_5
        refine lv_istore (lv' := [(4, .int (-1)), (0, .ref (b 0)), (1, .int d), (2, .int kk), (3, .int key)]) hx hb d_Mod_undefine_24 hl (by decide) rfl (fun ls hl => ?_)
        refine lv_iload hx hb d_Mod_undefine_26 (lv_at hl 0 rfl) ?_
        refine lv_if_ge (tgt := 34) hx hb d_Mod_undefine_28 (by decide) (fun c_13 => ?_) (fun c_13 => ?_)
        · exact absurd c_13 (by decide)
        · refine lv_bipush (v := (-2)) hx hb d_Mod_undefine_31 (by decide) ?_
          exact ps_iret hx hb hr hlocks hK hP hD hS (Nat.le_of_ble_eq_true rfl) (Nat.le_of_ble_eq_true rfl) d_Mod_undefine_33 (ps_cy ⟨c_2, c_4⟩ (Or.inr ⟨j, hj, hjm, hjn, ps_cy hgone ⟨rfl, rfl⟩⟩))
    · have c_4 := ps_ite0 c_4
      refine lv_iconst (v := (-1)) hx hb d_Mod_undefine_15 (by decide) ?_
      exact ps_iret hx hb hr hlocks hK hP hD hS (Nat.le_of_ble_eq_true rfl) (Nat.le_of_ble_eq_true rfl) d_Mod_undefine_16 (ps_cn (fun q => c_4 q.2) ⟨rfl, rfl⟩)

set_option maxHeartbeats 4000000 in
set_option maxRecDepth 100000 in
/-- PageStoreModel.define -/
theorem m_define (l : Launch) (dC : Nat → ClassId) (dI : Nat → Nat → Nat) (cI : ClassId) (tys : List (ClassId × FieldType)) (ht : tys[0]? = some (cI, FieldType.int)) (cB cS cZ : ClassId) (htB : tys[1]? = some (cB, FieldType.byte)) (htS : tys[2]? = some (cS, FieldType.short)) (htZ : tys[3]? = some (cZ, FieldType.boolean)) (b K : Nat → Nat) (S : Nat) (ck cu : Int32) (F X : Nat → Nat → Int32) (hKb : ∀ j, K j ≤ 65536) (hSb : S ≤ 15) (d kk key kind number : Int32) (hk3 : K 3 ≤ 1024) (hk4 : K 4 ≤ 16384) (t b0 : Nat) (ht0 : t ≤ 65536) (hb0 : b0 ≤ K 5) (hk5 : K 5 ≤ 40000) (htw : ¬ S = 0 → X 4 (5 * S + 4) = nI t) (htb : ¬ S = 0 → X 5 S = nI b0) (hby : ∀ j, vp_nar .byte (X 1 j) = X 1 j) (hbz : ∀ j, vp_nar .boolean (X 3 j) = X 3 j) : ps_mI classes l y_Mod_define w_Mod_define ({ frames := 2, cells := 0, slots := 0, locals := 44 }) (dC, dI) tys [.ref (b 0), .int d, .int kk, .int key, .int kind, .int number] (mw cI cB cS cZ b K S ck cu F X) (fun r u => ps_c (((nI 1 ≤ d ∧ d ≤ nI (K 3)) ∧ (nI 1 ≤ kk ∧ kk ≤ nI 15)) ∧ (nI 0 ≤ kind ∧ kind ≤ nI 15)) ((ps_not (fun j => F 9 j = key ∧ F 8 j = kk ∧ F 7 j = d) 0 (K 4) ∧ ps_c (16384 ≤ K 4) (r = -3 ∧ u = mw cI cB cS cZ b K S ck cu F X) (r = 1 ∧ u = mw cI cB cS cZ b (va_up K 4 (K 4 + 1)) S ck cu (ps_Fk F (K 4) d kk key kind number) (mo_Xv X (K 4) kind number 0))) ∨ (∃ j : Nat, j < K 4 ∧ (fun j => F 9 j = key ∧ F 8 j = kk ∧ F 7 j = d) j ∧ ps_not (fun j => F 9 j = key ∧ F 8 j = kk ∧ F 7 j = d) 0 j ∧ ∃ z : Int32, z = (-1) - nI j ∧ ps_c (mo_open S t b0 (K 5) X z j) (ps_c (40000 ≤ K 5) (r = -3 ∧ u = mw cI cB cS cZ b K S ck cu F X) (r = 0 ∧ u = mw cI cB cS cZ b (va_up K 5 (K 5 + 1)) S ck cu (ps_Fv (ps_Fm F (K 5) (nI 4) j (F 10 j) (F 11 j)) 10 j kind number) (mo_Xv (mo_Xk X (K 5) j z) j kind number 0))) (r = 0 ∧ u = mw cI cB cS cZ b K S ck cu (ps_Fv F 10 j kind number) (mo_Xv X j kind number 0)))) (r = -1 ∧ u = mw cI cB cS cZ b K S ck cu F X)) := by
  refine ps_mI_of (by decide) rfl (Nat.le_of_ble_eq_true rfl) ?_
  intro p e s m below meth c A ls C0 hA hK hP hD hS hl
  obtain ⟨hx, hb, hr, hml, hts, hown, hlocks, hin⟩ := C0
  have hl : lv_has ls 8 [(0, .ref (b 0)), (1, .int d), (2, .int kk), (3, .int key), (4, .int kind), (5, .int number)] := hl
  have hP : va_P (dC, dI) classes (mw cI cB cS cZ b K S ck cu F X) s.heap := hP
  have hD : va_D A (mw cI cB cS cZ b K S ck cu F X) := hD
  refine lv_aload_n hx hb d_Mod_define_0 rfl (lv_at hl 0 rfl) ?_
  refine lv_iload_n hx hb d_Mod_define_1 rfl (lv_at hl 1 rfl) ?_
  refine ps_readI (wc := (mw cI cB cS cZ b K S ck cu F X)) hP hD hS hA [0, 1, 2, 3, 4, 5, 6, 7, 8, 9, 10, 11, 12, 13, 14, 15, 16, 17, 18] rfl (fun _ _ h => h.1) (ps_runVI ⟨hx, hb, hml, hown, hts⟩ (m_isDic l dC dI cI tys ht cB cS cZ htB htS htZ b K S ck cu F X hKb hSb d) (ps_cwV ps_gd 1 hts tw_270 k_Mod_isDictionary e_Mod_isDictionary ⟨Nat.le_of_ble_eq_true rfl, Nat.le_of_ble_eq_true rfl⟩) hK hP hD [0, 1, 2, 3, 4, 5, 6, 7, 8, 9, 10, 11, 12, 13, 14, 15, 16, 17, 18] (by decide) rfl 0 cMod rfl rfl rfl hl.1 rfl (Nat.le_of_ble_eq_true rfl) d_Mod_define_2 ⟨Nat.zero_le _, Nat.zero_le _⟩) (fun r_1 H locs hr_1 hP hS => ?_)
  obtain ⟨-, hr_1⟩ := hr_1
  subst hr_1
  refine lv_if_eq (tgt := 27) hx hb d_Mod_define_5 (by decide) (fun c_2 => ?_) (fun c_2 => ?_)
  · have c_2 := ps_ite0 c_2
    refine lv_iconst (v := (-1)) hx hb d_Mod_define_27 (by decide) ?_
    exact ps_iret hx hb hr hlocks hK hP hD hS (Nat.le_of_ble_eq_true rfl) (Nat.le_of_ble_eq_true rfl) d_Mod_define_28 (ps_cn (fun q => c_2 q.1.1) ⟨rfl, rfl⟩)
  · have c_2 := ps_ite1 c_2
    refine lv_iload_n hx hb d_Mod_define_8 rfl (lv_at hl 2 rfl) ?_
    refine ps_readI (wc := []) hP hD hS hA [] rfl (fun _ _ h => h.1) (ps_runSI ⟨hx, hb, hml, hown, hts⟩ (m_isKey l dC dI cI tys ht kk) (ps_cwS ps_gd 1 hts tw_271 k_Mod_isKey e_Mod_isKey ⟨Nat.le_of_ble_eq_true rfl, Nat.le_of_ble_eq_true rfl⟩) hK hP hD [] (by decide) rfl rfl hl.1 rfl (Nat.le_of_ble_eq_true rfl) d_Mod_define_9 ⟨Nat.zero_le _, Nat.zero_le _⟩) (fun r_3 H locs hr_3 hP hS => ?_)
    obtain ⟨-, hr_3⟩ := hr_3
    subst hr_3
    refine lv_if_eq (tgt := 27) hx hb d_Mod_define_12 (by decide) (fun c_4 => ?_) (fun c_4 => ?_)
    · have c_4 := ps_ite0 c_4
      refine lv_iconst (v := (-1)) hx hb d_Mod_define_27 (by decide) ?_
      exact ps_iret hx hb hr hlocks hK hP hD hS (Nat.le_of_ble_eq_true rfl) (Nat.le_of_ble_eq_true rfl) d_Mod_define_28 (ps_cn (fun q => c_4 q.1.2) ⟨rfl, rfl⟩)
    · have c_4 := ps_ite1 c_4
      refine lv_iload hx hb d_Mod_define_15 (lv_at hl 4 rfl) ?_
      refine lv_if_lt (tgt := 27) hx hb d_Mod_define_17 (by decide) (fun c_5 => ?_) (fun c_5 => ?_)
      · refine lv_iconst (v := (-1)) hx hb d_Mod_define_27 (by decide) ?_
        exact ps_iret hx hb hr hlocks hK hP hD hS (Nat.le_of_ble_eq_true rfl) (Nat.le_of_ble_eq_true rfl) d_Mod_define_28 (ps_cn (fun q => k2_nle (show kind < nI 0 from c_5) q.2.1) ⟨rfl, rfl⟩)
      · refine lv_iload hx hb d_Mod_define_20 (lv_at hl 4 rfl) ?_
        refine lv_bipush (v := nI 15) hx hb d_Mod_define_22 (by decide) ?_
        refine lv_icmp_le (tgt := 29) hx hb d_Mod_define_24 (by decide) (fun c_6 => ?_) (fun c_6 => ?_)
        · have hkd : nI 0 ≤ kind ∧ kind ≤ nI 15 := ⟨k2_le (show ¬ kind < nI 0 from c_5), c_6⟩
          obtain ⟨k0, hk15, ek⟩ := mo_k15 hkd
          obtain ⟨kx, hkx1, hkx2, ekk⟩ := ps_rng (n := 15) (by decide) c_4
          obtain ⟨dx, hdx1, hdx2, edx⟩ := ps_rng (n := K 3) (by omega) c_2
          have hcc : ((nI 1 ≤ d ∧ d ≤ nI (K 3)) ∧ (nI 1 ≤ kk ∧ kk ≤ nI 15)) ∧ (nI 0 ≤ kind ∧ kind ≤ nI 15) := ⟨⟨c_2, c_4⟩, hkd⟩
          refine lv_aload_n hx hb d_Mod_define_29 rfl (lv_at hl 0 rfl) ?_
          refine lv_iload_n hx hb d_Mod_define_30 rfl (lv_at hl 1 rfl) ?_
          refine lv_iload_n hx hb d_Mod_define_31 rfl (lv_at hl 2 rfl) ?_
          refine lv_iload_n hx hb d_Mod_define_32 rfl (lv_at hl 3 rfl) ?_
          refine ps_readI (wc := (mw cI cB cS cZ b K S ck cu F X)) hP hD hS hA [0, 1, 2, 3, 4, 5, 6, 7, 8, 9, 10, 11, 12, 13, 14, 15, 16, 17, 18] rfl (fun _ _ h => h.1) (ps_runVI ⟨hx, hb, hml, hown, hts⟩ (m_key l dC dI cI tys ht cB cS cZ htB htS htZ b K S ck cu F X hKb hSb d kk key hk4) (ps_cwV ps_gd 3 hts tw_268 k_Mod_key e_Mod_key ⟨Nat.le_of_ble_eq_true rfl, Nat.le_of_ble_eq_true rfl⟩) hK hP hD [0, 1, 2, 3, 4, 5, 6, 7, 8, 9, 10, 11, 12, 13, 14, 15, 16, 17, 18] (by decide) rfl 0 cMod rfl rfl rfl hl.1 rfl (Nat.le_of_ble_eq_true rfl) d_Mod_define_33 ⟨Nat.zero_le _, Nat.zero_le _⟩) (fun r_7 H locs hr_7 hP hS => ?_)
          obtain ⟨-, hr_7⟩ := hr_7
          rcases hr_7 with ⟨j, -, hj, hjm, hjn, hr_7⟩ | ⟨hnone, hr_7⟩
          · subst hr_7
            have hj31 : j < 2 ^ 31 := by have b4 := hKb 4; omega
            refine lv_istore (lv' := [(6, .int (nI j)), (0, .ref (b 0)), (1, .int d), (2, .int kk), (3, .int key), (4, .int kind), (5, .int number)]) hx hb d_Mod_define_36 hl (by decide) rfl (fun ls hl => ?_)
            refine lv_iload hx hb d_Mod_define_38 (lv_at hl 0 rfl) ?_
            refine lv_if_ge (tgt := 56) hx hb d_Mod_define_40 (by decide) (fun c_8 => ?_) (fun c_8 => ?_)
            · refine lv_iload hx hb d_Mod_define_56 (lv_at hl 0 rfl) ?_
              refine lv_if_lt (tgt := 75) hx hb d_Mod_define_58 (by decide) (fun c_9 => ?_) (fun c_9 => ?_)
              · exact absurd c_9 (nI_pos (by have h0 := hKb 0; have h1 := hKb 1; have h2 := hKb 2; have h3 := hKb 3; have h4 := hKb 4; have h5 := hKb 5; omega))
              · refine lv_aload_n hx hb d_Mod_define_61 rfl (lv_at hl 1 rfl) ?_
                refine lv_iconst (v := (-1)) hx hb d_Mod_define_62 (by decide) ?_
                refine lv_iload hx hb d_Mod_define_63 (lv_at hl 0 rfl) ?_
                refine lv_isub hx hb d_Mod_define_65 ?_
                refine lv_topi (fun z hz => ?_)
                refine ps_afterI (wc := (mw cI cB cS cZ b K S ck cu F X)) (wr := []) hP hD hS hA [0, 1, 2, 3, 4, 5, 6, 7, 8, 9, 10, 11, 12, 13, 14, 15, 16, 17, 18] [] rfl rfl (by decide) (by decide) (ps_runVI ⟨hx, hb, hml, hown, hts⟩ (m_remK l dC dI cI tys ht cB cS cZ htB htS htZ b K S ck cu F X hKb hSb j (by omega) z hz t b0 ht0 hb0 hk5 htw htb hby hbz) (ps_cwV ps_gd 1 hts tw_306 k_Mod_remember e_Mod_remember ⟨Nat.le_of_ble_eq_true rfl, Nat.le_of_ble_eq_true rfl⟩) hK hP hD [0, 1, 2, 3, 4, 5, 6, 7, 8, 9, 10, 11, 12, 13, 14, 15, 16, 17, 18] (by decide) rfl 0 cMod rfl rfl rfl hl.1 rfl (Nat.le_of_ble_eq_true rfl) d_Mod_define_66 ⟨Nat.zero_le _, Nat.zero_le _⟩) (fun r_11 u_10 H locs hu_10 hP hD hS => ?_)
                rcases hu_10 with ⟨hmu, ⟨hfull, hr_11, hu_10⟩ | ⟨hfull, hr_11, hu_10⟩⟩ | ⟨hmu, hr_11, hu_10⟩
                · subst hr_11
                  subst hu_10
                  have hP : va_P (dC, dI) classes (mw cI cB cS cZ b K S ck cu F X) H := hP
                  have hD : va_D A (mw cI cB cS cZ b K S ck cu F X) := hD
                  refine lv_if_ne (tgt := 75) hx hb d_Mod_define_69 (by decide) (fun c_12 => ?_) (fun c_12 => ?_)
                  · exact absurd rfl c_12
                  · refine lv_bipush (v := (-3)) hx hb d_Mod_define_72 (by decide) ?_
                    exact ps_iret hx hb hr hlocks hK hP hD hS (Nat.le_of_ble_eq_true rfl) (Nat.le_of_ble_eq_true rfl) d_Mod_define_74 (ps_cy hcc (Or.inr ⟨j, hj, hjm, hjn, z, hz, ps_cy hmu (ps_cy hfull ⟨rfl, rfl⟩)⟩))
                · subst hr_11
                  subst hu_10
                  have hP : va_P (dC, dI) classes (mw cI cB cS cZ b (va_up K 5 (K 5 + 1)) S ck cu F (va_up (va_up (va_up (va_up X 6 (upd (X 6) (K 5) z)) 7 (upd (X 7) (K 5) (X 1 j))) 8 (upd (X 8) (K 5) (X 2 j))) 9 (upd (X 9) (K 5) (X 3 j)))) H := hP
                  have hD : va_D A (mw cI cB cS cZ b (va_up K 5 (K 5 + 1)) S ck cu F (va_up (va_up (va_up (va_up X 6 (upd (X 6) (K 5) z)) 7 (upd (X 7) (K 5) (X 1 j))) 8 (upd (X 8) (K 5) (X 2 j))) 9 (upd (X 9) (K 5) (X 3 j)))) := hD
                  refine lv_if_ne (tgt := 75) hx hb d_Mod_define_69 (by decide) (fun c_13 => ?_) (fun c_13 => ?_)
                  · refine lv_iload hx hb d_Mod_define_75 (lv_at hl 0 rfl) ?_
                    refine lv_if_ge (tgt := 84) hx hb d_Mod_define_77 (by decide) (fun c_14 => ?_) (fun c_14 => ?_)
                    · refine lv_iconst (v := 0) hx hb d_Mod_define_84 (by decide) ?_
                      refine lv_istore (lv' := [(7, .int 0), (6, .int (nI j)), (0, .ref (b 0)), (1, .int d), (2, .int kk), (3, .int key), (4, .int kind), (5, .int number)]) hx hb d_Mod_define_85 hl (by decide) rfl (fun ls hl => ?_)
                      refine lv_iload hx hb d_Mod_define_87 (lv_at hl 1 rfl) ?_
                      refine lv_if_ge (tgt := 134) hx hb d_Mod_define_89 (by decide) (fun c_15 => ?_) (fun c_15 => ?_)
                      · refine lv_aload_n hx hb d_Mod_define_134 rfl (lv_at hl 2 rfl) ?_
                        refine va_get (D := (dC, dI)) (ci := cMod) (v := .ref (b 10)) (C := R_Mod) (T := F_Mod) (N := 27) hx hb hts i_Mod hown hK hP 0 rfl rfl 13 (by decide) (hts _ tw_273) (fun _ h9 => h9) rfl d_Mod_define_135 ?_
                        refine lv_iload hx hb d_Mod_define_138 (lv_at hl 1 rfl) ?_
                        refine lv_iload hx hb d_Mod_define_140 (lv_at hl 6 rfl) ?_
                        refine lv_i2b (v := kind) hx hb d_Mod_define_142 (by rw [ek]; exact mo_b8 (by omega)) ?_
                        refine va_bast (f := X 1) hx hb hK hP hD hS 10 1 rfl htB (vp_in_nI (show j < 16384 from by omega) (by decide)) d_Mod_define_143 (fun H locs hP hD hS => ?_)
                        rw [nI_clamp (show j < 2 ^ 31 from by omega), (show vp_nar .byte kind = kind by rw [ek]; exact mo_nb (by omega))] at hP hD
                        have hP : va_P (dC, dI) classes (mw cI cB cS cZ b (va_up K 5 (K 5 + 1)) S ck cu F (va_up (va_up (va_up (va_up (va_up X 6 (upd (X 6) (K 5) z)) 7 (upd (X 7) (K 5) (X 1 j))) 8 (upd (X 8) (K 5) (X 2 j))) 9 (upd (X 9) (K 5) (X 3 j))) 1 (upd (X 1) j kind))) H := hP
                        have hD : va_D A (mw cI cB cS cZ b (va_up K 5 (K 5 + 1)) S ck cu F (va_up (va_up (va_up (va_up (va_up X 6 (upd (X 6) (K 5) z)) 7 (upd (X 7) (K 5) (X 1 j))) 8 (upd (X 8) (K 5) (X 2 j))) 9 (upd (X 9) (K 5) (X 3 j))) 1 (upd (X 1) j kind))) := hD
                        refine lv_aload_n hx hb d_Mod_define_144 rfl (lv_at hl 2 rfl) ?_
                        refine va_get (D := (dC, dI)) (ci := cMod) (v := .ref (b 11)) (C := R_Mod) (T := F_Mod) (N := 27) hx hb hts i_Mod hown hK hP 0 rfl rfl 14 (by decide) (hts _ tw_274) (fun _ h9 => h9) rfl d_Mod_define_145 ?_
                        refine lv_iload hx hb d_Mod_define_148 (lv_at hl 1 rfl) ?_
                        refine lv_iload hx hb d_Mod_define_150 (lv_at hl 6 rfl) ?_
                        refine lv_if_ne (tgt := 159) hx hb d_Mod_define_152 (by decide) (fun c_16 => ?_) (fun c_16 => ?_)
                        · refine lv_iload hx hb d_Mod_define_159 (lv_at hl 7 rfl) ?_
                          refine va_iast (f := X 2) hx hb hK hP hD hS 11 0 rfl ht (vp_in_nI (show j < 16384 from by omega) (by decide)) d_Mod_define_161 (fun H locs hP hD hS => ?_)
                          rw [nI_clamp (show j < 2 ^ 31 from by omega)] at hP hD
                          have hP : va_P (dC, dI) classes (mw cI cB cS cZ b (va_up K 5 (K 5 + 1)) S ck cu F (va_up (va_up (va_up (va_up (va_up (va_up X 6 (upd (X 6) (K 5) z)) 7 (upd (X 7) (K 5) (X 1 j))) 8 (upd (X 8) (K 5) (X 2 j))) 9 (upd (X 9) (K 5) (X 3 j))) 1 (upd (X 1) j kind)) 2 (upd (X 2) j number))) H := hP
                          have hD : va_D A (mw cI cB cS cZ b (va_up K 5 (K 5 + 1)) S ck cu F (va_up (va_up (va_up (va_up (va_up (va_up X 6 (upd (X 6) (K 5) z)) 7 (upd (X 7) (K 5) (X 1 j))) 8 (upd (X 8) (K 5) (X 2 j))) 9 (upd (X 9) (K 5) (X 3 j))) 1 (upd (X 1) j kind)) 2 (upd (X 2) j number))) := hD
                          refine lv_aload_n hx hb d_Mod_define_162 rfl (lv_at hl 2 rfl) ?_
                          refine va_get (D := (dC, dI)) (ci := cMod) (v := .ref (b 12)) (C := R_Mod) (T := F_Mod) (N := 27) hx hb hts i_Mod hown hK hP 0 rfl rfl 15 (by decide) (hts _ tw_269) (fun _ h9 => h9) rfl d_Mod_define_163 ?_
                          refine lv_iload hx hb d_Mod_define_166 (lv_at hl 1 rfl) ?_
                          refine lv_iconst (v := 0) hx hb d_Mod_define_168 (by decide) ?_
                          refine va_zast (f := X 3) hx hb hK hP hD hS 12 3 rfl htZ (vp_in_nI (show j < 16384 from by omega) (by decide)) d_Mod_define_169 (fun H locs hP hD hS => ?_)
                          rw [nI_clamp (show j < 2 ^ 31 from by omega), (show vp_nar .boolean 0 = 0 by decide)] at hP hD
                          have hP : va_P (dC, dI) classes (mw cI cB cS cZ b (va_up K 5 (K 5 + 1)) S ck cu F (va_up (va_up (va_up (va_up (va_up (va_up (va_up X 6 (upd (X 6) (K 5) z)) 7 (upd (X 7) (K 5) (X 1 j))) 8 (upd (X 8) (K 5) (X 2 j))) 9 (upd (X 9) (K 5) (X 3 j))) 1 (upd (X 1) j kind)) 2 (upd (X 2) j number)) 3 (upd (X 3) j 0))) H := hP
                          have hD : va_D A (mw cI cB cS cZ b (va_up K 5 (K 5 + 1)) S ck cu F (va_up (va_up (va_up (va_up (va_up (va_up (va_up X 6 (upd (X 6) (K 5) z)) 7 (upd (X 7) (K 5) (X 1 j))) 8 (upd (X 8) (K 5) (X 2 j))) 9 (upd (X 9) (K 5) (X 3 j))) 1 (upd (X 1) j kind)) 2 (upd (X 2) j number)) 3 (upd (X 3) j 0))) := hD
                          refine lv_iload hx hb d_Mod_define_170 (lv_at hl 0 rfl) ?_
                          exact ps_iret hx hb hr hlocks hK hP hD hS (Nat.le_of_ble_eq_true rfl) (Nat.le_of_ble_eq_true rfl) d_Mod_define_172 (ps_cy hcc (Or.inr ⟨j, hj, hjm, hjn, z, hz, ps_cy hmu (ps_cn hfull ⟨rfl, by unfold mo_Xv; rw [if_neg c_16]; rfl⟩)⟩))
                        · refine lv_iconst (v := 0) hx hb d_Mod_define_155 (by decide) ?_
                          refine lv_goto (tgt := 161) hx hb d_Mod_define_156 (by decide) ?_
                          refine va_iast (f := X 2) hx hb hK hP hD hS 11 0 rfl ht (vp_in_nI (show j < 16384 from by omega) (by decide)) d_Mod_define_161 (fun H locs hP hD hS => ?_)
                          rw [nI_clamp (show j < 2 ^ 31 from by omega)] at hP hD
                          have hP : va_P (dC, dI) classes (mw cI cB cS cZ b (va_up K 5 (K 5 + 1)) S ck cu F (va_up (va_up (va_up (va_up (va_up (va_up X 6 (upd (X 6) (K 5) z)) 7 (upd (X 7) (K 5) (X 1 j))) 8 (upd (X 8) (K 5) (X 2 j))) 9 (upd (X 9) (K 5) (X 3 j))) 1 (upd (X 1) j kind)) 2 (upd (X 2) j 0))) H := hP
                          have hD : va_D A (mw cI cB cS cZ b (va_up K 5 (K 5 + 1)) S ck cu F (va_up (va_up (va_up (va_up (va_up (va_up X 6 (upd (X 6) (K 5) z)) 7 (upd (X 7) (K 5) (X 1 j))) 8 (upd (X 8) (K 5) (X 2 j))) 9 (upd (X 9) (K 5) (X 3 j))) 1 (upd (X 1) j kind)) 2 (upd (X 2) j 0))) := hD
                          refine lv_aload_n hx hb d_Mod_define_162 rfl (lv_at hl 2 rfl) ?_
                          refine va_get (D := (dC, dI)) (ci := cMod) (v := .ref (b 12)) (C := R_Mod) (T := F_Mod) (N := 27) hx hb hts i_Mod hown hK hP 0 rfl rfl 15 (by decide) (hts _ tw_269) (fun _ h9 => h9) rfl d_Mod_define_163 ?_
                          refine lv_iload hx hb d_Mod_define_166 (lv_at hl 1 rfl) ?_
                          refine lv_iconst (v := 0) hx hb d_Mod_define_168 (by decide) ?_
                          refine va_zast (f := X 3) hx hb hK hP hD hS 12 3 rfl htZ (vp_in_nI (show j < 16384 from by omega) (by decide)) d_Mod_define_169 (fun H locs hP hD hS => ?_)
                          rw [nI_clamp (show j < 2 ^ 31 from by omega), (show vp_nar .boolean 0 = 0 by decide)] at hP hD
                          have hP : va_P (dC, dI) classes (mw cI cB cS cZ b (va_up K 5 (K 5 + 1)) S ck cu F (va_up (va_up (va_up (va_up (va_up (va_up (va_up X 6 (upd (X 6) (K 5) z)) 7 (upd (X 7) (K 5) (X 1 j))) 8 (upd (X 8) (K 5) (X 2 j))) 9 (upd (X 9) (K 5) (X 3 j))) 1 (upd (X 1) j kind)) 2 (upd (X 2) j 0)) 3 (upd (X 3) j 0))) H := hP
                          have hD : va_D A (mw cI cB cS cZ b (va_up K 5 (K 5 + 1)) S ck cu F (va_up (va_up (va_up (va_up (va_up (va_up (va_up X 6 (upd (X 6) (K 5) z)) 7 (upd (X 7) (K 5) (X 1 j))) 8 (upd (X 8) (K 5) (X 2 j))) 9 (upd (X 9) (K 5) (X 3 j))) 1 (upd (X 1) j kind)) 2 (upd (X 2) j 0)) 3 (upd (X 3) j 0))) := hD
                          refine lv_iload hx hb d_Mod_define_170 (lv_at hl 0 rfl) ?_
                          exact ps_iret hx hb hr hlocks hK hP hD hS (Nat.le_of_ble_eq_true rfl) (Nat.le_of_ble_eq_true rfl) d_Mod_define_172 (ps_cy hcc (Or.inr ⟨j, hj, hjm, hjn, z, hz, ps_cy hmu (ps_cn hfull ⟨rfl, by unfold mo_Xv; rw [if_pos c_16]; rfl⟩)⟩))
                      · exact absurd (nI_pos' (by have h0 := hKb 0; have h1 := hKb 1; have h2 := hKb 2; have h3 := hKb 3; have h4 := hKb 4; have h5 := hKb 5; omega)) c_15
                    · exact absurd (nI_pos' (by have h0 := hKb 0; have h1 := hKb 1; have h2 := hKb 2; have h3 := hKb 3; have h4 := hKb 4; have h5 := hKb 5; omega)) c_14
                  · exact absurd c_13 (by decide)
                · subst hr_11
                  subst hu_10
                  have hP : va_P (dC, dI) classes (mw cI cB cS cZ b K S ck cu F X) H := hP
                  have hD : va_D A (mw cI cB cS cZ b K S ck cu F X) := hD
                  refine lv_if_ne (tgt := 75) hx hb d_Mod_define_69 (by decide) (fun c_17 => ?_) (fun c_17 => ?_)
                  · refine lv_iload hx hb d_Mod_define_75 (lv_at hl 0 rfl) ?_
                    refine lv_if_ge (tgt := 84) hx hb d_Mod_define_77 (by decide) (fun c_18 => ?_) (fun c_18 => ?_)
                    · refine lv_iconst (v := 0) hx hb d_Mod_define_84 (by decide) ?_
                      refine lv_istore (lv' := [(7, .int 0), (6, .int (nI j)), (0, .ref (b 0)), (1, .int d), (2, .int kk), (3, .int key), (4, .int kind), (5, .int number)]) hx hb d_Mod_define_85 hl (by decide) rfl (fun ls hl => ?_)
                      refine lv_iload hx hb d_Mod_define_87 (lv_at hl 1 rfl) ?_
                      refine lv_if_ge (tgt := 134) hx hb d_Mod_define_89 (by decide) (fun c_19 => ?_) (fun c_19 => ?_)
                      · refine lv_aload_n hx hb d_Mod_define_134 rfl (lv_at hl 2 rfl) ?_
                        refine va_get (D := (dC, dI)) (ci := cMod) (v := .ref (b 10)) (C := R_Mod) (T := F_Mod) (N := 27) hx hb hts i_Mod hown hK hP 0 rfl rfl 13 (by decide) (hts _ tw_273) (fun _ h9 => h9) rfl d_Mod_define_135 ?_
                        refine lv_iload hx hb d_Mod_define_138 (lv_at hl 1 rfl) ?_
                        refine lv_iload hx hb d_Mod_define_140 (lv_at hl 6 rfl) ?_
                        refine lv_i2b (v := kind) hx hb d_Mod_define_142 (by rw [ek]; exact mo_b8 (by omega)) ?_
                        refine va_bast (f := X 1) hx hb hK hP hD hS 10 1 rfl htB (vp_in_nI (show j < 16384 from by omega) (by decide)) d_Mod_define_143 (fun H locs hP hD hS => ?_)
                        rw [nI_clamp (show j < 2 ^ 31 from by omega), (show vp_nar .byte kind = kind by rw [ek]; exact mo_nb (by omega))] at hP hD
                        have hP : va_P (dC, dI) classes (mw cI cB cS cZ b K S ck cu F (va_up X 1 (upd (X 1) j kind))) H := hP
                        have hD : va_D A (mw cI cB cS cZ b K S ck cu F (va_up X 1 (upd (X 1) j kind))) := hD
                        refine lv_aload_n hx hb d_Mod_define_144 rfl (lv_at hl 2 rfl) ?_
                        refine va_get (D := (dC, dI)) (ci := cMod) (v := .ref (b 11)) (C := R_Mod) (T := F_Mod) (N := 27) hx hb hts i_Mod hown hK hP 0 rfl rfl 14 (by decide) (hts _ tw_274) (fun _ h9 => h9) rfl d_Mod_define_145 ?_
                        refine lv_iload hx hb d_Mod_define_148 (lv_at hl 1 rfl) ?_
                        refine lv_iload hx hb d_Mod_define_150 (lv_at hl 6 rfl) ?_
                        refine lv_if_ne (tgt := 159) hx hb d_Mod_define_152 (by decide) (fun c_20 => ?_) (fun c_20 => ?_)
                        · refine lv_iload hx hb d_Mod_define_159 (lv_at hl 7 rfl) ?_
                          refine va_iast (f := X 2) hx hb hK hP hD hS 11 0 rfl ht (vp_in_nI (show j < 16384 from by omega) (by decide)) d_Mod_define_161 (fun H locs hP hD hS => ?_)
                          rw [nI_clamp (show j < 2 ^ 31 from by omega)] at hP hD
                          have hP : va_P (dC, dI) classes (mw cI cB cS cZ b K S ck cu F (va_up (va_up X 1 (upd (X 1) j kind)) 2 (upd (X 2) j number))) H := hP
                          have hD : va_D A (mw cI cB cS cZ b K S ck cu F (va_up (va_up X 1 (upd (X 1) j kind)) 2 (upd (X 2) j number))) := hD
                          refine lv_aload_n hx hb d_Mod_define_162 rfl (lv_at hl 2 rfl) ?_
                          refine va_get (D := (dC, dI)) (ci := cMod) (v := .ref (b 12)) (C := R_Mod) (T := F_Mod) (N := 27) hx hb hts i_Mod hown hK hP 0 rfl rfl 15 (by decide) (hts _ tw_269) (fun _ h9 => h9) rfl d_Mod_define_163 ?_
                          refine lv_iload hx hb d_Mod_define_166 (lv_at hl 1 rfl) ?_
                          refine lv_iconst (v := 0) hx hb d_Mod_define_168 (by decide) ?_
                          refine va_zast (f := X 3) hx hb hK hP hD hS 12 3 rfl htZ (vp_in_nI (show j < 16384 from by omega) (by decide)) d_Mod_define_169 (fun H locs hP hD hS => ?_)
                          rw [nI_clamp (show j < 2 ^ 31 from by omega), (show vp_nar .boolean 0 = 0 by decide)] at hP hD
                          have hP : va_P (dC, dI) classes (mw cI cB cS cZ b K S ck cu F (va_up (va_up (va_up X 1 (upd (X 1) j kind)) 2 (upd (X 2) j number)) 3 (upd (X 3) j 0))) H := hP
                          have hD : va_D A (mw cI cB cS cZ b K S ck cu F (va_up (va_up (va_up X 1 (upd (X 1) j kind)) 2 (upd (X 2) j number)) 3 (upd (X 3) j 0))) := hD
                          refine lv_iload hx hb d_Mod_define_170 (lv_at hl 0 rfl) ?_
                          exact ps_iret hx hb hr hlocks hK hP hD hS (Nat.le_of_ble_eq_true rfl) (Nat.le_of_ble_eq_true rfl) d_Mod_define_172 (ps_cy hcc (Or.inr ⟨j, hj, hjm, hjn, z, hz, ps_cn hmu ⟨rfl, by unfold mo_Xv; rw [if_neg c_20]; rfl⟩⟩))
                        · refine lv_iconst (v := 0) hx hb d_Mod_define_155 (by decide) ?_
                          refine lv_goto (tgt := 161) hx hb d_Mod_define_156 (by decide) ?_
                          refine va_iast (f := X 2) hx hb hK hP hD hS 11 0 rfl ht (vp_in_nI (show j < 16384 from by omega) (by decide)) d_Mod_define_161 (fun H locs hP hD hS => ?_)
                          rw [nI_clamp (show j < 2 ^ 31 from by omega)] at hP hD
                          have hP : va_P (dC, dI) classes (mw cI cB cS cZ b K S ck cu F (va_up (va_up X 1 (upd (X 1) j kind)) 2 (upd (X 2) j 0))) H := hP
                          have hD : va_D A (mw cI cB cS cZ b K S ck cu F (va_up (va_up X 1 (upd (X 1) j kind)) 2 (upd (X 2) j 0))) := hD
                          refine lv_aload_n hx hb d_Mod_define_162 rfl (lv_at hl 2 rfl) ?_
                          refine va_get (D := (dC, dI)) (ci := cMod) (v := .ref (b 12)) (C := R_Mod) (T := F_Mod) (N := 27) hx hb hts i_Mod hown hK hP 0 rfl rfl 15 (by decide) (hts _ tw_269) (fun _ h9 => h9) rfl d_Mod_define_163 ?_
                          refine lv_iload hx hb d_Mod_define_166 (lv_at hl 1 rfl) ?_
                          refine lv_iconst (v := 0) hx hb d_Mod_define_168 (by decide) ?_
                          refine va_zast (f := X 3) hx hb hK hP hD hS 12 3 rfl htZ (vp_in_nI (show j < 16384 from by omega) (by decide)) d_Mod_define_169 (fun H locs hP hD hS => ?_)
                          rw [nI_clamp (show j < 2 ^ 31 from by omega), (show vp_nar .boolean 0 = 0 by decide)] at hP hD
                          have hP : va_P (dC, dI) classes (mw cI cB cS cZ b K S ck cu F (va_up (va_up (va_up X 1 (upd (X 1) j kind)) 2 (upd (X 2) j 0)) 3 (upd (X 3) j 0))) H := hP
                          have hD : va_D A (mw cI cB cS cZ b K S ck cu F (va_up (va_up (va_up X 1 (upd (X 1) j kind)) 2 (upd (X 2) j 0)) 3 (upd (X 3) j 0))) := hD
                          refine lv_iload hx hb d_Mod_define_170 (lv_at hl 0 rfl) ?_
                          exact ps_iret hx hb hr hlocks hK hP hD hS (Nat.le_of_ble_eq_true rfl) (Nat.le_of_ble_eq_true rfl) d_Mod_define_172 (ps_cy hcc (Or.inr ⟨j, hj, hjm, hjn, z, hz, ps_cn hmu ⟨rfl, by unfold mo_Xv; rw [if_pos c_20]; rfl⟩⟩))
                      · exact absurd (nI_pos' (by have h0 := hKb 0; have h1 := hKb 1; have h2 := hKb 2; have h3 := hKb 3; have h4 := hKb 4; have h5 := hKb 5; omega)) c_19
                    · exact absurd (nI_pos' (by have h0 := hKb 0; have h1 := hKb 1; have h2 := hKb 2; have h3 := hKb 3; have h4 := hKb 4; have h5 := hKb 5; omega)) c_18
                  · exact absurd c_17 (by decide)
            · exact absurd (nI_pos' (by have h0 := hKb 0; have h1 := hKb 1; have h2 := hKb 2; have h3 := hKb 3; have h4 := hKb 4; have h5 := hKb 5; omega)) c_8
          · subst hr_7
            refine lv_istore (lv' := [(6, .int (-1)), (0, .ref (b 0)), (1, .int d), (2, .int kk), (3, .int key), (4, .int kind), (5, .int number)]) hx hb d_Mod_define_36 hl (by decide) rfl (fun ls hl => ?_)
            refine lv_iload hx hb d_Mod_define_38 (lv_at hl 0 rfl) ?_
            refine lv_if_ge (tgt := 56) hx hb d_Mod_define_40 (by decide) (fun c_21 => ?_) (fun c_21 => ?_)
            · exact absurd c_21 (by decide)
            · refine lv_aload_n hx hb d_Mod_define_43 rfl (lv_at hl 1 rfl) ?_
              refine va_get (D := (dC, dI)) (ci := cMod) (v := .int (nI (K 4))) (C := R_Mod) (T := F_Mod) (N := 27) hx hb hts i_Mod hown hK hP 0 rfl rfl 16 (by decide) (hts _ tw_264) (fun _ h9 => h9) rfl d_Mod_define_44 ?_
              refine lv_sipush (v := nI 16384) hx hb d_Mod_define_47 (by decide) ?_
              refine lv_icmp_ne (tgt := 56) hx hb d_Mod_define_50 (by decide) (fun c_22 => ?_) (fun c_22 => ?_)
              · have c_22 : ¬ K 4 = 16384 := fun q => c_22 ((nI_eq (by have h0 := hKb 0; have h1 := hKb 1; have h2 := hKb 2; have h3 := hKb 3; have h4 := hKb 4; have h5 := hKb 5; omega) (by have h0 := hKb 0; have h1 := hKb 1; have h2 := hKb 2; have h3 := hKb 3; have h4 := hKb 4; have h5 := hKb 5; omega)).mpr q)
                refine lv_iload hx hb d_Mod_define_56 (lv_at hl 0 rfl) ?_
                refine lv_if_lt (tgt := 75) hx hb d_Mod_define_58 (by decide) (fun c_23 => ?_) (fun c_23 => ?_)
                · refine lv_iload hx hb d_Mod_define_75 (lv_at hl 0 rfl) ?_
                  refine lv_if_ge (tgt := 84) hx hb d_Mod_define_77 (by decide) (fun c_24 => ?_) (fun c_24 => ?_)
                  · exact absurd c_24 (by decide)
                  · refine lv_iconst (v := 1) hx hb d_Mod_define_80 (by decide) ?_
                    refine lv_goto (tgt := 85) hx hb d_Mod_define_81 (by decide) ?_
                    refine lv_istore (lv' := [(7, .int 1), (6, .int (-1)), (0, .ref (b 0)), (1, .int d), (2, .int kk), (3, .int key), (4, .int kind), (5, .int number)]) hx hb d_Mod_define_85 hl (by decide) rfl (fun ls hl => ?_)
                    refine lv_iload hx hb d_Mod_define_87 (lv_at hl 1 rfl) ?_
                    refine lv_if_ge (tgt := 134) hx hb d_Mod_define_89 (by decide) (fun c_25 => ?_) (fun c_25 => ?_)
                    · exact absurd c_25 (by decide)
                    · refine lv_aload_n hx hb d_Mod_define_92 rfl (lv_at hl 2 rfl) ?_
                      refine va_get (D := (dC, dI)) (ci := cMod) (v := .int (nI (K 4))) (C := R_Mod) (T := F_Mod) (N := 27) hx hb hts i_Mod hown hK hP 0 rfl rfl 16 (by decide) (hts _ tw_264) (fun _ h9 => h9) rfl d_Mod_define_93 ?_
                      refine lv_istore (lv' := [(6, .int (nI (K 4))), (7, .int 1), (0, .ref (b 0)), (1, .int d), (2, .int kk), (3, .int key), (4, .int kind), (5, .int number)]) hx hb d_Mod_define_96 hl (by decide) rfl (fun ls hl => ?_)
                      refine lv_aload_n hx hb d_Mod_define_98 rfl (lv_at hl 2 rfl) ?_
                      refine lv_dup hx hb d_Mod_define_99 rfl ?_
                      refine va_get (D := (dC, dI)) (ci := cMod) (v := .int (nI (K 4))) (C := R_Mod) (T := F_Mod) (N := 27) hx hb hts i_Mod hown hK hP 0 rfl rfl 16 (by decide) (hts _ tw_264) (fun _ h9 => h9) rfl d_Mod_define_100 ?_
                      refine lv_iconst (v := nI 1) hx hb d_Mod_define_103 (by decide) ?_
                      refine lv_iadd hx hb d_Mod_define_104 ?_
                      refine ps_top (z := nI (K 4 + 1)) (nI_add _ _) ?_
                      refine va_put (D := (dC, dI)) (ci := cMod) (v := .int (nI (K 4 + 1))) (ty := .int) (C := R_Mod) (T := F_Mod) (N := 27) hx hb hts i_Mod t_Mod t_Mod_ok n_Mod hown hK hP hD hS 0 rfl rfl 16 (by decide) (hts _ tw_264) (fun _ h9 => h9) rfl (by decide +kernel) rfl rfl (Nat.le_of_ble_eq_true rfl) d_Mod_define_105 (fun H locs hP hD hS => ?_)
                      have hP : va_P (dC, dI) classes (mw cI cB cS cZ b (va_up K 4 (K 4 + 1)) S ck cu F X) H := hP
                      have hD : va_D A (mw cI cB cS cZ b (va_up K 4 (K 4 + 1)) S ck cu F X) := hD
                      refine lv_aload_n hx hb d_Mod_define_108 rfl (lv_at hl 2 rfl) ?_
                      refine va_get (D := (dC, dI)) (ci := cMod) (v := .ref (b 7)) (C := R_Mod) (T := F_Mod) (N := 27) hx hb hts i_Mod hown hK hP 0 rfl rfl 10 (by decide) (hts _ tw_265) (fun _ h9 => h9) rfl d_Mod_define_109 ?_
                      refine lv_iload hx hb d_Mod_define_112 (lv_at hl 0 rfl) ?_
                      refine lv_iload_n hx hb d_Mod_define_114 rfl (lv_at hl 3 rfl) ?_
                      refine lv_i2s (v := d) hx hb d_Mod_define_115 (by rw [edx]; exact mo_s16 (by omega)) ?_
                      refine va_sast (f := F 7) hx hb hK hP hD hS 7 2 rfl htS (vp_in_nI (show K 4 < 16384 from by omega) (by decide)) d_Mod_define_116 (fun H locs hP hD hS => ?_)
                      rw [nI_clamp (show K 4 < 2 ^ 31 from by omega), (show vp_nar .short d = d by rw [edx]; exact mo_ns (by omega))] at hP hD
                      have hP : va_P (dC, dI) classes (mw cI cB cS cZ b (va_up K 4 (K 4 + 1)) S ck cu (va_up F 7 (upd (F 7) (K 4) d)) X) H := hP
                      have hD : va_D A (mw cI cB cS cZ b (va_up K 4 (K 4 + 1)) S ck cu (va_up F 7 (upd (F 7) (K 4) d)) X) := hD
                      refine lv_aload_n hx hb d_Mod_define_117 rfl (lv_at hl 2 rfl) ?_
                      refine va_get (D := (dC, dI)) (ci := cMod) (v := .ref (b 8)) (C := R_Mod) (T := F_Mod) (N := 27) hx hb hts i_Mod hown hK hP 0 rfl rfl 11 (by decide) (hts _ tw_266) (fun _ h9 => h9) rfl d_Mod_define_118 ?_
                      refine lv_iload hx hb d_Mod_define_121 (lv_at hl 0 rfl) ?_
                      refine lv_iload_n hx hb d_Mod_define_123 rfl (lv_at hl 4 rfl) ?_
                      refine lv_i2b (v := kk) hx hb d_Mod_define_124 (by rw [ekk]; exact mo_b8 (by omega)) ?_
                      refine va_bast (f := F 8) hx hb hK hP hD hS 8 1 rfl htB (vp_in_nI (show K 4 < 16384 from by omega) (by decide)) d_Mod_define_125 (fun H locs hP hD hS => ?_)
                      rw [nI_clamp (show K 4 < 2 ^ 31 from by omega), (show vp_nar .byte kk = kk by rw [ekk]; exact mo_nb (by omega))] at hP hD
                      have hP : va_P (dC, dI) classes (mw cI cB cS cZ b (va_up K 4 (K 4 + 1)) S ck cu (va_up (va_up F 7 (upd (F 7) (K 4) d)) 8 (upd (F 8) (K 4) kk)) X) H := hP
                      have hD : va_D A (mw cI cB cS cZ b (va_up K 4 (K 4 + 1)) S ck cu (va_up (va_up F 7 (upd (F 7) (K 4) d)) 8 (upd (F 8) (K 4) kk)) X) := hD
                      refine lv_aload_n hx hb d_Mod_define_126 rfl (lv_at hl 2 rfl) ?_
                      refine va_get (D := (dC, dI)) (ci := cMod) (v := .ref (b 9)) (C := R_Mod) (T := F_Mod) (N := 27) hx hb hts i_Mod hown hK hP 0 rfl rfl 12 (by decide) (hts _ tw_267) (fun _ h9 => h9) rfl d_Mod_define_127 ?_
                      refine lv_iload hx hb d_Mod_define_130 (lv_at hl 0 rfl) ?_
                      refine lv_iload_n hx hb d_Mod_define_132 rfl (lv_at hl 5 rfl) ?_
                      refine va_iast (f := F 9) hx hb hK hP hD hS 9 0 rfl ht (vp_in_nI (show K 4 < 16384 from by omega) (by decide)) d_Mod_define_133 (fun H locs hP hD hS => ?_)
                      rw [nI_clamp (show K 4 < 2 ^ 31 from by omega)] at hP hD
                      have hP : va_P (dC, dI) classes (mw cI cB cS cZ b (va_up K 4 (K 4 + 1)) S ck cu (va_up (va_up (va_up F 7 (upd (F 7) (K 4) d)) 8 (upd (F 8) (K 4) kk)) 9 (upd (F 9) (K 4) key)) X) H := hP
                      have hD : va_D A (mw cI cB cS cZ b (va_up K 4 (K 4 + 1)) S ck cu (va_up (va_up (va_up F 7 (upd (F 7) (K 4) d)) 8 (upd (F 8) (K 4) kk)) 9 (upd (F 9) (K 4) key)) X) := hD
                      refine lv_aload_n hx hb d_Mod_define_134 rfl (lv_at hl 2 rfl) ?_
                      refine va_get (D := (dC, dI)) (ci := cMod) (v := .ref (b 10)) (C := R_Mod) (T := F_Mod) (N := 27) hx hb hts i_Mod hown hK hP 0 rfl rfl 13 (by decide) (hts _ tw_273) (fun _ h9 => h9) rfl d_Mod_define_135 ?_
                      refine lv_iload hx hb d_Mod_define_138 (lv_at hl 0 rfl) ?_
                      refine lv_iload hx hb d_Mod_define_140 (lv_at hl 6 rfl) ?_
                      refine lv_i2b (v := kind) hx hb d_Mod_define_142 (by rw [ek]; exact mo_b8 (by omega)) ?_
                      refine va_bast (f := X 1) hx hb hK hP hD hS 10 1 rfl htB (vp_in_nI (show K 4 < 16384 from by omega) (by decide)) d_Mod_define_143 (fun H locs hP hD hS => ?_)
                      rw [nI_clamp (show K 4 < 2 ^ 31 from by omega), (show vp_nar .byte kind = kind by rw [ek]; exact mo_nb (by omega))] at hP hD
                      have hP : va_P (dC, dI) classes (mw cI cB cS cZ b (va_up K 4 (K 4 + 1)) S ck cu (va_up (va_up (va_up F 7 (upd (F 7) (K 4) d)) 8 (upd (F 8) (K 4) kk)) 9 (upd (F 9) (K 4) key)) (va_up X 1 (upd (X 1) (K 4) kind))) H := hP
                      have hD : va_D A (mw cI cB cS cZ b (va_up K 4 (K 4 + 1)) S ck cu (va_up (va_up (va_up F 7 (upd (F 7) (K 4) d)) 8 (upd (F 8) (K 4) kk)) 9 (upd (F 9) (K 4) key)) (va_up X 1 (upd (X 1) (K 4) kind))) := hD
                      refine lv_aload_n hx hb d_Mod_define_144 rfl (lv_at hl 2 rfl) ?_
                      refine va_get (D := (dC, dI)) (ci := cMod) (v := .ref (b 11)) (C := R_Mod) (T := F_Mod) (N := 27) hx hb hts i_Mod hown hK hP 0 rfl rfl 14 (by decide) (hts _ tw_274) (fun _ h9 => h9) rfl d_Mod_define_145 ?_
                      refine lv_iload hx hb d_Mod_define_148 (lv_at hl 0 rfl) ?_
                      refine lv_iload hx hb d_Mod_define_150 (lv_at hl 6 rfl) ?_
                      refine lv_if_ne (tgt := 159) hx hb d_Mod_define_152 (by decide) (fun c_26 => ?_) (fun c_26 => ?_)
                      · refine lv_iload hx hb d_Mod_define_159 (lv_at hl 7 rfl) ?_
                        refine va_iast (f := X 2) hx hb hK hP hD hS 11 0 rfl ht (vp_in_nI (show K 4 < 16384 from by omega) (by decide)) d_Mod_define_161 (fun H locs hP hD hS => ?_)
                        rw [nI_clamp (show K 4 < 2 ^ 31 from by omega)] at hP hD
                        have hP : va_P (dC, dI) classes (mw cI cB cS cZ b (va_up K 4 (K 4 + 1)) S ck cu (va_up (va_up (va_up F 7 (upd (F 7) (K 4) d)) 8 (upd (F 8) (K 4) kk)) 9 (upd (F 9) (K 4) key)) (va_up (va_up X 1 (upd (X 1) (K 4) kind)) 2 (upd (X 2) (K 4) number))) H := hP
                        have hD : va_D A (mw cI cB cS cZ b (va_up K 4 (K 4 + 1)) S ck cu (va_up (va_up (va_up F 7 (upd (F 7) (K 4) d)) 8 (upd (F 8) (K 4) kk)) 9 (upd (F 9) (K 4) key)) (va_up (va_up X 1 (upd (X 1) (K 4) kind)) 2 (upd (X 2) (K 4) number))) := hD
                        refine lv_aload_n hx hb d_Mod_define_162 rfl (lv_at hl 2 rfl) ?_
                        refine va_get (D := (dC, dI)) (ci := cMod) (v := .ref (b 12)) (C := R_Mod) (T := F_Mod) (N := 27) hx hb hts i_Mod hown hK hP 0 rfl rfl 15 (by decide) (hts _ tw_269) (fun _ h9 => h9) rfl d_Mod_define_163 ?_
                        refine lv_iload hx hb d_Mod_define_166 (lv_at hl 0 rfl) ?_
                        refine lv_iconst (v := 0) hx hb d_Mod_define_168 (by decide) ?_
                        refine va_zast (f := X 3) hx hb hK hP hD hS 12 3 rfl htZ (vp_in_nI (show K 4 < 16384 from by omega) (by decide)) d_Mod_define_169 (fun H locs hP hD hS => ?_)
                        rw [nI_clamp (show K 4 < 2 ^ 31 from by omega), (show vp_nar .boolean 0 = 0 by decide)] at hP hD
                        have hP : va_P (dC, dI) classes (mw cI cB cS cZ b (va_up K 4 (K 4 + 1)) S ck cu (va_up (va_up (va_up F 7 (upd (F 7) (K 4) d)) 8 (upd (F 8) (K 4) kk)) 9 (upd (F 9) (K 4) key)) (va_up (va_up (va_up X 1 (upd (X 1) (K 4) kind)) 2 (upd (X 2) (K 4) number)) 3 (upd (X 3) (K 4) 0))) H := hP
                        have hD : va_D A (mw cI cB cS cZ b (va_up K 4 (K 4 + 1)) S ck cu (va_up (va_up (va_up F 7 (upd (F 7) (K 4) d)) 8 (upd (F 8) (K 4) kk)) 9 (upd (F 9) (K 4) key)) (va_up (va_up (va_up X 1 (upd (X 1) (K 4) kind)) 2 (upd (X 2) (K 4) number)) 3 (upd (X 3) (K 4) 0))) := hD
                        refine lv_iload hx hb d_Mod_define_170 (lv_at hl 1 rfl) ?_
                        exact ps_iret hx hb hr hlocks hK hP hD hS (Nat.le_of_ble_eq_true rfl) (Nat.le_of_ble_eq_true rfl) d_Mod_define_172 (ps_cy hcc (Or.inl ⟨hnone, ps_cn (by omega) ⟨rfl, by unfold mo_Xv; rw [if_neg c_26]; rfl⟩⟩))
                      · refine lv_iconst (v := 0) hx hb d_Mod_define_155 (by decide) ?_
                        refine lv_goto (tgt := 161) hx hb d_Mod_define_156 (by decide) ?_
                        refine va_iast (f := X 2) hx hb hK hP hD hS 11 0 rfl ht (vp_in_nI (show K 4 < 16384 from by omega) (by decide)) d_Mod_define_161 (fun H locs hP hD hS => ?_)
                        rw [nI_clamp (show K 4 < 2 ^ 31 from by omega)] at hP hD
                        have hP : va_P (dC, dI) classes (mw cI cB cS cZ b (va_up K 4 (K 4 + 1)) S ck cu (va_up (va_up (va_up F 7 (upd (F 7) (K 4) d)) 8 (upd (F 8) (K 4) kk)) 9 (upd (F 9) (K 4) key)) (va_up (va_up X 1 (upd (X 1) (K 4) kind)) 2 (upd (X 2) (K 4) 0))) H := hP
                        have hD : va_D A (mw cI cB cS cZ b (va_up K 4 (K 4 + 1)) S ck cu (va_up (va_up (va_up F 7 (upd (F 7) (K 4) d)) 8 (upd (F 8) (K 4) kk)) 9 (upd (F 9) (K 4) key)) (va_up (va_up X 1 (upd (X 1) (K 4) kind)) 2 (upd (X 2) (K 4) 0))) := hD
                        refine lv_aload_n hx hb d_Mod_define_162 rfl (lv_at hl 2 rfl) ?_
                        refine va_get (D := (dC, dI)) (ci := cMod) (v := .ref (b 12)) (C := R_Mod) (T := F_Mod) (N := 27) hx hb hts i_Mod hown hK hP 0 rfl rfl 15 (by decide) (hts _ tw_269) (fun _ h9 => h9) rfl d_Mod_define_163 ?_
                        refine lv_iload hx hb d_Mod_define_166 (lv_at hl 0 rfl) ?_
                        refine lv_iconst (v := 0) hx hb d_Mod_define_168 (by decide) ?_
                        refine va_zast (f := X 3) hx hb hK hP hD hS 12 3 rfl htZ (vp_in_nI (show K 4 < 16384 from by omega) (by decide)) d_Mod_define_169 (fun H locs hP hD hS => ?_)
                        rw [nI_clamp (show K 4 < 2 ^ 31 from by omega), (show vp_nar .boolean 0 = 0 by decide)] at hP hD
                        have hP : va_P (dC, dI) classes (mw cI cB cS cZ b (va_up K 4 (K 4 + 1)) S ck cu (va_up (va_up (va_up F 7 (upd (F 7) (K 4) d)) 8 (upd (F 8) (K 4) kk)) 9 (upd (F 9) (K 4) key)) (va_up (va_up (va_up X 1 (upd (X 1) (K 4) kind)) 2 (upd (X 2) (K 4) 0)) 3 (upd (X 3) (K 4) 0))) H := hP
                        have hD : va_D A (mw cI cB cS cZ b (va_up K 4 (K 4 + 1)) S ck cu (va_up (va_up (va_up F 7 (upd (F 7) (K 4) d)) 8 (upd (F 8) (K 4) kk)) 9 (upd (F 9) (K 4) key)) (va_up (va_up (va_up X 1 (upd (X 1) (K 4) kind)) 2 (upd (X 2) (K 4) 0)) 3 (upd (X 3) (K 4) 0))) := hD
                        refine lv_iload hx hb d_Mod_define_170 (lv_at hl 1 rfl) ?_
                        exact ps_iret hx hb hr hlocks hK hP hD hS (Nat.le_of_ble_eq_true rfl) (Nat.le_of_ble_eq_true rfl) d_Mod_define_172 (ps_cy hcc (Or.inl ⟨hnone, ps_cn (by omega) ⟨rfl, by unfold mo_Xv; rw [if_pos c_26]; rfl⟩⟩))
                · exact absurd (by decide) c_23
              · have c_22 : K 4 = 16384 := (nI_eq (by have h0 := hKb 0; have h1 := hKb 1; have h2 := hKb 2; have h3 := hKb 3; have h4 := hKb 4; have h5 := hKb 5; omega) (by have h0 := hKb 0; have h1 := hKb 1; have h2 := hKb 2; have h3 := hKb 3; have h4 := hKb 4; have h5 := hKb 5; omega)).mp c_22
                refine lv_bipush (v := (-3)) hx hb d_Mod_define_53 (by decide) ?_
                exact ps_iret hx hb hr hlocks hK hP hD hS (Nat.le_of_ble_eq_true rfl) (Nat.le_of_ble_eq_true rfl) d_Mod_define_55 (ps_cy hcc (Or.inl ⟨hnone, ps_cy (by omega) ⟨rfl, rfl⟩⟩))
        · refine lv_iconst (v := (-1)) hx hb d_Mod_define_27 (by decide) ?_
          exact ps_iret hx hb hr hlocks hK hP hD hS (Nat.le_of_ble_eq_true rfl) (Nat.le_of_ble_eq_true rfl) d_Mod_define_28 (ps_cn (fun q => c_6 q.2.2) ⟨rfl, rfl⟩)
