theorem tw_289 : (.fieldLink "PageStoreModel" 88 "PageStoreModel" "saves" "I" : Cond) ∈ ps_tbl := ps_t2 180 rfl rfl
theorem tw_290 : (.fieldLink "PageStoreModel" 54 "PageStoreModel" "begins" "[I" : Cond) ∈ ps_tbl := ps_t2 179 rfl rfl
theorem tw_291 : (.fieldLink "PageStoreModel" 91 "PageStoreModel" "size" "I" : Cond) ∈ ps_tbl := ps_t2 185 rfl rfl
theorem tw_292 : (.fieldLink "PageStoreModel" 51 "PageStoreModel" "counts" "[I" : Cond) ∈ ps_tbl := ps_t2 178 rfl rfl
theorem tw_293 : (.methodLink "PageStoreModel" 128 ⟨"PageStoreModel", "now", "(I)I"⟩ : Cond) ∈ ps_tbl := ps_t3 117 rfl rfl
theorem tw_294 : (.instanceMethod ⟨"PageStoreModel", "now", "(I)I"⟩ : Cond) ∈ ps_tbl := ps_t3 119 rfl rfl
theorem tw_295 : (.selects "PageStoreModel" ⟨"PageStoreModel", "now", "(I)I"⟩ ⟨"PageStoreModel", "now", "(I)I"⟩ : Cond) ∈ ps_tbl := ps_ts (y := ⟨"PageStoreModel", "now", "(I)I"⟩) (n := 27) 23 rfl rfl
theorem tw_296 : (.code ⟨"PageStoreModel", "now", "(I)I"⟩ prog_8_method_29_code 2 (some .int) : Cond) ∈ ps_tbl := ps_t3 120 rfl rfl
theorem k_Mod_now : ps_cdV ps_tbl y_Mod_now prog_8_method_29_code 2 (some .int) := ⟨tw_294, tw_295, tw_256, tw_296⟩
theorem ps_le0 {x : Int32} (h1 : ¬ x < 0) (h2 : x ≤ 0) : x = 0 := by
  obtain ⟨j, hj, rfl⟩ := nI_of h1
  have h3 : nI j ≤ nI 0 := h2
  have h4 := (nI_leI hj (by decide)).mp h3
  rw [show j = 0 by omega]
  exact nI_0
theorem mo_not {k w r' : Int32} {A B : Prop} {S : Nat} (h : k < 0) : ps_c (w < 0 ∨ nI 6 ≤ w) ((-1 : Int32) = -1) (ps_c (k = 0) A (ps_c ((nI 1 ≤ k ∧ k ≤ nI S) ∧ ¬ w = r') B ((-1 : Int32) = -1))) := by
  by_cases hw : w < 0 ∨ nI 6 ≤ w
  · exact ps_cy hw rfl
  · refine ps_cn hw (ps_cn (fun q => by rw [q] at h; exact absurd h (by decide)) (ps_cn (fun q => ?_) rfl))
    have h1 := q.1.1
    rw [Int32.le_iff_toInt_le] at h1
    rw [Int32.lt_iff_toInt_lt] at h
    have e1 : (nI 1).toInt = 1 := by decide
    have e0 : (0 : Int32).toInt = 0 := by decide
    omega
theorem mo_not2 {k w r' : Int32} {A B : Prop} {S k0 : Nat} (h : S < k0) (h0 : k = 0 ↔ k0 = 0) (h1 : (nI 1 ≤ k ∧ k ≤ nI S) ↔ (1 ≤ k0 ∧ k0 ≤ S)) : ps_c (w < 0 ∨ nI 6 ≤ w) ((-1 : Int32) = -1) (ps_c (k = 0) A (ps_c ((nI 1 ≤ k ∧ k ≤ nI S) ∧ ¬ w = r') B ((-1 : Int32) = -1))) := by
  by_cases hw : w < 0 ∨ nI 6 ≤ w
  · exact ps_cy hw rfl
  · exact ps_cn hw (ps_cn (fun q => absurd (h0.mp q) (by omega)) (ps_cn (fun q => absurd (h1.mp q.1) (by omega)) rfl))

set_option maxHeartbeats 4000000 in
set_option maxRecDepth 100000 in
/-- PageStoreModel.next -/
theorem m_next (l : Launch) (dC : Nat → ClassId) (dI : Nat → Nat → Nat) (cI : ClassId) (tys : List (ClassId × FieldType)) (ht : tys[0]? = some (cI, FieldType.int)) (cB cS cZ : ClassId) (htB : tys[1]? = some (cB, FieldType.byte)) (htS : tys[2]? = some (cS, FieldType.short)) (htZ : tys[3]? = some (cZ, FieldType.boolean)) (b K : Nat → Nat) (S : Nat) (ck cu : Int32) (F X : Nat → Nat → Int32) (hKb : ∀ j, K j ≤ 65536) (hSb : S ≤ 15) (d kk key : Int32) (hk4 : K 4 ≤ 16384) : ps_mI classes l y_Mod_next w_Mod_next ({ frames := 1, cells := 0, slots := 0, locals := 24 }) (dC, dI) tys [.ref (b 0), .int d, .int kk, .int key] (mw cI cB cS cZ b K S ck cu F X) (fun r u => ps_c ((nI 1 ≤ d ∧ d ≤ nI (K 3)) ∧ (nI 0 ≤ kk ∧ kk ≤ nI 15)) (ps_c (kk = 0) ((∃ p0 : Nat, 0 ≤ p0 ∧ p0 < K 4 ∧ (fun j => F 7 j = d ∧ X 3 j = 0) p0 ∧ ps_not (fun j => F 7 j = d ∧ X 3 j = 0) (0) p0 ∧ r = 1 ∧ u = mw cI cB cS cZ b K S (F 8 p0) (F 9 p0) F X) ∨ (ps_not (fun j => F 7 j = d ∧ X 3 j = 0) (0) (K 4) ∧ r = 0 ∧ u = mw cI cB cS cZ b K S 0 0 F X)) ((ps_not (fun j => F 9 j = key ∧ F 8 j = kk ∧ F 7 j = d) 0 (K 4) ∧ r = -2 ∧ u = mw cI cB cS cZ b K S ck cu F X) ∨ (∃ j : Nat, j < K 4 ∧ (fun j => F 9 j = key ∧ F 8 j = kk ∧ F 7 j = d) j ∧ ps_not (fun j => F 9 j = key ∧ F 8 j = kk ∧ F 7 j = d) 0 j ∧ ((∃ p0 : Nat, j + 1 ≤ p0 ∧ p0 < K 4 ∧ (fun j => F 7 j = d ∧ X 3 j = 0) p0 ∧ ps_not (fun j => F 7 j = d ∧ X 3 j = 0) (j + 1) p0 ∧ r = 1 ∧ u = mw cI cB cS cZ b K S (F 8 p0) (F 9 p0) F X) ∨ (ps_not (fun j => F 7 j = d ∧ X 3 j = 0) (j + 1) (K 4) ∧ r = 0 ∧ u = mw cI cB cS cZ b K S 0 0 F X))))) (r = -1 ∧ u = mw cI cB cS cZ b K S ck cu F X)) := by
  refine ps_mI_of (by decide) rfl (Nat.le_of_ble_eq_true rfl) ?_
  intro p e s m below meth c A ls C0 hA hK hP hD hS hl
  obtain ⟨hx, hb, hr, hml, hts, hown, hlocks, hin⟩ := C0
  have hl : lv_has ls 5 [(0, .ref (b 0)), (1, .int d), (2, .int kk), (3, .int key)] := hl
  have hP : va_P (dC, dI) classes (mw cI cB cS cZ b K S ck cu F X) s.heap := hP
  have hD : va_D A (mw cI cB cS cZ b K S ck cu F X) := hD
  refine lv_aload_n hx hb d_Mod_next_0 rfl (lv_at hl 0 rfl) ?_
  refine lv_iload_n hx hb d_Mod_next_1 rfl (lv_at hl 1 rfl) ?_
  refine ps_readI (wc := (mw cI cB cS cZ b K S ck cu F X)) hP hD hS hA [0, 1, 2, 3, 4, 5, 6, 7, 8, 9, 10, 11, 12, 13, 14, 15, 16, 17, 18] rfl (fun _ _ h => h.1) (ps_runVI ⟨hx, hb, hml, hown, hts⟩ (m_isDic l dC dI cI tys ht cB cS cZ htB htS htZ b K S ck cu F X hKb hSb d) (ps_cwV ps_gd 1 hts tw_270 k_Mod_isDictionary e_Mod_isDictionary ⟨Nat.le_of_ble_eq_true rfl, Nat.le_of_ble_eq_true rfl⟩) hK hP hD [0, 1, 2, 3, 4, 5, 6, 7, 8, 9, 10, 11, 12, 13, 14, 15, 16, 17, 18] (by decide) rfl 0 cMod rfl rfl rfl hl.1 rfl (Nat.le_of_ble_eq_true rfl) d_Mod_next_2 ⟨Nat.zero_le _, Nat.zero_le _⟩) (fun r_1 H locs hr_1 hP hS => ?_)
  obtain ⟨-, hr_1⟩ := hr_1
  subst hr_1
  refine lv_if_eq (tgt := 18) hx hb d_Mod_next_5 (by decide) (fun c_2 => ?_) (fun c_2 => ?_)
  · have c_2 := ps_ite0 c_2
    refine lv_iconst (v := (-1)) hx hb d_Mod_next_18 (by decide) ?_
    exact ps_iret hx hb hr hlocks hK hP hD hS (Nat.le_of_ble_eq_true rfl) (Nat.le_of_ble_eq_true rfl) d_Mod_next_19 (ps_cn (fun q => c_2 q.1) ⟨rfl, rfl⟩)
  · have c_2 := ps_ite1 c_2
    refine lv_iload_n hx hb d_Mod_next_8 rfl (lv_at hl 2 rfl) ?_
    refine lv_if_lt (tgt := 18) hx hb d_Mod_next_9 (by decide) (fun c_3 => ?_) (fun c_3 => ?_)
    · refine lv_iconst (v := (-1)) hx hb d_Mod_next_18 (by decide) ?_
      exact ps_iret hx hb hr hlocks hK hP hD hS (Nat.le_of_ble_eq_true rfl) (Nat.le_of_ble_eq_true rfl) d_Mod_next_19 (ps_cn (fun q => k2_nle (show kk < nI 0 from c_3) q.2.1) ⟨rfl, rfl⟩)
    · refine lv_iload_n hx hb d_Mod_next_12 rfl (lv_at hl 2 rfl) ?_
      refine lv_bipush (v := nI 15) hx hb d_Mod_next_13 (by decide) ?_
      refine lv_icmp_le (tgt := 20) hx hb d_Mod_next_15 (by decide) (fun c_4 => ?_) (fun c_4 => ?_)
      · refine lv_iload_n hx hb d_Mod_next_20 rfl (lv_at hl 2 rfl) ?_
        refine lv_if_ne (tgt := 28) hx hb d_Mod_next_21 (by decide) (fun c_5 => ?_) (fun c_5 => ?_)
        · refine lv_aload_n hx hb d_Mod_next_28 rfl (lv_at hl 0 rfl) ?_
          refine lv_iload_n hx hb d_Mod_next_29 rfl (lv_at hl 1 rfl) ?_
          refine lv_iload_n hx hb d_Mod_next_30 rfl (lv_at hl 2 rfl) ?_
          refine lv_iload_n hx hb d_Mod_next_31 rfl (lv_at hl 3 rfl) ?_
          refine ps_readI (wc := (mw cI cB cS cZ b K S ck cu F X)) hP hD hS hA [0, 1, 2, 3, 4, 5, 6, 7, 8, 9, 10, 11, 12, 13, 14, 15, 16, 17, 18] rfl (fun _ _ h => h.1) (ps_runVI ⟨hx, hb, hml, hown, hts⟩ (m_key l dC dI cI tys ht cB cS cZ htB htS htZ b K S ck cu F X hKb hSb d kk key hk4) (ps_cwV ps_gd 3 hts tw_268 k_Mod_key e_Mod_key ⟨Nat.le_of_ble_eq_true rfl, Nat.le_of_ble_eq_true rfl⟩) hK hP hD [0, 1, 2, 3, 4, 5, 6, 7, 8, 9, 10, 11, 12, 13, 14, 15, 16, 17, 18] (by decide) rfl 0 cMod rfl rfl rfl hl.1 rfl (Nat.le_of_ble_eq_true rfl) d_Mod_next_32 ⟨Nat.zero_le _, Nat.zero_le _⟩) (fun r_6 H locs hr_6 hP hS => ?_)
          obtain ⟨-, hr_6⟩ := hr_6
          rcases hr_6 with ⟨j, -, hj, hjm, hjn, hr_6⟩ | ⟨hnone, hr_6⟩
          · subst hr_6
            have hj31 : j < 2 ^ 31 := by have b4 := hKb 4; omega
            refine lv_istore (lv' := [(4, .int (nI j)), (0, .ref (b 0)), (1, .int d), (2, .int kk), (3, .int key)]) hx hb d_Mod_next_35 hl (by decide) rfl (fun ls hl => ?_)
            refine lv_iload_n hx hb d_Mod_next_37 rfl (lv_at hl 3 rfl) ?_
            refine lv_if_le (tgt := 49) hx hb d_Mod_next_38 (by decide) (fun c_7 => ?_) (fun c_7 => ?_)
            · exact absurd (ps_le0 c_3 c_7) c_5
            · refine lv_iload hx hb d_Mod_next_41 (lv_at hl 0 rfl) ?_
              refine lv_if_ge (tgt := 49) hx hb d_Mod_next_43 (by decide) (fun c_8 => ?_) (fun c_8 => ?_)
              · refine lv_iinc (v := nI (j + 1)) (lv' := [(4, .int (nI (j + 1))), (0, .ref (b 0)), (1, .int d), (2, .int kk), (3, .int key)]) hx hb d_Mod_next_49 hl (k := 0) rfl (nI_1 _) (by decide) rfl (fun ls hl => ?_)
                refine ps_loop (α := Nat) (fun i => 0) (fun i => 0) (fun i => K 4 - i) (fun i H locs ls => lv_has ls 5 [(4, .int (nI i)), (0, .ref (b 0)), (1, .int d), (2, .int kk), (3, .int key)] ∧ va_P (dC, dI) classes (mw cI cB cS cZ b K S ck cu F X) H ∧ va_D A (mw cI cB cS cZ b K S ck cu F X) ∧ va_S A s.heap H locs ∧ j + 1 ≤ i ∧ i < 2 ^ 31 ∧ ps_not (fun j => F 7 j = d ∧ X 3 j = 0) (j + 1) i) ?_ (j + 1) _ _ ls ⟨lv_sub hl [0, 1, 2, 3, 4] rfl, hP, hD, hS, Nat.le_refl _, by have b4 := hKb 4; omega, ps_not0⟩
                intro i H locs ls hI ih
                obtain ⟨hl, hP, hD, hS, hfi, hi31, hno⟩ := hI
                refine lv_iload hx hb d_Mod_next_52 (lv_at hl 0 rfl) ?_
                refine lv_aload_n hx hb d_Mod_next_54 rfl (lv_at hl 1 rfl) ?_
                refine va_get (D := (dC, dI)) (ci := cMod) (v := .int (nI (K 4))) (C := R_Mod) (T := F_Mod) (N := 27) hx hb hts i_Mod hown hK hP 0 rfl rfl 16 (by decide) (hts _ tw_264) (fun _ h9 => h9) rfl d_Mod_next_55 ?_
                refine lv_icmp_ge (tgt := 88) hx hb d_Mod_next_58 (by decide) (fun c_9 => ?_) (fun c_9 => ?_)
                · have c_9 : K 4 ≤ i := (nI_leI (by have h0 := hKb 0; have h1 := hKb 1; have h2 := hKb 2; have h3 := hKb 3; have h4 := hKb 4; have h5 := hKb 5; omega) (by have h0 := hKb 0; have h1 := hKb 1; have h2 := hKb 2; have h3 := hKb 3; have h4 := hKb 4; have h5 := hKb 5; omega)).mp c_9
                  refine lv_aload_n hx hb d_Mod_next_88 rfl (lv_at hl 1 rfl) ?_
                  refine lv_iload hx hb d_Mod_next_89 (lv_at hl 0 rfl) ?_
                  refine lv_aload_n hx hb d_Mod_next_91 rfl (lv_at hl 1 rfl) ?_
                  refine va_get (D := (dC, dI)) (ci := cMod) (v := .int (nI (K 4))) (C := R_Mod) (T := F_Mod) (N := 27) hx hb hts i_Mod hown hK hP 0 rfl rfl 16 (by decide) (hts _ tw_264) (fun _ h9 => h9) rfl d_Mod_next_92 ?_
                  refine lv_icmp_ge (tgt := 108) hx hb d_Mod_next_95 (by decide) (fun c_10 => ?_) (fun c_10 => ?_)
                  · have c_10 : K 4 ≤ i := (nI_leI (by have h0 := hKb 0; have h1 := hKb 1; have h2 := hKb 2; have h3 := hKb 3; have h4 := hKb 4; have h5 := hKb 5; omega) (by have h0 := hKb 0; have h1 := hKb 1; have h2 := hKb 2; have h3 := hKb 3; have h4 := hKb 4; have h5 := hKb 5; omega)).mp c_10
                    refine lv_iconst (v := 0) hx hb d_Mod_next_108 (by decide) ?_
                    refine va_put (D := (dC, dI)) (ci := cMod) (v := .int 0) (ty := .int) (C := R_Mod) (T := F_Mod) (N := 27) hx hb hts i_Mod t_Mod t_Mod_ok n_Mod hown hK hP hD hS 0 rfl rfl 25 (by decide) (hts _ tw_262) (fun _ h9 => h9) rfl (by decide +kernel) rfl rfl (Nat.le_of_ble_eq_true rfl) d_Mod_next_109 (fun H locs hP hD hS => ?_)
                    have hP : va_P (dC, dI) classes (mw cI cB cS cZ b K S 0 cu F X) H := hP
                    have hD : va_D A (mw cI cB cS cZ b K S 0 cu F X) := hD
                    refine lv_aload_n hx hb d_Mod_next_112 rfl (lv_at hl 1 rfl) ?_
                    refine lv_iload hx hb d_Mod_next_113 (lv_at hl 0 rfl) ?_
                    refine lv_aload_n hx hb d_Mod_next_115 rfl (lv_at hl 1 rfl) ?_
                    refine va_get (D := (dC, dI)) (ci := cMod) (v := .int (nI (K 4))) (C := R_Mod) (T := F_Mod) (N := 27) hx hb hts i_Mod hown hK hP 0 rfl rfl 16 (by decide) (hts _ tw_264) (fun _ h9 => h9) rfl d_Mod_next_116 ?_
                    refine lv_icmp_ge (tgt := 132) hx hb d_Mod_next_119 (by decide) (fun c_11 => ?_) (fun c_11 => ?_)
                    · have c_11 : K 4 ≤ i := (nI_leI (by have h0 := hKb 0; have h1 := hKb 1; have h2 := hKb 2; have h3 := hKb 3; have h4 := hKb 4; have h5 := hKb 5; omega) (by have h0 := hKb 0; have h1 := hKb 1; have h2 := hKb 2; have h3 := hKb 3; have h4 := hKb 4; have h5 := hKb 5; omega)).mp c_11
                      refine lv_iconst (v := 0) hx hb d_Mod_next_132 (by decide) ?_
                      refine va_put (D := (dC, dI)) (ci := cMod) (v := .int 0) (ty := .int) (C := R_Mod) (T := F_Mod) (N := 27) hx hb hts i_Mod t_Mod t_Mod_ok n_Mod hown hK hP hD hS 0 rfl rfl 26 (by decide) (hts _ tw_263) (fun _ h9 => h9) rfl (by decide +kernel) rfl rfl (Nat.le_of_ble_eq_true rfl) d_Mod_next_133 (fun H locs hP hD hS => ?_)
                      have hP : va_P (dC, dI) classes (mw cI cB cS cZ b K S 0 0 F X) H := hP
                      have hD : va_D A (mw cI cB cS cZ b K S 0 0 F X) := hD
                      refine lv_iload hx hb d_Mod_next_136 (lv_at hl 0 rfl) ?_
                      refine lv_aload_n hx hb d_Mod_next_138 rfl (lv_at hl 1 rfl) ?_
                      refine va_get (D := (dC, dI)) (ci := cMod) (v := .int (nI (K 4))) (C := R_Mod) (T := F_Mod) (N := 27) hx hb hts i_Mod hown hK hP 0 rfl rfl 16 (by decide) (hts _ tw_264) (fun _ h9 => h9) rfl d_Mod_next_139 ?_
                      refine lv_icmp_ge (tgt := 149) hx hb d_Mod_next_142 (by decide) (fun c_12 => ?_) (fun c_12 => ?_)
                      · have c_12 : K 4 ≤ i := (nI_leI (by have h0 := hKb 0; have h1 := hKb 1; have h2 := hKb 2; have h3 := hKb 3; have h4 := hKb 4; have h5 := hKb 5; omega) (by have h0 := hKb 0; have h1 := hKb 1; have h2 := hKb 2; have h3 := hKb 3; have h4 := hKb 4; have h5 := hKb 5; omega)).mp c_12
                        refine lv_iconst (v := 0) hx hb d_Mod_next_149 (by decide) ?_
                        exact ps_iret hx hb hr hlocks hK hP hD hS (Nat.le_of_ble_eq_true rfl) (Nat.le_of_ble_eq_true rfl) d_Mod_next_150 (ps_cy ⟨c_2, k2_le (show ¬ kk < nI 0 from c_3), c_4⟩ (ps_cn c_5 (Or.inr ⟨j, hj, hjm, hjn, Or.inr ⟨fun z h1 h2 => hno z h1 (by omega), rfl, rfl⟩⟩)))
                      · have c_12 : ¬ K 4 ≤ i := fun q => c_12 ((nI_leI (by have h0 := hKb 0; have h1 := hKb 1; have h2 := hKb 2; have h3 := hKb 3; have h4 := hKb 4; have h5 := hKb 5; omega) (by have h0 := hKb 0; have h1 := hKb 1; have h2 := hKb 2; have h3 := hKb 3; have h4 := hKb 4; have h5 := hKb 5; omega)).mpr q)
                        exact absurd (by omega) c_12
                    · have c_11 : ¬ K 4 ≤ i := fun q => c_11 ((nI_leI (by have h0 := hKb 0; have h1 := hKb 1; have h2 := hKb 2; have h3 := hKb 3; have h4 := hKb 4; have h5 := hKb 5; omega) (by have h0 := hKb 0; have h1 := hKb 1; have h2 := hKb 2; have h3 := hKb 3; have h4 := hKb 4; have h5 := hKb 5; omega)).mpr q)
                      exact absurd (by omega) c_11
                  · have c_10 : ¬ K 4 ≤ i := fun q => c_10 ((nI_leI (by have h0 := hKb 0; have h1 := hKb 1; have h2 := hKb 2; have h3 := hKb 3; have h4 := hKb 4; have h5 := hKb 5; omega) (by have h0 := hKb 0; have h1 := hKb 1; have h2 := hKb 2; have h3 := hKb 3; have h4 := hKb 4; have h5 := hKb 5; omega)).mpr q)
                    exact absurd (by omega) c_10
                · have c_9 : ¬ K 4 ≤ i := fun q => c_9 ((nI_leI (by have h0 := hKb 0; have h1 := hKb 1; have h2 := hKb 2; have h3 := hKb 3; have h4 := hKb 4; have h5 := hKb 5; omega) (by have h0 := hKb 0; have h1 := hKb 1; have h2 := hKb 2; have h3 := hKb 3; have h4 := hKb 4; have h5 := hKb 5; omega)).mpr q)
                  refine lv_aload_n hx hb d_Mod_next_61 rfl (lv_at hl 1 rfl) ?_
                  refine va_get (D := (dC, dI)) (ci := cMod) (v := .ref (b 7)) (C := R_Mod) (T := F_Mod) (N := 27) hx hb hts i_Mod hown hK hP 0 rfl rfl 10 (by decide) (hts _ tw_265) (fun _ h9 => h9) rfl d_Mod_next_62 ?_
                  refine lv_iload hx hb d_Mod_next_65 (lv_at hl 0 rfl) ?_
                  refine va_sald (f := F 7) hx hb hK hP 7 2 rfl htS (vp_in_nI (show i < 16384 from by omega) (by decide)) d_Mod_next_67 ?_
                  refine ps_top (z := (F 7) i) (by rw [nI_clamp (show i < 2 ^ 31 from by omega)]) ?_
                  refine lv_iload_n hx hb d_Mod_next_68 rfl (lv_at hl 2 rfl) ?_
                  refine lv_icmp_ne (tgt := 82) hx hb d_Mod_next_69 (by decide) (fun c_13 => ?_) (fun c_13 => ?_)
                  · refine lv_iinc (v := nI (i + 1)) (lv' := [(4, .int (nI (i + 1))), (0, .ref (b 0)), (1, .int d), (2, .int kk), (3, .int key)]) hx hb d_Mod_next_82 hl (k := 0) rfl (nI_1 _) (by decide) rfl (fun ls hl => ?_)
                    refine lv_goto (tgt := 52) hx hb d_Mod_next_85 (by decide) ?_
                    exact ih (i + 1) _ _ ls (by omega) ⟨lv_sub hl [0, 1, 2, 3, 4] rfl, hP, hD, hS, by omega, by omega, ps_nots hno (fun q => c_13 q.1)⟩
                  · refine lv_aload_n hx hb d_Mod_next_72 rfl (lv_at hl 1 rfl) ?_
                    refine va_get (D := (dC, dI)) (ci := cMod) (v := .ref (b 12)) (C := R_Mod) (T := F_Mod) (N := 27) hx hb hts i_Mod hown hK hP 0 rfl rfl 15 (by decide) (hts _ tw_269) (fun _ h9 => h9) rfl d_Mod_next_73 ?_
                    refine lv_iload hx hb d_Mod_next_76 (lv_at hl 0 rfl) ?_
                    refine va_zald (f := X 3) hx hb hK hP 12 3 rfl htZ (vp_in_nI (show i < 16384 from by omega) (by decide)) d_Mod_next_78 ?_
                    refine ps_top (z := (X 3) i) (by rw [nI_clamp (show i < 2 ^ 31 from by omega)]) ?_
                    refine lv_if_eq (tgt := 88) hx hb d_Mod_next_79 (by decide) (fun c_14 => ?_) (fun c_14 => ?_)
                    · refine lv_aload_n hx hb d_Mod_next_88 rfl (lv_at hl 1 rfl) ?_
                      refine lv_iload hx hb d_Mod_next_89 (lv_at hl 0 rfl) ?_
                      refine lv_aload_n hx hb d_Mod_next_91 rfl (lv_at hl 1 rfl) ?_
                      refine va_get (D := (dC, dI)) (ci := cMod) (v := .int (nI (K 4))) (C := R_Mod) (T := F_Mod) (N := 27) hx hb hts i_Mod hown hK hP 0 rfl rfl 16 (by decide) (hts _ tw_264) (fun _ h9 => h9) rfl d_Mod_next_92 ?_
                      refine lv_icmp_ge (tgt := 108) hx hb d_Mod_next_95 (by decide) (fun c_15 => ?_) (fun c_15 => ?_)
                      · have c_15 : K 4 ≤ i := (nI_leI (by have h0 := hKb 0; have h1 := hKb 1; have h2 := hKb 2; have h3 := hKb 3; have h4 := hKb 4; have h5 := hKb 5; omega) (by have h0 := hKb 0; have h1 := hKb 1; have h2 := hKb 2; have h3 := hKb 3; have h4 := hKb 4; have h5 := hKb 5; omega)).mp c_15
                        exact absurd c_15 (by omega)
                      · have c_15 : ¬ K 4 ≤ i := fun q => c_15 ((nI_leI (by have h0 := hKb 0; have h1 := hKb 1; have h2 := hKb 2; have h3 := hKb 3; have h4 := hKb 4; have h5 := hKb 5; omega) (by have h0 := hKb 0; have h1 := hKb 1; have h2 := hKb 2; have h3 := hKb 3; have h4 := hKb 4; have h5 := hKb 5; omega)).mpr q)
                        refine lv_aload_n hx hb d_Mod_next_98 rfl (lv_at hl 1 rfl) ?_
                        refine va_get (D := (dC, dI)) (ci := cMod) (v := .ref (b 8)) (C := R_Mod) (T := F_Mod) (N := 27) hx hb hts i_Mod hown hK hP 0 rfl rfl 11 (by decide) (hts _ tw_266) (fun _ h9 => h9) rfl d_Mod_next_99 ?_
                        refine lv_iload hx hb d_Mod_next_102 (lv_at hl 0 rfl) ?_
                        refine va_bald (f := F 8) hx hb hK hP 8 1 rfl htB (vp_in_nI (show i < 16384 from by omega) (by decide)) d_Mod_next_104 ?_
                        refine ps_top (z := (F 8) i) (by rw [nI_clamp (show i < 2 ^ 31 from by omega)]) ?_
                        refine lv_goto (tgt := 109) hx hb d_Mod_next_105 (by decide) ?_
                        refine va_put (D := (dC, dI)) (ci := cMod) (v := .int ((F 8) i)) (ty := .int) (C := R_Mod) (T := F_Mod) (N := 27) hx hb hts i_Mod t_Mod t_Mod_ok n_Mod hown hK hP hD hS 0 rfl rfl 25 (by decide) (hts _ tw_262) (fun _ h9 => h9) rfl (by decide +kernel) rfl rfl (Nat.le_of_ble_eq_true rfl) d_Mod_next_109 (fun H locs hP hD hS => ?_)
                        have hP : va_P (dC, dI) classes (mw cI cB cS cZ b K S ((F 8) i) cu F X) H := hP
                        have hD : va_D A (mw cI cB cS cZ b K S ((F 8) i) cu F X) := hD
                        refine lv_aload_n hx hb d_Mod_next_112 rfl (lv_at hl 1 rfl) ?_
                        refine lv_iload hx hb d_Mod_next_113 (lv_at hl 0 rfl) ?_
                        refine lv_aload_n hx hb d_Mod_next_115 rfl (lv_at hl 1 rfl) ?_
                        refine va_get (D := (dC, dI)) (ci := cMod) (v := .int (nI (K 4))) (C := R_Mod) (T := F_Mod) (N := 27) hx hb hts i_Mod hown hK hP 0 rfl rfl 16 (by decide) (hts _ tw_264) (fun _ h9 => h9) rfl d_Mod_next_116 ?_
                        refine lv_icmp_ge (tgt := 132) hx hb d_Mod_next_119 (by decide) (fun c_16 => ?_) (fun c_16 => ?_)
                        · have c_16 : K 4 ≤ i := (nI_leI (by have h0 := hKb 0; have h1 := hKb 1; have h2 := hKb 2; have h3 := hKb 3; have h4 := hKb 4; have h5 := hKb 5; omega) (by have h0 := hKb 0; have h1 := hKb 1; have h2 := hKb 2; have h3 := hKb 3; have h4 := hKb 4; have h5 := hKb 5; omega)).mp c_16
                          exact absurd c_16 (by omega)
                        · have c_16 : ¬ K 4 ≤ i := fun q => c_16 ((nI_leI (by have h0 := hKb 0; have h1 := hKb 1; have h2 := hKb 2; have h3 := hKb 3; have h4 := hKb 4; have h5 := hKb 5; omega) (by have h0 := hKb 0; have h1 := hKb 1; have h2 := hKb 2; have h3 := hKb 3; have h4 := hKb 4; have h5 := hKb 5; omega)).mpr q)
                          refine lv_aload_n hx hb d_Mod_next_122 rfl (lv_at hl 1 rfl) ?_
                          refine va_get (D := (dC, dI)) (ci := cMod) (v := .ref (b 9)) (C := R_Mod) (T := F_Mod) (N := 27) hx hb hts i_Mod hown hK hP 0 rfl rfl 12 (by decide) (hts _ tw_267) (fun _ h9 => h9) rfl d_Mod_next_123 ?_
                          refine lv_iload hx hb d_Mod_next_126 (lv_at hl 0 rfl) ?_
                          refine va_iald (f := F 9) hx hb hK hP 9 0 rfl ht (vp_in_nI (show i < 16384 from by omega) (by decide)) d_Mod_next_128 ?_
                          refine ps_top (z := (F 9) i) (by rw [nI_clamp (show i < 2 ^ 31 from by omega)]) ?_
                          refine lv_goto (tgt := 133) hx hb d_Mod_next_129 (by decide) ?_
                          refine va_put (D := (dC, dI)) (ci := cMod) (v := .int ((F 9) i)) (ty := .int) (C := R_Mod) (T := F_Mod) (N := 27) hx hb hts i_Mod t_Mod t_Mod_ok n_Mod hown hK hP hD hS 0 rfl rfl 26 (by decide) (hts _ tw_263) (fun _ h9 => h9) rfl (by decide +kernel) rfl rfl (Nat.le_of_ble_eq_true rfl) d_Mod_next_133 (fun H locs hP hD hS => ?_)
                          have hP : va_P (dC, dI) classes (mw cI cB cS cZ b K S ((F 8) i) ((F 9) i) F X) H := hP
                          have hD : va_D A (mw cI cB cS cZ b K S ((F 8) i) ((F 9) i) F X) := hD
                          refine lv_iload hx hb d_Mod_next_136 (lv_at hl 0 rfl) ?_
                          refine lv_aload_n hx hb d_Mod_next_138 rfl (lv_at hl 1 rfl) ?_
                          refine va_get (D := (dC, dI)) (ci := cMod) (v := .int (nI (K 4))) (C := R_Mod) (T := F_Mod) (N := 27) hx hb hts i_Mod hown hK hP 0 rfl rfl 16 (by decide) (hts _ tw_264) (fun _ h9 => h9) rfl d_Mod_next_139 ?_
                          refine lv_icmp_ge (tgt := 149) hx hb d_Mod_next_142 (by decide) (fun c_17 => ?_) (fun c_17 => ?_)
                          · have c_17 : K 4 ≤ i := (nI_leI (by have h0 := hKb 0; have h1 := hKb 1; have h2 := hKb 2; have h3 := hKb 3; have h4 := hKb 4; have h5 := hKb 5; omega) (by have h0 := hKb 0; have h1 := hKb 1; have h2 := hKb 2; have h3 := hKb 3; have h4 := hKb 4; have h5 := hKb 5; omega)).mp c_17
                            exact absurd c_17 (by omega)
                          · have c_17 : ¬ K 4 ≤ i := fun q => c_17 ((nI_leI (by have h0 := hKb 0; have h1 := hKb 1; have h2 := hKb 2; have h3 := hKb 3; have h4 := hKb 4; have h5 := hKb 5; omega) (by have h0 := hKb 0; have h1 := hKb 1; have h2 := hKb 2; have h3 := hKb 3; have h4 := hKb 4; have h5 := hKb 5; omega)).mpr q)
                            refine lv_iconst (v := 1) hx hb d_Mod_next_145 (by decide) ?_
                            refine lv_goto (tgt := 150) hx hb d_Mod_next_146 (by decide) ?_
                            exact ps_iret hx hb hr hlocks hK hP hD hS (Nat.le_of_ble_eq_true rfl) (Nat.le_of_ble_eq_true rfl) d_Mod_next_150 (ps_cy ⟨c_2, k2_le (show ¬ kk < nI 0 from c_3), c_4⟩ (ps_cn c_5 (Or.inr ⟨j, hj, hjm, hjn, Or.inl ⟨i, hfi, by omega, ⟨c_13, c_14⟩, hno, rfl, rfl⟩⟩)))
                    · refine lv_iinc (v := nI (i + 1)) (lv' := [(4, .int (nI (i + 1))), (0, .ref (b 0)), (1, .int d), (2, .int kk), (3, .int key)]) hx hb d_Mod_next_82 hl (k := 0) rfl (nI_1 _) (by decide) rfl (fun ls hl => ?_)
                      refine lv_goto (tgt := 52) hx hb d_Mod_next_85 (by decide) ?_
                      exact ih (i + 1) _ _ ls (by omega) ⟨lv_sub hl [0, 1, 2, 3, 4] rfl, hP, hD, hS, by omega, by omega, ps_nots hno (fun q => c_14 q.2)⟩
              · exact absurd (nI_pos' (by have h0 := hKb 0; have h1 := hKb 1; have h2 := hKb 2; have h3 := hKb 3; have h4 := hKb 4; have h5 := hKb 5; omega)) c_8
          · subst hr_6
            refine lv_istore (lv' := [(4, .int (-1)), (0, .ref (b 0)), (1, .int d), (2, .int kk), (3, .int key)]) hx hb d_Mod_next_35 hl (by decide) rfl (fun ls hl => ?_)
            refine lv_iload_n hx hb d_Mod_next_37 rfl (lv_at hl 3 rfl) ?_
            refine lv_if_le (tgt := 49) hx hb d_Mod_next_38 (by decide) (fun c_18 => ?_) (fun c_18 => ?_)
            · exact absurd (ps_le0 c_3 c_18) c_5
            · refine lv_iload hx hb d_Mod_next_41 (lv_at hl 0 rfl) ?_
              refine lv_if_ge (tgt := 49) hx hb d_Mod_next_43 (by decide) (fun c_19 => ?_) (fun c_19 => ?_)
              · exact absurd c_19 (by decide)
              · refine lv_bipush (v := (-2)) hx hb d_Mod_next_46 (by decide) ?_
                exact ps_iret hx hb hr hlocks hK hP hD hS (Nat.le_of_ble_eq_true rfl) (Nat.le_of_ble_eq_true rfl) d_Mod_next_48 (ps_cy ⟨c_2, k2_le (show ¬ kk < nI 0 from c_3), c_4⟩ (ps_cn c_5 (Or.inl ⟨hnone, rfl, rfl⟩)))
        · refine lv_iconst (v := (-1)) hx hb d_Mod_next_24 (by decide) ?_
          refine lv_goto (tgt := 35) hx hb d_Mod_next_25 (by decide) ?_
          refine lv_istore (lv' := [(4, .int (-1)), (0, .ref (b 0)), (1, .int d), (2, .int kk), (3, .int key)]) hx hb d_Mod_next_35 hl (by decide) rfl (fun ls hl => ?_)
          refine lv_iload_n hx hb d_Mod_next_37 rfl (lv_at hl 3 rfl) ?_
          refine lv_if_le (tgt := 49) hx hb d_Mod_next_38 (by decide) (fun c_20 => ?_) (fun c_20 => ?_)
          · refine lv_iinc (v := nI 0) (lv' := [(4, .int (nI 0)), (0, .ref (b 0)), (1, .int d), (2, .int kk), (3, .int key)]) hx hb d_Mod_next_49 hl (k := 0) rfl (by decide) (by decide) rfl (fun ls hl => ?_)
            refine ps_loop (α := Nat) (fun i => 0) (fun i => 0) (fun i => K 4 - i) (fun i H locs ls => lv_has ls 5 [(4, .int (nI i)), (0, .ref (b 0)), (1, .int d), (2, .int kk), (3, .int key)] ∧ va_P (dC, dI) classes (mw cI cB cS cZ b K S ck cu F X) H ∧ va_D A (mw cI cB cS cZ b K S ck cu F X) ∧ va_S A s.heap H locs ∧ 0 ≤ i ∧ i < 2 ^ 31 ∧ ps_not (fun j => F 7 j = d ∧ X 3 j = 0) (0) i) ?_ 0 _ _ ls ⟨lv_sub hl [0, 1, 2, 3, 4] rfl, hP, hD, hS, Nat.le_refl _, by have b4 := hKb 4; omega, ps_not0⟩
            intro i H locs ls hI ih
            obtain ⟨hl, hP, hD, hS, hfi, hi31, hno⟩ := hI
            refine lv_iload hx hb d_Mod_next_52 (lv_at hl 0 rfl) ?_
            refine lv_aload_n hx hb d_Mod_next_54 rfl (lv_at hl 1 rfl) ?_
            refine va_get (D := (dC, dI)) (ci := cMod) (v := .int (nI (K 4))) (C := R_Mod) (T := F_Mod) (N := 27) hx hb hts i_Mod hown hK hP 0 rfl rfl 16 (by decide) (hts _ tw_264) (fun _ h9 => h9) rfl d_Mod_next_55 ?_
            refine lv_icmp_ge (tgt := 88) hx hb d_Mod_next_58 (by decide) (fun c_21 => ?_) (fun c_21 => ?_)
            · have c_21 : K 4 ≤ i := (nI_leI (by have h0 := hKb 0; have h1 := hKb 1; have h2 := hKb 2; have h3 := hKb 3; have h4 := hKb 4; have h5 := hKb 5; omega) (by have h0 := hKb 0; have h1 := hKb 1; have h2 := hKb 2; have h3 := hKb 3; have h4 := hKb 4; have h5 := hKb 5; omega)).mp c_21
              refine lv_aload_n hx hb d_Mod_next_88 rfl (lv_at hl 1 rfl) ?_
              refine lv_iload hx hb d_Mod_next_89 (lv_at hl 0 rfl) ?_
              refine lv_aload_n hx hb d_Mod_next_91 rfl (lv_at hl 1 rfl) ?_
              refine va_get (D := (dC, dI)) (ci := cMod) (v := .int (nI (K 4))) (C := R_Mod) (T := F_Mod) (N := 27) hx hb hts i_Mod hown hK hP 0 rfl rfl 16 (by decide) (hts _ tw_264) (fun _ h9 => h9) rfl d_Mod_next_92 ?_
              refine lv_icmp_ge (tgt := 108) hx hb d_Mod_next_95 (by decide) (fun c_22 => ?_) (fun c_22 => ?_)
              · have c_22 : K 4 ≤ i := (nI_leI (by have h0 := hKb 0; have h1 := hKb 1; have h2 := hKb 2; have h3 := hKb 3; have h4 := hKb 4; have h5 := hKb 5; omega) (by have h0 := hKb 0; have h1 := hKb 1; have h2 := hKb 2; have h3 := hKb 3; have h4 := hKb 4; have h5 := hKb 5; omega)).mp c_22
                refine lv_iconst (v := 0) hx hb d_Mod_next_108 (by decide) ?_
                refine va_put (D := (dC, dI)) (ci := cMod) (v := .int 0) (ty := .int) (C := R_Mod) (T := F_Mod) (N := 27) hx hb hts i_Mod t_Mod t_Mod_ok n_Mod hown hK hP hD hS 0 rfl rfl 25 (by decide) (hts _ tw_262) (fun _ h9 => h9) rfl (by decide +kernel) rfl rfl (Nat.le_of_ble_eq_true rfl) d_Mod_next_109 (fun H locs hP hD hS => ?_)
                have hP : va_P (dC, dI) classes (mw cI cB cS cZ b K S 0 cu F X) H := hP
                have hD : va_D A (mw cI cB cS cZ b K S 0 cu F X) := hD
                refine lv_aload_n hx hb d_Mod_next_112 rfl (lv_at hl 1 rfl) ?_
                refine lv_iload hx hb d_Mod_next_113 (lv_at hl 0 rfl) ?_
                refine lv_aload_n hx hb d_Mod_next_115 rfl (lv_at hl 1 rfl) ?_
                refine va_get (D := (dC, dI)) (ci := cMod) (v := .int (nI (K 4))) (C := R_Mod) (T := F_Mod) (N := 27) hx hb hts i_Mod hown hK hP 0 rfl rfl 16 (by decide) (hts _ tw_264) (fun _ h9 => h9) rfl d_Mod_next_116 ?_
                refine lv_icmp_ge (tgt := 132) hx hb d_Mod_next_119 (by decide) (fun c_23 => ?_) (fun c_23 => ?_)
                · have c_23 : K 4 ≤ i := (nI_leI (by have h0 := hKb 0; have h1 := hKb 1; have h2 := hKb 2; have h3 := hKb 3; have h4 := hKb 4; have h5 := hKb 5; omega) (by have h0 := hKb 0; have h1 := hKb 1; have h2 := hKb 2; have h3 := hKb 3; have h4 := hKb 4; have h5 := hKb 5; omega)).mp c_23
                  refine lv_iconst (v := 0) hx hb d_Mod_next_132 (by decide) ?_
                  refine va_put (D := (dC, dI)) (ci := cMod) (v := .int 0) (ty := .int) (C := R_Mod) (T := F_Mod) (N := 27) hx hb hts i_Mod t_Mod t_Mod_ok n_Mod hown hK hP hD hS 0 rfl rfl 26 (by decide) (hts _ tw_263) (fun _ h9 => h9) rfl (by decide +kernel) rfl rfl (Nat.le_of_ble_eq_true rfl) d_Mod_next_133 (fun H locs hP hD hS => ?_)
                  have hP : va_P (dC, dI) classes (mw cI cB cS cZ b K S 0 0 F X) H := hP
                  have hD : va_D A (mw cI cB cS cZ b K S 0 0 F X) := hD
                  refine lv_iload hx hb d_Mod_next_136 (lv_at hl 0 rfl) ?_
                  refine lv_aload_n hx hb d_Mod_next_138 rfl (lv_at hl 1 rfl) ?_
                  refine va_get (D := (dC, dI)) (ci := cMod) (v := .int (nI (K 4))) (C := R_Mod) (T := F_Mod) (N := 27) hx hb hts i_Mod hown hK hP 0 rfl rfl 16 (by decide) (hts _ tw_264) (fun _ h9 => h9) rfl d_Mod_next_139 ?_
                  refine lv_icmp_ge (tgt := 149) hx hb d_Mod_next_142 (by decide) (fun c_24 => ?_) (fun c_24 => ?_)
                  · have c_24 : K 4 ≤ i := (nI_leI (by have h0 := hKb 0; have h1 := hKb 1; have h2 := hKb 2; have h3 := hKb 3; have h4 := hKb 4; have h5 := hKb 5; omega) (by have h0 := hKb 0; have h1 := hKb 1; have h2 := hKb 2; have h3 := hKb 3; have h4 := hKb 4; have h5 := hKb 5; omega)).mp c_24
                    refine lv_iconst (v := 0) hx hb d_Mod_next_149 (by decide) ?_
                    exact ps_iret hx hb hr hlocks hK hP hD hS (Nat.le_of_ble_eq_true rfl) (Nat.le_of_ble_eq_true rfl) d_Mod_next_150 (ps_cy ⟨c_2, k2_le (show ¬ kk < nI 0 from c_3), c_4⟩ (ps_cy c_5 (Or.inr ⟨fun z h1 h2 => hno z h1 (by omega), rfl, rfl⟩)))
                  · have c_24 : ¬ K 4 ≤ i := fun q => c_24 ((nI_leI (by have h0 := hKb 0; have h1 := hKb 1; have h2 := hKb 2; have h3 := hKb 3; have h4 := hKb 4; have h5 := hKb 5; omega) (by have h0 := hKb 0; have h1 := hKb 1; have h2 := hKb 2; have h3 := hKb 3; have h4 := hKb 4; have h5 := hKb 5; omega)).mpr q)
                    exact absurd (by omega) c_24
                · have c_23 : ¬ K 4 ≤ i := fun q => c_23 ((nI_leI (by have h0 := hKb 0; have h1 := hKb 1; have h2 := hKb 2; have h3 := hKb 3; have h4 := hKb 4; have h5 := hKb 5; omega) (by have h0 := hKb 0; have h1 := hKb 1; have h2 := hKb 2; have h3 := hKb 3; have h4 := hKb 4; have h5 := hKb 5; omega)).mpr q)
                  exact absurd (by omega) c_23
              · have c_22 : ¬ K 4 ≤ i := fun q => c_22 ((nI_leI (by have h0 := hKb 0; have h1 := hKb 1; have h2 := hKb 2; have h3 := hKb 3; have h4 := hKb 4; have h5 := hKb 5; omega) (by have h0 := hKb 0; have h1 := hKb 1; have h2 := hKb 2; have h3 := hKb 3; have h4 := hKb 4; have h5 := hKb 5; omega)).mpr q)
                exact absurd (by omega) c_22
            · have c_21 : ¬ K 4 ≤ i := fun q => c_21 ((nI_leI (by have h0 := hKb 0; have h1 := hKb 1; have h2 := hKb 2; have h3 := hKb 3; have h4 := hKb 4; have h5 := hKb 5; omega) (by have h0 := hKb 0; have h1 := hKb 1; have h2 := hKb 2; have h3 := hKb 3; have h4 := hKb 4; have h5 := hKb 5; omega)).mpr q)
              refine lv_aload_n hx hb d_Mod_next_61 rfl (lv_at hl 1 rfl) ?_
              refine va_get (D := (dC, dI)) (ci := cMod) (v := .ref (b 7)) (C := R_Mod) (T := F_Mod) (N := 27) hx hb hts i_Mod hown hK hP 0 rfl rfl 10 (by decide) (hts _ tw_265) (fun _ h9 => h9) rfl d_Mod_next_62 ?_
              refine lv_iload hx hb d_Mod_next_65 (lv_at hl 0 rfl) ?_
              refine va_sald (f := F 7) hx hb hK hP 7 2 rfl htS (vp_in_nI (show i < 16384 from by omega) (by decide)) d_Mod_next_67 ?_
              refine ps_top (z := (F 7) i) (by rw [nI_clamp (show i < 2 ^ 31 from by omega)]) ?_
              refine lv_iload_n hx hb d_Mod_next_68 rfl (lv_at hl 2 rfl) ?_
              refine lv_icmp_ne (tgt := 82) hx hb d_Mod_next_69 (by decide) (fun c_25 => ?_) (fun c_25 => ?_)
              · refine lv_iinc (v := nI (i + 1)) (lv' := [(4, .int (nI (i + 1))), (0, .ref (b 0)), (1, .int d), (2, .int kk), (3, .int key)]) hx hb d_Mod_next_82 hl (k := 0) rfl (nI_1 _) (by decide) rfl (fun ls hl => ?_)
                refine lv_goto (tgt := 52) hx hb d_Mod_next_85 (by decide) ?_
                exact ih (i + 1) _ _ ls (by omega) ⟨lv_sub hl [0, 1, 2, 3, 4] rfl, hP, hD, hS, by omega, by omega, ps_nots hno (fun q => c_25 q.1)⟩
              · refine lv_aload_n hx hb d_Mod_next_72 rfl (lv_at hl 1 rfl) ?_
                refine va_get (D := (dC, dI)) (ci := cMod) (v := .ref (b 12)) (C := R_Mod) (T := F_Mod) (N := 27) hx hb hts i_Mod hown hK hP 0 rfl rfl 15 (by decide) (hts _ tw_269) (fun _ h9 => h9) rfl d_Mod_next_73 ?_
                refine lv_iload hx hb d_Mod_next_76 (lv_at hl 0 rfl) ?_
                refine va_zald (f := X 3) hx hb hK hP 12 3 rfl htZ (vp_in_nI (show i < 16384 from by omega) (by decide)) d_Mod_next_78 ?_
                refine ps_top (z := (X 3) i) (by rw [nI_clamp (show i < 2 ^ 31 from by omega)]) ?_
                refine lv_if_eq (tgt := 88) hx hb d_Mod_next_79 (by decide) (fun c_26 => ?_) (fun c_26 => ?_)
                · refine lv_aload_n hx hb d_Mod_next_88 rfl (lv_at hl 1 rfl) ?_
                  refine lv_iload hx hb d_Mod_next_89 (lv_at hl 0 rfl) ?_
                  refine lv_aload_n hx hb d_Mod_next_91 rfl (lv_at hl 1 rfl) ?_
                  refine va_get (D := (dC, dI)) (ci := cMod) (v := .int (nI (K 4))) (C := R_Mod) (T := F_Mod) (N := 27) hx hb hts i_Mod hown hK hP 0 rfl rfl 16 (by decide) (hts _ tw_264) (fun _ h9 => h9) rfl d_Mod_next_92 ?_
                  refine lv_icmp_ge (tgt := 108) hx hb d_Mod_next_95 (by decide) (fun c_27 => ?_) (fun c_27 => ?_)
                  · have c_27 : K 4 ≤ i := (nI_leI (by have h0 := hKb 0; have h1 := hKb 1; have h2 := hKb 2; have h3 := hKb 3; have h4 := hKb 4; have h5 := hKb 5; omega) (by have h0 := hKb 0; have h1 := hKb 1; have h2 := hKb 2; have h3 := hKb 3; have h4 := hKb 4; have h5 := hKb 5; omega)).mp c_27
                    exact absurd c_27 (by omega)
                  · have c_27 : ¬ K 4 ≤ i := fun q => c_27 ((nI_leI (by have h0 := hKb 0; have h1 := hKb 1; have h2 := hKb 2; have h3 := hKb 3; have h4 := hKb 4; have h5 := hKb 5; omega) (by have h0 := hKb 0; have h1 := hKb 1; have h2 := hKb 2; have h3 := hKb 3; have h4 := hKb 4; have h5 := hKb 5; omega)).mpr q)
                    refine lv_aload_n hx hb d_Mod_next_98 rfl (lv_at hl 1 rfl) ?_
                    refine va_get (D := (dC, dI)) (ci := cMod) (v := .ref (b 8)) (C := R_Mod) (T := F_Mod) (N := 27) hx hb hts i_Mod hown hK hP 0 rfl rfl 11 (by decide) (hts _ tw_266) (fun _ h9 => h9) rfl d_Mod_next_99 ?_
                    refine lv_iload hx hb d_Mod_next_102 (lv_at hl 0 rfl) ?_
                    refine va_bald (f := F 8) hx hb hK hP 8 1 rfl htB (vp_in_nI (show i < 16384 from by omega) (by decide)) d_Mod_next_104 ?_
                    refine ps_top (z := (F 8) i) (by rw [nI_clamp (show i < 2 ^ 31 from by omega)]) ?_
                    refine lv_goto (tgt := 109) hx hb d_Mod_next_105 (by decide) ?_
                    refine va_put (D := (dC, dI)) (ci := cMod) (v := .int ((F 8) i)) (ty := .int) (C := R_Mod) (T := F_Mod) (N := 27) hx hb hts i_Mod t_Mod t_Mod_ok n_Mod hown hK hP hD hS 0 rfl rfl 25 (by decide) (hts _ tw_262) (fun _ h9 => h9) rfl (by decide +kernel) rfl rfl (Nat.le_of_ble_eq_true rfl) d_Mod_next_109 (fun H locs hP hD hS => ?_)
                    have hP : va_P (dC, dI) classes (mw cI cB cS cZ b K S ((F 8) i) cu F X) H := hP
                    have hD : va_D A (mw cI cB cS cZ b K S ((F 8) i) cu F X) := hD
                    refine lv_aload_n hx hb d_Mod_next_112 rfl (lv_at hl 1 rfl) ?_
                    refine lv_iload hx hb d_Mod_next_113 (lv_at hl 0 rfl) ?_
                    refine lv_aload_n hx hb d_Mod_next_115 rfl (lv_at hl 1 rfl) ?_
                    refine va_get (D := (dC, dI)) (ci := cMod) (v := .int (nI (K 4))) (C := R_Mod) (T := F_Mod) (N := 27) hx hb hts i_Mod hown hK hP 0 rfl rfl 16 (by decide) (hts _ tw_264) (fun _ h9 => h9) rfl d_Mod_next_116 ?_
                    refine lv_icmp_ge (tgt := 132) hx hb d_Mod_next_119 (by decide) (fun c_28 => ?_) (fun c_28 => ?_)
                    · have c_28 : K 4 ≤ i := (nI_leI (by have h0 := hKb 0; have h1 := hKb 1; have h2 := hKb 2; have h3 := hKb 3; have h4 := hKb 4; have h5 := hKb 5; omega) (by have h0 := hKb 0; have h1 := hKb 1; have h2 := hKb 2; have h3 := hKb 3; have h4 := hKb 4; have h5 := hKb 5; omega)).mp c_28
                      exact absurd c_28 (by omega)
                    · have c_28 : ¬ K 4 ≤ i := fun q => c_28 ((nI_leI (by have h0 := hKb 0; have h1 := hKb 1; have h2 := hKb 2; have h3 := hKb 3; have h4 := hKb 4; have h5 := hKb 5; omega) (by have h0 := hKb 0; have h1 := hKb 1; have h2 := hKb 2; have h3 := hKb 3; have h4 := hKb 4; have h5 := hKb 5; omega)).mpr q)
                      refine lv_aload_n hx hb d_Mod_next_122 rfl (lv_at hl 1 rfl) ?_
                      refine va_get (D := (dC, dI)) (ci := cMod) (v := .ref (b 9)) (C := R_Mod) (T := F_Mod) (N := 27) hx hb hts i_Mod hown hK hP 0 rfl rfl 12 (by decide) (hts _ tw_267) (fun _ h9 => h9) rfl d_Mod_next_123 ?_
                      refine lv_iload hx hb d_Mod_next_126 (lv_at hl 0 rfl) ?_
                      refine va_iald (f := F 9) hx hb hK hP 9 0 rfl ht (vp_in_nI (show i < 16384 from by omega) (by decide)) d_Mod_next_128 ?_
                      refine ps_top (z := (F 9) i) (by rw [nI_clamp (show i < 2 ^ 31 from by omega)]) ?_
                      refine lv_goto (tgt := 133) hx hb d_Mod_next_129 (by decide) ?_
                      refine va_put (D := (dC, dI)) (ci := cMod) (v := .int ((F 9) i)) (ty := .int) (C := R_Mod) (T := F_Mod) (N := 27) hx hb hts i_Mod t_Mod t_Mod_ok n_Mod hown hK hP hD hS 0 rfl rfl 26 (by decide) (hts _ tw_263) (fun _ h9 => h9) rfl (by decide +kernel) rfl rfl (Nat.le_of_ble_eq_true rfl) d_Mod_next_133 (fun H locs hP hD hS => ?_)
                      have hP : va_P (dC, dI) classes (mw cI cB cS cZ b K S ((F 8) i) ((F 9) i) F X) H := hP
                      have hD : va_D A (mw cI cB cS cZ b K S ((F 8) i) ((F 9) i) F X) := hD
                      refine lv_iload hx hb d_Mod_next_136 (lv_at hl 0 rfl) ?_
                      refine lv_aload_n hx hb d_Mod_next_138 rfl (lv_at hl 1 rfl) ?_
                      refine va_get (D := (dC, dI)) (ci := cMod) (v := .int (nI (K 4))) (C := R_Mod) (T := F_Mod) (N := 27) hx hb hts i_Mod hown hK hP 0 rfl rfl 16 (by decide) (hts _ tw_264) (fun _ h9 => h9) rfl d_Mod_next_139 ?_
                      refine lv_icmp_ge (tgt := 149) hx hb d_Mod_next_142 (by decide) (fun c_29 => ?_) (fun c_29 => ?_)
                      · have c_29 : K 4 ≤ i := (nI_leI (by have h0 := hKb 0; have h1 := hKb 1; have h2 := hKb 2; have h3 := hKb 3; have h4 := hKb 4; have h5 := hKb 5; omega) (by have h0 := hKb 0; have h1 := hKb 1; have h2 := hKb 2; have h3 := hKb 3; have h4 := hKb 4; have h5 := hKb 5; omega)).mp c_29
                        exact absurd c_29 (by omega)
                      · have c_29 : ¬ K 4 ≤ i := fun q => c_29 ((nI_leI (by have h0 := hKb 0; have h1 := hKb 1; have h2 := hKb 2; have h3 := hKb 3; have h4 := hKb 4; have h5 := hKb 5; omega) (by have h0 := hKb 0; have h1 := hKb 1; have h2 := hKb 2; have h3 := hKb 3; have h4 := hKb 4; have h5 := hKb 5; omega)).mpr q)
                        refine lv_iconst (v := 1) hx hb d_Mod_next_145 (by decide) ?_
                        refine lv_goto (tgt := 150) hx hb d_Mod_next_146 (by decide) ?_
                        exact ps_iret hx hb hr hlocks hK hP hD hS (Nat.le_of_ble_eq_true rfl) (Nat.le_of_ble_eq_true rfl) d_Mod_next_150 (ps_cy ⟨c_2, k2_le (show ¬ kk < nI 0 from c_3), c_4⟩ (ps_cy c_5 (Or.inl ⟨i, hfi, by omega, ⟨c_25, c_26⟩, hno, rfl, rfl⟩)))
                · refine lv_iinc (v := nI (i + 1)) (lv' := [(4, .int (nI (i + 1))), (0, .ref (b 0)), (1, .int d), (2, .int kk), (3, .int key)]) hx hb d_Mod_next_82 hl (k := 0) rfl (nI_1 _) (by decide) rfl (fun ls hl => ?_)
                  refine lv_goto (tgt := 52) hx hb d_Mod_next_85 (by decide) ?_
                  exact ih (i + 1) _ _ ls (by omega) ⟨lv_sub hl [0, 1, 2, 3, 4] rfl, hP, hD, hS, by omega, by omega, ps_nots hno (fun q => c_26 q.2)⟩
          · exact absurd (by rw [c_5]; decide) c_20
      · refine lv_iconst (v := (-1)) hx hb d_Mod_next_18 (by decide) ?_
        exact ps_iret hx hb hr hlocks hK hP hD hS (Nat.le_of_ble_eq_true rfl) (Nat.le_of_ble_eq_true rfl) d_Mod_next_19 (ps_cn (fun q => c_4 q.2.2) ⟨rfl, rfl⟩)

set_option maxHeartbeats 4000000 in
set_option maxRecDepth 100000 in
/-- PageStoreModel.now -/
theorem m_now (l : Launch) (dC : Nat → ClassId) (dI : Nat → Nat → Nat) (cI : ClassId) (tys : List (ClassId × FieldType)) (ht : tys[0]? = some (cI, FieldType.int)) (cB cS cZ : ClassId) (htB : tys[1]? = some (cB, FieldType.byte)) (htS : tys[2]? = some (cS, FieldType.short)) (htZ : tys[3]? = some (cZ, FieldType.boolean)) (b K : Nat → Nat) (S : Nat) (ck cu : Int32) (F X : Nat → Nat → Int32) (hKb : ∀ j, K j ≤ 65536) (hSb : S ≤ 15) (w : Nat) (hw5 : w < 5) : ps_mI classes l y_Mod_now w_Mod_now ({ frames := 0, cells := 0, slots := 0, locals := 0 }) (dC, dI) tys [.ref (b 0), .int (nI w)] (mw cI cB cS cZ b K S ck cu F X) (fun r u => u = mw cI cB cS cZ b K S ck cu F X ∧ r = nI (K w)) := by
  refine ps_mI_of (by decide) rfl (Nat.le_of_ble_eq_true rfl) ?_
  intro p e s m below meth c A ls C0 hA hK hP hD hS hl
  obtain ⟨hx, hb, hr, hml, hts, hown, hlocks, hin⟩ := C0
  have hl : lv_has ls 2 [(0, .ref (b 0)), (1, .int (nI w))] := hl
  have hP : va_P (dC, dI) classes (mw cI cB cS cZ b K S ck cu F X) s.heap := hP
  have hD : va_D A (mw cI cB cS cZ b K S ck cu F X) := hD
  refine lv_iload_n hx hb d_Mod_now_0 rfl (lv_at hl 1 rfl) ?_
  refine lv_if_ne (tgt := 11) hx hb d_Mod_now_1 (by decide) (fun c_1 => ?_) (fun c_1 => ?_)
  · have c_1 : ¬ w = 0 := fun q => c_1 (by rw [q]; exact nI_0)
    refine lv_iload_n hx hb d_Mod_now_11 rfl (lv_at hl 1 rfl) ?_
    refine lv_iconst (v := nI 1) hx hb d_Mod_now_12 (by decide) ?_
    refine lv_icmp_ne (tgt := 23) hx hb d_Mod_now_13 (by decide) (fun c_2 => ?_) (fun c_2 => ?_)
    · have c_2 : ¬ w = 1 := fun q => c_2 ((nI_eq (by have h0 := hKb 0; have h1 := hKb 1; have h2 := hKb 2; have h3 := hKb 3; have h4 := hKb 4; have h5 := hKb 5; omega) (by have h0 := hKb 0; have h1 := hKb 1; have h2 := hKb 2; have h3 := hKb 3; have h4 := hKb 4; have h5 := hKb 5; omega)).mpr q)
      refine lv_iload_n hx hb d_Mod_now_23 rfl (lv_at hl 1 rfl) ?_
      refine lv_iconst (v := nI 2) hx hb d_Mod_now_24 (by decide) ?_
      refine lv_icmp_ne (tgt := 35) hx hb d_Mod_now_25 (by decide) (fun c_3 => ?_) (fun c_3 => ?_)
      · have c_3 : ¬ w = 2 := fun q => c_3 ((nI_eq (by have h0 := hKb 0; have h1 := hKb 1; have h2 := hKb 2; have h3 := hKb 3; have h4 := hKb 4; have h5 := hKb 5; omega) (by have h0 := hKb 0; have h1 := hKb 1; have h2 := hKb 2; have h3 := hKb 3; have h4 := hKb 4; have h5 := hKb 5; omega)).mpr q)
        refine lv_iload_n hx hb d_Mod_now_35 rfl (lv_at hl 1 rfl) ?_
        refine lv_iconst (v := nI 3) hx hb d_Mod_now_36 (by decide) ?_
        refine lv_icmp_ne (tgt := 47) hx hb d_Mod_now_37 (by decide) (fun c_4 => ?_) (fun c_4 => ?_)
        · have c_4 : ¬ w = 3 := fun q => c_4 ((nI_eq (by have h0 := hKb 0; have h1 := hKb 1; have h2 := hKb 2; have h3 := hKb 3; have h4 := hKb 4; have h5 := hKb 5; omega) (by have h0 := hKb 0; have h1 := hKb 1; have h2 := hKb 2; have h3 := hKb 3; have h4 := hKb 4; have h5 := hKb 5; omega)).mpr q)
          refine lv_aload_n hx hb d_Mod_now_47 rfl (lv_at hl 0 rfl) ?_
          refine va_get (D := (dC, dI)) (ci := cMod) (v := .int (nI (K 4))) (C := R_Mod) (T := F_Mod) (N := 27) hx hb hts i_Mod hown hK hP 0 rfl rfl 16 (by decide) (hts _ tw_264) (fun _ h9 => h9) rfl d_Mod_now_48 ?_
          exact ps_iret hx hb hr hlocks hK hP hD hS (Nat.le_of_ble_eq_true rfl) (Nat.le_of_ble_eq_true rfl) d_Mod_now_51 (⟨rfl, by rw [show w = 4 by omega]⟩)
        · have c_4 : w = 3 := (nI_eq (by have h0 := hKb 0; have h1 := hKb 1; have h2 := hKb 2; have h3 := hKb 3; have h4 := hKb 4; have h5 := hKb 5; omega) (by have h0 := hKb 0; have h1 := hKb 1; have h2 := hKb 2; have h3 := hKb 3; have h4 := hKb 4; have h5 := hKb 5; omega)).mp c_4
          refine lv_aload_n hx hb d_Mod_now_40 rfl (lv_at hl 0 rfl) ?_
          refine va_get (D := (dC, dI)) (ci := cMod) (v := .int (nI (K 3))) (C := R_Mod) (T := F_Mod) (N := 27) hx hb hts i_Mod hown hK hP 0 rfl rfl 9 (by decide) (hts _ tw_241) (fun _ h9 => h9) rfl d_Mod_now_41 ?_
          refine lv_goto (tgt := 51) hx hb d_Mod_now_44 (by decide) ?_
          exact ps_iret hx hb hr hlocks hK hP hD hS (Nat.le_of_ble_eq_true rfl) (Nat.le_of_ble_eq_true rfl) d_Mod_now_51 (⟨rfl, by rw [show w = 3 from c_4]⟩)
      · have c_3 : w = 2 := (nI_eq (by have h0 := hKb 0; have h1 := hKb 1; have h2 := hKb 2; have h3 := hKb 3; have h4 := hKb 4; have h5 := hKb 5; omega) (by have h0 := hKb 0; have h1 := hKb 1; have h2 := hKb 2; have h3 := hKb 3; have h4 := hKb 4; have h5 := hKb 5; omega)).mp c_3
        refine lv_aload_n hx hb d_Mod_now_28 rfl (lv_at hl 0 rfl) ?_
        refine va_get (D := (dC, dI)) (ci := cMod) (v := .int (nI (K 2))) (C := R_Mod) (T := F_Mod) (N := 27) hx hb hts i_Mod hown hK hP 0 rfl rfl 8 (by decide) (hts _ tw_251) (fun _ h9 => h9) rfl d_Mod_now_29 ?_
        refine lv_goto (tgt := 51) hx hb d_Mod_now_32 (by decide) ?_
        exact ps_iret hx hb hr hlocks hK hP hD hS (Nat.le_of_ble_eq_true rfl) (Nat.le_of_ble_eq_true rfl) d_Mod_now_51 (⟨rfl, by rw [show w = 2 from c_3]⟩)
    · have c_2 : w = 1 := (nI_eq (by have h0 := hKb 0; have h1 := hKb 1; have h2 := hKb 2; have h3 := hKb 3; have h4 := hKb 4; have h5 := hKb 5; omega) (by have h0 := hKb 0; have h1 := hKb 1; have h2 := hKb 2; have h3 := hKb 3; have h4 := hKb 4; have h5 := hKb 5; omega)).mp c_2
      refine lv_aload_n hx hb d_Mod_now_16 rfl (lv_at hl 0 rfl) ?_
      refine va_get (D := (dC, dI)) (ci := cMod) (v := .int (nI (K 1))) (C := R_Mod) (T := F_Mod) (N := 27) hx hb hts i_Mod hown hK hP 0 rfl rfl 6 (by decide) (hts _ tw_246) (fun _ h9 => h9) rfl d_Mod_now_17 ?_
      refine lv_goto (tgt := 51) hx hb d_Mod_now_20 (by decide) ?_
      exact ps_iret hx hb hr hlocks hK hP hD hS (Nat.le_of_ble_eq_true rfl) (Nat.le_of_ble_eq_true rfl) d_Mod_now_51 (⟨rfl, by rw [show w = 1 from c_2]⟩)
  · have c_1 : w = 0 := (nI_eq (by have h0 := hKb 0; have h1 := hKb 1; have h2 := hKb 2; have h3 := hKb 3; have h4 := hKb 4; have h5 := hKb 5; omega) (by decide)).mp (c_1.trans nI_0.symm)
    refine lv_aload_n hx hb d_Mod_now_4 rfl (lv_at hl 0 rfl) ?_
    refine va_get (D := (dC, dI)) (ci := cMod) (v := .int (nI (K 0))) (C := R_Mod) (T := F_Mod) (N := 27) hx hb hts i_Mod hown hK hP 0 rfl rfl 3 (by decide) (hts _ tw_240) (fun _ h9 => h9) rfl d_Mod_now_5 ?_
    refine lv_goto (tgt := 51) hx hb d_Mod_now_8 (by decide) ?_
    exact ps_iret hx hb hr hlocks hK hP hD hS (Nat.le_of_ble_eq_true rfl) (Nat.le_of_ble_eq_true rfl) d_Mod_now_51 (⟨rfl, by rw [show w = 0 from c_1]⟩)

set_option maxHeartbeats 4000000 in
set_option maxRecDepth 100000 in
/-- PageStoreModel.save -/
theorem m_save (l : Launch) (dC : Nat → ClassId) (dI : Nat → Nat → Nat) (cI : ClassId) (tys : List (ClassId × FieldType)) (ht : tys[0]? = some (cI, FieldType.int)) (cB cS cZ : ClassId) (htB : tys[1]? = some (cB, FieldType.byte)) (htS : tys[2]? = some (cS, FieldType.short)) (htZ : tys[3]? = some (cZ, FieldType.boolean)) (b K : Nat → Nat) (S : Nat) (ck cu : Int32) (F X : Nat → Nat → Int32) (hKb : ∀ j, K j ≤ 65536) (hSb : S ≤ 15) : ps_mI classes l y_Mod_save w_Mod_save ({ frames := 1, cells := 0, slots := 0, locals := 21 }) (dC, dI) tys [.ref (b 0)] (mw cI cB cS cZ b K S ck cu F X) (fun r u => ps_c (15 ≤ S) (r = -3 ∧ u = mw cI cB cS cZ b K S ck cu F X) (r = nI (S + 1) ∧ u = mw cI cB cS cZ b K (S + 1) ck cu F (va_up (va_up X 4 (ps_nt (X 4) K (5 * (S + 1)) 5)) 5 (upd (X 5) (S + 1) (nI (K 5)))))) := by
  refine ps_mI_of (by decide) rfl (Nat.le_of_ble_eq_true rfl) ?_
  intro p e s m below meth c A ls C0 hA hK hP hD hS hl
  obtain ⟨hx, hb, hr, hml, hts, hown, hlocks, hin⟩ := C0
  have hl : lv_has ls 2 [(0, .ref (b 0))] := hl
  have hP : va_P (dC, dI) classes (mw cI cB cS cZ b K S ck cu F X) s.heap := hP
  have hD : va_D A (mw cI cB cS cZ b K S ck cu F X) := hD
  refine lv_aload_n hx hb d_Mod_save_0 rfl (lv_at hl 0 rfl) ?_
  refine va_get (D := (dC, dI)) (ci := cMod) (v := .int (nI S)) (C := R_Mod) (T := F_Mod) (N := 27) hx hb hts i_Mod hown hK hP 0 rfl rfl 19 (by decide) (hts _ tw_289) (fun _ h9 => h9) rfl d_Mod_save_1 ?_
  refine lv_bipush (v := nI 15) hx hb d_Mod_save_4 (by decide) ?_
  refine lv_icmp_ne (tgt := 12) hx hb d_Mod_save_6 (by decide) (fun c_1 => ?_) (fun c_1 => ?_)
  · have c_1 : ¬ S = 15 := fun q => c_1 ((nI_eq (by have h0 := hKb 0; have h1 := hKb 1; have h2 := hKb 2; have h3 := hKb 3; have h4 := hKb 4; have h5 := hKb 5; omega) (by have h0 := hKb 0; have h1 := hKb 1; have h2 := hKb 2; have h3 := hKb 3; have h4 := hKb 4; have h5 := hKb 5; omega)).mpr q)
    refine lv_aload_n hx hb d_Mod_save_12 rfl (lv_at hl 0 rfl) ?_
    refine lv_dup hx hb d_Mod_save_13 rfl ?_
    refine va_get (D := (dC, dI)) (ci := cMod) (v := .int (nI S)) (C := R_Mod) (T := F_Mod) (N := 27) hx hb hts i_Mod hown hK hP 0 rfl rfl 19 (by decide) (hts _ tw_289) (fun _ h9 => h9) rfl d_Mod_save_14 ?_
    refine lv_iconst (v := nI 1) hx hb d_Mod_save_17 (by decide) ?_
    refine lv_iadd hx hb d_Mod_save_18 ?_
    refine ps_top (z := nI (S + 1)) (nI_add _ _) ?_
    refine va_put (D := (dC, dI)) (ci := cMod) (v := .int (nI (S + 1))) (ty := .int) (C := R_Mod) (T := F_Mod) (N := 27) hx hb hts i_Mod t_Mod t_Mod_ok n_Mod hown hK hP hD hS 0 rfl rfl 19 (by decide) (hts _ tw_289) (fun _ h9 => h9) rfl (by decide +kernel) rfl rfl (Nat.le_of_ble_eq_true rfl) d_Mod_save_19 (fun H locs hP hD hS => ?_)
    have hP : va_P (dC, dI) classes (mw cI cB cS cZ b K (S + 1) ck cu F X) H := hP
    have hD : va_D A (mw cI cB cS cZ b K (S + 1) ck cu F X) := hD
    refine lv_iconst (v := nI 0) hx hb d_Mod_save_22 (by decide) ?_
    refine lv_istore_n (lv' := [(1, .int (nI 0)), (0, .ref (b 0))]) hx hb d_Mod_save_23 rfl hl (by decide) rfl (fun ls hl => ?_)
    refine ps_loop (α := Nat) (fun w => 0) (fun w => 0) (fun w => 5 - w) (fun w H locs ls => lv_has ls 2 [(1, .int (nI w)), (0, .ref (b 0))] ∧ va_P (dC, dI) classes (mw cI cB cS cZ b K (S + 1) ck cu F (va_up X 4 (ps_nt (X 4) K (5 * (S + 1)) w))) H ∧ va_D A (mw cI cB cS cZ b K (S + 1) ck cu F (va_up X 4 (ps_nt (X 4) K (5 * (S + 1)) w))) ∧ va_S A s.heap H locs ∧ w ≤ 5) ?_ 0 _ _ ls ⟨lv_sub hl [0, 1] rfl, (by have e0 : va_up X 4 (ps_nt (X 4) K (5 * (S + 1)) 0) = X := (funext fun j => by by_cases h : j = 4 <;> simp [va_up, h, ps_nt]); rw [e0]; exact hP), (by have e0 : va_up X 4 (ps_nt (X 4) K (5 * (S + 1)) 0) = X := (funext fun j => by by_cases h : j = 4 <;> simp [va_up, h, ps_nt]); rw [e0]; exact hD), hS, Nat.zero_le _⟩
    intro w H locs ls hI ih
    obtain ⟨hl, hP, hD, hS, hw5⟩ := hI
    refine lv_iload_n hx hb d_Mod_save_24 rfl (lv_at hl 0 rfl) ?_
    refine lv_iconst (v := nI 5) hx hb d_Mod_save_25 (by decide) ?_
    refine lv_icmp_ge (tgt := 53) hx hb d_Mod_save_26 (by decide) (fun c_2 => ?_) (fun c_2 => ?_)
    · have c_2 : 5 ≤ w := (nI_leI (by have h0 := hKb 0; have h1 := hKb 1; have h2 := hKb 2; have h3 := hKb 3; have h4 := hKb 4; have h5 := hKb 5; omega) (by have h0 := hKb 0; have h1 := hKb 1; have h2 := hKb 2; have h3 := hKb 3; have h4 := hKb 4; have h5 := hKb 5; omega)).mp c_2
      have hw9 : w = 5 := by omega
      subst hw9
      refine lv_aload_n hx hb d_Mod_save_53 rfl (lv_at hl 1 rfl) ?_
      refine va_get (D := (dC, dI)) (ci := cMod) (v := .ref (b 14)) (C := R_Mod) (T := F_Mod) (N := 27) hx hb hts i_Mod hown hK hP 0 rfl rfl 18 (by decide) (hts _ tw_290) (fun _ h9 => h9) rfl d_Mod_save_54 ?_
      refine lv_aload_n hx hb d_Mod_save_57 rfl (lv_at hl 1 rfl) ?_
      refine va_get (D := (dC, dI)) (ci := cMod) (v := .int (nI (S + 1))) (C := R_Mod) (T := F_Mod) (N := 27) hx hb hts i_Mod hown hK hP 0 rfl rfl 19 (by decide) (hts _ tw_289) (fun _ h9 => h9) rfl d_Mod_save_58 ?_
      refine lv_aload_n hx hb d_Mod_save_61 rfl (lv_at hl 1 rfl) ?_
      refine va_get (D := (dC, dI)) (ci := cMod) (v := .int (nI (K 5))) (C := R_Mod) (T := F_Mod) (N := 27) hx hb hts i_Mod hown hK hP 0 rfl rfl 24 (by decide) (hts _ tw_291) (fun _ h9 => h9) rfl d_Mod_save_62 ?_
      refine va_iast (f := X 5) hx hb hK hP hD hS 14 0 rfl ht (vp_in_nI (show S + 1 < 17 from by omega) (by decide)) d_Mod_save_65 (fun H locs hP hD hS => ?_)
      rw [nI_clamp (show S + 1 < 2 ^ 31 from by omega)] at hP hD
      have hP : va_P (dC, dI) classes (mw cI cB cS cZ b K (S + 1) ck cu F (va_up (va_up X 4 (ps_nt (X 4) K (5 * (S + 1)) 5)) 5 (upd (X 5) (S + 1) (nI (K 5))))) H := hP
      have hD : va_D A (mw cI cB cS cZ b K (S + 1) ck cu F (va_up (va_up X 4 (ps_nt (X 4) K (5 * (S + 1)) 5)) 5 (upd (X 5) (S + 1) (nI (K 5))))) := hD
      refine lv_aload_n hx hb d_Mod_save_66 rfl (lv_at hl 1 rfl) ?_
      refine va_get (D := (dC, dI)) (ci := cMod) (v := .int (nI (S + 1))) (C := R_Mod) (T := F_Mod) (N := 27) hx hb hts i_Mod hown hK hP 0 rfl rfl 19 (by decide) (hts _ tw_289) (fun _ h9 => h9) rfl d_Mod_save_67 ?_
      exact ps_iret hx hb hr hlocks hK hP hD hS (Nat.le_of_ble_eq_true rfl) (Nat.le_of_ble_eq_true rfl) d_Mod_save_70 (ps_cn (by omega) ⟨rfl, rfl⟩)
    · have c_2 : ¬ 5 ≤ w := fun q => c_2 ((nI_leI (by have h0 := hKb 0; have h1 := hKb 1; have h2 := hKb 2; have h3 := hKb 3; have h4 := hKb 4; have h5 := hKb 5; omega) (by have h0 := hKb 0; have h1 := hKb 1; have h2 := hKb 2; have h3 := hKb 3; have h4 := hKb 4; have h5 := hKb 5; omega)).mpr q)
      refine lv_aload_n hx hb d_Mod_save_29 rfl (lv_at hl 1 rfl) ?_
      refine va_get (D := (dC, dI)) (ci := cMod) (v := .ref (b 13)) (C := R_Mod) (T := F_Mod) (N := 27) hx hb hts i_Mod hown hK hP 0 rfl rfl 17 (by decide) (hts _ tw_292) (fun _ h9 => h9) rfl d_Mod_save_30 ?_
      refine lv_iconst (v := nI 5) hx hb d_Mod_save_33 (by decide) ?_
      refine lv_aload_n hx hb d_Mod_save_34 rfl (lv_at hl 1 rfl) ?_
      refine va_get (D := (dC, dI)) (ci := cMod) (v := .int (nI (S + 1))) (C := R_Mod) (T := F_Mod) (N := 27) hx hb hts i_Mod hown hK hP 0 rfl rfl 19 (by decide) (hts _ tw_289) (fun _ h9 => h9) rfl d_Mod_save_35 ?_
      refine lv_imul hx hb d_Mod_save_38 ?_
      refine ps_top (z := nI (5 * (S + 1))) (pk_mul _ _) ?_
      refine lv_iload_n hx hb d_Mod_save_39 rfl (lv_at hl 0 rfl) ?_
      refine lv_iadd hx hb d_Mod_save_40 ?_
      refine ps_top (z := nI (5 * (S + 1) + w)) (nI_add _ _) ?_
      refine lv_aload_n hx hb d_Mod_save_41 rfl (lv_at hl 1 rfl) ?_
      refine lv_iload_n hx hb d_Mod_save_42 rfl (lv_at hl 0 rfl) ?_
      refine ps_readI (wc := (mw cI cB cS cZ b K (S + 1) ck cu F (va_up X 4 (ps_nt (X 4) K (5 * (S + 1)) w)))) hP hD hS hA [0, 1, 2, 3, 4, 5, 6, 7, 8, 9, 10, 11, 12, 13, 14, 15, 16, 17, 18] rfl (fun _ _ h => h.1) (ps_runVI ⟨hx, hb, hml, hown, hts⟩ (m_now l dC dI cI tys ht cB cS cZ htB htS htZ b K (S + 1) ck cu F (va_up X 4 (ps_nt (X 4) K (5 * (S + 1)) w)) hKb (by omega) w (by omega)) (ps_cwV ps_gd 1 hts tw_293 k_Mod_now e_Mod_now ⟨Nat.le_of_ble_eq_true rfl, Nat.le_of_ble_eq_true rfl⟩) hK hP hD [0, 1, 2, 3, 4, 5, 6, 7, 8, 9, 10, 11, 12, 13, 14, 15, 16, 17, 18] (by decide) rfl 0 cMod rfl rfl rfl hl.1 rfl (Nat.le_of_ble_eq_true rfl) d_Mod_save_43 ⟨Nat.zero_le _, Nat.zero_le _⟩) (fun r_3 H locs hr_3 hP hS => ?_)
      obtain ⟨-, hr_3⟩ := hr_3
      subst hr_3
      refine va_iast (f := ps_nt (X 4) K (5 * (S + 1)) w) hx hb hK hP hD hS 13 0 rfl ht (vp_in_nI (show 5 * (S + 1) + w < 80 from by omega) (by decide)) d_Mod_save_46 (fun H locs hP hD hS => ?_)
      rw [nI_clamp (show 5 * (S + 1) + w < 2 ^ 31 from by omega)] at hP hD
      have hP : va_P (dC, dI) classes (mw cI cB cS cZ b K (S + 1) ck cu F (va_up X 4 (ps_nt (X 4) K (5 * (S + 1)) (w + 1)))) H := hP
      have hD : va_D A (mw cI cB cS cZ b K (S + 1) ck cu F (va_up X 4 (ps_nt (X 4) K (5 * (S + 1)) (w + 1)))) := hD
      refine lv_iinc (v := nI (w + 1)) (lv' := [(1, .int (nI (w + 1))), (0, .ref (b 0))]) hx hb d_Mod_save_47 hl (k := 0) rfl (nI_1 _) (by decide) rfl (fun ls hl => ?_)
      refine lv_goto (tgt := 24) hx hb d_Mod_save_50 (by decide) ?_
      exact ih (w + 1) _ _ ls (by omega) ⟨lv_sub hl [0, 1] rfl, hP, hD, hS, by omega⟩
  · have c_1 : S = 15 := (nI_eq (by have h0 := hKb 0; have h1 := hKb 1; have h2 := hKb 2; have h3 := hKb 3; have h4 := hKb 4; have h5 := hKb 5; omega) (by have h0 := hKb 0; have h1 := hKb 1; have h2 := hKb 2; have h3 := hKb 3; have h4 := hKb 4; have h5 := hKb 5; omega)).mp c_1
    refine lv_bipush (v := (-3)) hx hb d_Mod_save_9 (by decide) ?_
    exact ps_iret hx hb hr hlocks hK hP hD hS (Nat.le_of_ble_eq_true rfl) (Nat.le_of_ble_eq_true rfl) d_Mod_save_11 (ps_cy (by omega) ⟨rfl, rfl⟩)

set_option maxHeartbeats 4000000 in
set_option maxRecDepth 100000 in
/-- PageStoreModel.noted -/
theorem m_noted (l : Launch) (dC : Nat → ClassId) (dI : Nat → Nat → Nat) (cI : ClassId) (tys : List (ClassId × FieldType)) (ht : tys[0]? = some (cI, FieldType.int)) (cB cS cZ : ClassId) (htB : tys[1]? = some (cB, FieldType.byte)) (htS : tys[2]? = some (cS, FieldType.short)) (htZ : tys[3]? = some (cZ, FieldType.boolean)) (b K : Nat → Nat) (S : Nat) (ck cu : Int32) (F X : Nat → Nat → Int32) (hKb : ∀ j, K j ≤ 65536) (hSb : S ≤ 15) (k w : Int32) : ps_mI classes l y_Mod_noted w_Mod_noted ({ frames := 1, cells := 0, slots := 0, locals := 21 }) (dC, dI) tys [.ref (b 0), .int k, .int w] (mw cI cB cS cZ b K S ck cu F X) (fun r u => u = mw cI cB cS cZ b K S ck cu F X ∧ ps_c (w < 0 ∨ nI 6 ≤ w) (r = -1) (ps_c (k = 0) (r = nI (K w.toNatClampNeg)) (ps_c ((nI 1 ≤ k ∧ k ≤ nI S) ∧ ¬ w = nI 5) (r = X 4 (5 * k.toNatClampNeg + w.toNatClampNeg)) (r = -1)))) := by
  refine ps_mI_of (by decide) rfl (Nat.le_of_ble_eq_true rfl) ?_
  intro p e s m below meth c A ls C0 hA hK hP hD hS hl
  obtain ⟨hx, hb, hr, hml, hts, hown, hlocks, hin⟩ := C0
  have hl : lv_has ls 3 [(0, .ref (b 0)), (1, .int k), (2, .int w)] := hl
  have hP : va_P (dC, dI) classes (mw cI cB cS cZ b K S ck cu F X) s.heap := hP
  have hD : va_D A (mw cI cB cS cZ b K S ck cu F X) := hD
  refine lv_iload_n hx hb d_Mod_noted_0 rfl (lv_at hl 1 rfl) ?_
  refine lv_if_lt (tgt := 30) hx hb d_Mod_noted_1 (by decide) (fun c_1 => ?_) (fun c_1 => ?_)
  · refine lv_iconst (v := (-1)) hx hb d_Mod_noted_30 (by decide) ?_
    exact ps_iret hx hb hr hlocks hK hP hD hS (Nat.le_of_ble_eq_true rfl) (Nat.le_of_ble_eq_true rfl) d_Mod_noted_31 (⟨rfl, mo_not c_1⟩)
  · obtain ⟨k0, hk31, rfl⟩ := nI_of c_1
    rw [nI_clamp hk31]
    have hk0 : nI k0 = 0 ↔ k0 = 0 := ⟨fun q => (nI_eq hk31 (by decide)).mp (q.trans nI_0.symm), fun q => by rw [q]; exact nI_0⟩
    have hk1 : (nI 1 ≤ nI k0 ∧ nI k0 ≤ nI S) ↔ (1 ≤ k0 ∧ k0 ≤ S) := and_congr (nI_leI (by decide) hk31) (nI_leI hk31 (by omega))
    refine lv_iload_n hx hb d_Mod_noted_4 rfl (lv_at hl 1 rfl) ?_
    refine lv_aload_n hx hb d_Mod_noted_5 rfl (lv_at hl 0 rfl) ?_
    refine va_get (D := (dC, dI)) (ci := cMod) (v := .int (nI S)) (C := R_Mod) (T := F_Mod) (N := 27) hx hb hts i_Mod hown hK hP 0 rfl rfl 19 (by decide) (hts _ tw_289) (fun _ h9 => h9) rfl d_Mod_noted_6 ?_
    refine lv_icmp_gt (tgt := 30) hx hb d_Mod_noted_9 (by decide) (fun c_2 => ?_) (fun c_2 => ?_)
    · have c_2 : S < k0 := (nI_ltI (by have h0 := hKb 0; have h1 := hKb 1; have h2 := hKb 2; have h3 := hKb 3; have h4 := hKb 4; have h5 := hKb 5; omega) (by have h0 := hKb 0; have h1 := hKb 1; have h2 := hKb 2; have h3 := hKb 3; have h4 := hKb 4; have h5 := hKb 5; omega)).mp c_2
      refine lv_iconst (v := (-1)) hx hb d_Mod_noted_30 (by decide) ?_
      exact ps_iret hx hb hr hlocks hK hP hD hS (Nat.le_of_ble_eq_true rfl) (Nat.le_of_ble_eq_true rfl) d_Mod_noted_31 (⟨rfl, mo_not2 (by omega) hk0 hk1⟩)
    · have c_2 : ¬ S < k0 := fun q => c_2 ((nI_ltI (by have h0 := hKb 0; have h1 := hKb 1; have h2 := hKb 2; have h3 := hKb 3; have h4 := hKb 4; have h5 := hKb 5; omega) (by have h0 := hKb 0; have h1 := hKb 1; have h2 := hKb 2; have h3 := hKb 3; have h4 := hKb 4; have h5 := hKb 5; omega)).mpr q)
      refine lv_iload_n hx hb d_Mod_noted_12 rfl (lv_at hl 2 rfl) ?_
      refine lv_if_lt (tgt := 30) hx hb d_Mod_noted_13 (by decide) (fun c_3 => ?_) (fun c_3 => ?_)
      · refine lv_iconst (v := (-1)) hx hb d_Mod_noted_30 (by decide) ?_
        exact ps_iret hx hb hr hlocks hK hP hD hS (Nat.le_of_ble_eq_true rfl) (Nat.le_of_ble_eq_true rfl) d_Mod_noted_31 (⟨rfl, ps_cy (Or.inl c_3) rfl⟩)
      · obtain ⟨w0, hw31, rfl⟩ := nI_of c_3
        rw [nI_clamp hw31]
        have hw5 : nI w0 = nI 5 ↔ w0 = 5 := nI_eq hw31 (by decide)
        have hw6 : (nI w0 < 0 ∨ nI 6 ≤ nI w0) ↔ 6 ≤ w0 := ⟨fun q => q.elim (fun z => absurd z (nI_pos hw31)) (fun z => (nI_leI (by decide) hw31).mp z), fun q => Or.inr ((nI_leI (by decide) hw31).mpr q)⟩
        refine lv_iload_n hx hb d_Mod_noted_16 rfl (lv_at hl 2 rfl) ?_
        refine lv_iconst (v := nI 5) hx hb d_Mod_noted_17 (by decide) ?_
        refine lv_icmp_gt (tgt := 30) hx hb d_Mod_noted_18 (by decide) (fun c_4 => ?_) (fun c_4 => ?_)
        · have c_4 : 5 < w0 := (nI_ltI (by have h0 := hKb 0; have h1 := hKb 1; have h2 := hKb 2; have h3 := hKb 3; have h4 := hKb 4; have h5 := hKb 5; omega) (by have h0 := hKb 0; have h1 := hKb 1; have h2 := hKb 2; have h3 := hKb 3; have h4 := hKb 4; have h5 := hKb 5; omega)).mp c_4
          refine lv_iconst (v := (-1)) hx hb d_Mod_noted_30 (by decide) ?_
          exact ps_iret hx hb hr hlocks hK hP hD hS (Nat.le_of_ble_eq_true rfl) (Nat.le_of_ble_eq_true rfl) d_Mod_noted_31 (⟨rfl, ps_cy (hw6.mpr (by omega)) rfl⟩)
        · have c_4 : ¬ 5 < w0 := fun q => c_4 ((nI_ltI (by have h0 := hKb 0; have h1 := hKb 1; have h2 := hKb 2; have h3 := hKb 3; have h4 := hKb 4; have h5 := hKb 5; omega) (by have h0 := hKb 0; have h1 := hKb 1; have h2 := hKb 2; have h3 := hKb 3; have h4 := hKb 4; have h5 := hKb 5; omega)).mpr q)
          refine lv_iload_n hx hb d_Mod_noted_21 rfl (lv_at hl 2 rfl) ?_
          refine lv_iconst (v := nI 5) hx hb d_Mod_noted_22 (by decide) ?_
          refine lv_icmp_ne (tgt := 32) hx hb d_Mod_noted_23 (by decide) (fun c_5 => ?_) (fun c_5 => ?_)
          · have c_5 : ¬ w0 = 5 := fun q => c_5 ((nI_eq (by have h0 := hKb 0; have h1 := hKb 1; have h2 := hKb 2; have h3 := hKb 3; have h4 := hKb 4; have h5 := hKb 5; omega) (by have h0 := hKb 0; have h1 := hKb 1; have h2 := hKb 2; have h3 := hKb 3; have h4 := hKb 4; have h5 := hKb 5; omega)).mpr q)
            refine lv_iload_n hx hb d_Mod_noted_32 rfl (lv_at hl 2 rfl) ?_
            refine lv_iconst (v := nI 5) hx hb d_Mod_noted_33 (by decide) ?_
            refine lv_icmp_ne (tgt := 42) hx hb d_Mod_noted_34 (by decide) (fun c_6 => ?_) (fun c_6 => ?_)
            · have c_6 : ¬ w0 = 5 := fun q => c_6 ((nI_eq (by have h0 := hKb 0; have h1 := hKb 1; have h2 := hKb 2; have h3 := hKb 3; have h4 := hKb 4; have h5 := hKb 5; omega) (by have h0 := hKb 0; have h1 := hKb 1; have h2 := hKb 2; have h3 := hKb 3; have h4 := hKb 4; have h5 := hKb 5; omega)).mpr q)
              refine lv_iload_n hx hb d_Mod_noted_42 rfl (lv_at hl 1 rfl) ?_
              refine lv_if_ne (tgt := 54) hx hb d_Mod_noted_43 (by decide) (fun c_7 => ?_) (fun c_7 => ?_)
              · have c_7 : ¬ k0 = 0 := fun q => c_7 (by rw [q]; exact nI_0)
                refine lv_aload_n hx hb d_Mod_noted_54 rfl (lv_at hl 0 rfl) ?_
                refine va_get (D := (dC, dI)) (ci := cMod) (v := .ref (b 13)) (C := R_Mod) (T := F_Mod) (N := 27) hx hb hts i_Mod hown hK hP 0 rfl rfl 17 (by decide) (hts _ tw_292) (fun _ h9 => h9) rfl d_Mod_noted_55 ?_
                refine lv_iconst (v := nI 5) hx hb d_Mod_noted_58 (by decide) ?_
                refine lv_iload_n hx hb d_Mod_noted_59 rfl (lv_at hl 1 rfl) ?_
                refine lv_imul hx hb d_Mod_noted_60 ?_
                refine ps_top (z := nI (5 * k0)) (pk_mul _ _) ?_
                refine lv_iload_n hx hb d_Mod_noted_61 rfl (lv_at hl 2 rfl) ?_
                refine lv_iadd hx hb d_Mod_noted_62 ?_
                refine ps_top (z := nI (5 * k0 + w0)) (nI_add _ _) ?_
                refine va_iald (f := X 4) hx hb hK hP 13 0 rfl ht (vp_in_nI (show 5 * k0 + w0 < 80 from by omega) (by decide)) d_Mod_noted_63 ?_
                refine ps_top (z := (X 4) (5 * k0 + w0)) (by rw [nI_clamp (show 5 * k0 + w0 < 2 ^ 31 from by omega)]) ?_
                exact ps_iret hx hb hr hlocks hK hP hD hS (Nat.le_of_ble_eq_true rfl) (Nat.le_of_ble_eq_true rfl) d_Mod_noted_64 (⟨rfl, ps_cn (fun q => absurd (hw6.mp q) (by omega)) (ps_cn (fun q => absurd (hk0.mp q) (by omega)) (ps_cy ⟨hk1.mpr (by omega), fun q => absurd (hw5.mp q) (by omega)⟩ rfl))⟩)
              · have c_7 : k0 = 0 := (nI_eq (by have h0 := hKb 0; have h1 := hKb 1; have h2 := hKb 2; have h3 := hKb 3; have h4 := hKb 4; have h5 := hKb 5; omega) (by decide)).mp (c_7.trans nI_0.symm)
                refine lv_aload_n hx hb d_Mod_noted_46 rfl (lv_at hl 0 rfl) ?_
                refine lv_iload_n hx hb d_Mod_noted_47 rfl (lv_at hl 2 rfl) ?_
                refine ps_readI (wc := (mw cI cB cS cZ b K S ck cu F X)) hP hD hS hA [0, 1, 2, 3, 4, 5, 6, 7, 8, 9, 10, 11, 12, 13, 14, 15, 16, 17, 18] rfl (fun _ _ h => h.1) (ps_runVI ⟨hx, hb, hml, hown, hts⟩ (m_now l dC dI cI tys ht cB cS cZ htB htS htZ b K S ck cu F X hKb hSb w0 (by omega)) (ps_cwV ps_gd 1 hts tw_293 k_Mod_now e_Mod_now ⟨Nat.le_of_ble_eq_true rfl, Nat.le_of_ble_eq_true rfl⟩) hK hP hD [0, 1, 2, 3, 4, 5, 6, 7, 8, 9, 10, 11, 12, 13, 14, 15, 16, 17, 18] (by decide) rfl 0 cMod rfl rfl rfl hl.1 rfl (Nat.le_of_ble_eq_true rfl) d_Mod_noted_48 ⟨Nat.zero_le _, Nat.zero_le _⟩) (fun r_8 H locs hr_8 hP hS => ?_)
                obtain ⟨-, hr_8⟩ := hr_8
                subst hr_8
                refine lv_goto (tgt := 64) hx hb d_Mod_noted_51 (by decide) ?_
                exact ps_iret hx hb hr hlocks hK hP hD hS (Nat.le_of_ble_eq_true rfl) (Nat.le_of_ble_eq_true rfl) d_Mod_noted_64 (⟨rfl, ps_cn (fun q => absurd (hw6.mp q) (by omega)) (ps_cy (hk0.mpr (by omega)) rfl)⟩)
            · have c_6 : w0 = 5 := (nI_eq (by have h0 := hKb 0; have h1 := hKb 1; have h2 := hKb 2; have h3 := hKb 3; have h4 := hKb 4; have h5 := hKb 5; omega) (by have h0 := hKb 0; have h1 := hKb 1; have h2 := hKb 2; have h3 := hKb 3; have h4 := hKb 4; have h5 := hKb 5; omega)).mp c_6
              refine lv_aload_n hx hb d_Mod_noted_37 rfl (lv_at hl 0 rfl) ?_
              refine va_get (D := (dC, dI)) (ci := cMod) (v := .int (nI (K 5))) (C := R_Mod) (T := F_Mod) (N := 27) hx hb hts i_Mod hown hK hP 0 rfl rfl 24 (by decide) (hts _ tw_291) (fun _ h9 => h9) rfl d_Mod_noted_38 ?_
              exact ps_iret hx hb hr hlocks hK hP hD hS (Nat.le_of_ble_eq_true rfl) (Nat.le_of_ble_eq_true rfl) d_Mod_noted_41 (⟨rfl, ps_cn (fun q => absurd (hw6.mp q) (by omega)) (ps_cy (hk0.mpr (by omega)) (by rw [show w0 = 5 by omega]))⟩)
          · have c_5 : w0 = 5 := (nI_eq (by have h0 := hKb 0; have h1 := hKb 1; have h2 := hKb 2; have h3 := hKb 3; have h4 := hKb 4; have h5 := hKb 5; omega) (by have h0 := hKb 0; have h1 := hKb 1; have h2 := hKb 2; have h3 := hKb 3; have h4 := hKb 4; have h5 := hKb 5; omega)).mp c_5
            refine lv_iload_n hx hb d_Mod_noted_26 rfl (lv_at hl 1 rfl) ?_
            refine lv_if_le (tgt := 32) hx hb d_Mod_noted_27 (by decide) (fun c_9 => ?_) (fun c_9 => ?_)
            · have c_9 : k0 = 0 := by have h1 : nI k0 ≤ nI 0 := c_9; have h2 := (nI_leI hk31 (by decide)).mp h1; omega
              refine lv_iload_n hx hb d_Mod_noted_32 rfl (lv_at hl 2 rfl) ?_
              refine lv_iconst (v := nI 5) hx hb d_Mod_noted_33 (by decide) ?_
              refine lv_icmp_ne (tgt := 42) hx hb d_Mod_noted_34 (by decide) (fun c_10 => ?_) (fun c_10 => ?_)
              · have c_10 : ¬ w0 = 5 := fun q => c_10 ((nI_eq (by have h0 := hKb 0; have h1 := hKb 1; have h2 := hKb 2; have h3 := hKb 3; have h4 := hKb 4; have h5 := hKb 5; omega) (by have h0 := hKb 0; have h1 := hKb 1; have h2 := hKb 2; have h3 := hKb 3; have h4 := hKb 4; have h5 := hKb 5; omega)).mpr q)
                refine lv_iload_n hx hb d_Mod_noted_42 rfl (lv_at hl 1 rfl) ?_
                refine lv_if_ne (tgt := 54) hx hb d_Mod_noted_43 (by decide) (fun c_11 => ?_) (fun c_11 => ?_)
                · have c_11 : ¬ k0 = 0 := fun q => c_11 (by rw [q]; exact nI_0)
                  refine lv_aload_n hx hb d_Mod_noted_54 rfl (lv_at hl 0 rfl) ?_
                  refine va_get (D := (dC, dI)) (ci := cMod) (v := .ref (b 13)) (C := R_Mod) (T := F_Mod) (N := 27) hx hb hts i_Mod hown hK hP 0 rfl rfl 17 (by decide) (hts _ tw_292) (fun _ h9 => h9) rfl d_Mod_noted_55 ?_
                  refine lv_iconst (v := nI 5) hx hb d_Mod_noted_58 (by decide) ?_
                  refine lv_iload_n hx hb d_Mod_noted_59 rfl (lv_at hl 1 rfl) ?_
                  refine lv_imul hx hb d_Mod_noted_60 ?_
                  refine ps_top (z := nI (5 * k0)) (pk_mul _ _) ?_
                  refine lv_iload_n hx hb d_Mod_noted_61 rfl (lv_at hl 2 rfl) ?_
                  refine lv_iadd hx hb d_Mod_noted_62 ?_
                  refine ps_top (z := nI (5 * k0 + w0)) (nI_add _ _) ?_
                  refine va_iald (f := X 4) hx hb hK hP 13 0 rfl ht (vp_in_nI (show 5 * k0 + w0 < 80 from by omega) (by decide)) d_Mod_noted_63 ?_
                  refine ps_top (z := (X 4) (5 * k0 + w0)) (by rw [nI_clamp (show 5 * k0 + w0 < 2 ^ 31 from by omega)]) ?_
                  exact ps_iret hx hb hr hlocks hK hP hD hS (Nat.le_of_ble_eq_true rfl) (Nat.le_of_ble_eq_true rfl) d_Mod_noted_64 (⟨rfl, ps_cn (fun q => absurd (hw6.mp q) (by omega)) (ps_cn (fun q => absurd (hk0.mp q) (by omega)) (ps_cy ⟨hk1.mpr (by omega), fun q => absurd (hw5.mp q) (by omega)⟩ rfl))⟩)
                · have c_11 : k0 = 0 := (nI_eq (by have h0 := hKb 0; have h1 := hKb 1; have h2 := hKb 2; have h3 := hKb 3; have h4 := hKb 4; have h5 := hKb 5; omega) (by decide)).mp (c_11.trans nI_0.symm)
                  refine lv_aload_n hx hb d_Mod_noted_46 rfl (lv_at hl 0 rfl) ?_
                  refine lv_iload_n hx hb d_Mod_noted_47 rfl (lv_at hl 2 rfl) ?_
                  refine ps_readI (wc := (mw cI cB cS cZ b K S ck cu F X)) hP hD hS hA [0, 1, 2, 3, 4, 5, 6, 7, 8, 9, 10, 11, 12, 13, 14, 15, 16, 17, 18] rfl (fun _ _ h => h.1) (ps_runVI ⟨hx, hb, hml, hown, hts⟩ (m_now l dC dI cI tys ht cB cS cZ htB htS htZ b K S ck cu F X hKb hSb w0 (by omega)) (ps_cwV ps_gd 1 hts tw_293 k_Mod_now e_Mod_now ⟨Nat.le_of_ble_eq_true rfl, Nat.le_of_ble_eq_true rfl⟩) hK hP hD [0, 1, 2, 3, 4, 5, 6, 7, 8, 9, 10, 11, 12, 13, 14, 15, 16, 17, 18] (by decide) rfl 0 cMod rfl rfl rfl hl.1 rfl (Nat.le_of_ble_eq_true rfl) d_Mod_noted_48 ⟨Nat.zero_le _, Nat.zero_le _⟩) (fun r_12 H locs hr_12 hP hS => ?_)
                  obtain ⟨-, hr_12⟩ := hr_12
                  subst hr_12
                  refine lv_goto (tgt := 64) hx hb d_Mod_noted_51 (by decide) ?_
                  exact ps_iret hx hb hr hlocks hK hP hD hS (Nat.le_of_ble_eq_true rfl) (Nat.le_of_ble_eq_true rfl) d_Mod_noted_64 (⟨rfl, ps_cn (fun q => absurd (hw6.mp q) (by omega)) (ps_cy (hk0.mpr (by omega)) rfl)⟩)
              · have c_10 : w0 = 5 := (nI_eq (by have h0 := hKb 0; have h1 := hKb 1; have h2 := hKb 2; have h3 := hKb 3; have h4 := hKb 4; have h5 := hKb 5; omega) (by have h0 := hKb 0; have h1 := hKb 1; have h2 := hKb 2; have h3 := hKb 3; have h4 := hKb 4; have h5 := hKb 5; omega)).mp c_10
                refine lv_aload_n hx hb d_Mod_noted_37 rfl (lv_at hl 0 rfl) ?_
                refine va_get (D := (dC, dI)) (ci := cMod) (v := .int (nI (K 5))) (C := R_Mod) (T := F_Mod) (N := 27) hx hb hts i_Mod hown hK hP 0 rfl rfl 24 (by decide) (hts _ tw_291) (fun _ h9 => h9) rfl d_Mod_noted_38 ?_
                exact ps_iret hx hb hr hlocks hK hP hD hS (Nat.le_of_ble_eq_true rfl) (Nat.le_of_ble_eq_true rfl) d_Mod_noted_41 (⟨rfl, ps_cn (fun q => absurd (hw6.mp q) (by omega)) (ps_cy (hk0.mpr (by omega)) (by rw [show w0 = 5 by omega]))⟩)
            · have c_9 : ¬ k0 = 0 := fun q => c_9 (by rw [q]; decide)
              refine lv_iconst (v := (-1)) hx hb d_Mod_noted_30 (by decide) ?_
              exact ps_iret hx hb hr hlocks hK hP hD hS (Nat.le_of_ble_eq_true rfl) (Nat.le_of_ble_eq_true rfl) d_Mod_noted_31 (⟨rfl, ps_cn (fun q => absurd (hw6.mp q) (by omega)) (ps_cn (fun q => absurd (hk0.mp q) (by omega)) (ps_cn (fun q => q.2 (hw5.mpr (by omega))) rfl))⟩)
