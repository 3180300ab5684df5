theorem tw_454 : (.methodLink "PageStoreLaw" 35 ⟨"PageStore", "set", "(IIII)I"⟩ : Cond) ∈ ps_tbl := ps_t1 236 rfl rfl
theorem tw_455 : (.methodLink "PageStoreLaw" 39 ⟨"PageStoreModel", "set", "(IIII)I"⟩ : Cond) ∈ ps_tbl := ps_t3 34 rfl rfl
theorem tw_456 : (.methodLink "PageStoreLaw" 58 ⟨"PageStore", "define", "(IIIII)I"⟩ : Cond) ∈ ps_tbl := ps_t2 57 rfl rfl
theorem tw_457 : (.methodLink "PageStoreLaw" 62 ⟨"PageStoreModel", "define", "(IIIII)I"⟩ : Cond) ∈ ps_tbl := ps_t3 66 rfl rfl
theorem tw_458 : (.methodLink "PageStoreLaw" 71 ⟨"PageStore", "undefine", "(III)I"⟩ : Cond) ∈ ps_tbl := ps_t2 100 rfl rfl
theorem tw_459 : (.methodLink "PageStoreLaw" 74 ⟨"PageStoreModel", "undefine", "(III)I"⟩ : Cond) ∈ ps_tbl := ps_t3 93 rfl rfl
theorem tw_460 : (.methodLink "PageStoreLaw" 79 ⟨"PageStore", "next", "(III)I"⟩ : Cond) ∈ ps_tbl := ps_t2 112 rfl rfl
theorem tw_461 : (.methodLink "PageStoreLaw" 82 ⟨"PageStoreModel", "next", "(III)I"⟩ : Cond) ∈ ps_tbl := ps_t3 101 rfl rfl
theorem tw_462 : (.instanceMethod ⟨"PageStore", "set", "(IIII)I"⟩ : Cond) ∈ ps_tbl := ps_t1 237 rfl rfl
theorem tw_463 : (.selects "PageStore" ⟨"PageStore", "set", "(IIII)I"⟩ ⟨"PageStore", "set", "(IIII)I"⟩ : Cond) ∈ ps_tbl := ps_t1 238 rfl rfl
theorem tw_464 : (.code ⟨"PageStore", "set", "(IIII)I"⟩ prog_1_method_7_code 6 (some .int) : Cond) ∈ ps_tbl := ps_t1 239 rfl rfl
theorem tw_465 : (.instanceMethod ⟨"PageStoreModel", "set", "(IIII)I"⟩ : Cond) ∈ ps_tbl := ps_t3 35 rfl rfl
theorem tw_466 : (.selects "PageStoreModel" ⟨"PageStoreModel", "set", "(IIII)I"⟩ ⟨"PageStoreModel", "set", "(IIII)I"⟩ : Cond) ∈ ps_tbl := ps_t3 36 rfl rfl
theorem tw_467 : (.code ⟨"PageStoreModel", "set", "(IIII)I"⟩ prog_8_method_12_code 6 (some .int) : Cond) ∈ ps_tbl := ps_t3 37 rfl rfl
theorem tw_468 : (.instanceMethod ⟨"PageStore", "define", "(IIIII)I"⟩ : Cond) ∈ ps_tbl := ps_t2 58 rfl rfl
theorem tw_469 : (.selects "PageStore" ⟨"PageStore", "define", "(IIIII)I"⟩ ⟨"PageStore", "define", "(IIIII)I"⟩ : Cond) ∈ ps_tbl := ps_t2 59 rfl rfl
theorem tw_470 : (.code ⟨"PageStore", "define", "(IIIII)I"⟩ prog_1_method_12_code 7 (some .int) : Cond) ∈ ps_tbl := ps_t2 60 rfl rfl
theorem tw_471 : (.instanceMethod ⟨"PageStoreModel", "define", "(IIIII)I"⟩ : Cond) ∈ ps_tbl := ps_t3 67 rfl rfl
theorem tw_472 : (.selects "PageStoreModel" ⟨"PageStoreModel", "define", "(IIIII)I"⟩ ⟨"PageStoreModel", "define", "(IIIII)I"⟩ : Cond) ∈ ps_tbl := ps_t3 68 rfl rfl
theorem tw_473 : (.code ⟨"PageStoreModel", "define", "(IIIII)I"⟩ prog_8_method_20_code 8 (some .int) : Cond) ∈ ps_tbl := ps_t3 69 rfl rfl
theorem tw_474 : (.instanceMethod ⟨"PageStore", "undefine", "(III)I"⟩ : Cond) ∈ ps_tbl := ps_t2 101 rfl rfl
theorem tw_475 : (.selects "PageStore" ⟨"PageStore", "undefine", "(III)I"⟩ ⟨"PageStore", "undefine", "(III)I"⟩ : Cond) ∈ ps_tbl := ps_t2 102 rfl rfl
theorem tw_476 : (.code ⟨"PageStore", "undefine", "(III)I"⟩ prog_1_method_15_code 5 (some .int) : Cond) ∈ ps_tbl := ps_t2 103 rfl rfl
theorem tw_477 : (.instanceMethod ⟨"PageStoreModel", "undefine", "(III)I"⟩ : Cond) ∈ ps_tbl := ps_t3 94 rfl rfl
theorem tw_478 : (.selects "PageStoreModel" ⟨"PageStoreModel", "undefine", "(III)I"⟩ ⟨"PageStoreModel", "undefine", "(III)I"⟩ : Cond) ∈ ps_tbl := ps_t3 95 rfl rfl
theorem tw_479 : (.code ⟨"PageStoreModel", "undefine", "(III)I"⟩ prog_8_method_24_code 5 (some .int) : Cond) ∈ ps_tbl := ps_t3 96 rfl rfl
theorem tw_480 : (.instanceMethod ⟨"PageStore", "next", "(III)I"⟩ : Cond) ∈ ps_tbl := ps_t2 113 rfl rfl
theorem tw_481 : (.selects "PageStore" ⟨"PageStore", "next", "(III)I"⟩ ⟨"PageStore", "next", "(III)I"⟩ : Cond) ∈ ps_tbl := ps_t2 114 rfl rfl
theorem tw_482 : (.code ⟨"PageStore", "next", "(III)I"⟩ prog_1_method_17_code 6 (some .int) : Cond) ∈ ps_tbl := ps_t2 115 rfl rfl
theorem tw_483 : (.instanceMethod ⟨"PageStoreModel", "next", "(III)I"⟩ : Cond) ∈ ps_tbl := ps_t3 102 rfl rfl
theorem tw_484 : (.selects "PageStoreModel" ⟨"PageStoreModel", "next", "(III)I"⟩ ⟨"PageStoreModel", "next", "(III)I"⟩ : Cond) ∈ ps_tbl := ps_t3 103 rfl rfl
theorem tw_485 : (.code ⟨"PageStoreModel", "next", "(III)I"⟩ prog_8_method_26_code 5 (some .int) : Cond) ∈ ps_tbl := ps_t3 104 rfl rfl
theorem k_PS_set : ps_cdV ps_tbl y_PS_set prog_1_method_7_code 6 (some .int) := ⟨tw_462, tw_463, tw_108, tw_464⟩
theorem k_Mod_set : ps_cdV ps_tbl y_Mod_set prog_8_method_12_code 6 (some .int) := ⟨tw_465, tw_466, tw_256, tw_467⟩
theorem k_PS_define : ps_cdV ps_tbl y_PS_define prog_1_method_12_code 7 (some .int) := ⟨tw_468, tw_469, tw_108, tw_470⟩
theorem k_Mod_define : ps_cdV ps_tbl y_Mod_define prog_8_method_20_code 8 (some .int) := ⟨tw_471, tw_472, tw_256, tw_473⟩
theorem k_PS_undefine : ps_cdV ps_tbl y_PS_undefine prog_1_method_15_code 5 (some .int) := ⟨tw_474, tw_475, tw_108, tw_476⟩
theorem k_Mod_undefine : ps_cdV ps_tbl y_Mod_undefine prog_8_method_24_code 5 (some .int) := ⟨tw_477, tw_478, tw_256, tw_479⟩
theorem k_PS_next : ps_cdV ps_tbl y_PS_next prog_1_method_17_code 6 (some .int) := ⟨tw_480, tw_481, tw_108, tw_482⟩
theorem k_Mod_next : ps_cdV ps_tbl y_Mod_next prog_8_method_26_code 5 (some .int) := ⟨tw_483, tw_484, tw_256, tw_485⟩
set_option maxHeartbeats 4000000 in
set_option maxRecDepth 100000 in
theorem lw_set {p : Program} {l : Launch} {e : Env} {s : State} {m : MethodId} {below : List Frame} {meth : Method} {c : Code} {sb L : Nat} {xs : Nat → Int32} {A : Nat → Prop} {dC : Nat → ClassId} {dI : Nat → Nat → Nat} {cI cB cS cZ : ClassId} {tys : List (ClassId × FieldType)} {a b : Nat → Nat} (hC : lw_C p s m meth c sb L xs A dC dI cI cB cS cZ tys) {i : Nat} (hi : 6 * i + 6 ≤ L) (ih : lw_H p l e s m below meth c sb A dC dI cI cB cS cZ a b 795 i) : lw_H p l e s m below meth c sb A dC dI cI cB cS cZ a b 267 i := by
  intro K S ck cu F N T X q H locs ls hI hl hP hD hS
  obtain ⟨⟨hx, hb, hr, hml, hown, hts0, hX, hbl, hlocks, hgv⟩, hL, hA, hAs, hbA, hK, ht, htB, htS, htZ⟩ := hC
  have hts : ∀ w ∈ ps_tbl, w.before #[Value.ref sb] s = true := fun w hw => hts0 w (List.mem_filter.mp hw).1
  obtain ⟨⟨hKb, hk0, hk1, hk3, hk4, hk5, hSb⟩, hw, hIL, hIT, hIM, hIP, hIB, hIV⟩ := id hI
  have hrw := hIL.1
  have hRL := ps_L_le hw
  have hRY := ps_Y_le hw
  obtain ⟨ht9, htF, htX, htB9⟩ := hIT.t 1 (by decide)
  obtain ⟨hb9, hbF, -, -⟩ := hIT.t 5 (by decide)
  have hkw := hKb 1
  have hkv := hKb 5
  by_cases hA9 : ps_ok K F (nI 1) (xs (6 * i + 1)) (xs (6 * i + 2)) ∧ (nI 0 ≤ (xs (6 * i + 3)) ∧ (xs (6 * i + 3)) ≤ nI 15)
  · by_cases hB9 : ps_must S (T S 1) (T S 5) (K 5) F 1 (ps_ix F (xs (6 * i + 1)) (xs (6 * i + 2)))
    · by_cases hC9 : 40000 ≤ K 5
      · have hix := (ps_ok_ix hKb hrw (Or.inl rfl) hA9.1).2
        have hb15 := li_k15 hA9.2
        have hmo := li_must1 (S := S) (t := T S 1) (b := T S 5) (i := ps_ix F (xs (6 * i + 1)) (xs (6 * i + 2))) hIM hw (by omega)
        have hI2 : li_I K S F N T X := hI
        have hRL2 := ps_L_le hI2.2.1
        have hRY2 := ps_Y_le hI2.2.1
        refine lv_aload_n hx hb d_law_law_267 rfl (lv_at hl 2 rfl) ?_
        refine lv_aload_n hx hb d_law_law_268 rfl (lv_at hl 3 rfl) ?_
        refine lv_iload_n hx hb d_law_law_269 rfl (lv_at hl 0 rfl) ?_
        refine lv_iconst (v := nI 1) hx hb d_law_law_270 (by decide) ?_
        refine lv_iadd hx hb d_law_law_271 ?_
        refine ps_top (z := nI (6 * i + 1)) (nI_add _ _) ?_
        refine va_sld hx hb hX hbl hbA hS (vp_in_nI (show 6 * i + 1 < L by omega) (by omega)) d_law_law_272 ?_
        refine ps_top (z := xs (6 * i + 1)) (by rw [nI_clamp (show 6 * i + 1 < 2 ^ 31 by omega)]) ?_
        refine lv_aload_n hx hb d_law_law_273 rfl (lv_at hl 3 rfl) ?_
        refine lv_iload_n hx hb d_law_law_274 rfl (lv_at hl 0 rfl) ?_
        refine lv_iconst (v := nI 2) hx hb d_law_law_275 (by decide) ?_
        refine lv_iadd hx hb d_law_law_276 ?_
        refine ps_top (z := nI (6 * i + 2)) (nI_add _ _) ?_
        refine va_sld hx hb hX hbl hbA hS (vp_in_nI (show 6 * i + 2 < L by omega) (by omega)) d_law_law_277 ?_
        refine ps_top (z := xs (6 * i + 2)) (by rw [nI_clamp (show 6 * i + 2 < 2 ^ 31 by omega)]) ?_
        refine lv_aload_n hx hb d_law_law_278 rfl (lv_at hl 3 rfl) ?_
        refine lv_iload_n hx hb d_law_law_279 rfl (lv_at hl 0 rfl) ?_
        refine lv_iconst (v := nI 3) hx hb d_law_law_280 (by decide) ?_
        refine lv_iadd hx hb d_law_law_281 ?_
        refine ps_top (z := nI (6 * i + 3)) (nI_add _ _) ?_
        refine va_sld hx hb hX hbl hbA hS (vp_in_nI (show 6 * i + 3 < L by omega) (by omega)) d_law_law_282 ?_
        refine ps_top (z := xs (6 * i + 3)) (by rw [nI_clamp (show 6 * i + 3 < 2 ^ 31 by omega)]) ?_
        refine lv_aload_n hx hb d_law_law_283 rfl (lv_at hl 3 rfl) ?_
        refine lv_iload_n hx hb d_law_law_284 rfl (lv_at hl 0 rfl) ?_
        refine lv_iconst (v := nI 4) hx hb d_law_law_285 (by decide) ?_
        refine lv_iadd hx hb d_law_law_286 ?_
        refine ps_top (z := nI (6 * i + 4)) (nI_add _ _) ?_
        refine va_sld hx hb hX hbl hbA hS (vp_in_nI (show 6 * i + 4 < L by omega) (by omega)) d_law_law_287 ?_
        refine ps_top (z := xs (6 * i + 4)) (by rw [nI_clamp (show 6 * i + 4 < 2 ^ 31 by omega)]) ?_
        refine ps_afterI (wc := pw cI a q K S ck cu F N) (wr := mw cI cB cS cZ b K S ck cu F X) hP hD hS hA [0, 1, 2, 3, 4, 5, 6, 7, 8, 9, 10, 11, 12, 13, 14, 15, 16, 17, 18, 19, 20, 21, 22, 23, 24, 25, 26, 27, 28, 29, 30, 31, 32, 33, 34, 35, 36, 37, 38, 39] [40, 41, 42, 43, 44, 45, 46, 47, 48, 49, 50, 51, 52, 53, 54, 55, 56, 57, 58] lw_s1 lw_s2 (by decide) (by decide) (ps_runVI ⟨hx, hb, hml, hown, hts⟩ (c_set l dC dI cI tys ht a q K S ck cu F N hw hKb hSb (xs (6 * i + 1)) (xs (6 * i + 2)) (xs (6 * i + 3)) (xs (6 * i + 4)) hrw hk1 (T S 1) (T S 5) (by omega) (by omega) htF hbF (0) (0) (fun _ _ q => absurd hC9 q) (fun _ q => absurd hB9 q)) (ps_cwV ps_gd 4 hts tw_454 k_PS_set e_PS_set ⟨Nat.le_of_ble_eq_true rfl, Nat.le_of_ble_eq_true rfl⟩) hK hP hD [0, 1, 2, 3, 4, 5, 6, 7, 8, 9, 10, 11, 12, 13, 14, 15, 16, 17, 18, 19, 20, 21, 22, 23, 24, 25, 26, 27, 28, 29, 30, 31, 32, 33, 34, 35, 36, 37, 38, 39] (by decide) lw_s1 0 cPS rfl rfl rfl hl.1 rfl (Nat.le_of_ble_eq_true rfl) d_law_law_288 ⟨by show 100 + ps_L N + (0) ≤ 600000; omega, by show 440000 + ps_Y N + (0) ≤ 7302250; omega⟩) (fun r1 u1 H locs h1 hP hD hS => ?_)
        obtain ⟨hr1, hu1⟩ := ((h1.y hA9).y hB9).y hC9
        subst hr1
        subst hu1
        refine lv_aload_n hx hb d_law_law_291 rfl (lv_at hl 1 rfl) ?_
        refine lv_aload_n hx hb d_law_law_292 rfl (lv_at hl 3 rfl) ?_
        refine lv_iload_n hx hb d_law_law_293 rfl (lv_at hl 0 rfl) ?_
        refine lv_iconst (v := nI 1) hx hb d_law_law_294 (by decide) ?_
        refine lv_iadd hx hb d_law_law_295 ?_
        refine ps_top (z := nI (6 * i + 1)) (nI_add _ _) ?_
        refine va_sld hx hb hX hbl hbA hS (vp_in_nI (show 6 * i + 1 < L by omega) (by omega)) d_law_law_296 ?_
        refine ps_top (z := xs (6 * i + 1)) (by rw [nI_clamp (show 6 * i + 1 < 2 ^ 31 by omega)]) ?_
        refine lv_aload_n hx hb d_law_law_297 rfl (lv_at hl 3 rfl) ?_
        refine lv_iload_n hx hb d_law_law_298 rfl (lv_at hl 0 rfl) ?_
        refine lv_iconst (v := nI 2) hx hb d_law_law_299 (by decide) ?_
        refine lv_iadd hx hb d_law_law_300 ?_
        refine ps_top (z := nI (6 * i + 2)) (nI_add _ _) ?_
        refine va_sld hx hb hX hbl hbA hS (vp_in_nI (show 6 * i + 2 < L by omega) (by omega)) d_law_law_301 ?_
        refine ps_top (z := xs (6 * i + 2)) (by rw [nI_clamp (show 6 * i + 2 < 2 ^ 31 by omega)]) ?_
        refine lv_aload_n hx hb d_law_law_302 rfl (lv_at hl 3 rfl) ?_
        refine lv_iload_n hx hb d_law_law_303 rfl (lv_at hl 0 rfl) ?_
        refine lv_iconst (v := nI 3) hx hb d_law_law_304 (by decide) ?_
        refine lv_iadd hx hb d_law_law_305 ?_
        refine ps_top (z := nI (6 * i + 3)) (nI_add _ _) ?_
        refine va_sld hx hb hX hbl hbA hS (vp_in_nI (show 6 * i + 3 < L by omega) (by omega)) d_law_law_306 ?_
        refine ps_top (z := xs (6 * i + 3)) (by rw [nI_clamp (show 6 * i + 3 < 2 ^ 31 by omega)]) ?_
        refine lv_aload_n hx hb d_law_law_307 rfl (lv_at hl 3 rfl) ?_
        refine lv_iload_n hx hb d_law_law_308 rfl (lv_at hl 0 rfl) ?_
        refine lv_iconst (v := nI 4) hx hb d_law_law_309 (by decide) ?_
        refine lv_iadd hx hb d_law_law_310 ?_
        refine ps_top (z := nI (6 * i + 4)) (nI_add _ _) ?_
        refine va_sld hx hb hX hbl hbA hS (vp_in_nI (show 6 * i + 4 < L by omega) (by omega)) d_law_law_311 ?_
        refine ps_top (z := xs (6 * i + 4)) (by rw [nI_clamp (show 6 * i + 4 < 2 ^ 31 by omega)]) ?_
        refine ps_afterI (wc := mw cI cB cS cZ b K S ck cu F X) (wr := pw cI a q K S ck cu F N) hP hD hS hA [0, 1, 2, 3, 4, 5, 6, 7, 8, 9, 10, 11, 12, 13, 14, 15, 16, 17, 18] [19, 20, 21, 22, 23, 24, 25, 26, 27, 28, 29, 30, 31, 32, 33, 34, 35, 36, 37, 38, 39, 40, 41, 42, 43, 44, 45, 46, 47, 48, 49, 50, 51, 52, 53, 54, 55, 56, 57, 58] lw_s3 lw_s4 (by decide) (by decide) (ps_runVI ⟨hx, hb, hml, hown, hts⟩ (m_set l dC dI cI tys ht cB cS cZ htB htS htZ b K S ck cu F X hKb hSb (xs (6 * i + 1)) (xs (6 * i + 2)) (xs (6 * i + 3)) (xs (6 * i + 4)) hk0 hk1 hrw (T S 1) (T S 5) (by omega) hb9 hk5 (fun q => htX q (by decide)) htB9 (fun j => (hIP j).1)) (ps_cwV ps_gd 4 hts tw_455 k_Mod_set e_Mod_set ⟨Nat.le_of_ble_eq_true rfl, Nat.le_of_ble_eq_true rfl⟩) hK hP hD [0, 1, 2, 3, 4, 5, 6, 7, 8, 9, 10, 11, 12, 13, 14, 15, 16, 17, 18] (by decide) lw_s3 0 cMod rfl rfl rfl hl.1 rfl (Nat.le_of_ble_eq_true rfl) d_law_law_312 ⟨by show 100 + ps_L N + (0) + 0 ≤ 600000; omega, by show 440000 + ps_Y N + (0) + 0 ≤ 7302250; omega⟩) (fun r2 u2 H locs h2 hP hD hS => ?_)
        obtain ⟨hr2, hu2⟩ := ((h2.y hA9).y (hmo.mp hB9)).y hC9
        subst hr2
        subst hu2
        refine lv_icmp_eq (tgt := 795) hx hb d_law_law_315 (by decide) (fun c_1 => ?_) (fun c_1 => ?_)
        · refine W.widen (k := 100 + ps_L N) (n := 440000 + ps_Y N) (by show 100 + ps_L N + (0) + 0 ≤ _; omega) (by show 440000 + ps_Y N + (0) + 0 ≤ _; omega) ?_
          exact ih _ _ _ _ _ _ _ _ _ _ _ ls hI2 hl hP hD hS
        · exact absurd rfl c_1
      · have hix := (ps_ok_ix hKb hrw (Or.inl rfl) hA9.1).2
        have hb15 := li_k15 hA9.2
        have hmo := li_must1 (S := S) (t := T S 1) (b := T S 5) (i := ps_ix F (xs (6 * i + 1)) (xs (6 * i + 2))) hIM hw (by omega)
        have hcL := li_cm2_L (N := N) (K 5) (ps_ix F (xs (6 * i + 1)) (xs (6 * i + 2)))
        have hcY := li_cm2_Y (K 5) (ps_ix F (xs (6 * i + 1)) (xs (6 * i + 2))) hw (by omega) (by omega)
        have hI2 : li_I (va_up K 5 (K 5 + 1)) S (ps_Fv (ps_Fm F (K 5) (nI 1) (ps_ix F (xs (6 * i + 1)) (xs (6 * i + 2))) (F 2 (ps_ix F (xs (6 * i + 1)) (xs (6 * i + 2)))) (F 3 (ps_ix F (xs (6 * i + 1)) (xs (6 * i + 2))))) 2 (ps_ix F (xs (6 * i + 1)) (xs (6 * i + 2))) (xs (6 * i + 3)) (xs (6 * i + 4))) (ps_Nv (ps_Nm N (K 5)) 2 (ps_ix F (xs (6 * i + 1)) (xs (6 * i + 2)))) T (mo_Xp X (K 5) (ps_ix F (xs (6 * i + 1)) (xs (6 * i + 2))) (F 2 (ps_ix F (xs (6 * i + 1)) (xs (6 * i + 2)))) (F 3 (ps_ix F (xs (6 * i + 1)) (xs (6 * i + 2))))) := li_mset hI _ (by omega) hb15.1 hC9
        have hRL2 := ps_L_le hI2.2.1
        have hRY2 := ps_Y_le hI2.2.1
        refine lv_aload_n hx hb d_law_law_267 rfl (lv_at hl 2 rfl) ?_
        refine lv_aload_n hx hb d_law_law_268 rfl (lv_at hl 3 rfl) ?_
        refine lv_iload_n hx hb d_law_law_269 rfl (lv_at hl 0 rfl) ?_
        refine lv_iconst (v := nI 1) hx hb d_law_law_270 (by decide) ?_
        refine lv_iadd hx hb d_law_law_271 ?_
        refine ps_top (z := nI (6 * i + 1)) (nI_add _ _) ?_
        refine va_sld hx hb hX hbl hbA hS (vp_in_nI (show 6 * i + 1 < L by omega) (by omega)) d_law_law_272 ?_
        refine ps_top (z := xs (6 * i + 1)) (by rw [nI_clamp (show 6 * i + 1 < 2 ^ 31 by omega)]) ?_
        refine lv_aload_n hx hb d_law_law_273 rfl (lv_at hl 3 rfl) ?_
        refine lv_iload_n hx hb d_law_law_274 rfl (lv_at hl 0 rfl) ?_
        refine lv_iconst (v := nI 2) hx hb d_law_law_275 (by decide) ?_
        refine lv_iadd hx hb d_law_law_276 ?_
        refine ps_top (z := nI (6 * i + 2)) (nI_add _ _) ?_
        refine va_sld hx hb hX hbl hbA hS (vp_in_nI (show 6 * i + 2 < L by omega) (by omega)) d_law_law_277 ?_
        refine ps_top (z := xs (6 * i + 2)) (by rw [nI_clamp (show 6 * i + 2 < 2 ^ 31 by omega)]) ?_
        refine lv_aload_n hx hb d_law_law_278 rfl (lv_at hl 3 rfl) ?_
        refine lv_iload_n hx hb d_law_law_279 rfl (lv_at hl 0 rfl) ?_
        refine lv_iconst (v := nI 3) hx hb d_law_law_280 (by decide) ?_
        refine lv_iadd hx hb d_law_law_281 ?_
        refine ps_top (z := nI (6 * i + 3)) (nI_add _ _) ?_
        refine va_sld hx hb hX hbl hbA hS (vp_in_nI (show 6 * i + 3 < L by omega) (by omega)) d_law_law_282 ?_
        refine ps_top (z := xs (6 * i + 3)) (by rw [nI_clamp (show 6 * i + 3 < 2 ^ 31 by omega)]) ?_
        refine lv_aload_n hx hb d_law_law_283 rfl (lv_at hl 3 rfl) ?_
        refine lv_iload_n hx hb d_law_law_284 rfl (lv_at hl 0 rfl) ?_
        refine lv_iconst (v := nI 4) hx hb d_law_law_285 (by decide) ?_
        refine lv_iadd hx hb d_law_law_286 ?_
        refine ps_top (z := nI (6 * i + 4)) (nI_add _ _) ?_
        refine va_sld hx hb hX hbl hbA hS (vp_in_nI (show 6 * i + 4 < L by omega) (by omega)) d_law_law_287 ?_
        refine ps_top (z := xs (6 * i + 4)) (by rw [nI_clamp (show 6 * i + 4 < 2 ^ 31 by omega)]) ?_
        refine ps_afterI (wc := pw cI a q K S ck cu F N) (wr := mw cI cB cS cZ b K S ck cu F X) hP hD hS hA [0, 1, 2, 3, 4, 5, 6, 7, 8, 9, 10, 11, 12, 13, 14, 15, 16, 17, 18, 19, 20, 21, 22, 23, 24, 25, 26, 27, 28, 29, 30, 31, 32, 33, 34, 35, 36, 37, 38, 39] [40, 41, 42, 43, 44, 45, 46, 47, 48, 49, 50, 51, 52, 53, 54, 55, 56, 57, 58] lw_s1 lw_s2 (by decide) (by decide) (ps_runVI ⟨hx, hb, hml, hown, hts⟩ (c_set l dC dI cI tys ht a q K S ck cu F N hw hKb hSb (xs (6 * i + 1)) (xs (6 * i + 2)) (xs (6 * i + 3)) (xs (6 * i + 4)) hrw hk1 (T S 1) (T S 5) (by omega) (by omega) htF hbF (ps_mc N (K 5) + ps_vc 32768 N 2 (ps_ix F (xs (6 * i + 1)) (xs (6 * i + 2)))) (ps_ms N (K 5) + ps_vs 32768 N 2 (ps_ix F (xs (6 * i + 1)) (xs (6 * i + 2)))) (fun _ _ _ => ⟨Nat.le_refl _, Nat.le_refl _⟩) (fun _ q => absurd hB9 q)) (ps_cwV ps_gd 4 hts tw_454 k_PS_set e_PS_set ⟨Nat.le_of_ble_eq_true rfl, Nat.le_of_ble_eq_true rfl⟩) hK hP hD [0, 1, 2, 3, 4, 5, 6, 7, 8, 9, 10, 11, 12, 13, 14, 15, 16, 17, 18, 19, 20, 21, 22, 23, 24, 25, 26, 27, 28, 29, 30, 31, 32, 33, 34, 35, 36, 37, 38, 39] (by decide) lw_s1 0 cPS rfl rfl rfl hl.1 rfl (Nat.le_of_ble_eq_true rfl) d_law_law_288 ⟨by show 100 + ps_L N + (ps_mc N (K 5) + ps_vc 32768 N 2 (ps_ix F (xs (6 * i + 1)) (xs (6 * i + 2)))) ≤ 600000; omega, by show 440000 + ps_Y N + (ps_ms N (K 5) + ps_vs 32768 N 2 (ps_ix F (xs (6 * i + 1)) (xs (6 * i + 2)))) ≤ 7302250; omega⟩) (fun r1 u1 H locs h1 hP hD hS => ?_)
        obtain ⟨q1, hr1, hu1⟩ := ((h1.y hA9).y hB9).n hC9
        subst hr1
        subst hu1
        refine lv_aload_n hx hb d_law_law_291 rfl (lv_at hl 1 rfl) ?_
        refine lv_aload_n hx hb d_law_law_292 rfl (lv_at hl 3 rfl) ?_
        refine lv_iload_n hx hb d_law_law_293 rfl (lv_at hl 0 rfl) ?_
        refine lv_iconst (v := nI 1) hx hb d_law_law_294 (by decide) ?_
        refine lv_iadd hx hb d_law_law_295 ?_
        refine ps_top (z := nI (6 * i + 1)) (nI_add _ _) ?_
        refine va_sld hx hb hX hbl hbA hS (vp_in_nI (show 6 * i + 1 < L by omega) (by omega)) d_law_law_296 ?_
        refine ps_top (z := xs (6 * i + 1)) (by rw [nI_clamp (show 6 * i + 1 < 2 ^ 31 by omega)]) ?_
        refine lv_aload_n hx hb d_law_law_297 rfl (lv_at hl 3 rfl) ?_
        refine lv_iload_n hx hb d_law_law_298 rfl (lv_at hl 0 rfl) ?_
        refine lv_iconst (v := nI 2) hx hb d_law_law_299 (by decide) ?_
        refine lv_iadd hx hb d_law_law_300 ?_
        refine ps_top (z := nI (6 * i + 2)) (nI_add _ _) ?_
        refine va_sld hx hb hX hbl hbA hS (vp_in_nI (show 6 * i + 2 < L by omega) (by omega)) d_law_law_301 ?_
        refine ps_top (z := xs (6 * i + 2)) (by rw [nI_clamp (show 6 * i + 2 < 2 ^ 31 by omega)]) ?_
        refine lv_aload_n hx hb d_law_law_302 rfl (lv_at hl 3 rfl) ?_
        refine lv_iload_n hx hb d_law_law_303 rfl (lv_at hl 0 rfl) ?_
        refine lv_iconst (v := nI 3) hx hb d_law_law_304 (by decide) ?_
        refine lv_iadd hx hb d_law_law_305 ?_
        refine ps_top (z := nI (6 * i + 3)) (nI_add _ _) ?_
        refine va_sld hx hb hX hbl hbA hS (vp_in_nI (show 6 * i + 3 < L by omega) (by omega)) d_law_law_306 ?_
        refine ps_top (z := xs (6 * i + 3)) (by rw [nI_clamp (show 6 * i + 3 < 2 ^ 31 by omega)]) ?_
        refine lv_aload_n hx hb d_law_law_307 rfl (lv_at hl 3 rfl) ?_
        refine lv_iload_n hx hb d_law_law_308 rfl (lv_at hl 0 rfl) ?_
        refine lv_iconst (v := nI 4) hx hb d_law_law_309 (by decide) ?_
        refine lv_iadd hx hb d_law_law_310 ?_
        refine ps_top (z := nI (6 * i + 4)) (nI_add _ _) ?_
        refine va_sld hx hb hX hbl hbA hS (vp_in_nI (show 6 * i + 4 < L by omega) (by omega)) d_law_law_311 ?_
        refine ps_top (z := xs (6 * i + 4)) (by rw [nI_clamp (show 6 * i + 4 < 2 ^ 31 by omega)]) ?_
        refine ps_afterI (wc := mw cI cB cS cZ b K S ck cu F X) (wr := pw cI a q1 (va_up K 5 (K 5 + 1)) S ck cu (ps_Fv (ps_Fm F (K 5) (nI 1) (ps_ix F (xs (6 * i + 1)) (xs (6 * i + 2))) (F 2 (ps_ix F (xs (6 * i + 1)) (xs (6 * i + 2)))) (F 3 (ps_ix F (xs (6 * i + 1)) (xs (6 * i + 2))))) 2 (ps_ix F (xs (6 * i + 1)) (xs (6 * i + 2))) (xs (6 * i + 3)) (xs (6 * i + 4))) (ps_Nv (ps_Nm N (K 5)) 2 (ps_ix F (xs (6 * i + 1)) (xs (6 * i + 2))))) hP hD hS hA [0, 1, 2, 3, 4, 5, 6, 7, 8, 9, 10, 11, 12, 13, 14, 15, 16, 17, 18] [19, 20, 21, 22, 23, 24, 25, 26, 27, 28, 29, 30, 31, 32, 33, 34, 35, 36, 37, 38, 39, 40, 41, 42, 43, 44, 45, 46, 47, 48, 49, 50, 51, 52, 53, 54, 55, 56, 57, 58] lw_s3 lw_s4 (by decide) (by decide) (ps_runVI ⟨hx, hb, hml, hown, hts⟩ (m_set l dC dI cI tys ht cB cS cZ htB htS htZ b K S ck cu F X hKb hSb (xs (6 * i + 1)) (xs (6 * i + 2)) (xs (6 * i + 3)) (xs (6 * i + 4)) hk0 hk1 hrw (T S 1) (T S 5) (by omega) hb9 hk5 (fun q => htX q (by decide)) htB9 (fun j => (hIP j).1)) (ps_cwV ps_gd 4 hts tw_455 k_Mod_set e_Mod_set ⟨Nat.le_of_ble_eq_true rfl, Nat.le_of_ble_eq_true rfl⟩) hK hP hD [0, 1, 2, 3, 4, 5, 6, 7, 8, 9, 10, 11, 12, 13, 14, 15, 16, 17, 18] (by decide) lw_s3 0 cMod rfl rfl rfl hl.1 rfl (Nat.le_of_ble_eq_true rfl) d_law_law_312 ⟨by show 100 + ps_L N + (ps_mc N (K 5) + ps_vc 32768 N 2 (ps_ix F (xs (6 * i + 1)) (xs (6 * i + 2)))) + 0 ≤ 600000; omega, by show 440000 + ps_Y N + (ps_ms N (K 5) + ps_vs 32768 N 2 (ps_ix F (xs (6 * i + 1)) (xs (6 * i + 2)))) + 0 ≤ 7302250; omega⟩) (fun r2 u2 H locs h2 hP hD hS => ?_)
        obtain ⟨hr2, hu2⟩ := ((h2.y hA9).y (hmo.mp hB9)).n hC9
        subst hr2
        subst hu2
        refine lv_icmp_eq (tgt := 795) hx hb d_law_law_315 (by decide) (fun c_2 => ?_) (fun c_2 => ?_)
        · refine W.widen (k := 100 + ps_L (ps_Nv (ps_Nm N (K 5)) 2 (ps_ix F (xs (6 * i + 1)) (xs (6 * i + 2))))) (n := 440000 + ps_Y (ps_Nv (ps_Nm N (K 5)) 2 (ps_ix F (xs (6 * i + 1)) (xs (6 * i + 2))))) (by show 100 + ps_L N + (ps_mc N (K 5) + ps_vc 32768 N 2 (ps_ix F (xs (6 * i + 1)) (xs (6 * i + 2)))) + 0 ≤ _; omega) (by show 440000 + ps_Y N + (ps_ms N (K 5) + ps_vs 32768 N 2 (ps_ix F (xs (6 * i + 1)) (xs (6 * i + 2)))) + 0 ≤ _; omega) ?_
          exact ih _ _ _ _ _ _ _ _ _ _ _ ls hI2 hl hP hD hS
        · exact absurd rfl c_2
    · have hix := (ps_ok_ix hKb hrw (Or.inl rfl) hA9.1).2
      have hb15 := li_k15 hA9.2
      have hmo := li_must1 (S := S) (t := T S 1) (b := T S 5) (i := ps_ix F (xs (6 * i + 1)) (xs (6 * i + 2))) hIM hw (by omega)
      have hcL := li_c2_L (N := N) (ps_ix F (xs (6 * i + 1)) (xs (6 * i + 2)))
      have hcY := li_c2_Y (ps_ix F (xs (6 * i + 1)) (xs (6 * i + 2))) hw (by omega)
      have hI2 : li_I K S (ps_Fv F 2 (ps_ix F (xs (6 * i + 1)) (xs (6 * i + 2))) (xs (6 * i + 3)) (xs (6 * i + 4))) (ps_Nv N 2 (ps_ix F (xs (6 * i + 1)) (xs (6 * i + 2)))) T X := li_set hI _ (by omega) hb15.1
      have hRL2 := ps_L_le hI2.2.1
      have hRY2 := ps_Y_le hI2.2.1
      refine lv_aload_n hx hb d_law_law_267 rfl (lv_at hl 2 rfl) ?_
      refine lv_aload_n hx hb d_law_law_268 rfl (lv_at hl 3 rfl) ?_
      refine lv_iload_n hx hb d_law_law_269 rfl (lv_at hl 0 rfl) ?_
      refine lv_iconst (v := nI 1) hx hb d_law_law_270 (by decide) ?_
      refine lv_iadd hx hb d_law_law_271 ?_
      refine ps_top (z := nI (6 * i + 1)) (nI_add _ _) ?_
      refine va_sld hx hb hX hbl hbA hS (vp_in_nI (show 6 * i + 1 < L by omega) (by omega)) d_law_law_272 ?_
      refine ps_top (z := xs (6 * i + 1)) (by rw [nI_clamp (show 6 * i + 1 < 2 ^ 31 by omega)]) ?_
      refine lv_aload_n hx hb d_law_law_273 rfl (lv_at hl 3 rfl) ?_
      refine lv_iload_n hx hb d_law_law_274 rfl (lv_at hl 0 rfl) ?_
      refine lv_iconst (v := nI 2) hx hb d_law_law_275 (by decide) ?_
      refine lv_iadd hx hb d_law_law_276 ?_
      refine ps_top (z := nI (6 * i + 2)) (nI_add _ _) ?_
      refine va_sld hx hb hX hbl hbA hS (vp_in_nI (show 6 * i + 2 < L by omega) (by omega)) d_law_law_277 ?_
      refine ps_top (z := xs (6 * i + 2)) (by rw [nI_clamp (show 6 * i + 2 < 2 ^ 31 by omega)]) ?_
      refine lv_aload_n hx hb d_law_law_278 rfl (lv_at hl 3 rfl) ?_
      refine lv_iload_n hx hb d_law_law_279 rfl (lv_at hl 0 rfl) ?_
      refine lv_iconst (v := nI 3) hx hb d_law_law_280 (by decide) ?_
      refine lv_iadd hx hb d_law_law_281 ?_
      refine ps_top (z := nI (6 * i + 3)) (nI_add _ _) ?_
      refine va_sld hx hb hX hbl hbA hS (vp_in_nI (show 6 * i + 3 < L by omega) (by omega)) d_law_law_282 ?_
      refine ps_top (z := xs (6 * i + 3)) (by rw [nI_clamp (show 6 * i + 3 < 2 ^ 31 by omega)]) ?_
      refine lv_aload_n hx hb d_law_law_283 rfl (lv_at hl 3 rfl) ?_
      refine lv_iload_n hx hb d_law_law_284 rfl (lv_at hl 0 rfl) ?_
      refine lv_iconst (v := nI 4) hx hb d_law_law_285 (by decide) ?_
      refine lv_iadd hx hb d_law_law_286 ?_
      refine ps_top (z := nI (6 * i + 4)) (nI_add _ _) ?_
      refine va_sld hx hb hX hbl hbA hS (vp_in_nI (show 6 * i + 4 < L by omega) (by omega)) d_law_law_287 ?_
      refine ps_top (z := xs (6 * i + 4)) (by rw [nI_clamp (show 6 * i + 4 < 2 ^ 31 by omega)]) ?_
      refine ps_afterI (wc := pw cI a q K S ck cu F N) (wr := mw cI cB cS cZ b K S ck cu F X) hP hD hS hA [0, 1, 2, 3, 4, 5, 6, 7, 8, 9, 10, 11, 12, 13, 14, 15, 16, 17, 18, 19, 20, 21, 22, 23, 24, 25, 26, 27, 28, 29, 30, 31, 32, 33, 34, 35, 36, 37, 38, 39] [40, 41, 42, 43, 44, 45, 46, 47, 48, 49, 50, 51, 52, 53, 54, 55, 56, 57, 58] lw_s1 lw_s2 (by decide) (by decide) (ps_runVI ⟨hx, hb, hml, hown, hts⟩ (c_set l dC dI cI tys ht a q K S ck cu F N hw hKb hSb (xs (6 * i + 1)) (xs (6 * i + 2)) (xs (6 * i + 3)) (xs (6 * i + 4)) hrw hk1 (T S 1) (T S 5) (by omega) (by omega) htF hbF (ps_vc 32768 N 2 (ps_ix F (xs (6 * i + 1)) (xs (6 * i + 2)))) (ps_vs 32768 N 2 (ps_ix F (xs (6 * i + 1)) (xs (6 * i + 2)))) (fun _ q => absurd q hB9) (fun _ _ => ⟨Nat.le_refl _, Nat.le_refl _⟩)) (ps_cwV ps_gd 4 hts tw_454 k_PS_set e_PS_set ⟨Nat.le_of_ble_eq_true rfl, Nat.le_of_ble_eq_true rfl⟩) hK hP hD [0, 1, 2, 3, 4, 5, 6, 7, 8, 9, 10, 11, 12, 13, 14, 15, 16, 17, 18, 19, 20, 21, 22, 23, 24, 25, 26, 27, 28, 29, 30, 31, 32, 33, 34, 35, 36, 37, 38, 39] (by decide) lw_s1 0 cPS rfl rfl rfl hl.1 rfl (Nat.le_of_ble_eq_true rfl) d_law_law_288 ⟨by show 100 + ps_L N + (ps_vc 32768 N 2 (ps_ix F (xs (6 * i + 1)) (xs (6 * i + 2)))) ≤ 600000; omega, by show 440000 + ps_Y N + (ps_vs 32768 N 2 (ps_ix F (xs (6 * i + 1)) (xs (6 * i + 2)))) ≤ 7302250; omega⟩) (fun r1 u1 H locs h1 hP hD hS => ?_)
      obtain ⟨q1, hr1, hu1⟩ := (h1.y hA9).n hB9
      subst hr1
      subst hu1
      refine lv_aload_n hx hb d_law_law_291 rfl (lv_at hl 1 rfl) ?_
      refine lv_aload_n hx hb d_law_law_292 rfl (lv_at hl 3 rfl) ?_
      refine lv_iload_n hx hb d_law_law_293 rfl (lv_at hl 0 rfl) ?_
      refine lv_iconst (v := nI 1) hx hb d_law_law_294 (by decide) ?_
      refine lv_iadd hx hb d_law_law_295 ?_
      refine ps_top (z := nI (6 * i + 1)) (nI_add _ _) ?_
      refine va_sld hx hb hX hbl hbA hS (vp_in_nI (show 6 * i + 1 < L by omega) (by omega)) d_law_law_296 ?_
      refine ps_top (z := xs (6 * i + 1)) (by rw [nI_clamp (show 6 * i + 1 < 2 ^ 31 by omega)]) ?_
      refine lv_aload_n hx hb d_law_law_297 rfl (lv_at hl 3 rfl) ?_
      refine lv_iload_n hx hb d_law_law_298 rfl (lv_at hl 0 rfl) ?_
      refine lv_iconst (v := nI 2) hx hb d_law_law_299 (by decide) ?_
      refine lv_iadd hx hb d_law_law_300 ?_
      refine ps_top (z := nI (6 * i + 2)) (nI_add _ _) ?_
      refine va_sld hx hb hX hbl hbA hS (vp_in_nI (show 6 * i + 2 < L by omega) (by omega)) d_law_law_301 ?_
      refine ps_top (z := xs (6 * i + 2)) (by rw [nI_clamp (show 6 * i + 2 < 2 ^ 31 by omega)]) ?_
      refine lv_aload_n hx hb d_law_law_302 rfl (lv_at hl 3 rfl) ?_
      refine lv_iload_n hx hb d_law_law_303 rfl (lv_at hl 0 rfl) ?_
      refine lv_iconst (v := nI 3) hx hb d_law_law_304 (by decide) ?_
      refine lv_iadd hx hb d_law_law_305 ?_
      refine ps_top (z := nI (6 * i + 3)) (nI_add _ _) ?_
      refine va_sld hx hb hX hbl hbA hS (vp_in_nI (show 6 * i + 3 < L by omega) (by omega)) d_law_law_306 ?_
      refine ps_top (z := xs (6 * i + 3)) (by rw [nI_clamp (show 6 * i + 3 < 2 ^ 31 by omega)]) ?_
      refine lv_aload_n hx hb d_law_law_307 rfl (lv_at hl 3 rfl) ?_
      refine lv_iload_n hx hb d_law_law_308 rfl (lv_at hl 0 rfl) ?_
      refine lv_iconst (v := nI 4) hx hb d_law_law_309 (by decide) ?_
      refine lv_iadd hx hb d_law_law_310 ?_
      refine ps_top (z := nI (6 * i + 4)) (nI_add _ _) ?_
      refine va_sld hx hb hX hbl hbA hS (vp_in_nI (show 6 * i + 4 < L by omega) (by omega)) d_law_law_311 ?_
      refine ps_top (z := xs (6 * i + 4)) (by rw [nI_clamp (show 6 * i + 4 < 2 ^ 31 by omega)]) ?_
      refine ps_afterI (wc := mw cI cB cS cZ b K S ck cu F X) (wr := pw cI a q1 K S ck cu (ps_Fv F 2 (ps_ix F (xs (6 * i + 1)) (xs (6 * i + 2))) (xs (6 * i + 3)) (xs (6 * i + 4))) (ps_Nv N 2 (ps_ix F (xs (6 * i + 1)) (xs (6 * i + 2))))) hP hD hS hA [0, 1, 2, 3, 4, 5, 6, 7, 8, 9, 10, 11, 12, 13, 14, 15, 16, 17, 18] [19, 20, 21, 22, 23, 24, 25, 26, 27, 28, 29, 30, 31, 32, 33, 34, 35, 36, 37, 38, 39, 40, 41, 42, 43, 44, 45, 46, 47, 48, 49, 50, 51, 52, 53, 54, 55, 56, 57, 58] lw_s3 lw_s4 (by decide) (by decide) (ps_runVI ⟨hx, hb, hml, hown, hts⟩ (m_set l dC dI cI tys ht cB cS cZ htB htS htZ b K S ck cu F X hKb hSb (xs (6 * i + 1)) (xs (6 * i + 2)) (xs (6 * i + 3)) (xs (6 * i + 4)) hk0 hk1 hrw (T S 1) (T S 5) (by omega) hb9 hk5 (fun q => htX q (by decide)) htB9 (fun j => (hIP j).1)) (ps_cwV ps_gd 4 hts tw_455 k_Mod_set e_Mod_set ⟨Nat.le_of_ble_eq_true rfl, Nat.le_of_ble_eq_true rfl⟩) hK hP hD [0, 1, 2, 3, 4, 5, 6, 7, 8, 9, 10, 11, 12, 13, 14, 15, 16, 17, 18] (by decide) lw_s3 0 cMod rfl rfl rfl hl.1 rfl (Nat.le_of_ble_eq_true rfl) d_law_law_312 ⟨by show 100 + ps_L N + (ps_vc 32768 N 2 (ps_ix F (xs (6 * i + 1)) (xs (6 * i + 2)))) + 0 ≤ 600000; omega, by show 440000 + ps_Y N + (ps_vs 32768 N 2 (ps_ix F (xs (6 * i + 1)) (xs (6 * i + 2)))) + 0 ≤ 7302250; omega⟩) (fun r2 u2 H locs h2 hP hD hS => ?_)
      obtain ⟨hr2, hu2⟩ := (h2.y hA9).n (fun q => hB9 (hmo.mpr q))
      subst hr2
      subst hu2
      refine lv_icmp_eq (tgt := 795) hx hb d_law_law_315 (by decide) (fun c_3 => ?_) (fun c_3 => ?_)
      · refine W.widen (k := 100 + ps_L (ps_Nv N 2 (ps_ix F (xs (6 * i + 1)) (xs (6 * i + 2))))) (n := 440000 + ps_Y (ps_Nv N 2 (ps_ix F (xs (6 * i + 1)) (xs (6 * i + 2))))) (by show 100 + ps_L N + (ps_vc 32768 N 2 (ps_ix F (xs (6 * i + 1)) (xs (6 * i + 2)))) + 0 ≤ _; omega) (by show 440000 + ps_Y N + (ps_vs 32768 N 2 (ps_ix F (xs (6 * i + 1)) (xs (6 * i + 2)))) + 0 ≤ _; omega) ?_
        exact ih _ _ _ _ _ _ _ _ _ _ _ ls hI2 hl hP hD hS
      · exact absurd rfl c_3
  · have hI2 : li_I K S F N T X := hI
    have hRL2 := ps_L_le hI2.2.1
    have hRY2 := ps_Y_le hI2.2.1
    refine lv_aload_n hx hb d_law_law_267 rfl (lv_at hl 2 rfl) ?_
    refine lv_aload_n hx hb d_law_law_268 rfl (lv_at hl 3 rfl) ?_
    refine lv_iload_n hx hb d_law_law_269 rfl (lv_at hl 0 rfl) ?_
    refine lv_iconst (v := nI 1) hx hb d_law_law_270 (by decide) ?_
    refine lv_iadd hx hb d_law_law_271 ?_
    refine ps_top (z := nI (6 * i + 1)) (nI_add _ _) ?_
    refine va_sld hx hb hX hbl hbA hS (vp_in_nI (show 6 * i + 1 < L by omega) (by omega)) d_law_law_272 ?_
    refine ps_top (z := xs (6 * i + 1)) (by rw [nI_clamp (show 6 * i + 1 < 2 ^ 31 by omega)]) ?_
    refine lv_aload_n hx hb d_law_law_273 rfl (lv_at hl 3 rfl) ?_
    refine lv_iload_n hx hb d_law_law_274 rfl (lv_at hl 0 rfl) ?_
    refine lv_iconst (v := nI 2) hx hb d_law_law_275 (by decide) ?_
    refine lv_iadd hx hb d_law_law_276 ?_
    refine ps_top (z := nI (6 * i + 2)) (nI_add _ _) ?_
    refine va_sld hx hb hX hbl hbA hS (vp_in_nI (show 6 * i + 2 < L by omega) (by omega)) d_law_law_277 ?_
    refine ps_top (z := xs (6 * i + 2)) (by rw [nI_clamp (show 6 * i + 2 < 2 ^ 31 by omega)]) ?_
    refine lv_aload_n hx hb d_law_law_278 rfl (lv_at hl 3 rfl) ?_
    refine lv_iload_n hx hb d_law_law_279 rfl (lv_at hl 0 rfl) ?_
    refine lv_iconst (v := nI 3) hx hb d_law_law_280 (by decide) ?_
    refine lv_iadd hx hb d_law_law_281 ?_
    refine ps_top (z := nI (6 * i + 3)) (nI_add _ _) ?_
    refine va_sld hx hb hX hbl hbA hS (vp_in_nI (show 6 * i + 3 < L by omega) (by omega)) d_law_law_282 ?_
    refine ps_top (z := xs (6 * i + 3)) (by rw [nI_clamp (show 6 * i + 3 < 2 ^ 31 by omega)]) ?_
    refine lv_aload_n hx hb d_law_law_283 rfl (lv_at hl 3 rfl) ?_
    refine lv_iload_n hx hb d_law_law_284 rfl (lv_at hl 0 rfl) ?_
    refine lv_iconst (v := nI 4) hx hb d_law_law_285 (by decide) ?_
    refine lv_iadd hx hb d_law_law_286 ?_
    refine ps_top (z := nI (6 * i + 4)) (nI_add _ _) ?_
    refine va_sld hx hb hX hbl hbA hS (vp_in_nI (show 6 * i + 4 < L by omega) (by omega)) d_law_law_287 ?_
    refine ps_top (z := xs (6 * i + 4)) (by rw [nI_clamp (show 6 * i + 4 < 2 ^ 31 by omega)]) ?_
    refine ps_afterI (wc := pw cI a q K S ck cu F N) (wr := mw cI cB cS cZ b K S ck cu F X) hP hD hS hA [0, 1, 2, 3, 4, 5, 6, 7, 8, 9, 10, 11, 12, 13, 14, 15, 16, 17, 18, 19, 20, 21, 22, 23, 24, 25, 26, 27, 28, 29, 30, 31, 32, 33, 34, 35, 36, 37, 38, 39] [40, 41, 42, 43, 44, 45, 46, 47, 48, 49, 50, 51, 52, 53, 54, 55, 56, 57, 58] lw_s1 lw_s2 (by decide) (by decide) (ps_runVI ⟨hx, hb, hml, hown, hts⟩ (c_set l dC dI cI tys ht a q K S ck cu F N hw hKb hSb (xs (6 * i + 1)) (xs (6 * i + 2)) (xs (6 * i + 3)) (xs (6 * i + 4)) hrw hk1 (T S 1) (T S 5) (by omega) (by omega) htF hbF (0) (0) (fun q => absurd q hA9) (fun q => absurd q hA9)) (ps_cwV ps_gd 4 hts tw_454 k_PS_set e_PS_set ⟨Nat.le_of_ble_eq_true rfl, Nat.le_of_ble_eq_true rfl⟩) hK hP hD [0, 1, 2, 3, 4, 5, 6, 7, 8, 9, 10, 11, 12, 13, 14, 15, 16, 17, 18, 19, 20, 21, 22, 23, 24, 25, 26, 27, 28, 29, 30, 31, 32, 33, 34, 35, 36, 37, 38, 39] (by decide) lw_s1 0 cPS rfl rfl rfl hl.1 rfl (Nat.le_of_ble_eq_true rfl) d_law_law_288 ⟨by show 100 + ps_L N + (0) ≤ 600000; omega, by show 440000 + ps_Y N + (0) ≤ 7302250; omega⟩) (fun r1 u1 H locs h1 hP hD hS => ?_)
    obtain ⟨hr1, hu1⟩ := h1.n hA9
    subst hr1
    subst hu1
    refine lv_aload_n hx hb d_law_law_291 rfl (lv_at hl 1 rfl) ?_
    refine lv_aload_n hx hb d_law_law_292 rfl (lv_at hl 3 rfl) ?_
    refine lv_iload_n hx hb d_law_law_293 rfl (lv_at hl 0 rfl) ?_
    refine lv_iconst (v := nI 1) hx hb d_law_law_294 (by decide) ?_
    refine lv_iadd hx hb d_law_law_295 ?_
    refine ps_top (z := nI (6 * i + 1)) (nI_add _ _) ?_
    refine va_sld hx hb hX hbl hbA hS (vp_in_nI (show 6 * i + 1 < L by omega) (by omega)) d_law_law_296 ?_
    refine ps_top (z := xs (6 * i + 1)) (by rw [nI_clamp (show 6 * i + 1 < 2 ^ 31 by omega)]) ?_
    refine lv_aload_n hx hb d_law_law_297 rfl (lv_at hl 3 rfl) ?_
    refine lv_iload_n hx hb d_law_law_298 rfl (lv_at hl 0 rfl) ?_
    refine lv_iconst (v := nI 2) hx hb d_law_law_299 (by decide) ?_
    refine lv_iadd hx hb d_law_law_300 ?_
    refine ps_top (z := nI (6 * i + 2)) (nI_add _ _) ?_
    refine va_sld hx hb hX hbl hbA hS (vp_in_nI (show 6 * i + 2 < L by omega) (by omega)) d_law_law_301 ?_
    refine ps_top (z := xs (6 * i + 2)) (by rw [nI_clamp (show 6 * i + 2 < 2 ^ 31 by omega)]) ?_
    refine lv_aload_n hx hb d_law_law_302 rfl (lv_at hl 3 rfl) ?_
    refine lv_iload_n hx hb d_law_law_303 rfl (lv_at hl 0 rfl) ?_
    refine lv_iconst (v := nI 3) hx hb d_law_law_304 (by decide) ?_
    refine lv_iadd hx hb d_law_law_305 ?_
    refine ps_top (z := nI (6 * i + 3)) (nI_add _ _) ?_
    refine va_sld hx hb hX hbl hbA hS (vp_in_nI (show 6 * i + 3 < L by omega) (by omega)) d_law_law_306 ?_
    refine ps_top (z := xs (6 * i + 3)) (by rw [nI_clamp (show 6 * i + 3 < 2 ^ 31 by omega)]) ?_
    refine lv_aload_n hx hb d_law_law_307 rfl (lv_at hl 3 rfl) ?_
    refine lv_iload_n hx hb d_law_law_308 rfl (lv_at hl 0 rfl) ?_
    refine lv_iconst (v := nI 4) hx hb d_law_law_309 (by decide) ?_
    refine lv_iadd hx hb d_law_law_310 ?_
    refine ps_top (z := nI (6 * i + 4)) (nI_add _ _) ?_
    refine va_sld hx hb hX hbl hbA hS (vp_in_nI (show 6 * i + 4 < L by omega) (by omega)) d_law_law_311 ?_
    refine ps_top (z := xs (6 * i + 4)) (by rw [nI_clamp (show 6 * i + 4 < 2 ^ 31 by omega)]) ?_
    refine ps_afterI (wc := mw cI cB cS cZ b K S ck cu F X) (wr := pw cI a q K S ck cu F N) hP hD hS hA [0, 1, 2, 3, 4, 5, 6, 7, 8, 9, 10, 11, 12, 13, 14, 15, 16, 17, 18] [19, 20, 21, 22, 23, 24, 25, 26, 27, 28, 29, 30, 31, 32, 33, 34, 35, 36, 37, 38, 39, 40, 41, 42, 43, 44, 45, 46, 47, 48, 49, 50, 51, 52, 53, 54, 55, 56, 57, 58] lw_s3 lw_s4 (by decide) (by decide) (ps_runVI ⟨hx, hb, hml, hown, hts⟩ (m_set l dC dI cI tys ht cB cS cZ htB htS htZ b K S ck cu F X hKb hSb (xs (6 * i + 1)) (xs (6 * i + 2)) (xs (6 * i + 3)) (xs (6 * i + 4)) hk0 hk1 hrw (T S 1) (T S 5) (by omega) hb9 hk5 (fun q => htX q (by decide)) htB9 (fun j => (hIP j).1)) (ps_cwV ps_gd 4 hts tw_455 k_Mod_set e_Mod_set ⟨Nat.le_of_ble_eq_true rfl, Nat.le_of_ble_eq_true rfl⟩) hK hP hD [0, 1, 2, 3, 4, 5, 6, 7, 8, 9, 10, 11, 12, 13, 14, 15, 16, 17, 18] (by decide) lw_s3 0 cMod rfl rfl rfl hl.1 rfl (Nat.le_of_ble_eq_true rfl) d_law_law_312 ⟨by show 100 + ps_L N + (0) + 0 ≤ 600000; omega, by show 440000 + ps_Y N + (0) + 0 ≤ 7302250; omega⟩) (fun r2 u2 H locs h2 hP hD hS => ?_)
    obtain ⟨hr2, hu2⟩ := h2.n hA9
    subst hr2
    subst hu2
    refine lv_icmp_eq (tgt := 795) hx hb d_law_law_315 (by decide) (fun c_4 => ?_) (fun c_4 => ?_)
    · refine W.widen (k := 100 + ps_L N) (n := 440000 + ps_Y N) (by show 100 + ps_L N + (0) + 0 ≤ _; omega) (by show 440000 + ps_Y N + (0) + 0 ≤ _; omega) ?_
      exact ih _ _ _ _ _ _ _ _ _ _ _ ls hI2 hl hP hD hS
    · exact absurd rfl c_4

set_option maxHeartbeats 4000000 in
set_option maxRecDepth 100000 in
theorem lw_define {p : Program} {l : Launch} {e : Env} {s : State} {m : MethodId} {below : List Frame} {meth : Method} {c : Code} {sb L : Nat} {xs : Nat → Int32} {A : Nat → Prop} {dC : Nat → ClassId} {dI : Nat → Nat → Nat} {cI cB cS cZ : ClassId} {tys : List (ClassId × FieldType)} {a b : Nat → Nat} (hC : lw_C p s m meth c sb L xs A dC dI cI cB cS cZ tys) {i : Nat} (hi : 6 * i + 6 ≤ L) (ih : lw_H p l e s m below meth c sb A dC dI cI cB cS cZ a b 795 i) : lw_H p l e s m below meth c sb A dC dI cI cB cS cZ a b 442 i := by
  intro K S ck cu F N T X q H locs ls hI hl hP hD hS
  obtain ⟨⟨hx, hb, hr, hml, hown, hts0, hX, hbl, hlocks, hgv⟩, hL, hA, hAs, hbA, hK, ht, htB, htS, htZ⟩ := hC
  have hts : ∀ w ∈ ps_tbl, w.before #[Value.ref sb] s = true := fun w hw => hts0 w (List.mem_filter.mp hw).1
  obtain ⟨⟨hKb, hk0, hk1, hk3, hk4, hk5, hSb⟩, hw, hIL, hIT, hIM, hIP, hIB, hIV⟩ := id hI
  have hrw := hIL.1
  have hRL := ps_L_le hw
  have hRY := ps_Y_le hw
  obtain ⟨ht9, htF, htX, htB9⟩ := hIT.t 4 (by decide)
  obtain ⟨hb9, hbF, -, -⟩ := hIT.t 5 (by decide)
  have hkw := hKb 4
  have hkv := hKb 5
  by_cases hA9 : ((nI 1 ≤ (xs (6 * i + 1)) ∧ (xs (6 * i + 1)) ≤ nI (K 3)) ∧ (nI 1 ≤ (xs (6 * i + 2)) ∧ (xs (6 * i + 2)) ≤ nI 15)) ∧ (nI 0 ≤ (xs (6 * i + 4)) ∧ (xs (6 * i + 4)) ≤ nI 15)
  · rcases li_find (fun j => F 9 j = (xs (6 * i + 3)) ∧ F 8 j = (xs (6 * i + 2)) ∧ F 7 j = (xs (6 * i + 1))) 0 (K 4) with hno | ⟨j, -, hj, hjm, hjn⟩
    · by_cases hC9 : 16384 ≤ K 4
      · have hI2 : li_I K S F N T X := hI
        have hRL2 := ps_L_le hI2.2.1
        have hRY2 := ps_Y_le hI2.2.1
        refine lv_aload_n hx hb d_law_law_442 rfl (lv_at hl 2 rfl) ?_
        refine lv_aload_n hx hb d_law_law_443 rfl (lv_at hl 3 rfl) ?_
        refine lv_iload_n hx hb d_law_law_444 rfl (lv_at hl 0 rfl) ?_
        refine lv_iconst (v := nI 1) hx hb d_law_law_445 (by decide) ?_
        refine lv_iadd hx hb d_law_law_446 ?_
        refine ps_top (z := nI (6 * i + 1)) (nI_add _ _) ?_
        refine va_sld hx hb hX hbl hbA hS (vp_in_nI (show 6 * i + 1 < L by omega) (by omega)) d_law_law_447 ?_
        refine ps_top (z := xs (6 * i + 1)) (by rw [nI_clamp (show 6 * i + 1 < 2 ^ 31 by omega)]) ?_
        refine lv_aload_n hx hb d_law_law_448 rfl (lv_at hl 3 rfl) ?_
        refine lv_iload_n hx hb d_law_law_449 rfl (lv_at hl 0 rfl) ?_
        refine lv_iconst (v := nI 2) hx hb d_law_law_450 (by decide) ?_
        refine lv_iadd hx hb d_law_law_451 ?_
        refine ps_top (z := nI (6 * i + 2)) (nI_add _ _) ?_
        refine va_sld hx hb hX hbl hbA hS (vp_in_nI (show 6 * i + 2 < L by omega) (by omega)) d_law_law_452 ?_
        refine ps_top (z := xs (6 * i + 2)) (by rw [nI_clamp (show 6 * i + 2 < 2 ^ 31 by omega)]) ?_
        refine lv_aload_n hx hb d_law_law_453 rfl (lv_at hl 3 rfl) ?_
        refine lv_iload_n hx hb d_law_law_454 rfl (lv_at hl 0 rfl) ?_
        refine lv_iconst (v := nI 3) hx hb d_law_law_455 (by decide) ?_
        refine lv_iadd hx hb d_law_law_456 ?_
        refine ps_top (z := nI (6 * i + 3)) (nI_add _ _) ?_
        refine va_sld hx hb hX hbl hbA hS (vp_in_nI (show 6 * i + 3 < L by omega) (by omega)) d_law_law_457 ?_
        refine ps_top (z := xs (6 * i + 3)) (by rw [nI_clamp (show 6 * i + 3 < 2 ^ 31 by omega)]) ?_
        refine lv_aload_n hx hb d_law_law_458 rfl (lv_at hl 3 rfl) ?_
        refine lv_iload_n hx hb d_law_law_459 rfl (lv_at hl 0 rfl) ?_
        refine lv_iconst (v := nI 4) hx hb d_law_law_460 (by decide) ?_
        refine lv_iadd hx hb d_law_law_461 ?_
        refine ps_top (z := nI (6 * i + 4)) (nI_add _ _) ?_
        refine va_sld hx hb hX hbl hbA hS (vp_in_nI (show 6 * i + 4 < L by omega) (by omega)) d_law_law_462 ?_
        refine ps_top (z := xs (6 * i + 4)) (by rw [nI_clamp (show 6 * i + 4 < 2 ^ 31 by omega)]) ?_
        refine lv_aload_n hx hb d_law_law_463 rfl (lv_at hl 3 rfl) ?_
        refine lv_iload_n hx hb d_law_law_464 rfl (lv_at hl 0 rfl) ?_
        refine lv_iconst (v := nI 5) hx hb d_law_law_465 (by decide) ?_
        refine lv_iadd hx hb d_law_law_466 ?_
        refine ps_top (z := nI (6 * i + 5)) (nI_add _ _) ?_
        refine va_sld hx hb hX hbl hbA hS (vp_in_nI (show 6 * i + 5 < L by omega) (by omega)) d_law_law_467 ?_
        refine ps_top (z := xs (6 * i + 5)) (by rw [nI_clamp (show 6 * i + 5 < 2 ^ 31 by omega)]) ?_
        refine ps_afterI (wc := pw cI a q K S ck cu F N) (wr := mw cI cB cS cZ b K S ck cu F X) hP hD hS hA [0, 1, 2, 3, 4, 5, 6, 7, 8, 9, 10, 11, 12, 13, 14, 15, 16, 17, 18, 19, 20, 21, 22, 23, 24, 25, 26, 27, 28, 29, 30, 31, 32, 33, 34, 35, 36, 37, 38, 39] [40, 41, 42, 43, 44, 45, 46, 47, 48, 49, 50, 51, 52, 53, 54, 55, 56, 57, 58] lw_s1 lw_s2 (by decide) (by decide) (ps_runVI ⟨hx, hb, hml, hown, hts⟩ (c_define l dC dI cI tys ht a q K S ck cu F N hw hKb hSb (xs (6 * i + 1)) (xs (6 * i + 2)) (xs (6 * i + 3)) (xs (6 * i + 4)) (xs (6 * i + 5)) hk4 (T S 4) (T S 5) (by omega) (by omega) htF hbF (0) (0) (fun _ _ q => absurd hC9 q) (fun _ j hj hm _ => absurd hm (hno j (Nat.zero_le _) hj)) (fun _ j hj hm _ => absurd hm (hno j (Nat.zero_le _) hj))) (ps_cwV ps_gd 5 hts tw_456 k_PS_define e_PS_define ⟨Nat.le_of_ble_eq_true rfl, Nat.le_of_ble_eq_true rfl⟩) hK hP hD [0, 1, 2, 3, 4, 5, 6, 7, 8, 9, 10, 11, 12, 13, 14, 15, 16, 17, 18, 19, 20, 21, 22, 23, 24, 25, 26, 27, 28, 29, 30, 31, 32, 33, 34, 35, 36, 37, 38, 39] (by decide) lw_s1 0 cPS rfl rfl rfl hl.1 rfl (Nat.le_of_ble_eq_true rfl) d_law_law_468 ⟨by show 100 + ps_L N + (0) ≤ 600000; omega, by show 440000 + ps_Y N + (0) ≤ 7302250; omega⟩) (fun r1 u1 H locs h1 hP hD hS => ?_)
        obtain ⟨hr1, hu1⟩ := (li_sn (h1.y hA9) hno).y hC9
        subst hr1
        subst hu1
        refine lv_aload_n hx hb d_law_law_471 rfl (lv_at hl 1 rfl) ?_
        refine lv_aload_n hx hb d_law_law_472 rfl (lv_at hl 3 rfl) ?_
        refine lv_iload_n hx hb d_law_law_473 rfl (lv_at hl 0 rfl) ?_
        refine lv_iconst (v := nI 1) hx hb d_law_law_474 (by decide) ?_
        refine lv_iadd hx hb d_law_law_475 ?_
        refine ps_top (z := nI (6 * i + 1)) (nI_add _ _) ?_
        refine va_sld hx hb hX hbl hbA hS (vp_in_nI (show 6 * i + 1 < L by omega) (by omega)) d_law_law_476 ?_
        refine ps_top (z := xs (6 * i + 1)) (by rw [nI_clamp (show 6 * i + 1 < 2 ^ 31 by omega)]) ?_
        refine lv_aload_n hx hb d_law_law_477 rfl (lv_at hl 3 rfl) ?_
        refine lv_iload_n hx hb d_law_law_478 rfl (lv_at hl 0 rfl) ?_
        refine lv_iconst (v := nI 2) hx hb d_law_law_479 (by decide) ?_
        refine lv_iadd hx hb d_law_law_480 ?_
        refine ps_top (z := nI (6 * i + 2)) (nI_add _ _) ?_
        refine va_sld hx hb hX hbl hbA hS (vp_in_nI (show 6 * i + 2 < L by omega) (by omega)) d_law_law_481 ?_
        refine ps_top (z := xs (6 * i + 2)) (by rw [nI_clamp (show 6 * i + 2 < 2 ^ 31 by omega)]) ?_
        refine lv_aload_n hx hb d_law_law_482 rfl (lv_at hl 3 rfl) ?_
        refine lv_iload_n hx hb d_law_law_483 rfl (lv_at hl 0 rfl) ?_
        refine lv_iconst (v := nI 3) hx hb d_law_law_484 (by decide) ?_
        refine lv_iadd hx hb d_law_law_485 ?_
        refine ps_top (z := nI (6 * i + 3)) (nI_add _ _) ?_
        refine va_sld hx hb hX hbl hbA hS (vp_in_nI (show 6 * i + 3 < L by omega) (by omega)) d_law_law_486 ?_
        refine ps_top (z := xs (6 * i + 3)) (by rw [nI_clamp (show 6 * i + 3 < 2 ^ 31 by omega)]) ?_
        refine lv_aload_n hx hb d_law_law_487 rfl (lv_at hl 3 rfl) ?_
        refine lv_iload_n hx hb d_law_law_488 rfl (lv_at hl 0 rfl) ?_
        refine lv_iconst (v := nI 4) hx hb d_law_law_489 (by decide) ?_
        refine lv_iadd hx hb d_law_law_490 ?_
        refine ps_top (z := nI (6 * i + 4)) (nI_add _ _) ?_
        refine va_sld hx hb hX hbl hbA hS (vp_in_nI (show 6 * i + 4 < L by omega) (by omega)) d_law_law_491 ?_
        refine ps_top (z := xs (6 * i + 4)) (by rw [nI_clamp (show 6 * i + 4 < 2 ^ 31 by omega)]) ?_
        refine lv_aload_n hx hb d_law_law_492 rfl (lv_at hl 3 rfl) ?_
        refine lv_iload_n hx hb d_law_law_493 rfl (lv_at hl 0 rfl) ?_
        refine lv_iconst (v := nI 5) hx hb d_law_law_494 (by decide) ?_
        refine lv_iadd hx hb d_law_law_495 ?_
        refine ps_top (z := nI (6 * i + 5)) (nI_add _ _) ?_
        refine va_sld hx hb hX hbl hbA hS (vp_in_nI (show 6 * i + 5 < L by omega) (by omega)) d_law_law_496 ?_
        refine ps_top (z := xs (6 * i + 5)) (by rw [nI_clamp (show 6 * i + 5 < 2 ^ 31 by omega)]) ?_
        refine ps_afterI (wc := mw cI cB cS cZ b K S ck cu F X) (wr := pw cI a q K S ck cu F N) hP hD hS hA [0, 1, 2, 3, 4, 5, 6, 7, 8, 9, 10, 11, 12, 13, 14, 15, 16, 17, 18] [19, 20, 21, 22, 23, 24, 25, 26, 27, 28, 29, 30, 31, 32, 33, 34, 35, 36, 37, 38, 39, 40, 41, 42, 43, 44, 45, 46, 47, 48, 49, 50, 51, 52, 53, 54, 55, 56, 57, 58] lw_s3 lw_s4 (by decide) (by decide) (ps_runVI ⟨hx, hb, hml, hown, hts⟩ (m_define l dC dI cI tys ht cB cS cZ htB htS htZ b K S ck cu F X hKb hSb (xs (6 * i + 1)) (xs (6 * i + 2)) (xs (6 * i + 3)) (xs (6 * i + 4)) (xs (6 * i + 5)) hk3 hk4 (T S 4) (T S 5) (by omega) hb9 hk5 (fun q => htX q (by decide)) htB9 (fun j => (hIV j).2.1) (fun j => (hIV j).1.z)) (ps_cwV ps_gd 5 hts tw_457 k_Mod_define e_Mod_define ⟨Nat.le_of_ble_eq_true rfl, Nat.le_of_ble_eq_true rfl⟩) hK hP hD [0, 1, 2, 3, 4, 5, 6, 7, 8, 9, 10, 11, 12, 13, 14, 15, 16, 17, 18] (by decide) lw_s3 0 cMod rfl rfl rfl hl.1 rfl (Nat.le_of_ble_eq_true rfl) d_law_law_497 ⟨by show 100 + ps_L N + (0) + 0 ≤ 600000; omega, by show 440000 + ps_Y N + (0) + 0 ≤ 7302250; omega⟩) (fun r2 u2 H locs h2 hP hD hS => ?_)
        obtain ⟨hr2, hu2⟩ := (li_sn (h2.y hA9) hno).y hC9
        subst hr2
        subst hu2
        refine lv_icmp_eq (tgt := 795) hx hb d_law_law_500 (by decide) (fun c_1 => ?_) (fun c_1 => ?_)
        · refine W.widen (k := 100 + ps_L N) (n := 440000 + ps_Y N) (by show 100 + ps_L N + (0) + 0 ≤ _; omega) (by show 440000 + ps_Y N + (0) + 0 ≤ _; omega) ?_
          exact ih _ _ _ _ _ _ _ _ _ _ _ ls hI2 hl hP hD hS
        · exact absurd rfl c_1
      · obtain ⟨d0, hd1, hd2, ed⟩ := ps_rng (n := K 3) (by omega) hA9.1.1
        have hcL := li_ck_L (N := N) (K 4)
        have hcY := li_ck_Y (K 4) hw (by omega)
        have hI2 : li_I (va_up K 4 (K 4 + 1)) S (ps_Fk F (K 4) (xs (6 * i + 1)) (xs (6 * i + 2)) (xs (6 * i + 3)) (xs (6 * i + 4)) (xs (6 * i + 5))) (ps_Nk N (K 4)) T (mo_Xv X (K 4) (xs (6 * i + 4)) (xs (6 * i + 5)) 0) := (by rw [ed]; exact li_key hI hC9 hd1 hd2 rfl rfl rfl rfl rfl rfl rfl rfl rfl rfl (Or.inl ⟨rfl, rfl, (li_k15 hA9.2).2, rfl⟩) (li_k15 hA9.2).1)
        have hRL2 := ps_L_le hI2.2.1
        have hRY2 := ps_Y_le hI2.2.1
        refine lv_aload_n hx hb d_law_law_442 rfl (lv_at hl 2 rfl) ?_
        refine lv_aload_n hx hb d_law_law_443 rfl (lv_at hl 3 rfl) ?_
        refine lv_iload_n hx hb d_law_law_444 rfl (lv_at hl 0 rfl) ?_
        refine lv_iconst (v := nI 1) hx hb d_law_law_445 (by decide) ?_
        refine lv_iadd hx hb d_law_law_446 ?_
        refine ps_top (z := nI (6 * i + 1)) (nI_add _ _) ?_
        refine va_sld hx hb hX hbl hbA hS (vp_in_nI (show 6 * i + 1 < L by omega) (by omega)) d_law_law_447 ?_
        refine ps_top (z := xs (6 * i + 1)) (by rw [nI_clamp (show 6 * i + 1 < 2 ^ 31 by omega)]) ?_
        refine lv_aload_n hx hb d_law_law_448 rfl (lv_at hl 3 rfl) ?_
        refine lv_iload_n hx hb d_law_law_449 rfl (lv_at hl 0 rfl) ?_
        refine lv_iconst (v := nI 2) hx hb d_law_law_450 (by decide) ?_
        refine lv_iadd hx hb d_law_law_451 ?_
        refine ps_top (z := nI (6 * i + 2)) (nI_add _ _) ?_
        refine va_sld hx hb hX hbl hbA hS (vp_in_nI (show 6 * i + 2 < L by omega) (by omega)) d_law_law_452 ?_
        refine ps_top (z := xs (6 * i + 2)) (by rw [nI_clamp (show 6 * i + 2 < 2 ^ 31 by omega)]) ?_
        refine lv_aload_n hx hb d_law_law_453 rfl (lv_at hl 3 rfl) ?_
        refine lv_iload_n hx hb d_law_law_454 rfl (lv_at hl 0 rfl) ?_
        refine lv_iconst (v := nI 3) hx hb d_law_law_455 (by decide) ?_
        refine lv_iadd hx hb d_law_law_456 ?_
        refine ps_top (z := nI (6 * i + 3)) (nI_add _ _) ?_
        refine va_sld hx hb hX hbl hbA hS (vp_in_nI (show 6 * i + 3 < L by omega) (by omega)) d_law_law_457 ?_
        refine ps_top (z := xs (6 * i + 3)) (by rw [nI_clamp (show 6 * i + 3 < 2 ^ 31 by omega)]) ?_
        refine lv_aload_n hx hb d_law_law_458 rfl (lv_at hl 3 rfl) ?_
        refine lv_iload_n hx hb d_law_law_459 rfl (lv_at hl 0 rfl) ?_
        refine lv_iconst (v := nI 4) hx hb d_law_law_460 (by decide) ?_
        refine lv_iadd hx hb d_law_law_461 ?_
        refine ps_top (z := nI (6 * i + 4)) (nI_add _ _) ?_
        refine va_sld hx hb hX hbl hbA hS (vp_in_nI (show 6 * i + 4 < L by omega) (by omega)) d_law_law_462 ?_
        refine ps_top (z := xs (6 * i + 4)) (by rw [nI_clamp (show 6 * i + 4 < 2 ^ 31 by omega)]) ?_
        refine lv_aload_n hx hb d_law_law_463 rfl (lv_at hl 3 rfl) ?_
        refine lv_iload_n hx hb d_law_law_464 rfl (lv_at hl 0 rfl) ?_
        refine lv_iconst (v := nI 5) hx hb d_law_law_465 (by decide) ?_
        refine lv_iadd hx hb d_law_law_466 ?_
        refine ps_top (z := nI (6 * i + 5)) (nI_add _ _) ?_
        refine va_sld hx hb hX hbl hbA hS (vp_in_nI (show 6 * i + 5 < L by omega) (by omega)) d_law_law_467 ?_
        refine ps_top (z := xs (6 * i + 5)) (by rw [nI_clamp (show 6 * i + 5 < 2 ^ 31 by omega)]) ?_
        refine ps_afterI (wc := pw cI a q K S ck cu F N) (wr := mw cI cB cS cZ b K S ck cu F X) hP hD hS hA [0, 1, 2, 3, 4, 5, 6, 7, 8, 9, 10, 11, 12, 13, 14, 15, 16, 17, 18, 19, 20, 21, 22, 23, 24, 25, 26, 27, 28, 29, 30, 31, 32, 33, 34, 35, 36, 37, 38, 39] [40, 41, 42, 43, 44, 45, 46, 47, 48, 49, 50, 51, 52, 53, 54, 55, 56, 57, 58] lw_s1 lw_s2 (by decide) (by decide) (ps_runVI ⟨hx, hb, hml, hown, hts⟩ (c_define l dC dI cI tys ht a q K S ck cu F N hw hKb hSb (xs (6 * i + 1)) (xs (6 * i + 2)) (xs (6 * i + 3)) (xs (6 * i + 4)) (xs (6 * i + 5)) hk4 (T S 4) (T S 5) (by omega) (by omega) htF hbF (ps_kc N (K 4)) (ps_ks N (K 4)) (fun _ _ _ => ⟨Nat.le_refl _, Nat.le_refl _⟩) (fun _ j hj hm _ => absurd hm (hno j (Nat.zero_le _) hj)) (fun _ j hj hm _ => absurd hm (hno j (Nat.zero_le _) hj))) (ps_cwV ps_gd 5 hts tw_456 k_PS_define e_PS_define ⟨Nat.le_of_ble_eq_true rfl, Nat.le_of_ble_eq_true rfl⟩) hK hP hD [0, 1, 2, 3, 4, 5, 6, 7, 8, 9, 10, 11, 12, 13, 14, 15, 16, 17, 18, 19, 20, 21, 22, 23, 24, 25, 26, 27, 28, 29, 30, 31, 32, 33, 34, 35, 36, 37, 38, 39] (by decide) lw_s1 0 cPS rfl rfl rfl hl.1 rfl (Nat.le_of_ble_eq_true rfl) d_law_law_468 ⟨by show 100 + ps_L N + (ps_kc N (K 4)) ≤ 600000; omega, by show 440000 + ps_Y N + (ps_ks N (K 4)) ≤ 7302250; omega⟩) (fun r1 u1 H locs h1 hP hD hS => ?_)
        obtain ⟨q1, hr1, hu1⟩ := (li_sn (h1.y hA9) hno).n hC9
        subst hr1
        subst hu1
        refine lv_aload_n hx hb d_law_law_471 rfl (lv_at hl 1 rfl) ?_
        refine lv_aload_n hx hb d_law_law_472 rfl (lv_at hl 3 rfl) ?_
        refine lv_iload_n hx hb d_law_law_473 rfl (lv_at hl 0 rfl) ?_
        refine lv_iconst (v := nI 1) hx hb d_law_law_474 (by decide) ?_
        refine lv_iadd hx hb d_law_law_475 ?_
        refine ps_top (z := nI (6 * i + 1)) (nI_add _ _) ?_
        refine va_sld hx hb hX hbl hbA hS (vp_in_nI (show 6 * i + 1 < L by omega) (by omega)) d_law_law_476 ?_
        refine ps_top (z := xs (6 * i + 1)) (by rw [nI_clamp (show 6 * i + 1 < 2 ^ 31 by omega)]) ?_
        refine lv_aload_n hx hb d_law_law_477 rfl (lv_at hl 3 rfl) ?_
        refine lv_iload_n hx hb d_law_law_478 rfl (lv_at hl 0 rfl) ?_
        refine lv_iconst (v := nI 2) hx hb d_law_law_479 (by decide) ?_
        refine lv_iadd hx hb d_law_law_480 ?_
        refine ps_top (z := nI (6 * i + 2)) (nI_add _ _) ?_
        refine va_sld hx hb hX hbl hbA hS (vp_in_nI (show 6 * i + 2 < L by omega) (by omega)) d_law_law_481 ?_
        refine ps_top (z := xs (6 * i + 2)) (by rw [nI_clamp (show 6 * i + 2 < 2 ^ 31 by omega)]) ?_
        refine lv_aload_n hx hb d_law_law_482 rfl (lv_at hl 3 rfl) ?_
        refine lv_iload_n hx hb d_law_law_483 rfl (lv_at hl 0 rfl) ?_
        refine lv_iconst (v := nI 3) hx hb d_law_law_484 (by decide) ?_
        refine lv_iadd hx hb d_law_law_485 ?_
        refine ps_top (z := nI (6 * i + 3)) (nI_add _ _) ?_
        refine va_sld hx hb hX hbl hbA hS (vp_in_nI (show 6 * i + 3 < L by omega) (by omega)) d_law_law_486 ?_
        refine ps_top (z := xs (6 * i + 3)) (by rw [nI_clamp (show 6 * i + 3 < 2 ^ 31 by omega)]) ?_
        refine lv_aload_n hx hb d_law_law_487 rfl (lv_at hl 3 rfl) ?_
        refine lv_iload_n hx hb d_law_law_488 rfl (lv_at hl 0 rfl) ?_
        refine lv_iconst (v := nI 4) hx hb d_law_law_489 (by decide) ?_
        refine lv_iadd hx hb d_law_law_490 ?_
        refine ps_top (z := nI (6 * i + 4)) (nI_add _ _) ?_
        refine va_sld hx hb hX hbl hbA hS (vp_in_nI (show 6 * i + 4 < L by omega) (by omega)) d_law_law_491 ?_
        refine ps_top (z := xs (6 * i + 4)) (by rw [nI_clamp (show 6 * i + 4 < 2 ^ 31 by omega)]) ?_
        refine lv_aload_n hx hb d_law_law_492 rfl (lv_at hl 3 rfl) ?_
        refine lv_iload_n hx hb d_law_law_493 rfl (lv_at hl 0 rfl) ?_
        refine lv_iconst (v := nI 5) hx hb d_law_law_494 (by decide) ?_
        refine lv_iadd hx hb d_law_law_495 ?_
        refine ps_top (z := nI (6 * i + 5)) (nI_add _ _) ?_
        refine va_sld hx hb hX hbl hbA hS (vp_in_nI (show 6 * i + 5 < L by omega) (by omega)) d_law_law_496 ?_
        refine ps_top (z := xs (6 * i + 5)) (by rw [nI_clamp (show 6 * i + 5 < 2 ^ 31 by omega)]) ?_
        refine ps_afterI (wc := mw cI cB cS cZ b K S ck cu F X) (wr := pw cI a q1 (va_up K 4 (K 4 + 1)) S ck cu (ps_Fk F (K 4) (xs (6 * i + 1)) (xs (6 * i + 2)) (xs (6 * i + 3)) (xs (6 * i + 4)) (xs (6 * i + 5))) (ps_Nk N (K 4))) hP hD hS hA [0, 1, 2, 3, 4, 5, 6, 7, 8, 9, 10, 11, 12, 13, 14, 15, 16, 17, 18] [19, 20, 21, 22, 23, 24, 25, 26, 27, 28, 29, 30, 31, 32, 33, 34, 35, 36, 37, 38, 39, 40, 41, 42, 43, 44, 45, 46, 47, 48, 49, 50, 51, 52, 53, 54, 55, 56, 57, 58] lw_s3 lw_s4 (by decide) (by decide) (ps_runVI ⟨hx, hb, hml, hown, hts⟩ (m_define l dC dI cI tys ht cB cS cZ htB htS htZ b K S ck cu F X hKb hSb (xs (6 * i + 1)) (xs (6 * i + 2)) (xs (6 * i + 3)) (xs (6 * i + 4)) (xs (6 * i + 5)) hk3 hk4 (T S 4) (T S 5) (by omega) hb9 hk5 (fun q => htX q (by decide)) htB9 (fun j => (hIV j).2.1) (fun j => (hIV j).1.z)) (ps_cwV ps_gd 5 hts tw_457 k_Mod_define e_Mod_define ⟨Nat.le_of_ble_eq_true rfl, Nat.le_of_ble_eq_true rfl⟩) hK hP hD [0, 1, 2, 3, 4, 5, 6, 7, 8, 9, 10, 11, 12, 13, 14, 15, 16, 17, 18] (by decide) lw_s3 0 cMod rfl rfl rfl hl.1 rfl (Nat.le_of_ble_eq_true rfl) d_law_law_497 ⟨by show 100 + ps_L N + (ps_kc N (K 4)) + 0 ≤ 600000; omega, by show 440000 + ps_Y N + (ps_ks N (K 4)) + 0 ≤ 7302250; omega⟩) (fun r2 u2 H locs h2 hP hD hS => ?_)
        obtain ⟨hr2, hu2⟩ := (li_sn (h2.y hA9) hno).n hC9
        subst hr2
        subst hu2
        refine lv_icmp_eq (tgt := 795) hx hb d_law_law_500 (by decide) (fun c_2 => ?_) (fun c_2 => ?_)
        · refine W.widen (k := 100 + ps_L (ps_Nk N (K 4))) (n := 440000 + ps_Y (ps_Nk N (K 4))) (by show 100 + ps_L N + (ps_kc N (K 4)) + 0 ≤ _; omega) (by show 440000 + ps_Y N + (ps_ks N (K 4)) + 0 ≤ _; omega) ?_
          exact ih _ _ _ _ _ _ _ _ _ _ _ ls hI2 hl hP hD hS
        · exact absurd rfl c_2
    · by_cases hB9 : ps_must S (T S 4) (T S 5) (K 5) F 4 j
      · by_cases hC9 : 40000 ≤ K 5
        · obtain ⟨z, ez⟩ : ∃ z : Int32, z = (-1) - nI j := ⟨_, rfl⟩
          have hmo := li_must4 (S := S) (t := T S 4) (b := T S 5) hIM hw (show j < 2 ^ 31 by omega) ez
          have hI2 : li_I K S F N T X := hI
          have hRL2 := ps_L_le hI2.2.1
          have hRY2 := ps_Y_le hI2.2.1
          refine lv_aload_n hx hb d_law_law_442 rfl (lv_at hl 2 rfl) ?_
          refine lv_aload_n hx hb d_law_law_443 rfl (lv_at hl 3 rfl) ?_
          refine lv_iload_n hx hb d_law_law_444 rfl (lv_at hl 0 rfl) ?_
          refine lv_iconst (v := nI 1) hx hb d_law_law_445 (by decide) ?_
          refine lv_iadd hx hb d_law_law_446 ?_
          refine ps_top (z := nI (6 * i + 1)) (nI_add _ _) ?_
          refine va_sld hx hb hX hbl hbA hS (vp_in_nI (show 6 * i + 1 < L by omega) (by omega)) d_law_law_447 ?_
          refine ps_top (z := xs (6 * i + 1)) (by rw [nI_clamp (show 6 * i + 1 < 2 ^ 31 by omega)]) ?_
          refine lv_aload_n hx hb d_law_law_448 rfl (lv_at hl 3 rfl) ?_
          refine lv_iload_n hx hb d_law_law_449 rfl (lv_at hl 0 rfl) ?_
          refine lv_iconst (v := nI 2) hx hb d_law_law_450 (by decide) ?_
          refine lv_iadd hx hb d_law_law_451 ?_
          refine ps_top (z := nI (6 * i + 2)) (nI_add _ _) ?_
          refine va_sld hx hb hX hbl hbA hS (vp_in_nI (show 6 * i + 2 < L by omega) (by omega)) d_law_law_452 ?_
          refine ps_top (z := xs (6 * i + 2)) (by rw [nI_clamp (show 6 * i + 2 < 2 ^ 31 by omega)]) ?_
          refine lv_aload_n hx hb d_law_law_453 rfl (lv_at hl 3 rfl) ?_
          refine lv_iload_n hx hb d_law_law_454 rfl (lv_at hl 0 rfl) ?_
          refine lv_iconst (v := nI 3) hx hb d_law_law_455 (by decide) ?_
          refine lv_iadd hx hb d_law_law_456 ?_
          refine ps_top (z := nI (6 * i + 3)) (nI_add _ _) ?_
          refine va_sld hx hb hX hbl hbA hS (vp_in_nI (show 6 * i + 3 < L by omega) (by omega)) d_law_law_457 ?_
          refine ps_top (z := xs (6 * i + 3)) (by rw [nI_clamp (show 6 * i + 3 < 2 ^ 31 by omega)]) ?_
          refine lv_aload_n hx hb d_law_law_458 rfl (lv_at hl 3 rfl) ?_
          refine lv_iload_n hx hb d_law_law_459 rfl (lv_at hl 0 rfl) ?_
          refine lv_iconst (v := nI 4) hx hb d_law_law_460 (by decide) ?_
          refine lv_iadd hx hb d_law_law_461 ?_
          refine ps_top (z := nI (6 * i + 4)) (nI_add _ _) ?_
          refine va_sld hx hb hX hbl hbA hS (vp_in_nI (show 6 * i + 4 < L by omega) (by omega)) d_law_law_462 ?_
          refine ps_top (z := xs (6 * i + 4)) (by rw [nI_clamp (show 6 * i + 4 < 2 ^ 31 by omega)]) ?_
          refine lv_aload_n hx hb d_law_law_463 rfl (lv_at hl 3 rfl) ?_
          refine lv_iload_n hx hb d_law_law_464 rfl (lv_at hl 0 rfl) ?_
          refine lv_iconst (v := nI 5) hx hb d_law_law_465 (by decide) ?_
          refine lv_iadd hx hb d_law_law_466 ?_
          refine ps_top (z := nI (6 * i + 5)) (nI_add _ _) ?_
          refine va_sld hx hb hX hbl hbA hS (vp_in_nI (show 6 * i + 5 < L by omega) (by omega)) d_law_law_467 ?_
          refine ps_top (z := xs (6 * i + 5)) (by rw [nI_clamp (show 6 * i + 5 < 2 ^ 31 by omega)]) ?_
          refine ps_afterI (wc := pw cI a q K S ck cu F N) (wr := mw cI cB cS cZ b K S ck cu F X) hP hD hS hA [0, 1, 2, 3, 4, 5, 6, 7, 8, 9, 10, 11, 12, 13, 14, 15, 16, 17, 18, 19, 20, 21, 22, 23, 24, 25, 26, 27, 28, 29, 30, 31, 32, 33, 34, 35, 36, 37, 38, 39] [40, 41, 42, 43, 44, 45, 46, 47, 48, 49, 50, 51, 52, 53, 54, 55, 56, 57, 58] lw_s1 lw_s2 (by decide) (by decide) (ps_runVI ⟨hx, hb, hml, hown, hts⟩ (c_define l dC dI cI tys ht a q K S ck cu F N hw hKb hSb (xs (6 * i + 1)) (xs (6 * i + 2)) (xs (6 * i + 3)) (xs (6 * i + 4)) (xs (6 * i + 5)) hk4 (T S 4) (T S 5) (by omega) (by omega) htF hbF (0) (0) (fun _ q => absurd hjm (q j (Nat.zero_le _) hj)) (fun _ _ _ _ _ _ q => absurd hC9 q) (fun _ j9 hj9 hm9 hn9 q => by have e9 := li_uni (Nat.zero_le _) (Nat.zero_le _) hm9 hjm hn9 hjn; subst e9; exact absurd hB9 q)) (ps_cwV ps_gd 5 hts tw_456 k_PS_define e_PS_define ⟨Nat.le_of_ble_eq_true rfl, Nat.le_of_ble_eq_true rfl⟩) hK hP hD [0, 1, 2, 3, 4, 5, 6, 7, 8, 9, 10, 11, 12, 13, 14, 15, 16, 17, 18, 19, 20, 21, 22, 23, 24, 25, 26, 27, 28, 29, 30, 31, 32, 33, 34, 35, 36, 37, 38, 39] (by decide) lw_s1 0 cPS rfl rfl rfl hl.1 rfl (Nat.le_of_ble_eq_true rfl) d_law_law_468 ⟨by show 100 + ps_L N + (0) ≤ 600000; omega, by show 440000 + ps_Y N + (0) ≤ 7302250; omega⟩) (fun r1 u1 H locs h1 hP hD hS => ?_)
          obtain ⟨hr1, hu1⟩ := ((li_ss (h1.y hA9) hj hjm hjn).y hB9).y hC9
          subst hr1
          subst hu1
          refine lv_aload_n hx hb d_law_law_471 rfl (lv_at hl 1 rfl) ?_
          refine lv_aload_n hx hb d_law_law_472 rfl (lv_at hl 3 rfl) ?_
          refine lv_iload_n hx hb d_law_law_473 rfl (lv_at hl 0 rfl) ?_
          refine lv_iconst (v := nI 1) hx hb d_law_law_474 (by decide) ?_
          refine lv_iadd hx hb d_law_law_475 ?_
          refine ps_top (z := nI (6 * i + 1)) (nI_add _ _) ?_
          refine va_sld hx hb hX hbl hbA hS (vp_in_nI (show 6 * i + 1 < L by omega) (by omega)) d_law_law_476 ?_
          refine ps_top (z := xs (6 * i + 1)) (by rw [nI_clamp (show 6 * i + 1 < 2 ^ 31 by omega)]) ?_
          refine lv_aload_n hx hb d_law_law_477 rfl (lv_at hl 3 rfl) ?_
          refine lv_iload_n hx hb d_law_law_478 rfl (lv_at hl 0 rfl) ?_
          refine lv_iconst (v := nI 2) hx hb d_law_law_479 (by decide) ?_
          refine lv_iadd hx hb d_law_law_480 ?_
          refine ps_top (z := nI (6 * i + 2)) (nI_add _ _) ?_
          refine va_sld hx hb hX hbl hbA hS (vp_in_nI (show 6 * i + 2 < L by omega) (by omega)) d_law_law_481 ?_
          refine ps_top (z := xs (6 * i + 2)) (by rw [nI_clamp (show 6 * i + 2 < 2 ^ 31 by omega)]) ?_
          refine lv_aload_n hx hb d_law_law_482 rfl (lv_at hl 3 rfl) ?_
          refine lv_iload_n hx hb d_law_law_483 rfl (lv_at hl 0 rfl) ?_
          refine lv_iconst (v := nI 3) hx hb d_law_law_484 (by decide) ?_
          refine lv_iadd hx hb d_law_law_485 ?_
          refine ps_top (z := nI (6 * i + 3)) (nI_add _ _) ?_
          refine va_sld hx hb hX hbl hbA hS (vp_in_nI (show 6 * i + 3 < L by omega) (by omega)) d_law_law_486 ?_
          refine ps_top (z := xs (6 * i + 3)) (by rw [nI_clamp (show 6 * i + 3 < 2 ^ 31 by omega)]) ?_
          refine lv_aload_n hx hb d_law_law_487 rfl (lv_at hl 3 rfl) ?_
          refine lv_iload_n hx hb d_law_law_488 rfl (lv_at hl 0 rfl) ?_
          refine lv_iconst (v := nI 4) hx hb d_law_law_489 (by decide) ?_
          refine lv_iadd hx hb d_law_law_490 ?_
          refine ps_top (z := nI (6 * i + 4)) (nI_add _ _) ?_
          refine va_sld hx hb hX hbl hbA hS (vp_in_nI (show 6 * i + 4 < L by omega) (by omega)) d_law_law_491 ?_
          refine ps_top (z := xs (6 * i + 4)) (by rw [nI_clamp (show 6 * i + 4 < 2 ^ 31 by omega)]) ?_
          refine lv_aload_n hx hb d_law_law_492 rfl (lv_at hl 3 rfl) ?_
          refine lv_iload_n hx hb d_law_law_493 rfl (lv_at hl 0 rfl) ?_
          refine lv_iconst (v := nI 5) hx hb d_law_law_494 (by decide) ?_
          refine lv_iadd hx hb d_law_law_495 ?_
          refine ps_top (z := nI (6 * i + 5)) (nI_add _ _) ?_
          refine va_sld hx hb hX hbl hbA hS (vp_in_nI (show 6 * i + 5 < L by omega) (by omega)) d_law_law_496 ?_
          refine ps_top (z := xs (6 * i + 5)) (by rw [nI_clamp (show 6 * i + 5 < 2 ^ 31 by omega)]) ?_
          refine ps_afterI (wc := mw cI cB cS cZ b K S ck cu F X) (wr := pw cI a q K S ck cu F N) hP hD hS hA [0, 1, 2, 3, 4, 5, 6, 7, 8, 9, 10, 11, 12, 13, 14, 15, 16, 17, 18] [19, 20, 21, 22, 23, 24, 25, 26, 27, 28, 29, 30, 31, 32, 33, 34, 35, 36, 37, 38, 39, 40, 41, 42, 43, 44, 45, 46, 47, 48, 49, 50, 51, 52, 53, 54, 55, 56, 57, 58] lw_s3 lw_s4 (by decide) (by decide) (ps_runVI ⟨hx, hb, hml, hown, hts⟩ (m_define l dC dI cI tys ht cB cS cZ htB htS htZ b K S ck cu F X hKb hSb (xs (6 * i + 1)) (xs (6 * i + 2)) (xs (6 * i + 3)) (xs (6 * i + 4)) (xs (6 * i + 5)) hk3 hk4 (T S 4) (T S 5) (by omega) hb9 hk5 (fun q => htX q (by decide)) htB9 (fun j => (hIV j).2.1) (fun j => (hIV j).1.z)) (ps_cwV ps_gd 5 hts tw_457 k_Mod_define e_Mod_define ⟨Nat.le_of_ble_eq_true rfl, Nat.le_of_ble_eq_true rfl⟩) hK hP hD [0, 1, 2, 3, 4, 5, 6, 7, 8, 9, 10, 11, 12, 13, 14, 15, 16, 17, 18] (by decide) lw_s3 0 cMod rfl rfl rfl hl.1 rfl (Nat.le_of_ble_eq_true rfl) d_law_law_497 ⟨by show 100 + ps_L N + (0) + 0 ≤ 600000; omega, by show 440000 + ps_Y N + (0) + 0 ≤ 7302250; omega⟩) (fun r2 u2 H locs h2 hP hD hS => ?_)
          obtain ⟨z9, ez9, h2⟩ := li_ss (h2.y hA9) hj hjm hjn
          obtain rfl : z9 = z := ez9.trans ez.symm
          obtain ⟨hr2, hu2⟩ := (h2.y (hmo.mp hB9)).y hC9
          subst hr2
          subst hu2
          refine lv_icmp_eq (tgt := 795) hx hb d_law_law_500 (by decide) (fun c_3 => ?_) (fun c_3 => ?_)
          · refine W.widen (k := 100 + ps_L N) (n := 440000 + ps_Y N) (by show 100 + ps_L N + (0) + 0 ≤ _; omega) (by show 440000 + ps_Y N + (0) + 0 ≤ _; omega) ?_
            exact ih _ _ _ _ _ _ _ _ _ _ _ ls hI2 hl hP hD hS
          · exact absurd rfl c_3
        · obtain ⟨z, ez⟩ : ∃ z : Int32, z = (-1) - nI j := ⟨_, rfl⟩
          have hmo := li_must4 (S := S) (t := T S 4) (b := T S 5) hIM hw (show j < 2 ^ 31 by omega) ez
          have hcL := li_cm10_L (N := N) (K 5) j
          have hcY := li_cm10_Y (K 5) j hw (by omega) (by omega)
          have hI2 : li_I (va_up K 5 (K 5 + 1)) S (ps_Fv (ps_Fm F (K 5) (nI 4) j (F 10 j) (F 11 j)) 10 j (xs (6 * i + 4)) (xs (6 * i + 5))) (ps_Nv (ps_Nm N (K 5)) 10 j) T (mo_Xv (mo_Xk X (K 5) j z) j (xs (6 * i + 4)) (xs (6 * i + 5)) 0) := li_mval hI (by omega) hC9 ez rfl rfl rfl rfl rfl rfl rfl rfl rfl rfl (Or.inl ⟨rfl, rfl, (li_k15 hA9.2).2, rfl⟩) (li_k15 hA9.2).1
          have hRL2 := ps_L_le hI2.2.1
          have hRY2 := ps_Y_le hI2.2.1
          refine lv_aload_n hx hb d_law_law_442 rfl (lv_at hl 2 rfl) ?_
          refine lv_aload_n hx hb d_law_law_443 rfl (lv_at hl 3 rfl) ?_
          refine lv_iload_n hx hb d_law_law_444 rfl (lv_at hl 0 rfl) ?_
          refine lv_iconst (v := nI 1) hx hb d_law_law_445 (by decide) ?_
          refine lv_iadd hx hb d_law_law_446 ?_
          refine ps_top (z := nI (6 * i + 1)) (nI_add _ _) ?_
          refine va_sld hx hb hX hbl hbA hS (vp_in_nI (show 6 * i + 1 < L by omega) (by omega)) d_law_law_447 ?_
          refine ps_top (z := xs (6 * i + 1)) (by rw [nI_clamp (show 6 * i + 1 < 2 ^ 31 by omega)]) ?_
          refine lv_aload_n hx hb d_law_law_448 rfl (lv_at hl 3 rfl) ?_
          refine lv_iload_n hx hb d_law_law_449 rfl (lv_at hl 0 rfl) ?_
          refine lv_iconst (v := nI 2) hx hb d_law_law_450 (by decide) ?_
          refine lv_iadd hx hb d_law_law_451 ?_
          refine ps_top (z := nI (6 * i + 2)) (nI_add _ _) ?_
          refine va_sld hx hb hX hbl hbA hS (vp_in_nI (show 6 * i + 2 < L by omega) (by omega)) d_law_law_452 ?_
          refine ps_top (z := xs (6 * i + 2)) (by rw [nI_clamp (show 6 * i + 2 < 2 ^ 31 by omega)]) ?_
          refine lv_aload_n hx hb d_law_law_453 rfl (lv_at hl 3 rfl) ?_
          refine lv_iload_n hx hb d_law_law_454 rfl (lv_at hl 0 rfl) ?_
          refine lv_iconst (v := nI 3) hx hb d_law_law_455 (by decide) ?_
          refine lv_iadd hx hb d_law_law_456 ?_
          refine ps_top (z := nI (6 * i + 3)) (nI_add _ _) ?_
          refine va_sld hx hb hX hbl hbA hS (vp_in_nI (show 6 * i + 3 < L by omega) (by omega)) d_law_law_457 ?_
          refine ps_top (z := xs (6 * i + 3)) (by rw [nI_clamp (show 6 * i + 3 < 2 ^ 31 by omega)]) ?_
          refine lv_aload_n hx hb d_law_law_458 rfl (lv_at hl 3 rfl) ?_
          refine lv_iload_n hx hb d_law_law_459 rfl (lv_at hl 0 rfl) ?_
          refine lv_iconst (v := nI 4) hx hb d_law_law_460 (by decide) ?_
          refine lv_iadd hx hb d_law_law_461 ?_
          refine ps_top (z := nI (6 * i + 4)) (nI_add _ _) ?_
          refine va_sld hx hb hX hbl hbA hS (vp_in_nI (show 6 * i + 4 < L by omega) (by omega)) d_law_law_462 ?_
          refine ps_top (z := xs (6 * i + 4)) (by rw [nI_clamp (show 6 * i + 4 < 2 ^ 31 by omega)]) ?_
          refine lv_aload_n hx hb d_law_law_463 rfl (lv_at hl 3 rfl) ?_
          refine lv_iload_n hx hb d_law_law_464 rfl (lv_at hl 0 rfl) ?_
          refine lv_iconst (v := nI 5) hx hb d_law_law_465 (by decide) ?_
          refine lv_iadd hx hb d_law_law_466 ?_
          refine ps_top (z := nI (6 * i + 5)) (nI_add _ _) ?_
          refine va_sld hx hb hX hbl hbA hS (vp_in_nI (show 6 * i + 5 < L by omega) (by omega)) d_law_law_467 ?_
          refine ps_top (z := xs (6 * i + 5)) (by rw [nI_clamp (show 6 * i + 5 < 2 ^ 31 by omega)]) ?_
          refine ps_afterI (wc := pw cI a q K S ck cu F N) (wr := mw cI cB cS cZ b K S ck cu F X) hP hD hS hA [0, 1, 2, 3, 4, 5, 6, 7, 8, 9, 10, 11, 12, 13, 14, 15, 16, 17, 18, 19, 20, 21, 22, 23, 24, 25, 26, 27, 28, 29, 30, 31, 32, 33, 34, 35, 36, 37, 38, 39] [40, 41, 42, 43, 44, 45, 46, 47, 48, 49, 50, 51, 52, 53, 54, 55, 56, 57, 58] lw_s1 lw_s2 (by decide) (by decide) (ps_runVI ⟨hx, hb, hml, hown, hts⟩ (c_define l dC dI cI tys ht a q K S ck cu F N hw hKb hSb (xs (6 * i + 1)) (xs (6 * i + 2)) (xs (6 * i + 3)) (xs (6 * i + 4)) (xs (6 * i + 5)) hk4 (T S 4) (T S 5) (by omega) (by omega) htF hbF (ps_mc N (K 5) + ps_vc 16384 N 10 j) (ps_ms N (K 5) + ps_vs 16384 N 10 j) (fun _ q => absurd hjm (q j (Nat.zero_le _) hj)) (fun _ j9 hj9 hm9 hn9 hmu9 _ => by have e9 := li_uni (Nat.zero_le _) (Nat.zero_le _) hm9 hjm hn9 hjn; subst e9; exact ⟨Nat.le_refl _, Nat.le_refl _⟩) (fun _ j9 hj9 hm9 hn9 q => by have e9 := li_uni (Nat.zero_le _) (Nat.zero_le _) hm9 hjm hn9 hjn; subst e9; exact absurd hB9 q)) (ps_cwV ps_gd 5 hts tw_456 k_PS_define e_PS_define ⟨Nat.le_of_ble_eq_true rfl, Nat.le_of_ble_eq_true rfl⟩) hK hP hD [0, 1, 2, 3, 4, 5, 6, 7, 8, 9, 10, 11, 12, 13, 14, 15, 16, 17, 18, 19, 20, 21, 22, 23, 24, 25, 26, 27, 28, 29, 30, 31, 32, 33, 34, 35, 36, 37, 38, 39] (by decide) lw_s1 0 cPS rfl rfl rfl hl.1 rfl (Nat.le_of_ble_eq_true rfl) d_law_law_468 ⟨by show 100 + ps_L N + (ps_mc N (K 5) + ps_vc 16384 N 10 j) ≤ 600000; omega, by show 440000 + ps_Y N + (ps_ms N (K 5) + ps_vs 16384 N 10 j) ≤ 7302250; omega⟩) (fun r1 u1 H locs h1 hP hD hS => ?_)
          obtain ⟨q1, hr1, hu1⟩ := ((li_ss (h1.y hA9) hj hjm hjn).y hB9).n hC9
          subst hr1
          subst hu1
          refine lv_aload_n hx hb d_law_law_471 rfl (lv_at hl 1 rfl) ?_
          refine lv_aload_n hx hb d_law_law_472 rfl (lv_at hl 3 rfl) ?_
          refine lv_iload_n hx hb d_law_law_473 rfl (lv_at hl 0 rfl) ?_
          refine lv_iconst (v := nI 1) hx hb d_law_law_474 (by decide) ?_
          refine lv_iadd hx hb d_law_law_475 ?_
          refine ps_top (z := nI (6 * i + 1)) (nI_add _ _) ?_
          refine va_sld hx hb hX hbl hbA hS (vp_in_nI (show 6 * i + 1 < L by omega) (by omega)) d_law_law_476 ?_
          refine ps_top (z := xs (6 * i + 1)) (by rw [nI_clamp (show 6 * i + 1 < 2 ^ 31 by omega)]) ?_
          refine lv_aload_n hx hb d_law_law_477 rfl (lv_at hl 3 rfl) ?_
          refine lv_iload_n hx hb d_law_law_478 rfl (lv_at hl 0 rfl) ?_
          refine lv_iconst (v := nI 2) hx hb d_law_law_479 (by decide) ?_
          refine lv_iadd hx hb d_law_law_480 ?_
          refine ps_top (z := nI (6 * i + 2)) (nI_add _ _) ?_
          refine va_sld hx hb hX hbl hbA hS (vp_in_nI (show 6 * i + 2 < L by omega) (by omega)) d_law_law_481 ?_
          refine ps_top (z := xs (6 * i + 2)) (by rw [nI_clamp (show 6 * i + 2 < 2 ^ 31 by omega)]) ?_
          refine lv_aload_n hx hb d_law_law_482 rfl (lv_at hl 3 rfl) ?_
          refine lv_iload_n hx hb d_law_law_483 rfl (lv_at hl 0 rfl) ?_
          refine lv_iconst (v := nI 3) hx hb d_law_law_484 (by decide) ?_
          refine lv_iadd hx hb d_law_law_485 ?_
          refine ps_top (z := nI (6 * i + 3)) (nI_add _ _) ?_
          refine va_sld hx hb hX hbl hbA hS (vp_in_nI (show 6 * i + 3 < L by omega) (by omega)) d_law_law_486 ?_
          refine ps_top (z := xs (6 * i + 3)) (by rw [nI_clamp (show 6 * i + 3 < 2 ^ 31 by omega)]) ?_
          refine lv_aload_n hx hb d_law_law_487 rfl (lv_at hl 3 rfl) ?_
          refine lv_iload_n hx hb d_law_law_488 rfl (lv_at hl 0 rfl) ?_
          refine lv_iconst (v := nI 4) hx hb d_law_law_489 (by decide) ?_
          refine lv_iadd hx hb d_law_law_490 ?_
          refine ps_top (z := nI (6 * i + 4)) (nI_add _ _) ?_
          refine va_sld hx hb hX hbl hbA hS (vp_in_nI (show 6 * i + 4 < L by omega) (by omega)) d_law_law_491 ?_
          refine ps_top (z := xs (6 * i + 4)) (by rw [nI_clamp (show 6 * i + 4 < 2 ^ 31 by omega)]) ?_
          refine lv_aload_n hx hb d_law_law_492 rfl (lv_at hl 3 rfl) ?_
          refine lv_iload_n hx hb d_law_law_493 rfl (lv_at hl 0 rfl) ?_
          refine lv_iconst (v := nI 5) hx hb d_law_law_494 (by decide) ?_
          refine lv_iadd hx hb d_law_law_495 ?_
          refine ps_top (z := nI (6 * i + 5)) (nI_add _ _) ?_
          refine va_sld hx hb hX hbl hbA hS (vp_in_nI (show 6 * i + 5 < L by omega) (by omega)) d_law_law_496 ?_
          refine ps_top (z := xs (6 * i + 5)) (by rw [nI_clamp (show 6 * i + 5 < 2 ^ 31 by omega)]) ?_
          refine ps_afterI (wc := mw cI cB cS cZ b K S ck cu F X) (wr := pw cI a q1 (va_up K 5 (K 5 + 1)) S ck cu (ps_Fv (ps_Fm F (K 5) (nI 4) j (F 10 j) (F 11 j)) 10 j (xs (6 * i + 4)) (xs (6 * i + 5))) (ps_Nv (ps_Nm N (K 5)) 10 j)) hP hD hS hA [0, 1, 2, 3, 4, 5, 6, 7, 8, 9, 10, 11, 12, 13, 14, 15, 16, 17, 18] [19, 20, 21, 22, 23, 24, 25, 26, 27, 28, 29, 30, 31, 32, 33, 34, 35, 36, 37, 38, 39, 40, 41, 42, 43, 44, 45, 46, 47, 48, 49, 50, 51, 52, 53, 54, 55, 56, 57, 58] lw_s3 lw_s4 (by decide) (by decide) (ps_runVI ⟨hx, hb, hml, hown, hts⟩ (m_define l dC dI cI tys ht cB cS cZ htB htS htZ b K S ck cu F X hKb hSb (xs (6 * i + 1)) (xs (6 * i + 2)) (xs (6 * i + 3)) (xs (6 * i + 4)) (xs (6 * i + 5)) hk3 hk4 (T S 4) (T S 5) (by omega) hb9 hk5 (fun q => htX q (by decide)) htB9 (fun j => (hIV j).2.1) (fun j => (hIV j).1.z)) (ps_cwV ps_gd 5 hts tw_457 k_Mod_define e_Mod_define ⟨Nat.le_of_ble_eq_true rfl, Nat.le_of_ble_eq_true rfl⟩) hK hP hD [0, 1, 2, 3, 4, 5, 6, 7, 8, 9, 10, 11, 12, 13, 14, 15, 16, 17, 18] (by decide) lw_s3 0 cMod rfl rfl rfl hl.1 rfl (Nat.le_of_ble_eq_true rfl) d_law_law_497 ⟨by show 100 + ps_L N + (ps_mc N (K 5) + ps_vc 16384 N 10 j) + 0 ≤ 600000; omega, by show 440000 + ps_Y N + (ps_ms N (K 5) + ps_vs 16384 N 10 j) + 0 ≤ 7302250; omega⟩) (fun r2 u2 H locs h2 hP hD hS => ?_)
          obtain ⟨z9, ez9, h2⟩ := li_ss (h2.y hA9) hj hjm hjn
          obtain rfl : z9 = z := ez9.trans ez.symm
          obtain ⟨hr2, hu2⟩ := (h2.y (hmo.mp hB9)).n hC9
          subst hr2
          subst hu2
          refine lv_icmp_eq (tgt := 795) hx hb d_law_law_500 (by decide) (fun c_4 => ?_) (fun c_4 => ?_)
          · refine W.widen (k := 100 + ps_L (ps_Nv (ps_Nm N (K 5)) 10 j)) (n := 440000 + ps_Y (ps_Nv (ps_Nm N (K 5)) 10 j)) (by show 100 + ps_L N + (ps_mc N (K 5) + ps_vc 16384 N 10 j) + 0 ≤ _; omega) (by show 440000 + ps_Y N + (ps_ms N (K 5) + ps_vs 16384 N 10 j) + 0 ≤ _; omega) ?_
            exact ih _ _ _ _ _ _ _ _ _ _ _ ls hI2 hl hP hD hS
          · exact absurd rfl c_4
      · obtain ⟨z, ez⟩ : ∃ z : Int32, z = (-1) - nI j := ⟨_, rfl⟩
        have hmo := li_must4 (S := S) (t := T S 4) (b := T S 5) hIM hw (show j < 2 ^ 31 by omega) ez
        have hcL := li_c10_L (N := N) j
        have hcY := li_c10_Y j hw (by omega)
        have hI2 : li_I K S (ps_Fv F 10 j (xs (6 * i + 4)) (xs (6 * i + 5))) (ps_Nv N 10 j) T (mo_Xv X j (xs (6 * i + 4)) (xs (6 * i + 5)) 0) := li_val hI (by omega) rfl rfl rfl rfl rfl rfl rfl rfl rfl rfl (Or.inl ⟨rfl, rfl, (li_k15 hA9.2).2, rfl⟩) (li_k15 hA9.2).1
        have hRL2 := ps_L_le hI2.2.1
        have hRY2 := ps_Y_le hI2.2.1
        refine lv_aload_n hx hb d_law_law_442 rfl (lv_at hl 2 rfl) ?_
        refine lv_aload_n hx hb d_law_law_443 rfl (lv_at hl 3 rfl) ?_
        refine lv_iload_n hx hb d_law_law_444 rfl (lv_at hl 0 rfl) ?_
        refine lv_iconst (v := nI 1) hx hb d_law_law_445 (by decide) ?_
        refine lv_iadd hx hb d_law_law_446 ?_
        refine ps_top (z := nI (6 * i + 1)) (nI_add _ _) ?_
        refine va_sld hx hb hX hbl hbA hS (vp_in_nI (show 6 * i + 1 < L by omega) (by omega)) d_law_law_447 ?_
        refine ps_top (z := xs (6 * i + 1)) (by rw [nI_clamp (show 6 * i + 1 < 2 ^ 31 by omega)]) ?_
        refine lv_aload_n hx hb d_law_law_448 rfl (lv_at hl 3 rfl) ?_
        refine lv_iload_n hx hb d_law_law_449 rfl (lv_at hl 0 rfl) ?_
        refine lv_iconst (v := nI 2) hx hb d_law_law_450 (by decide) ?_
        refine lv_iadd hx hb d_law_law_451 ?_
        refine ps_top (z := nI (6 * i + 2)) (nI_add _ _) ?_
        refine va_sld hx hb hX hbl hbA hS (vp_in_nI (show 6 * i + 2 < L by omega) (by omega)) d_law_law_452 ?_
        refine ps_top (z := xs (6 * i + 2)) (by rw [nI_clamp (show 6 * i + 2 < 2 ^ 31 by omega)]) ?_
        refine lv_aload_n hx hb d_law_law_453 rfl (lv_at hl 3 rfl) ?_
        refine lv_iload_n hx hb d_law_law_454 rfl (lv_at hl 0 rfl) ?_
        refine lv_iconst (v := nI 3) hx hb d_law_law_455 (by decide) ?_
        refine lv_iadd hx hb d_law_law_456 ?_
        refine ps_top (z := nI (6 * i + 3)) (nI_add _ _) ?_
        refine va_sld hx hb hX hbl hbA hS (vp_in_nI (show 6 * i + 3 < L by omega) (by omega)) d_law_law_457 ?_
        refine ps_top (z := xs (6 * i + 3)) (by rw [nI_clamp (show 6 * i + 3 < 2 ^ 31 by omega)]) ?_
        refine lv_aload_n hx hb d_law_law_458 rfl (lv_at hl 3 rfl) ?_
        refine lv_iload_n hx hb d_law_law_459 rfl (lv_at hl 0 rfl) ?_
        refine lv_iconst (v := nI 4) hx hb d_law_law_460 (by decide) ?_
        refine lv_iadd hx hb d_law_law_461 ?_
        refine ps_top (z := nI (6 * i + 4)) (nI_add _ _) ?_
        refine va_sld hx hb hX hbl hbA hS (vp_in_nI (show 6 * i + 4 < L by omega) (by omega)) d_law_law_462 ?_
        refine ps_top (z := xs (6 * i + 4)) (by rw [nI_clamp (show 6 * i + 4 < 2 ^ 31 by omega)]) ?_
        refine lv_aload_n hx hb d_law_law_463 rfl (lv_at hl 3 rfl) ?_
        refine lv_iload_n hx hb d_law_law_464 rfl (lv_at hl 0 rfl) ?_
        refine lv_iconst (v := nI 5) hx hb d_law_law_465 (by decide) ?_
        refine lv_iadd hx hb d_law_law_466 ?_
        refine ps_top (z := nI (6 * i + 5)) (nI_add _ _) ?_
        refine va_sld hx hb hX hbl hbA hS (vp_in_nI (show 6 * i + 5 < L by omega) (by omega)) d_law_law_467 ?_
        refine ps_top (z := xs (6 * i + 5)) (by rw [nI_clamp (show 6 * i + 5 < 2 ^ 31 by omega)]) ?_
        refine ps_afterI (wc := pw cI a q K S ck cu F N) (wr := mw cI cB cS cZ b K S ck cu F X) hP hD hS hA [0, 1, 2, 3, 4, 5, 6, 7, 8, 9, 10, 11, 12, 13, 14, 15, 16, 17, 18, 19, 20, 21, 22, 23, 24, 25, 26, 27, 28, 29, 30, 31, 32, 33, 34, 35, 36, 37, 38, 39] [40, 41, 42, 43, 44, 45, 46, 47, 48, 49, 50, 51, 52, 53, 54, 55, 56, 57, 58] lw_s1 lw_s2 (by decide) (by decide) (ps_runVI ⟨hx, hb, hml, hown, hts⟩ (c_define l dC dI cI tys ht a q K S ck cu F N hw hKb hSb (xs (6 * i + 1)) (xs (6 * i + 2)) (xs (6 * i + 3)) (xs (6 * i + 4)) (xs (6 * i + 5)) hk4 (T S 4) (T S 5) (by omega) (by omega) htF hbF (ps_vc 16384 N 10 j) (ps_vs 16384 N 10 j) (fun _ q => absurd hjm (q j (Nat.zero_le _) hj)) (fun _ j9 hj9 hm9 hn9 q => by have e9 := li_uni (Nat.zero_le _) (Nat.zero_le _) hm9 hjm hn9 hjn; subst e9; exact absurd q hB9) (fun _ j9 hj9 hm9 hn9 _ => by have e9 := li_uni (Nat.zero_le _) (Nat.zero_le _) hm9 hjm hn9 hjn; subst e9; exact ⟨Nat.le_refl _, Nat.le_refl _⟩)) (ps_cwV ps_gd 5 hts tw_456 k_PS_define e_PS_define ⟨Nat.le_of_ble_eq_true rfl, Nat.le_of_ble_eq_true rfl⟩) hK hP hD [0, 1, 2, 3, 4, 5, 6, 7, 8, 9, 10, 11, 12, 13, 14, 15, 16, 17, 18, 19, 20, 21, 22, 23, 24, 25, 26, 27, 28, 29, 30, 31, 32, 33, 34, 35, 36, 37, 38, 39] (by decide) lw_s1 0 cPS rfl rfl rfl hl.1 rfl (Nat.le_of_ble_eq_true rfl) d_law_law_468 ⟨by show 100 + ps_L N + (ps_vc 16384 N 10 j) ≤ 600000; omega, by show 440000 + ps_Y N + (ps_vs 16384 N 10 j) ≤ 7302250; omega⟩) (fun r1 u1 H locs h1 hP hD hS => ?_)
        obtain ⟨q1, hr1, hu1⟩ := (li_ss (h1.y hA9) hj hjm hjn).n hB9
        subst hr1
        subst hu1
        refine lv_aload_n hx hb d_law_law_471 rfl (lv_at hl 1 rfl) ?_
        refine lv_aload_n hx hb d_law_law_472 rfl (lv_at hl 3 rfl) ?_
        refine lv_iload_n hx hb d_law_law_473 rfl (lv_at hl 0 rfl) ?_
        refine lv_iconst (v := nI 1) hx hb d_law_law_474 (by decide) ?_
        refine lv_iadd hx hb d_law_law_475 ?_
        refine ps_top (z := nI (6 * i + 1)) (nI_add _ _) ?_
        refine va_sld hx hb hX hbl hbA hS (vp_in_nI (show 6 * i + 1 < L by omega) (by omega)) d_law_law_476 ?_
        refine ps_top (z := xs (6 * i + 1)) (by rw [nI_clamp (show 6 * i + 1 < 2 ^ 31 by omega)]) ?_
        refine lv_aload_n hx hb d_law_law_477 rfl (lv_at hl 3 rfl) ?_
        refine lv_iload_n hx hb d_law_law_478 rfl (lv_at hl 0 rfl) ?_
        refine lv_iconst (v := nI 2) hx hb d_law_law_479 (by decide) ?_
        refine lv_iadd hx hb d_law_law_480 ?_
        refine ps_top (z := nI (6 * i + 2)) (nI_add _ _) ?_
        refine va_sld hx hb hX hbl hbA hS (vp_in_nI (show 6 * i + 2 < L by omega) (by omega)) d_law_law_481 ?_
        refine ps_top (z := xs (6 * i + 2)) (by rw [nI_clamp (show 6 * i + 2 < 2 ^ 31 by omega)]) ?_
        refine lv_aload_n hx hb d_law_law_482 rfl (lv_at hl 3 rfl) ?_
        refine lv_iload_n hx hb d_law_law_483 rfl (lv_at hl 0 rfl) ?_
        refine lv_iconst (v := nI 3) hx hb d_law_law_484 (by decide) ?_
        refine lv_iadd hx hb d_law_law_485 ?_
        refine ps_top (z := nI (6 * i + 3)) (nI_add _ _) ?_
        refine va_sld hx hb hX hbl hbA hS (vp_in_nI (show 6 * i + 3 < L by omega) (by omega)) d_law_law_486 ?_
        refine ps_top (z := xs (6 * i + 3)) (by rw [nI_clamp (show 6 * i + 3 < 2 ^ 31 by omega)]) ?_
        refine lv_aload_n hx hb d_law_law_487 rfl (lv_at hl 3 rfl) ?_
        refine lv_iload_n hx hb d_law_law_488 rfl (lv_at hl 0 rfl) ?_
        refine lv_iconst (v := nI 4) hx hb d_law_law_489 (by decide) ?_
        refine lv_iadd hx hb d_law_law_490 ?_
        refine ps_top (z := nI (6 * i + 4)) (nI_add _ _) ?_
        refine va_sld hx hb hX hbl hbA hS (vp_in_nI (show 6 * i + 4 < L by omega) (by omega)) d_law_law_491 ?_
        refine ps_top (z := xs (6 * i + 4)) (by rw [nI_clamp (show 6 * i + 4 < 2 ^ 31 by omega)]) ?_
        refine lv_aload_n hx hb d_law_law_492 rfl (lv_at hl 3 rfl) ?_
        refine lv_iload_n hx hb d_law_law_493 rfl (lv_at hl 0 rfl) ?_
        refine lv_iconst (v := nI 5) hx hb d_law_law_494 (by decide) ?_
        refine lv_iadd hx hb d_law_law_495 ?_
        refine ps_top (z := nI (6 * i + 5)) (nI_add _ _) ?_
        refine va_sld hx hb hX hbl hbA hS (vp_in_nI (show 6 * i + 5 < L by omega) (by omega)) d_law_law_496 ?_
        refine ps_top (z := xs (6 * i + 5)) (by rw [nI_clamp (show 6 * i + 5 < 2 ^ 31 by omega)]) ?_
        refine ps_afterI (wc := mw cI cB cS cZ b K S ck cu F X) (wr := pw cI a q1 K S ck cu (ps_Fv F 10 j (xs (6 * i + 4)) (xs (6 * i + 5))) (ps_Nv N 10 j)) hP hD hS hA [0, 1, 2, 3, 4, 5, 6, 7, 8, 9, 10, 11, 12, 13, 14, 15, 16, 17, 18] [19, 20, 21, 22, 23, 24, 25, 26, 27, 28, 29, 30, 31, 32, 33, 34, 35, 36, 37, 38, 39, 40, 41, 42, 43, 44, 45, 46, 47, 48, 49, 50, 51, 52, 53, 54, 55, 56, 57, 58] lw_s3 lw_s4 (by decide) (by decide) (ps_runVI ⟨hx, hb, hml, hown, hts⟩ (m_define l dC dI cI tys ht cB cS cZ htB htS htZ b K S ck cu F X hKb hSb (xs (6 * i + 1)) (xs (6 * i + 2)) (xs (6 * i + 3)) (xs (6 * i + 4)) (xs (6 * i + 5)) hk3 hk4 (T S 4) (T S 5) (by omega) hb9 hk5 (fun q => htX q (by decide)) htB9 (fun j => (hIV j).2.1) (fun j => (hIV j).1.z)) (ps_cwV ps_gd 5 hts tw_457 k_Mod_define e_Mod_define ⟨Nat.le_of_ble_eq_true rfl, Nat.le_of_ble_eq_true rfl⟩) hK hP hD [0, 1, 2, 3, 4, 5, 6, 7, 8, 9, 10, 11, 12, 13, 14, 15, 16, 17, 18] (by decide) lw_s3 0 cMod rfl rfl rfl hl.1 rfl (Nat.le_of_ble_eq_true rfl) d_law_law_497 ⟨by show 100 + ps_L N + (ps_vc 16384 N 10 j) + 0 ≤ 600000; omega, by show 440000 + ps_Y N + (ps_vs 16384 N 10 j) + 0 ≤ 7302250; omega⟩) (fun r2 u2 H locs h2 hP hD hS => ?_)
        obtain ⟨z9, ez9, h2⟩ := li_ss (h2.y hA9) hj hjm hjn
        obtain rfl : z9 = z := ez9.trans ez.symm
        obtain ⟨hr2, hu2⟩ := h2.n (fun q => hB9 (hmo.mpr q))
        subst hr2
        subst hu2
        refine lv_icmp_eq (tgt := 795) hx hb d_law_law_500 (by decide) (fun c_5 => ?_) (fun c_5 => ?_)
        · refine W.widen (k := 100 + ps_L (ps_Nv N 10 j)) (n := 440000 + ps_Y (ps_Nv N 10 j)) (by show 100 + ps_L N + (ps_vc 16384 N 10 j) + 0 ≤ _; omega) (by show 440000 + ps_Y N + (ps_vs 16384 N 10 j) + 0 ≤ _; omega) ?_
          exact ih _ _ _ _ _ _ _ _ _ _ _ ls hI2 hl hP hD hS
        · exact absurd rfl c_5
  · have hI2 : li_I K S F N T X := hI
    have hRL2 := ps_L_le hI2.2.1
    have hRY2 := ps_Y_le hI2.2.1
    refine lv_aload_n hx hb d_law_law_442 rfl (lv_at hl 2 rfl) ?_
    refine lv_aload_n hx hb d_law_law_443 rfl (lv_at hl 3 rfl) ?_
    refine lv_iload_n hx hb d_law_law_444 rfl (lv_at hl 0 rfl) ?_
    refine lv_iconst (v := nI 1) hx hb d_law_law_445 (by decide) ?_
    refine lv_iadd hx hb d_law_law_446 ?_
    refine ps_top (z := nI (6 * i + 1)) (nI_add _ _) ?_
    refine va_sld hx hb hX hbl hbA hS (vp_in_nI (show 6 * i + 1 < L by omega) (by omega)) d_law_law_447 ?_
    refine ps_top (z := xs (6 * i + 1)) (by rw [nI_clamp (show 6 * i + 1 < 2 ^ 31 by omega)]) ?_
    refine lv_aload_n hx hb d_law_law_448 rfl (lv_at hl 3 rfl) ?_
    refine lv_iload_n hx hb d_law_law_449 rfl (lv_at hl 0 rfl) ?_
    refine lv_iconst (v := nI 2) hx hb d_law_law_450 (by decide) ?_
    refine lv_iadd hx hb d_law_law_451 ?_
    refine ps_top (z := nI (6 * i + 2)) (nI_add _ _) ?_
    refine va_sld hx hb hX hbl hbA hS (vp_in_nI (show 6 * i + 2 < L by omega) (by omega)) d_law_law_452 ?_
    refine ps_top (z := xs (6 * i + 2)) (by rw [nI_clamp (show 6 * i + 2 < 2 ^ 31 by omega)]) ?_
    refine lv_aload_n hx hb d_law_law_453 rfl (lv_at hl 3 rfl) ?_
    refine lv_iload_n hx hb d_law_law_454 rfl (lv_at hl 0 rfl) ?_
    refine lv_iconst (v := nI 3) hx hb d_law_law_455 (by decide) ?_
    refine lv_iadd hx hb d_law_law_456 ?_
    refine ps_top (z := nI (6 * i + 3)) (nI_add _ _) ?_
    refine va_sld hx hb hX hbl hbA hS (vp_in_nI (show 6 * i + 3 < L by omega) (by omega)) d_law_law_457 ?_
    refine ps_top (z := xs (6 * i + 3)) (by rw [nI_clamp (show 6 * i + 3 < 2 ^ 31 by omega)]) ?_
    refine lv_aload_n hx hb d_law_law_458 rfl (lv_at hl 3 rfl) ?_
    refine lv_iload_n hx hb d_law_law_459 rfl (lv_at hl 0 rfl) ?_
    refine lv_iconst (v := nI 4) hx hb d_law_law_460 (by decide) ?_
    refine lv_iadd hx hb d_law_law_461 ?_
    refine ps_top (z := nI (6 * i + 4)) (nI_add _ _) ?_
    refine va_sld hx hb hX hbl hbA hS (vp_in_nI (show 6 * i + 4 < L by omega) (by omega)) d_law_law_462 ?_
    refine ps_top (z := xs (6 * i + 4)) (by rw [nI_clamp (show 6 * i + 4 < 2 ^ 31 by omega)]) ?_
    refine lv_aload_n hx hb d_law_law_463 rfl (lv_at hl 3 rfl) ?_
    refine lv_iload_n hx hb d_law_law_464 rfl (lv_at hl 0 rfl) ?_
    refine lv_iconst (v := nI 5) hx hb d_law_law_465 (by decide) ?_
    refine lv_iadd hx hb d_law_law_466 ?_
    refine ps_top (z := nI (6 * i + 5)) (nI_add _ _) ?_
    refine va_sld hx hb hX hbl hbA hS (vp_in_nI (show 6 * i + 5 < L by omega) (by omega)) d_law_law_467 ?_
    refine ps_top (z := xs (6 * i + 5)) (by rw [nI_clamp (show 6 * i + 5 < 2 ^ 31 by omega)]) ?_
    refine ps_afterI (wc := pw cI a q K S ck cu F N) (wr := mw cI cB cS cZ b K S ck cu F X) hP hD hS hA [0, 1, 2, 3, 4, 5, 6, 7, 8, 9, 10, 11, 12, 13, 14, 15, 16, 17, 18, 19, 20, 21, 22, 23, 24, 25, 26, 27, 28, 29, 30, 31, 32, 33, 34, 35, 36, 37, 38, 39] [40, 41, 42, 43, 44, 45, 46, 47, 48, 49, 50, 51, 52, 53, 54, 55, 56, 57, 58] lw_s1 lw_s2 (by decide) (by decide) (ps_runVI ⟨hx, hb, hml, hown, hts⟩ (c_define l dC dI cI tys ht a q K S ck cu F N hw hKb hSb (xs (6 * i + 1)) (xs (6 * i + 2)) (xs (6 * i + 3)) (xs (6 * i + 4)) (xs (6 * i + 5)) hk4 (T S 4) (T S 5) (by omega) (by omega) htF hbF (0) (0) (fun q => absurd q hA9) (fun q => absurd q hA9) (fun q => absurd q hA9)) (ps_cwV ps_gd 5 hts tw_456 k_PS_define e_PS_define ⟨Nat.le_of_ble_eq_true rfl, Nat.le_of_ble_eq_true rfl⟩) hK hP hD [0, 1, 2, 3, 4, 5, 6, 7, 8, 9, 10, 11, 12, 13, 14, 15, 16, 17, 18, 19, 20, 21, 22, 23, 24, 25, 26, 27, 28, 29, 30, 31, 32, 33, 34, 35, 36, 37, 38, 39] (by decide) lw_s1 0 cPS rfl rfl rfl hl.1 rfl (Nat.le_of_ble_eq_true rfl) d_law_law_468 ⟨by show 100 + ps_L N + (0) ≤ 600000; omega, by show 440000 + ps_Y N + (0) ≤ 7302250; omega⟩) (fun r1 u1 H locs h1 hP hD hS => ?_)
    obtain ⟨hr1, hu1⟩ := h1.n hA9
    subst hr1
    subst hu1
    refine lv_aload_n hx hb d_law_law_471 rfl (lv_at hl 1 rfl) ?_
    refine lv_aload_n hx hb d_law_law_472 rfl (lv_at hl 3 rfl) ?_
    refine lv_iload_n hx hb d_law_law_473 rfl (lv_at hl 0 rfl) ?_
    refine lv_iconst (v := nI 1) hx hb d_law_law_474 (by decide) ?_
    refine lv_iadd hx hb d_law_law_475 ?_
    refine ps_top (z := nI (6 * i + 1)) (nI_add _ _) ?_
    refine va_sld hx hb hX hbl hbA hS (vp_in_nI (show 6 * i + 1 < L by omega) (by omega)) d_law_law_476 ?_
    refine ps_top (z := xs (6 * i + 1)) (by rw [nI_clamp (show 6 * i + 1 < 2 ^ 31 by omega)]) ?_
    refine lv_aload_n hx hb d_law_law_477 rfl (lv_at hl 3 rfl) ?_
    refine lv_iload_n hx hb d_law_law_478 rfl (lv_at hl 0 rfl) ?_
    refine lv_iconst (v := nI 2) hx hb d_law_law_479 (by decide) ?_
    refine lv_iadd hx hb d_law_law_480 ?_
    refine ps_top (z := nI (6 * i + 2)) (nI_add _ _) ?_
    refine va_sld hx hb hX hbl hbA hS (vp_in_nI (show 6 * i + 2 < L by omega) (by omega)) d_law_law_481 ?_
    refine ps_top (z := xs (6 * i + 2)) (by rw [nI_clamp (show 6 * i + 2 < 2 ^ 31 by omega)]) ?_
    refine lv_aload_n hx hb d_law_law_482 rfl (lv_at hl 3 rfl) ?_
    refine lv_iload_n hx hb d_law_law_483 rfl (lv_at hl 0 rfl) ?_
    refine lv_iconst (v := nI 3) hx hb d_law_law_484 (by decide) ?_
    refine lv_iadd hx hb d_law_law_485 ?_
    refine ps_top (z := nI (6 * i + 3)) (nI_add _ _) ?_
    refine va_sld hx hb hX hbl hbA hS (vp_in_nI (show 6 * i + 3 < L by omega) (by omega)) d_law_law_486 ?_
    refine ps_top (z := xs (6 * i + 3)) (by rw [nI_clamp (show 6 * i + 3 < 2 ^ 31 by omega)]) ?_
    refine lv_aload_n hx hb d_law_law_487 rfl (lv_at hl 3 rfl) ?_
    refine lv_iload_n hx hb d_law_law_488 rfl (lv_at hl 0 rfl) ?_
    refine lv_iconst (v := nI 4) hx hb d_law_law_489 (by decide) ?_
    refine lv_iadd hx hb d_law_law_490 ?_
    refine ps_top (z := nI (6 * i + 4)) (nI_add _ _) ?_
    refine va_sld hx hb hX hbl hbA hS (vp_in_nI (show 6 * i + 4 < L by omega) (by omega)) d_law_law_491 ?_
    refine ps_top (z := xs (6 * i + 4)) (by rw [nI_clamp (show 6 * i + 4 < 2 ^ 31 by omega)]) ?_
    refine lv_aload_n hx hb d_law_law_492 rfl (lv_at hl 3 rfl) ?_
    refine lv_iload_n hx hb d_law_law_493 rfl (lv_at hl 0 rfl) ?_
    refine lv_iconst (v := nI 5) hx hb d_law_law_494 (by decide) ?_
    refine lv_iadd hx hb d_law_law_495 ?_
    refine ps_top (z := nI (6 * i + 5)) (nI_add _ _) ?_
    refine va_sld hx hb hX hbl hbA hS (vp_in_nI (show 6 * i + 5 < L by omega) (by omega)) d_law_law_496 ?_
    refine ps_top (z := xs (6 * i + 5)) (by rw [nI_clamp (show 6 * i + 5 < 2 ^ 31 by omega)]) ?_
    refine ps_afterI (wc := mw cI cB cS cZ b K S ck cu F X) (wr := pw cI a q K S ck cu F N) hP hD hS hA [0, 1, 2, 3, 4, 5, 6, 7, 8, 9, 10, 11, 12, 13, 14, 15, 16, 17, 18] [19, 20, 21, 22, 23, 24, 25, 26, 27, 28, 29, 30, 31, 32, 33, 34, 35, 36, 37, 38, 39, 40, 41, 42, 43, 44, 45, 46, 47, 48, 49, 50, 51, 52, 53, 54, 55, 56, 57, 58] lw_s3 lw_s4 (by decide) (by decide) (ps_runVI ⟨hx, hb, hml, hown, hts⟩ (m_define l dC dI cI tys ht cB cS cZ htB htS htZ b K S ck cu F X hKb hSb (xs (6 * i + 1)) (xs (6 * i + 2)) (xs (6 * i + 3)) (xs (6 * i + 4)) (xs (6 * i + 5)) hk3 hk4 (T S 4) (T S 5) (by omega) hb9 hk5 (fun q => htX q (by decide)) htB9 (fun j => (hIV j).2.1) (fun j => (hIV j).1.z)) (ps_cwV ps_gd 5 hts tw_457 k_Mod_define e_Mod_define ⟨Nat.le_of_ble_eq_true rfl, Nat.le_of_ble_eq_true rfl⟩) hK hP hD [0, 1, 2, 3, 4, 5, 6, 7, 8, 9, 10, 11, 12, 13, 14, 15, 16, 17, 18] (by decide) lw_s3 0 cMod rfl rfl rfl hl.1 rfl (Nat.le_of_ble_eq_true rfl) d_law_law_497 ⟨by show 100 + ps_L N + (0) + 0 ≤ 600000; omega, by show 440000 + ps_Y N + (0) + 0 ≤ 7302250; omega⟩) (fun r2 u2 H locs h2 hP hD hS => ?_)
    obtain ⟨hr2, hu2⟩ := h2.n hA9
    subst hr2
    subst hu2
    refine lv_icmp_eq (tgt := 795) hx hb d_law_law_500 (by decide) (fun c_6 => ?_) (fun c_6 => ?_)
    · refine W.widen (k := 100 + ps_L N) (n := 440000 + ps_Y N) (by show 100 + ps_L N + (0) + 0 ≤ _; omega) (by show 440000 + ps_Y N + (0) + 0 ≤ _; omega) ?_
      exact ih _ _ _ _ _ _ _ _ _ _ _ ls hI2 hl hP hD hS
    · exact absurd rfl c_6

set_option maxHeartbeats 4000000 in
set_option maxRecDepth 100000 in
theorem lw_undefine {p : Program} {l : Launch} {e : Env} {s : State} {m : MethodId} {below : List Frame} {meth : Method} {c : Code} {sb L : Nat} {xs : Nat → Int32} {A : Nat → Prop} {dC : Nat → ClassId} {dI : Nat → Nat → Nat} {cI cB cS cZ : ClassId} {tys : List (ClassId × FieldType)} {a b : Nat → Nat} (hC : lw_C p s m meth c sb L xs A dC dI cI cB cS cZ tys) {i : Nat} (hi : 6 * i + 6 ≤ L) (ih : lw_H p l e s m below meth c sb A dC dI cI cB cS cZ a b 795 i) : lw_H p l e s m below meth c sb A dC dI cI cB cS cZ a b 591 i := by
  intro K S ck cu F N T X q H locs ls hI hl hP hD hS
  obtain ⟨⟨hx, hb, hr, hml, hown, hts0, hX, hbl, hlocks, hgv⟩, hL, hA, hAs, hbA, hK, ht, htB, htS, htZ⟩ := hC
  have hts : ∀ w ∈ ps_tbl, w.before #[Value.ref sb] s = true := fun w hw => hts0 w (List.mem_filter.mp hw).1
  obtain ⟨⟨hKb, hk0, hk1, hk3, hk4, hk5, hSb⟩, hw, hIL, hIT, hIM, hIP, hIB, hIV⟩ := id hI
  have hrw := hIL.1
  have hRL := ps_L_le hw
  have hRY := ps_Y_le hw
  obtain ⟨ht9, htF, htX, htB9⟩ := hIT.t 4 (by decide)
  obtain ⟨hb9, hbF, -, -⟩ := hIT.t 5 (by decide)
  have hkw := hKb 4
  have hkv := hKb 5
  by_cases hA9 : (nI 1 ≤ (xs (6 * i + 1)) ∧ (xs (6 * i + 1)) ≤ nI (K 3)) ∧ (nI 1 ≤ (xs (6 * i + 2)) ∧ (xs (6 * i + 2)) ≤ nI 15)
  · rcases li_find (fun j => F 9 j = (xs (6 * i + 3)) ∧ F 8 j = (xs (6 * i + 2)) ∧ F 7 j = (xs (6 * i + 1))) 0 (K 4) with hno | ⟨j, -, hj, hjm, hjn⟩
    · have hI2 : li_I K S F N T X := hI
      have hRL2 := ps_L_le hI2.2.1
      have hRY2 := ps_Y_le hI2.2.1
      refine lv_aload_n hx hb d_law_law_591 rfl (lv_at hl 2 rfl) ?_
      refine lv_aload_n hx hb d_law_law_592 rfl (lv_at hl 3 rfl) ?_
      refine lv_iload_n hx hb d_law_law_593 rfl (lv_at hl 0 rfl) ?_
      refine lv_iconst (v := nI 1) hx hb d_law_law_594 (by decide) ?_
      refine lv_iadd hx hb d_law_law_595 ?_
      refine ps_top (z := nI (6 * i + 1)) (nI_add _ _) ?_
      refine va_sld hx hb hX hbl hbA hS (vp_in_nI (show 6 * i + 1 < L by omega) (by omega)) d_law_law_596 ?_
      refine ps_top (z := xs (6 * i + 1)) (by rw [nI_clamp (show 6 * i + 1 < 2 ^ 31 by omega)]) ?_
      refine lv_aload_n hx hb d_law_law_597 rfl (lv_at hl 3 rfl) ?_
      refine lv_iload_n hx hb d_law_law_598 rfl (lv_at hl 0 rfl) ?_
      refine lv_iconst (v := nI 2) hx hb d_law_law_599 (by decide) ?_
      refine lv_iadd hx hb d_law_law_600 ?_
      refine ps_top (z := nI (6 * i + 2)) (nI_add _ _) ?_
      refine va_sld hx hb hX hbl hbA hS (vp_in_nI (show 6 * i + 2 < L by omega) (by omega)) d_law_law_601 ?_
      refine ps_top (z := xs (6 * i + 2)) (by rw [nI_clamp (show 6 * i + 2 < 2 ^ 31 by omega)]) ?_
      refine lv_aload_n hx hb d_law_law_602 rfl (lv_at hl 3 rfl) ?_
      refine lv_iload_n hx hb d_law_law_603 rfl (lv_at hl 0 rfl) ?_
      refine lv_iconst (v := nI 3) hx hb d_law_law_604 (by decide) ?_
      refine lv_iadd hx hb d_law_law_605 ?_
      refine ps_top (z := nI (6 * i + 3)) (nI_add _ _) ?_
      refine va_sld hx hb hX hbl hbA hS (vp_in_nI (show 6 * i + 3 < L by omega) (by omega)) d_law_law_606 ?_
      refine ps_top (z := xs (6 * i + 3)) (by rw [nI_clamp (show 6 * i + 3 < 2 ^ 31 by omega)]) ?_
      refine ps_afterI (wc := pw cI a q K S ck cu F N) (wr := mw cI cB cS cZ b K S ck cu F X) hP hD hS hA [0, 1, 2, 3, 4, 5, 6, 7, 8, 9, 10, 11, 12, 13, 14, 15, 16, 17, 18, 19, 20, 21, 22, 23, 24, 25, 26, 27, 28, 29, 30, 31, 32, 33, 34, 35, 36, 37, 38, 39] [40, 41, 42, 43, 44, 45, 46, 47, 48, 49, 50, 51, 52, 53, 54, 55, 56, 57, 58] lw_s1 lw_s2 (by decide) (by decide) (ps_runVI ⟨hx, hb, hml, hown, hts⟩ (c_undefine l dC dI cI tys ht a q K S ck cu F N hw hKb hSb (xs (6 * i + 1)) (xs (6 * i + 2)) (xs (6 * i + 3)) hk4 (T S 4) (T S 5) (by omega) (by omega) htF hbF (0) (0) (fun _ j hj hm _ => absurd hm (hno j (Nat.zero_le _) hj)) (fun _ j hj hm _ => absurd hm (hno j (Nat.zero_le _) hj))) (ps_cwV ps_gd 3 hts tw_458 k_PS_undefine e_PS_undefine ⟨Nat.le_of_ble_eq_true rfl, Nat.le_of_ble_eq_true rfl⟩) hK hP hD [0, 1, 2, 3, 4, 5, 6, 7, 8, 9, 10, 11, 12, 13, 14, 15, 16, 17, 18, 19, 20, 21, 22, 23, 24, 25, 26, 27, 28, 29, 30, 31, 32, 33, 34, 35, 36, 37, 38, 39] (by decide) lw_s1 0 cPS rfl rfl rfl hl.1 rfl (Nat.le_of_ble_eq_true rfl) d_law_law_607 ⟨by show 100 + ps_L N + (0) ≤ 600000; omega, by show 440000 + ps_Y N + (0) ≤ 7302250; omega⟩) (fun r1 u1 H locs h1 hP hD hS => ?_)
      obtain ⟨hr1, hu1⟩ := li_sn (h1.y hA9) hno
      subst hr1
      subst hu1
      refine lv_aload_n hx hb d_law_law_610 rfl (lv_at hl 1 rfl) ?_
      refine lv_aload_n hx hb d_law_law_611 rfl (lv_at hl 3 rfl) ?_
      refine lv_iload_n hx hb d_law_law_612 rfl (lv_at hl 0 rfl) ?_
      refine lv_iconst (v := nI 1) hx hb d_law_law_613 (by decide) ?_
      refine lv_iadd hx hb d_law_law_614 ?_
      refine ps_top (z := nI (6 * i + 1)) (nI_add _ _) ?_
      refine va_sld hx hb hX hbl hbA hS (vp_in_nI (show 6 * i + 1 < L by omega) (by omega)) d_law_law_615 ?_
      refine ps_top (z := xs (6 * i + 1)) (by rw [nI_clamp (show 6 * i + 1 < 2 ^ 31 by omega)]) ?_
      refine lv_aload_n hx hb d_law_law_616 rfl (lv_at hl 3 rfl) ?_
      refine lv_iload_n hx hb d_law_law_617 rfl (lv_at hl 0 rfl) ?_
      refine lv_iconst (v := nI 2) hx hb d_law_law_618 (by decide) ?_
      refine lv_iadd hx hb d_law_law_619 ?_
      refine ps_top (z := nI (6 * i + 2)) (nI_add _ _) ?_
      refine va_sld hx hb hX hbl hbA hS (vp_in_nI (show 6 * i + 2 < L by omega) (by omega)) d_law_law_620 ?_
      refine ps_top (z := xs (6 * i + 2)) (by rw [nI_clamp (show 6 * i + 2 < 2 ^ 31 by omega)]) ?_
      refine lv_aload_n hx hb d_law_law_621 rfl (lv_at hl 3 rfl) ?_
      refine lv_iload_n hx hb d_law_law_622 rfl (lv_at hl 0 rfl) ?_
      refine lv_iconst (v := nI 3) hx hb d_law_law_623 (by decide) ?_
      refine lv_iadd hx hb d_law_law_624 ?_
      refine ps_top (z := nI (6 * i + 3)) (nI_add _ _) ?_
      refine va_sld hx hb hX hbl hbA hS (vp_in_nI (show 6 * i + 3 < L by omega) (by omega)) d_law_law_625 ?_
      refine ps_top (z := xs (6 * i + 3)) (by rw [nI_clamp (show 6 * i + 3 < 2 ^ 31 by omega)]) ?_
      refine ps_afterI (wc := mw cI cB cS cZ b K S ck cu F X) (wr := pw cI a q K S ck cu F N) hP hD hS hA [0, 1, 2, 3, 4, 5, 6, 7, 8, 9, 10, 11, 12, 13, 14, 15, 16, 17, 18] [19, 20, 21, 22, 23, 24, 25, 26, 27, 28, 29, 30, 31, 32, 33, 34, 35, 36, 37, 38, 39, 40, 41, 42, 43, 44, 45, 46, 47, 48, 49, 50, 51, 52, 53, 54, 55, 56, 57, 58] lw_s3 lw_s4 (by decide) (by decide) (ps_runVI ⟨hx, hb, hml, hown, hts⟩ (m_undefine l dC dI cI tys ht cB cS cZ htB htS htZ b K S ck cu F X hKb hSb (xs (6 * i + 1)) (xs (6 * i + 2)) (xs (6 * i + 3)) hk4 (T S 4) (T S 5) (by omega) hb9 hk5 (fun q => htX q (by decide)) htB9 (fun j => (hIV j).2.1) (fun j => (hIV j).1.z)) (ps_cwV ps_gd 3 hts tw_459 k_Mod_undefine e_Mod_undefine ⟨Nat.le_of_ble_eq_true rfl, Nat.le_of_ble_eq_true rfl⟩) hK hP hD [0, 1, 2, 3, 4, 5, 6, 7, 8, 9, 10, 11, 12, 13, 14, 15, 16, 17, 18] (by decide) lw_s3 0 cMod rfl rfl rfl hl.1 rfl (Nat.le_of_ble_eq_true rfl) d_law_law_626 ⟨by show 100 + ps_L N + (0) + 0 ≤ 600000; omega, by show 440000 + ps_Y N + (0) + 0 ≤ 7302250; omega⟩) (fun r2 u2 H locs h2 hP hD hS => ?_)
      obtain ⟨hr2, hu2⟩ := li_sn (h2.y hA9) hno
      subst hr2
      subst hu2
      refine lv_icmp_eq (tgt := 795) hx hb d_law_law_629 (by decide) (fun c_1 => ?_) (fun c_1 => ?_)
      · refine W.widen (k := 100 + ps_L N) (n := 440000 + ps_Y N) (by show 100 + ps_L N + (0) + 0 ≤ _; omega) (by show 440000 + ps_Y N + (0) + 0 ≤ _; omega) ?_
        exact ih _ _ _ _ _ _ _ _ _ _ _ ls hI2 hl hP hD hS
      · exact absurd rfl c_1
    · by_cases hG9 : F 10 j = -1
      · have hI2 : li_I K S F N T X := hI
        have hRL2 := ps_L_le hI2.2.1
        have hRY2 := ps_Y_le hI2.2.1
        refine lv_aload_n hx hb d_law_law_591 rfl (lv_at hl 2 rfl) ?_
        refine lv_aload_n hx hb d_law_law_592 rfl (lv_at hl 3 rfl) ?_
        refine lv_iload_n hx hb d_law_law_593 rfl (lv_at hl 0 rfl) ?_
        refine lv_iconst (v := nI 1) hx hb d_law_law_594 (by decide) ?_
        refine lv_iadd hx hb d_law_law_595 ?_
        refine ps_top (z := nI (6 * i + 1)) (nI_add _ _) ?_
        refine va_sld hx hb hX hbl hbA hS (vp_in_nI (show 6 * i + 1 < L by omega) (by omega)) d_law_law_596 ?_
        refine ps_top (z := xs (6 * i + 1)) (by rw [nI_clamp (show 6 * i + 1 < 2 ^ 31 by omega)]) ?_
        refine lv_aload_n hx hb d_law_law_597 rfl (lv_at hl 3 rfl) ?_
        refine lv_iload_n hx hb d_law_law_598 rfl (lv_at hl 0 rfl) ?_
        refine lv_iconst (v := nI 2) hx hb d_law_law_599 (by decide) ?_
        refine lv_iadd hx hb d_law_law_600 ?_
        refine ps_top (z := nI (6 * i + 2)) (nI_add _ _) ?_
        refine va_sld hx hb hX hbl hbA hS (vp_in_nI (show 6 * i + 2 < L by omega) (by omega)) d_law_law_601 ?_
        refine ps_top (z := xs (6 * i + 2)) (by rw [nI_clamp (show 6 * i + 2 < 2 ^ 31 by omega)]) ?_
        refine lv_aload_n hx hb d_law_law_602 rfl (lv_at hl 3 rfl) ?_
        refine lv_iload_n hx hb d_law_law_603 rfl (lv_at hl 0 rfl) ?_
        refine lv_iconst (v := nI 3) hx hb d_law_law_604 (by decide) ?_
        refine lv_iadd hx hb d_law_law_605 ?_
        refine ps_top (z := nI (6 * i + 3)) (nI_add _ _) ?_
        refine va_sld hx hb hX hbl hbA hS (vp_in_nI (show 6 * i + 3 < L by omega) (by omega)) d_law_law_606 ?_
        refine ps_top (z := xs (6 * i + 3)) (by rw [nI_clamp (show 6 * i + 3 < 2 ^ 31 by omega)]) ?_
        refine ps_afterI (wc := pw cI a q K S ck cu F N) (wr := mw cI cB cS cZ b K S ck cu F X) hP hD hS hA [0, 1, 2, 3, 4, 5, 6, 7, 8, 9, 10, 11, 12, 13, 14, 15, 16, 17, 18, 19, 20, 21, 22, 23, 24, 25, 26, 27, 28, 29, 30, 31, 32, 33, 34, 35, 36, 37, 38, 39] [40, 41, 42, 43, 44, 45, 46, 47, 48, 49, 50, 51, 52, 53, 54, 55, 56, 57, 58] lw_s1 lw_s2 (by decide) (by decide) (ps_runVI ⟨hx, hb, hml, hown, hts⟩ (c_undefine l dC dI cI tys ht a q K S ck cu F N hw hKb hSb (xs (6 * i + 1)) (xs (6 * i + 2)) (xs (6 * i + 3)) hk4 (T S 4) (T S 5) (by omega) (by omega) htF hbF (0) (0) (fun _ j9 hj9 hm9 hn9 hg9 => by have e9 := li_uni (Nat.zero_le _) (Nat.zero_le _) hm9 hjm hn9 hjn; subst e9; exact absurd hG9 hg9) (fun _ j9 hj9 hm9 hn9 hg9 => by have e9 := li_uni (Nat.zero_le _) (Nat.zero_le _) hm9 hjm hn9 hjn; subst e9; exact absurd hG9 hg9)) (ps_cwV ps_gd 3 hts tw_458 k_PS_undefine e_PS_undefine ⟨Nat.le_of_ble_eq_true rfl, Nat.le_of_ble_eq_true rfl⟩) hK hP hD [0, 1, 2, 3, 4, 5, 6, 7, 8, 9, 10, 11, 12, 13, 14, 15, 16, 17, 18, 19, 20, 21, 22, 23, 24, 25, 26, 27, 28, 29, 30, 31, 32, 33, 34, 35, 36, 37, 38, 39] (by decide) lw_s1 0 cPS rfl rfl rfl hl.1 rfl (Nat.le_of_ble_eq_true rfl) d_law_law_607 ⟨by show 100 + ps_L N + (0) ≤ 600000; omega, by show 440000 + ps_Y N + (0) ≤ 7302250; omega⟩) (fun r1 u1 H locs h1 hP hD hS => ?_)
        obtain ⟨hr1, hu1⟩ := (li_ss (h1.y hA9) hj hjm hjn).y hG9
        subst hr1
        subst hu1
        refine lv_aload_n hx hb d_law_law_610 rfl (lv_at hl 1 rfl) ?_
        refine lv_aload_n hx hb d_law_law_611 rfl (lv_at hl 3 rfl) ?_
        refine lv_iload_n hx hb d_law_law_612 rfl (lv_at hl 0 rfl) ?_
        refine lv_iconst (v := nI 1) hx hb d_law_law_613 (by decide) ?_
        refine lv_iadd hx hb d_law_law_614 ?_
        refine ps_top (z := nI (6 * i + 1)) (nI_add _ _) ?_
        refine va_sld hx hb hX hbl hbA hS (vp_in_nI (show 6 * i + 1 < L by omega) (by omega)) d_law_law_615 ?_
        refine ps_top (z := xs (6 * i + 1)) (by rw [nI_clamp (show 6 * i + 1 < 2 ^ 31 by omega)]) ?_
        refine lv_aload_n hx hb d_law_law_616 rfl (lv_at hl 3 rfl) ?_
        refine lv_iload_n hx hb d_law_law_617 rfl (lv_at hl 0 rfl) ?_
        refine lv_iconst (v := nI 2) hx hb d_law_law_618 (by decide) ?_
        refine lv_iadd hx hb d_law_law_619 ?_
        refine ps_top (z := nI (6 * i + 2)) (nI_add _ _) ?_
        refine va_sld hx hb hX hbl hbA hS (vp_in_nI (show 6 * i + 2 < L by omega) (by omega)) d_law_law_620 ?_
        refine ps_top (z := xs (6 * i + 2)) (by rw [nI_clamp (show 6 * i + 2 < 2 ^ 31 by omega)]) ?_
        refine lv_aload_n hx hb d_law_law_621 rfl (lv_at hl 3 rfl) ?_
        refine lv_iload_n hx hb d_law_law_622 rfl (lv_at hl 0 rfl) ?_
        refine lv_iconst (v := nI 3) hx hb d_law_law_623 (by decide) ?_
        refine lv_iadd hx hb d_law_law_624 ?_
        refine ps_top (z := nI (6 * i + 3)) (nI_add _ _) ?_
        refine va_sld hx hb hX hbl hbA hS (vp_in_nI (show 6 * i + 3 < L by omega) (by omega)) d_law_law_625 ?_
        refine ps_top (z := xs (6 * i + 3)) (by rw [nI_clamp (show 6 * i + 3 < 2 ^ 31 by omega)]) ?_
        refine ps_afterI (wc := mw cI cB cS cZ b K S ck cu F X) (wr := pw cI a q K S ck cu F N) hP hD hS hA [0, 1, 2, 3, 4, 5, 6, 7, 8, 9, 10, 11, 12, 13, 14, 15, 16, 17, 18] [19, 20, 21, 22, 23, 24, 25, 26, 27, 28, 29, 30, 31, 32, 33, 34, 35, 36, 37, 38, 39, 40, 41, 42, 43, 44, 45, 46, 47, 48, 49, 50, 51, 52, 53, 54, 55, 56, 57, 58] lw_s3 lw_s4 (by decide) (by decide) (ps_runVI ⟨hx, hb, hml, hown, hts⟩ (m_undefine l dC dI cI tys ht cB cS cZ htB htS htZ b K S ck cu F X hKb hSb (xs (6 * i + 1)) (xs (6 * i + 2)) (xs (6 * i + 3)) hk4 (T S 4) (T S 5) (by omega) hb9 hk5 (fun q => htX q (by decide)) htB9 (fun j => (hIV j).2.1) (fun j => (hIV j).1.z)) (ps_cwV ps_gd 3 hts tw_459 k_Mod_undefine e_Mod_undefine ⟨Nat.le_of_ble_eq_true rfl, Nat.le_of_ble_eq_true rfl⟩) hK hP hD [0, 1, 2, 3, 4, 5, 6, 7, 8, 9, 10, 11, 12, 13, 14, 15, 16, 17, 18] (by decide) lw_s3 0 cMod rfl rfl rfl hl.1 rfl (Nat.le_of_ble_eq_true rfl) d_law_law_626 ⟨by show 100 + ps_L N + (0) + 0 ≤ 600000; omega, by show 440000 + ps_Y N + (0) + 0 ≤ 7302250; omega⟩) (fun r2 u2 H locs h2 hP hD hS => ?_)
        obtain ⟨hr2, hu2⟩ := (li_ss (h2.y hA9) hj hjm hjn).y ((li_gone hIV j).mp hG9)
        subst hr2
        subst hu2
        refine lv_icmp_eq (tgt := 795) hx hb d_law_law_629 (by decide) (fun c_2 => ?_) (fun c_2 => ?_)
        · refine W.widen (k := 100 + ps_L N) (n := 440000 + ps_Y N) (by show 100 + ps_L N + (0) + 0 ≤ _; omega) (by show 440000 + ps_Y N + (0) + 0 ≤ _; omega) ?_
          exact ih _ _ _ _ _ _ _ _ _ _ _ ls hI2 hl hP hD hS
        · exact absurd rfl c_2
      · by_cases hB9 : ps_must S (T S 4) (T S 5) (K 5) F 4 j
        · by_cases hC9 : 40000 ≤ K 5
          · obtain ⟨z, ez⟩ : ∃ z : Int32, z = (-1) - nI j := ⟨_, rfl⟩
            have hmo := li_must4 (S := S) (t := T S 4) (b := T S 5) hIM hw (show j < 2 ^ 31 by omega) ez
            have hI2 : li_I K S F N T X := hI
            have hRL2 := ps_L_le hI2.2.1
            have hRY2 := ps_Y_le hI2.2.1
            refine lv_aload_n hx hb d_law_law_591 rfl (lv_at hl 2 rfl) ?_
            refine lv_aload_n hx hb d_law_law_592 rfl (lv_at hl 3 rfl) ?_
            refine lv_iload_n hx hb d_law_law_593 rfl (lv_at hl 0 rfl) ?_
            refine lv_iconst (v := nI 1) hx hb d_law_law_594 (by decide) ?_
            refine lv_iadd hx hb d_law_law_595 ?_
            refine ps_top (z := nI (6 * i + 1)) (nI_add _ _) ?_
            refine va_sld hx hb hX hbl hbA hS (vp_in_nI (show 6 * i + 1 < L by omega) (by omega)) d_law_law_596 ?_
            refine ps_top (z := xs (6 * i + 1)) (by rw [nI_clamp (show 6 * i + 1 < 2 ^ 31 by omega)]) ?_
            refine lv_aload_n hx hb d_law_law_597 rfl (lv_at hl 3 rfl) ?_
            refine lv_iload_n hx hb d_law_law_598 rfl (lv_at hl 0 rfl) ?_
            refine lv_iconst (v := nI 2) hx hb d_law_law_599 (by decide) ?_
            refine lv_iadd hx hb d_law_law_600 ?_
            refine ps_top (z := nI (6 * i + 2)) (nI_add _ _) ?_
            refine va_sld hx hb hX hbl hbA hS (vp_in_nI (show 6 * i + 2 < L by omega) (by omega)) d_law_law_601 ?_
            refine ps_top (z := xs (6 * i + 2)) (by rw [nI_clamp (show 6 * i + 2 < 2 ^ 31 by omega)]) ?_
            refine lv_aload_n hx hb d_law_law_602 rfl (lv_at hl 3 rfl) ?_
            refine lv_iload_n hx hb d_law_law_603 rfl (lv_at hl 0 rfl) ?_
            refine lv_iconst (v := nI 3) hx hb d_law_law_604 (by decide) ?_
            refine lv_iadd hx hb d_law_law_605 ?_
            refine ps_top (z := nI (6 * i + 3)) (nI_add _ _) ?_
            refine va_sld hx hb hX hbl hbA hS (vp_in_nI (show 6 * i + 3 < L by omega) (by omega)) d_law_law_606 ?_
            refine ps_top (z := xs (6 * i + 3)) (by rw [nI_clamp (show 6 * i + 3 < 2 ^ 31 by omega)]) ?_
            refine ps_afterI (wc := pw cI a q K S ck cu F N) (wr := mw cI cB cS cZ b K S ck cu F X) hP hD hS hA [0, 1, 2, 3, 4, 5, 6, 7, 8, 9, 10, 11, 12, 13, 14, 15, 16, 17, 18, 19, 20, 21, 22, 23, 24, 25, 26, 27, 28, 29, 30, 31, 32, 33, 34, 35, 36, 37, 38, 39] [40, 41, 42, 43, 44, 45, 46, 47, 48, 49, 50, 51, 52, 53, 54, 55, 56, 57, 58] lw_s1 lw_s2 (by decide) (by decide) (ps_runVI ⟨hx, hb, hml, hown, hts⟩ (c_undefine l dC dI cI tys ht a q K S ck cu F N hw hKb hSb (xs (6 * i + 1)) (xs (6 * i + 2)) (xs (6 * i + 3)) hk4 (T S 4) (T S 5) (by omega) (by omega) htF hbF (0) (0) (fun _ _ _ _ _ _ _ q => absurd hC9 q) (fun _ j9 hj9 hm9 hn9 _ q => by have e9 := li_uni (Nat.zero_le _) (Nat.zero_le _) hm9 hjm hn9 hjn; subst e9; exact absurd hB9 q)) (ps_cwV ps_gd 3 hts tw_458 k_PS_undefine e_PS_undefine ⟨Nat.le_of_ble_eq_true rfl, Nat.le_of_ble_eq_true rfl⟩) hK hP hD [0, 1, 2, 3, 4, 5, 6, 7, 8, 9, 10, 11, 12, 13, 14, 15, 16, 17, 18, 19, 20, 21, 22, 23, 24, 25, 26, 27, 28, 29, 30, 31, 32, 33, 34, 35, 36, 37, 38, 39] (by decide) lw_s1 0 cPS rfl rfl rfl hl.1 rfl (Nat.le_of_ble_eq_true rfl) d_law_law_607 ⟨by show 100 + ps_L N + (0) ≤ 600000; omega, by show 440000 + ps_Y N + (0) ≤ 7302250; omega⟩) (fun r1 u1 H locs h1 hP hD hS => ?_)
            obtain ⟨hr1, hu1⟩ := (((li_ss (h1.y hA9) hj hjm hjn).n hG9).y hB9).y hC9
            subst hr1
            subst hu1
            refine lv_aload_n hx hb d_law_law_610 rfl (lv_at hl 1 rfl) ?_
            refine lv_aload_n hx hb d_law_law_611 rfl (lv_at hl 3 rfl) ?_
            refine lv_iload_n hx hb d_law_law_612 rfl (lv_at hl 0 rfl) ?_
            refine lv_iconst (v := nI 1) hx hb d_law_law_613 (by decide) ?_
            refine lv_iadd hx hb d_law_law_614 ?_
            refine ps_top (z := nI (6 * i + 1)) (nI_add _ _) ?_
            refine va_sld hx hb hX hbl hbA hS (vp_in_nI (show 6 * i + 1 < L by omega) (by omega)) d_law_law_615 ?_
            refine ps_top (z := xs (6 * i + 1)) (by rw [nI_clamp (show 6 * i + 1 < 2 ^ 31 by omega)]) ?_
            refine lv_aload_n hx hb d_law_law_616 rfl (lv_at hl 3 rfl) ?_
            refine lv_iload_n hx hb d_law_law_617 rfl (lv_at hl 0 rfl) ?_
            refine lv_iconst (v := nI 2) hx hb d_law_law_618 (by decide) ?_
            refine lv_iadd hx hb d_law_law_619 ?_
            refine ps_top (z := nI (6 * i + 2)) (nI_add _ _) ?_
            refine va_sld hx hb hX hbl hbA hS (vp_in_nI (show 6 * i + 2 < L by omega) (by omega)) d_law_law_620 ?_
            refine ps_top (z := xs (6 * i + 2)) (by rw [nI_clamp (show 6 * i + 2 < 2 ^ 31 by omega)]) ?_
            refine lv_aload_n hx hb d_law_law_621 rfl (lv_at hl 3 rfl) ?_
            refine lv_iload_n hx hb d_law_law_622 rfl (lv_at hl 0 rfl) ?_
            refine lv_iconst (v := nI 3) hx hb d_law_law_623 (by decide) ?_
            refine lv_iadd hx hb d_law_law_624 ?_
            refine ps_top (z := nI (6 * i + 3)) (nI_add _ _) ?_
            refine va_sld hx hb hX hbl hbA hS (vp_in_nI (show 6 * i + 3 < L by omega) (by omega)) d_law_law_625 ?_
            refine ps_top (z := xs (6 * i + 3)) (by rw [nI_clamp (show 6 * i + 3 < 2 ^ 31 by omega)]) ?_
            refine ps_afterI (wc := mw cI cB cS cZ b K S ck cu F X) (wr := pw cI a q K S ck cu F N) hP hD hS hA [0, 1, 2, 3, 4, 5, 6, 7, 8, 9, 10, 11, 12, 13, 14, 15, 16, 17, 18] [19, 20, 21, 22, 23, 24, 25, 26, 27, 28, 29, 30, 31, 32, 33, 34, 35, 36, 37, 38, 39, 40, 41, 42, 43, 44, 45, 46, 47, 48, 49, 50, 51, 52, 53, 54, 55, 56, 57, 58] lw_s3 lw_s4 (by decide) (by decide) (ps_runVI ⟨hx, hb, hml, hown, hts⟩ (m_undefine l dC dI cI tys ht cB cS cZ htB htS htZ b K S ck cu F X hKb hSb (xs (6 * i + 1)) (xs (6 * i + 2)) (xs (6 * i + 3)) hk4 (T S 4) (T S 5) (by omega) hb9 hk5 (fun q => htX q (by decide)) htB9 (fun j => (hIV j).2.1) (fun j => (hIV j).1.z)) (ps_cwV ps_gd 3 hts tw_459 k_Mod_undefine e_Mod_undefine ⟨Nat.le_of_ble_eq_true rfl, Nat.le_of_ble_eq_true rfl⟩) hK hP hD [0, 1, 2, 3, 4, 5, 6, 7, 8, 9, 10, 11, 12, 13, 14, 15, 16, 17, 18] (by decide) lw_s3 0 cMod rfl rfl rfl hl.1 rfl (Nat.le_of_ble_eq_true rfl) d_law_law_626 ⟨by show 100 + ps_L N + (0) + 0 ≤ 600000; omega, by show 440000 + ps_Y N + (0) + 0 ≤ 7302250; omega⟩) (fun r2 u2 H locs h2 hP hD hS => ?_)
            obtain ⟨z9, ez9, h2⟩ := (li_ss (h2.y hA9) hj hjm hjn).n (fun q => hG9 ((li_gone hIV j).mpr q))
            obtain rfl : z9 = z := ez9.trans ez.symm
            obtain ⟨hr2, hu2⟩ := (h2.y (hmo.mp hB9)).y hC9
            subst hr2
            subst hu2
            refine lv_icmp_eq (tgt := 795) hx hb d_law_law_629 (by decide) (fun c_3 => ?_) (fun c_3 => ?_)
            · refine W.widen (k := 100 + ps_L N) (n := 440000 + ps_Y N) (by show 100 + ps_L N + (0) + 0 ≤ _; omega) (by show 440000 + ps_Y N + (0) + 0 ≤ _; omega) ?_
              exact ih _ _ _ _ _ _ _ _ _ _ _ ls hI2 hl hP hD hS
            · exact absurd rfl c_3
          · obtain ⟨z, ez⟩ : ∃ z : Int32, z = (-1) - nI j := ⟨_, rfl⟩
            have hmo := li_must4 (S := S) (t := T S 4) (b := T S 5) hIM hw (show j < 2 ^ 31 by omega) ez
            have hcL := li_cm10_L (N := N) (K 5) j
            have hcY := li_cm10_Y (K 5) j hw (by omega) (by omega)
            have hI2 : li_I (va_up K 5 (K 5 + 1)) S (ps_Fv (ps_Fm F (K 5) (nI 4) j (F 10 j) (F 11 j)) 10 j (-1) 0) (ps_Nv (ps_Nm N (K 5)) 10 j) T (va_up (mo_Xk X (K 5) j z) 3 (upd (X 3) j 1)) := li_mval (a := X 1 j) (b := X 2 j) (c := 1) hI (by omega) hC9 ez rfl li_us li_us rfl rfl rfl rfl rfl rfl rfl (Or.inr ⟨rfl, rfl, by decide⟩) (hIV j).2.1
            have hRL2 := ps_L_le hI2.2.1
            have hRY2 := ps_Y_le hI2.2.1
            refine lv_aload_n hx hb d_law_law_591 rfl (lv_at hl 2 rfl) ?_
            refine lv_aload_n hx hb d_law_law_592 rfl (lv_at hl 3 rfl) ?_
            refine lv_iload_n hx hb d_law_law_593 rfl (lv_at hl 0 rfl) ?_
            refine lv_iconst (v := nI 1) hx hb d_law_law_594 (by decide) ?_
            refine lv_iadd hx hb d_law_law_595 ?_
            refine ps_top (z := nI (6 * i + 1)) (nI_add _ _) ?_
            refine va_sld hx hb hX hbl hbA hS (vp_in_nI (show 6 * i + 1 < L by omega) (by omega)) d_law_law_596 ?_
            refine ps_top (z := xs (6 * i + 1)) (by rw [nI_clamp (show 6 * i + 1 < 2 ^ 31 by omega)]) ?_
            refine lv_aload_n hx hb d_law_law_597 rfl (lv_at hl 3 rfl) ?_
            refine lv_iload_n hx hb d_law_law_598 rfl (lv_at hl 0 rfl) ?_
            refine lv_iconst (v := nI 2) hx hb d_law_law_599 (by decide) ?_
            refine lv_iadd hx hb d_law_law_600 ?_
            refine ps_top (z := nI (6 * i + 2)) (nI_add _ _) ?_
            refine va_sld hx hb hX hbl hbA hS (vp_in_nI (show 6 * i + 2 < L by omega) (by omega)) d_law_law_601 ?_
            refine ps_top (z := xs (6 * i + 2)) (by rw [nI_clamp (show 6 * i + 2 < 2 ^ 31 by omega)]) ?_
            refine lv_aload_n hx hb d_law_law_602 rfl (lv_at hl 3 rfl) ?_
            refine lv_iload_n hx hb d_law_law_603 rfl (lv_at hl 0 rfl) ?_
            refine lv_iconst (v := nI 3) hx hb d_law_law_604 (by decide) ?_
            refine lv_iadd hx hb d_law_law_605 ?_
            refine ps_top (z := nI (6 * i + 3)) (nI_add _ _) ?_
            refine va_sld hx hb hX hbl hbA hS (vp_in_nI (show 6 * i + 3 < L by omega) (by omega)) d_law_law_606 ?_
            refine ps_top (z := xs (6 * i + 3)) (by rw [nI_clamp (show 6 * i + 3 < 2 ^ 31 by omega)]) ?_
            refine ps_afterI (wc := pw cI a q K S ck cu F N) (wr := mw cI cB cS cZ b K S ck cu F X) hP hD hS hA [0, 1, 2, 3, 4, 5, 6, 7, 8, 9, 10, 11, 12, 13, 14, 15, 16, 17, 18, 19, 20, 21, 22, 23, 24, 25, 26, 27, 28, 29, 30, 31, 32, 33, 34, 35, 36, 37, 38, 39] [40, 41, 42, 43, 44, 45, 46, 47, 48, 49, 50, 51, 52, 53, 54, 55, 56, 57, 58] lw_s1 lw_s2 (by decide) (by decide) (ps_runVI ⟨hx, hb, hml, hown, hts⟩ (c_undefine l dC dI cI tys ht a q K S ck cu F N hw hKb hSb (xs (6 * i + 1)) (xs (6 * i + 2)) (xs (6 * i + 3)) hk4 (T S 4) (T S 5) (by omega) (by omega) htF hbF (ps_mc N (K 5) + ps_vc 16384 N 10 j) (ps_ms N (K 5) + ps_vs 16384 N 10 j) (fun _ j9 hj9 hm9 hn9 _ _ _ => by have e9 := li_uni (Nat.zero_le _) (Nat.zero_le _) hm9 hjm hn9 hjn; subst e9; exact ⟨Nat.le_refl _, Nat.le_refl _⟩) (fun _ j9 hj9 hm9 hn9 _ q => by have e9 := li_uni (Nat.zero_le _) (Nat.zero_le _) hm9 hjm hn9 hjn; subst e9; exact absurd hB9 q)) (ps_cwV ps_gd 3 hts tw_458 k_PS_undefine e_PS_undefine ⟨Nat.le_of_ble_eq_true rfl, Nat.le_of_ble_eq_true rfl⟩) hK hP hD [0, 1, 2, 3, 4, 5, 6, 7, 8, 9, 10, 11, 12, 13, 14, 15, 16, 17, 18, 19, 20, 21, 22, 23, 24, 25, 26, 27, 28, 29, 30, 31, 32, 33, 34, 35, 36, 37, 38, 39] (by decide) lw_s1 0 cPS rfl rfl rfl hl.1 rfl (Nat.le_of_ble_eq_true rfl) d_law_law_607 ⟨by show 100 + ps_L N + (ps_mc N (K 5) + ps_vc 16384 N 10 j) ≤ 600000; omega, by show 440000 + ps_Y N + (ps_ms N (K 5) + ps_vs 16384 N 10 j) ≤ 7302250; omega⟩) (fun r1 u1 H locs h1 hP hD hS => ?_)
            obtain ⟨q1, hr1, hu1⟩ := (((li_ss (h1.y hA9) hj hjm hjn).n hG9).y hB9).n hC9
            subst hr1
            subst hu1
            refine lv_aload_n hx hb d_law_law_610 rfl (lv_at hl 1 rfl) ?_
            refine lv_aload_n hx hb d_law_law_611 rfl (lv_at hl 3 rfl) ?_
            refine lv_iload_n hx hb d_law_law_612 rfl (lv_at hl 0 rfl) ?_
            refine lv_iconst (v := nI 1) hx hb d_law_law_613 (by decide) ?_
            refine lv_iadd hx hb d_law_law_614 ?_
            refine ps_top (z := nI (6 * i + 1)) (nI_add _ _) ?_
            refine va_sld hx hb hX hbl hbA hS (vp_in_nI (show 6 * i + 1 < L by omega) (by omega)) d_law_law_615 ?_
            refine ps_top (z := xs (6 * i + 1)) (by rw [nI_clamp (show 6 * i + 1 < 2 ^ 31 by omega)]) ?_
            refine lv_aload_n hx hb d_law_law_616 rfl (lv_at hl 3 rfl) ?_
            refine lv_iload_n hx hb d_law_law_617 rfl (lv_at hl 0 rfl) ?_
            refine lv_iconst (v := nI 2) hx hb d_law_law_618 (by decide) ?_
            refine lv_iadd hx hb d_law_law_619 ?_
            refine ps_top (z := nI (6 * i + 2)) (nI_add _ _) ?_
            refine va_sld hx hb hX hbl hbA hS (vp_in_nI (show 6 * i + 2 < L by omega) (by omega)) d_law_law_620 ?_
            refine ps_top (z := xs (6 * i + 2)) (by rw [nI_clamp (show 6 * i + 2 < 2 ^ 31 by omega)]) ?_
            refine lv_aload_n hx hb d_law_law_621 rfl (lv_at hl 3 rfl) ?_
            refine lv_iload_n hx hb d_law_law_622 rfl (lv_at hl 0 rfl) ?_
            refine lv_iconst (v := nI 3) hx hb d_law_law_623 (by decide) ?_
            refine lv_iadd hx hb d_law_law_624 ?_
            refine ps_top (z := nI (6 * i + 3)) (nI_add _ _) ?_
            refine va_sld hx hb hX hbl hbA hS (vp_in_nI (show 6 * i + 3 < L by omega) (by omega)) d_law_law_625 ?_
            refine ps_top (z := xs (6 * i + 3)) (by rw [nI_clamp (show 6 * i + 3 < 2 ^ 31 by omega)]) ?_
            refine ps_afterI (wc := mw cI cB cS cZ b K S ck cu F X) (wr := pw cI a q1 (va_up K 5 (K 5 + 1)) S ck cu (ps_Fv (ps_Fm F (K 5) (nI 4) j (F 10 j) (F 11 j)) 10 j (-1) 0) (ps_Nv (ps_Nm N (K 5)) 10 j)) hP hD hS hA [0, 1, 2, 3, 4, 5, 6, 7, 8, 9, 10, 11, 12, 13, 14, 15, 16, 17, 18] [19, 20, 21, 22, 23, 24, 25, 26, 27, 28, 29, 30, 31, 32, 33, 34, 35, 36, 37, 38, 39, 40, 41, 42, 43, 44, 45, 46, 47, 48, 49, 50, 51, 52, 53, 54, 55, 56, 57, 58] lw_s3 lw_s4 (by decide) (by decide) (ps_runVI ⟨hx, hb, hml, hown, hts⟩ (m_undefine l dC dI cI tys ht cB cS cZ htB htS htZ b K S ck cu F X hKb hSb (xs (6 * i + 1)) (xs (6 * i + 2)) (xs (6 * i + 3)) hk4 (T S 4) (T S 5) (by omega) hb9 hk5 (fun q => htX q (by decide)) htB9 (fun j => (hIV j).2.1) (fun j => (hIV j).1.z)) (ps_cwV ps_gd 3 hts tw_459 k_Mod_undefine e_Mod_undefine ⟨Nat.le_of_ble_eq_true rfl, Nat.le_of_ble_eq_true rfl⟩) hK hP hD [0, 1, 2, 3, 4, 5, 6, 7, 8, 9, 10, 11, 12, 13, 14, 15, 16, 17, 18] (by decide) lw_s3 0 cMod rfl rfl rfl hl.1 rfl (Nat.le_of_ble_eq_true rfl) d_law_law_626 ⟨by show 100 + ps_L N + (ps_mc N (K 5) + ps_vc 16384 N 10 j) + 0 ≤ 600000; omega, by show 440000 + ps_Y N + (ps_ms N (K 5) + ps_vs 16384 N 10 j) + 0 ≤ 7302250; omega⟩) (fun r2 u2 H locs h2 hP hD hS => ?_)
            obtain ⟨z9, ez9, h2⟩ := (li_ss (h2.y hA9) hj hjm hjn).n (fun q => hG9 ((li_gone hIV j).mpr q))
            obtain rfl : z9 = z := ez9.trans ez.symm
            obtain ⟨hr2, hu2⟩ := (h2.y (hmo.mp hB9)).n hC9
            subst hr2
            subst hu2
            refine lv_icmp_eq (tgt := 795) hx hb d_law_law_629 (by decide) (fun c_4 => ?_) (fun c_4 => ?_)
            · refine W.widen (k := 100 + ps_L (ps_Nv (ps_Nm N (K 5)) 10 j)) (n := 440000 + ps_Y (ps_Nv (ps_Nm N (K 5)) 10 j)) (by show 100 + ps_L N + (ps_mc N (K 5) + ps_vc 16384 N 10 j) + 0 ≤ _; omega) (by show 440000 + ps_Y N + (ps_ms N (K 5) + ps_vs 16384 N 10 j) + 0 ≤ _; omega) ?_
              exact ih _ _ _ _ _ _ _ _ _ _ _ ls hI2 hl hP hD hS
            · exact absurd rfl c_4
        · obtain ⟨z, ez⟩ : ∃ z : Int32, z = (-1) - nI j := ⟨_, rfl⟩
          have hmo := li_must4 (S := S) (t := T S 4) (b := T S 5) hIM hw (show j < 2 ^ 31 by omega) ez
          have hcL := li_c10_L (N := N) j
          have hcY := li_c10_Y j hw (by omega)
          have hI2 : li_I K S (ps_Fv F 10 j (-1) 0) (ps_Nv N 10 j) T (va_up X 3 (upd (X 3) j 1)) := li_val (a := X 1 j) (b := X 2 j) (c := 1) hI (by omega) rfl li_us li_us rfl rfl rfl rfl rfl rfl rfl (Or.inr ⟨rfl, rfl, by decide⟩) (hIV j).2.1
          have hRL2 := ps_L_le hI2.2.1
          have hRY2 := ps_Y_le hI2.2.1
          refine lv_aload_n hx hb d_law_law_591 rfl (lv_at hl 2 rfl) ?_
          refine lv_aload_n hx hb d_law_law_592 rfl (lv_at hl 3 rfl) ?_
          refine lv_iload_n hx hb d_law_law_593 rfl (lv_at hl 0 rfl) ?_
          refine lv_iconst (v := nI 1) hx hb d_law_law_594 (by decide) ?_
          refine lv_iadd hx hb d_law_law_595 ?_
          refine ps_top (z := nI (6 * i + 1)) (nI_add _ _) ?_
          refine va_sld hx hb hX hbl hbA hS (vp_in_nI (show 6 * i + 1 < L by omega) (by omega)) d_law_law_596 ?_
          refine ps_top (z := xs (6 * i + 1)) (by rw [nI_clamp (show 6 * i + 1 < 2 ^ 31 by omega)]) ?_
          refine lv_aload_n hx hb d_law_law_597 rfl (lv_at hl 3 rfl) ?_
          refine lv_iload_n hx hb d_law_law_598 rfl (lv_at hl 0 rfl) ?_
          refine lv_iconst (v := nI 2) hx hb d_law_law_599 (by decide) ?_
          refine lv_iadd hx hb d_law_law_600 ?_
          refine ps_top (z := nI (6 * i + 2)) (nI_add _ _) ?_
          refine va_sld hx hb hX hbl hbA hS (vp_in_nI (show 6 * i + 2 < L by omega) (by omega)) d_law_law_601 ?_
          refine ps_top (z := xs (6 * i + 2)) (by rw [nI_clamp (show 6 * i + 2 < 2 ^ 31 by omega)]) ?_
          refine lv_aload_n hx hb d_law_law_602 rfl (lv_at hl 3 rfl) ?_
          refine lv_iload_n hx hb d_law_law_603 rfl (lv_at hl 0 rfl) ?_
          refine lv_iconst (v := nI 3) hx hb d_law_law_604 (by decide) ?_
          refine lv_iadd hx hb d_law_law_605 ?_
          refine ps_top (z := nI (6 * i + 3)) (nI_add _ _) ?_
          refine va_sld hx hb hX hbl hbA hS (vp_in_nI (show 6 * i + 3 < L by omega) (by omega)) d_law_law_606 ?_
          refine ps_top (z := xs (6 * i + 3)) (by rw [nI_clamp (show 6 * i + 3 < 2 ^ 31 by omega)]) ?_
          refine ps_afterI (wc := pw cI a q K S ck cu F N) (wr := mw cI cB cS cZ b K S ck cu F X) hP hD hS hA [0, 1, 2, 3, 4, 5, 6, 7, 8, 9, 10, 11, 12, 13, 14, 15, 16, 17, 18, 19, 20, 21, 22, 23, 24, 25, 26, 27, 28, 29, 30, 31, 32, 33, 34, 35, 36, 37, 38, 39] [40, 41, 42, 43, 44, 45, 46, 47, 48, 49, 50, 51, 52, 53, 54, 55, 56, 57, 58] lw_s1 lw_s2 (by decide) (by decide) (ps_runVI ⟨hx, hb, hml, hown, hts⟩ (c_undefine l dC dI cI tys ht a q K S ck cu F N hw hKb hSb (xs (6 * i + 1)) (xs (6 * i + 2)) (xs (6 * i + 3)) hk4 (T S 4) (T S 5) (by omega) (by omega) htF hbF (ps_vc 16384 N 10 j) (ps_vs 16384 N 10 j) (fun _ j9 hj9 hm9 hn9 _ q => by have e9 := li_uni (Nat.zero_le _) (Nat.zero_le _) hm9 hjm hn9 hjn; subst e9; exact absurd q hB9) (fun _ j9 hj9 hm9 hn9 _ _ => by have e9 := li_uni (Nat.zero_le _) (Nat.zero_le _) hm9 hjm hn9 hjn; subst e9; exact ⟨Nat.le_refl _, Nat.le_refl _⟩)) (ps_cwV ps_gd 3 hts tw_458 k_PS_undefine e_PS_undefine ⟨Nat.le_of_ble_eq_true rfl, Nat.le_of_ble_eq_true rfl⟩) hK hP hD [0, 1, 2, 3, 4, 5, 6, 7, 8, 9, 10, 11, 12, 13, 14, 15, 16, 17, 18, 19, 20, 21, 22, 23, 24, 25, 26, 27, 28, 29, 30, 31, 32, 33, 34, 35, 36, 37, 38, 39] (by decide) lw_s1 0 cPS rfl rfl rfl hl.1 rfl (Nat.le_of_ble_eq_true rfl) d_law_law_607 ⟨by show 100 + ps_L N + (ps_vc 16384 N 10 j) ≤ 600000; omega, by show 440000 + ps_Y N + (ps_vs 16384 N 10 j) ≤ 7302250; omega⟩) (fun r1 u1 H locs h1 hP hD hS => ?_)
          obtain ⟨q1, hr1, hu1⟩ := ((li_ss (h1.y hA9) hj hjm hjn).n hG9).n hB9
          subst hr1
          subst hu1
          refine lv_aload_n hx hb d_law_law_610 rfl (lv_at hl 1 rfl) ?_
          refine lv_aload_n hx hb d_law_law_611 rfl (lv_at hl 3 rfl) ?_
          refine lv_iload_n hx hb d_law_law_612 rfl (lv_at hl 0 rfl) ?_
          refine lv_iconst (v := nI 1) hx hb d_law_law_613 (by decide) ?_
          refine lv_iadd hx hb d_law_law_614 ?_
          refine ps_top (z := nI (6 * i + 1)) (nI_add _ _) ?_
          refine va_sld hx hb hX hbl hbA hS (vp_in_nI (show 6 * i + 1 < L by omega) (by omega)) d_law_law_615 ?_
          refine ps_top (z := xs (6 * i + 1)) (by rw [nI_clamp (show 6 * i + 1 < 2 ^ 31 by omega)]) ?_
          refine lv_aload_n hx hb d_law_law_616 rfl (lv_at hl 3 rfl) ?_
          refine lv_iload_n hx hb d_law_law_617 rfl (lv_at hl 0 rfl) ?_
          refine lv_iconst (v := nI 2) hx hb d_law_law_618 (by decide) ?_
          refine lv_iadd hx hb d_law_law_619 ?_
          refine ps_top (z := nI (6 * i + 2)) (nI_add _ _) ?_
          refine va_sld hx hb hX hbl hbA hS (vp_in_nI (show 6 * i + 2 < L by omega) (by omega)) d_law_law_620 ?_
          refine ps_top (z := xs (6 * i + 2)) (by rw [nI_clamp (show 6 * i + 2 < 2 ^ 31 by omega)]) ?_
          refine lv_aload_n hx hb d_law_law_621 rfl (lv_at hl 3 rfl) ?_
          refine lv_iload_n hx hb d_law_law_622 rfl (lv_at hl 0 rfl) ?_
          refine lv_iconst (v := nI 3) hx hb d_law_law_623 (by decide) ?_
          refine lv_iadd hx hb d_law_law_624 ?_
          refine ps_top (z := nI (6 * i + 3)) (nI_add _ _) ?_
          refine va_sld hx hb hX hbl hbA hS (vp_in_nI (show 6 * i + 3 < L by omega) (by omega)) d_law_law_625 ?_
          refine ps_top (z := xs (6 * i + 3)) (by rw [nI_clamp (show 6 * i + 3 < 2 ^ 31 by omega)]) ?_
          refine ps_afterI (wc := mw cI cB cS cZ b K S ck cu F X) (wr := pw cI a q1 K S ck cu (ps_Fv F 10 j (-1) 0) (ps_Nv N 10 j)) hP hD hS hA [0, 1, 2, 3, 4, 5, 6, 7, 8, 9, 10, 11, 12, 13, 14, 15, 16, 17, 18] [19, 20, 21, 22, 23, 24, 25, 26, 27, 28, 29, 30, 31, 32, 33, 34, 35, 36, 37, 38, 39, 40, 41, 42, 43, 44, 45, 46, 47, 48, 49, 50, 51, 52, 53, 54, 55, 56, 57, 58] lw_s3 lw_s4 (by decide) (by decide) (ps_runVI ⟨hx, hb, hml, hown, hts⟩ (m_undefine l dC dI cI tys ht cB cS cZ htB htS htZ b K S ck cu F X hKb hSb (xs (6 * i + 1)) (xs (6 * i + 2)) (xs (6 * i + 3)) hk4 (T S 4) (T S 5) (by omega) hb9 hk5 (fun q => htX q (by decide)) htB9 (fun j => (hIV j).2.1) (fun j => (hIV j).1.z)) (ps_cwV ps_gd 3 hts tw_459 k_Mod_undefine e_Mod_undefine ⟨Nat.le_of_ble_eq_true rfl, Nat.le_of_ble_eq_true rfl⟩) hK hP hD [0, 1, 2, 3, 4, 5, 6, 7, 8, 9, 10, 11, 12, 13, 14, 15, 16, 17, 18] (by decide) lw_s3 0 cMod rfl rfl rfl hl.1 rfl (Nat.le_of_ble_eq_true rfl) d_law_law_626 ⟨by show 100 + ps_L N + (ps_vc 16384 N 10 j) + 0 ≤ 600000; omega, by show 440000 + ps_Y N + (ps_vs 16384 N 10 j) + 0 ≤ 7302250; omega⟩) (fun r2 u2 H locs h2 hP hD hS => ?_)
          obtain ⟨z9, ez9, h2⟩ := (li_ss (h2.y hA9) hj hjm hjn).n (fun q => hG9 ((li_gone hIV j).mpr q))
          obtain rfl : z9 = z := ez9.trans ez.symm
          obtain ⟨hr2, hu2⟩ := h2.n (fun q => hB9 (hmo.mpr q))
          subst hr2
          subst hu2
          refine lv_icmp_eq (tgt := 795) hx hb d_law_law_629 (by decide) (fun c_5 => ?_) (fun c_5 => ?_)
          · refine W.widen (k := 100 + ps_L (ps_Nv N 10 j)) (n := 440000 + ps_Y (ps_Nv N 10 j)) (by show 100 + ps_L N + (ps_vc 16384 N 10 j) + 0 ≤ _; omega) (by show 440000 + ps_Y N + (ps_vs 16384 N 10 j) + 0 ≤ _; omega) ?_
            exact ih _ _ _ _ _ _ _ _ _ _ _ ls hI2 hl hP hD hS
          · exact absurd rfl c_5
  · have hI2 : li_I K S F N T X := hI
    have hRL2 := ps_L_le hI2.2.1
    have hRY2 := ps_Y_le hI2.2.1
    refine lv_aload_n hx hb d_law_law_591 rfl (lv_at hl 2 rfl) ?_
    refine lv_aload_n hx hb d_law_law_592 rfl (lv_at hl 3 rfl) ?_
    refine lv_iload_n hx hb d_law_law_593 rfl (lv_at hl 0 rfl) ?_
    refine lv_iconst (v := nI 1) hx hb d_law_law_594 (by decide) ?_
    refine lv_iadd hx hb d_law_law_595 ?_
    refine ps_top (z := nI (6 * i + 1)) (nI_add _ _) ?_
    refine va_sld hx hb hX hbl hbA hS (vp_in_nI (show 6 * i + 1 < L by omega) (by omega)) d_law_law_596 ?_
    refine ps_top (z := xs (6 * i + 1)) (by rw [nI_clamp (show 6 * i + 1 < 2 ^ 31 by omega)]) ?_
    refine lv_aload_n hx hb d_law_law_597 rfl (lv_at hl 3 rfl) ?_
    refine lv_iload_n hx hb d_law_law_598 rfl (lv_at hl 0 rfl) ?_
    refine lv_iconst (v := nI 2) hx hb d_law_law_599 (by decide) ?_
    refine lv_iadd hx hb d_law_law_600 ?_
    refine ps_top (z := nI (6 * i + 2)) (nI_add _ _) ?_
    refine va_sld hx hb hX hbl hbA hS (vp_in_nI (show 6 * i + 2 < L by omega) (by omega)) d_law_law_601 ?_
    refine ps_top (z := xs (6 * i + 2)) (by rw [nI_clamp (show 6 * i + 2 < 2 ^ 31 by omega)]) ?_
    refine lv_aload_n hx hb d_law_law_602 rfl (lv_at hl 3 rfl) ?_
    refine lv_iload_n hx hb d_law_law_603 rfl (lv_at hl 0 rfl) ?_
    refine lv_iconst (v := nI 3) hx hb d_law_law_604 (by decide) ?_
    refine lv_iadd hx hb d_law_law_605 ?_
    refine ps_top (z := nI (6 * i + 3)) (nI_add _ _) ?_
    refine va_sld hx hb hX hbl hbA hS (vp_in_nI (show 6 * i + 3 < L by omega) (by omega)) d_law_law_606 ?_
    refine ps_top (z := xs (6 * i + 3)) (by rw [nI_clamp (show 6 * i + 3 < 2 ^ 31 by omega)]) ?_
    refine ps_afterI (wc := pw cI a q K S ck cu F N) (wr := mw cI cB cS cZ b K S ck cu F X) hP hD hS hA [0, 1, 2, 3, 4, 5, 6, 7, 8, 9, 10, 11, 12, 13, 14, 15, 16, 17, 18, 19, 20, 21, 22, 23, 24, 25, 26, 27, 28, 29, 30, 31, 32, 33, 34, 35, 36, 37, 38, 39] [40, 41, 42, 43, 44, 45, 46, 47, 48, 49, 50, 51, 52, 53, 54, 55, 56, 57, 58] lw_s1 lw_s2 (by decide) (by decide) (ps_runVI ⟨hx, hb, hml, hown, hts⟩ (c_undefine l dC dI cI tys ht a q K S ck cu F N hw hKb hSb (xs (6 * i + 1)) (xs (6 * i + 2)) (xs (6 * i + 3)) hk4 (T S 4) (T S 5) (by omega) (by omega) htF hbF (0) (0) (fun q => absurd q hA9) (fun q => absurd q hA9)) (ps_cwV ps_gd 3 hts tw_458 k_PS_undefine e_PS_undefine ⟨Nat.le_of_ble_eq_true rfl, Nat.le_of_ble_eq_true rfl⟩) hK hP hD [0, 1, 2, 3, 4, 5, 6, 7, 8, 9, 10, 11, 12, 13, 14, 15, 16, 17, 18, 19, 20, 21, 22, 23, 24, 25, 26, 27, 28, 29, 30, 31, 32, 33, 34, 35, 36, 37, 38, 39] (by decide) lw_s1 0 cPS rfl rfl rfl hl.1 rfl (Nat.le_of_ble_eq_true rfl) d_law_law_607 ⟨by show 100 + ps_L N + (0) ≤ 600000; omega, by show 440000 + ps_Y N + (0) ≤ 7302250; omega⟩) (fun r1 u1 H locs h1 hP hD hS => ?_)
    obtain ⟨hr1, hu1⟩ := h1.n hA9
    subst hr1
    subst hu1
    refine lv_aload_n hx hb d_law_law_610 rfl (lv_at hl 1 rfl) ?_
    refine lv_aload_n hx hb d_law_law_611 rfl (lv_at hl 3 rfl) ?_
    refine lv_iload_n hx hb d_law_law_612 rfl (lv_at hl 0 rfl) ?_
    refine lv_iconst (v := nI 1) hx hb d_law_law_613 (by decide) ?_
    refine lv_iadd hx hb d_law_law_614 ?_
    refine ps_top (z := nI (6 * i + 1)) (nI_add _ _) ?_
    refine va_sld hx hb hX hbl hbA hS (vp_in_nI (show 6 * i + 1 < L by omega) (by omega)) d_law_law_615 ?_
    refine ps_top (z := xs (6 * i + 1)) (by rw [nI_clamp (show 6 * i + 1 < 2 ^ 31 by omega)]) ?_
    refine lv_aload_n hx hb d_law_law_616 rfl (lv_at hl 3 rfl) ?_
    refine lv_iload_n hx hb d_law_law_617 rfl (lv_at hl 0 rfl) ?_
    refine lv_iconst (v := nI 2) hx hb d_law_law_618 (by decide) ?_
    refine lv_iadd hx hb d_law_law_619 ?_
    refine ps_top (z := nI (6 * i + 2)) (nI_add _ _) ?_
    refine va_sld hx hb hX hbl hbA hS (vp_in_nI (show 6 * i + 2 < L by omega) (by omega)) d_law_law_620 ?_
    refine ps_top (z := xs (6 * i + 2)) (by rw [nI_clamp (show 6 * i + 2 < 2 ^ 31 by omega)]) ?_
    refine lv_aload_n hx hb d_law_law_621 rfl (lv_at hl 3 rfl) ?_
    refine lv_iload_n hx hb d_law_law_622 rfl (lv_at hl 0 rfl) ?_
    refine lv_iconst (v := nI 3) hx hb d_law_law_623 (by decide) ?_
    refine lv_iadd hx hb d_law_law_624 ?_
    refine ps_top (z := nI (6 * i + 3)) (nI_add _ _) ?_
    refine va_sld hx hb hX hbl hbA hS (vp_in_nI (show 6 * i + 3 < L by omega) (by omega)) d_law_law_625 ?_
    refine ps_top (z := xs (6 * i + 3)) (by rw [nI_clamp (show 6 * i + 3 < 2 ^ 31 by omega)]) ?_
    refine ps_afterI (wc := mw cI cB cS cZ b K S ck cu F X) (wr := pw cI a q K S ck cu F N) hP hD hS hA [0, 1, 2, 3, 4, 5, 6, 7, 8, 9, 10, 11, 12, 13, 14, 15, 16, 17, 18] [19, 20, 21, 22, 23, 24, 25, 26, 27, 28, 29, 30, 31, 32, 33, 34, 35, 36, 37, 38, 39, 40, 41, 42, 43, 44, 45, 46, 47, 48, 49, 50, 51, 52, 53, 54, 55, 56, 57, 58] lw_s3 lw_s4 (by decide) (by decide) (ps_runVI ⟨hx, hb, hml, hown, hts⟩ (m_undefine l dC dI cI tys ht cB cS cZ htB htS htZ b K S ck cu F X hKb hSb (xs (6 * i + 1)) (xs (6 * i + 2)) (xs (6 * i + 3)) hk4 (T S 4) (T S 5) (by omega) hb9 hk5 (fun q => htX q (by decide)) htB9 (fun j => (hIV j).2.1) (fun j => (hIV j).1.z)) (ps_cwV ps_gd 3 hts tw_459 k_Mod_undefine e_Mod_undefine ⟨Nat.le_of_ble_eq_true rfl, Nat.le_of_ble_eq_true rfl⟩) hK hP hD [0, 1, 2, 3, 4, 5, 6, 7, 8, 9, 10, 11, 12, 13, 14, 15, 16, 17, 18] (by decide) lw_s3 0 cMod rfl rfl rfl hl.1 rfl (Nat.le_of_ble_eq_true rfl) d_law_law_626 ⟨by show 100 + ps_L N + (0) + 0 ≤ 600000; omega, by show 440000 + ps_Y N + (0) + 0 ≤ 7302250; omega⟩) (fun r2 u2 H locs h2 hP hD hS => ?_)
    obtain ⟨hr2, hu2⟩ := h2.n hA9
    subst hr2
    subst hu2
    refine lv_icmp_eq (tgt := 795) hx hb d_law_law_629 (by decide) (fun c_6 => ?_) (fun c_6 => ?_)
    · refine W.widen (k := 100 + ps_L N) (n := 440000 + ps_Y N) (by show 100 + ps_L N + (0) + 0 ≤ _; omega) (by show 440000 + ps_Y N + (0) + 0 ≤ _; omega) ?_
      exact ih _ _ _ _ _ _ _ _ _ _ _ ls hI2 hl hP hD hS
    · exact absurd rfl c_6

set_option maxHeartbeats 4000000 in
set_option maxRecDepth 100000 in
theorem lw_next {p : Program} {l : Launch} {e : Env} {s : State} {m : MethodId} {below : List Frame} {meth : Method} {c : Code} {sb L : Nat} {xs : Nat → Int32} {A : Nat → Prop} {dC : Nat → ClassId} {dI : Nat → Nat → Nat} {cI cB cS cZ : ClassId} {tys : List (ClassId × FieldType)} {a b : Nat → Nat} (hC : lw_C p s m meth c sb L xs A dC dI cI cB cS cZ tys) {i : Nat} (hi : 6 * i + 6 ≤ L) (ih : lw_H p l e s m below meth c sb A dC dI cI cB cS cZ a b 795 i) : lw_H p l e s m below meth c sb A dC dI cI cB cS cZ a b 657 i := by
  intro K S ck cu F N T X q H locs ls hI hl hP hD hS
  obtain ⟨⟨hx, hb, hr, hml, hown, hts0, hX, hbl, hlocks, hgv⟩, hL, hA, hAs, hbA, hK, ht, htB, htS, htZ⟩ := hC
  have hts : ∀ w ∈ ps_tbl, w.before #[Value.ref sb] s = true := fun w hw => hts0 w (List.mem_filter.mp hw).1
  obtain ⟨⟨hKb, hk0, hk1, hk3, hk4, hk5, hSb⟩, hw, hIL, hIT, hIM, hIP, hIB, hIV⟩ := id hI
  have hrw := hIL.1
  have hRL := ps_L_le hw
  have hRY := ps_Y_le hw
  have he : ∀ j, (F 7 j = (xs (6 * i + 1)) ∧ X 3 j = 0) ↔ (F 7 j = (xs (6 * i + 1)) ∧ ¬ F 10 j = -1) := fun j => iff_of_eq (congrFun (li_m2 hIV (xs (6 * i + 1))) j)
  by_cases hA9 : (nI 1 ≤ (xs (6 * i + 1)) ∧ (xs (6 * i + 1)) ≤ nI (K 3)) ∧ (nI 0 ≤ (xs (6 * i + 2)) ∧ (xs (6 * i + 2)) ≤ nI 15)
  · by_cases hZ9 : (xs (6 * i + 2)) = 0
    · rcases li_find (fun j => F 7 j = (xs (6 * i + 1)) ∧ ¬ F 10 j = -1) (0) (K 4) with hend | ⟨p0, hp1, hp2, hp3, hp4⟩
      · have hI2 : li_I K S F N T X := hI
        have hRL2 := ps_L_le hI2.2.1
        have hRY2 := ps_Y_le hI2.2.1
        refine lv_aload_n hx hb d_law_law_657 rfl (lv_at hl 2 rfl) ?_
        refine lv_aload_n hx hb d_law_law_658 rfl (lv_at hl 3 rfl) ?_
        refine lv_iload_n hx hb d_law_law_659 rfl (lv_at hl 0 rfl) ?_
        refine lv_iconst (v := nI 1) hx hb d_law_law_660 (by decide) ?_
        refine lv_iadd hx hb d_law_law_661 ?_
        refine ps_top (z := nI (6 * i + 1)) (nI_add _ _) ?_
        refine va_sld hx hb hX hbl hbA hS (vp_in_nI (show 6 * i + 1 < L by omega) (by omega)) d_law_law_662 ?_
        refine ps_top (z := xs (6 * i + 1)) (by rw [nI_clamp (show 6 * i + 1 < 2 ^ 31 by omega)]) ?_
        refine lv_aload_n hx hb d_law_law_663 rfl (lv_at hl 3 rfl) ?_
        refine lv_iload_n hx hb d_law_law_664 rfl (lv_at hl 0 rfl) ?_
        refine lv_iconst (v := nI 2) hx hb d_law_law_665 (by decide) ?_
        refine lv_iadd hx hb d_law_law_666 ?_
        refine ps_top (z := nI (6 * i + 2)) (nI_add _ _) ?_
        refine va_sld hx hb hX hbl hbA hS (vp_in_nI (show 6 * i + 2 < L by omega) (by omega)) d_law_law_667 ?_
        refine ps_top (z := xs (6 * i + 2)) (by rw [nI_clamp (show 6 * i + 2 < 2 ^ 31 by omega)]) ?_
        refine lv_aload_n hx hb d_law_law_668 rfl (lv_at hl 3 rfl) ?_
        refine lv_iload_n hx hb d_law_law_669 rfl (lv_at hl 0 rfl) ?_
        refine lv_iconst (v := nI 3) hx hb d_law_law_670 (by decide) ?_
        refine lv_iadd hx hb d_law_law_671 ?_
        refine ps_top (z := nI (6 * i + 3)) (nI_add _ _) ?_
        refine va_sld hx hb hX hbl hbA hS (vp_in_nI (show 6 * i + 3 < L by omega) (by omega)) d_law_law_672 ?_
        refine ps_top (z := xs (6 * i + 3)) (by rw [nI_clamp (show 6 * i + 3 < 2 ^ 31 by omega)]) ?_
        refine ps_afterI (wc := pw cI a q K S ck cu F N) (wr := mw cI cB cS cZ b K S ck cu F X) hP hD hS hA [0, 1, 2, 3, 4, 5, 6, 7, 8, 9, 10, 11, 12, 13, 14, 15, 16, 17, 18, 19, 20, 21, 22, 23, 24, 25, 26, 27, 28, 29, 30, 31, 32, 33, 34, 35, 36, 37, 38, 39] [40, 41, 42, 43, 44, 45, 46, 47, 48, 49, 50, 51, 52, 53, 54, 55, 56, 57, 58] lw_s1 lw_s2 (by decide) (by decide) (ps_runVI ⟨hx, hb, hml, hown, hts⟩ (c_next l dC dI cI tys ht a q K S ck cu F N hw hKb hSb (xs (6 * i + 1)) (xs (6 * i + 2)) (xs (6 * i + 3))) (ps_cwV ps_gd 3 hts tw_460 k_PS_next e_PS_next ⟨Nat.le_of_ble_eq_true rfl, Nat.le_of_ble_eq_true rfl⟩) hK hP hD [0, 1, 2, 3, 4, 5, 6, 7, 8, 9, 10, 11, 12, 13, 14, 15, 16, 17, 18, 19, 20, 21, 22, 23, 24, 25, 26, 27, 28, 29, 30, 31, 32, 33, 34, 35, 36, 37, 38, 39] (by decide) lw_s1 0 cPS rfl rfl rfl hl.1 rfl (Nat.le_of_ble_eq_true rfl) d_law_law_673 ⟨by show 100 + ps_L N + (0) ≤ 600000; omega, by show 440000 + ps_Y N + (0) ≤ 7302250; omega⟩) (fun r1 u1 H locs h1 hP hD hS => ?_)
        obtain ⟨hr1, hu1⟩ := li_xn (M := (fun j => F 7 j = (xs (6 * i + 1)) ∧ ¬ F 10 j = -1)) ((h1.y hA9).y hZ9) hend
        subst hr1
        subst hu1
        refine lv_aload_n hx hb d_law_law_676 rfl (lv_at hl 1 rfl) ?_
        refine lv_aload_n hx hb d_law_law_677 rfl (lv_at hl 3 rfl) ?_
        refine lv_iload_n hx hb d_law_law_678 rfl (lv_at hl 0 rfl) ?_
        refine lv_iconst (v := nI 1) hx hb d_law_law_679 (by decide) ?_
        refine lv_iadd hx hb d_law_law_680 ?_
        refine ps_top (z := nI (6 * i + 1)) (nI_add _ _) ?_
        refine va_sld hx hb hX hbl hbA hS (vp_in_nI (show 6 * i + 1 < L by omega) (by omega)) d_law_law_681 ?_
        refine ps_top (z := xs (6 * i + 1)) (by rw [nI_clamp (show 6 * i + 1 < 2 ^ 31 by omega)]) ?_
        refine lv_aload_n hx hb d_law_law_682 rfl (lv_at hl 3 rfl) ?_
        refine lv_iload_n hx hb d_law_law_683 rfl (lv_at hl 0 rfl) ?_
        refine lv_iconst (v := nI 2) hx hb d_law_law_684 (by decide) ?_
        refine lv_iadd hx hb d_law_law_685 ?_
        refine ps_top (z := nI (6 * i + 2)) (nI_add _ _) ?_
        refine va_sld hx hb hX hbl hbA hS (vp_in_nI (show 6 * i + 2 < L by omega) (by omega)) d_law_law_686 ?_
        refine ps_top (z := xs (6 * i + 2)) (by rw [nI_clamp (show 6 * i + 2 < 2 ^ 31 by omega)]) ?_
        refine lv_aload_n hx hb d_law_law_687 rfl (lv_at hl 3 rfl) ?_
        refine lv_iload_n hx hb d_law_law_688 rfl (lv_at hl 0 rfl) ?_
        refine lv_iconst (v := nI 3) hx hb d_law_law_689 (by decide) ?_
        refine lv_iadd hx hb d_law_law_690 ?_
        refine ps_top (z := nI (6 * i + 3)) (nI_add _ _) ?_
        refine va_sld hx hb hX hbl hbA hS (vp_in_nI (show 6 * i + 3 < L by omega) (by omega)) d_law_law_691 ?_
        refine ps_top (z := xs (6 * i + 3)) (by rw [nI_clamp (show 6 * i + 3 < 2 ^ 31 by omega)]) ?_
        refine ps_afterI (wc := mw cI cB cS cZ b K S ck cu F X) (wr := pw cI a q K S 0 0 F N) hP hD hS hA [0, 1, 2, 3, 4, 5, 6, 7, 8, 9, 10, 11, 12, 13, 14, 15, 16, 17, 18] [19, 20, 21, 22, 23, 24, 25, 26, 27, 28, 29, 30, 31, 32, 33, 34, 35, 36, 37, 38, 39, 40, 41, 42, 43, 44, 45, 46, 47, 48, 49, 50, 51, 52, 53, 54, 55, 56, 57, 58] lw_s3 lw_s4 (by decide) (by decide) (ps_runVI ⟨hx, hb, hml, hown, hts⟩ (m_next l dC dI cI tys ht cB cS cZ htB htS htZ b K S ck cu F X hKb hSb (xs (6 * i + 1)) (xs (6 * i + 2)) (xs (6 * i + 3)) hk4) (ps_cwV ps_gd 3 hts tw_461 k_Mod_next e_Mod_next ⟨Nat.le_of_ble_eq_true rfl, Nat.le_of_ble_eq_true rfl⟩) hK hP hD [0, 1, 2, 3, 4, 5, 6, 7, 8, 9, 10, 11, 12, 13, 14, 15, 16, 17, 18] (by decide) lw_s3 0 cMod rfl rfl rfl hl.1 rfl (Nat.le_of_ble_eq_true rfl) d_law_law_692 ⟨by show 100 + ps_L N + (0) + 0 ≤ 600000; omega, by show 440000 + ps_Y N + (0) + 0 ≤ 7302250; omega⟩) (fun r2 u2 H locs h2 hP hD hS => ?_)
        obtain ⟨hr2, hu2⟩ := li_xn (M := (fun j => F 7 j = (xs (6 * i + 1)) ∧ X 3 j = 0)) ((h2.y hA9).y hZ9) (fun x hx1 hx2 hx3 => hend x hx1 hx2 ((he x).mp hx3))
        subst hr2
        subst hu2
        refine lv_icmp_eq (tgt := 795) hx hb d_law_law_695 (by decide) (fun c_1 => ?_) (fun c_1 => ?_)
        · refine W.widen (k := 100 + ps_L N) (n := 440000 + ps_Y N) (by show 100 + ps_L N + (0) + 0 ≤ _; omega) (by show 440000 + ps_Y N + (0) + 0 ≤ _; omega) ?_
          exact ih _ _ _ _ _ _ _ _ _ _ _ ls hI2 hl hP hD hS
        · exact absurd rfl c_1
      · have hI2 : li_I K S F N T X := hI
        have hRL2 := ps_L_le hI2.2.1
        have hRY2 := ps_Y_le hI2.2.1
        refine lv_aload_n hx hb d_law_law_657 rfl (lv_at hl 2 rfl) ?_
        refine lv_aload_n hx hb d_law_law_658 rfl (lv_at hl 3 rfl) ?_
        refine lv_iload_n hx hb d_law_law_659 rfl (lv_at hl 0 rfl) ?_
        refine lv_iconst (v := nI 1) hx hb d_law_law_660 (by decide) ?_
        refine lv_iadd hx hb d_law_law_661 ?_
        refine ps_top (z := nI (6 * i + 1)) (nI_add _ _) ?_
        refine va_sld hx hb hX hbl hbA hS (vp_in_nI (show 6 * i + 1 < L by omega) (by omega)) d_law_law_662 ?_
        refine ps_top (z := xs (6 * i + 1)) (by rw [nI_clamp (show 6 * i + 1 < 2 ^ 31 by omega)]) ?_
        refine lv_aload_n hx hb d_law_law_663 rfl (lv_at hl 3 rfl) ?_
        refine lv_iload_n hx hb d_law_law_664 rfl (lv_at hl 0 rfl) ?_
        refine lv_iconst (v := nI 2) hx hb d_law_law_665 (by decide) ?_
        refine lv_iadd hx hb d_law_law_666 ?_
        refine ps_top (z := nI (6 * i + 2)) (nI_add _ _) ?_
        refine va_sld hx hb hX hbl hbA hS (vp_in_nI (show 6 * i + 2 < L by omega) (by omega)) d_law_law_667 ?_
        refine ps_top (z := xs (6 * i + 2)) (by rw [nI_clamp (show 6 * i + 2 < 2 ^ 31 by omega)]) ?_
        refine lv_aload_n hx hb d_law_law_668 rfl (lv_at hl 3 rfl) ?_
        refine lv_iload_n hx hb d_law_law_669 rfl (lv_at hl 0 rfl) ?_
        refine lv_iconst (v := nI 3) hx hb d_law_law_670 (by decide) ?_
        refine lv_iadd hx hb d_law_law_671 ?_
        refine ps_top (z := nI (6 * i + 3)) (nI_add _ _) ?_
        refine va_sld hx hb hX hbl hbA hS (vp_in_nI (show 6 * i + 3 < L by omega) (by omega)) d_law_law_672 ?_
        refine ps_top (z := xs (6 * i + 3)) (by rw [nI_clamp (show 6 * i + 3 < 2 ^ 31 by omega)]) ?_
        refine ps_afterI (wc := pw cI a q K S ck cu F N) (wr := mw cI cB cS cZ b K S ck cu F X) hP hD hS hA [0, 1, 2, 3, 4, 5, 6, 7, 8, 9, 10, 11, 12, 13, 14, 15, 16, 17, 18, 19, 20, 21, 22, 23, 24, 25, 26, 27, 28, 29, 30, 31, 32, 33, 34, 35, 36, 37, 38, 39] [40, 41, 42, 43, 44, 45, 46, 47, 48, 49, 50, 51, 52, 53, 54, 55, 56, 57, 58] lw_s1 lw_s2 (by decide) (by decide) (ps_runVI ⟨hx, hb, hml, hown, hts⟩ (c_next l dC dI cI tys ht a q K S ck cu F N hw hKb hSb (xs (6 * i + 1)) (xs (6 * i + 2)) (xs (6 * i + 3))) (ps_cwV ps_gd 3 hts tw_460 k_PS_next e_PS_next ⟨Nat.le_of_ble_eq_true rfl, Nat.le_of_ble_eq_true rfl⟩) hK hP hD [0, 1, 2, 3, 4, 5, 6, 7, 8, 9, 10, 11, 12, 13, 14, 15, 16, 17, 18, 19, 20, 21, 22, 23, 24, 25, 26, 27, 28, 29, 30, 31, 32, 33, 34, 35, 36, 37, 38, 39] (by decide) lw_s1 0 cPS rfl rfl rfl hl.1 rfl (Nat.le_of_ble_eq_true rfl) d_law_law_673 ⟨by show 100 + ps_L N + (0) ≤ 600000; omega, by show 440000 + ps_Y N + (0) ≤ 7302250; omega⟩) (fun r1 u1 H locs h1 hP hD hS => ?_)
        obtain ⟨hr1, hu1⟩ := li_xs (M := (fun j => F 7 j = (xs (6 * i + 1)) ∧ ¬ F 10 j = -1)) ((h1.y hA9).y hZ9) hp1 hp2 hp3 hp4
        subst hr1
        subst hu1
        refine lv_aload_n hx hb d_law_law_676 rfl (lv_at hl 1 rfl) ?_
        refine lv_aload_n hx hb d_law_law_677 rfl (lv_at hl 3 rfl) ?_
        refine lv_iload_n hx hb d_law_law_678 rfl (lv_at hl 0 rfl) ?_
        refine lv_iconst (v := nI 1) hx hb d_law_law_679 (by decide) ?_
        refine lv_iadd hx hb d_law_law_680 ?_
        refine ps_top (z := nI (6 * i + 1)) (nI_add _ _) ?_
        refine va_sld hx hb hX hbl hbA hS (vp_in_nI (show 6 * i + 1 < L by omega) (by omega)) d_law_law_681 ?_
        refine ps_top (z := xs (6 * i + 1)) (by rw [nI_clamp (show 6 * i + 1 < 2 ^ 31 by omega)]) ?_
        refine lv_aload_n hx hb d_law_law_682 rfl (lv_at hl 3 rfl) ?_
        refine lv_iload_n hx hb d_law_law_683 rfl (lv_at hl 0 rfl) ?_
        refine lv_iconst (v := nI 2) hx hb d_law_law_684 (by decide) ?_
        refine lv_iadd hx hb d_law_law_685 ?_
        refine ps_top (z := nI (6 * i + 2)) (nI_add _ _) ?_
        refine va_sld hx hb hX hbl hbA hS (vp_in_nI (show 6 * i + 2 < L by omega) (by omega)) d_law_law_686 ?_
        refine ps_top (z := xs (6 * i + 2)) (by rw [nI_clamp (show 6 * i + 2 < 2 ^ 31 by omega)]) ?_
        refine lv_aload_n hx hb d_law_law_687 rfl (lv_at hl 3 rfl) ?_
        refine lv_iload_n hx hb d_law_law_688 rfl (lv_at hl 0 rfl) ?_
        refine lv_iconst (v := nI 3) hx hb d_law_law_689 (by decide) ?_
        refine lv_iadd hx hb d_law_law_690 ?_
        refine ps_top (z := nI (6 * i + 3)) (nI_add _ _) ?_
        refine va_sld hx hb hX hbl hbA hS (vp_in_nI (show 6 * i + 3 < L by omega) (by omega)) d_law_law_691 ?_
        refine ps_top (z := xs (6 * i + 3)) (by rw [nI_clamp (show 6 * i + 3 < 2 ^ 31 by omega)]) ?_
        refine ps_afterI (wc := mw cI cB cS cZ b K S ck cu F X) (wr := pw cI a q K S (F 8 p0) (F 9 p0) F N) hP hD hS hA [0, 1, 2, 3, 4, 5, 6, 7, 8, 9, 10, 11, 12, 13, 14, 15, 16, 17, 18] [19, 20, 21, 22, 23, 24, 25, 26, 27, 28, 29, 30, 31, 32, 33, 34, 35, 36, 37, 38, 39, 40, 41, 42, 43, 44, 45, 46, 47, 48, 49, 50, 51, 52, 53, 54, 55, 56, 57, 58] lw_s3 lw_s4 (by decide) (by decide) (ps_runVI ⟨hx, hb, hml, hown, hts⟩ (m_next l dC dI cI tys ht cB cS cZ htB htS htZ b K S ck cu F X hKb hSb (xs (6 * i + 1)) (xs (6 * i + 2)) (xs (6 * i + 3)) hk4) (ps_cwV ps_gd 3 hts tw_461 k_Mod_next e_Mod_next ⟨Nat.le_of_ble_eq_true rfl, Nat.le_of_ble_eq_true rfl⟩) hK hP hD [0, 1, 2, 3, 4, 5, 6, 7, 8, 9, 10, 11, 12, 13, 14, 15, 16, 17, 18] (by decide) lw_s3 0 cMod rfl rfl rfl hl.1 rfl (Nat.le_of_ble_eq_true rfl) d_law_law_692 ⟨by show 100 + ps_L N + (0) + 0 ≤ 600000; omega, by show 440000 + ps_Y N + (0) + 0 ≤ 7302250; omega⟩) (fun r2 u2 H locs h2 hP hD hS => ?_)
        obtain ⟨hr2, hu2⟩ := li_xs (M := (fun j => F 7 j = (xs (6 * i + 1)) ∧ X 3 j = 0)) ((h2.y hA9).y hZ9) hp1 hp2 ((he p0).mpr hp3) (fun x hx1 hx2 hx3 => hp4 x hx1 hx2 ((he x).mp hx3))
        subst hr2
        subst hu2
        refine lv_icmp_eq (tgt := 795) hx hb d_law_law_695 (by decide) (fun c_2 => ?_) (fun c_2 => ?_)
        · refine W.widen (k := 100 + ps_L N) (n := 440000 + ps_Y N) (by show 100 + ps_L N + (0) + 0 ≤ _; omega) (by show 440000 + ps_Y N + (0) + 0 ≤ _; omega) ?_
          exact ih _ _ _ _ _ _ _ _ _ _ _ ls hI2 hl hP hD hS
        · exact absurd rfl c_2
    · rcases li_find (fun j => F 9 j = (xs (6 * i + 3)) ∧ F 8 j = (xs (6 * i + 2)) ∧ F 7 j = (xs (6 * i + 1))) 0 (K 4) with hno | ⟨j, -, hj, hjm, hjn⟩
      · have hI2 : li_I K S F N T X := hI
        have hRL2 := ps_L_le hI2.2.1
        have hRY2 := ps_Y_le hI2.2.1
        refine lv_aload_n hx hb d_law_law_657 rfl (lv_at hl 2 rfl) ?_
        refine lv_aload_n hx hb d_law_law_658 rfl (lv_at hl 3 rfl) ?_
        refine lv_iload_n hx hb d_law_law_659 rfl (lv_at hl 0 rfl) ?_
        refine lv_iconst (v := nI 1) hx hb d_law_law_660 (by decide) ?_
        refine lv_iadd hx hb d_law_law_661 ?_
        refine ps_top (z := nI (6 * i + 1)) (nI_add _ _) ?_
        refine va_sld hx hb hX hbl hbA hS (vp_in_nI (show 6 * i + 1 < L by omega) (by omega)) d_law_law_662 ?_
        refine ps_top (z := xs (6 * i + 1)) (by rw [nI_clamp (show 6 * i + 1 < 2 ^ 31 by omega)]) ?_
        refine lv_aload_n hx hb d_law_law_663 rfl (lv_at hl 3 rfl) ?_
        refine lv_iload_n hx hb d_law_law_664 rfl (lv_at hl 0 rfl) ?_
        refine lv_iconst (v := nI 2) hx hb d_law_law_665 (by decide) ?_
        refine lv_iadd hx hb d_law_law_666 ?_
        refine ps_top (z := nI (6 * i + 2)) (nI_add _ _) ?_
        refine va_sld hx hb hX hbl hbA hS (vp_in_nI (show 6 * i + 2 < L by omega) (by omega)) d_law_law_667 ?_
        refine ps_top (z := xs (6 * i + 2)) (by rw [nI_clamp (show 6 * i + 2 < 2 ^ 31 by omega)]) ?_
        refine lv_aload_n hx hb d_law_law_668 rfl (lv_at hl 3 rfl) ?_
        refine lv_iload_n hx hb d_law_law_669 rfl (lv_at hl 0 rfl) ?_
        refine lv_iconst (v := nI 3) hx hb d_law_law_670 (by decide) ?_
        refine lv_iadd hx hb d_law_law_671 ?_
        refine ps_top (z := nI (6 * i + 3)) (nI_add _ _) ?_
        refine va_sld hx hb hX hbl hbA hS (vp_in_nI (show 6 * i + 3 < L by omega) (by omega)) d_law_law_672 ?_
        refine ps_top (z := xs (6 * i + 3)) (by rw [nI_clamp (show 6 * i + 3 < 2 ^ 31 by omega)]) ?_
        refine ps_afterI (wc := pw cI a q K S ck cu F N) (wr := mw cI cB cS cZ b K S ck cu F X) hP hD hS hA [0, 1, 2, 3, 4, 5, 6, 7, 8, 9, 10, 11, 12, 13, 14, 15, 16, 17, 18, 19, 20, 21, 22, 23, 24, 25, 26, 27, 28, 29, 30, 31, 32, 33, 34, 35, 36, 37, 38, 39] [40, 41, 42, 43, 44, 45, 46, 47, 48, 49, 50, 51, 52, 53, 54, 55, 56, 57, 58] lw_s1 lw_s2 (by decide) (by decide) (ps_runVI ⟨hx, hb, hml, hown, hts⟩ (c_next l dC dI cI tys ht a q K S ck cu F N hw hKb hSb (xs (6 * i + 1)) (xs (6 * i + 2)) (xs (6 * i + 3))) (ps_cwV ps_gd 3 hts tw_460 k_PS_next e_PS_next ⟨Nat.le_of_ble_eq_true rfl, Nat.le_of_ble_eq_true rfl⟩) hK hP hD [0, 1, 2, 3, 4, 5, 6, 7, 8, 9, 10, 11, 12, 13, 14, 15, 16, 17, 18, 19, 20, 21, 22, 23, 24, 25, 26, 27, 28, 29, 30, 31, 32, 33, 34, 35, 36, 37, 38, 39] (by decide) lw_s1 0 cPS rfl rfl rfl hl.1 rfl (Nat.le_of_ble_eq_true rfl) d_law_law_673 ⟨by show 100 + ps_L N + (0) ≤ 600000; omega, by show 440000 + ps_Y N + (0) ≤ 7302250; omega⟩) (fun r1 u1 H locs h1 hP hD hS => ?_)
        obtain ⟨hr1, hu1⟩ := li_sn ((h1.y hA9).n hZ9) hno
        subst hr1
        subst hu1
        refine lv_aload_n hx hb d_law_law_676 rfl (lv_at hl 1 rfl) ?_
        refine lv_aload_n hx hb d_law_law_677 rfl (lv_at hl 3 rfl) ?_
        refine lv_iload_n hx hb d_law_law_678 rfl (lv_at hl 0 rfl) ?_
        refine lv_iconst (v := nI 1) hx hb d_law_law_679 (by decide) ?_
        refine lv_iadd hx hb d_law_law_680 ?_
        refine ps_top (z := nI (6 * i + 1)) (nI_add _ _) ?_
        refine va_sld hx hb hX hbl hbA hS (vp_in_nI (show 6 * i + 1 < L by omega) (by omega)) d_law_law_681 ?_
        refine ps_top (z := xs (6 * i + 1)) (by rw [nI_clamp (show 6 * i + 1 < 2 ^ 31 by omega)]) ?_
        refine lv_aload_n hx hb d_law_law_682 rfl (lv_at hl 3 rfl) ?_
        refine lv_iload_n hx hb d_law_law_683 rfl (lv_at hl 0 rfl) ?_
        refine lv_iconst (v := nI 2) hx hb d_law_law_684 (by decide) ?_
        refine lv_iadd hx hb d_law_law_685 ?_
        refine ps_top (z := nI (6 * i + 2)) (nI_add _ _) ?_
        refine va_sld hx hb hX hbl hbA hS (vp_in_nI (show 6 * i + 2 < L by omega) (by omega)) d_law_law_686 ?_
        refine ps_top (z := xs (6 * i + 2)) (by rw [nI_clamp (show 6 * i + 2 < 2 ^ 31 by omega)]) ?_
        refine lv_aload_n hx hb d_law_law_687 rfl (lv_at hl 3 rfl) ?_
        refine lv_iload_n hx hb d_law_law_688 rfl (lv_at hl 0 rfl) ?_
        refine lv_iconst (v := nI 3) hx hb d_law_law_689 (by decide) ?_
        refine lv_iadd hx hb d_law_law_690 ?_
        refine ps_top (z := nI (6 * i + 3)) (nI_add _ _) ?_
        refine va_sld hx hb hX hbl hbA hS (vp_in_nI (show 6 * i + 3 < L by omega) (by omega)) d_law_law_691 ?_
        refine ps_top (z := xs (6 * i + 3)) (by rw [nI_clamp (show 6 * i + 3 < 2 ^ 31 by omega)]) ?_
        refine ps_afterI (wc := mw cI cB cS cZ b K S ck cu F X) (wr := pw cI a q K S ck cu F N) hP hD hS hA [0, 1, 2, 3, 4, 5, 6, 7, 8, 9, 10, 11, 12, 13, 14, 15, 16, 17, 18] [19, 20, 21, 22, 23, 24, 25, 26, 27, 28, 29, 30, 31, 32, 33, 34, 35, 36, 37, 38, 39, 40, 41, 42, 43, 44, 45, 46, 47, 48, 49, 50, 51, 52, 53, 54, 55, 56, 57, 58] lw_s3 lw_s4 (by decide) (by decide) (ps_runVI ⟨hx, hb, hml, hown, hts⟩ (m_next l dC dI cI tys ht cB cS cZ htB htS htZ b K S ck cu F X hKb hSb (xs (6 * i + 1)) (xs (6 * i + 2)) (xs (6 * i + 3)) hk4) (ps_cwV ps_gd 3 hts tw_461 k_Mod_next e_Mod_next ⟨Nat.le_of_ble_eq_true rfl, Nat.le_of_ble_eq_true rfl⟩) hK hP hD [0, 1, 2, 3, 4, 5, 6, 7, 8, 9, 10, 11, 12, 13, 14, 15, 16, 17, 18] (by decide) lw_s3 0 cMod rfl rfl rfl hl.1 rfl (Nat.le_of_ble_eq_true rfl) d_law_law_692 ⟨by show 100 + ps_L N + (0) + 0 ≤ 600000; omega, by show 440000 + ps_Y N + (0) + 0 ≤ 7302250; omega⟩) (fun r2 u2 H locs h2 hP hD hS => ?_)
        obtain ⟨hr2, hu2⟩ := li_sn ((h2.y hA9).n hZ9) hno
        subst hr2
        subst hu2
        refine lv_icmp_eq (tgt := 795) hx hb d_law_law_695 (by decide) (fun c_3 => ?_) (fun c_3 => ?_)
        · refine W.widen (k := 100 + ps_L N) (n := 440000 + ps_Y N) (by show 100 + ps_L N + (0) + 0 ≤ _; omega) (by show 440000 + ps_Y N + (0) + 0 ≤ _; omega) ?_
          exact ih _ _ _ _ _ _ _ _ _ _ _ ls hI2 hl hP hD hS
        · exact absurd rfl c_3
      · rcases li_find (fun j => F 7 j = (xs (6 * i + 1)) ∧ ¬ F 10 j = -1) (j + 1) (K 4) with hend | ⟨p0, hp1, hp2, hp3, hp4⟩
        · have hI2 : li_I K S F N T X := hI
          have hRL2 := ps_L_le hI2.2.1
          have hRY2 := ps_Y_le hI2.2.1
          refine lv_aload_n hx hb d_law_law_657 rfl (lv_at hl 2 rfl) ?_
          refine lv_aload_n hx hb d_law_law_658 rfl (lv_at hl 3 rfl) ?_
          refine lv_iload_n hx hb d_law_law_659 rfl (lv_at hl 0 rfl) ?_
          refine lv_iconst (v := nI 1) hx hb d_law_law_660 (by decide) ?_
          refine lv_iadd hx hb d_law_law_661 ?_
          refine ps_top (z := nI (6 * i + 1)) (nI_add _ _) ?_
          refine va_sld hx hb hX hbl hbA hS (vp_in_nI (show 6 * i + 1 < L by omega) (by omega)) d_law_law_662 ?_
          refine ps_top (z := xs (6 * i + 1)) (by rw [nI_clamp (show 6 * i + 1 < 2 ^ 31 by omega)]) ?_
          refine lv_aload_n hx hb d_law_law_663 rfl (lv_at hl 3 rfl) ?_
          refine lv_iload_n hx hb d_law_law_664 rfl (lv_at hl 0 rfl) ?_
          refine lv_iconst (v := nI 2) hx hb d_law_law_665 (by decide) ?_
          refine lv_iadd hx hb d_law_law_666 ?_
          refine ps_top (z := nI (6 * i + 2)) (nI_add _ _) ?_
          refine va_sld hx hb hX hbl hbA hS (vp_in_nI (show 6 * i + 2 < L by omega) (by omega)) d_law_law_667 ?_
          refine ps_top (z := xs (6 * i + 2)) (by rw [nI_clamp (show 6 * i + 2 < 2 ^ 31 by omega)]) ?_
          refine lv_aload_n hx hb d_law_law_668 rfl (lv_at hl 3 rfl) ?_
          refine lv_iload_n hx hb d_law_law_669 rfl (lv_at hl 0 rfl) ?_
          refine lv_iconst (v := nI 3) hx hb d_law_law_670 (by decide) ?_
          refine lv_iadd hx hb d_law_law_671 ?_
          refine ps_top (z := nI (6 * i + 3)) (nI_add _ _) ?_
          refine va_sld hx hb hX hbl hbA hS (vp_in_nI (show 6 * i + 3 < L by omega) (by omega)) d_law_law_672 ?_
          refine ps_top (z := xs (6 * i + 3)) (by rw [nI_clamp (show 6 * i + 3 < 2 ^ 31 by omega)]) ?_
          refine ps_afterI (wc := pw cI a q K S ck cu F N) (wr := mw cI cB cS cZ b K S ck cu F X) hP hD hS hA [0, 1, 2, 3, 4, 5, 6, 7, 8, 9, 10, 11, 12, 13, 14, 15, 16, 17, 18, 19, 20, 21, 22, 23, 24, 25, 26, 27, 28, 29, 30, 31, 32, 33, 34, 35, 36, 37, 38, 39] [40, 41, 42, 43, 44, 45, 46, 47, 48, 49, 50, 51, 52, 53, 54, 55, 56, 57, 58] lw_s1 lw_s2 (by decide) (by decide) (ps_runVI ⟨hx, hb, hml, hown, hts⟩ (c_next l dC dI cI tys ht a q K S ck cu F N hw hKb hSb (xs (6 * i + 1)) (xs (6 * i + 2)) (xs (6 * i + 3))) (ps_cwV ps_gd 3 hts tw_460 k_PS_next e_PS_next ⟨Nat.le_of_ble_eq_true rfl, Nat.le_of_ble_eq_true rfl⟩) hK hP hD [0, 1, 2, 3, 4, 5, 6, 7, 8, 9, 10, 11, 12, 13, 14, 15, 16, 17, 18, 19, 20, 21, 22, 23, 24, 25, 26, 27, 28, 29, 30, 31, 32, 33, 34, 35, 36, 37, 38, 39] (by decide) lw_s1 0 cPS rfl rfl rfl hl.1 rfl (Nat.le_of_ble_eq_true rfl) d_law_law_673 ⟨by show 100 + ps_L N + (0) ≤ 600000; omega, by show 440000 + ps_Y N + (0) ≤ 7302250; omega⟩) (fun r1 u1 H locs h1 hP hD hS => ?_)
          obtain ⟨hr1, hu1⟩ := li_xn (M := (fun j => F 7 j = (xs (6 * i + 1)) ∧ ¬ F 10 j = -1)) (li_ss ((h1.y hA9).n hZ9) hj hjm hjn) hend
          subst hr1
          subst hu1
          refine lv_aload_n hx hb d_law_law_676 rfl (lv_at hl 1 rfl) ?_
          refine lv_aload_n hx hb d_law_law_677 rfl (lv_at hl 3 rfl) ?_
          refine lv_iload_n hx hb d_law_law_678 rfl (lv_at hl 0 rfl) ?_
          refine lv_iconst (v := nI 1) hx hb d_law_law_679 (by decide) ?_
          refine lv_iadd hx hb d_law_law_680 ?_
          refine ps_top (z := nI (6 * i + 1)) (nI_add _ _) ?_
          refine va_sld hx hb hX hbl hbA hS (vp_in_nI (show 6 * i + 1 < L by omega) (by omega)) d_law_law_681 ?_
          refine ps_top (z := xs (6 * i + 1)) (by rw [nI_clamp (show 6 * i + 1 < 2 ^ 31 by omega)]) ?_
          refine lv_aload_n hx hb d_law_law_682 rfl (lv_at hl 3 rfl) ?_
          refine lv_iload_n hx hb d_law_law_683 rfl (lv_at hl 0 rfl) ?_
          refine lv_iconst (v := nI 2) hx hb d_law_law_684 (by decide) ?_
          refine lv_iadd hx hb d_law_law_685 ?_
          refine ps_top (z := nI (6 * i + 2)) (nI_add _ _) ?_
          refine va_sld hx hb hX hbl hbA hS (vp_in_nI (show 6 * i + 2 < L by omega) (by omega)) d_law_law_686 ?_
          refine ps_top (z := xs (6 * i + 2)) (by rw [nI_clamp (show 6 * i + 2 < 2 ^ 31 by omega)]) ?_
          refine lv_aload_n hx hb d_law_law_687 rfl (lv_at hl 3 rfl) ?_
          refine lv_iload_n hx hb d_law_law_688 rfl (lv_at hl 0 rfl) ?_
          refine lv_iconst (v := nI 3) hx hb d_law_law_689 (by decide) ?_
          refine lv_iadd hx hb d_law_law_690 ?_
          refine ps_top (z := nI (6 * i + 3)) (nI_add _ _) ?_
          refine va_sld hx hb hX hbl hbA hS (vp_in_nI (show 6 * i + 3 < L by omega) (by omega)) d_law_law_691 ?_
          refine ps_top (z := xs (6 * i + 3)) (by rw [nI_clamp (show 6 * i + 3 < 2 ^ 31 by omega)]) ?_
          refine ps_afterI (wc := mw cI cB cS cZ b K S ck cu F X) (wr := pw cI a q K S 0 0 F N) hP hD hS hA [0, 1, 2, 3, 4, 5, 6, 7, 8, 9, 10, 11, 12, 13, 14, 15, 16, 17, 18] [19, 20, 21, 22, 23, 24, 25, 26, 27, 28, 29, 30, 31, 32, 33, 34, 35, 36, 37, 38, 39, 40, 41, 42, 43, 44, 45, 46, 47, 48, 49, 50, 51, 52, 53, 54, 55, 56, 57, 58] lw_s3 lw_s4 (by decide) (by decide) (ps_runVI ⟨hx, hb, hml, hown, hts⟩ (m_next l dC dI cI tys ht cB cS cZ htB htS htZ b K S ck cu F X hKb hSb (xs (6 * i + 1)) (xs (6 * i + 2)) (xs (6 * i + 3)) hk4) (ps_cwV ps_gd 3 hts tw_461 k_Mod_next e_Mod_next ⟨Nat.le_of_ble_eq_true rfl, Nat.le_of_ble_eq_true rfl⟩) hK hP hD [0, 1, 2, 3, 4, 5, 6, 7, 8, 9, 10, 11, 12, 13, 14, 15, 16, 17, 18] (by decide) lw_s3 0 cMod rfl rfl rfl hl.1 rfl (Nat.le_of_ble_eq_true rfl) d_law_law_692 ⟨by show 100 + ps_L N + (0) + 0 ≤ 600000; omega, by show 440000 + ps_Y N + (0) + 0 ≤ 7302250; omega⟩) (fun r2 u2 H locs h2 hP hD hS => ?_)
          obtain ⟨hr2, hu2⟩ := li_xn (M := (fun j => F 7 j = (xs (6 * i + 1)) ∧ X 3 j = 0)) (li_ss ((h2.y hA9).n hZ9) hj hjm hjn) (fun x hx1 hx2 hx3 => hend x hx1 hx2 ((he x).mp hx3))
          subst hr2
          subst hu2
          refine lv_icmp_eq (tgt := 795) hx hb d_law_law_695 (by decide) (fun c_4 => ?_) (fun c_4 => ?_)
          · refine W.widen (k := 100 + ps_L N) (n := 440000 + ps_Y N) (by show 100 + ps_L N + (0) + 0 ≤ _; omega) (by show 440000 + ps_Y N + (0) + 0 ≤ _; omega) ?_
            exact ih _ _ _ _ _ _ _ _ _ _ _ ls hI2 hl hP hD hS
          · exact absurd rfl c_4
        · have hI2 : li_I K S F N T X := hI
          have hRL2 := ps_L_le hI2.2.1
          have hRY2 := ps_Y_le hI2.2.1
          refine lv_aload_n hx hb d_law_law_657 rfl (lv_at hl 2 rfl) ?_
          refine lv_aload_n hx hb d_law_law_658 rfl (lv_at hl 3 rfl) ?_
          refine lv_iload_n hx hb d_law_law_659 rfl (lv_at hl 0 rfl) ?_
          refine lv_iconst (v := nI 1) hx hb d_law_law_660 (by decide) ?_
          refine lv_iadd hx hb d_law_law_661 ?_
          refine ps_top (z := nI (6 * i + 1)) (nI_add _ _) ?_
          refine va_sld hx hb hX hbl hbA hS (vp_in_nI (show 6 * i + 1 < L by omega) (by omega)) d_law_law_662 ?_
          refine ps_top (z := xs (6 * i + 1)) (by rw [nI_clamp (show 6 * i + 1 < 2 ^ 31 by omega)]) ?_
          refine lv_aload_n hx hb d_law_law_663 rfl (lv_at hl 3 rfl) ?_
          refine lv_iload_n hx hb d_law_law_664 rfl (lv_at hl 0 rfl) ?_
          refine lv_iconst (v := nI 2) hx hb d_law_law_665 (by decide) ?_
          refine lv_iadd hx hb d_law_law_666 ?_
          refine ps_top (z := nI (6 * i + 2)) (nI_add _ _) ?_
          refine va_sld hx hb hX hbl hbA hS (vp_in_nI (show 6 * i + 2 < L by omega) (by omega)) d_law_law_667 ?_
          refine ps_top (z := xs (6 * i + 2)) (by rw [nI_clamp (show 6 * i + 2 < 2 ^ 31 by omega)]) ?_
          refine lv_aload_n hx hb d_law_law_668 rfl (lv_at hl 3 rfl) ?_
          refine lv_iload_n hx hb d_law_law_669 rfl (lv_at hl 0 rfl) ?_
          refine lv_iconst (v := nI 3) hx hb d_law_law_670 (by decide) ?_
          refine lv_iadd hx hb d_law_law_671 ?_
          refine ps_top (z := nI (6 * i + 3)) (nI_add _ _) ?_
          refine va_sld hx hb hX hbl hbA hS (vp_in_nI (show 6 * i + 3 < L by omega) (by omega)) d_law_law_672 ?_
          refine ps_top (z := xs (6 * i + 3)) (by rw [nI_clamp (show 6 * i + 3 < 2 ^ 31 by omega)]) ?_
          refine ps_afterI (wc := pw cI a q K S ck cu F N) (wr := mw cI cB cS cZ b K S ck cu F X) hP hD hS hA [0, 1, 2, 3, 4, 5, 6, 7, 8, 9, 10, 11, 12, 13, 14, 15, 16, 17, 18, 19, 20, 21, 22, 23, 24, 25, 26, 27, 28, 29, 30, 31, 32, 33, 34, 35, 36, 37, 38, 39] [40, 41, 42, 43, 44, 45, 46, 47, 48, 49, 50, 51, 52, 53, 54, 55, 56, 57, 58] lw_s1 lw_s2 (by decide) (by decide) (ps_runVI ⟨hx, hb, hml, hown, hts⟩ (c_next l dC dI cI tys ht a q K S ck cu F N hw hKb hSb (xs (6 * i + 1)) (xs (6 * i + 2)) (xs (6 * i + 3))) (ps_cwV ps_gd 3 hts tw_460 k_PS_next e_PS_next ⟨Nat.le_of_ble_eq_true rfl, Nat.le_of_ble_eq_true rfl⟩) hK hP hD [0, 1, 2, 3, 4, 5, 6, 7, 8, 9, 10, 11, 12, 13, 14, 15, 16, 17, 18, 19, 20, 21, 22, 23, 24, 25, 26, 27, 28, 29, 30, 31, 32, 33, 34, 35, 36, 37, 38, 39] (by decide) lw_s1 0 cPS rfl rfl rfl hl.1 rfl (Nat.le_of_ble_eq_true rfl) d_law_law_673 ⟨by show 100 + ps_L N + (0) ≤ 600000; omega, by show 440000 + ps_Y N + (0) ≤ 7302250; omega⟩) (fun r1 u1 H locs h1 hP hD hS => ?_)
          obtain ⟨hr1, hu1⟩ := li_xs (M := (fun j => F 7 j = (xs (6 * i + 1)) ∧ ¬ F 10 j = -1)) (li_ss ((h1.y hA9).n hZ9) hj hjm hjn) hp1 hp2 hp3 hp4
          subst hr1
          subst hu1
          refine lv_aload_n hx hb d_law_law_676 rfl (lv_at hl 1 rfl) ?_
          refine lv_aload_n hx hb d_law_law_677 rfl (lv_at hl 3 rfl) ?_
          refine lv_iload_n hx hb d_law_law_678 rfl (lv_at hl 0 rfl) ?_
          refine lv_iconst (v := nI 1) hx hb d_law_law_679 (by decide) ?_
          refine lv_iadd hx hb d_law_law_680 ?_
          refine ps_top (z := nI (6 * i + 1)) (nI_add _ _) ?_
          refine va_sld hx hb hX hbl hbA hS (vp_in_nI (show 6 * i + 1 < L by omega) (by omega)) d_law_law_681 ?_
          refine ps_top (z := xs (6 * i + 1)) (by rw [nI_clamp (show 6 * i + 1 < 2 ^ 31 by omega)]) ?_
          refine lv_aload_n hx hb d_law_law_682 rfl (lv_at hl 3 rfl) ?_
          refine lv_iload_n hx hb d_law_law_683 rfl (lv_at hl 0 rfl) ?_
          refine lv_iconst (v := nI 2) hx hb d_law_law_684 (by decide) ?_
          refine lv_iadd hx hb d_law_law_685 ?_
          refine ps_top (z := nI (6 * i + 2)) (nI_add _ _) ?_
          refine va_sld hx hb hX hbl hbA hS (vp_in_nI (show 6 * i + 2 < L by omega) (by omega)) d_law_law_686 ?_
          refine ps_top (z := xs (6 * i + 2)) (by rw [nI_clamp (show 6 * i + 2 < 2 ^ 31 by omega)]) ?_
          refine lv_aload_n hx hb d_law_law_687 rfl (lv_at hl 3 rfl) ?_
          refine lv_iload_n hx hb d_law_law_688 rfl (lv_at hl 0 rfl) ?_
          refine lv_iconst (v := nI 3) hx hb d_law_law_689 (by decide) ?_
          refine lv_iadd hx hb d_law_law_690 ?_
          refine ps_top (z := nI (6 * i + 3)) (nI_add _ _) ?_
          refine va_sld hx hb hX hbl hbA hS (vp_in_nI (show 6 * i + 3 < L by omega) (by omega)) d_law_law_691 ?_
          refine ps_top (z := xs (6 * i + 3)) (by rw [nI_clamp (show 6 * i + 3 < 2 ^ 31 by omega)]) ?_
          refine ps_afterI (wc := mw cI cB cS cZ b K S ck cu F X) (wr := pw cI a q K S (F 8 p0) (F 9 p0) F N) hP hD hS hA [0, 1, 2, 3, 4, 5, 6, 7, 8, 9, 10, 11, 12, 13, 14, 15, 16, 17, 18] [19, 20, 21, 22, 23, 24, 25, 26, 27, 28, 29, 30, 31, 32, 33, 34, 35, 36, 37, 38, 39, 40, 41, 42, 43, 44, 45, 46, 47, 48, 49, 50, 51, 52, 53, 54, 55, 56, 57, 58] lw_s3 lw_s4 (by decide) (by decide) (ps_runVI ⟨hx, hb, hml, hown, hts⟩ (m_next l dC dI cI tys ht cB cS cZ htB htS htZ b K S ck cu F X hKb hSb (xs (6 * i + 1)) (xs (6 * i + 2)) (xs (6 * i + 3)) hk4) (ps_cwV ps_gd 3 hts tw_461 k_Mod_next e_Mod_next ⟨Nat.le_of_ble_eq_true rfl, Nat.le_of_ble_eq_true rfl⟩) hK hP hD [0, 1, 2, 3, 4, 5, 6, 7, 8, 9, 10, 11, 12, 13, 14, 15, 16, 17, 18] (by decide) lw_s3 0 cMod rfl rfl rfl hl.1 rfl (Nat.le_of_ble_eq_true rfl) d_law_law_692 ⟨by show 100 + ps_L N + (0) + 0 ≤ 600000; omega, by show 440000 + ps_Y N + (0) + 0 ≤ 7302250; omega⟩) (fun r2 u2 H locs h2 hP hD hS => ?_)
          obtain ⟨hr2, hu2⟩ := li_xs (M := (fun j => F 7 j = (xs (6 * i + 1)) ∧ X 3 j = 0)) (li_ss ((h2.y hA9).n hZ9) hj hjm hjn) hp1 hp2 ((he p0).mpr hp3) (fun x hx1 hx2 hx3 => hp4 x hx1 hx2 ((he x).mp hx3))
          subst hr2
          subst hu2
          refine lv_icmp_eq (tgt := 795) hx hb d_law_law_695 (by decide) (fun c_5 => ?_) (fun c_5 => ?_)
          · refine W.widen (k := 100 + ps_L N) (n := 440000 + ps_Y N) (by show 100 + ps_L N + (0) + 0 ≤ _; omega) (by show 440000 + ps_Y N + (0) + 0 ≤ _; omega) ?_
            exact ih _ _ _ _ _ _ _ _ _ _ _ ls hI2 hl hP hD hS
          · exact absurd rfl c_5
  · have hI2 : li_I K S F N T X := hI
    have hRL2 := ps_L_le hI2.2.1
    have hRY2 := ps_Y_le hI2.2.1
    refine lv_aload_n hx hb d_law_law_657 rfl (lv_at hl 2 rfl) ?_
    refine lv_aload_n hx hb d_law_law_658 rfl (lv_at hl 3 rfl) ?_
    refine lv_iload_n hx hb d_law_law_659 rfl (lv_at hl 0 rfl) ?_
    refine lv_iconst (v := nI 1) hx hb d_law_law_660 (by decide) ?_
    refine lv_iadd hx hb d_law_law_661 ?_
    refine ps_top (z := nI (6 * i + 1)) (nI_add _ _) ?_
    refine va_sld hx hb hX hbl hbA hS (vp_in_nI (show 6 * i + 1 < L by omega) (by omega)) d_law_law_662 ?_
    refine ps_top (z := xs (6 * i + 1)) (by rw [nI_clamp (show 6 * i + 1 < 2 ^ 31 by omega)]) ?_
    refine lv_aload_n hx hb d_law_law_663 rfl (lv_at hl 3 rfl) ?_
    refine lv_iload_n hx hb d_law_law_664 rfl (lv_at hl 0 rfl) ?_
    refine lv_iconst (v := nI 2) hx hb d_law_law_665 (by decide) ?_
    refine lv_iadd hx hb d_law_law_666 ?_
    refine ps_top (z := nI (6 * i + 2)) (nI_add _ _) ?_
    refine va_sld hx hb hX hbl hbA hS (vp_in_nI (show 6 * i + 2 < L by omega) (by omega)) d_law_law_667 ?_
    refine ps_top (z := xs (6 * i + 2)) (by rw [nI_clamp (show 6 * i + 2 < 2 ^ 31 by omega)]) ?_
    refine lv_aload_n hx hb d_law_law_668 rfl (lv_at hl 3 rfl) ?_
    refine lv_iload_n hx hb d_law_law_669 rfl (lv_at hl 0 rfl) ?_
    refine lv_iconst (v := nI 3) hx hb d_law_law_670 (by decide) ?_
    refine lv_iadd hx hb d_law_law_671 ?_
    refine ps_top (z := nI (6 * i + 3)) (nI_add _ _) ?_
    refine va_sld hx hb hX hbl hbA hS (vp_in_nI (show 6 * i + 3 < L by omega) (by omega)) d_law_law_672 ?_
    refine ps_top (z := xs (6 * i + 3)) (by rw [nI_clamp (show 6 * i + 3 < 2 ^ 31 by omega)]) ?_
    refine ps_afterI (wc := pw cI a q K S ck cu F N) (wr := mw cI cB cS cZ b K S ck cu F X) hP hD hS hA [0, 1, 2, 3, 4, 5, 6, 7, 8, 9, 10, 11, 12, 13, 14, 15, 16, 17, 18, 19, 20, 21, 22, 23, 24, 25, 26, 27, 28, 29, 30, 31, 32, 33, 34, 35, 36, 37, 38, 39] [40, 41, 42, 43, 44, 45, 46, 47, 48, 49, 50, 51, 52, 53, 54, 55, 56, 57, 58] lw_s1 lw_s2 (by decide) (by decide) (ps_runVI ⟨hx, hb, hml, hown, hts⟩ (c_next l dC dI cI tys ht a q K S ck cu F N hw hKb hSb (xs (6 * i + 1)) (xs (6 * i + 2)) (xs (6 * i + 3))) (ps_cwV ps_gd 3 hts tw_460 k_PS_next e_PS_next ⟨Nat.le_of_ble_eq_true rfl, Nat.le_of_ble_eq_true rfl⟩) hK hP hD [0, 1, 2, 3, 4, 5, 6, 7, 8, 9, 10, 11, 12, 13, 14, 15, 16, 17, 18, 19, 20, 21, 22, 23, 24, 25, 26, 27, 28, 29, 30, 31, 32, 33, 34, 35, 36, 37, 38, 39] (by decide) lw_s1 0 cPS rfl rfl rfl hl.1 rfl (Nat.le_of_ble_eq_true rfl) d_law_law_673 ⟨by show 100 + ps_L N + (0) ≤ 600000; omega, by show 440000 + ps_Y N + (0) ≤ 7302250; omega⟩) (fun r1 u1 H locs h1 hP hD hS => ?_)
    obtain ⟨hr1, hu1⟩ := h1.n hA9
    subst hr1
    subst hu1
    refine lv_aload_n hx hb d_law_law_676 rfl (lv_at hl 1 rfl) ?_
    refine lv_aload_n hx hb d_law_law_677 rfl (lv_at hl 3 rfl) ?_
    refine lv_iload_n hx hb d_law_law_678 rfl (lv_at hl 0 rfl) ?_
    refine lv_iconst (v := nI 1) hx hb d_law_law_679 (by decide) ?_
    refine lv_iadd hx hb d_law_law_680 ?_
    refine ps_top (z := nI (6 * i + 1)) (nI_add _ _) ?_
    refine va_sld hx hb hX hbl hbA hS (vp_in_nI (show 6 * i + 1 < L by omega) (by omega)) d_law_law_681 ?_
    refine ps_top (z := xs (6 * i + 1)) (by rw [nI_clamp (show 6 * i + 1 < 2 ^ 31 by omega)]) ?_
    refine lv_aload_n hx hb d_law_law_682 rfl (lv_at hl 3 rfl) ?_
    refine lv_iload_n hx hb d_law_law_683 rfl (lv_at hl 0 rfl) ?_
    refine lv_iconst (v := nI 2) hx hb d_law_law_684 (by decide) ?_
    refine lv_iadd hx hb d_law_law_685 ?_
    refine ps_top (z := nI (6 * i + 2)) (nI_add _ _) ?_
    refine va_sld hx hb hX hbl hbA hS (vp_in_nI (show 6 * i + 2 < L by omega) (by omega)) d_law_law_686 ?_
    refine ps_top (z := xs (6 * i + 2)) (by rw [nI_clamp (show 6 * i + 2 < 2 ^ 31 by omega)]) ?_
    refine lv_aload_n hx hb d_law_law_687 rfl (lv_at hl 3 rfl) ?_
    refine lv_iload_n hx hb d_law_law_688 rfl (lv_at hl 0 rfl) ?_
    refine lv_iconst (v := nI 3) hx hb d_law_law_689 (by decide) ?_
    refine lv_iadd hx hb d_law_law_690 ?_
    refine ps_top (z := nI (6 * i + 3)) (nI_add _ _) ?_
    refine va_sld hx hb hX hbl hbA hS (vp_in_nI (show 6 * i + 3 < L by omega) (by omega)) d_law_law_691 ?_
    refine ps_top (z := xs (6 * i + 3)) (by rw [nI_clamp (show 6 * i + 3 < 2 ^ 31 by omega)]) ?_
    refine ps_afterI (wc := mw cI cB cS cZ b K S ck cu F X) (wr := pw cI a q K S ck cu F N) hP hD hS hA [0, 1, 2, 3, 4, 5, 6, 7, 8, 9, 10, 11, 12, 13, 14, 15, 16, 17, 18] [19, 20, 21, 22, 23, 24, 25, 26, 27, 28, 29, 30, 31, 32, 33, 34, 35, 36, 37, 38, 39, 40, 41, 42, 43, 44, 45, 46, 47, 48, 49, 50, 51, 52, 53, 54, 55, 56, 57, 58] lw_s3 lw_s4 (by decide) (by decide) (ps_runVI ⟨hx, hb, hml, hown, hts⟩ (m_next l dC dI cI tys ht cB cS cZ htB htS htZ b K S ck cu F X hKb hSb (xs (6 * i + 1)) (xs (6 * i + 2)) (xs (6 * i + 3)) hk4) (ps_cwV ps_gd 3 hts tw_461 k_Mod_next e_Mod_next ⟨Nat.le_of_ble_eq_true rfl, Nat.le_of_ble_eq_true rfl⟩) hK hP hD [0, 1, 2, 3, 4, 5, 6, 7, 8, 9, 10, 11, 12, 13, 14, 15, 16, 17, 18] (by decide) lw_s3 0 cMod rfl rfl rfl hl.1 rfl (Nat.le_of_ble_eq_true rfl) d_law_law_692 ⟨by show 100 + ps_L N + (0) + 0 ≤ 600000; omega, by show 440000 + ps_Y N + (0) + 0 ≤ 7302250; omega⟩) (fun r2 u2 H locs h2 hP hD hS => ?_)
    obtain ⟨hr2, hu2⟩ := h2.n hA9
    subst hr2
    subst hu2
    refine lv_icmp_eq (tgt := 795) hx hb d_law_law_695 (by decide) (fun c_6 => ?_) (fun c_6 => ?_)
    · refine W.widen (k := 100 + ps_L N) (n := 440000 + ps_Y N) (by show 100 + ps_L N + (0) + 0 ≤ _; omega) (by show 440000 + ps_Y N + (0) + 0 ≤ _; omega) ?_
      exact ih _ _ _ _ _ _ _ _ _ _ _ ls hI2 hl hP hD hS
    · exact absurd rfl c_6
