theorem tw_297 : (.fieldLink "PageStoreModel" 58 "PageStoreModel" "whats" "[I" : Cond) ∈ ps_tbl := ps_t2 181 rfl rfl
theorem tw_298 : (.methodLink "PageStoreModel" 94 ⟨"PageStoreModel", "isOpen", "(I)Z"⟩ : Cond) ∈ ps_tbl := ps_t3 46 rfl rfl
theorem tw_299 : (.constant "PageStoreModel" 57 40000 : Cond) ∈ ps_tbl := ps_t2 160 rfl rfl
theorem tw_300 : (.fieldLink "PageStoreModel" 61 "PageStoreModel" "oldKinds" "[B" : Cond) ∈ ps_tbl := ps_t2 182 rfl rfl
theorem tw_301 : (.fieldLink "PageStoreModel" 64 "PageStoreModel" "oldNumbers" "[I" : Cond) ∈ ps_tbl := ps_t2 183 rfl rfl
theorem tw_302 : (.fieldLink "PageStoreModel" 67 "PageStoreModel" "oldGone" "[Z" : Cond) ∈ ps_tbl := ps_t2 184 rfl rfl
theorem tw_303 : (.instanceMethod ⟨"PageStoreModel", "isOpen", "(I)Z"⟩ : Cond) ∈ ps_tbl := ps_t3 48 rfl rfl
theorem tw_304 : (.selects "PageStoreModel" ⟨"PageStoreModel", "isOpen", "(I)Z"⟩ ⟨"PageStoreModel", "isOpen", "(I)Z"⟩ : Cond) ∈ ps_tbl := ps_ts (y := ⟨"PageStoreModel", "isOpen", "(I)Z"⟩) (n := 27) 19 rfl rfl
theorem tw_305 : (.code ⟨"PageStoreModel", "isOpen", "(I)Z"⟩ prog_8_method_10_code 4 (some .boolean) : Cond) ∈ ps_tbl := ps_t3 49 rfl rfl
theorem k_Mod_isOpen : ps_cdV ps_tbl y_Mod_isOpen prog_8_method_10_code 4 (some .boolean) := ⟨tw_303, tw_304, tw_256, tw_305⟩
/-- the reference's own memory m, of place i; of key i -/
def mo_Xp (X : Nat → Nat → Int32) (m i : Nat) (v w : Int32) : Nat → Nat → Int32 := va_up (va_up (va_up X 6 (upd (X 6) m (nI i))) 7 (upd (X 7) m v)) 8 (upd (X 8) m w)
def mo_Xk (X : Nat → Nat → Int32) (m i : Nat) (z : Int32) : Nat → Nat → Int32 := va_up (va_up (va_up (va_up X 6 (upd (X 6) m z)) 7 (upd (X 7) m (X 1 i))) 8 (upd (X 8) m (X 2 i))) 9 (upd (X 9) m (X 3 i))
def mo_Xv (X : Nat → Nat → Int32) (j : Nat) (v w g : Int32) : Nat → Nat → Int32 := va_up (va_up (va_up X 1 (upd (X 1) j v)) 2 (upd (X 2) j (if v = 0 then 0 else w))) 3 (upd (X 3) j g)

set_option maxHeartbeats 4000000 in
set_option maxRecDepth 100000 in
/-- PageStoreModel.isOpen -/
theorem m_openP (l : Launch) (dC : Nat → ClassId) (dI : Nat → Nat → Nat) (cI : ClassId) (tys : List (ClassId × FieldType)) (ht : tys[0]? = some (cI, FieldType.int)) (cB cS cZ : ClassId) (htB : tys[1]? = some (cB, FieldType.byte)) (htS : tys[2]? = some (cS, FieldType.short)) (htZ : tys[3]? = some (cZ, FieldType.boolean)) (b K : Nat → Nat) (S : Nat) (ck cu : Int32) (F X : Nat → Nat → Int32) (hKb : ∀ j, K j ≤ 65536) (hSb : S ≤ 15) (i : Nat) (hi : i < 2 ^ 31) (t b0 : Nat) (ht0 : t ≤ 65536) (hb0 : b0 ≤ K 5) (hk5 : K 5 ≤ 40000) (htw : ¬ S = 0 → X 4 (5 * S + 1) = nI t) (htb : ¬ S = 0 → X 5 S = nI b0) : ps_mI classes l y_Mod_isOpen w_Mod_isOpen ({ frames := 0, cells := 0, slots := 0, locals := 0 }) (dC, dI) tys [.ref (b 0), .int (nI i)] (mw cI cB cS cZ b K S ck cu F X) (fun r u => u = mw cI cB cS cZ b K S ck cu F X ∧ ps_c (mo_open S t b0 (K 5) X (nI i) i) (r = 1) (r = 0)) := by
  refine ps_mI_of (by decide) rfl (Nat.le_of_ble_eq_true rfl) ?_
  intro p e s m below meth c A ls C0 hA hK hP hD hS hl
  obtain ⟨hx, hb, hr, hml, hts, hown, hlocks, hin⟩ := C0
  have hl : lv_has ls 4 [(0, .ref (b 0)), (1, .int (nI i))] := hl
  have hP : va_P (dC, dI) classes (mw cI cB cS cZ b K S ck cu F X) s.heap := hP
  have hD : va_D A (mw cI cB cS cZ b K S ck cu F X) := hD
  refine lv_aload_n hx hb d_Mod_isOpen_0 rfl (lv_at hl 0 rfl) ?_
  refine va_get (D := (dC, dI)) (ci := cMod) (v := .int (nI S)) (C := R_Mod) (T := F_Mod) (N := 27) hx hb hts i_Mod hown hK hP 0 rfl rfl 19 (by decide) (hts _ tw_289) (fun _ h9 => h9) rfl d_Mod_isOpen_1 ?_
  refine lv_if_ne (tgt := 9) hx hb d_Mod_isOpen_4 (by decide) (fun c_1 => ?_) (fun c_1 => ?_)
  · have c_1 : ¬ S = 0 := fun q => c_1 (by rw [q]; exact nI_0)
    refine lv_iload_n hx hb d_Mod_isOpen_9 rfl (lv_at hl 1 rfl) ?_
    refine lv_if_lt (tgt := 38) hx hb d_Mod_isOpen_10 (by decide) (fun c_2 => ?_) (fun c_2 => ?_)
    · exact absurd c_2 (nI_pos (by have h0 := hKb 0; have h1 := hKb 1; have h2 := hKb 2; have h3 := hKb 3; have h4 := hKb 4; have h5 := hKb 5; omega))
    · refine lv_iload_n hx hb d_Mod_isOpen_13 rfl (lv_at hl 1 rfl) ?_
      refine lv_aload_n hx hb d_Mod_isOpen_14 rfl (lv_at hl 0 rfl) ?_
      refine va_get (D := (dC, dI)) (ci := cMod) (v := .ref (b 13)) (C := R_Mod) (T := F_Mod) (N := 27) hx hb hts i_Mod hown hK hP 0 rfl rfl 17 (by decide) (hts _ tw_292) (fun _ h9 => h9) rfl d_Mod_isOpen_15 ?_
      refine lv_iconst (v := nI 5) hx hb d_Mod_isOpen_18 (by decide) ?_
      refine lv_aload_n hx hb d_Mod_isOpen_19 rfl (lv_at hl 0 rfl) ?_
      refine va_get (D := (dC, dI)) (ci := cMod) (v := .int (nI S)) (C := R_Mod) (T := F_Mod) (N := 27) hx hb hts i_Mod hown hK hP 0 rfl rfl 19 (by decide) (hts _ tw_289) (fun _ h9 => h9) rfl d_Mod_isOpen_20 ?_
      refine lv_imul hx hb d_Mod_isOpen_23 ?_
      refine ps_top (z := nI (5 * S)) (pk_mul _ _) ?_
      refine lv_iconst (v := nI 1) hx hb d_Mod_isOpen_24 (by decide) ?_
      refine lv_iadd hx hb d_Mod_isOpen_25 ?_
      refine ps_top (z := nI (5 * S + 1)) (nI_add _ _) ?_
      refine va_iald (f := X 4) hx hb hK hP 13 0 rfl ht (vp_in_nI (show 5 * S + 1 < 80 from by omega) (by decide)) d_Mod_isOpen_26 ?_
      refine ps_top (z := (X 4) (5 * S + 1)) (by rw [nI_clamp (show 5 * S + 1 < 2 ^ 31 from by omega)]) ?_
      refine ps_top (z := nI t) (htw c_1) ?_
      refine lv_icmp_ge (tgt := 34) hx hb d_Mod_isOpen_27 (by decide) (fun c_3 => ?_) (fun c_3 => ?_)
      · have c_3 : t ≤ i := (nI_leI (by have h0 := hKb 0; have h1 := hKb 1; have h2 := hKb 2; have h3 := hKb 3; have h4 := hKb 4; have h5 := hKb 5; omega) (by have h0 := hKb 0; have h1 := hKb 1; have h2 := hKb 2; have h3 := hKb 3; have h4 := hKb 4; have h5 := hKb 5; omega)).mp c_3
        refine lv_iconst (v := 0) hx hb d_Mod_isOpen_34 (by decide) ?_
        refine lv_goto (tgt := 62) hx hb d_Mod_isOpen_35 (by decide) ?_
        refine lv_istore_n (lv' := [(2, .int 0), (0, .ref (b 0)), (1, .int (nI i))]) hx hb d_Mod_isOpen_62 rfl hl (by decide) rfl (fun ls hl => ?_)
        refine lv_aload_n hx hb d_Mod_isOpen_63 rfl (lv_at hl 1 rfl) ?_
        refine va_get (D := (dC, dI)) (ci := cMod) (v := .ref (b 14)) (C := R_Mod) (T := F_Mod) (N := 27) hx hb hts i_Mod hown hK hP 0 rfl rfl 18 (by decide) (hts _ tw_290) (fun _ h9 => h9) rfl d_Mod_isOpen_64 ?_
        refine lv_aload_n hx hb d_Mod_isOpen_67 rfl (lv_at hl 1 rfl) ?_
        refine va_get (D := (dC, dI)) (ci := cMod) (v := .int (nI S)) (C := R_Mod) (T := F_Mod) (N := 27) hx hb hts i_Mod hown hK hP 0 rfl rfl 19 (by decide) (hts _ tw_289) (fun _ h9 => h9) rfl d_Mod_isOpen_68 ?_
        refine va_iald (f := X 5) hx hb hK hP 14 0 rfl ht (vp_in_nI (show S < 17 from by omega) (by decide)) d_Mod_isOpen_71 ?_
        refine ps_top (z := (X 5) S) (by rw [nI_clamp (show S < 2 ^ 31 from by omega)]) ?_
        refine ps_top (z := nI b0) (htb c_1) ?_
        refine lv_istore_n (lv' := [(3, .int (nI b0)), (2, .int 0), (0, .ref (b 0)), (1, .int (nI i))]) hx hb d_Mod_isOpen_72 rfl hl (by decide) rfl (fun ls hl => ?_)
        refine ps_loop (α := Nat × Int32) (fun x => 0) (fun x => 0) (fun x => K 5 - x.1) (fun x H locs ls => lv_has ls 4 [(3, .int (nI x.1)), (2, .int x.2), (0, .ref (b 0)), (1, .int (nI i))] ∧ va_P (dC, dI) classes (mw cI cB cS cZ b K S ck cu F X) H ∧ va_D A (mw cI cB cS cZ b K S ck cu F X) ∧ va_S A s.heap H locs ∧ b0 ≤ x.1 ∧ x.1 ≤ K 5 ∧ ((x.2 = 1 ∧ i < t ∧ ps_not (fun j => X 6 j = nI i) b0 x.1) ∨ (x.2 = 0 ∧ ¬ (i < t ∧ ps_not (fun j => X 6 j = nI i) b0 (K 5))))) ?_ (b0, 0) _ _ ls ⟨lv_sub hl [0, 1, 2, 3] rfl, hP, hD, hS, Nat.le_refl _, hb0, Or.inr ⟨rfl, fun q => absurd q.1 (by omega)⟩⟩
        intro x H locs ls hI ih
        obtain ⟨hl, hP, hD, hS, hbx, hxk, hth⟩ := hI
        refine lv_iload_n hx hb d_Mod_isOpen_73 rfl (lv_at hl 0 rfl) ?_
        refine lv_aload_n hx hb d_Mod_isOpen_74 rfl (lv_at hl 2 rfl) ?_
        refine va_get (D := (dC, dI)) (ci := cMod) (v := .int (nI (K 5))) (C := R_Mod) (T := F_Mod) (N := 27) hx hb hts i_Mod hown hK hP 0 rfl rfl 24 (by decide) (hts _ tw_291) (fun _ h9 => h9) rfl d_Mod_isOpen_75 ?_
        refine lv_icmp_ge (tgt := 107) hx hb d_Mod_isOpen_78 (by decide) (fun c_4 => ?_) (fun c_4 => ?_)
        · have c_4 : K 5 ≤ x.1 := (nI_leI (by have h0 := hKb 0; have h1 := hKb 1; have h2 := hKb 2; have h3 := hKb 3; have h4 := hKb 4; have h5 := hKb 5; omega) (by have h0 := hKb 0; have h1 := hKb 1; have h2 := hKb 2; have h3 := hKb 3; have h4 := hKb 4; have h5 := hKb 5; omega)).mp c_4
          refine lv_iload_n hx hb d_Mod_isOpen_107 rfl (lv_at hl 1 rfl) ?_
          rcases hth with ⟨e2, hit, hno⟩ | ⟨e2, hno⟩
          · exact ps_zret hx hb hr hlocks hK hP hD hS (by rw [e2]; rfl) (Nat.le_of_ble_eq_true rfl) (Nat.le_of_ble_eq_true rfl) d_Mod_isOpen_108 (⟨rfl, ps_cy ⟨c_1, hit, fun q h1 h2 => hno q h1 (by omega)⟩ e2⟩)
          · exact ps_zret hx hb hr hlocks hK hP hD hS (by rw [e2]; rfl) (Nat.le_of_ble_eq_true rfl) (Nat.le_of_ble_eq_true rfl) d_Mod_isOpen_108 (⟨rfl, ps_cn (fun q => hno q.2) e2⟩)
        · have c_4 : ¬ K 5 ≤ x.1 := fun q => c_4 ((nI_leI (by have h0 := hKb 0; have h1 := hKb 1; have h2 := hKb 2; have h3 := hKb 3; have h4 := hKb 4; have h5 := hKb 5; omega) (by have h0 := hKb 0; have h1 := hKb 1; have h2 := hKb 2; have h3 := hKb 3; have h4 := hKb 4; have h5 := hKb 5; omega)).mpr q)
          refine lv_iload_n hx hb d_Mod_isOpen_81 rfl (lv_at hl 1 rfl) ?_
          refine lv_if_eq (tgt := 107) hx hb d_Mod_isOpen_82 (by decide) (fun c_5 => ?_) (fun c_5 => ?_)
          · refine lv_iload_n hx hb d_Mod_isOpen_107 rfl (lv_at hl 1 rfl) ?_
            rcases hth with ⟨e2, hit, hno⟩ | ⟨e2, hno⟩
            · exact absurd (c_5.symm.trans e2) (by decide)
            · exact ps_zret hx hb hr hlocks hK hP hD hS (by rw [e2]; rfl) (Nat.le_of_ble_eq_true rfl) (Nat.le_of_ble_eq_true rfl) d_Mod_isOpen_108 (⟨rfl, ps_cn (fun q => hno q.2) e2⟩)
          · refine lv_aload_n hx hb d_Mod_isOpen_85 rfl (lv_at hl 2 rfl) ?_
            refine va_get (D := (dC, dI)) (ci := cMod) (v := .ref (b 15)) (C := R_Mod) (T := F_Mod) (N := 27) hx hb hts i_Mod hown hK hP 0 rfl rfl 20 (by decide) (hts _ tw_297) (fun _ h9 => h9) rfl d_Mod_isOpen_86 ?_
            refine lv_iload_n hx hb d_Mod_isOpen_89 rfl (lv_at hl 0 rfl) ?_
            refine va_iald (f := X 6) hx hb hK hP 15 0 rfl ht (vp_in_nI (show x.1 < 40000 from by omega) (by decide)) d_Mod_isOpen_90 ?_
            refine ps_top (z := (X 6) x.1) (by rw [nI_clamp (show x.1 < 2 ^ 31 from by omega)]) ?_
            refine lv_iload_n hx hb d_Mod_isOpen_91 rfl (lv_at hl 3 rfl) ?_
            refine lv_icmp_eq (tgt := 99) hx hb d_Mod_isOpen_92 (by decide) (fun c_6 => ?_) (fun c_6 => ?_)
            · refine lv_iconst (v := 0) hx hb d_Mod_isOpen_99 (by decide) ?_
              refine lv_istore_n (lv' := [(2, .int 0), (3, .int (nI x.1)), (0, .ref (b 0)), (1, .int (nI i))]) hx hb d_Mod_isOpen_100 rfl hl (by decide) rfl (fun ls hl => ?_)
              refine lv_iinc (v := nI (x.1 + 1)) (lv' := [(3, .int (nI (x.1 + 1))), (2, .int 0), (0, .ref (b 0)), (1, .int (nI i))]) hx hb d_Mod_isOpen_101 hl (k := 1) rfl (nI_1 _) (by decide) rfl (fun ls hl => ?_)
              refine lv_goto (tgt := 73) hx hb d_Mod_isOpen_104 (by decide) ?_
              exact ih (x.1 + 1, 0) _ _ ls (by show K 5 - (x.1 + 1) < K 5 - x.1; omega) ⟨lv_sub hl [0, 1, 2, 3] rfl, hP, hD, hS, by show b0 ≤ x.1 + 1; omega, by show x.1 + 1 ≤ K 5; omega, Or.inr ⟨rfl, fun q => q.2 x.1 hbx (by omega) c_6⟩⟩
            · refine lv_iconst (v := 1) hx hb d_Mod_isOpen_95 (by decide) ?_
              refine lv_goto (tgt := 100) hx hb d_Mod_isOpen_96 (by decide) ?_
              refine lv_istore_n (lv' := [(2, .int 1), (3, .int (nI x.1)), (0, .ref (b 0)), (1, .int (nI i))]) hx hb d_Mod_isOpen_100 rfl hl (by decide) rfl (fun ls hl => ?_)
              refine lv_iinc (v := nI (x.1 + 1)) (lv' := [(3, .int (nI (x.1 + 1))), (2, .int 1), (0, .ref (b 0)), (1, .int (nI i))]) hx hb d_Mod_isOpen_101 hl (k := 1) rfl (nI_1 _) (by decide) rfl (fun ls hl => ?_)
              refine lv_goto (tgt := 73) hx hb d_Mod_isOpen_104 (by decide) ?_
              exact ih (x.1 + 1, 1) _ _ ls (by show K 5 - (x.1 + 1) < K 5 - x.1; omega) ⟨lv_sub hl [0, 1, 2, 3] rfl, hP, hD, hS, by show b0 ≤ x.1 + 1; omega, by show x.1 + 1 ≤ K 5; omega, hth.elim (fun h => Or.inl ⟨rfl, h.2.1, ps_nots h.2.2 c_6⟩) (fun h => absurd h.1 c_5)⟩
      · have c_3 : ¬ t ≤ i := fun q => c_3 ((nI_leI (by have h0 := hKb 0; have h1 := hKb 1; have h2 := hKb 2; have h3 := hKb 3; have h4 := hKb 4; have h5 := hKb 5; omega) (by have h0 := hKb 0; have h1 := hKb 1; have h2 := hKb 2; have h3 := hKb 3; have h4 := hKb 4; have h5 := hKb 5; omega)).mpr q)
        refine lv_iconst (v := 1) hx hb d_Mod_isOpen_30 (by decide) ?_
        refine lv_goto (tgt := 62) hx hb d_Mod_isOpen_31 (by decide) ?_
        refine lv_istore_n (lv' := [(2, .int 1), (0, .ref (b 0)), (1, .int (nI i))]) hx hb d_Mod_isOpen_62 rfl hl (by decide) rfl (fun ls hl => ?_)
        refine lv_aload_n hx hb d_Mod_isOpen_63 rfl (lv_at hl 1 rfl) ?_
        refine va_get (D := (dC, dI)) (ci := cMod) (v := .ref (b 14)) (C := R_Mod) (T := F_Mod) (N := 27) hx hb hts i_Mod hown hK hP 0 rfl rfl 18 (by decide) (hts _ tw_290) (fun _ h9 => h9) rfl d_Mod_isOpen_64 ?_
        refine lv_aload_n hx hb d_Mod_isOpen_67 rfl (lv_at hl 1 rfl) ?_
        refine va_get (D := (dC, dI)) (ci := cMod) (v := .int (nI S)) (C := R_Mod) (T := F_Mod) (N := 27) hx hb hts i_Mod hown hK hP 0 rfl rfl 19 (by decide) (hts _ tw_289) (fun _ h9 => h9) rfl d_Mod_isOpen_68 ?_
        refine va_iald (f := X 5) hx hb hK hP 14 0 rfl ht (vp_in_nI (show S < 17 from by omega) (by decide)) d_Mod_isOpen_71 ?_
        refine ps_top (z := (X 5) S) (by rw [nI_clamp (show S < 2 ^ 31 from by omega)]) ?_
        refine ps_top (z := nI b0) (htb c_1) ?_
        refine lv_istore_n (lv' := [(3, .int (nI b0)), (2, .int 1), (0, .ref (b 0)), (1, .int (nI i))]) hx hb d_Mod_isOpen_72 rfl hl (by decide) rfl (fun ls hl => ?_)
        refine ps_loop (α := Nat × Int32) (fun x => 0) (fun x => 0) (fun x => K 5 - x.1) (fun x H locs ls => lv_has ls 4 [(3, .int (nI x.1)), (2, .int x.2), (0, .ref (b 0)), (1, .int (nI i))] ∧ va_P (dC, dI) classes (mw cI cB cS cZ b K S ck cu F X) H ∧ va_D A (mw cI cB cS cZ b K S ck cu F X) ∧ va_S A s.heap H locs ∧ b0 ≤ x.1 ∧ x.1 ≤ K 5 ∧ ((x.2 = 1 ∧ i < t ∧ ps_not (fun j => X 6 j = nI i) b0 x.1) ∨ (x.2 = 0 ∧ ¬ (i < t ∧ ps_not (fun j => X 6 j = nI i) b0 (K 5))))) ?_ (b0, 1) _ _ ls ⟨lv_sub hl [0, 1, 2, 3] rfl, hP, hD, hS, Nat.le_refl _, hb0, Or.inl ⟨rfl, by omega, ps_not0⟩⟩
        intro x H locs ls hI ih
        obtain ⟨hl, hP, hD, hS, hbx, hxk, hth⟩ := hI
        refine lv_iload_n hx hb d_Mod_isOpen_73 rfl (lv_at hl 0 rfl) ?_
        refine lv_aload_n hx hb d_Mod_isOpen_74 rfl (lv_at hl 2 rfl) ?_
        refine va_get (D := (dC, dI)) (ci := cMod) (v := .int (nI (K 5))) (C := R_Mod) (T := F_Mod) (N := 27) hx hb hts i_Mod hown hK hP 0 rfl rfl 24 (by decide) (hts _ tw_291) (fun _ h9 => h9) rfl d_Mod_isOpen_75 ?_
        refine lv_icmp_ge (tgt := 107) hx hb d_Mod_isOpen_78 (by decide) (fun c_7 => ?_) (fun c_7 => ?_)
        · have c_7 : K 5 ≤ x.1 := (nI_leI (by have h0 := hKb 0; have h1 := hKb 1; have h2 := hKb 2; have h3 := hKb 3; have h4 := hKb 4; have h5 := hKb 5; omega) (by have h0 := hKb 0; have h1 := hKb 1; have h2 := hKb 2; have h3 := hKb 3; have h4 := hKb 4; have h5 := hKb 5; omega)).mp c_7
          refine lv_iload_n hx hb d_Mod_isOpen_107 rfl (lv_at hl 1 rfl) ?_
          rcases hth with ⟨e2, hit, hno⟩ | ⟨e2, hno⟩
          · exact ps_zret hx hb hr hlocks hK hP hD hS (by rw [e2]; rfl) (Nat.le_of_ble_eq_true rfl) (Nat.le_of_ble_eq_true rfl) d_Mod_isOpen_108 (⟨rfl, ps_cy ⟨c_1, hit, fun q h1 h2 => hno q h1 (by omega)⟩ e2⟩)
          · exact ps_zret hx hb hr hlocks hK hP hD hS (by rw [e2]; rfl) (Nat.le_of_ble_eq_true rfl) (Nat.le_of_ble_eq_true rfl) d_Mod_isOpen_108 (⟨rfl, ps_cn (fun q => hno q.2) e2⟩)
        · have c_7 : ¬ K 5 ≤ x.1 := fun q => c_7 ((nI_leI (by have h0 := hKb 0; have h1 := hKb 1; have h2 := hKb 2; have h3 := hKb 3; have h4 := hKb 4; have h5 := hKb 5; omega) (by have h0 := hKb 0; have h1 := hKb 1; have h2 := hKb 2; have h3 := hKb 3; have h4 := hKb 4; have h5 := hKb 5; omega)).mpr q)
          refine lv_iload_n hx hb d_Mod_isOpen_81 rfl (lv_at hl 1 rfl) ?_
          refine lv_if_eq (tgt := 107) hx hb d_Mod_isOpen_82 (by decide) (fun c_8 => ?_) (fun c_8 => ?_)
          · refine lv_iload_n hx hb d_Mod_isOpen_107 rfl (lv_at hl 1 rfl) ?_
            rcases hth with ⟨e2, hit, hno⟩ | ⟨e2, hno⟩
            · exact absurd (c_8.symm.trans e2) (by decide)
            · exact ps_zret hx hb hr hlocks hK hP hD hS (by rw [e2]; rfl) (Nat.le_of_ble_eq_true rfl) (Nat.le_of_ble_eq_true rfl) d_Mod_isOpen_108 (⟨rfl, ps_cn (fun q => hno q.2) e2⟩)
          · refine lv_aload_n hx hb d_Mod_isOpen_85 rfl (lv_at hl 2 rfl) ?_
            refine va_get (D := (dC, dI)) (ci := cMod) (v := .ref (b 15)) (C := R_Mod) (T := F_Mod) (N := 27) hx hb hts i_Mod hown hK hP 0 rfl rfl 20 (by decide) (hts _ tw_297) (fun _ h9 => h9) rfl d_Mod_isOpen_86 ?_
            refine lv_iload_n hx hb d_Mod_isOpen_89 rfl (lv_at hl 0 rfl) ?_
            refine va_iald (f := X 6) hx hb hK hP 15 0 rfl ht (vp_in_nI (show x.1 < 40000 from by omega) (by decide)) d_Mod_isOpen_90 ?_
            refine ps_top (z := (X 6) x.1) (by rw [nI_clamp (show x.1 < 2 ^ 31 from by omega)]) ?_
            refine lv_iload_n hx hb d_Mod_isOpen_91 rfl (lv_at hl 3 rfl) ?_
            refine lv_icmp_eq (tgt := 99) hx hb d_Mod_isOpen_92 (by decide) (fun c_9 => ?_) (fun c_9 => ?_)
            · refine lv_iconst (v := 0) hx hb d_Mod_isOpen_99 (by decide) ?_
              refine lv_istore_n (lv' := [(2, .int 0), (3, .int (nI x.1)), (0, .ref (b 0)), (1, .int (nI i))]) hx hb d_Mod_isOpen_100 rfl hl (by decide) rfl (fun ls hl => ?_)
              refine lv_iinc (v := nI (x.1 + 1)) (lv' := [(3, .int (nI (x.1 + 1))), (2, .int 0), (0, .ref (b 0)), (1, .int (nI i))]) hx hb d_Mod_isOpen_101 hl (k := 1) rfl (nI_1 _) (by decide) rfl (fun ls hl => ?_)
              refine lv_goto (tgt := 73) hx hb d_Mod_isOpen_104 (by decide) ?_
              exact ih (x.1 + 1, 0) _ _ ls (by show K 5 - (x.1 + 1) < K 5 - x.1; omega) ⟨lv_sub hl [0, 1, 2, 3] rfl, hP, hD, hS, by show b0 ≤ x.1 + 1; omega, by show x.1 + 1 ≤ K 5; omega, Or.inr ⟨rfl, fun q => q.2 x.1 hbx (by omega) c_9⟩⟩
            · refine lv_iconst (v := 1) hx hb d_Mod_isOpen_95 (by decide) ?_
              refine lv_goto (tgt := 100) hx hb d_Mod_isOpen_96 (by decide) ?_
              refine lv_istore_n (lv' := [(2, .int 1), (3, .int (nI x.1)), (0, .ref (b 0)), (1, .int (nI i))]) hx hb d_Mod_isOpen_100 rfl hl (by decide) rfl (fun ls hl => ?_)
              refine lv_iinc (v := nI (x.1 + 1)) (lv' := [(3, .int (nI (x.1 + 1))), (2, .int 1), (0, .ref (b 0)), (1, .int (nI i))]) hx hb d_Mod_isOpen_101 hl (k := 1) rfl (nI_1 _) (by decide) rfl (fun ls hl => ?_)
              refine lv_goto (tgt := 73) hx hb d_Mod_isOpen_104 (by decide) ?_
              exact ih (x.1 + 1, 1) _ _ ls (by show K 5 - (x.1 + 1) < K 5 - x.1; omega) ⟨lv_sub hl [0, 1, 2, 3] rfl, hP, hD, hS, by show b0 ≤ x.1 + 1; omega, by show x.1 + 1 ≤ K 5; omega, hth.elim (fun h => Or.inl ⟨rfl, h.2.1, ps_nots h.2.2 c_9⟩) (fun h => absurd h.1 c_8)⟩
  · have c_1 : S = 0 := (nI_eq (by have h0 := hKb 0; have h1 := hKb 1; have h2 := hKb 2; have h3 := hKb 3; have h4 := hKb 4; have h5 := hKb 5; omega) (by decide)).mp (c_1.trans nI_0.symm)
    refine lv_iconst (v := 0) hx hb d_Mod_isOpen_7 (by decide) ?_
    exact ps_zret hx hb hr hlocks hK hP hD hS rfl (Nat.le_of_ble_eq_true rfl) (Nat.le_of_ble_eq_true rfl) d_Mod_isOpen_8 (⟨rfl, ps_cn (fun q => q.1 c_1) rfl⟩)

set_option maxHeartbeats 4000000 in
set_option maxRecDepth 100000 in
/-- PageStoreModel.remember -/
theorem m_remP (l : Launch) (dC : Nat → ClassId) (dI : Nat → Nat → Nat) (cI : ClassId) (tys : List (ClassId × FieldType)) (ht : tys[0]? = some (cI, FieldType.int)) (cB cS cZ : ClassId) (htB : tys[1]? = some (cB, FieldType.byte)) (htS : tys[2]? = some (cS, FieldType.short)) (htZ : tys[3]? = some (cZ, FieldType.boolean)) (b K : Nat → Nat) (S : Nat) (ck cu : Int32) (F X : Nat → Nat → Int32) (hKb : ∀ j, K j ≤ 65536) (hSb : S ≤ 15) (i : Nat) (hi : i < 32768) (t b0 : Nat) (ht0 : t ≤ 65536) (hb0 : b0 ≤ K 5) (hk5 : K 5 ≤ 40000) (htw : ¬ S = 0 → X 4 (5 * S + 1) = nI t) (htb : ¬ S = 0 → X 5 S = nI b0) (hby : ∀ j, vp_nar .byte (F 2 j) = F 2 j) : ps_mI classes l y_Mod_remember w_Mod_remember ({ frames := 1, cells := 0, slots := 0, locals := 23 }) (dC, dI) tys [.ref (b 0), .int (nI i)] (mw cI cB cS cZ b K S ck cu F X) (fun r u => ps_c (mo_open S t b0 (K 5) X (nI i) i) (ps_c (40000 ≤ K 5) (r = 0 ∧ u = mw cI cB cS cZ b K S ck cu F X) (r = 1 ∧ u = mw cI cB cS cZ b (va_up K 5 (K 5 + 1)) S ck cu F (mo_Xp X (K 5) i (F 2 i) (F 3 i)))) (r = 1 ∧ u = mw cI cB cS cZ b K S ck cu F X)) := by
  have hi31 : i < 2 ^ 31 := by omega
  refine ps_mI_of (by decide) rfl (Nat.le_of_ble_eq_true rfl) ?_
  intro p e s m below meth c A ls C0 hA hK hP hD hS hl
  obtain ⟨hx, hb, hr, hml, hts, hown, hlocks, hin⟩ := C0
  have hl : lv_has ls 2 [(0, .ref (b 0)), (1, .int (nI i))] := hl
  have hP : va_P (dC, dI) classes (mw cI cB cS cZ b K S ck cu F X) s.heap := hP
  have hD : va_D A (mw cI cB cS cZ b K S ck cu F X) := hD
  refine lv_aload_n hx hb d_Mod_remember_0 rfl (lv_at hl 0 rfl) ?_
  refine lv_iload_n hx hb d_Mod_remember_1 rfl (lv_at hl 1 rfl) ?_
  refine ps_readI (wc := (mw cI cB cS cZ b K S ck cu F X)) hP hD hS hA [0, 1, 2, 3, 4, 5, 6, 7, 8, 9, 10, 11, 12, 13, 14, 15, 16, 17, 18] rfl (fun _ _ h => h.1) (ps_runVI ⟨hx, hb, hml, hown, hts⟩ (m_openP l dC dI cI tys ht cB cS cZ htB htS htZ b K S ck cu F X hKb hSb i hi31 t b0 ht0 hb0 hk5 htw htb) (ps_cwV ps_gd 1 hts tw_298 k_Mod_isOpen e_Mod_isOpen ⟨Nat.le_of_ble_eq_true rfl, Nat.le_of_ble_eq_true rfl⟩) hK hP hD [0, 1, 2, 3, 4, 5, 6, 7, 8, 9, 10, 11, 12, 13, 14, 15, 16, 17, 18] (by decide) rfl 0 cMod rfl rfl rfl hl.1 rfl (Nat.le_of_ble_eq_true rfl) d_Mod_remember_2 ⟨Nat.zero_le _, Nat.zero_le _⟩) (fun r_1 H locs hr_1 hP hS => ?_)
  obtain ⟨-, hr_1⟩ := hr_1
  rcases hr_1 with ⟨hcr_1, hr_1⟩ | ⟨hcr_1, hr_1⟩
  · subst hr_1
    refine lv_if_ne (tgt := 10) hx hb d_Mod_remember_5 (by decide) (fun c_2 => ?_) (fun c_2 => ?_)
    · refine lv_aload_n hx hb d_Mod_remember_10 rfl (lv_at hl 0 rfl) ?_
      refine va_get (D := (dC, dI)) (ci := cMod) (v := .int (nI (K 5))) (C := R_Mod) (T := F_Mod) (N := 27) hx hb hts i_Mod hown hK hP 0 rfl rfl 24 (by decide) (hts _ tw_291) (fun _ h9 => h9) rfl d_Mod_remember_11 ?_
      refine lv_ldc (v := 40000) hx hb hown (hts _ tw_299) d_Mod_remember_14 ?_
      refine ps_top (z := nI 40000) (by decide) ?_
      refine lv_icmp_ne (tgt := 21) hx hb d_Mod_remember_16 (by decide) (fun c_3 => ?_) (fun c_3 => ?_)
      · have c_3 : ¬ K 5 = 40000 := fun q => c_3 ((nI_eq (by have h0 := hKb 0; have h1 := hKb 1; have h2 := hKb 2; have h3 := hKb 3; have h4 := hKb 4; have h5 := hKb 5; omega) (by have h0 := hKb 0; have h1 := hKb 1; have h2 := hKb 2; have h3 := hKb 3; have h4 := hKb 4; have h5 := hKb 5; omega)).mpr q)
        refine lv_aload_n hx hb d_Mod_remember_21 rfl (lv_at hl 0 rfl) ?_
        refine va_get (D := (dC, dI)) (ci := cMod) (v := .ref (b 15)) (C := R_Mod) (T := F_Mod) (N := 27) hx hb hts i_Mod hown hK hP 0 rfl rfl 20 (by decide) (hts _ tw_297) (fun _ h9 => h9) rfl d_Mod_remember_22 ?_
        refine lv_aload_n hx hb d_Mod_remember_25 rfl (lv_at hl 0 rfl) ?_
        refine va_get (D := (dC, dI)) (ci := cMod) (v := .int (nI (K 5))) (C := R_Mod) (T := F_Mod) (N := 27) hx hb hts i_Mod hown hK hP 0 rfl rfl 24 (by decide) (hts _ tw_291) (fun _ h9 => h9) rfl d_Mod_remember_26 ?_
        refine lv_iload_n hx hb d_Mod_remember_29 rfl (lv_at hl 1 rfl) ?_
        refine va_iast (f := X 6) hx hb hK hP hD hS 15 0 rfl ht (vp_in_nI (show K 5 < 40000 from by omega) (by decide)) d_Mod_remember_30 (fun H locs hP hD hS => ?_)
        rw [nI_clamp (show K 5 < 2 ^ 31 from by omega)] at hP hD
        have hP : va_P (dC, dI) classes (mw cI cB cS cZ b K S ck cu F (va_up X 6 (upd (X 6) (K 5) (nI i)))) H := hP
        have hD : va_D A (mw cI cB cS cZ b K S ck cu F (va_up X 6 (upd (X 6) (K 5) (nI i)))) := hD
        refine lv_iload_n hx hb d_Mod_remember_31 rfl (lv_at hl 1 rfl) ?_
        refine lv_if_lt (tgt := 68) hx hb d_Mod_remember_32 (by decide) (fun c_4 => ?_) (fun c_4 => ?_)
        · exact absurd c_4 (nI_pos (by have h0 := hKb 0; have h1 := hKb 1; have h2 := hKb 2; have h3 := hKb 3; have h4 := hKb 4; have h5 := hKb 5; omega))
        · refine lv_aload_n hx hb d_Mod_remember_35 rfl (lv_at hl 0 rfl) ?_
          refine va_get (D := (dC, dI)) (ci := cMod) (v := .ref (b 16)) (C := R_Mod) (T := F_Mod) (N := 27) hx hb hts i_Mod hown hK hP 0 rfl rfl 21 (by decide) (hts _ tw_300) (fun _ h9 => h9) rfl d_Mod_remember_36 ?_
          refine lv_aload_n hx hb d_Mod_remember_39 rfl (lv_at hl 0 rfl) ?_
          refine va_get (D := (dC, dI)) (ci := cMod) (v := .int (nI (K 5))) (C := R_Mod) (T := F_Mod) (N := 27) hx hb hts i_Mod hown hK hP 0 rfl rfl 24 (by decide) (hts _ tw_291) (fun _ h9 => h9) rfl d_Mod_remember_40 ?_
          refine lv_aload_n hx hb d_Mod_remember_43 rfl (lv_at hl 0 rfl) ?_
          refine va_get (D := (dC, dI)) (ci := cMod) (v := .ref (b 4)) (C := R_Mod) (T := F_Mod) (N := 27) hx hb hts i_Mod hown hK hP 0 rfl rfl 4 (by decide) (hts _ tw_248) (fun _ h9 => h9) rfl d_Mod_remember_44 ?_
          refine lv_iload_n hx hb d_Mod_remember_47 rfl (lv_at hl 1 rfl) ?_
          refine va_bald (f := F 2) hx hb hK hP 4 1 rfl htB (vp_in_nI (show i < 32768 from by omega) (by decide)) d_Mod_remember_48 ?_
          refine ps_top (z := (F 2) i) (by rw [nI_clamp (show i < 2 ^ 31 from by omega)]) ?_
          refine va_bast (f := X 7) hx hb hK hP hD hS 16 1 rfl htB (vp_in_nI (show K 5 < 40000 from by omega) (by decide)) d_Mod_remember_49 (fun H locs hP hD hS => ?_)
          rw [nI_clamp (show K 5 < 2 ^ 31 from by omega), hby] at hP hD
          have hP : va_P (dC, dI) classes (mw cI cB cS cZ b K S ck cu F (va_up (va_up X 6 (upd (X 6) (K 5) (nI i))) 7 (upd (X 7) (K 5) ((F 2) i)))) H := hP
          have hD : va_D A (mw cI cB cS cZ b K S ck cu F (va_up (va_up X 6 (upd (X 6) (K 5) (nI i))) 7 (upd (X 7) (K 5) ((F 2) i)))) := hD
          refine lv_aload_n hx hb d_Mod_remember_50 rfl (lv_at hl 0 rfl) ?_
          refine va_get (D := (dC, dI)) (ci := cMod) (v := .ref (b 17)) (C := R_Mod) (T := F_Mod) (N := 27) hx hb hts i_Mod hown hK hP 0 rfl rfl 22 (by decide) (hts _ tw_301) (fun _ h9 => h9) rfl d_Mod_remember_51 ?_
          refine lv_aload_n hx hb d_Mod_remember_54 rfl (lv_at hl 0 rfl) ?_
          refine va_get (D := (dC, dI)) (ci := cMod) (v := .int (nI (K 5))) (C := R_Mod) (T := F_Mod) (N := 27) hx hb hts i_Mod hown hK hP 0 rfl rfl 24 (by decide) (hts _ tw_291) (fun _ h9 => h9) rfl d_Mod_remember_55 ?_
          refine lv_aload_n hx hb d_Mod_remember_58 rfl (lv_at hl 0 rfl) ?_
          refine va_get (D := (dC, dI)) (ci := cMod) (v := .ref (b 5)) (C := R_Mod) (T := F_Mod) (N := 27) hx hb hts i_Mod hown hK hP 0 rfl rfl 5 (by decide) (hts _ tw_249) (fun _ h9 => h9) rfl d_Mod_remember_59 ?_
          refine lv_iload_n hx hb d_Mod_remember_62 rfl (lv_at hl 1 rfl) ?_
          refine va_iald (f := F 3) hx hb hK hP 5 0 rfl ht (vp_in_nI (show i < 32768 from by omega) (by decide)) d_Mod_remember_63 ?_
          refine ps_top (z := (F 3) i) (by rw [nI_clamp (show i < 2 ^ 31 from by omega)]) ?_
          refine va_iast (f := X 8) hx hb hK hP hD hS 17 0 rfl ht (vp_in_nI (show K 5 < 40000 from by omega) (by decide)) d_Mod_remember_64 (fun H locs hP hD hS => ?_)
          rw [nI_clamp (show K 5 < 2 ^ 31 from by omega)] at hP hD
          have hP : va_P (dC, dI) classes (mw cI cB cS cZ b K S ck cu F (va_up (va_up (va_up X 6 (upd (X 6) (K 5) (nI i))) 7 (upd (X 7) (K 5) ((F 2) i))) 8 (upd (X 8) (K 5) ((F 3) i)))) H := hP
          have hD : va_D A (mw cI cB cS cZ b K S ck cu F (va_up (va_up (va_up X 6 (upd (X 6) (K 5) (nI i))) 7 (upd (X 7) (K 5) ((F 2) i))) 8 (upd (X 8) (K 5) ((F 3) i)))) := hD
          refine lv_goto (tgt := 119) hx hb d_Mod_remember_65 (by decide) ?_
          refine lv_aload_n hx hb d_Mod_remember_119 rfl (lv_at hl 0 rfl) ?_
          refine lv_dup hx hb d_Mod_remember_120 rfl ?_
          refine va_get (D := (dC, dI)) (ci := cMod) (v := .int (nI (K 5))) (C := R_Mod) (T := F_Mod) (N := 27) hx hb hts i_Mod hown hK hP 0 rfl rfl 24 (by decide) (hts _ tw_291) (fun _ h9 => h9) rfl d_Mod_remember_121 ?_
          refine lv_iconst (v := nI 1) hx hb d_Mod_remember_124 (by decide) ?_
          refine lv_iadd hx hb d_Mod_remember_125 ?_
          refine ps_top (z := nI (K 5 + 1)) (nI_add _ _) ?_
          refine va_put (D := (dC, dI)) (ci := cMod) (v := .int (nI (K 5 + 1))) (ty := .int) (C := R_Mod) (T := F_Mod) (N := 27) hx hb hts i_Mod t_Mod t_Mod_ok n_Mod hown hK hP hD hS 0 rfl rfl 24 (by decide) (hts _ tw_291) (fun _ h9 => h9) rfl (by decide +kernel) rfl rfl (Nat.le_of_ble_eq_true rfl) d_Mod_remember_126 (fun H locs hP hD hS => ?_)
          have hP : va_P (dC, dI) classes (mw cI cB cS cZ b (va_up K 5 (K 5 + 1)) S ck cu F (va_up (va_up (va_up X 6 (upd (X 6) (K 5) (nI i))) 7 (upd (X 7) (K 5) ((F 2) i))) 8 (upd (X 8) (K 5) ((F 3) i)))) H := hP
          have hD : va_D A (mw cI cB cS cZ b (va_up K 5 (K 5 + 1)) S ck cu F (va_up (va_up (va_up X 6 (upd (X 6) (K 5) (nI i))) 7 (upd (X 7) (K 5) ((F 2) i))) 8 (upd (X 8) (K 5) ((F 3) i)))) := hD
          refine lv_iconst (v := 1) hx hb d_Mod_remember_129 (by decide) ?_
          exact ps_zret hx hb hr hlocks hK hP hD hS rfl (Nat.le_of_ble_eq_true rfl) (Nat.le_of_ble_eq_true rfl) d_Mod_remember_130 (ps_cy hcr_1 (ps_cn (by omega) ⟨rfl, rfl⟩))
      · have c_3 : K 5 = 40000 := (nI_eq (by have h0 := hKb 0; have h1 := hKb 1; have h2 := hKb 2; have h3 := hKb 3; have h4 := hKb 4; have h5 := hKb 5; omega) (by have h0 := hKb 0; have h1 := hKb 1; have h2 := hKb 2; have h3 := hKb 3; have h4 := hKb 4; have h5 := hKb 5; omega)).mp c_3
        refine lv_iconst (v := 0) hx hb d_Mod_remember_19 (by decide) ?_
        exact ps_zret hx hb hr hlocks hK hP hD hS rfl (Nat.le_of_ble_eq_true rfl) (Nat.le_of_ble_eq_true rfl) d_Mod_remember_20 (ps_cy hcr_1 (ps_cy (by omega) ⟨rfl, rfl⟩))
    · exact absurd c_2 (by decide)
  · subst hr_1
    refine lv_if_ne (tgt := 10) hx hb d_Mod_remember_5 (by decide) (fun c_5 => ?_) (fun c_5 => ?_)
    · exact absurd rfl c_5
    · refine lv_iconst (v := 1) hx hb d_Mod_remember_8 (by decide) ?_
      exact ps_zret hx hb hr hlocks hK hP hD hS rfl (Nat.le_of_ble_eq_true rfl) (Nat.le_of_ble_eq_true rfl) d_Mod_remember_9 (ps_cn hcr_1 ⟨rfl, rfl⟩)

set_option maxHeartbeats 4000000 in
set_option maxRecDepth 100000 in
/-- PageStoreModel.isOpen -/
theorem m_openK (l : Launch) (dC : Nat → ClassId) (dI : Nat → Nat → Nat) (cI : ClassId) (tys : List (ClassId × FieldType)) (ht : tys[0]? = some (cI, FieldType.int)) (cB cS cZ : ClassId) (htB : tys[1]? = some (cB, FieldType.byte)) (htS : tys[2]? = some (cS, FieldType.short)) (htZ : tys[3]? = some (cZ, FieldType.boolean)) (b K : Nat → Nat) (S : Nat) (ck cu : Int32) (F X : Nat → Nat → Int32) (hKb : ∀ j, K j ≤ 65536) (hSb : S ≤ 15) (i : Nat) (hi : i < 2 ^ 31) (z : Int32) (hz : z = (-1) - nI i) (t b0 : Nat) (ht0 : t ≤ 65536) (hb0 : b0 ≤ K 5) (hk5 : K 5 ≤ 40000) (htw : ¬ S = 0 → X 4 (5 * S + 4) = nI t) (htb : ¬ S = 0 → X 5 S = nI b0) : ps_mI classes l y_Mod_isOpen w_Mod_isOpen ({ frames := 0, cells := 0, slots := 0, locals := 0 }) (dC, dI) tys [.ref (b 0), .int z] (mw cI cB cS cZ b K S ck cu F X) (fun r u => u = mw cI cB cS cZ b K S ck cu F X ∧ ps_c (mo_open S t b0 (K 5) X (z) i) (r = 1) (r = 0)) := by
  refine ps_mI_of (by decide) rfl (Nat.le_of_ble_eq_true rfl) ?_
  intro p e s m below meth c A ls C0 hA hK hP hD hS hl
  obtain ⟨hx, hb, hr, hml, hts, hown, hlocks, hin⟩ := C0
  have hl : lv_has ls 4 [(0, .ref (b 0)), (1, .int z)] := hl
  have hP : va_P (dC, dI) classes (mw cI cB cS cZ b K S ck cu F X) s.heap := hP
  have hD : va_D A (mw cI cB cS cZ b K S ck cu F X) := hD
  refine lv_aload_n hx hb d_Mod_isOpen_0 rfl (lv_at hl 0 rfl) ?_
  refine va_get (D := (dC, dI)) (ci := cMod) (v := .int (nI S)) (C := R_Mod) (T := F_Mod) (N := 27) hx hb hts i_Mod hown hK hP 0 rfl rfl 19 (by decide) (hts _ tw_289) (fun _ h9 => h9) rfl d_Mod_isOpen_1 ?_
  refine lv_if_ne (tgt := 9) hx hb d_Mod_isOpen_4 (by decide) (fun c_1 => ?_) (fun c_1 => ?_)
  · have c_1 : ¬ S = 0 := fun q => c_1 (by rw [q]; exact nI_0)
    refine lv_iload_n hx hb d_Mod_isOpen_9 rfl (lv_at hl 1 rfl) ?_
    refine lv_if_lt (tgt := 38) hx hb d_Mod_isOpen_10 (by decide) (fun c_2 => ?_) (fun c_2 => ?_)
    · refine lv_iconst (v := (-1)) hx hb d_Mod_isOpen_38 (by decide) ?_
      refine lv_iload_n hx hb d_Mod_isOpen_39 rfl (lv_at hl 1 rfl) ?_
      refine lv_isub hx hb d_Mod_isOpen_40 ?_
      refine ps_top (z := nI i) (by rw [hz]; exact mo_inv) ?_
      refine lv_aload_n hx hb d_Mod_isOpen_41 rfl (lv_at hl 0 rfl) ?_
      refine va_get (D := (dC, dI)) (ci := cMod) (v := .ref (b 13)) (C := R_Mod) (T := F_Mod) (N := 27) hx hb hts i_Mod hown hK hP 0 rfl rfl 17 (by decide) (hts _ tw_292) (fun _ h9 => h9) rfl d_Mod_isOpen_42 ?_
      refine lv_iconst (v := nI 5) hx hb d_Mod_isOpen_45 (by decide) ?_
      refine lv_aload_n hx hb d_Mod_isOpen_46 rfl (lv_at hl 0 rfl) ?_
      refine va_get (D := (dC, dI)) (ci := cMod) (v := .int (nI S)) (C := R_Mod) (T := F_Mod) (N := 27) hx hb hts i_Mod hown hK hP 0 rfl rfl 19 (by decide) (hts _ tw_289) (fun _ h9 => h9) rfl d_Mod_isOpen_47 ?_
      refine lv_imul hx hb d_Mod_isOpen_50 ?_
      refine ps_top (z := nI (5 * S)) (pk_mul _ _) ?_
      refine lv_iconst (v := nI 4) hx hb d_Mod_isOpen_51 (by decide) ?_
      refine lv_iadd hx hb d_Mod_isOpen_52 ?_
      refine ps_top (z := nI (5 * S + 4)) (nI_add _ _) ?_
      refine va_iald (f := X 4) hx hb hK hP 13 0 rfl ht (vp_in_nI (show 5 * S + 4 < 80 from by omega) (by decide)) d_Mod_isOpen_53 ?_
      refine ps_top (z := (X 4) (5 * S + 4)) (by rw [nI_clamp (show 5 * S + 4 < 2 ^ 31 from by omega)]) ?_
      refine ps_top (z := nI t) (htw c_1) ?_
      refine lv_icmp_ge (tgt := 61) hx hb d_Mod_isOpen_54 (by decide) (fun c_3 => ?_) (fun c_3 => ?_)
      · have c_3 : t ≤ i := (nI_leI (by have h0 := hKb 0; have h1 := hKb 1; have h2 := hKb 2; have h3 := hKb 3; have h4 := hKb 4; have h5 := hKb 5; omega) (by have h0 := hKb 0; have h1 := hKb 1; have h2 := hKb 2; have h3 := hKb 3; have h4 := hKb 4; have h5 := hKb 5; omega)).mp c_3
        refine lv_iconst (v := 0) hx hb d_Mod_isOpen_61 (by decide) ?_
        refine lv_istore_n (lv' := [(2, .int 0), (0, .ref (b 0)), (1, .int z)]) hx hb d_Mod_isOpen_62 rfl hl (by decide) rfl (fun ls hl => ?_)
        refine lv_aload_n hx hb d_Mod_isOpen_63 rfl (lv_at hl 1 rfl) ?_
        refine va_get (D := (dC, dI)) (ci := cMod) (v := .ref (b 14)) (C := R_Mod) (T := F_Mod) (N := 27) hx hb hts i_Mod hown hK hP 0 rfl rfl 18 (by decide) (hts _ tw_290) (fun _ h9 => h9) rfl d_Mod_isOpen_64 ?_
        refine lv_aload_n hx hb d_Mod_isOpen_67 rfl (lv_at hl 1 rfl) ?_
        refine va_get (D := (dC, dI)) (ci := cMod) (v := .int (nI S)) (C := R_Mod) (T := F_Mod) (N := 27) hx hb hts i_Mod hown hK hP 0 rfl rfl 19 (by decide) (hts _ tw_289) (fun _ h9 => h9) rfl d_Mod_isOpen_68 ?_
        refine va_iald (f := X 5) hx hb hK hP 14 0 rfl ht (vp_in_nI (show S < 17 from by omega) (by decide)) d_Mod_isOpen_71 ?_
        refine ps_top (z := (X 5) S) (by rw [nI_clamp (show S < 2 ^ 31 from by omega)]) ?_
        refine ps_top (z := nI b0) (htb c_1) ?_
        refine lv_istore_n (lv' := [(3, .int (nI b0)), (2, .int 0), (0, .ref (b 0)), (1, .int z)]) hx hb d_Mod_isOpen_72 rfl hl (by decide) rfl (fun ls hl => ?_)
        refine ps_loop (α := Nat × Int32) (fun x => 0) (fun x => 0) (fun x => K 5 - x.1) (fun x H locs ls => lv_has ls 4 [(3, .int (nI x.1)), (2, .int x.2), (0, .ref (b 0)), (1, .int z)] ∧ va_P (dC, dI) classes (mw cI cB cS cZ b K S ck cu F X) H ∧ va_D A (mw cI cB cS cZ b K S ck cu F X) ∧ va_S A s.heap H locs ∧ b0 ≤ x.1 ∧ x.1 ≤ K 5 ∧ ((x.2 = 1 ∧ i < t ∧ ps_not (fun j => X 6 j = z) b0 x.1) ∨ (x.2 = 0 ∧ ¬ (i < t ∧ ps_not (fun j => X 6 j = z) b0 (K 5))))) ?_ (b0, 0) _ _ ls ⟨lv_sub hl [0, 1, 2, 3] rfl, hP, hD, hS, Nat.le_refl _, hb0, Or.inr ⟨rfl, fun q => absurd q.1 (by omega)⟩⟩
        intro x H locs ls hI ih
        obtain ⟨hl, hP, hD, hS, hbx, hxk, hth⟩ := hI
        refine lv_iload_n hx hb d_Mod_isOpen_73 rfl (lv_at hl 0 rfl) ?_
        refine lv_aload_n hx hb d_Mod_isOpen_74 rfl (lv_at hl 2 rfl) ?_
        refine va_get (D := (dC, dI)) (ci := cMod) (v := .int (nI (K 5))) (C := R_Mod) (T := F_Mod) (N := 27) hx hb hts i_Mod hown hK hP 0 rfl rfl 24 (by decide) (hts _ tw_291) (fun _ h9 => h9) rfl d_Mod_isOpen_75 ?_
        refine lv_icmp_ge (tgt := 107) hx hb d_Mod_isOpen_78 (by decide) (fun c_4 => ?_) (fun c_4 => ?_)
        · have c_4 : K 5 ≤ x.1 := (nI_leI (by have h0 := hKb 0; have h1 := hKb 1; have h2 := hKb 2; have h3 := hKb 3; have h4 := hKb 4; have h5 := hKb 5; omega) (by have h0 := hKb 0; have h1 := hKb 1; have h2 := hKb 2; have h3 := hKb 3; have h4 := hKb 4; have h5 := hKb 5; omega)).mp c_4
          refine lv_iload_n hx hb d_Mod_isOpen_107 rfl (lv_at hl 1 rfl) ?_
          rcases hth with ⟨e2, hit, hno⟩ | ⟨e2, hno⟩
          · exact ps_zret hx hb hr hlocks hK hP hD hS (by rw [e2]; rfl) (Nat.le_of_ble_eq_true rfl) (Nat.le_of_ble_eq_true rfl) d_Mod_isOpen_108 (⟨rfl, ps_cy ⟨c_1, hit, fun q h1 h2 => hno q h1 (by omega)⟩ e2⟩)
          · exact ps_zret hx hb hr hlocks hK hP hD hS (by rw [e2]; rfl) (Nat.le_of_ble_eq_true rfl) (Nat.le_of_ble_eq_true rfl) d_Mod_isOpen_108 (⟨rfl, ps_cn (fun q => hno q.2) e2⟩)
        · have c_4 : ¬ K 5 ≤ x.1 := fun q => c_4 ((nI_leI (by have h0 := hKb 0; have h1 := hKb 1; have h2 := hKb 2; have h3 := hKb 3; have h4 := hKb 4; have h5 := hKb 5; omega) (by have h0 := hKb 0; have h1 := hKb 1; have h2 := hKb 2; have h3 := hKb 3; have h4 := hKb 4; have h5 := hKb 5; omega)).mpr q)
          refine lv_iload_n hx hb d_Mod_isOpen_81 rfl (lv_at hl 1 rfl) ?_
          refine lv_if_eq (tgt := 107) hx hb d_Mod_isOpen_82 (by decide) (fun c_5 => ?_) (fun c_5 => ?_)
          · refine lv_iload_n hx hb d_Mod_isOpen_107 rfl (lv_at hl 1 rfl) ?_
            rcases hth with ⟨e2, hit, hno⟩ | ⟨e2, hno⟩
            · exact absurd (c_5.symm.trans e2) (by decide)
            · exact ps_zret hx hb hr hlocks hK hP hD hS (by rw [e2]; rfl) (Nat.le_of_ble_eq_true rfl) (Nat.le_of_ble_eq_true rfl) d_Mod_isOpen_108 (⟨rfl, ps_cn (fun q => hno q.2) e2⟩)
          · refine lv_aload_n hx hb d_Mod_isOpen_85 rfl (lv_at hl 2 rfl) ?_
            refine va_get (D := (dC, dI)) (ci := cMod) (v := .ref (b 15)) (C := R_Mod) (T := F_Mod) (N := 27) hx hb hts i_Mod hown hK hP 0 rfl rfl 20 (by decide) (hts _ tw_297) (fun _ h9 => h9) rfl d_Mod_isOpen_86 ?_
            refine lv_iload_n hx hb d_Mod_isOpen_89 rfl (lv_at hl 0 rfl) ?_
            refine va_iald (f := X 6) hx hb hK hP 15 0 rfl ht (vp_in_nI (show x.1 < 40000 from by omega) (by decide)) d_Mod_isOpen_90 ?_
            refine ps_top (z := (X 6) x.1) (by rw [nI_clamp (show x.1 < 2 ^ 31 from by omega)]) ?_
            refine lv_iload_n hx hb d_Mod_isOpen_91 rfl (lv_at hl 3 rfl) ?_
            refine lv_icmp_eq (tgt := 99) hx hb d_Mod_isOpen_92 (by decide) (fun c_6 => ?_) (fun c_6 => ?_)
            · refine lv_iconst (v := 0) hx hb d_Mod_isOpen_99 (by decide) ?_
              refine lv_istore_n (lv' := [(2, .int 0), (3, .int (nI x.1)), (0, .ref (b 0)), (1, .int z)]) hx hb d_Mod_isOpen_100 rfl hl (by decide) rfl (fun ls hl => ?_)
              refine lv_iinc (v := nI (x.1 + 1)) (lv' := [(3, .int (nI (x.1 + 1))), (2, .int 0), (0, .ref (b 0)), (1, .int z)]) hx hb d_Mod_isOpen_101 hl (k := 1) rfl (nI_1 _) (by decide) rfl (fun ls hl => ?_)
              refine lv_goto (tgt := 73) hx hb d_Mod_isOpen_104 (by decide) ?_
              exact ih (x.1 + 1, 0) _ _ ls (by show K 5 - (x.1 + 1) < K 5 - x.1; omega) ⟨lv_sub hl [0, 1, 2, 3] rfl, hP, hD, hS, by show b0 ≤ x.1 + 1; omega, by show x.1 + 1 ≤ K 5; omega, Or.inr ⟨rfl, fun q => q.2 x.1 hbx (by omega) c_6⟩⟩
            · refine lv_iconst (v := 1) hx hb d_Mod_isOpen_95 (by decide) ?_
              refine lv_goto (tgt := 100) hx hb d_Mod_isOpen_96 (by decide) ?_
              refine lv_istore_n (lv' := [(2, .int 1), (3, .int (nI x.1)), (0, .ref (b 0)), (1, .int z)]) hx hb d_Mod_isOpen_100 rfl hl (by decide) rfl (fun ls hl => ?_)
              refine lv_iinc (v := nI (x.1 + 1)) (lv' := [(3, .int (nI (x.1 + 1))), (2, .int 1), (0, .ref (b 0)), (1, .int z)]) hx hb d_Mod_isOpen_101 hl (k := 1) rfl (nI_1 _) (by decide) rfl (fun ls hl => ?_)
              refine lv_goto (tgt := 73) hx hb d_Mod_isOpen_104 (by decide) ?_
              exact ih (x.1 + 1, 1) _ _ ls (by show K 5 - (x.1 + 1) < K 5 - x.1; omega) ⟨lv_sub hl [0, 1, 2, 3] rfl, hP, hD, hS, by show b0 ≤ x.1 + 1; omega, by show x.1 + 1 ≤ K 5; omega, hth.elim (fun h => Or.inl ⟨rfl, h.2.1, ps_nots h.2.2 c_6⟩) (fun h => absurd h.1 c_5)⟩
      · have c_3 : ¬ t ≤ i := fun q => c_3 ((nI_leI (by have h0 := hKb 0; have h1 := hKb 1; have h2 := hKb 2; have h3 := hKb 3; have h4 := hKb 4; have h5 := hKb 5; omega) (by have h0 := hKb 0; have h1 := hKb 1; have h2 := hKb 2; have h3 := hKb 3; have h4 := hKb 4; have h5 := hKb 5; omega)).mpr q)
        refine lv_iconst (v := 1) hx hb d_Mod_isOpen_57 (by decide) ?_
        refine lv_goto (tgt := 62) hx hb d_Mod_isOpen_58 (by decide) ?_
        refine lv_istore_n (lv' := [(2, .int 1), (0, .ref (b 0)), (1, .int z)]) hx hb d_Mod_isOpen_62 rfl hl (by decide) rfl (fun ls hl => ?_)
        refine lv_aload_n hx hb d_Mod_isOpen_63 rfl (lv_at hl 1 rfl) ?_
        refine va_get (D := (dC, dI)) (ci := cMod) (v := .ref (b 14)) (C := R_Mod) (T := F_Mod) (N := 27) hx hb hts i_Mod hown hK hP 0 rfl rfl 18 (by decide) (hts _ tw_290) (fun _ h9 => h9) rfl d_Mod_isOpen_64 ?_
        refine lv_aload_n hx hb d_Mod_isOpen_67 rfl (lv_at hl 1 rfl) ?_
        refine va_get (D := (dC, dI)) (ci := cMod) (v := .int (nI S)) (C := R_Mod) (T := F_Mod) (N := 27) hx hb hts i_Mod hown hK hP 0 rfl rfl 19 (by decide) (hts _ tw_289) (fun _ h9 => h9) rfl d_Mod_isOpen_68 ?_
        refine va_iald (f := X 5) hx hb hK hP 14 0 rfl ht (vp_in_nI (show S < 17 from by omega) (by decide)) d_Mod_isOpen_71 ?_
        refine ps_top (z := (X 5) S) (by rw [nI_clamp (show S < 2 ^ 31 from by omega)]) ?_
        refine ps_top (z := nI b0) (htb c_1) ?_
        refine lv_istore_n (lv' := [(3, .int (nI b0)), (2, .int 1), (0, .ref (b 0)), (1, .int z)]) hx hb d_Mod_isOpen_72 rfl hl (by decide) rfl (fun ls hl => ?_)
        refine ps_loop (α := Nat × Int32) (fun x => 0) (fun x => 0) (fun x => K 5 - x.1) (fun x H locs ls => lv_has ls 4 [(3, .int (nI x.1)), (2, .int x.2), (0, .ref (b 0)), (1, .int z)] ∧ va_P (dC, dI) classes (mw cI cB cS cZ b K S ck cu F X) H ∧ va_D A (mw cI cB cS cZ b K S ck cu F X) ∧ va_S A s.heap H locs ∧ b0 ≤ x.1 ∧ x.1 ≤ K 5 ∧ ((x.2 = 1 ∧ i < t ∧ ps_not (fun j => X 6 j = z) b0 x.1) ∨ (x.2 = 0 ∧ ¬ (i < t ∧ ps_not (fun j => X 6 j = z) b0 (K 5))))) ?_ (b0, 1) _ _ ls ⟨lv_sub hl [0, 1, 2, 3] rfl, hP, hD, hS, Nat.le_refl _, hb0, Or.inl ⟨rfl, by omega, ps_not0⟩⟩
        intro x H locs ls hI ih
        obtain ⟨hl, hP, hD, hS, hbx, hxk, hth⟩ := hI
        refine lv_iload_n hx hb d_Mod_isOpen_73 rfl (lv_at hl 0 rfl) ?_
        refine lv_aload_n hx hb d_Mod_isOpen_74 rfl (lv_at hl 2 rfl) ?_
        refine va_get (D := (dC, dI)) (ci := cMod) (v := .int (nI (K 5))) (C := R_Mod) (T := F_Mod) (N := 27) hx hb hts i_Mod hown hK hP 0 rfl rfl 24 (by decide) (hts _ tw_291) (fun _ h9 => h9) rfl d_Mod_isOpen_75 ?_
        refine lv_icmp_ge (tgt := 107) hx hb d_Mod_isOpen_78 (by decide) (fun c_7 => ?_) (fun c_7 => ?_)
        · have c_7 : K 5 ≤ x.1 := (nI_leI (by have h0 := hKb 0; have h1 := hKb 1; have h2 := hKb 2; have h3 := hKb 3; have h4 := hKb 4; have h5 := hKb 5; omega) (by have h0 := hKb 0; have h1 := hKb 1; have h2 := hKb 2; have h3 := hKb 3; have h4 := hKb 4; have h5 := hKb 5; omega)).mp c_7
          refine lv_iload_n hx hb d_Mod_isOpen_107 rfl (lv_at hl 1 rfl) ?_
          rcases hth with ⟨e2, hit, hno⟩ | ⟨e2, hno⟩
          · exact ps_zret hx hb hr hlocks hK hP hD hS (by rw [e2]; rfl) (Nat.le_of_ble_eq_true rfl) (Nat.le_of_ble_eq_true rfl) d_Mod_isOpen_108 (⟨rfl, ps_cy ⟨c_1, hit, fun q h1 h2 => hno q h1 (by omega)⟩ e2⟩)
          · exact ps_zret hx hb hr hlocks hK hP hD hS (by rw [e2]; rfl) (Nat.le_of_ble_eq_true rfl) (Nat.le_of_ble_eq_true rfl) d_Mod_isOpen_108 (⟨rfl, ps_cn (fun q => hno q.2) e2⟩)
        · have c_7 : ¬ K 5 ≤ x.1 := fun q => c_7 ((nI_leI (by have h0 := hKb 0; have h1 := hKb 1; have h2 := hKb 2; have h3 := hKb 3; have h4 := hKb 4; have h5 := hKb 5; omega) (by have h0 := hKb 0; have h1 := hKb 1; have h2 := hKb 2; have h3 := hKb 3; have h4 := hKb 4; have h5 := hKb 5; omega)).mpr q)
          refine lv_iload_n hx hb d_Mod_isOpen_81 rfl (lv_at hl 1 rfl) ?_
          refine lv_if_eq (tgt := 107) hx hb d_Mod_isOpen_82 (by decide) (fun c_8 => ?_) (fun c_8 => ?_)
          · refine lv_iload_n hx hb d_Mod_isOpen_107 rfl (lv_at hl 1 rfl) ?_
            rcases hth with ⟨e2, hit, hno⟩ | ⟨e2, hno⟩
            · exact absurd (c_8.symm.trans e2) (by decide)
            · exact ps_zret hx hb hr hlocks hK hP hD hS (by rw [e2]; rfl) (Nat.le_of_ble_eq_true rfl) (Nat.le_of_ble_eq_true rfl) d_Mod_isOpen_108 (⟨rfl, ps_cn (fun q => hno q.2) e2⟩)
          · refine lv_aload_n hx hb d_Mod_isOpen_85 rfl (lv_at hl 2 rfl) ?_
            refine va_get (D := (dC, dI)) (ci := cMod) (v := .ref (b 15)) (C := R_Mod) (T := F_Mod) (N := 27) hx hb hts i_Mod hown hK hP 0 rfl rfl 20 (by decide) (hts _ tw_297) (fun _ h9 => h9) rfl d_Mod_isOpen_86 ?_
            refine lv_iload_n hx hb d_Mod_isOpen_89 rfl (lv_at hl 0 rfl) ?_
            refine va_iald (f := X 6) hx hb hK hP 15 0 rfl ht (vp_in_nI (show x.1 < 40000 from by omega) (by decide)) d_Mod_isOpen_90 ?_
            refine ps_top (z := (X 6) x.1) (by rw [nI_clamp (show x.1 < 2 ^ 31 from by omega)]) ?_
            refine lv_iload_n hx hb d_Mod_isOpen_91 rfl (lv_at hl 3 rfl) ?_
            refine lv_icmp_eq (tgt := 99) hx hb d_Mod_isOpen_92 (by decide) (fun c_9 => ?_) (fun c_9 => ?_)
            · refine lv_iconst (v := 0) hx hb d_Mod_isOpen_99 (by decide) ?_
              refine lv_istore_n (lv' := [(2, .int 0), (3, .int (nI x.1)), (0, .ref (b 0)), (1, .int z)]) hx hb d_Mod_isOpen_100 rfl hl (by decide) rfl (fun ls hl => ?_)
              refine lv_iinc (v := nI (x.1 + 1)) (lv' := [(3, .int (nI (x.1 + 1))), (2, .int 0), (0, .ref (b 0)), (1, .int z)]) hx hb d_Mod_isOpen_101 hl (k := 1) rfl (nI_1 _) (by decide) rfl (fun ls hl => ?_)
              refine lv_goto (tgt := 73) hx hb d_Mod_isOpen_104 (by decide) ?_
              exact ih (x.1 + 1, 0) _ _ ls (by show K 5 - (x.1 + 1) < K 5 - x.1; omega) ⟨lv_sub hl [0, 1, 2, 3] rfl, hP, hD, hS, by show b0 ≤ x.1 + 1; omega, by show x.1 + 1 ≤ K 5; omega, Or.inr ⟨rfl, fun q => q.2 x.1 hbx (by omega) c_9⟩⟩
            · refine lv_iconst (v := 1) hx hb d_Mod_isOpen_95 (by decide) ?_
              refine lv_goto (tgt := 100) hx hb d_Mod_isOpen_96 (by decide) ?_
              refine lv_istore_n (lv' := [(2, .int 1), (3, .int (nI x.1)), (0, .ref (b 0)), (1, .int z)]) hx hb d_Mod_isOpen_100 rfl hl (by decide) rfl (fun ls hl => ?_)
              refine lv_iinc (v := nI (x.1 + 1)) (lv' := [(3, .int (nI (x.1 + 1))), (2, .int 1), (0, .ref (b 0)), (1, .int z)]) hx hb d_Mod_isOpen_101 hl (k := 1) rfl (nI_1 _) (by decide) rfl (fun ls hl => ?_)
              refine lv_goto (tgt := 73) hx hb d_Mod_isOpen_104 (by decide) ?_
              exact ih (x.1 + 1, 1) _ _ ls (by show K 5 - (x.1 + 1) < K 5 - x.1; omega) ⟨lv_sub hl [0, 1, 2, 3] rfl, hP, hD, hS, by show b0 ≤ x.1 + 1; omega, by show x.1 + 1 ≤ K 5; omega, hth.elim (fun h => Or.inl ⟨rfl, h.2.1, ps_nots h.2.2 c_9⟩) (fun h => absurd h.1 c_8)⟩
    · exact absurd (by rw [hz]; exact mo_neg hi) c_2
  · have c_1 : S = 0 := (nI_eq (by have h0 := hKb 0; have h1 := hKb 1; have h2 := hKb 2; have h3 := hKb 3; have h4 := hKb 4; have h5 := hKb 5; omega) (by decide)).mp (c_1.trans nI_0.symm)
    refine lv_iconst (v := 0) hx hb d_Mod_isOpen_7 (by decide) ?_
    exact ps_zret hx hb hr hlocks hK hP hD hS rfl (Nat.le_of_ble_eq_true rfl) (Nat.le_of_ble_eq_true rfl) d_Mod_isOpen_8 (⟨rfl, ps_cn (fun q => q.1 c_1) rfl⟩)

set_option maxHeartbeats 4000000 in
set_option maxRecDepth 100000 in
/-- PageStoreModel.remember -/
theorem m_remK (l : Launch) (dC : Nat → ClassId) (dI : Nat → Nat → Nat) (cI : ClassId) (tys : List (ClassId × FieldType)) (ht : tys[0]? = some (cI, FieldType.int)) (cB cS cZ : ClassId) (htB : tys[1]? = some (cB, FieldType.byte)) (htS : tys[2]? = some (cS, FieldType.short)) (htZ : tys[3]? = some (cZ, FieldType.boolean)) (b K : Nat → Nat) (S : Nat) (ck cu : Int32) (F X : Nat → Nat → Int32) (hKb : ∀ j, K j ≤ 65536) (hSb : S ≤ 15) (i : Nat) (hi : i < 16384) (z : Int32) (hz : z = (-1) - nI i) (t b0 : Nat) (ht0 : t ≤ 65536) (hb0 : b0 ≤ K 5) (hk5 : K 5 ≤ 40000) (htw : ¬ S = 0 → X 4 (5 * S + 4) = nI t) (htb : ¬ S = 0 → X 5 S = nI b0) (hby : ∀ j, vp_nar .byte (X 1 j) = X 1 j) (hbz : ∀ j, vp_nar .boolean (X 3 j) = X 3 j) : ps_mI classes l y_Mod_remember w_Mod_remember ({ frames := 1, cells := 0, slots := 0, locals := 23 }) (dC, dI) tys [.ref (b 0), .int z] (mw cI cB cS cZ b K S ck cu F X) (fun r u => ps_c (mo_open S t b0 (K 5) X (z) i) (ps_c (40000 ≤ K 5) (r = 0 ∧ u = mw cI cB cS cZ b K S ck cu F X) (r = 1 ∧ u = mw cI cB cS cZ b (va_up K 5 (K 5 + 1)) S ck cu F (mo_Xk X (K 5) i z))) (r = 1 ∧ u = mw cI cB cS cZ b K S ck cu F X)) := by
  have hi31 : i < 2 ^ 31 := by omega
  refine ps_mI_of (by decide) rfl (Nat.le_of_ble_eq_true rfl) ?_
  intro p e s m below meth c A ls C0 hA hK hP hD hS hl
  obtain ⟨hx, hb, hr, hml, hts, hown, hlocks, hin⟩ := C0
  have hl : lv_has ls 2 [(0, .ref (b 0)), (1, .int z)] := hl
  have hP : va_P (dC, dI) classes (mw cI cB cS cZ b K S ck cu F X) s.heap := hP
  have hD : va_D A (mw cI cB cS cZ b K S ck cu F X) := hD
  refine lv_aload_n hx hb d_Mod_remember_0 rfl (lv_at hl 0 rfl) ?_
  refine lv_iload_n hx hb d_Mod_remember_1 rfl (lv_at hl 1 rfl) ?_
  refine ps_readI (wc := (mw cI cB cS cZ b K S ck cu F X)) hP hD hS hA [0, 1, 2, 3, 4, 5, 6, 7, 8, 9, 10, 11, 12, 13, 14, 15, 16, 17, 18] rfl (fun _ _ h => h.1) (ps_runVI ⟨hx, hb, hml, hown, hts⟩ (m_openK l dC dI cI tys ht cB cS cZ htB htS htZ b K S ck cu F X hKb hSb i hi31 z hz t b0 ht0 hb0 hk5 htw htb) (ps_cwV ps_gd 1 hts tw_298 k_Mod_isOpen e_Mod_isOpen ⟨Nat.le_of_ble_eq_true rfl, Nat.le_of_ble_eq_true rfl⟩) hK hP hD [0, 1, 2, 3, 4, 5, 6, 7, 8, 9, 10, 11, 12, 13, 14, 15, 16, 17, 18] (by decide) rfl 0 cMod rfl rfl rfl hl.1 rfl (Nat.le_of_ble_eq_true rfl) d_Mod_remember_2 ⟨Nat.zero_le _, Nat.zero_le _⟩) (fun r_1 H locs hr_1 hP hS => ?_)
  obtain ⟨-, hr_1⟩ := hr_1
  rcases hr_1 with ⟨hcr_1, hr_1⟩ | ⟨hcr_1, hr_1⟩
  · subst hr_1
    refine lv_if_ne (tgt := 10) hx hb d_Mod_remember_5 (by decide) (fun c_2 => ?_) (fun c_2 => ?_)
    · refine lv_aload_n hx hb d_Mod_remember_10 rfl (lv_at hl 0 rfl) ?_
      refine va_get (D := (dC, dI)) (ci := cMod) (v := .int (nI (K 5))) (C := R_Mod) (T := F_Mod) (N := 27) hx hb hts i_Mod hown hK hP 0 rfl rfl 24 (by decide) (hts _ tw_291) (fun _ h9 => h9) rfl d_Mod_remember_11 ?_
      refine lv_ldc (v := 40000) hx hb hown (hts _ tw_299) d_Mod_remember_14 ?_
      refine ps_top (z := nI 40000) (by decide) ?_
      refine lv_icmp_ne (tgt := 21) hx hb d_Mod_remember_16 (by decide) (fun c_3 => ?_) (fun c_3 => ?_)
      · have c_3 : ¬ K 5 = 40000 := fun q => c_3 ((nI_eq (by have h0 := hKb 0; have h1 := hKb 1; have h2 := hKb 2; have h3 := hKb 3; have h4 := hKb 4; have h5 := hKb 5; omega) (by have h0 := hKb 0; have h1 := hKb 1; have h2 := hKb 2; have h3 := hKb 3; have h4 := hKb 4; have h5 := hKb 5; omega)).mpr q)
        refine lv_aload_n hx hb d_Mod_remember_21 rfl (lv_at hl 0 rfl) ?_
        refine va_get (D := (dC, dI)) (ci := cMod) (v := .ref (b 15)) (C := R_Mod) (T := F_Mod) (N := 27) hx hb hts i_Mod hown hK hP 0 rfl rfl 20 (by decide) (hts _ tw_297) (fun _ h9 => h9) rfl d_Mod_remember_22 ?_
        refine lv_aload_n hx hb d_Mod_remember_25 rfl (lv_at hl 0 rfl) ?_
        refine va_get (D := (dC, dI)) (ci := cMod) (v := .int (nI (K 5))) (C := R_Mod) (T := F_Mod) (N := 27) hx hb hts i_Mod hown hK hP 0 rfl rfl 24 (by decide) (hts _ tw_291) (fun _ h9 => h9) rfl d_Mod_remember_26 ?_
        refine lv_iload_n hx hb d_Mod_remember_29 rfl (lv_at hl 1 rfl) ?_
        refine va_iast (f := X 6) hx hb hK hP hD hS 15 0 rfl ht (vp_in_nI (show K 5 < 40000 from by omega) (by decide)) d_Mod_remember_30 (fun H locs hP hD hS => ?_)
        rw [nI_clamp (show K 5 < 2 ^ 31 from by omega)] at hP hD
        have hP : va_P (dC, dI) classes (mw cI cB cS cZ b K S ck cu F (va_up X 6 (upd (X 6) (K 5) z))) H := hP
        have hD : va_D A (mw cI cB cS cZ b K S ck cu F (va_up X 6 (upd (X 6) (K 5) z))) := hD
        refine lv_iload_n hx hb d_Mod_remember_31 rfl (lv_at hl 1 rfl) ?_
        refine lv_if_lt (tgt := 68) hx hb d_Mod_remember_32 (by decide) (fun c_4 => ?_) (fun c_4 => ?_)
        · refine lv_aload_n hx hb d_Mod_remember_68 rfl (lv_at hl 0 rfl) ?_
          refine va_get (D := (dC, dI)) (ci := cMod) (v := .ref (b 16)) (C := R_Mod) (T := F_Mod) (N := 27) hx hb hts i_Mod hown hK hP 0 rfl rfl 21 (by decide) (hts _ tw_300) (fun _ h9 => h9) rfl d_Mod_remember_69 ?_
          refine lv_aload_n hx hb d_Mod_remember_72 rfl (lv_at hl 0 rfl) ?_
          refine va_get (D := (dC, dI)) (ci := cMod) (v := .int (nI (K 5))) (C := R_Mod) (T := F_Mod) (N := 27) hx hb hts i_Mod hown hK hP 0 rfl rfl 24 (by decide) (hts _ tw_291) (fun _ h9 => h9) rfl d_Mod_remember_73 ?_
          refine lv_aload_n hx hb d_Mod_remember_76 rfl (lv_at hl 0 rfl) ?_
          refine va_get (D := (dC, dI)) (ci := cMod) (v := .ref (b 10)) (C := R_Mod) (T := F_Mod) (N := 27) hx hb hts i_Mod hown hK hP 0 rfl rfl 13 (by decide) (hts _ tw_273) (fun _ h9 => h9) rfl d_Mod_remember_77 ?_
          refine lv_iconst (v := (-1)) hx hb d_Mod_remember_80 (by decide) ?_
          refine lv_iload_n hx hb d_Mod_remember_81 rfl (lv_at hl 1 rfl) ?_
          refine lv_isub hx hb d_Mod_remember_82 ?_
          refine ps_top (z := nI i) (by rw [hz]; exact mo_inv) ?_
          refine va_bald (f := X 1) hx hb hK hP 10 1 rfl htB (vp_in_nI (show i < 16384 from by omega) (by decide)) d_Mod_remember_83 ?_
          refine ps_top (z := (X 1) i) (by rw [nI_clamp (show i < 2 ^ 31 from by omega)]) ?_
          refine va_bast (f := X 7) hx hb hK hP hD hS 16 1 rfl htB (vp_in_nI (show K 5 < 40000 from by omega) (by decide)) d_Mod_remember_84 (fun H locs hP hD hS => ?_)
          rw [nI_clamp (show K 5 < 2 ^ 31 from by omega), hby] at hP hD
          have hP : va_P (dC, dI) classes (mw cI cB cS cZ b K S ck cu F (va_up (va_up X 6 (upd (X 6) (K 5) z)) 7 (upd (X 7) (K 5) ((X 1) i)))) H := hP
          have hD : va_D A (mw cI cB cS cZ b K S ck cu F (va_up (va_up X 6 (upd (X 6) (K 5) z)) 7 (upd (X 7) (K 5) ((X 1) i)))) := hD
          refine lv_aload_n hx hb d_Mod_remember_85 rfl (lv_at hl 0 rfl) ?_
          refine va_get (D := (dC, dI)) (ci := cMod) (v := .ref (b 17)) (C := R_Mod) (T := F_Mod) (N := 27) hx hb hts i_Mod hown hK hP 0 rfl rfl 22 (by decide) (hts _ tw_301) (fun _ h9 => h9) rfl d_Mod_remember_86 ?_
          refine lv_aload_n hx hb d_Mod_remember_89 rfl (lv_at hl 0 rfl) ?_
          refine va_get (D := (dC, dI)) (ci := cMod) (v := .int (nI (K 5))) (C := R_Mod) (T := F_Mod) (N := 27) hx hb hts i_Mod hown hK hP 0 rfl rfl 24 (by decide) (hts _ tw_291) (fun _ h9 => h9) rfl d_Mod_remember_90 ?_
          refine lv_aload_n hx hb d_Mod_remember_93 rfl (lv_at hl 0 rfl) ?_
          refine va_get (D := (dC, dI)) (ci := cMod) (v := .ref (b 11)) (C := R_Mod) (T := F_Mod) (N := 27) hx hb hts i_Mod hown hK hP 0 rfl rfl 14 (by decide) (hts _ tw_274) (fun _ h9 => h9) rfl d_Mod_remember_94 ?_
          refine lv_iconst (v := (-1)) hx hb d_Mod_remember_97 (by decide) ?_
          refine lv_iload_n hx hb d_Mod_remember_98 rfl (lv_at hl 1 rfl) ?_
          refine lv_isub hx hb d_Mod_remember_99 ?_
          refine ps_top (z := nI i) (by rw [hz]; exact mo_inv) ?_
          refine va_iald (f := X 2) hx hb hK hP 11 0 rfl ht (vp_in_nI (show i < 16384 from by omega) (by decide)) d_Mod_remember_100 ?_
          refine ps_top (z := (X 2) i) (by rw [nI_clamp (show i < 2 ^ 31 from by omega)]) ?_
          refine va_iast (f := X 8) hx hb hK hP hD hS 17 0 rfl ht (vp_in_nI (show K 5 < 40000 from by omega) (by decide)) d_Mod_remember_101 (fun H locs hP hD hS => ?_)
          rw [nI_clamp (show K 5 < 2 ^ 31 from by omega)] at hP hD
          have hP : va_P (dC, dI) classes (mw cI cB cS cZ b K S ck cu F (va_up (va_up (va_up X 6 (upd (X 6) (K 5) z)) 7 (upd (X 7) (K 5) ((X 1) i))) 8 (upd (X 8) (K 5) ((X 2) i)))) H := hP
          have hD : va_D A (mw cI cB cS cZ b K S ck cu F (va_up (va_up (va_up X 6 (upd (X 6) (K 5) z)) 7 (upd (X 7) (K 5) ((X 1) i))) 8 (upd (X 8) (K 5) ((X 2) i)))) := hD
          refine lv_aload_n hx hb d_Mod_remember_102 rfl (lv_at hl 0 rfl) ?_
          refine va_get (D := (dC, dI)) (ci := cMod) (v := .ref (b 18)) (C := R_Mod) (T := F_Mod) (N := 27) hx hb hts i_Mod hown hK hP 0 rfl rfl 23 (by decide) (hts _ tw_302) (fun _ h9 => h9) rfl d_Mod_remember_103 ?_
          refine lv_aload_n hx hb d_Mod_remember_106 rfl (lv_at hl 0 rfl) ?_
          refine va_get (D := (dC, dI)) (ci := cMod) (v := .int (nI (K 5))) (C := R_Mod) (T := F_Mod) (N := 27) hx hb hts i_Mod hown hK hP 0 rfl rfl 24 (by decide) (hts _ tw_291) (fun _ h9 => h9) rfl d_Mod_remember_107 ?_
          refine lv_aload_n hx hb d_Mod_remember_110 rfl (lv_at hl 0 rfl) ?_
          refine va_get (D := (dC, dI)) (ci := cMod) (v := .ref (b 12)) (C := R_Mod) (T := F_Mod) (N := 27) hx hb hts i_Mod hown hK hP 0 rfl rfl 15 (by decide) (hts _ tw_269) (fun _ h9 => h9) rfl d_Mod_remember_111 ?_
          refine lv_iconst (v := (-1)) hx hb d_Mod_remember_114 (by decide) ?_
          refine lv_iload_n hx hb d_Mod_remember_115 rfl (lv_at hl 1 rfl) ?_
          refine lv_isub hx hb d_Mod_remember_116 ?_
          refine ps_top (z := nI i) (by rw [hz]; exact mo_inv) ?_
          refine va_zald (f := X 3) hx hb hK hP 12 3 rfl htZ (vp_in_nI (show i < 16384 from by omega) (by decide)) d_Mod_remember_117 ?_
          refine ps_top (z := (X 3) i) (by rw [nI_clamp (show i < 2 ^ 31 from by omega)]) ?_
          refine va_zast (f := X 9) hx hb hK hP hD hS 18 3 rfl htZ (vp_in_nI (show K 5 < 40000 from by omega) (by decide)) d_Mod_remember_118 (fun H locs hP hD hS => ?_)
          rw [nI_clamp (show K 5 < 2 ^ 31 from by omega), hbz] at hP hD
          have hP : va_P (dC, dI) classes (mw cI cB cS cZ b K S ck cu F (va_up (va_up (va_up (va_up X 6 (upd (X 6) (K 5) z)) 7 (upd (X 7) (K 5) ((X 1) i))) 8 (upd (X 8) (K 5) ((X 2) i))) 9 (upd (X 9) (K 5) ((X 3) i)))) H := hP
          have hD : va_D A (mw cI cB cS cZ b K S ck cu F (va_up (va_up (va_up (va_up X 6 (upd (X 6) (K 5) z)) 7 (upd (X 7) (K 5) ((X 1) i))) 8 (upd (X 8) (K 5) ((X 2) i))) 9 (upd (X 9) (K 5) ((X 3) i)))) := hD
          refine lv_aload_n hx hb d_Mod_remember_119 rfl (lv_at hl 0 rfl) ?_
          refine lv_dup hx hb d_Mod_remember_120 rfl ?_
          refine va_get (D := (dC, dI)) (ci := cMod) (v := .int (nI (K 5))) (C := R_Mod) (T := F_Mod) (N := 27) hx hb hts i_Mod hown hK hP 0 rfl rfl 24 (by decide) (hts _ tw_291) (fun _ h9 => h9) rfl d_Mod_remember_121 ?_
          refine lv_iconst (v := nI 1) hx hb d_Mod_remember_124 (by decide) ?_
          refine lv_iadd hx hb d_Mod_remember_125 ?_
          refine ps_top (z := nI (K 5 + 1)) (nI_add _ _) ?_
          refine va_put (D := (dC, dI)) (ci := cMod) (v := .int (nI (K 5 + 1))) (ty := .int) (C := R_Mod) (T := F_Mod) (N := 27) hx hb hts i_Mod t_Mod t_Mod_ok n_Mod hown hK hP hD hS 0 rfl rfl 24 (by decide) (hts _ tw_291) (fun _ h9 => h9) rfl (by decide +kernel) rfl rfl (Nat.le_of_ble_eq_true rfl) d_Mod_remember_126 (fun H locs hP hD hS => ?_)
          have hP : va_P (dC, dI) classes (mw cI cB cS cZ b (va_up K 5 (K 5 + 1)) S ck cu F (va_up (va_up (va_up (va_up X 6 (upd (X 6) (K 5) z)) 7 (upd (X 7) (K 5) ((X 1) i))) 8 (upd (X 8) (K 5) ((X 2) i))) 9 (upd (X 9) (K 5) ((X 3) i)))) H := hP
          have hD : va_D A (mw cI cB cS cZ b (va_up K 5 (K 5 + 1)) S ck cu F (va_up (va_up (va_up (va_up X 6 (upd (X 6) (K 5) z)) 7 (upd (X 7) (K 5) ((X 1) i))) 8 (upd (X 8) (K 5) ((X 2) i))) 9 (upd (X 9) (K 5) ((X 3) i)))) := hD
          refine lv_iconst (v := 1) hx hb d_Mod_remember_129 (by decide) ?_
          exact ps_zret hx hb hr hlocks hK hP hD hS rfl (Nat.le_of_ble_eq_true rfl) (Nat.le_of_ble_eq_true rfl) d_Mod_remember_130 (ps_cy hcr_1 (ps_cn (by omega) ⟨rfl, rfl⟩))
        · exact absurd (by rw [hz]; exact mo_neg hi31) c_4
      · have c_3 : K 5 = 40000 := (nI_eq (by have h0 := hKb 0; have h1 := hKb 1; have h2 := hKb 2; have h3 := hKb 3; have h4 := hKb 4; have h5 := hKb 5; omega) (by have h0 := hKb 0; have h1 := hKb 1; have h2 := hKb 2; have h3 := hKb 3; have h4 := hKb 4; have h5 := hKb 5; omega)).mp c_3
        refine lv_iconst (v := 0) hx hb d_Mod_remember_19 (by decide) ?_
        exact ps_zret hx hb hr hlocks hK hP hD hS rfl (Nat.le_of_ble_eq_true rfl) (Nat.le_of_ble_eq_true rfl) d_Mod_remember_20 (ps_cy hcr_1 (ps_cy (by omega) ⟨rfl, rfl⟩))
    · exact absurd c_2 (by decide)
  · subst hr_1
    refine lv_if_ne (tgt := 10) hx hb d_Mod_remember_5 (by decide) (fun c_5 => ?_) (fun c_5 => ?_)
    · exact absurd rfl c_5
    · refine lv_iconst (v := 1) hx hb d_Mod_remember_8 (by decide) ?_
      exact ps_zret hx hb hr hlocks hK hP hD hS rfl (Nat.le_of_ble_eq_true rfl) (Nat.le_of_ble_eq_true rfl) d_Mod_remember_9 (ps_cn hcr_1 ⟨rfl, rfl⟩)
