theorem tw_112 : (.fieldLink "PageStore" 25 "PageStore" "rows" "LPageStore$Rows;" : Cond) ∈ ps_tbl := ps_t1 129 rfl rfl
theorem tw_113 : (.methodLink "PageStore" 157 ⟨"PageStore$Rows", "write", "(IIII)V"⟩ : Cond) ∈ ps_tbl := ps_t1 186 rfl rfl
theorem tw_114 : (.instanceMethod ⟨"PageStore$Rows", "write", "(IIII)V"⟩ : Cond) ∈ ps_tbl := ps_t1 187 rfl rfl
theorem tw_115 : (.selects "PageStore$Rows" ⟨"PageStore$Rows", "write", "(IIII)V"⟩ ⟨"PageStore$Rows", "write", "(IIII)V"⟩ : Cond) ∈ ps_tbl := ps_t1 188 rfl rfl
theorem tw_116 : (.initialized "PageStore$Rows" : Cond) ∈ ps_tbl := ps_t1 3 rfl rfl
theorem tw_117 : (.code ⟨"PageStore$Rows", "write", "(IIII)V"⟩ prog_5_method_2_code 5 none : Cond) ∈ ps_tbl := ps_t1 189 rfl rfl
theorem k_Row_write : ps_cdV ps_tbl y_Row_write prog_5_method_2_code 5 none := ⟨tw_114, tw_115, tw_116, tw_117⟩
/-- either c, and X; or not c, and Y -/
def ps_c (c X Y : Prop) : Prop := (c ∧ X) ∨ (¬ c ∧ Y)
theorem ps_cy {c X Y : Prop} (h : c) (x : X) : ps_c c X Y := Or.inl ⟨h, x⟩
theorem ps_cn {c X Y : Prop} (h : ¬ c) (y : Y) : ps_c c X Y := Or.inr ⟨h, y⟩
theorem ps_c.y {c X Y : Prop} (h : ps_c c X Y) (hc : c) : X := h.elim (fun q => q.2) (fun q => absurd hc q.1)
theorem ps_c.n {c X Y : Prop} (h : ps_c c X Y) (hc : ¬ c) : Y := h.elim (fun q => absurd q.1 hc) (fun q => q.2)
/-- column k is written at i -/
def ps_g (N : Nat → Nat) (k i : Nat) : Nat → Nat := va_up N k (ps_len (ps_lim k) (N k) i)
def ps_u (F : Nat → Nat → Int32) (k i : Nat) (x : Int32) : Nat → Nat → Int32 := va_up F k (upd (F k) i x)
/-- column k is wiped from x on, up to y -/
def ps_w (F : Nat → Nat → Int32) (k x y : Nat) : Nat → Nat → Int32 := va_up F k (ps_fil (F k) x y 0)
def ps_Fr (F : Nat → Nat → Int32) (r : Nat) (x s n : Int32) : Nat → Nat → Int32 := ps_u (ps_u (ps_u F 4 r x) 5 r s) 6 r n
def ps_Nr (N : Nat → Nat) (r : Nat) : Nat → Nat := ps_g (ps_g (ps_g N 4 r) 5 r) 6 r
def ps_rc (N : Nat → Nat) (r : Nat) : Nat := ps_dc 16385 (N 4) r + ps_dc 16385 (N 5) r + ps_dc 16385 (N 6) r
def ps_rs (N : Nat → Nat) (r : Nat) : Nat := ps_ds 16385 (N 4) r + ps_ds 16385 (N 5) r + ps_ds 16385 (N 6) r
theorem ps_kb {K : Nat → Nat} {c x : Nat} (h : ∀ j, K j ≤ 65536) (hx : x ≤ 65536) : ∀ j, va_up K c x j ≤ 65536 := fun j => by
  by_cases hj : j = c
  · subst hj; rw [va_up_self]; exact hx
  · rw [va_up_ne _ _ hj]; exact h j
theorem ps_wf_w {F : Nat → Nat → Int32} {N : Nat → Nat} (k : Nat) {x y : Nat} (h : ps_wf F N) : ps_wf (va_up F k (ps_fil (F k) x y 0)) N := fun j hj => by
  by_cases e : j = k
  · subst e; rw [va_up_self]; exact ⟨ps_Z_fil (h j hj).1, (h j hj).2⟩
  · rw [va_up_ne _ _ e]; exact h j hj

set_option maxHeartbeats 4000000 in
set_option maxRecDepth 100000 in
/-- PageStore.addRow -/
theorem c_addRow (l : Launch) (dC : Nat → ClassId) (dI : Nat → Nat → Nat) (cI : ClassId) (tys : List (ClassId × FieldType)) (ht : tys[0]? = some (cI, FieldType.int)) (a q K : Nat → Nat) (S : Nat) (ck cu : Int32) (F : Nat → Nat → Int32) (N : Nat → Nat) (hw : ps_wf F N) (hKb : ∀ j, K j ≤ 65536) (hSb : S ≤ 15) (x s0 n : Int32) (hr : K 0 < 16384) : ps_mI classes l y_PS_addRow w_PS_addRow ({ frames := 4, cells := ps_rc N (K 0 + 1), slots := ps_rs N (K 0 + 1), locals := 87 }) (dC, dI) tys [.ref (a 0), .int x, .int s0, .int n] (pw cI a q K S ck cu F N) (fun r u => r = nI (K 0 + 1) ∧ ∃ q1 : Nat → Nat, u = pw cI a q1 (va_up K 0 (K 0 + 1)) S ck cu (ps_Fr F (K 0 + 1) x s0 n) (ps_Nr N (K 0 + 1))) := by
  have hr0 := hr
  refine ps_mI_of (by decide) rfl (Nat.le_of_ble_eq_true rfl) ?_
  intro p e s m below meth c A ls C0 hA hK hP hD hS hl
  obtain ⟨hx, hb, hr, hml, hts, hown, hlocks, hin⟩ := C0
  have hl : lv_has ls 4 [(0, .ref (a 0)), (1, .int x), (2, .int s0), (3, .int n)] := hl
  have hP : va_P (dC, dI) classes (pw cI a q K S ck cu F N) s.heap := hP
  have hD : va_D A (pw cI a q K S ck cu F N) := hD
  refine lv_aload_n hx hb d_PS_addRow_0 rfl (lv_at hl 0 rfl) ?_
  refine va_get (D := (dC, dI)) (ci := cPS) (v := .ref (a 1)) (C := R_PS) (T := F_PS) (N := 10) hx hb hts i_PS hown hK hP 0 rfl rfl 0 (by decide) (hts _ tw_97) (fun _ h9 => h9) rfl d_PS_addRow_1 ?_
  refine lv_iconst (v := nI 0) hx hb d_PS_addRow_4 (by decide) ?_
  refine lv_dup2_11 hx hb d_PS_addRow_5 rfl rfl ?_
  refine va_iald hx hb hK hP 1 0 rfl ht (vp_in_nI (show 0 < 6 by decide) (by decide)) d_PS_addRow_6 ?_
  refine ps_top (z := nI (K 0)) (ps_kat _ 0 (by decide)) ?_
  refine lv_iconst (v := nI 1) hx hb d_PS_addRow_7 (by decide) ?_
  refine lv_iadd hx hb d_PS_addRow_8 ?_
  refine ps_top (z := nI (K 0 + 1)) (nI_add _ _) ?_
  refine va_iast hx hb hK hP hD hS 1 0 rfl ht (vp_in_nI (show 0 < 6 by decide) (by decide)) d_PS_addRow_9 (fun H locs hP hD hS => ?_)
  rw [nI_clamp (show 0 < 2 ^ 31 by decide)] at hP hD
  rw [ps_kup] at hP hD
  have hP : va_P (dC, dI) classes (pw cI a q (va_up K 0 (K 0 + 1)) S ck cu F N) H := hP
  have hD : va_D A (pw cI a q (va_up K 0 (K 0 + 1)) S ck cu F N) := hD
  refine lv_aload_n hx hb d_PS_addRow_10 rfl (lv_at hl 0 rfl) ?_
  refine va_get (D := (dC, dI)) (ci := cPS) (v := .ref (a 2)) (C := R_PS) (T := F_PS) (N := 10) hx hb hts i_PS hown hK hP 0 rfl rfl 3 (by decide) (hts _ tw_112) (fun _ h9 => h9) rfl d_PS_addRow_11 ?_
  refine lv_aload_n hx hb d_PS_addRow_14 rfl (lv_at hl 0 rfl) ?_
  refine va_get (D := (dC, dI)) (ci := cPS) (v := .ref (a 1)) (C := R_PS) (T := F_PS) (N := 10) hx hb hts i_PS hown hK hP 0 rfl rfl 0 (by decide) (hts _ tw_97) (fun _ h9 => h9) rfl d_PS_addRow_15 ?_
  refine lv_iconst (v := nI 0) hx hb d_PS_addRow_18 (by decide) ?_
  refine va_iald hx hb hK hP 1 0 rfl ht (vp_in_nI (show 0 < 6 by decide) (by decide)) d_PS_addRow_19 ?_
  refine ps_top (z := nI (K 0 + 1)) (ps_kat _ 0 (by decide)) ?_
  refine lv_iload_n hx hb d_PS_addRow_20 rfl (lv_at hl 1 rfl) ?_
  refine lv_iload_n hx hb d_PS_addRow_21 rfl (lv_at hl 2 rfl) ?_
  refine lv_iload_n hx hb d_PS_addRow_22 rfl (lv_at hl 3 rfl) ?_
  refine ps_afterV (wc := [(a 2, .inr (cRow, [.ref (a 12), .ref (a 13), .ref (a 14)])), (a 12, .inr (cCol, [.int (nI 16385), .ref (q 4)])), (q 4, .inl (cI, N 4, .inl (F 4))), (a 13, .inr (cCol, [.int (nI 16385), .ref (q 5)])), (q 5, .inl (cI, N 5, .inl (F 5))), (a 14, .inr (cCol, [.int (nI 16385), .ref (q 6)])), (q 6, .inl (cI, N 6, .inl (F 6)))]) (wr := [0, 1, 3, 4, 5, 6, 7, 8, 9, 10, 11, 12, 13, 14, 15, 22, 23, 24, 25, 26, 27, 28, 29, 30, 31, 32, 33, 34, 35, 36, 37, 38, 39].filterMap (fun z9 => ((pw cI a q (va_up K 0 (K 0 + 1)) S ck cu F N) : va_W)[z9]?)) hP hD hS hA [2, 16, 17, 18, 19, 20, 21] [0, 1, 3, 4, 5, 6, 7, 8, 9, 10, 11, 12, 13, 14, 15, 22, 23, 24, 25, 26, 27, 28, 29, 30, 31, 32, 33, 34, 35, 36, 37, 38, 39] rfl rfl (by decide) (by decide) (ps_runVV ⟨hx, hb, hml, hown, hts⟩ (c_rwrite l dC dI cI tys ht (a 2) (a 12) (q 4) (a 13) (q 5) (a 14) (q 6) 16385 (N 4) (N 5) (N 6) (F 4) (F 5) (F 6) (K 0 + 1) x s0 n (hw.z 4 (by decide)) (hw.z 5 (by decide)) (hw.z 6 (by decide)) (by decide) (hw 4 (by decide)).2 (hw 5 (by decide)).2 (hw 6 (by decide)).2 (by omega)) (ps_cwV ps_gd 4 hts tw_113 k_Row_write e_Row_write ⟨Nat.le_of_ble_eq_true rfl, Nat.le_of_ble_eq_true rfl⟩) hK hP hD [2, 16, 17, 18, 19, 20, 21] (by decide) rfl 0 cRow rfl rfl rfl hl.1 rfl (Nat.le_of_ble_eq_true rfl) d_PS_addRow_23 ⟨by show 0 + ps_rc N (K 0 + 1) ≤ ps_rc N (K 0 + 1); omega, by show 0 + ps_rs N (K 0 + 1) ≤ ps_rs N (K 0 + 1); omega⟩) (fun u_1 H locs hu_1 hP hD hS => ?_)
  obtain ⟨q_3, q_4, q_5, hu_1⟩ := hu_1
  subst hu_1
  obtain ⟨hP, hD⟩ := ps_perm (ws' := (pw cI a (va_up (va_up (va_up q 4 q_3) 5 q_4) 6 q_5) (va_up K 0 (K 0 + 1)) S ck cu (va_up (va_up (va_up F 4 (upd (F 4) (K 0 + 1) x)) 5 (upd (F 5) (K 0 + 1) s0)) 6 (upd (F 6) (K 0 + 1) n)) (va_up (va_up (va_up N 4 (ps_len 16385 (N 4) (K 0 + 1))) 5 (ps_len 16385 (N 5) (K 0 + 1))) 6 (ps_len 16385 (N 6) (K 0 + 1))))) hP hD [0, 1, 33, 2, 3, 4, 5, 6, 7, 8, 9, 10, 11, 12, 13, 14, 34, 35, 36, 37, 38, 39, 15, 16, 17, 18, 19, 20, 21, 22, 23, 24, 25, 26, 27, 28, 29, 30, 31, 32] (by decide) rfl
  refine lv_aload_n hx hb d_PS_addRow_26 rfl (lv_at hl 0 rfl) ?_
  refine va_get (D := (dC, dI)) (ci := cPS) (v := .ref (a 1)) (C := R_PS) (T := F_PS) (N := 10) hx hb hts i_PS hown hK hP 0 rfl rfl 0 (by decide) (hts _ tw_97) (fun _ h9 => h9) rfl d_PS_addRow_27 ?_
  refine lv_iconst (v := nI 0) hx hb d_PS_addRow_30 (by decide) ?_
  refine va_iald hx hb hK hP 1 0 rfl ht (vp_in_nI (show 0 < 6 by decide) (by decide)) d_PS_addRow_31 ?_
  refine ps_top (z := nI (K 0 + 1)) (ps_kat _ 0 (by decide)) ?_
  exact ps_iret hx hb hr hlocks hK hP hD hS (by show 0 + ps_rc N (K 0 + 1) ≤ ps_rc N (K 0 + 1); omega) (by show 0 + ps_rs N (K 0 + 1) ≤ ps_rs N (K 0 + 1); omega) d_PS_addRow_32 (⟨rfl, (va_up (va_up (va_up q 4 q_3) 5 q_4) 6 q_5), rfl⟩)
