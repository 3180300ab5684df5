theorem tw_158 : (.methodLink "PageStore" 160 ⟨"PageStore$Keys", "write", "(IIII)V"⟩ : Cond) ∈ ps_tbl := ps_t2 78 rfl rfl
theorem tw_159 : (.methodLink "PageStore" 95 ⟨"PageStore$Values", "write", "(III)V"⟩ : Cond) ∈ ps_tbl := ps_t2 39 rfl rfl
theorem tw_160 : (.fieldLink "PageStore" 161 "PageStore$Keys" "kinds" "LPageStore$Column;" : Cond) ∈ ps_tbl := ps_t1 88 rfl rfl
theorem tw_161 : (.fieldLink "PageStore" 162 "PageStore$Keys" "numbers" "LPageStore$Column;" : Cond) ∈ ps_tbl := ps_t1 90 rfl rfl
theorem tw_162 : (.fieldLink "PageStore" 51 "PageStore" "memories" "LPageStore$Memories;" : Cond) ∈ ps_tbl := ps_t1 133 rfl rfl
theorem tw_163 : (.methodLink "PageStore" 174 ⟨"PageStore$Memories", "hold", "(IIII)Z"⟩ : Cond) ∈ ps_tbl := ps_t2 19 rfl rfl
theorem tw_164 : (.methodLink "PageStore" 163 ⟨"PageStore", "mustRemember", "(II)Z"⟩ : Cond) ∈ ps_tbl := ps_t2 11 rfl rfl
theorem tw_165 : (.constant "PageStore" 166 40000 : Cond) ∈ ps_tbl := ps_t2 24 rfl rfl
theorem tw_166 : (.methodLink "PageStore" 167 ⟨"PageStore", "valuesOf", "(I)LPageStore$Values;"⟩ : Cond) ∈ ps_tbl := ps_t2 25 rfl rfl
theorem tw_167 : (.methodLink "PageStore" 171 ⟨"PageStore$Memories", "write", "(IIILPageStore$Values;)V"⟩ : Cond) ∈ ps_tbl := ps_t2 29 rfl rfl
theorem tw_168 : (.instanceMethod ⟨"PageStore$Keys", "write", "(IIII)V"⟩ : Cond) ∈ ps_tbl := ps_t2 79 rfl rfl
theorem tw_169 : (.selects "PageStore$Keys" ⟨"PageStore$Keys", "write", "(IIII)V"⟩ ⟨"PageStore$Keys", "write", "(IIII)V"⟩ : Cond) ∈ ps_tbl := ps_t2 80 rfl rfl
theorem tw_170 : (.code ⟨"PageStore$Keys", "write", "(IIII)V"⟩ prog_3_method_2_code 5 none : Cond) ∈ ps_tbl := ps_t2 81 rfl rfl
theorem tw_171 : (.instanceMethod ⟨"PageStore$Memories", "hold", "(IIII)Z"⟩ : Cond) ∈ ps_tbl := ps_t2 20 rfl rfl
theorem tw_172 : (.selects "PageStore$Memories" ⟨"PageStore$Memories", "hold", "(IIII)Z"⟩ ⟨"PageStore$Memories", "hold", "(IIII)Z"⟩ : Cond) ∈ ps_tbl := ps_t2 21 rfl rfl
theorem tw_173 : (.initialized "PageStore$Memories" : Cond) ∈ ps_tbl := ps_t1 6 rfl rfl
theorem tw_174 : (.code ⟨"PageStore$Memories", "hold", "(IIII)Z"⟩ prog_4_method_3_code 6 (some .boolean) : Cond) ∈ ps_tbl := ps_t2 22 rfl rfl
theorem tw_175 : (.instanceMethod ⟨"PageStore", "mustRemember", "(II)Z"⟩ : Cond) ∈ ps_tbl := ps_t2 13 rfl rfl
theorem tw_176 : (.selects "PageStore" ⟨"PageStore", "mustRemember", "(II)Z"⟩ ⟨"PageStore", "mustRemember", "(II)Z"⟩ : Cond) ∈ ps_tbl := ps_ts (y := ⟨"PageStore", "mustRemember", "(II)Z"⟩) (n := 10) 5 rfl rfl
theorem tw_177 : (.code ⟨"PageStore", "mustRemember", "(II)Z"⟩ prog_1_method_35_code 4 (some .boolean) : Cond) ∈ ps_tbl := ps_t2 14 rfl rfl
theorem tw_178 : (.instanceMethod ⟨"PageStore", "valuesOf", "(I)LPageStore$Values;"⟩ : Cond) ∈ ps_tbl := ps_t2 27 rfl rfl
theorem tw_179 : (.selects "PageStore" ⟨"PageStore", "valuesOf", "(I)LPageStore$Values;"⟩ ⟨"PageStore", "valuesOf", "(I)LPageStore$Values;"⟩ : Cond) ∈ ps_tbl := ps_ts (y := ⟨"PageStore", "valuesOf", "(I)LPageStore$Values;"⟩) (n := 10) 7 rfl rfl
theorem tw_180 : (.code ⟨"PageStore", "valuesOf", "(I)LPageStore$Values;"⟩ prog_1_method_37_code 2 (some (.object "PageStore$Values")) : Cond) ∈ ps_tbl := ps_t2 28 rfl rfl
theorem tw_181 : (.instanceMethod ⟨"PageStore$Memories", "write", "(IIILPageStore$Values;)V"⟩ : Cond) ∈ ps_tbl := ps_t2 30 rfl rfl
theorem tw_182 : (.selects "PageStore$Memories" ⟨"PageStore$Memories", "write", "(IIILPageStore$Values;)V"⟩ ⟨"PageStore$Memories", "write", "(IIILPageStore$Values;)V"⟩ : Cond) ∈ ps_tbl := ps_t2 31 rfl rfl
theorem tw_183 : (.code ⟨"PageStore$Memories", "write", "(IIILPageStore$Values;)V"⟩ prog_4_method_2_code 5 none : Cond) ∈ ps_tbl := ps_t2 32 rfl rfl
theorem k_Key_write : ps_cdV ps_tbl y_Key_write prog_3_method_2_code 5 none := ⟨tw_168, tw_169, tw_54, tw_170⟩
theorem k_Mem_hold : ps_cdV ps_tbl y_Mem_hold prog_4_method_3_code 6 (some .boolean) := ⟨tw_171, tw_172, tw_173, tw_174⟩
theorem k_PS_mustRemember : ps_cdV ps_tbl y_PS_mustRemember prog_1_method_35_code 4 (some .boolean) := ⟨tw_175, tw_176, tw_108, tw_177⟩
theorem k_PS_valuesOf : ps_cdV ps_tbl y_PS_valuesOf prog_1_method_37_code 2 (some (.object "PageStore$Values")) := ⟨tw_178, tw_179, tw_108, tw_180⟩
theorem k_Mem_write : ps_cdV ps_tbl y_Mem_write prog_4_method_2_code 5 none := ⟨tw_181, tw_182, tw_173, tw_183⟩
/-- Values at the columns k, k + 1: place i becomes v, w -/
def ps_Fv (F : Nat → Nat → Int32) (k i : Nat) (v w : Int32) : Nat → Nat → Int32 := ps_u (ps_u F k i v) (k + 1) i (if v = 0 then 0 else w)
def ps_Nv (N : Nat → Nat) (k i : Nat) : Nat → Nat := ps_g (ps_g N k i) (k + 1) i
def ps_vc (lim : Nat) (N : Nat → Nat) (k i : Nat) : Nat := ps_dc lim (N k) i + ps_dc lim (N (k + 1)) i
def ps_vs (lim : Nat) (N : Nat → Nat) (k i : Nat) : Nat := ps_ds lim (N k) i + ps_ds lim (N (k + 1)) i
/-- memory m: whose, which, and what it was -/
def ps_Fm (F : Nat → Nat → Int32) (m : Nat) (o : Int32) (i : Nat) (v w : Int32) : Nat → Nat → Int32 := ps_u (ps_u (ps_u (ps_u F 12 m o) 13 m (nI i)) 14 m v) 15 m (if v = 0 then 0 else w)
def ps_Nm (N : Nat → Nat) (m : Nat) : Nat → Nat := ps_g (ps_g (ps_g (ps_g N 12 m) 13 m) 14 m) 15 m
def ps_mc (N : Nat → Nat) (m : Nat) : Nat := ps_dc 40000 (N 12) m + ps_dc 40000 (N 13) m + (ps_dc 40000 (N 14) m + ps_dc 40000 (N 15) m)
def ps_ms (N : Nat → Nat) (m : Nat) : Nat := ps_ds 40000 (N 12) m + ps_ds 40000 (N 13) m + (ps_ds 40000 (N 14) m + ps_ds 40000 (N 15) m)
/-- a key comes -/
def ps_Fk (F : Nat → Nat → Int32) (j : Nat) (d kk key v w : Int32) : Nat → Nat → Int32 := ps_Fv (ps_u (ps_u (ps_u F 7 j d) 8 j kk) 9 j key) 10 j v w
def ps_Nk (N : Nat → Nat) (j : Nat) : Nat → Nat := ps_Nv (ps_g (ps_g (ps_g N 7 j) 8 j) 9 j) 10 j
def ps_kc (N : Nat → Nat) (j : Nat) : Nat := ps_dc 16384 (N 7) j + ps_dc 16384 (N 8) j + ps_dc 16384 (N 9) j + (ps_dc 16384 (N 10) j + ps_dc 16384 (N 11) j)
def ps_ks (N : Nat → Nat) (j : Nat) : Nat := ps_ds 16384 (N 7) j + ps_ds 16384 (N 8) j + ps_ds 16384 (N 9) j + (ps_ds 16384 (N 10) j + ps_ds 16384 (N 11) j)
/-- place i of whose w must be remembered: t of them there were at the latest save, whose memories begin at b -/
def ps_must (S t b k5 : Nat) (F : Nat → Nat → Int32) (w i : Nat) : Prop := ¬ S = 0 ∧ i < t ∧ ps_not (fun j => F 13 j = nI i ∧ F 12 j = nI w) b k5
theorem ps_wf_u {F : Nat → Nat → Int32} {N : Nat → Nat} (k : Nat) {i : Nat} {x : Int32} (h : ps_wf F N) (hi : i < ps_lim k) : ps_wf (ps_u F k i x) (ps_g N k i) := fun j hj => by
  unfold ps_u ps_g
  by_cases e : j = k
  · subst e; rw [va_up_self, va_up_self]; exact ⟨ps_Z_upd (h j hj).1, ps_len_le (h j hj).2 hi⟩
  · rw [va_up_ne _ _ e, va_up_ne _ _ e]; exact h j hj
theorem ps_wf_m {F : Nat → Nat → Int32} {N : Nat → Nat} {m i : Nat} {o v w : Int32} (h : ps_wf F N) (hm : m < 40000) : ps_wf (ps_Fm F m o i v w) (ps_Nm N m) := ps_wf_u 15 (ps_wf_u 14 (ps_wf_u 13 (ps_wf_u 12 h hm) hm) hm) hm
theorem ps_wf_k {F : Nat → Nat → Int32} {N : Nat → Nat} {j : Nat} {d kk key : Int32} (h : ps_wf F N) (hj : j < 16384) : ps_wf (ps_u (ps_u (ps_u F 7 j d) 8 j kk) 9 j key) (ps_g (ps_g (ps_g N 7 j) 8 j) 9 j) := ps_wf_u 9 (ps_wf_u 8 (ps_wf_u 7 h hj) hj) hj
theorem ps_ift {M : Nat → Prop} {f1 fv : Nat → Int32} {d : Int32} {E : Nat} {r : Int32} (hE : E < 2 ^ 31) (hM : ∀ j, M j → f1 j = d) (h : ∃ z : Int32, ps_fst M 0 E z ∧ ((∃ j : Nat, z = nI j ∧ j < E ∧ f1 j = d ∧ ¬ fv j = -1 ∧ r = nI j) ∨ ((z = -1 ∨ ∃ j : Nat, z = nI j ∧ j < E ∧ fv j = -1) ∧ r = -1))) :
    (ps_not M 0 E ∧ r = -1) ∨ ∃ j, j < E ∧ M j ∧ ps_not M 0 j ∧ ((fv j = -1 ∧ r = -1) ∨ (¬ fv j = -1 ∧ r = nI j)) := by
  obtain ⟨z, h1, h2⟩ := h
  rcases h1 with ⟨j, -, hj, hm, hn, rfl⟩ | ⟨hn, rfl⟩
  · refine Or.inr ⟨j, hj, hm, hn, ?_⟩
    rcases h2 with ⟨i, e, hi, -, h4, h5⟩ | ⟨h3 | ⟨i, e, hi, h4⟩, h5⟩
    · have := (nI_eq (by omega) (by omega)).mp e
      subst this
      exact Or.inr ⟨h4, h5⟩
    · exact absurd h3 (ps_m1 (by omega))
    · have := (nI_eq (by omega) (by omega)).mp e
      subst this
      exact Or.inl ⟨h4, h5⟩
  · refine Or.inl ⟨hn, ?_⟩
    rcases h2 with ⟨i, e, hi, -⟩ | ⟨-, h5⟩
    · exact absurd e.symm (ps_m1 (by omega))
    · exact h5

set_option maxHeartbeats 4000000 in
set_option maxRecDepth 100000 in
/-- PageStore.addKey -/
theorem c_addKey (l : Launch) (dC : Nat → ClassId) (dI : Nat → Nat → Nat) (cI : ClassId) (tys : List (ClassId × FieldType)) (ht : tys[0]? = some (cI, FieldType.int)) (a q K : Nat → Nat) (S : Nat) (ck cu : Int32) (F : Nat → Nat → Int32) (N : Nat → Nat) (hw : ps_wf F N) (hKb : ∀ j, K j ≤ 65536) (hSb : S ≤ 15) (d kk key v x : Int32) (mc ms : Nat) (hm : ¬ 16384 ≤ K 4 → ps_kc N (K 4) ≤ mc ∧ ps_ks N (K 4) ≤ ms) : ps_mI classes l y_PS_addKey w_PS_addKey ({ frames := 4, cells := mc, slots := ms, locals := 87 }) (dC, dI) tys [.ref (a 0), .int d, .int kk, .int key, .int v, .int x] (pw cI a q K S ck cu F N) (fun r u => ps_c (16384 ≤ K 4) (r = -3 ∧ u = pw cI a q K S ck cu F N) (∃ q1 : Nat → Nat, r = 1 ∧ u = pw cI a q1 (va_up K 4 (K 4 + 1)) S ck cu (ps_Fk F (K 4) d kk key v x) (ps_Nk N (K 4)))) := by
  refine ps_mI_of (by decide) rfl (Nat.le_of_ble_eq_true rfl) ?_
  intro p e s m below meth c A ls C0 hA hK hP hD hS hl
  obtain ⟨hx, hb, hr, hml, hts, hown, hlocks, hin⟩ := C0
  have hl : lv_has ls 7 [(0, .ref (a 0)), (1, .int d), (2, .int kk), (3, .int key), (4, .int v), (5, .int x)] := hl
  have hP : va_P (dC, dI) classes (pw cI a q K S ck cu F N) s.heap := hP
  have hD : va_D A (pw cI a q K S ck cu F N) := hD
  refine lv_aload_n hx hb d_PS_addKey_0 rfl (lv_at hl 0 rfl) ?_
  refine va_get (D := (dC, dI)) (ci := cPS) (v := .ref (a 1)) (C := R_PS) (T := F_PS) (N := 10) hx hb hts i_PS hown hK hP 0 rfl rfl 0 (by decide) (hts _ tw_97) (fun _ h9 => h9) rfl d_PS_addKey_1 ?_
  refine lv_iconst (v := nI 4) hx hb d_PS_addKey_4 (by decide) ?_
  refine va_iald hx hb hK hP 1 0 rfl ht (vp_in_nI (show 4 < 6 by decide) (by decide)) d_PS_addKey_5 ?_
  refine ps_top (z := nI (K 4)) (ps_kat _ 4 (by decide)) ?_
  refine lv_istore (lv' := [(6, .int (nI (K 4))), (0, .ref (a 0)), (1, .int d), (2, .int kk), (3, .int key), (4, .int v), (5, .int x)]) hx hb d_PS_addKey_6 hl (by decide) rfl (fun ls hl => ?_)
  refine lv_iload hx hb d_PS_addKey_8 (lv_at hl 0 rfl) ?_
  refine lv_sipush (v := nI 16384) hx hb d_PS_addKey_10 (by decide) ?_
  refine lv_icmp_lt (tgt := 19) hx hb d_PS_addKey_13 (by decide) (fun c_1 => ?_) (fun c_1 => ?_)
  · have c_1 : K 4 < 16384 := (nI_ltI (by have h0 := hKb 0; have h1 := hKb 1; have h2 := hKb 2; have h3 := hKb 3; have h4 := hKb 4; have h5 := hKb 5; omega) (by have h0 := hKb 0; have h1 := hKb 1; have h2 := hKb 2; have h3 := hKb 3; have h4 := hKb 4; have h5 := hKb 5; omega)).mp c_1
    refine lv_aload_n hx hb d_PS_addKey_19 rfl (lv_at hl 1 rfl) ?_
    refine va_get (D := (dC, dI)) (ci := cPS) (v := .ref (a 4)) (C := R_PS) (T := F_PS) (N := 10) hx hb hts i_PS hown hK hP 0 rfl rfl 6 (by decide) (hts _ tw_104) (fun _ h9 => h9) rfl d_PS_addKey_20 ?_
    refine lv_iload hx hb d_PS_addKey_23 (lv_at hl 0 rfl) ?_
    refine lv_iload_n hx hb d_PS_addKey_25 rfl (lv_at hl 2 rfl) ?_
    refine lv_iload_n hx hb d_PS_addKey_26 rfl (lv_at hl 3 rfl) ?_
    refine lv_iload_n hx hb d_PS_addKey_27 rfl (lv_at hl 4 rfl) ?_
    have hm1 := hm (by omega)
    unfold ps_kc ps_ks at hm1
    refine ps_afterV (wc := [(a 4, .inr (cKey, [.ref (a 15), .ref (a 16), .ref (a 17), .ref (a 5)])), (a 15, .inr (cCol, [.int (nI 16384), .ref (q 7)])), (q 7, .inl (cI, N 7, .inl (F 7))), (a 16, .inr (cCol, [.int (nI 16384), .ref (q 8)])), (q 8, .inl (cI, N 8, .inl (F 8))), (a 17, .inr (cCol, [.int (nI 16384), .ref (q 9)])), (q 9, .inl (cI, N 9, .inl (F 9)))]) (wr := [0, 1, 2, 3, 5, 6, 7, 8, 9, 10, 11, 12, 13, 14, 15, 16, 17, 18, 19, 20, 21, 28, 29, 30, 31, 32, 33, 34, 35, 36, 37, 38, 39].filterMap (fun z9 => ((pw cI a q K S ck cu F N) : va_W)[z9]?)) hP hD hS hA [4, 22, 23, 24, 25, 26, 27] [0, 1, 2, 3, 5, 6, 7, 8, 9, 10, 11, 12, 13, 14, 15, 16, 17, 18, 19, 20, 21, 28, 29, 30, 31, 32, 33, 34, 35, 36, 37, 38, 39] rfl rfl (by decide) (by decide) (ps_runVV ⟨hx, hb, hml, hown, hts⟩ (c_kwrite l dC dI cI tys ht (a 4) (a 15) (q 7) (a 16) (q 8) (a 17) (q 9) 16384 (N 7) (N 8) (N 9) (F 7) (F 8) (F 9) (a 5) (K 4) d kk key (hw.z 7 (by decide)) (hw.z 8 (by decide)) (hw.z 9 (by decide)) (by decide) (hw 7 (by decide)).2 (hw 8 (by decide)).2 (hw 9 (by decide)).2 (by omega)) (ps_cwV ps_gd 4 hts tw_158 k_Key_write e_Key_write ⟨Nat.le_of_ble_eq_true rfl, Nat.le_of_ble_eq_true rfl⟩) hK hP hD [4, 22, 23, 24, 25, 26, 27] (by decide) rfl 0 cKey rfl rfl rfl hl.1 rfl (Nat.le_of_ble_eq_true rfl) d_PS_addKey_28 ⟨by show 0 + (ps_dc 16384 (N 7) (K 4) + ps_dc 16384 (N 8) (K 4) + ps_dc 16384 (N 9) (K 4)) ≤ mc; omega, by show 0 + (ps_ds 16384 (N 7) (K 4) + ps_ds 16384 (N 8) (K 4) + ps_ds 16384 (N 9) (K 4)) ≤ ms; omega⟩) (fun u_2 H locs hu_2 hP hD hS => ?_)
    obtain ⟨q_4, q_5, q_6, hu_2⟩ := hu_2
    subst hu_2
    obtain ⟨hP, hD⟩ := ps_perm (ws' := (pw cI a (va_up (va_up (va_up q 7 q_4) 8 q_5) 9 q_6) K S ck cu (va_up (va_up (va_up F 7 (upd (F 7) (K 4) d)) 8 (upd (F 8) (K 4) kk)) 9 (upd (F 9) (K 4) key)) (va_up (va_up (va_up N 7 (ps_len 16384 (N 7) (K 4))) 8 (ps_len 16384 (N 8) (K 4))) 9 (ps_len 16384 (N 9) (K 4))))) hP hD [0, 1, 2, 3, 33, 4, 5, 6, 7, 8, 9, 10, 11, 12, 13, 14, 15, 16, 17, 18, 19, 20, 34, 35, 36, 37, 38, 39, 21, 22, 23, 24, 25, 26, 27, 28, 29, 30, 31, 32] (by decide) rfl
    refine lv_aload_n hx hb d_PS_addKey_31 rfl (lv_at hl 1 rfl) ?_
    refine va_get (D := (dC, dI)) (ci := cPS) (v := .ref (a 4)) (C := R_PS) (T := F_PS) (N := 10) hx hb hts i_PS hown hK hP 0 rfl rfl 6 (by decide) (hts _ tw_104) (fun _ h9 => h9) rfl d_PS_addKey_32 ?_
    refine va_get (D := (dC, dI)) (ci := cKey) (v := .ref (a 5)) (C := R_Key) (T := F_Key) (N := 4) hx hb hts i_Key hown hK hP 4 rfl rfl 3 (by decide) (hts _ tw_105) (fun _ h9 => h9) rfl d_PS_addKey_35 ?_
    refine lv_iload hx hb d_PS_addKey_38 (lv_at hl 0 rfl) ?_
    refine lv_iload hx hb d_PS_addKey_40 (lv_at hl 5 rfl) ?_
    refine lv_iload hx hb d_PS_addKey_42 (lv_at hl 6 rfl) ?_
    refine ps_afterV (wc := [(a 5, .inr (cVal, [.ref (a 18), .ref (a 19)])), (a 18, .inr (cCol, [.int (nI 16384), .ref (q 10)])), (q 10, .inl (cI, N 10, .inl (F 10))), (a 19, .inr (cCol, [.int (nI 16384), .ref (q 11)])), (q 11, .inl (cI, N 11, .inl (F 11)))]) (wr := [0, 1, 2, 3, 4, 6, 7, 8, 9, 10, 11, 12, 13, 14, 15, 16, 17, 18, 19, 20, 21, 22, 23, 24, 25, 26, 27, 32, 33, 34, 35, 36, 37, 38, 39].filterMap (fun z9 => ((pw cI a (va_up (va_up (va_up q 7 q_4) 8 q_5) 9 q_6) K S ck cu (va_up (va_up (va_up F 7 (upd (F 7) (K 4) d)) 8 (upd (F 8) (K 4) kk)) 9 (upd (F 9) (K 4) key)) (va_up (va_up (va_up N 7 (ps_len 16384 (N 7) (K 4))) 8 (ps_len 16384 (N 8) (K 4))) 9 (ps_len 16384 (N 9) (K 4)))) : va_W)[z9]?)) hP hD hS hA [5, 28, 29, 30, 31] [0, 1, 2, 3, 4, 6, 7, 8, 9, 10, 11, 12, 13, 14, 15, 16, 17, 18, 19, 20, 21, 22, 23, 24, 25, 26, 27, 32, 33, 34, 35, 36, 37, 38, 39] rfl rfl (by decide) (by decide) (ps_runVV ⟨hx, hb, hml, hown, hts⟩ (c_vwrite l dC dI cI tys ht (a 5) (a 18) (q 10) (a 19) (q 11) 16384 (N 10) (N 11) (F 10) (F 11) (K 4) v x (hw.z 10 (by decide)) (hw.z 11 (by decide)) (by decide) (hw 10 (by decide)).2 (hw 11 (by decide)).2 (by omega)) (ps_cwV ps_gd 3 hts tw_159 k_Val_write e_Val_write ⟨Nat.le_of_ble_eq_true rfl, Nat.le_of_ble_eq_true rfl⟩) hK hP hD [5, 28, 29, 30, 31] (by decide) rfl 0 cVal rfl rfl rfl hl.1 rfl (Nat.le_of_ble_eq_true rfl) d_PS_addKey_44 ⟨by show 0 + (ps_dc 16384 (N 7) (K 4) + ps_dc 16384 (N 8) (K 4) + ps_dc 16384 (N 9) (K 4)) + (ps_dc 16384 (N 10) (K 4) + ps_dc 16384 (N 11) (K 4)) ≤ mc; omega, by show 0 + (ps_ds 16384 (N 7) (K 4) + ps_ds 16384 (N 8) (K 4) + ps_ds 16384 (N 9) (K 4)) + (ps_ds 16384 (N 10) (K 4) + ps_ds 16384 (N 11) (K 4)) ≤ ms; omega⟩) (fun u_7 H locs hu_7 hP hD hS => ?_)
    obtain ⟨q_9, q_10, hu_7⟩ := hu_7
    subst hu_7
    obtain ⟨hP, hD⟩ := ps_perm (ws' := (pw cI a (va_up (va_up (va_up (va_up (va_up q 7 q_4) 8 q_5) 9 q_6) 10 q_9) 11 q_10) K S ck cu (va_up (va_up (va_up (va_up (va_up F 7 (upd (F 7) (K 4) d)) 8 (upd (F 8) (K 4) kk)) 9 (upd (F 9) (K 4) key)) 10 (upd (F 10) (K 4) v)) 11 (upd (F 11) (K 4) (if v = 0 then 0 else x))) (va_up (va_up (va_up (va_up (va_up N 7 (ps_len 16384 (N 7) (K 4))) 8 (ps_len 16384 (N 8) (K 4))) 9 (ps_len 16384 (N 9) (K 4))) 10 (ps_len 16384 (N 10) (K 4))) 11 (ps_len 16384 (N 11) (K 4))))) hP hD [0, 1, 2, 3, 4, 35, 5, 6, 7, 8, 9, 10, 11, 12, 13, 14, 15, 16, 17, 18, 19, 20, 21, 22, 23, 24, 25, 26, 36, 37, 38, 39, 27, 28, 29, 30, 31, 32, 33, 34] (by decide) rfl
    refine lv_aload_n hx hb d_PS_addKey_47 rfl (lv_at hl 1 rfl) ?_
    refine va_get (D := (dC, dI)) (ci := cPS) (v := .ref (a 1)) (C := R_PS) (T := F_PS) (N := 10) hx hb hts i_PS hown hK hP 0 rfl rfl 0 (by decide) (hts _ tw_97) (fun _ h9 => h9) rfl d_PS_addKey_48 ?_
    refine lv_iconst (v := nI 4) hx hb d_PS_addKey_51 (by decide) ?_
    refine lv_iload hx hb d_PS_addKey_52 (lv_at hl 0 rfl) ?_
    refine lv_iconst (v := nI 1) hx hb d_PS_addKey_54 (by decide) ?_
    refine lv_iadd hx hb d_PS_addKey_55 ?_
    refine ps_top (z := nI (K 4 + 1)) (nI_add _ _) ?_
    refine va_iast hx hb hK hP hD hS 1 0 rfl ht (vp_in_nI (show 4 < 6 by decide) (by decide)) d_PS_addKey_56 (fun H locs hP hD hS => ?_)
    rw [nI_clamp (show 4 < 2 ^ 31 by decide)] at hP hD
    rw [ps_kup] at hP hD
    have hP : va_P (dC, dI) classes (pw cI a (va_up (va_up (va_up (va_up (va_up q 7 q_4) 8 q_5) 9 q_6) 10 q_9) 11 q_10) (va_up K 4 (K 4 + 1)) S ck cu (va_up (va_up (va_up (va_up (va_up F 7 (upd (F 7) (K 4) d)) 8 (upd (F 8) (K 4) kk)) 9 (upd (F 9) (K 4) key)) 10 (upd (F 10) (K 4) v)) 11 (upd (F 11) (K 4) (if v = 0 then 0 else x))) (va_up (va_up (va_up (va_up (va_up N 7 (ps_len 16384 (N 7) (K 4))) 8 (ps_len 16384 (N 8) (K 4))) 9 (ps_len 16384 (N 9) (K 4))) 10 (ps_len 16384 (N 10) (K 4))) 11 (ps_len 16384 (N 11) (K 4)))) H := hP
    have hD : va_D A (pw cI a (va_up (va_up (va_up (va_up (va_up q 7 q_4) 8 q_5) 9 q_6) 10 q_9) 11 q_10) (va_up K 4 (K 4 + 1)) S ck cu (va_up (va_up (va_up (va_up (va_up F 7 (upd (F 7) (K 4) d)) 8 (upd (F 8) (K 4) kk)) 9 (upd (F 9) (K 4) key)) 10 (upd (F 10) (K 4) v)) 11 (upd (F 11) (K 4) (if v = 0 then 0 else x))) (va_up (va_up (va_up (va_up (va_up N 7 (ps_len 16384 (N 7) (K 4))) 8 (ps_len 16384 (N 8) (K 4))) 9 (ps_len 16384 (N 9) (K 4))) 10 (ps_len 16384 (N 10) (K 4))) 11 (ps_len 16384 (N 11) (K 4)))) := hD
    refine lv_iconst (v := 1) hx hb d_PS_addKey_57 (by decide) ?_
    exact ps_iret hx hb hr hlocks hK hP hD hS (by show 0 + (ps_dc 16384 (N 7) (K 4) + ps_dc 16384 (N 8) (K 4) + ps_dc 16384 (N 9) (K 4)) + (ps_dc 16384 (N 10) (K 4) + ps_dc 16384 (N 11) (K 4)) ≤ mc; omega) (by show 0 + (ps_ds 16384 (N 7) (K 4) + ps_ds 16384 (N 8) (K 4) + ps_ds 16384 (N 9) (K 4)) + (ps_ds 16384 (N 10) (K 4) + ps_ds 16384 (N 11) (K 4)) ≤ ms; omega) d_PS_addKey_58 (ps_cn (by omega) ⟨(va_up (va_up (va_up (va_up (va_up q 7 q_4) 8 q_5) 9 q_6) 10 q_9) 11 q_10), rfl, rfl⟩)
  · have c_1 : ¬ K 4 < 16384 := fun q => c_1 ((nI_ltI (by have h0 := hKb 0; have h1 := hKb 1; have h2 := hKb 2; have h3 := hKb 3; have h4 := hKb 4; have h5 := hKb 5; omega) (by have h0 := hKb 0; have h1 := hKb 1; have h2 := hKb 2; have h3 := hKb 3; have h4 := hKb 4; have h5 := hKb 5; omega)).mpr q)
    refine lv_bipush (v := (-3)) hx hb d_PS_addKey_16 (by decide) ?_
    exact ps_iret hx hb hr hlocks hK hP hD hS (Nat.zero_le _) (Nat.zero_le _) d_PS_addKey_18 (ps_cy (by omega) ⟨rfl, rfl⟩)

set_option maxHeartbeats 4000000 in
set_option maxRecDepth 100000 in
/-- PageStore.moveCursor -/
theorem c_mvcN (l : Launch) (dC : Nat → ClassId) (dI : Nat → Nat → Nat) (cI : ClassId) (tys : List (ClassId × FieldType)) (ht : tys[0]? = some (cI, FieldType.int)) (a q K : Nat → Nat) (S : Nat) (ck cu : Int32) (F : Nat → Nat → Int32) (N : Nat → Nat) (hw : ps_wf F N) (hKb : ∀ j, K j ≤ 65536) (hSb : S ≤ 15) : ps_mI classes l y_PS_moveCursor w_PS_moveCursor ({ frames := 0, cells := 0, slots := 0, locals := 0 }) (dC, dI) tys [.ref (a 0), .int (-1)] (pw cI a q K S ck cu F N) (fun r u => r = 0 ∧ u = pw cI a q K S 0 0 F N) := by
  refine ps_mI_of (by decide) rfl (Nat.le_of_ble_eq_true rfl) ?_
  intro p e s m below meth c A ls C0 hA hK hP hD hS hl
  obtain ⟨hx, hb, hr, hml, hts, hown, hlocks, hin⟩ := C0
  have hl : lv_has ls 2 [(0, .ref (a 0)), (1, .int (-1))] := hl
  have hP : va_P (dC, dI) classes (pw cI a q K S ck cu F N) s.heap := hP
  have hD : va_D A (pw cI a q K S ck cu F N) := hD
  refine lv_iload_n hx hb d_PS_moveCursor_0 rfl (lv_at hl 1 rfl) ?_
  refine lv_iconst (v := (-1)) hx hb d_PS_moveCursor_1 (by decide) ?_
  refine lv_icmp_ne (tgt := 17) hx hb d_PS_moveCursor_2 (by decide) (fun c_1 => ?_) (fun c_1 => ?_)
  · exact absurd rfl c_1
  · refine lv_aload_n hx hb d_PS_moveCursor_5 rfl (lv_at hl 0 rfl) ?_
    refine lv_iconst (v := 0) hx hb d_PS_moveCursor_6 (by decide) ?_
    refine va_put (D := (dC, dI)) (ci := cPS) (v := .int 0) (ty := .int) (C := R_PS) (T := F_PS) (N := 10) hx hb hts i_PS t_PS t_PS_ok n_PS hown hK hP hD hS 0 rfl rfl 8 (by decide) (hts _ tw_145) (fun _ h9 => h9) rfl (by decide +kernel) rfl rfl (Nat.le_of_ble_eq_true rfl) d_PS_moveCursor_7 (fun H locs hP hD hS => ?_)
    have hP : va_P (dC, dI) classes (pw cI a q K S 0 cu F N) H := hP
    have hD : va_D A (pw cI a q K S 0 cu F N) := hD
    refine lv_aload_n hx hb d_PS_moveCursor_10 rfl (lv_at hl 0 rfl) ?_
    refine lv_iconst (v := 0) hx hb d_PS_moveCursor_11 (by decide) ?_
    refine va_put (D := (dC, dI)) (ci := cPS) (v := .int 0) (ty := .int) (C := R_PS) (T := F_PS) (N := 10) hx hb hts i_PS t_PS t_PS_ok n_PS hown hK hP hD hS 0 rfl rfl 9 (by decide) (hts _ tw_146) (fun _ h9 => h9) rfl (by decide +kernel) rfl rfl (Nat.le_of_ble_eq_true rfl) d_PS_moveCursor_12 (fun H locs hP hD hS => ?_)
    have hP : va_P (dC, dI) classes (pw cI a q K S 0 0 F N) H := hP
    have hD : va_D A (pw cI a q K S 0 0 F N) := hD
    refine lv_iconst (v := 0) hx hb d_PS_moveCursor_15 (by decide) ?_
    exact ps_iret hx hb hr hlocks hK hP hD hS (Nat.le_of_ble_eq_true rfl) (Nat.le_of_ble_eq_true rfl) d_PS_moveCursor_16 (⟨rfl, rfl⟩)

set_option maxHeartbeats 4000000 in
set_option maxRecDepth 100000 in
/-- PageStore.moveCursor -/
theorem c_mvcS (l : Launch) (dC : Nat → ClassId) (dI : Nat → Nat → Nat) (cI : ClassId) (tys : List (ClassId × FieldType)) (ht : tys[0]? = some (cI, FieldType.int)) (a q K : Nat → Nat) (S : Nat) (ck cu : Int32) (F : Nat → Nat → Int32) (N : Nat → Nat) (hw : ps_wf F N) (hKb : ∀ j, K j ≤ 65536) (hSb : S ≤ 15) (i : Nat) (hi : i < 2 ^ 31) : ps_mI classes l y_PS_moveCursor w_PS_moveCursor ({ frames := 1, cells := 0, slots := 0, locals := 21 }) (dC, dI) tys [.ref (a 0), .int (nI i)] (pw cI a q K S ck cu F N) (fun r u => r = 1 ∧ u = pw cI a q K S (F 8 i) (F 9 i) F N) := by
  refine ps_mI_of (by decide) rfl (Nat.le_of_ble_eq_true rfl) ?_
  intro p e s m below meth c A ls C0 hA hK hP hD hS hl
  obtain ⟨hx, hb, hr, hml, hts, hown, hlocks, hin⟩ := C0
  have hl : lv_has ls 2 [(0, .ref (a 0)), (1, .int (nI i))] := hl
  have hP : va_P (dC, dI) classes (pw cI a q K S ck cu F N) s.heap := hP
  have hD : va_D A (pw cI a q K S ck cu F N) := hD
  refine lv_iload_n hx hb d_PS_moveCursor_0 rfl (lv_at hl 1 rfl) ?_
  refine lv_iconst (v := (-1)) hx hb d_PS_moveCursor_1 (by decide) ?_
  refine lv_icmp_ne (tgt := 17) hx hb d_PS_moveCursor_2 (by decide) (fun c_1 => ?_) (fun c_1 => ?_)
  · refine lv_aload_n hx hb d_PS_moveCursor_17 rfl (lv_at hl 0 rfl) ?_
    refine lv_aload_n hx hb d_PS_moveCursor_18 rfl (lv_at hl 0 rfl) ?_
    refine va_get (D := (dC, dI)) (ci := cPS) (v := .ref (a 4)) (C := R_PS) (T := F_PS) (N := 10) hx hb hts i_PS hown hK hP 0 rfl rfl 6 (by decide) (hts _ tw_104) (fun _ h9 => h9) rfl d_PS_moveCursor_19 ?_
    refine va_get (D := (dC, dI)) (ci := cKey) (v := .ref (a 16)) (C := R_Key) (T := F_Key) (N := 4) hx hb hts i_Key hown hK hP 4 rfl rfl 1 (by decide) (hts _ tw_160) (fun _ h9 => h9) rfl d_PS_moveCursor_22 ?_
    refine lv_iload_n hx hb d_PS_moveCursor_25 rfl (lv_at hl 1 rfl) ?_
    refine ps_readI (wc := [(a 16, .inr (cCol, [.int (nI 16384), .ref (q 8)])), (q 8, .inl (cI, N 8, .inl (F 8)))]) hP hD hS hA [24, 25] rfl (fun _ _ h => h.1) (ps_runVI ⟨hx, hb, hml, hown, hts⟩ (c_at l dC dI cI tys ht (a 16) (q 8) 16384 (N 8) (F 8) i (hw.z 8 (by decide)) (hw.n 8 (by decide)) hi) (ps_cwV ps_gd 1 hts tw_102 k_Col_at e_Col_at ⟨Nat.le_of_ble_eq_true rfl, Nat.le_of_ble_eq_true rfl⟩) hK hP hD [24, 25] (by decide) rfl 0 cCol rfl rfl rfl hl.1 rfl (Nat.le_of_ble_eq_true rfl) d_PS_moveCursor_26 ⟨Nat.zero_le _, Nat.zero_le _⟩) (fun r_2 H locs hr_2 hP hS => ?_)
    obtain ⟨-, hr_2⟩ := hr_2
    subst hr_2
    refine va_put (D := (dC, dI)) (ci := cPS) (v := .int ((F 8) i)) (ty := .int) (C := R_PS) (T := F_PS) (N := 10) hx hb hts i_PS t_PS t_PS_ok n_PS hown hK hP hD hS 0 rfl rfl 8 (by decide) (hts _ tw_145) (fun _ h9 => h9) rfl (by decide +kernel) rfl rfl (Nat.le_of_ble_eq_true rfl) d_PS_moveCursor_29 (fun H locs hP hD hS => ?_)
    have hP : va_P (dC, dI) classes (pw cI a q K S ((F 8) i) cu F N) H := hP
    have hD : va_D A (pw cI a q K S ((F 8) i) cu F N) := hD
    refine lv_aload_n hx hb d_PS_moveCursor_32 rfl (lv_at hl 0 rfl) ?_
    refine lv_aload_n hx hb d_PS_moveCursor_33 rfl (lv_at hl 0 rfl) ?_
    refine va_get (D := (dC, dI)) (ci := cPS) (v := .ref (a 4)) (C := R_PS) (T := F_PS) (N := 10) hx hb hts i_PS hown hK hP 0 rfl rfl 6 (by decide) (hts _ tw_104) (fun _ h9 => h9) rfl d_PS_moveCursor_34 ?_
    refine va_get (D := (dC, dI)) (ci := cKey) (v := .ref (a 17)) (C := R_Key) (T := F_Key) (N := 4) hx hb hts i_Key hown hK hP 4 rfl rfl 2 (by decide) (hts _ tw_161) (fun _ h9 => h9) rfl d_PS_moveCursor_37 ?_
    refine lv_iload_n hx hb d_PS_moveCursor_40 rfl (lv_at hl 1 rfl) ?_
    refine ps_readI (wc := [(a 17, .inr (cCol, [.int (nI 16384), .ref (q 9)])), (q 9, .inl (cI, N 9, .inl (F 9)))]) hP hD hS hA [26, 27] rfl (fun _ _ h => h.1) (ps_runVI ⟨hx, hb, hml, hown, hts⟩ (c_at l dC dI cI tys ht (a 17) (q 9) 16384 (N 9) (F 9) i (hw.z 9 (by decide)) (hw.n 9 (by decide)) hi) (ps_cwV ps_gd 1 hts tw_102 k_Col_at e_Col_at ⟨Nat.le_of_ble_eq_true rfl, Nat.le_of_ble_eq_true rfl⟩) hK hP hD [26, 27] (by decide) rfl 0 cCol rfl rfl rfl hl.1 rfl (Nat.le_of_ble_eq_true rfl) d_PS_moveCursor_41 ⟨Nat.zero_le _, Nat.zero_le _⟩) (fun r_3 H locs hr_3 hP hS => ?_)
    obtain ⟨-, hr_3⟩ := hr_3
    subst hr_3
    refine va_put (D := (dC, dI)) (ci := cPS) (v := .int ((F 9) i)) (ty := .int) (C := R_PS) (T := F_PS) (N := 10) hx hb hts i_PS t_PS t_PS_ok n_PS hown hK hP hD hS 0 rfl rfl 9 (by decide) (hts _ tw_146) (fun _ h9 => h9) rfl (by decide +kernel) rfl rfl (Nat.le_of_ble_eq_true rfl) d_PS_moveCursor_44 (fun H locs hP hD hS => ?_)
    have hP : va_P (dC, dI) classes (pw cI a q K S ((F 8) i) ((F 9) i) F N) H := hP
    have hD : va_D A (pw cI a q K S ((F 8) i) ((F 9) i) F N) := hD
    refine lv_iconst (v := 1) hx hb d_PS_moveCursor_47 (by decide) ?_
    exact ps_iret hx hb hr hlocks hK hP hD hS (Nat.le_of_ble_eq_true rfl) (Nat.le_of_ble_eq_true rfl) d_PS_moveCursor_48 (⟨rfl, rfl⟩)
  · exact absurd c_1 (ps_m1 hi)

set_option maxHeartbeats 4000000 in
set_option maxRecDepth 100000 in
/-- PageStore.mustRemember -/
theorem c_must (l : Launch) (dC : Nat → ClassId) (dI : Nat → Nat → Nat) (cI : ClassId) (tys : List (ClassId × FieldType)) (ht : tys[0]? = some (cI, FieldType.int)) (a q K : Nat → Nat) (S : Nat) (ck cu : Int32) (F : Nat → Nat → Int32) (N : Nat → Nat) (hw : ps_wf F N) (hKb : ∀ j, K j ≤ 65536) (hSb : S ≤ 15) (w i : Nat) (t b : Nat) (ht0 : t ≤ 65536) (hb0 : b ≤ 65536) (hw6 : w < 6) (hi : i < 2 ^ 31) (htw : ¬ S = 0 → F 0 ((S - 1) * 6 + w) = nI t) (htb : ¬ S = 0 → F 0 ((S - 1) * 6 + 5) = nI b) : ps_mI classes l y_PS_mustRemember w_PS_mustRemember ({ frames := 2, cells := 0, slots := 0, locals := 46 }) (dC, dI) tys [.ref (a 0), .int (nI w), .int (nI i)] (pw cI a q K S ck cu F N) (fun r u => u = pw cI a q K S ck cu F N ∧ ps_c (ps_must S t b (K 5) F w i) (r = 1) (r = 0)) := by
  refine ps_mI_of (by decide) rfl (Nat.le_of_ble_eq_true rfl) ?_
  intro p e s m below meth c A ls C0 hA hK hP hD hS hl
  obtain ⟨hx, hb, hr, hml, hts, hown, hlocks, hin⟩ := C0
  have hl : lv_has ls 4 [(0, .ref (a 0)), (1, .int (nI w)), (2, .int (nI i))] := hl
  have hP : va_P (dC, dI) classes (pw cI a q K S ck cu F N) s.heap := hP
  have hD : va_D A (pw cI a q K S ck cu F N) := hD
  refine lv_aload_n hx hb d_PS_mustRemember_0 rfl (lv_at hl 0 rfl) ?_
  refine va_get (D := (dC, dI)) (ci := cPS) (v := .int (nI S)) (C := R_PS) (T := F_PS) (N := 10) hx hb hts i_PS hown hK hP 0 rfl rfl 2 (by decide) (hts _ tw_98) (fun _ h9 => h9) rfl d_PS_mustRemember_1 ?_
  refine lv_if_eq (tgt := 20) hx hb d_PS_mustRemember_4 (by decide) (fun c_1 => ?_) (fun c_1 => ?_)
  · have c_1 : S = 0 := (nI_eq (by have h0 := hKb 0; have h1 := hKb 1; have h2 := hKb 2; have h3 := hKb 3; have h4 := hKb 4; have h5 := hKb 5; omega) (by decide)).mp (c_1.trans nI_0.symm)
    refine lv_iconst (v := 0) hx hb d_PS_mustRemember_20 (by decide) ?_
    exact ps_zret hx hb hr hlocks hK hP hD hS rfl (Nat.le_of_ble_eq_true rfl) (Nat.le_of_ble_eq_true rfl) d_PS_mustRemember_21 (⟨rfl, ps_cn (fun q => q.1 c_1) rfl⟩)
  · have c_1 : ¬ S = 0 := fun q => c_1 (by rw [q]; exact nI_0)
    refine lv_iload_n hx hb d_PS_mustRemember_7 rfl (lv_at hl 2 rfl) ?_
    refine lv_aload_n hx hb d_PS_mustRemember_8 rfl (lv_at hl 0 rfl) ?_
    refine lv_aload_n hx hb d_PS_mustRemember_9 rfl (lv_at hl 0 rfl) ?_
    refine va_get (D := (dC, dI)) (ci := cPS) (v := .int (nI S)) (C := R_PS) (T := F_PS) (N := 10) hx hb hts i_PS hown hK hP 0 rfl rfl 2 (by decide) (hts _ tw_98) (fun _ h9 => h9) rfl d_PS_mustRemember_10 ?_
    refine lv_iload_n hx hb d_PS_mustRemember_13 rfl (lv_at hl 1 rfl) ?_
    refine ps_readI (wc := (pw cI a q K S ck cu F N)) hP hD hS hA [0, 1, 2, 3, 4, 5, 6, 7, 8, 9, 10, 11, 12, 13, 14, 15, 16, 17, 18, 19, 20, 21, 22, 23, 24, 25, 26, 27, 28, 29, 30, 31, 32, 33, 34, 35, 36, 37, 38, 39] rfl (fun _ _ h => h.1) (ps_runVI ⟨hx, hb, hml, hown, hts⟩ (c_cas l dC dI cI tys ht a q K S ck cu F N hw hKb hSb S w (by omega) hSb (by omega)) (ps_cwV ps_gd 2 hts tw_148 k_PS_countAtSave e_PS_countAtSave ⟨Nat.le_of_ble_eq_true rfl, Nat.le_of_ble_eq_true rfl⟩) hK hP hD [0, 1, 2, 3, 4, 5, 6, 7, 8, 9, 10, 11, 12, 13, 14, 15, 16, 17, 18, 19, 20, 21, 22, 23, 24, 25, 26, 27, 28, 29, 30, 31, 32, 33, 34, 35, 36, 37, 38, 39] (by decide) rfl 0 cPS rfl rfl rfl hl.1 rfl (Nat.le_of_ble_eq_true rfl) d_PS_mustRemember_14 ⟨Nat.zero_le _, Nat.zero_le _⟩) (fun r_2 H locs hr_2 hP hS => ?_)
    obtain ⟨-, hr_2⟩ := hr_2
    subst hr_2
    refine ps_top (z := nI t) (htw c_1) ?_
    refine lv_icmp_lt (tgt := 22) hx hb d_PS_mustRemember_17 (by decide) (fun c_3 => ?_) (fun c_3 => ?_)
    · have c_3 : i < t := (nI_ltI (by have h0 := hKb 0; have h1 := hKb 1; have h2 := hKb 2; have h3 := hKb 3; have h4 := hKb 4; have h5 := hKb 5; omega) (by have h0 := hKb 0; have h1 := hKb 1; have h2 := hKb 2; have h3 := hKb 3; have h4 := hKb 4; have h5 := hKb 5; omega)).mp c_3
      refine lv_aload_n hx hb d_PS_mustRemember_22 rfl (lv_at hl 0 rfl) ?_
      refine lv_aload_n hx hb d_PS_mustRemember_23 rfl (lv_at hl 0 rfl) ?_
      refine va_get (D := (dC, dI)) (ci := cPS) (v := .int (nI S)) (C := R_PS) (T := F_PS) (N := 10) hx hb hts i_PS hown hK hP 0 rfl rfl 2 (by decide) (hts _ tw_98) (fun _ h9 => h9) rfl d_PS_mustRemember_24 ?_
      refine lv_iconst (v := nI 5) hx hb d_PS_mustRemember_27 (by decide) ?_
      refine ps_readI (wc := (pw cI a q K S ck cu F N)) hP hD hS hA [0, 1, 2, 3, 4, 5, 6, 7, 8, 9, 10, 11, 12, 13, 14, 15, 16, 17, 18, 19, 20, 21, 22, 23, 24, 25, 26, 27, 28, 29, 30, 31, 32, 33, 34, 35, 36, 37, 38, 39] rfl (fun _ _ h => h.1) (ps_runVI ⟨hx, hb, hml, hown, hts⟩ (c_cas l dC dI cI tys ht a q K S ck cu F N hw hKb hSb S 5 (by omega) hSb (by omega)) (ps_cwV ps_gd 2 hts tw_148 k_PS_countAtSave e_PS_countAtSave ⟨Nat.le_of_ble_eq_true rfl, Nat.le_of_ble_eq_true rfl⟩) hK hP hD [0, 1, 2, 3, 4, 5, 6, 7, 8, 9, 10, 11, 12, 13, 14, 15, 16, 17, 18, 19, 20, 21, 22, 23, 24, 25, 26, 27, 28, 29, 30, 31, 32, 33, 34, 35, 36, 37, 38, 39] (by decide) rfl 0 cPS rfl rfl rfl hl.1 rfl (Nat.le_of_ble_eq_true rfl) d_PS_mustRemember_28 ⟨Nat.zero_le _, Nat.zero_le _⟩) (fun r_4 H locs hr_4 hP hS => ?_)
      obtain ⟨-, hr_4⟩ := hr_4
      subst hr_4
      refine ps_top (z := nI b) (htb c_1) ?_
      refine lv_istore_n (lv' := [(3, .int (nI b)), (0, .ref (a 0)), (1, .int (nI w)), (2, .int (nI i))]) hx hb d_PS_mustRemember_31 rfl hl (by decide) rfl (fun ls hl => ?_)
      refine lv_aload_n hx hb d_PS_mustRemember_32 rfl (lv_at hl 1 rfl) ?_
      refine va_get (D := (dC, dI)) (ci := cPS) (v := .ref (a 6)) (C := R_PS) (T := F_PS) (N := 10) hx hb hts i_PS hown hK hP 0 rfl rfl 7 (by decide) (hts _ tw_162) (fun _ h9 => h9) rfl d_PS_mustRemember_33 ?_
      refine lv_iload_n hx hb d_PS_mustRemember_36 rfl (lv_at hl 2 rfl) ?_
      refine lv_iload_n hx hb d_PS_mustRemember_37 rfl (lv_at hl 3 rfl) ?_
      refine lv_iload_n hx hb d_PS_mustRemember_38 rfl (lv_at hl 0 rfl) ?_
      refine lv_aload_n hx hb d_PS_mustRemember_39 rfl (lv_at hl 1 rfl) ?_
      refine va_get (D := (dC, dI)) (ci := cPS) (v := .ref (a 1)) (C := R_PS) (T := F_PS) (N := 10) hx hb hts i_PS hown hK hP 0 rfl rfl 0 (by decide) (hts _ tw_97) (fun _ h9 => h9) rfl d_PS_mustRemember_40 ?_
      refine lv_iconst (v := nI 5) hx hb d_PS_mustRemember_43 (by decide) ?_
      refine va_iald hx hb hK hP 1 0 rfl ht (vp_in_nI (show 5 < 6 by decide) (by decide)) d_PS_mustRemember_44 ?_
      refine ps_top (z := nI (K 5)) (ps_kat _ 5 (by decide)) ?_
      refine ps_readI (wc := [(a 6, .inr (cMem, [.ref (a 20), .ref (a 21), .ref (a 7)])), (a 20, .inr (cCol, [.int (nI 40000), .ref (q 12)])), (q 12, .inl (cI, N 12, .inl (F 12))), (a 21, .inr (cCol, [.int (nI 40000), .ref (q 13)])), (q 13, .inl (cI, N 13, .inl (F 13)))]) hP hD hS hA [6, 32, 33, 34, 35] rfl (fun _ _ h => h.1) (ps_runVI ⟨hx, hb, hml, hown, hts⟩ (c_mhold l dC dI cI tys ht (a 6) (a 7) (a 20) (q 12) (a 21) (q 13) 40000 (N 12) (N 13) (F 12) (F 13) (nI w) (nI i) b (K 5) (hw.z 12 (by decide)) (hw.z 13 (by decide)) (hw.n 12 (by decide)) (hw.n 13 (by decide)) (by have b5 := hKb 5; omega) (by omega)) (ps_cwV ps_gd 4 hts tw_163 k_Mem_hold e_Mem_hold ⟨Nat.le_of_ble_eq_true rfl, Nat.le_of_ble_eq_true rfl⟩) hK hP hD [6, 32, 33, 34, 35] (by decide) rfl 0 cMem rfl rfl rfl hl.1 rfl (Nat.le_of_ble_eq_true rfl) d_PS_mustRemember_45 ⟨Nat.zero_le _, Nat.zero_le _⟩) (fun r_5 H locs hr_5 hP hS => ?_)
      obtain ⟨-, hr_5⟩ := hr_5
      rcases hr_5 with ⟨rfl, hno⟩ | ⟨rfl, j, hj1, hj2, hj3⟩
      · refine lv_if_ne (tgt := 55) hx hb d_PS_mustRemember_48 (by decide) (fun c_6 => ?_) (fun c_6 => ?_)
        · exact absurd rfl c_6
        · refine lv_iconst (v := 1) hx hb d_PS_mustRemember_51 (by decide) ?_
          refine lv_goto (tgt := 56) hx hb d_PS_mustRemember_52 (by decide) ?_
          exact ps_zret hx hb hr hlocks hK hP hD hS rfl (Nat.le_of_ble_eq_true rfl) (Nat.le_of_ble_eq_true rfl) d_PS_mustRemember_56 (⟨rfl, ps_cy ⟨c_1, c_3, hno⟩ rfl⟩)
      · refine lv_if_ne (tgt := 55) hx hb d_PS_mustRemember_48 (by decide) (fun c_7 => ?_) (fun c_7 => ?_)
        · refine lv_iconst (v := 0) hx hb d_PS_mustRemember_55 (by decide) ?_
          exact ps_zret hx hb hr hlocks hK hP hD hS rfl (Nat.le_of_ble_eq_true rfl) (Nat.le_of_ble_eq_true rfl) d_PS_mustRemember_56 (⟨rfl, ps_cn (fun q => q.2.2 j hj1 hj2 hj3) rfl⟩)
        · exact absurd c_7 (by decide)
    · have c_3 : ¬ i < t := fun q => c_3 ((nI_ltI (by have h0 := hKb 0; have h1 := hKb 1; have h2 := hKb 2; have h3 := hKb 3; have h4 := hKb 4; have h5 := hKb 5; omega) (by have h0 := hKb 0; have h1 := hKb 1; have h2 := hKb 2; have h3 := hKb 3; have h4 := hKb 4; have h5 := hKb 5; omega)).mpr q)
      refine lv_iconst (v := 0) hx hb d_PS_mustRemember_20 (by decide) ?_
      exact ps_zret hx hb hr hlocks hK hP hD hS rfl (Nat.le_of_ble_eq_true rfl) (Nat.le_of_ble_eq_true rfl) d_PS_mustRemember_21 (⟨rfl, ps_cn (fun q => c_3 q.2.1) rfl⟩)

set_option maxHeartbeats 4000000 in
set_option maxRecDepth 100000 in
/-- PageStore.remember -/
theorem c_rem1 (l : Launch) (dC : Nat → ClassId) (dI : Nat → Nat → Nat) (cI : ClassId) (tys : List (ClassId × FieldType)) (ht : tys[0]? = some (cI, FieldType.int)) (a q K : Nat → Nat) (S : Nat) (ck cu : Int32) (F : Nat → Nat → Int32) (N : Nat → Nat) (hw : ps_wf F N) (hKb : ∀ j, K j ≤ 65536) (hSb : S ≤ 15) (i : Nat) (t b : Nat) (ht0 : t ≤ 65536) (hb0 : b ≤ 65536) (hi : i < 2 ^ 31) (htw : ¬ S = 0 → F 0 ((S - 1) * 6 + 1) = nI t) (htb : ¬ S = 0 → F 0 ((S - 1) * 6 + 5) = nI b) (mc ms : Nat) (hm : ps_must S t b (K 5) F 1 i → ¬ 40000 ≤ K 5 → ps_mc N (K 5) ≤ mc ∧ ps_ms N (K 5) ≤ ms) : ps_mI classes l y_PS_remember w_PS_remember ({ frames := 5, cells := mc, slots := ms, locals := 110 }) (dC, dI) tys [.ref (a 0), .int (nI 1), .int (nI i)] (pw cI a q K S ck cu F N) (fun r u => ps_c (ps_must S t b (K 5) F 1 i) (ps_c (40000 ≤ K 5) (r = 0 ∧ u = pw cI a q K S ck cu F N) (∃ q1 : Nat → Nat, r = 1 ∧ u = pw cI a q1 (va_up K 5 (K 5 + 1)) S ck cu (ps_Fm F (K 5) (nI 1) i (F 2 i) (F 3 i)) (ps_Nm N (K 5)))) (r = 1 ∧ u = pw cI a q K S ck cu F N)) := by
  refine ps_mI_of (by decide) rfl (Nat.le_of_ble_eq_true rfl) ?_
  intro p e s m below meth c A ls C0 hA hK hP hD hS hl
  obtain ⟨hx, hb, hr, hml, hts, hown, hlocks, hin⟩ := C0
  have hl : lv_has ls 4 [(0, .ref (a 0)), (1, .int (nI 1)), (2, .int (nI i))] := hl
  have hP : va_P (dC, dI) classes (pw cI a q K S ck cu F N) s.heap := hP
  have hD : va_D A (pw cI a q K S ck cu F N) := hD
  refine lv_aload_n hx hb d_PS_remember_0 rfl (lv_at hl 0 rfl) ?_
  refine lv_iload_n hx hb d_PS_remember_1 rfl (lv_at hl 1 rfl) ?_
  refine lv_iload_n hx hb d_PS_remember_2 rfl (lv_at hl 2 rfl) ?_
  refine ps_readI (wc := (pw cI a q K S ck cu F N)) hP hD hS hA [0, 1, 2, 3, 4, 5, 6, 7, 8, 9, 10, 11, 12, 13, 14, 15, 16, 17, 18, 19, 20, 21, 22, 23, 24, 25, 26, 27, 28, 29, 30, 31, 32, 33, 34, 35, 36, 37, 38, 39] rfl (fun _ _ h => h.1) (ps_runVI ⟨hx, hb, hml, hown, hts⟩ (c_must l dC dI cI tys ht a q K S ck cu F N hw hKb hSb 1 i t b ht0 hb0 (by decide) hi htw htb) (ps_cwV ps_gd 2 hts tw_164 k_PS_mustRemember e_PS_mustRemember ⟨Nat.le_of_ble_eq_true rfl, Nat.le_of_ble_eq_true rfl⟩) hK hP hD [0, 1, 2, 3, 4, 5, 6, 7, 8, 9, 10, 11, 12, 13, 14, 15, 16, 17, 18, 19, 20, 21, 22, 23, 24, 25, 26, 27, 28, 29, 30, 31, 32, 33, 34, 35, 36, 37, 38, 39] (by decide) rfl 0 cPS rfl rfl rfl hl.1 rfl (Nat.le_of_ble_eq_true rfl) d_PS_remember_3 ⟨Nat.zero_le _, Nat.zero_le _⟩) (fun r_1 H locs hr_1 hP hS => ?_)
  obtain ⟨-, hr_1⟩ := hr_1
  rcases hr_1 with ⟨hcr_1, hr_1⟩ | ⟨hcr_1, hr_1⟩
  · subst hr_1
    refine lv_if_ne (tgt := 11) hx hb d_PS_remember_6 (by decide) (fun c_2 => ?_) (fun c_2 => ?_)
    · refine lv_aload_n hx hb d_PS_remember_11 rfl (lv_at hl 0 rfl) ?_
      refine va_get (D := (dC, dI)) (ci := cPS) (v := .ref (a 1)) (C := R_PS) (T := F_PS) (N := 10) hx hb hts i_PS hown hK hP 0 rfl rfl 0 (by decide) (hts _ tw_97) (fun _ h9 => h9) rfl d_PS_remember_12 ?_
      refine lv_iconst (v := nI 5) hx hb d_PS_remember_15 (by decide) ?_
      refine va_iald hx hb hK hP 1 0 rfl ht (vp_in_nI (show 5 < 6 by decide) (by decide)) d_PS_remember_16 ?_
      refine ps_top (z := nI (K 5)) (ps_kat _ 5 (by decide)) ?_
      refine lv_istore_n (lv' := [(3, .int (nI (K 5))), (0, .ref (a 0)), (1, .int (nI 1)), (2, .int (nI i))]) hx hb d_PS_remember_17 rfl hl (by decide) rfl (fun ls hl => ?_)
      refine lv_iload_n hx hb d_PS_remember_18 rfl (lv_at hl 0 rfl) ?_
      refine lv_ldc (v := 40000) hx hb hown (hts _ tw_165) d_PS_remember_19 ?_
      refine ps_top (z := nI 40000) (by decide) ?_
      refine lv_icmp_lt (tgt := 26) hx hb d_PS_remember_21 (by decide) (fun c_3 => ?_) (fun c_3 => ?_)
      · have c_3 : K 5 < 40000 := (nI_ltI (by have h0 := hKb 0; have h1 := hKb 1; have h2 := hKb 2; have h3 := hKb 3; have h4 := hKb 4; have h5 := hKb 5; omega) (by have h0 := hKb 0; have h1 := hKb 1; have h2 := hKb 2; have h3 := hKb 3; have h4 := hKb 4; have h5 := hKb 5; omega)).mp c_3
        refine lv_aload_n hx hb d_PS_remember_26 rfl (lv_at hl 1 rfl) ?_
        refine va_get (D := (dC, dI)) (ci := cPS) (v := .ref (a 6)) (C := R_PS) (T := F_PS) (N := 10) hx hb hts i_PS hown hK hP 0 rfl rfl 7 (by decide) (hts _ tw_162) (fun _ h9 => h9) rfl d_PS_remember_27 ?_
        refine lv_iload_n hx hb d_PS_remember_30 rfl (lv_at hl 0 rfl) ?_
        refine lv_iload_n hx hb d_PS_remember_31 rfl (lv_at hl 2 rfl) ?_
        refine lv_iload_n hx hb d_PS_remember_32 rfl (lv_at hl 3 rfl) ?_
        refine lv_aload_n hx hb d_PS_remember_33 rfl (lv_at hl 1 rfl) ?_
        refine lv_iload_n hx hb d_PS_remember_34 rfl (lv_at hl 2 rfl) ?_
        refine ps_afterR (wc := (pw cI a q K S ck cu F N)) (wr := []) hP hD hS hA [0, 1, 2, 3, 4, 5, 6, 7, 8, 9, 10, 11, 12, 13, 14, 15, 16, 17, 18, 19, 20, 21, 22, 23, 24, 25, 26, 27, 28, 29, 30, 31, 32, 33, 34, 35, 36, 37, 38, 39] [] rfl rfl (by decide) (by decide) (ps_runVR ⟨hx, hb, hml, hown, hts⟩ (c_vof l dC dI cI tys ht a q K S ck cu F N hw hKb hSb (nI 1)) (ps_cwV ps_gd 1 hts tw_166 k_PS_valuesOf e_PS_valuesOf ⟨Nat.le_of_ble_eq_true rfl, Nat.le_of_ble_eq_true rfl⟩) hK hP hD [0, 1, 2, 3, 4, 5, 6, 7, 8, 9, 10, 11, 12, 13, 14, 15, 16, 17, 18, 19, 20, 21, 22, 23, 24, 25, 26, 27, 28, 29, 30, 31, 32, 33, 34, 35, 36, 37, 38, 39] (by decide) rfl 0 cPS rfl rfl rfl hl.1 rfl (Nat.le_of_ble_eq_true rfl) d_PS_remember_35 ⟨Nat.zero_le _, Nat.zero_le _⟩) (fun r_5 u_4 H locs hu_4 hP hD hS => ?_)
        obtain ⟨hu_4, hr_5⟩ := hu_4
        rw [if_neg (by decide)] at hr_5
        subst hr_5
        subst hu_4
        have hP : va_P (dC, dI) classes (pw cI a q K S ck cu F N) H := hP
        have hD : va_D A (pw cI a q K S ck cu F N) := hD
        have hm1 := hm hcr_1 (by omega)
        refine ps_afterV (wc := [(a 6, .inr (cMem, [.ref (a 20), .ref (a 21), .ref (a 7)])), (a 20, .inr (cCol, [.int (nI 40000), .ref (q 12)])), (q 12, .inl (cI, N 12, .inl (F 12))), (a 21, .inr (cCol, [.int (nI 40000), .ref (q 13)])), (q 13, .inl (cI, N 13, .inl (F 13))), (a 7, .inr (cVal, [.ref (a 22), .ref (a 23)])), (a 22, .inr (cCol, [.int (nI 40000), .ref (q 14)])), (q 14, .inl (cI, N 14, .inl (F 14))), (a 23, .inr (cCol, [.int (nI 40000), .ref (q 15)])), (q 15, .inl (cI, N 15, .inl (F 15))), (a 3, .inr (cVal, [.ref (a 10), .ref (a 11)])), (a 10, .inr (cCol, [.int (nI 32768), .ref (q 2)])), (q 2, .inl (cI, N 2, .inl (F 2))), (a 11, .inr (cCol, [.int (nI 32768), .ref (q 3)])), (q 3, .inl (cI, N 3, .inl (F 3)))]) (wr := [0, 1, 2, 4, 5, 8, 9, 10, 11, 16, 17, 18, 19, 20, 21, 22, 23, 24, 25, 26, 27, 28, 29, 30, 31].filterMap (fun z9 => ((pw cI a q K S ck cu F N) : va_W)[z9]?)) hP hD hS hA [6, 32, 33, 34, 35, 7, 36, 37, 38, 39, 3, 12, 13, 14, 15] [0, 1, 2, 4, 5, 8, 9, 10, 11, 16, 17, 18, 19, 20, 21, 22, 23, 24, 25, 26, 27, 28, 29, 30, 31] rfl rfl (by decide) (by decide) (ps_runVV ⟨hx, hb, hml, hown, hts⟩ (c_mwrite l dC dI cI tys ht (a 6) (a 20) (q 12) (a 21) (q 13) (a 7) (a 22) (q 14) (a 23) (q 15) (a 3) (a 10) (q 2) (a 11) (q 3) 40000 32768 (N 12) (N 13) (N 14) (N 15) (N 2) (N 3) (F 12) (F 13) (F 14) (F 15) (F 2) (F 3) (K 5) (nI 1) i (hw.z 12 (by decide)) (hw 12 (by decide)).2 (hw.z 13 (by decide)) (hw 13 (by decide)).2 (hw.z 14 (by decide)) (hw 14 (by decide)).2 (hw.z 15 (by decide)) (hw 15 (by decide)).2 (hw.z 2 (by decide)) (hw.z 3 (by decide)) (hw.n 2 (by decide)) (hw.n 3 (by decide)) (by decide) (by omega) hi) (ps_cwV ps_gd 4 hts tw_167 k_Mem_write e_Mem_write ⟨Nat.le_of_ble_eq_true rfl, Nat.le_of_ble_eq_true rfl⟩) hK hP hD [6, 32, 33, 34, 35, 7, 36, 37, 38, 39, 3, 12, 13, 14, 15] (by decide) rfl 0 cMem rfl rfl rfl hl.1 rfl (Nat.le_of_ble_eq_true rfl) d_PS_remember_38 ⟨by show 0 + 0 + 0 + ps_mc N (K 5) ≤ mc; omega, by show 0 + 0 + 0 + ps_ms N (K 5) ≤ ms; omega⟩) (fun u_6 H locs hu_6 hP hD hS => ?_)
        obtain ⟨q_8, q_9, q_10, q_11, hu_6⟩ := hu_6
        subst hu_6
        obtain ⟨hP, hD⟩ := ps_perm (ws' := (pw cI a (va_up (va_up (va_up (va_up q 12 q_8) 13 q_9) 14 q_10) 15 q_11) K S ck cu (va_up (va_up (va_up (va_up F 12 (upd (F 12) (K 5) (nI 1))) 13 (upd (F 13) (K 5) (nI i))) 14 (upd (F 14) (K 5) (F 2 i))) 15 (upd (F 15) (K 5) (if F 2 i = 0 then 0 else F 3 i))) (va_up (va_up (va_up (va_up N 12 (ps_len 40000 (N 12) (K 5))) 13 (ps_len 40000 (N 13) (K 5))) 14 (ps_len 40000 (N 14) (K 5))) 15 (ps_len 40000 (N 15) (K 5))))) hP hD [0, 1, 2, 35, 3, 4, 25, 30, 5, 6, 7, 8, 36, 37, 38, 39, 9, 10, 11, 12, 13, 14, 15, 16, 17, 18, 19, 20, 21, 22, 23, 24, 26, 27, 28, 29, 31, 32, 33, 34] (by decide) rfl
        refine lv_aload_n hx hb d_PS_remember_41 rfl (lv_at hl 1 rfl) ?_
        refine va_get (D := (dC, dI)) (ci := cPS) (v := .ref (a 1)) (C := R_PS) (T := F_PS) (N := 10) hx hb hts i_PS hown hK hP 0 rfl rfl 0 (by decide) (hts _ tw_97) (fun _ h9 => h9) rfl d_PS_remember_42 ?_
        refine lv_iconst (v := nI 5) hx hb d_PS_remember_45 (by decide) ?_
        refine lv_dup2_11 hx hb d_PS_remember_46 rfl rfl ?_
        refine va_iald hx hb hK hP 1 0 rfl ht (vp_in_nI (show 5 < 6 by decide) (by decide)) d_PS_remember_47 ?_
        refine ps_top (z := nI (K 5)) (ps_kat _ 5 (by decide)) ?_
        refine lv_iconst (v := nI 1) hx hb d_PS_remember_48 (by decide) ?_
        refine lv_iadd hx hb d_PS_remember_49 ?_
        refine ps_top (z := nI (K 5 + 1)) (nI_add _ _) ?_
        refine va_iast hx hb hK hP hD hS 1 0 rfl ht (vp_in_nI (show 5 < 6 by decide) (by decide)) d_PS_remember_50 (fun H locs hP hD hS => ?_)
        rw [nI_clamp (show 5 < 2 ^ 31 by decide)] at hP hD
        rw [ps_kup] at hP hD
        have hP : va_P (dC, dI) classes (pw cI a (va_up (va_up (va_up (va_up q 12 q_8) 13 q_9) 14 q_10) 15 q_11) (va_up K 5 (K 5 + 1)) S ck cu (va_up (va_up (va_up (va_up F 12 (upd (F 12) (K 5) (nI 1))) 13 (upd (F 13) (K 5) (nI i))) 14 (upd (F 14) (K 5) (F 2 i))) 15 (upd (F 15) (K 5) (if F 2 i = 0 then 0 else F 3 i))) (va_up (va_up (va_up (va_up N 12 (ps_len 40000 (N 12) (K 5))) 13 (ps_len 40000 (N 13) (K 5))) 14 (ps_len 40000 (N 14) (K 5))) 15 (ps_len 40000 (N 15) (K 5)))) H := hP
        have hD : va_D A (pw cI a (va_up (va_up (va_up (va_up q 12 q_8) 13 q_9) 14 q_10) 15 q_11) (va_up K 5 (K 5 + 1)) S ck cu (va_up (va_up (va_up (va_up F 12 (upd (F 12) (K 5) (nI 1))) 13 (upd (F 13) (K 5) (nI i))) 14 (upd (F 14) (K 5) (F 2 i))) 15 (upd (F 15) (K 5) (if F 2 i = 0 then 0 else F 3 i))) (va_up (va_up (va_up (va_up N 12 (ps_len 40000 (N 12) (K 5))) 13 (ps_len 40000 (N 13) (K 5))) 14 (ps_len 40000 (N 14) (K 5))) 15 (ps_len 40000 (N 15) (K 5)))) := hD
        refine lv_iconst (v := 1) hx hb d_PS_remember_51 (by decide) ?_
        exact ps_zret hx hb hr hlocks hK hP hD hS rfl (by show 0 + 0 + 0 + ps_mc N (K 5) ≤ mc; omega) (by show 0 + 0 + 0 + ps_ms N (K 5) ≤ ms; omega) d_PS_remember_52 (ps_cy hcr_1 (ps_cn (by omega) ⟨(va_up (va_up (va_up (va_up q 12 q_8) 13 q_9) 14 q_10) 15 q_11), rfl, rfl⟩))
      · have c_3 : ¬ K 5 < 40000 := fun q => c_3 ((nI_ltI (by have h0 := hKb 0; have h1 := hKb 1; have h2 := hKb 2; have h3 := hKb 3; have h4 := hKb 4; have h5 := hKb 5; omega) (by have h0 := hKb 0; have h1 := hKb 1; have h2 := hKb 2; have h3 := hKb 3; have h4 := hKb 4; have h5 := hKb 5; omega)).mpr q)
        refine lv_iconst (v := 0) hx hb d_PS_remember_24 (by decide) ?_
        exact ps_zret hx hb hr hlocks hK hP hD hS rfl (Nat.zero_le _) (Nat.zero_le _) d_PS_remember_25 (ps_cy hcr_1 (ps_cy (by omega) ⟨rfl, rfl⟩))
    · exact absurd c_2 (by decide)
  · subst hr_1
    refine lv_if_ne (tgt := 11) hx hb d_PS_remember_6 (by decide) (fun c_12 => ?_) (fun c_12 => ?_)
    · exact absurd rfl c_12
    · refine lv_iconst (v := 1) hx hb d_PS_remember_9 (by decide) ?_
      exact ps_zret hx hb hr hlocks hK hP hD hS rfl (Nat.zero_le _) (Nat.zero_le _) d_PS_remember_10 (ps_cn hcr_1 ⟨rfl, rfl⟩)

set_option maxHeartbeats 4000000 in
set_option maxRecDepth 100000 in
/-- PageStore.remember -/
theorem c_rem4 (l : Launch) (dC : Nat → ClassId) (dI : Nat → Nat → Nat) (cI : ClassId) (tys : List (ClassId × FieldType)) (ht : tys[0]? = some (cI, FieldType.int)) (a q K : Nat → Nat) (S : Nat) (ck cu : Int32) (F : Nat → Nat → Int32) (N : Nat → Nat) (hw : ps_wf F N) (hKb : ∀ j, K j ≤ 65536) (hSb : S ≤ 15) (i : Nat) (t b : Nat) (ht0 : t ≤ 65536) (hb0 : b ≤ 65536) (hi : i < 2 ^ 31) (htw : ¬ S = 0 → F 0 ((S - 1) * 6 + 4) = nI t) (htb : ¬ S = 0 → F 0 ((S - 1) * 6 + 5) = nI b) (mc ms : Nat) (hm : ps_must S t b (K 5) F 4 i → ¬ 40000 ≤ K 5 → ps_mc N (K 5) ≤ mc ∧ ps_ms N (K 5) ≤ ms) : ps_mI classes l y_PS_remember w_PS_remember ({ frames := 5, cells := mc, slots := ms, locals := 110 }) (dC, dI) tys [.ref (a 0), .int (nI 4), .int (nI i)] (pw cI a q K S ck cu F N) (fun r u => ps_c (ps_must S t b (K 5) F 4 i) (ps_c (40000 ≤ K 5) (r = 0 ∧ u = pw cI a q K S ck cu F N) (∃ q1 : Nat → Nat, r = 1 ∧ u = pw cI a q1 (va_up K 5 (K 5 + 1)) S ck cu (ps_Fm F (K 5) (nI 4) i (F 10 i) (F 11 i)) (ps_Nm N (K 5)))) (r = 1 ∧ u = pw cI a q K S ck cu F N)) := by
  refine ps_mI_of (by decide) rfl (Nat.le_of_ble_eq_true rfl) ?_
  intro p e s m below meth c A ls C0 hA hK hP hD hS hl
  obtain ⟨hx, hb, hr, hml, hts, hown, hlocks, hin⟩ := C0
  have hl : lv_has ls 4 [(0, .ref (a 0)), (1, .int (nI 4)), (2, .int (nI i))] := hl
  have hP : va_P (dC, dI) classes (pw cI a q K S ck cu F N) s.heap := hP
  have hD : va_D A (pw cI a q K S ck cu F N) := hD
  refine lv_aload_n hx hb d_PS_remember_0 rfl (lv_at hl 0 rfl) ?_
  refine lv_iload_n hx hb d_PS_remember_1 rfl (lv_at hl 1 rfl) ?_
  refine lv_iload_n hx hb d_PS_remember_2 rfl (lv_at hl 2 rfl) ?_
  refine ps_readI (wc := (pw cI a q K S ck cu F N)) hP hD hS hA [0, 1, 2, 3, 4, 5, 6, 7, 8, 9, 10, 11, 12, 13, 14, 15, 16, 17, 18, 19, 20, 21, 22, 23, 24, 25, 26, 27, 28, 29, 30, 31, 32, 33, 34, 35, 36, 37, 38, 39] rfl (fun _ _ h => h.1) (ps_runVI ⟨hx, hb, hml, hown, hts⟩ (c_must l dC dI cI tys ht a q K S ck cu F N hw hKb hSb 4 i t b ht0 hb0 (by decide) hi htw htb) (ps_cwV ps_gd 2 hts tw_164 k_PS_mustRemember e_PS_mustRemember ⟨Nat.le_of_ble_eq_true rfl, Nat.le_of_ble_eq_true rfl⟩) hK hP hD [0, 1, 2, 3, 4, 5, 6, 7, 8, 9, 10, 11, 12, 13, 14, 15, 16, 17, 18, 19, 20, 21, 22, 23, 24, 25, 26, 27, 28, 29, 30, 31, 32, 33, 34, 35, 36, 37, 38, 39] (by decide) rfl 0 cPS rfl rfl rfl hl.1 rfl (Nat.le_of_ble_eq_true rfl) d_PS_remember_3 ⟨Nat.zero_le _, Nat.zero_le _⟩) (fun r_1 H locs hr_1 hP hS => ?_)
  obtain ⟨-, hr_1⟩ := hr_1
  rcases hr_1 with ⟨hcr_1, hr_1⟩ | ⟨hcr_1, hr_1⟩
  · subst hr_1
    refine lv_if_ne (tgt := 11) hx hb d_PS_remember_6 (by decide) (fun c_2 => ?_) (fun c_2 => ?_)
    · refine lv_aload_n hx hb d_PS_remember_11 rfl (lv_at hl 0 rfl) ?_
      refine va_get (D := (dC, dI)) (ci := cPS) (v := .ref (a 1)) (C := R_PS) (T := F_PS) (N := 10) hx hb hts i_PS hown hK hP 0 rfl rfl 0 (by decide) (hts _ tw_97) (fun _ h9 => h9) rfl d_PS_remember_12 ?_
      refine lv_iconst (v := nI 5) hx hb d_PS_remember_15 (by decide) ?_
      refine va_iald hx hb hK hP 1 0 rfl ht (vp_in_nI (show 5 < 6 by decide) (by decide)) d_PS_remember_16 ?_
      refine ps_top (z := nI (K 5)) (ps_kat _ 5 (by decide)) ?_
      refine lv_istore_n (lv' := [(3, .int (nI (K 5))), (0, .ref (a 0)), (1, .int (nI 4)), (2, .int (nI i))]) hx hb d_PS_remember_17 rfl hl (by decide) rfl (fun ls hl => ?_)
      refine lv_iload_n hx hb d_PS_remember_18 rfl (lv_at hl 0 rfl) ?_
      refine lv_ldc (v := 40000) hx hb hown (hts _ tw_165) d_PS_remember_19 ?_
      refine ps_top (z := nI 40000) (by decide) ?_
      refine lv_icmp_lt (tgt := 26) hx hb d_PS_remember_21 (by decide) (fun c_3 => ?_) (fun c_3 => ?_)
      · have c_3 : K 5 < 40000 := (nI_ltI (by have h0 := hKb 0; have h1 := hKb 1; have h2 := hKb 2; have h3 := hKb 3; have h4 := hKb 4; have h5 := hKb 5; omega) (by have h0 := hKb 0; have h1 := hKb 1; have h2 := hKb 2; have h3 := hKb 3; have h4 := hKb 4; have h5 := hKb 5; omega)).mp c_3
        refine lv_aload_n hx hb d_PS_remember_26 rfl (lv_at hl 1 rfl) ?_
        refine va_get (D := (dC, dI)) (ci := cPS) (v := .ref (a 6)) (C := R_PS) (T := F_PS) (N := 10) hx hb hts i_PS hown hK hP 0 rfl rfl 7 (by decide) (hts _ tw_162) (fun _ h9 => h9) rfl d_PS_remember_27 ?_
        refine lv_iload_n hx hb d_PS_remember_30 rfl (lv_at hl 0 rfl) ?_
        refine lv_iload_n hx hb d_PS_remember_31 rfl (lv_at hl 2 rfl) ?_
        refine lv_iload_n hx hb d_PS_remember_32 rfl (lv_at hl 3 rfl) ?_
        refine lv_aload_n hx hb d_PS_remember_33 rfl (lv_at hl 1 rfl) ?_
        refine lv_iload_n hx hb d_PS_remember_34 rfl (lv_at hl 2 rfl) ?_
        refine ps_afterR (wc := (pw cI a q K S ck cu F N)) (wr := []) hP hD hS hA [0, 1, 2, 3, 4, 5, 6, 7, 8, 9, 10, 11, 12, 13, 14, 15, 16, 17, 18, 19, 20, 21, 22, 23, 24, 25, 26, 27, 28, 29, 30, 31, 32, 33, 34, 35, 36, 37, 38, 39] [] rfl rfl (by decide) (by decide) (ps_runVR ⟨hx, hb, hml, hown, hts⟩ (c_vof l dC dI cI tys ht a q K S ck cu F N hw hKb hSb (nI 4)) (ps_cwV ps_gd 1 hts tw_166 k_PS_valuesOf e_PS_valuesOf ⟨Nat.le_of_ble_eq_true rfl, Nat.le_of_ble_eq_true rfl⟩) hK hP hD [0, 1, 2, 3, 4, 5, 6, 7, 8, 9, 10, 11, 12, 13, 14, 15, 16, 17, 18, 19, 20, 21, 22, 23, 24, 25, 26, 27, 28, 29, 30, 31, 32, 33, 34, 35, 36, 37, 38, 39] (by decide) rfl 0 cPS rfl rfl rfl hl.1 rfl (Nat.le_of_ble_eq_true rfl) d_PS_remember_35 ⟨Nat.zero_le _, Nat.zero_le _⟩) (fun r_5 u_4 H locs hu_4 hP hD hS => ?_)
        obtain ⟨hu_4, hr_5⟩ := hu_4
        rw [if_pos rfl] at hr_5
        subst hr_5
        subst hu_4
        have hP : va_P (dC, dI) classes (pw cI a q K S ck cu F N) H := hP
        have hD : va_D A (pw cI a q K S ck cu F N) := hD
        have hm1 := hm hcr_1 (by omega)
        refine ps_afterV (wc := [(a 6, .inr (cMem, [.ref (a 20), .ref (a 21), .ref (a 7)])), (a 20, .inr (cCol, [.int (nI 40000), .ref (q 12)])), (q 12, .inl (cI, N 12, .inl (F 12))), (a 21, .inr (cCol, [.int (nI 40000), .ref (q 13)])), (q 13, .inl (cI, N 13, .inl (F 13))), (a 7, .inr (cVal, [.ref (a 22), .ref (a 23)])), (a 22, .inr (cCol, [.int (nI 40000), .ref (q 14)])), (q 14, .inl (cI, N 14, .inl (F 14))), (a 23, .inr (cCol, [.int (nI 40000), .ref (q 15)])), (q 15, .inl (cI, N 15, .inl (F 15))), (a 5, .inr (cVal, [.ref (a 18), .ref (a 19)])), (a 18, .inr (cCol, [.int (nI 16384), .ref (q 10)])), (q 10, .inl (cI, N 10, .inl (F 10))), (a 19, .inr (cCol, [.int (nI 16384), .ref (q 11)])), (q 11, .inl (cI, N 11, .inl (F 11)))]) (wr := [0, 1, 2, 3, 4, 8, 9, 10, 11, 12, 13, 14, 15, 16, 17, 18, 19, 20, 21, 22, 23, 24, 25, 26, 27].filterMap (fun z9 => ((pw cI a q K S ck cu F N) : va_W)[z9]?)) hP hD hS hA [6, 32, 33, 34, 35, 7, 36, 37, 38, 39, 5, 28, 29, 30, 31] [0, 1, 2, 3, 4, 8, 9, 10, 11, 12, 13, 14, 15, 16, 17, 18, 19, 20, 21, 22, 23, 24, 25, 26, 27] rfl rfl (by decide) (by decide) (ps_runVV ⟨hx, hb, hml, hown, hts⟩ (c_mwrite l dC dI cI tys ht (a 6) (a 20) (q 12) (a 21) (q 13) (a 7) (a 22) (q 14) (a 23) (q 15) (a 5) (a 18) (q 10) (a 19) (q 11) 40000 16384 (N 12) (N 13) (N 14) (N 15) (N 10) (N 11) (F 12) (F 13) (F 14) (F 15) (F 10) (F 11) (K 5) (nI 4) i (hw.z 12 (by decide)) (hw 12 (by decide)).2 (hw.z 13 (by decide)) (hw 13 (by decide)).2 (hw.z 14 (by decide)) (hw 14 (by decide)).2 (hw.z 15 (by decide)) (hw 15 (by decide)).2 (hw.z 10 (by decide)) (hw.z 11 (by decide)) (hw.n 10 (by decide)) (hw.n 11 (by decide)) (by decide) (by omega) hi) (ps_cwV ps_gd 4 hts tw_167 k_Mem_write e_Mem_write ⟨Nat.le_of_ble_eq_true rfl, Nat.le_of_ble_eq_true rfl⟩) hK hP hD [6, 32, 33, 34, 35, 7, 36, 37, 38, 39, 5, 28, 29, 30, 31] (by decide) rfl 0 cMem rfl rfl rfl hl.1 rfl (Nat.le_of_ble_eq_true rfl) d_PS_remember_38 ⟨by show 0 + 0 + 0 + ps_mc N (K 5) ≤ mc; omega, by show 0 + 0 + 0 + ps_ms N (K 5) ≤ ms; omega⟩) (fun u_6 H locs hu_6 hP hD hS => ?_)
        obtain ⟨q_8, q_9, q_10, q_11, hu_6⟩ := hu_6
        subst hu_6
        obtain ⟨hP, hD⟩ := ps_perm (ws' := (pw cI a (va_up (va_up (va_up (va_up q 12 q_8) 13 q_9) 14 q_10) 15 q_11) K S ck cu (va_up (va_up (va_up (va_up F 12 (upd (F 12) (K 5) (nI 4))) 13 (upd (F 13) (K 5) (nI i))) 14 (upd (F 14) (K 5) (F 10 i))) 15 (upd (F 15) (K 5) (if F 10 i = 0 then 0 else F 11 i))) (va_up (va_up (va_up (va_up N 12 (ps_len 40000 (N 12) (K 5))) 13 (ps_len 40000 (N 13) (K 5))) 14 (ps_len 40000 (N 14) (K 5))) 15 (ps_len 40000 (N 15) (K 5))))) hP hD [0, 1, 2, 3, 4, 35, 25, 30, 5, 6, 7, 8, 9, 10, 11, 12, 13, 14, 15, 16, 17, 18, 19, 20, 21, 22, 23, 24, 36, 37, 38, 39, 26, 27, 28, 29, 31, 32, 33, 34] (by decide) rfl
        refine lv_aload_n hx hb d_PS_remember_41 rfl (lv_at hl 1 rfl) ?_
        refine va_get (D := (dC, dI)) (ci := cPS) (v := .ref (a 1)) (C := R_PS) (T := F_PS) (N := 10) hx hb hts i_PS hown hK hP 0 rfl rfl 0 (by decide) (hts _ tw_97) (fun _ h9 => h9) rfl d_PS_remember_42 ?_
        refine lv_iconst (v := nI 5) hx hb d_PS_remember_45 (by decide) ?_
        refine lv_dup2_11 hx hb d_PS_remember_46 rfl rfl ?_
        refine va_iald hx hb hK hP 1 0 rfl ht (vp_in_nI (show 5 < 6 by decide) (by decide)) d_PS_remember_47 ?_
        refine ps_top (z := nI (K 5)) (ps_kat _ 5 (by decide)) ?_
        refine lv_iconst (v := nI 1) hx hb d_PS_remember_48 (by decide) ?_
        refine lv_iadd hx hb d_PS_remember_49 ?_
        refine ps_top (z := nI (K 5 + 1)) (nI_add _ _) ?_
        refine va_iast hx hb hK hP hD hS 1 0 rfl ht (vp_in_nI (show 5 < 6 by decide) (by decide)) d_PS_remember_50 (fun H locs hP hD hS => ?_)
        rw [nI_clamp (show 5 < 2 ^ 31 by decide)] at hP hD
        rw [ps_kup] at hP hD
        have hP : va_P (dC, dI) classes (pw cI a (va_up (va_up (va_up (va_up q 12 q_8) 13 q_9) 14 q_10) 15 q_11) (va_up K 5 (K 5 + 1)) S ck cu (va_up (va_up (va_up (va_up F 12 (upd (F 12) (K 5) (nI 4))) 13 (upd (F 13) (K 5) (nI i))) 14 (upd (F 14) (K 5) (F 10 i))) 15 (upd (F 15) (K 5) (if F 10 i = 0 then 0 else F 11 i))) (va_up (va_up (va_up (va_up N 12 (ps_len 40000 (N 12) (K 5))) 13 (ps_len 40000 (N 13) (K 5))) 14 (ps_len 40000 (N 14) (K 5))) 15 (ps_len 40000 (N 15) (K 5)))) H := hP
        have hD : va_D A (pw cI a (va_up (va_up (va_up (va_up q 12 q_8) 13 q_9) 14 q_10) 15 q_11) (va_up K 5 (K 5 + 1)) S ck cu (va_up (va_up (va_up (va_up F 12 (upd (F 12) (K 5) (nI 4))) 13 (upd (F 13) (K 5) (nI i))) 14 (upd (F 14) (K 5) (F 10 i))) 15 (upd (F 15) (K 5) (if F 10 i = 0 then 0 else F 11 i))) (va_up (va_up (va_up (va_up N 12 (ps_len 40000 (N 12) (K 5))) 13 (ps_len 40000 (N 13) (K 5))) 14 (ps_len 40000 (N 14) (K 5))) 15 (ps_len 40000 (N 15) (K 5)))) := hD
        refine lv_iconst (v := 1) hx hb d_PS_remember_51 (by decide) ?_
        exact ps_zret hx hb hr hlocks hK hP hD hS rfl (by show 0 + 0 + 0 + ps_mc N (K 5) ≤ mc; omega) (by show 0 + 0 + 0 + ps_ms N (K 5) ≤ ms; omega) d_PS_remember_52 (ps_cy hcr_1 (ps_cn (by omega) ⟨(va_up (va_up (va_up (va_up q 12 q_8) 13 q_9) 14 q_10) 15 q_11), rfl, rfl⟩))
      · have c_3 : ¬ K 5 < 40000 := fun q => c_3 ((nI_ltI (by have h0 := hKb 0; have h1 := hKb 1; have h2 := hKb 2; have h3 := hKb 3; have h4 := hKb 4; have h5 := hKb 5; omega) (by have h0 := hKb 0; have h1 := hKb 1; have h2 := hKb 2; have h3 := hKb 3; have h4 := hKb 4; have h5 := hKb 5; omega)).mpr q)
        refine lv_iconst (v := 0) hx hb d_PS_remember_24 (by decide) ?_
        exact ps_zret hx hb hr hlocks hK hP hD hS rfl (Nat.zero_le _) (Nat.zero_le _) d_PS_remember_25 (ps_cy hcr_1 (ps_cy (by omega) ⟨rfl, rfl⟩))
    · exact absurd c_2 (by decide)
  · subst hr_1
    refine lv_if_ne (tgt := 11) hx hb d_PS_remember_6 (by decide) (fun c_12 => ?_) (fun c_12 => ?_)
    · exact absurd rfl c_12
    · refine lv_iconst (v := 1) hx hb d_PS_remember_9 (by decide) ?_
      exact ps_zret hx hb hr hlocks hK hP hD hS rfl (Nat.zero_le _) (Nat.zero_le _) d_PS_remember_10 (ps_cn hcr_1 ⟨rfl, rfl⟩)
