theorem tw_200 : (.methodLink "PageStore" 111 ⟨"PageStore$Keys", "indexOf", "(IIII)I"⟩ : Cond) ∈ ps_tbl := ps_t2 69 rfl rfl
theorem tw_201 : (.methodLink "PageStore" 115 ⟨"PageStore", "addKey", "(IIIII)I"⟩ : Cond) ∈ ps_tbl := ps_t2 74 rfl rfl
theorem tw_202 : (.methodLink "PageStore" 132 ⟨"PageStore$Keys", "firstThere", "(III)I"⟩ : Cond) ∈ ps_tbl := ps_t2 116 rfl rfl
theorem tw_203 : (.methodLink "PageStore" 135 ⟨"PageStore", "moveCursor", "(I)I"⟩ : Cond) ∈ ps_tbl := ps_t2 120 rfl rfl
theorem tw_204 : (.instanceMethod ⟨"PageStore", "addKey", "(IIIII)I"⟩ : Cond) ∈ ps_tbl := ps_t2 76 rfl rfl
theorem tw_205 : (.selects "PageStore" ⟨"PageStore", "addKey", "(IIIII)I"⟩ ⟨"PageStore", "addKey", "(IIIII)I"⟩ : Cond) ∈ ps_tbl := ps_ts (y := ⟨"PageStore", "addKey", "(IIIII)I"⟩) (n := 10) 10 rfl rfl
theorem tw_206 : (.code ⟨"PageStore", "addKey", "(IIIII)I"⟩ prog_1_method_31_code 7 (some .int) : Cond) ∈ ps_tbl := ps_t2 77 rfl rfl
theorem tw_207 : (.instanceMethod ⟨"PageStore$Keys", "firstThere", "(III)I"⟩ : Cond) ∈ ps_tbl := ps_t2 117 rfl rfl
theorem tw_208 : (.selects "PageStore$Keys" ⟨"PageStore$Keys", "firstThere", "(III)I"⟩ ⟨"PageStore$Keys", "firstThere", "(III)I"⟩ : Cond) ∈ ps_tbl := ps_t2 118 rfl rfl
theorem tw_209 : (.code ⟨"PageStore$Keys", "firstThere", "(III)I"⟩ prog_3_method_5_code 5 (some .int) : Cond) ∈ ps_tbl := ps_t2 119 rfl rfl
theorem tw_210 : (.instanceMethod ⟨"PageStore", "moveCursor", "(I)I"⟩ : Cond) ∈ ps_tbl := ps_t2 122 rfl rfl
theorem tw_211 : (.selects "PageStore" ⟨"PageStore", "moveCursor", "(I)I"⟩ ⟨"PageStore", "moveCursor", "(I)I"⟩ : Cond) ∈ ps_tbl := ps_ts (y := ⟨"PageStore", "moveCursor", "(I)I"⟩) (n := 10) 12 rfl rfl
theorem tw_212 : (.code ⟨"PageStore", "moveCursor", "(I)I"⟩ prog_1_method_32_code 2 (some .int) : Cond) ∈ ps_tbl := ps_t2 123 rfl rfl
theorem k_PS_addKey : ps_cdV ps_tbl y_PS_addKey prog_1_method_31_code 7 (some .int) := ⟨tw_204, tw_205, tw_108, tw_206⟩
theorem k_Key_firstThere : ps_cdV ps_tbl y_Key_firstThere prog_3_method_5_code 5 (some .int) := ⟨tw_207, tw_208, tw_54, tw_209⟩
theorem k_PS_moveCursor : ps_cdV ps_tbl y_PS_moveCursor prog_1_method_32_code 2 (some .int) := ⟨tw_210, tw_211, tw_108, tw_212⟩
theorem ps_len_in {lim n i : Nat} (h : i < n) : ps_len lim n i = n := by unfold ps_len; rw [if_pos h]
theorem ps_dc_in {lim n i : Nat} (h : i < n) : ps_dc lim n i = 0 := by unfold ps_dc; rw [ps_len_in h]; omega
theorem ps_ds_in {lim n i : Nat} (h : i < n) : ps_ds lim n i = 0 := by unfold ps_ds; rw [ps_len_in h]; omega
theorem ps_dec_lt {c b : Nat} (hc : c ≤ 65536) (hb : b ≤ 65536) : nI c - nI 1 < nI b ↔ c ≤ b := by
  rw [Int32.lt_iff_toInt_lt, Int32.toInt_sub, nI_toInt (by omega), nI_toInt (by omega), nI_toInt (by omega)]
  unfold Int.bmod
  simp only []
  split <;> omega
/-- memory m is put back -/
def ps_un (F : Nat → Nat → Int32) (m : Nat) : Nat → Nat → Int32 := if F 12 m = nI 4 then ps_Fv F 10 (F 13 m).toNatClampNeg (F 14 m) (F 15 m) else ps_Fv F 2 (F 13 m).toNatClampNeg (F 14 m) (F 15 m)
/-- the last d of k5 memories are put back, the latest first -/
def ps_bs (F : Nat → Nat → Int32) (k5 : Nat) : Nat → Nat → Nat → Int32
  | 0 => F
  | d + 1 => ps_un (ps_bs F k5 d) (k5 - (d + 1))
theorem ps_Fv_o {F : Nat → Nat → Int32} {k i j : Nat} {v w : Int32} (h1 : j ≠ k) (h2 : j ≠ k + 1) : ps_Fv F k i v w j = F j := by
  unfold ps_Fv ps_u
  rw [va_up_ne _ _ h2, va_up_ne _ _ h1]
theorem ps_un_o {F : Nat → Nat → Int32} {m j : Nat} (h : j ≠ 2 ∧ j ≠ 3 ∧ j ≠ 10 ∧ j ≠ 11) : ps_un F m j = F j := by
  unfold ps_un
  split
  · exact ps_Fv_o h.2.2.1 h.2.2.2
  · exact ps_Fv_o h.1 h.2.1
theorem ps_bs_o {F : Nat → Nat → Int32} {k5 d j : Nat} (h : j ≠ 2 ∧ j ≠ 3 ∧ j ≠ 10 ∧ j ≠ 11) : ps_bs F k5 d j = F j := by
  induction d with
  | zero => rfl
  | succ d ih => show ps_un (ps_bs F k5 d) _ j = F j; rw [ps_un_o h, ih]
/-- what the memories say of: it has been written -/
def ps_mem (k5 : Nat) (F : Nat → Nat → Int32) (N : Nat → Nat) : Prop := ∀ m, m < k5 → ∃ i : Nat, F 13 m = nI i ∧ ((F 12 m = nI 1 ∧ i < N 2 ∧ i < N 3) ∨ (F 12 m = nI 4 ∧ i < N 10 ∧ i < N 11))
theorem ps_bs_1 {F : Nat → Nat → Int32} {k5 d m i : Nat} (hm : m = k5 - (d + 1)) (h12 : F 12 m = nI 1) (h13 : F 13 m = nI i) (hi : i < 2 ^ 31) : ps_bs F k5 (d + 1) = va_up (va_up (ps_bs F k5 d) 2 (upd (ps_bs F k5 d 2) i (F 14 m))) 3 (upd (ps_bs F k5 d 3) i (if F 14 m = 0 then 0 else F 15 m)) := by
  show ps_un (ps_bs F k5 d) (k5 - (d + 1)) = _
  rw [← hm]
  unfold ps_un
  rw [ps_bs_o (j := 12) (by decide), ps_bs_o (j := 13) (by decide), ps_bs_o (j := 14) (by decide), ps_bs_o (j := 15) (by decide), h12, if_neg (by decide), h13, nI_clamp hi]
  rfl
theorem ps_bs_4 {F : Nat → Nat → Int32} {k5 d m i : Nat} (hm : m = k5 - (d + 1)) (h12 : F 12 m = nI 4) (h13 : F 13 m = nI i) (hi : i < 2 ^ 31) : ps_bs F k5 (d + 1) = va_up (va_up (ps_bs F k5 d) 10 (upd (ps_bs F k5 d 10) i (F 14 m))) 11 (upd (ps_bs F k5 d 11) i (if F 14 m = 0 then 0 else F 15 m)) := by
  show ps_un (ps_bs F k5 d) (k5 - (d + 1)) = _
  rw [← hm]
  unfold ps_un
  rw [ps_bs_o (j := 12) (by decide), ps_bs_o (j := 13) (by decide), ps_bs_o (j := 14) (by decide), ps_bs_o (j := 15) (by decide), h12, if_pos rfl, h13, nI_clamp hi]
  rfl
theorem ps_wf_in {F : Nat → Nat → Int32} {N : Nat → Nat} (k : Nat) {i : Nat} {x : Int32} (h : ps_wf F N) (hi : i < N k) : ps_wf (va_up F k (upd (F k) i x)) N := fun j hj => by
  by_cases e : j = k
  · subst e; rw [va_up_self]
    exact ⟨fun z hz => by rw [pk_un (by omega)]; exact (h j hj).1 z hz, (h j hj).2⟩
  · rw [va_up_ne _ _ e]; exact h j hj
theorem ps_wf_in2 {F : Nat → Nat → Int32} {N : Nat → Nat} (k : Nat) {i : Nat} {x y : Int32} (h : ps_wf F N) (hi : i < N k) (hi2 : i < N (k + 1)) : ps_wf (va_up (va_up F k (upd (F k) i x)) (k + 1) (upd (F (k + 1)) i y)) N := by
  have h1 := ps_wf_in k (x := x) h hi
  have h2 := ps_wf_in (k + 1) (x := y) h1 hi2
  rw [va_up_ne _ _ (show k + 1 ≠ k by omega)] at h2
  exact h2
theorem ps_wf_bs {F : Nat → Nat → Int32} {N : Nat → Nat} {k5 d : Nat} (h : ps_wf F N) (hm : ps_mem k5 F N) (hd : d ≤ k5) : ps_wf (ps_bs F k5 d) N := by
  induction d with
  | zero => exact h
  | succ d ih =>
    have ih := ih (by omega)
    obtain ⟨i, h13, ⟨h12, a, b⟩ | ⟨h12, a, b⟩⟩ := hm (k5 - (d + 1)) (by omega)
    · have hi := h.n 2 (by decide)
      rw [ps_bs_1 rfl h12 h13 (by omega)]
      exact ps_wf_in2 2 ih a b
    · have hi := h.n 10 (by decide)
      rw [ps_bs_4 rfl h12 h13 (by omega)]
      exact ps_wf_in2 10 ih a b
/-- the first w counts are t's -/
def ps_kx (K t : Nat → Nat) (w : Nat) : Nat → Nat := fun j => if j < w then t j else K j
theorem ps_kx_0 (K t : Nat → Nat) : ps_kx K t 0 = K := by funext j; unfold ps_kx; rw [if_neg (by omega)]
theorem ps_kx_s (K t : Nat → Nat) (w : Nat) : va_up (ps_kx K t w) w (t w) = ps_kx K t (w + 1) := by
  funext j
  by_cases h : j = w
  · subst h; rw [va_up_self]; unfold ps_kx; rw [if_pos (by omega)]
  · rw [va_up_ne _ _ h]; unfold ps_kx
    by_cases h2 : j < w
    · rw [if_pos h2, if_pos (by omega)]
    · rw [if_neg h2, if_neg (by omega)]
theorem ps_kx_b {K t : Nat → Nat} {w : Nat} (h : ∀ j, K j ≤ 65536) (ht : ∀ j, j < 6 → t j ≤ 65536) (hw : w ≤ 6) : ∀ j, ps_kx K t w j ≤ 65536 := fun j => by
  unfold ps_kx; split
  · exact ht j (by omega)
  · exact h j

set_option maxHeartbeats 4000000 in
set_option maxRecDepth 100000 in
/-- PageStore.define -/
theorem c_define (l : Launch) (dC : Nat → ClassId) (dI : Nat → Nat → Nat) (cI : ClassId) (tys : List (ClassId × FieldType)) (ht : tys[0]? = some (cI, FieldType.int)) (a q K : Nat → Nat) (S : Nat) (ck cu : Int32) (F : Nat → Nat → Int32) (N : Nat → Nat) (hw : ps_wf F N) (hKb : ∀ j, K j ≤ 65536) (hSb : S ≤ 15) (d kk key kind number : Int32) (hk4 : K 4 ≤ 16384) (t b : Nat) (ht0 : t ≤ 65536) (hb0 : b ≤ 65536) (htw : ¬ S = 0 → F 0 ((S - 1) * 6 + 4) = nI t) (htb : ¬ S = 0 → F 0 ((S - 1) * 6 + 5) = nI b) (mc ms : Nat) (hm0 : (((nI 1 ≤ d ∧ d ≤ nI (K 3)) ∧ (nI 1 ≤ kk ∧ kk ≤ nI 15)) ∧ (nI 0 ≤ kind ∧ kind ≤ nI 15)) → ps_not (fun j => F 9 j = key ∧ F 8 j = kk ∧ F 7 j = d) 0 (K 4) → ¬ 16384 ≤ K 4 → ps_kc N (K 4) ≤ mc ∧ ps_ks N (K 4) ≤ ms) (hm1 : (((nI 1 ≤ d ∧ d ≤ nI (K 3)) ∧ (nI 1 ≤ kk ∧ kk ≤ nI 15)) ∧ (nI 0 ≤ kind ∧ kind ≤ nI 15)) → ∀ j : Nat, j < K 4 → (fun j => F 9 j = key ∧ F 8 j = kk ∧ F 7 j = d) j → ps_not (fun j => F 9 j = key ∧ F 8 j = kk ∧ F 7 j = d) 0 j → ps_must S t b (K 5) F 4 j → ¬ 40000 ≤ K 5 → ps_mc N (K 5) + ps_vc 16384 N 10 j ≤ mc ∧ ps_ms N (K 5) + ps_vs 16384 N 10 j ≤ ms) (hm2 : (((nI 1 ≤ d ∧ d ≤ nI (K 3)) ∧ (nI 1 ≤ kk ∧ kk ≤ nI 15)) ∧ (nI 0 ≤ kind ∧ kind ≤ nI 15)) → ∀ j : Nat, j < K 4 → (fun j => F 9 j = key ∧ F 8 j = kk ∧ F 7 j = d) j → ps_not (fun j => F 9 j = key ∧ F 8 j = kk ∧ F 7 j = d) 0 j → ¬ ps_must S t b (K 5) F 4 j → ps_vc 16384 N 10 j ≤ mc ∧ ps_vs 16384 N 10 j ≤ ms) : ps_mI classes l y_PS_define w_PS_define ({ frames := 6, cells := mc, slots := ms, locals := 133 }) (dC, dI) tys [.ref (a 0), .int d, .int kk, .int key, .int kind, .int number] (pw cI a q K S ck cu F N) (fun r u => ps_c (((nI 1 ≤ d ∧ d ≤ nI (K 3)) ∧ (nI 1 ≤ kk ∧ kk ≤ nI 15)) ∧ (nI 0 ≤ kind ∧ kind ≤ nI 15)) ((ps_not (fun j => F 9 j = key ∧ F 8 j = kk ∧ F 7 j = d) 0 (K 4) ∧ ps_c (16384 ≤ K 4) (r = -3 ∧ u = pw cI a q K S ck cu F N) (∃ q1 : Nat → Nat, r = 1 ∧ u = pw cI a q1 (va_up K 4 (K 4 + 1)) S ck cu (ps_Fk F (K 4) d kk key kind number) (ps_Nk N (K 4)))) ∨ (∃ j : Nat, j < K 4 ∧ (fun j => F 9 j = key ∧ F 8 j = kk ∧ F 7 j = d) j ∧ ps_not (fun j => F 9 j = key ∧ F 8 j = kk ∧ F 7 j = d) 0 j ∧ ps_c (ps_must S t b (K 5) F 4 j) (ps_c (40000 ≤ K 5) (r = -3 ∧ u = pw cI a q K S ck cu F N) (∃ q1 : Nat → Nat, r = 0 ∧ u = pw cI a q1 (va_up K 5 (K 5 + 1)) S ck cu (ps_Fv (ps_Fm F (K 5) (nI 4) j (F 10 j) (F 11 j)) 10 j kind number) (ps_Nv (ps_Nm N (K 5)) 10 j))) (∃ q1 : Nat → Nat, r = 0 ∧ u = pw cI a q1 K S ck cu (ps_Fv F 10 j kind number) (ps_Nv N 10 j)))) (r = -1 ∧ u = pw cI a q K S ck cu F N)) := by
  refine ps_mI_of (by decide) rfl (Nat.le_of_ble_eq_true rfl) ?_
  intro p e s m below meth c A ls C0 hA hK hP hD hS hl
  obtain ⟨hx, hb, hr, hml, hts, hown, hlocks, hin⟩ := C0
  have hl : lv_has ls 7 [(0, .ref (a 0)), (1, .int d), (2, .int kk), (3, .int key), (4, .int kind), (5, .int number)] := hl
  have hP : va_P (dC, dI) classes (pw cI a q K S ck cu F N) s.heap := hP
  have hD : va_D A (pw cI a q K S ck cu F N) := hD
  refine lv_aload_n hx hb d_PS_define_0 rfl (lv_at hl 0 rfl) ?_
  refine lv_iload_n hx hb d_PS_define_1 rfl (lv_at hl 1 rfl) ?_
  refine lv_iload_n hx hb d_PS_define_2 rfl (lv_at hl 2 rfl) ?_
  refine ps_readI (wc := (pw cI a q K S ck cu F N)) hP hD hS hA [0, 1, 2, 3, 4, 5, 6, 7, 8, 9, 10, 11, 12, 13, 14, 15, 16, 17, 18, 19, 20, 21, 22, 23, 24, 25, 26, 27, 28, 29, 30, 31, 32, 33, 34, 35, 36, 37, 38, 39] rfl (fun _ _ h => h.1) (ps_runVI ⟨hx, hb, hml, hown, hts⟩ (c_isKP l dC dI cI tys ht a q K S ck cu F N hw hKb hSb d kk) (ps_cwV ps_gd 2 hts tw_186 k_PS_isKeyPossible e_PS_isKeyPossible ⟨Nat.le_of_ble_eq_true rfl, Nat.le_of_ble_eq_true rfl⟩) hK hP hD [0, 1, 2, 3, 4, 5, 6, 7, 8, 9, 10, 11, 12, 13, 14, 15, 16, 17, 18, 19, 20, 21, 22, 23, 24, 25, 26, 27, 28, 29, 30, 31, 32, 33, 34, 35, 36, 37, 38, 39] (by decide) rfl 0 cPS rfl rfl rfl hl.1 rfl (Nat.le_of_ble_eq_true rfl) d_PS_define_3 ⟨Nat.zero_le _, Nat.zero_le _⟩) (fun r_1 H locs hr_1 hP hS => ?_)
  obtain ⟨-, hr_1⟩ := hr_1
  subst hr_1
  refine lv_if_eq (tgt := 18) hx hb d_PS_define_6 (by decide) (fun c_2 => ?_) (fun c_2 => ?_)
  · have c_2 := ps_ite0 c_2
    refine lv_iconst (v := (-1)) hx hb d_PS_define_18 (by decide) ?_
    exact ps_iret hx hb hr hlocks hK hP hD hS (Nat.zero_le _) (Nat.zero_le _) d_PS_define_19 (ps_cn (fun q => c_2 q.1) ⟨rfl, rfl⟩)
  · have c_2 := ps_ite1 c_2
    refine lv_iload hx hb d_PS_define_9 (lv_at hl 4 rfl) ?_
    refine lv_iconst (v := nI 0) hx hb d_PS_define_11 (by decide) ?_
    refine ps_readI (wc := []) hP hD hS hA [] rfl (fun _ _ h => h.1) (ps_runSI ⟨hx, hb, hml, hown, hts⟩ (c_isKind l dC dI cI tys ht kind (nI 0)) (ps_cwS ps_gd 2 hts tw_100 k_PS_isKind e_PS_isKind ⟨Nat.le_of_ble_eq_true rfl, Nat.le_of_ble_eq_true rfl⟩) hK hP hD [] (by decide) rfl rfl hl.1 rfl (Nat.le_of_ble_eq_true rfl) d_PS_define_12 ⟨Nat.zero_le _, Nat.zero_le _⟩) (fun r_3 H locs hr_3 hP hS => ?_)
    obtain ⟨-, hr_3⟩ := hr_3
    subst hr_3
    refine lv_if_ne (tgt := 20) hx hb d_PS_define_15 (by decide) (fun c_4 => ?_) (fun c_4 => ?_)
    · have c_4 := ps_ite1 c_4
      refine lv_aload_n hx hb d_PS_define_20 rfl (lv_at hl 0 rfl) ?_
      refine va_get (D := (dC, dI)) (ci := cPS) (v := .ref (a 4)) (C := R_PS) (T := F_PS) (N := 10) hx hb hts i_PS hown hK hP 0 rfl rfl 6 (by decide) (hts _ tw_104) (fun _ h9 => h9) rfl d_PS_define_21 ?_
      refine lv_iload_n hx hb d_PS_define_24 rfl (lv_at hl 1 rfl) ?_
      refine lv_iload_n hx hb d_PS_define_25 rfl (lv_at hl 2 rfl) ?_
      refine lv_iload_n hx hb d_PS_define_26 rfl (lv_at hl 3 rfl) ?_
      refine lv_aload_n hx hb d_PS_define_27 rfl (lv_at hl 0 rfl) ?_
      refine va_get (D := (dC, dI)) (ci := cPS) (v := .ref (a 1)) (C := R_PS) (T := F_PS) (N := 10) hx hb hts i_PS hown hK hP 0 rfl rfl 0 (by decide) (hts _ tw_97) (fun _ h9 => h9) rfl d_PS_define_28 ?_
      refine lv_iconst (v := nI 4) hx hb d_PS_define_31 (by decide) ?_
      refine va_iald hx hb hK hP 1 0 rfl ht (vp_in_nI (show 4 < 6 by decide) (by decide)) d_PS_define_32 ?_
      refine ps_top (z := nI (K 4)) (ps_kat _ 4 (by decide)) ?_
      refine ps_readI (wc := [(a 4, .inr (cKey, [.ref (a 15), .ref (a 16), .ref (a 17), .ref (a 5)])), (a 15, .inr (cCol, [.int (nI 16384), .ref (q 7)])), (q 7, .inl (cI, N 7, .inl (F 7))), (a 16, .inr (cCol, [.int (nI 16384), .ref (q 8)])), (q 8, .inl (cI, N 8, .inl (F 8))), (a 17, .inr (cCol, [.int (nI 16384), .ref (q 9)])), (q 9, .inl (cI, N 9, .inl (F 9))), (a 5, .inr (cVal, [.ref (a 18), .ref (a 19)])), (a 18, .inr (cCol, [.int (nI 16384), .ref (q 10)])), (q 10, .inl (cI, N 10, .inl (F 10)))]) hP hD hS hA [4, 22, 23, 24, 25, 26, 27, 5, 28, 29] rfl (fun _ _ h => h.1) (ps_runVI ⟨hx, hb, hml, hown, hts⟩ (c_kof l dC dI cI tys ht (a 4) (a 5) (a 15) (q 7) (a 16) (q 8) (a 17) (q 9) (a 18) (q 10) (a 19) 16384 (N 7) (N 8) (N 9) (N 10) (F 7) (F 8) (F 9) (F 10) d kk key (K 4) (hw.z 7 (by decide)) (hw.z 8 (by decide)) (hw.z 9 (by decide)) (hw.z 10 (by decide)) (hw.n 7 (by decide)) (hw.n 8 (by decide)) (hw.n 9 (by decide)) (hw.n 10 (by decide)) (by have b4 := hKb 4; omega)) (ps_cwV ps_gd 4 hts tw_200 k_Key_indexOf e_Key_indexOf ⟨Nat.le_of_ble_eq_true rfl, Nat.le_of_ble_eq_true rfl⟩) hK hP hD [4, 22, 23, 24, 25, 26, 27, 5, 28, 29] (by decide) rfl 0 cKey rfl rfl rfl hl.1 rfl (Nat.le_of_ble_eq_true rfl) d_PS_define_33 ⟨Nat.zero_le _, Nat.zero_le _⟩) (fun r_5 H locs hr_5 hP hS => ?_)
      obtain ⟨-, hr_5⟩ := hr_5
      rcases hr_5 with ⟨j, -, hj, hjm, hjn, hr_5⟩ | ⟨hnone, hr_5⟩
      · subst hr_5
        have hj31 : j < 2 ^ 31 := by have b4 := hKb 4; omega
        refine lv_istore (lv' := [(6, .int (nI j)), (0, .ref (a 0)), (1, .int d), (2, .int kk), (3, .int key), (4, .int kind), (5, .int number)]) hx hb d_PS_define_36 hl (by decide) rfl (fun ls hl => ?_)
        refine lv_iload hx hb d_PS_define_38 (lv_at hl 0 rfl) ?_
        refine lv_iconst (v := (-1)) hx hb d_PS_define_40 (by decide) ?_
        refine lv_icmp_ne (tgt := 56) hx hb d_PS_define_41 (by decide) (fun c_6 => ?_) (fun c_6 => ?_)
        · refine lv_aload_n hx hb d_PS_define_56 rfl (lv_at hl 1 rfl) ?_
          refine lv_iconst (v := nI 4) hx hb d_PS_define_57 (by decide) ?_
          refine lv_iload hx hb d_PS_define_58 (lv_at hl 0 rfl) ?_
          by_cases hmu : ps_must S t b (K 5) F 4 j
          · by_cases hfull : 40000 ≤ K 5
            · refine ps_afterI (wc := (pw cI a q K S ck cu F N)) (wr := []) hP hD hS hA [0, 1, 2, 3, 4, 5, 6, 7, 8, 9, 10, 11, 12, 13, 14, 15, 16, 17, 18, 19, 20, 21, 22, 23, 24, 25, 26, 27, 28, 29, 30, 31, 32, 33, 34, 35, 36, 37, 38, 39] [] rfl rfl (by decide) (by decide) (ps_runVI ⟨hx, hb, hml, hown, hts⟩ (c_rem4 l dC dI cI tys ht a q K S ck cu F N hw hKb hSb j t b ht0 hb0 hj31 htw htb 0 0 (fun _ q => absurd hfull q)) (ps_cwV ps_gd 2 hts tw_184 k_PS_remember e_PS_remember ⟨Nat.le_of_ble_eq_true rfl, Nat.le_of_ble_eq_true rfl⟩) hK hP hD [0, 1, 2, 3, 4, 5, 6, 7, 8, 9, 10, 11, 12, 13, 14, 15, 16, 17, 18, 19, 20, 21, 22, 23, 24, 25, 26, 27, 28, 29, 30, 31, 32, 33, 34, 35, 36, 37, 38, 39] (by decide) rfl 0 cPS rfl rfl rfl hl.1 rfl (Nat.le_of_ble_eq_true rfl) d_PS_define_60 ⟨by show 0 + 0 + 0 + 0 ≤ mc; omega, by show 0 + 0 + 0 + 0 ≤ ms; omega⟩) (fun r_8 u_7 H locs hu_7 hP hD hS => ?_)
              obtain ⟨hr_8, vu_7⟩ := (hu_7.y hmu).y hfull
              subst hr_8
              subst vu_7
              have hP : va_P (dC, dI) classes (pw cI a q K S ck cu F N) H := hP
              have hD : va_D A (pw cI a q K S ck cu F N) := hD
              refine lv_if_ne (tgt := 69) hx hb d_PS_define_63 (by decide) (fun c_9 => ?_) (fun c_9 => ?_)
              · exact absurd rfl c_9
              · refine lv_bipush (v := (-3)) hx hb d_PS_define_66 (by decide) ?_
                exact ps_iret hx hb hr hlocks hK hP hD hS (Nat.zero_le _) (Nat.zero_le _) d_PS_define_68 (ps_cy ⟨c_2, c_4⟩ (Or.inr ⟨j, hj, hjm, hjn, ps_cy hmu (ps_cy hfull ⟨rfl, rfl⟩)⟩))
            · have hpay := hm1 ⟨c_2, c_4⟩ j hj hjm hjn hmu hfull
              refine ps_afterI (wc := (pw cI a q K S ck cu F N)) (wr := []) hP hD hS hA [0, 1, 2, 3, 4, 5, 6, 7, 8, 9, 10, 11, 12, 13, 14, 15, 16, 17, 18, 19, 20, 21, 22, 23, 24, 25, 26, 27, 28, 29, 30, 31, 32, 33, 34, 35, 36, 37, 38, 39] [] rfl rfl (by decide) (by decide) (ps_runVI ⟨hx, hb, hml, hown, hts⟩ (c_rem4 l dC dI cI tys ht a q K S ck cu F N hw hKb hSb j t b ht0 hb0 hj31 htw htb (ps_mc N (K 5)) (ps_ms N (K 5)) (fun _ _ => ⟨Nat.le_refl _, Nat.le_refl _⟩)) (ps_cwV ps_gd 2 hts tw_184 k_PS_remember e_PS_remember ⟨Nat.le_of_ble_eq_true rfl, Nat.le_of_ble_eq_true rfl⟩) hK hP hD [0, 1, 2, 3, 4, 5, 6, 7, 8, 9, 10, 11, 12, 13, 14, 15, 16, 17, 18, 19, 20, 21, 22, 23, 24, 25, 26, 27, 28, 29, 30, 31, 32, 33, 34, 35, 36, 37, 38, 39] (by decide) rfl 0 cPS rfl rfl rfl hl.1 rfl (Nat.le_of_ble_eq_true rfl) d_PS_define_60 ⟨by show 0 + 0 + 0 + ps_mc N (K 5) ≤ mc; omega, by show 0 + 0 + 0 + ps_ms N (K 5) ≤ ms; omega⟩) (fun r_11 u_10 H locs hu_10 hP hD hS => ?_)
              obtain ⟨q_12, hr_11, vu_10⟩ := (hu_10.y hmu).n hfull
              subst hr_11
              subst vu_10
              have hP : va_P (dC, dI) classes (pw cI a q_12 (va_up K 5 (K 5 + 1)) S ck cu (va_up (va_up (va_up (va_up F 12 (upd (F 12) (K 5) (nI 4))) 13 (upd (F 13) (K 5) (nI j))) 14 (upd (F 14) (K 5) (F 10 j))) 15 (upd (F 15) (K 5) (if F 10 j = 0 then 0 else F 11 j))) (va_up (va_up (va_up (va_up N 12 (ps_len 40000 (N 12) (K 5))) 13 (ps_len 40000 (N 13) (K 5))) 14 (ps_len 40000 (N 14) (K 5))) 15 (ps_len 40000 (N 15) (K 5)))) H := hP
              have hD : va_D A (pw cI a q_12 (va_up K 5 (K 5 + 1)) S ck cu (va_up (va_up (va_up (va_up F 12 (upd (F 12) (K 5) (nI 4))) 13 (upd (F 13) (K 5) (nI j))) 14 (upd (F 14) (K 5) (F 10 j))) 15 (upd (F 15) (K 5) (if F 10 j = 0 then 0 else F 11 j))) (va_up (va_up (va_up (va_up N 12 (ps_len 40000 (N 12) (K 5))) 13 (ps_len 40000 (N 13) (K 5))) 14 (ps_len 40000 (N 14) (K 5))) 15 (ps_len 40000 (N 15) (K 5)))) := hD
              refine lv_if_ne (tgt := 69) hx hb d_PS_define_63 (by decide) (fun c_13 => ?_) (fun c_13 => ?_)
              · refine lv_aload_n hx hb d_PS_define_69 rfl (lv_at hl 1 rfl) ?_
                refine va_get (D := (dC, dI)) (ci := cPS) (v := .ref (a 4)) (C := R_PS) (T := F_PS) (N := 10) hx hb hts i_PS hown hK hP 0 rfl rfl 6 (by decide) (hts _ tw_104) (fun _ h9 => h9) rfl d_PS_define_70 ?_
                refine va_get (D := (dC, dI)) (ci := cKey) (v := .ref (a 5)) (C := R_Key) (T := F_Key) (N := 4) hx hb hts i_Key hown hK hP 4 rfl rfl 3 (by decide) (hts _ tw_105) (fun _ h9 => h9) rfl d_PS_define_73 ?_
                refine lv_iload hx hb d_PS_define_76 (lv_at hl 0 rfl) ?_
                refine lv_iload hx hb d_PS_define_78 (lv_at hl 5 rfl) ?_
                refine lv_iload hx hb d_PS_define_80 (lv_at hl 6 rfl) ?_
                have hilim : j < 16384 := by omega
                have hw9 := ps_wf_m (o := nI 4) (i := j) (v := F 10 j) (w := F 11 j) hw (show K 5 < 40000 by omega)
                refine ps_afterV (wc := [(a 5, .inr (cVal, [.ref (a 18), .ref (a 19)])), (a 18, .inr (cCol, [.int (nI 16384), .ref (q_12 10)])), (q_12 10, .inl (cI, N 10, .inl (F 10))), (a 19, .inr (cCol, [.int (nI 16384), .ref (q_12 11)])), (q_12 11, .inl (cI, N 11, .inl (F 11)))]) (wr := [0, 1, 2, 3, 4, 6, 7, 8, 9, 10, 11, 12, 13, 14, 15, 16, 17, 18, 19, 20, 21, 22, 23, 24, 25, 26, 27, 32, 33, 34, 35, 36, 37, 38, 39].filterMap (fun z9 => ((pw cI a q_12 (va_up K 5 (K 5 + 1)) S ck cu (va_up (va_up (va_up (va_up F 12 (upd (F 12) (K 5) (nI 4))) 13 (upd (F 13) (K 5) (nI j))) 14 (upd (F 14) (K 5) (F 10 j))) 15 (upd (F 15) (K 5) (if F 10 j = 0 then 0 else F 11 j))) (va_up (va_up (va_up (va_up N 12 (ps_len 40000 (N 12) (K 5))) 13 (ps_len 40000 (N 13) (K 5))) 14 (ps_len 40000 (N 14) (K 5))) 15 (ps_len 40000 (N 15) (K 5)))) : va_W)[z9]?)) hP hD hS hA [5, 28, 29, 30, 31] [0, 1, 2, 3, 4, 6, 7, 8, 9, 10, 11, 12, 13, 14, 15, 16, 17, 18, 19, 20, 21, 22, 23, 24, 25, 26, 27, 32, 33, 34, 35, 36, 37, 38, 39] rfl rfl (by decide) (by decide) (ps_runVV ⟨hx, hb, hml, hown, hts⟩ (c_vwrite l dC dI cI tys ht (a 5) (a 18) (q_12 10) (a 19) (q_12 11) 16384 (N 10) (N 11) (F 10) (F 11) j kind number (hw.z 10 (by decide)) (hw.z 11 (by decide)) (by decide) (hw 10 (by decide)).2 (hw 11 (by decide)).2 hilim) (ps_cwV ps_gd 3 hts tw_159 k_Val_write e_Val_write ⟨Nat.le_of_ble_eq_true rfl, Nat.le_of_ble_eq_true rfl⟩) hK hP hD [5, 28, 29, 30, 31] (by decide) rfl 0 cVal rfl rfl rfl hl.1 rfl (Nat.le_of_ble_eq_true rfl) d_PS_define_82 ⟨by show 0 + 0 + 0 + ps_mc N (K 5) + ps_vc 16384 N 10 j ≤ mc; omega, by show 0 + 0 + 0 + ps_ms N (K 5) + ps_vs 16384 N 10 j ≤ ms; omega⟩) (fun u_14 H locs hu_14 hP hD hS => ?_)
                obtain ⟨q_16, q_17, hu_14⟩ := hu_14
                subst hu_14
                obtain ⟨hP, hD⟩ := ps_perm (ws' := (pw cI a (va_up (va_up q_12 10 q_16) 11 q_17) (va_up K 5 (K 5 + 1)) S ck cu (va_up (va_up (va_up (va_up (va_up (va_up F 12 (upd (F 12) (K 5) (nI 4))) 13 (upd (F 13) (K 5) (nI j))) 14 (upd (F 14) (K 5) (F 10 j))) 15 (upd (F 15) (K 5) (if F 10 j = 0 then 0 else F 11 j))) 10 (upd (F 10) j kind)) 11 (upd (F 11) j (if kind = 0 then 0 else number))) (va_up (va_up (va_up (va_up (va_up (va_up N 12 (ps_len 40000 (N 12) (K 5))) 13 (ps_len 40000 (N 13) (K 5))) 14 (ps_len 40000 (N 14) (K 5))) 15 (ps_len 40000 (N 15) (K 5))) 10 (ps_len 16384 (N 10) j)) 11 (ps_len 16384 (N 11) j)))) hP hD [0, 1, 2, 3, 4, 35, 5, 6, 7, 8, 9, 10, 11, 12, 13, 14, 15, 16, 17, 18, 19, 20, 21, 22, 23, 24, 25, 26, 36, 37, 38, 39, 27, 28, 29, 30, 31, 32, 33, 34] (by decide) rfl
                refine lv_iconst (v := 0) hx hb d_PS_define_85 (by decide) ?_
                exact ps_iret hx hb hr hlocks hK hP hD hS (by show 0 + 0 + 0 + ps_mc N (K 5) + ps_vc 16384 N 10 j ≤ mc; omega) (by show 0 + 0 + 0 + ps_ms N (K 5) + ps_vs 16384 N 10 j ≤ ms; omega) d_PS_define_86 (ps_cy ⟨c_2, c_4⟩ (Or.inr ⟨j, hj, hjm, hjn, ps_cy hmu (ps_cn hfull ⟨(va_up (va_up q_12 10 q_16) 11 q_17), rfl, rfl⟩)⟩))
              · exact absurd c_13 (by decide)
          · have hpay := hm2 ⟨c_2, c_4⟩ j hj hjm hjn hmu
            refine ps_afterI (wc := (pw cI a q K S ck cu F N)) (wr := []) hP hD hS hA [0, 1, 2, 3, 4, 5, 6, 7, 8, 9, 10, 11, 12, 13, 14, 15, 16, 17, 18, 19, 20, 21, 22, 23, 24, 25, 26, 27, 28, 29, 30, 31, 32, 33, 34, 35, 36, 37, 38, 39] [] rfl rfl (by decide) (by decide) (ps_runVI ⟨hx, hb, hml, hown, hts⟩ (c_rem4 l dC dI cI tys ht a q K S ck cu F N hw hKb hSb j t b ht0 hb0 hj31 htw htb 0 0 (fun q => absurd q hmu)) (ps_cwV ps_gd 2 hts tw_184 k_PS_remember e_PS_remember ⟨Nat.le_of_ble_eq_true rfl, Nat.le_of_ble_eq_true rfl⟩) hK hP hD [0, 1, 2, 3, 4, 5, 6, 7, 8, 9, 10, 11, 12, 13, 14, 15, 16, 17, 18, 19, 20, 21, 22, 23, 24, 25, 26, 27, 28, 29, 30, 31, 32, 33, 34, 35, 36, 37, 38, 39] (by decide) rfl 0 cPS rfl rfl rfl hl.1 rfl (Nat.le_of_ble_eq_true rfl) d_PS_define_60 ⟨by show 0 + 0 + 0 + 0 ≤ mc; omega, by show 0 + 0 + 0 + 0 ≤ ms; omega⟩) (fun r_19 u_18 H locs hu_18 hP hD hS => ?_)
            obtain ⟨hr_19, vu_18⟩ := hu_18.n hmu
            subst hr_19
            subst vu_18
            have hP : va_P (dC, dI) classes (pw cI a q K S ck cu F N) H := hP
            have hD : va_D A (pw cI a q K S ck cu F N) := hD
            refine lv_if_ne (tgt := 69) hx hb d_PS_define_63 (by decide) (fun c_20 => ?_) (fun c_20 => ?_)
            · refine lv_aload_n hx hb d_PS_define_69 rfl (lv_at hl 1 rfl) ?_
              refine va_get (D := (dC, dI)) (ci := cPS) (v := .ref (a 4)) (C := R_PS) (T := F_PS) (N := 10) hx hb hts i_PS hown hK hP 0 rfl rfl 6 (by decide) (hts _ tw_104) (fun _ h9 => h9) rfl d_PS_define_70 ?_
              refine va_get (D := (dC, dI)) (ci := cKey) (v := .ref (a 5)) (C := R_Key) (T := F_Key) (N := 4) hx hb hts i_Key hown hK hP 4 rfl rfl 3 (by decide) (hts _ tw_105) (fun _ h9 => h9) rfl d_PS_define_73 ?_
              refine lv_iload hx hb d_PS_define_76 (lv_at hl 0 rfl) ?_
              refine lv_iload hx hb d_PS_define_78 (lv_at hl 5 rfl) ?_
              refine lv_iload hx hb d_PS_define_80 (lv_at hl 6 rfl) ?_
              have hilim : j < 16384 := by omega
              refine ps_afterV (wc := [(a 5, .inr (cVal, [.ref (a 18), .ref (a 19)])), (a 18, .inr (cCol, [.int (nI 16384), .ref (q 10)])), (q 10, .inl (cI, N 10, .inl (F 10))), (a 19, .inr (cCol, [.int (nI 16384), .ref (q 11)])), (q 11, .inl (cI, N 11, .inl (F 11)))]) (wr := [0, 1, 2, 3, 4, 6, 7, 8, 9, 10, 11, 12, 13, 14, 15, 16, 17, 18, 19, 20, 21, 22, 23, 24, 25, 26, 27, 32, 33, 34, 35, 36, 37, 38, 39].filterMap (fun z9 => ((pw cI a q K S ck cu F N) : va_W)[z9]?)) hP hD hS hA [5, 28, 29, 30, 31] [0, 1, 2, 3, 4, 6, 7, 8, 9, 10, 11, 12, 13, 14, 15, 16, 17, 18, 19, 20, 21, 22, 23, 24, 25, 26, 27, 32, 33, 34, 35, 36, 37, 38, 39] rfl rfl (by decide) (by decide) (ps_runVV ⟨hx, hb, hml, hown, hts⟩ (c_vwrite l dC dI cI tys ht (a 5) (a 18) (q 10) (a 19) (q 11) 16384 (N 10) (N 11) (F 10) (F 11) j kind number (hw.z 10 (by decide)) (hw.z 11 (by decide)) (by decide) (hw 10 (by decide)).2 (hw 11 (by decide)).2 hilim) (ps_cwV ps_gd 3 hts tw_159 k_Val_write e_Val_write ⟨Nat.le_of_ble_eq_true rfl, Nat.le_of_ble_eq_true rfl⟩) hK hP hD [5, 28, 29, 30, 31] (by decide) rfl 0 cVal rfl rfl rfl hl.1 rfl (Nat.le_of_ble_eq_true rfl) d_PS_define_82 ⟨by show 0 + 0 + 0 + 0 + ps_vc 16384 N 10 j ≤ mc; omega, by show 0 + 0 + 0 + 0 + ps_vs 16384 N 10 j ≤ ms; omega⟩) (fun u_21 H locs hu_21 hP hD hS => ?_)
              obtain ⟨q_23, q_24, hu_21⟩ := hu_21
              subst hu_21
              obtain ⟨hP, hD⟩ := ps_perm (ws' := (pw cI a (va_up (va_up q 10 q_23) 11 q_24) K S ck cu (va_up (va_up F 10 (upd (F 10) j kind)) 11 (upd (F 11) j (if kind = 0 then 0 else number))) (va_up (va_up N 10 (ps_len 16384 (N 10) j)) 11 (ps_len 16384 (N 11) j)))) hP hD [0, 1, 2, 3, 4, 35, 5, 6, 7, 8, 9, 10, 11, 12, 13, 14, 15, 16, 17, 18, 19, 20, 21, 22, 23, 24, 25, 26, 36, 37, 38, 39, 27, 28, 29, 30, 31, 32, 33, 34] (by decide) rfl
              refine lv_iconst (v := 0) hx hb d_PS_define_85 (by decide) ?_
              exact ps_iret hx hb hr hlocks hK hP hD hS (by show 0 + 0 + 0 + 0 + ps_vc 16384 N 10 j ≤ mc; omega) (by show 0 + 0 + 0 + 0 + ps_vs 16384 N 10 j ≤ ms; omega) d_PS_define_86 (ps_cy ⟨c_2, c_4⟩ (Or.inr ⟨j, hj, hjm, hjn, ps_cn hmu ⟨(va_up (va_up q 10 q_23) 11 q_24), rfl, rfl⟩⟩))
            · exact absurd c_20 (by decide)
        · exact absurd c_6 (ps_m1 hj31)
      · subst hr_5
        refine lv_istore (lv' := [(6, .int (-1)), (0, .ref (a 0)), (1, .int d), (2, .int kk), (3, .int key), (4, .int kind), (5, .int number)]) hx hb d_PS_define_36 hl (by decide) rfl (fun ls hl => ?_)
        refine lv_iload hx hb d_PS_define_38 (lv_at hl 0 rfl) ?_
        refine lv_iconst (v := (-1)) hx hb d_PS_define_40 (by decide) ?_
        refine lv_icmp_ne (tgt := 56) hx hb d_PS_define_41 (by decide) (fun c_25 => ?_) (fun c_25 => ?_)
        · exact absurd rfl c_25
        · refine lv_aload_n hx hb d_PS_define_44 rfl (lv_at hl 1 rfl) ?_
          refine lv_iload_n hx hb d_PS_define_45 rfl (lv_at hl 2 rfl) ?_
          refine lv_iload_n hx hb d_PS_define_46 rfl (lv_at hl 3 rfl) ?_
          refine lv_iload_n hx hb d_PS_define_47 rfl (lv_at hl 4 rfl) ?_
          refine lv_iload hx hb d_PS_define_48 (lv_at hl 5 rfl) ?_
          refine lv_iload hx hb d_PS_define_50 (lv_at hl 6 rfl) ?_
          by_cases hfk : 16384 ≤ K 4
          · refine ps_afterI (wc := (pw cI a q K S ck cu F N)) (wr := []) hP hD hS hA [0, 1, 2, 3, 4, 5, 6, 7, 8, 9, 10, 11, 12, 13, 14, 15, 16, 17, 18, 19, 20, 21, 22, 23, 24, 25, 26, 27, 28, 29, 30, 31, 32, 33, 34, 35, 36, 37, 38, 39] [] rfl rfl (by decide) (by decide) (ps_runVI ⟨hx, hb, hml, hown, hts⟩ (c_addKey l dC dI cI tys ht a q K S ck cu F N hw hKb hSb d kk key kind number 0 0 (fun q => absurd hfk q)) (ps_cwV ps_gd 5 hts tw_201 k_PS_addKey e_PS_addKey ⟨Nat.le_of_ble_eq_true rfl, Nat.le_of_ble_eq_true rfl⟩) hK hP hD [0, 1, 2, 3, 4, 5, 6, 7, 8, 9, 10, 11, 12, 13, 14, 15, 16, 17, 18, 19, 20, 21, 22, 23, 24, 25, 26, 27, 28, 29, 30, 31, 32, 33, 34, 35, 36, 37, 38, 39] (by decide) rfl 0 cPS rfl rfl rfl hl.1 rfl (Nat.le_of_ble_eq_true rfl) d_PS_define_52 ⟨by show 0 + 0 + 0 + 0 ≤ mc; omega, by show 0 + 0 + 0 + 0 ≤ ms; omega⟩) (fun r_27 u_26 H locs hu_26 hP hD hS => ?_)
            obtain ⟨hr_27, vu_26⟩ := hu_26.y hfk
            subst hr_27
            subst vu_26
            have hP : va_P (dC, dI) classes (pw cI a q K S ck cu F N) H := hP
            have hD : va_D A (pw cI a q K S ck cu F N) := hD
            exact ps_iret hx hb hr hlocks hK hP hD hS (by show 0 + 0 + 0 + 0 ≤ mc; omega) (by show 0 + 0 + 0 + 0 ≤ ms; omega) d_PS_define_55 (ps_cy ⟨c_2, c_4⟩ (Or.inl ⟨hnone, ps_cy hfk ⟨rfl, rfl⟩⟩))
          · have hpay := hm0 ⟨c_2, c_4⟩ hnone hfk
            refine ps_afterI (wc := (pw cI a q K S ck cu F N)) (wr := []) hP hD hS hA [0, 1, 2, 3, 4, 5, 6, 7, 8, 9, 10, 11, 12, 13, 14, 15, 16, 17, 18, 19, 20, 21, 22, 23, 24, 25, 26, 27, 28, 29, 30, 31, 32, 33, 34, 35, 36, 37, 38, 39] [] rfl rfl (by decide) (by decide) (ps_runVI ⟨hx, hb, hml, hown, hts⟩ (c_addKey l dC dI cI tys ht a q K S ck cu F N hw hKb hSb d kk key kind number (ps_kc N (K 4)) (ps_ks N (K 4)) (fun _ => ⟨Nat.le_refl _, Nat.le_refl _⟩)) (ps_cwV ps_gd 5 hts tw_201 k_PS_addKey e_PS_addKey ⟨Nat.le_of_ble_eq_true rfl, Nat.le_of_ble_eq_true rfl⟩) hK hP hD [0, 1, 2, 3, 4, 5, 6, 7, 8, 9, 10, 11, 12, 13, 14, 15, 16, 17, 18, 19, 20, 21, 22, 23, 24, 25, 26, 27, 28, 29, 30, 31, 32, 33, 34, 35, 36, 37, 38, 39] (by decide) rfl 0 cPS rfl rfl rfl hl.1 rfl (Nat.le_of_ble_eq_true rfl) d_PS_define_52 ⟨by show 0 + 0 + 0 + ps_kc N (K 4) ≤ mc; omega, by show 0 + 0 + 0 + ps_ks N (K 4) ≤ ms; omega⟩) (fun r_29 u_28 H locs hu_28 hP hD hS => ?_)
            obtain ⟨q_30, hr_29, vu_28⟩ := hu_28.n hfk
            subst hr_29
            subst vu_28
            have hP : va_P (dC, dI) classes (pw cI a q_30 (va_up K 4 (K 4 + 1)) S ck cu (va_up (va_up (va_up (va_up (va_up F 7 (upd (F 7) (K 4) (d))) 8 (upd (F 8) (K 4) (kk))) 9 (upd (F 9) (K 4) (key))) 10 (upd (F 10) (K 4) (kind))) 11 (upd (F 11) (K 4) (if kind = 0 then 0 else number))) (va_up (va_up (va_up (va_up (va_up N 7 (ps_len 16384 (N 7) (K 4))) 8 (ps_len 16384 (N 8) (K 4))) 9 (ps_len 16384 (N 9) (K 4))) 10 (ps_len 16384 (N 10) (K 4))) 11 (ps_len 16384 (N 11) (K 4)))) H := hP
            have hD : va_D A (pw cI a q_30 (va_up K 4 (K 4 + 1)) S ck cu (va_up (va_up (va_up (va_up (va_up F 7 (upd (F 7) (K 4) (d))) 8 (upd (F 8) (K 4) (kk))) 9 (upd (F 9) (K 4) (key))) 10 (upd (F 10) (K 4) (kind))) 11 (upd (F 11) (K 4) (if kind = 0 then 0 else number))) (va_up (va_up (va_up (va_up (va_up N 7 (ps_len 16384 (N 7) (K 4))) 8 (ps_len 16384 (N 8) (K 4))) 9 (ps_len 16384 (N 9) (K 4))) 10 (ps_len 16384 (N 10) (K 4))) 11 (ps_len 16384 (N 11) (K 4)))) := hD
            exact ps_iret hx hb hr hlocks hK hP hD hS (by show 0 + 0 + 0 + ps_kc N (K 4) ≤ mc; omega) (by show 0 + 0 + 0 + ps_ks N (K 4) ≤ ms; omega) d_PS_define_55 (ps_cy ⟨c_2, c_4⟩ (Or.inl ⟨hnone, ps_cn hfk ⟨q_30, rfl, rfl⟩⟩))
    · have c_4 := ps_ite0 c_4
      refine lv_iconst (v := (-1)) hx hb d_PS_define_18 (by decide) ?_
      exact ps_iret hx hb hr hlocks hK hP hD hS (Nat.zero_le _) (Nat.zero_le _) d_PS_define_19 (ps_cn (fun q => c_4 q.2) ⟨rfl, rfl⟩)

set_option maxHeartbeats 4000000 in
set_option maxRecDepth 100000 in
/-- PageStore.next -/
theorem c_next (l : Launch) (dC : Nat → ClassId) (dI : Nat → Nat → Nat) (cI : ClassId) (tys : List (ClassId × FieldType)) (ht : tys[0]? = some (cI, FieldType.int)) (a q K : Nat → Nat) (S : Nat) (ck cu : Int32) (F : Nat → Nat → Int32) (N : Nat → Nat) (hw : ps_wf F N) (hKb : ∀ j, K j ≤ 65536) (hSb : S ≤ 15) (d kk key : Int32) : ps_mI classes l y_PS_next w_PS_next ({ frames := 3, cells := 0, slots := 0, locals := 67 }) (dC, dI) tys [.ref (a 0), .int d, .int kk, .int key] (pw cI a q K S ck cu F N) (fun r u => ps_c ((nI 1 ≤ d ∧ d ≤ nI (K 3)) ∧ (nI 0 ≤ kk ∧ kk ≤ nI 15)) (ps_c (kk = 0) ((∃ p0 : Nat, 0 ≤ p0 ∧ p0 < K 4 ∧ (fun j => F 7 j = d ∧ ¬ F 10 j = -1) p0 ∧ ps_not (fun j => F 7 j = d ∧ ¬ F 10 j = -1) (0) p0 ∧ r = 1 ∧ u = pw cI a q K S (F 8 p0) (F 9 p0) F N) ∨ (ps_not (fun j => F 7 j = d ∧ ¬ F 10 j = -1) (0) (K 4) ∧ r = 0 ∧ u = pw cI a q K S 0 0 F N)) ((ps_not (fun j => F 9 j = key ∧ F 8 j = kk ∧ F 7 j = d) 0 (K 4) ∧ r = -2 ∧ u = pw cI a q K S ck cu F N) ∨ (∃ j : Nat, j < K 4 ∧ (fun j => F 9 j = key ∧ F 8 j = kk ∧ F 7 j = d) j ∧ ps_not (fun j => F 9 j = key ∧ F 8 j = kk ∧ F 7 j = d) 0 j ∧ ((∃ p0 : Nat, j + 1 ≤ p0 ∧ p0 < K 4 ∧ (fun j => F 7 j = d ∧ ¬ F 10 j = -1) p0 ∧ ps_not (fun j => F 7 j = d ∧ ¬ F 10 j = -1) (j + 1) p0 ∧ r = 1 ∧ u = pw cI a q K S (F 8 p0) (F 9 p0) F N) ∨ (ps_not (fun j => F 7 j = d ∧ ¬ F 10 j = -1) (j + 1) (K 4) ∧ r = 0 ∧ u = pw cI a q K S 0 0 F N))))) (r = -1 ∧ u = pw cI a q K S ck cu F N)) := by
  refine ps_mI_of (by decide) rfl (Nat.le_of_ble_eq_true rfl) ?_
  intro p e s m below meth c A ls C0 hA hK hP hD hS hl
  obtain ⟨hx, hb, hr, hml, hts, hown, hlocks, hin⟩ := C0
  have hl : lv_has ls 6 [(0, .ref (a 0)), (1, .int d), (2, .int kk), (3, .int key)] := hl
  have hP : va_P (dC, dI) classes (pw cI a q K S ck cu F N) s.heap := hP
  have hD : va_D A (pw cI a q K S ck cu F N) := hD
  refine lv_aload_n hx hb d_PS_next_0 rfl (lv_at hl 0 rfl) ?_
  refine lv_iload_n hx hb d_PS_next_1 rfl (lv_at hl 1 rfl) ?_
  refine ps_readI (wc := (pw cI a q K S ck cu F N)) hP hD hS hA [0, 1, 2, 3, 4, 5, 6, 7, 8, 9, 10, 11, 12, 13, 14, 15, 16, 17, 18, 19, 20, 21, 22, 23, 24, 25, 26, 27, 28, 29, 30, 31, 32, 33, 34, 35, 36, 37, 38, 39] rfl (fun _ _ h => h.1) (ps_runVI ⟨hx, hb, hml, hown, hts⟩ (c_isDic l dC dI cI tys ht a q K S ck cu F N hw hKb hSb d) (ps_cwV ps_gd 1 hts tw_99 k_PS_isDictionary e_PS_isDictionary ⟨Nat.le_of_ble_eq_true rfl, Nat.le_of_ble_eq_true rfl⟩) hK hP hD [0, 1, 2, 3, 4, 5, 6, 7, 8, 9, 10, 11, 12, 13, 14, 15, 16, 17, 18, 19, 20, 21, 22, 23, 24, 25, 26, 27, 28, 29, 30, 31, 32, 33, 34, 35, 36, 37, 38, 39] (by decide) rfl 0 cPS rfl rfl rfl hl.1 rfl (Nat.le_of_ble_eq_true rfl) d_PS_next_2 ⟨Nat.zero_le _, Nat.zero_le _⟩) (fun r_1 H locs hr_1 hP hS => ?_)
  obtain ⟨-, hr_1⟩ := hr_1
  subst hr_1
  refine lv_if_eq (tgt := 16) hx hb d_PS_next_5 (by decide) (fun c_2 => ?_) (fun c_2 => ?_)
  · have c_2 := ps_ite0 c_2
    refine lv_iconst (v := (-1)) hx hb d_PS_next_16 (by decide) ?_
    exact ps_iret hx hb hr hlocks hK hP hD hS (Nat.le_of_ble_eq_true rfl) (Nat.le_of_ble_eq_true rfl) d_PS_next_17 (ps_cn (fun q => c_2 q.1) ⟨rfl, rfl⟩)
  · have c_2 := ps_ite1 c_2
    refine lv_iload_n hx hb d_PS_next_8 rfl (lv_at hl 2 rfl) ?_
    refine lv_iconst (v := nI 0) hx hb d_PS_next_9 (by decide) ?_
    refine ps_readI (wc := []) hP hD hS hA [] rfl (fun _ _ h => h.1) (ps_runSI ⟨hx, hb, hml, hown, hts⟩ (c_isKind l dC dI cI tys ht kk (nI 0)) (ps_cwS ps_gd 2 hts tw_100 k_PS_isKind e_PS_isKind ⟨Nat.le_of_ble_eq_true rfl, Nat.le_of_ble_eq_true rfl⟩) hK hP hD [] (by decide) rfl rfl hl.1 rfl (Nat.le_of_ble_eq_true rfl) d_PS_next_10 ⟨Nat.zero_le _, Nat.zero_le _⟩) (fun r_3 H locs hr_3 hP hS => ?_)
    obtain ⟨-, hr_3⟩ := hr_3
    subst hr_3
    refine lv_if_ne (tgt := 18) hx hb d_PS_next_13 (by decide) (fun c_4 => ?_) (fun c_4 => ?_)
    · have c_4 := ps_ite1 c_4
      refine lv_iconst (v := nI 0) hx hb d_PS_next_18 (by decide) ?_
      refine lv_istore (lv' := [(4, .int (nI 0)), (0, .ref (a 0)), (1, .int d), (2, .int kk), (3, .int key)]) hx hb d_PS_next_19 hl (by decide) rfl (fun ls hl => ?_)
      refine lv_iload_n hx hb d_PS_next_21 rfl (lv_at hl 3 rfl) ?_
      refine lv_if_eq (tgt := 58) hx hb d_PS_next_22 (by decide) (fun c_5 => ?_) (fun c_5 => ?_)
      · refine lv_aload_n hx hb d_PS_next_58 rfl (lv_at hl 1 rfl) ?_
        refine lv_aload_n hx hb d_PS_next_59 rfl (lv_at hl 1 rfl) ?_
        refine va_get (D := (dC, dI)) (ci := cPS) (v := .ref (a 4)) (C := R_PS) (T := F_PS) (N := 10) hx hb hts i_PS hown hK hP 0 rfl rfl 6 (by decide) (hts _ tw_104) (fun _ h9 => h9) rfl d_PS_next_60 ?_
        refine lv_iload_n hx hb d_PS_next_63 rfl (lv_at hl 2 rfl) ?_
        refine lv_iload hx hb d_PS_next_64 (lv_at hl 0 rfl) ?_
        refine lv_aload_n hx hb d_PS_next_66 rfl (lv_at hl 1 rfl) ?_
        refine va_get (D := (dC, dI)) (ci := cPS) (v := .ref (a 1)) (C := R_PS) (T := F_PS) (N := 10) hx hb hts i_PS hown hK hP 0 rfl rfl 0 (by decide) (hts _ tw_97) (fun _ h9 => h9) rfl d_PS_next_67 ?_
        refine lv_iconst (v := nI 4) hx hb d_PS_next_70 (by decide) ?_
        refine va_iald hx hb hK hP 1 0 rfl ht (vp_in_nI (show 4 < 6 by decide) (by decide)) d_PS_next_71 ?_
        refine ps_top (z := nI (K 4)) (ps_kat _ 4 (by decide)) ?_
        refine ps_readI (wc := [(a 4, .inr (cKey, [.ref (a 15), .ref (a 16), .ref (a 17), .ref (a 5)])), (a 15, .inr (cCol, [.int (nI 16384), .ref (q 7)])), (q 7, .inl (cI, N 7, .inl (F 7))), (a 16, .inr (cCol, [.int (nI 16384), .ref (q 8)])), (q 8, .inl (cI, N 8, .inl (F 8))), (a 17, .inr (cCol, [.int (nI 16384), .ref (q 9)])), (q 9, .inl (cI, N 9, .inl (F 9))), (a 5, .inr (cVal, [.ref (a 18), .ref (a 19)])), (a 18, .inr (cCol, [.int (nI 16384), .ref (q 10)])), (q 10, .inl (cI, N 10, .inl (F 10)))]) hP hD hS hA [4, 22, 23, 24, 25, 26, 27, 5, 28, 29] rfl (fun _ _ h => h.1) (ps_runVI ⟨hx, hb, hml, hown, hts⟩ (c_kfirst l dC dI cI tys ht (a 4) (a 5) (a 15) (q 7) (a 16) (q 8) (a 17) (q 9) (a 18) (q 10) (a 19) 16384 (N 7) (N 8) (N 9) (N 10) (F 7) (F 8) (F 9) (F 10) d 0 (K 4) (hw.z 7 (by decide)) (hw.z 8 (by decide)) (hw.z 9 (by decide)) (hw.z 10 (by decide)) (hw.n 7 (by decide)) (hw.n 8 (by decide)) (hw.n 9 (by decide)) (hw.n 10 (by decide)) (by have b4 := hKb 4; omega) (by have b4 := hKb 4; omega)) (ps_cwV ps_gd 3 hts tw_202 k_Key_firstThere e_Key_firstThere ⟨Nat.le_of_ble_eq_true rfl, Nat.le_of_ble_eq_true rfl⟩) hK hP hD [4, 22, 23, 24, 25, 26, 27, 5, 28, 29] (by decide) rfl 0 cKey rfl rfl rfl hl.1 rfl (Nat.le_of_ble_eq_true rfl) d_PS_next_72 ⟨Nat.zero_le _, Nat.zero_le _⟩) (fun r_6 H locs hr_6 hP hS => ?_)
        obtain ⟨-, hr_6⟩ := hr_6
        rcases hr_6 with ⟨p0, hp1, hp2, hp3, hp4, hr_6⟩ | ⟨hend, hr_6⟩
        · subst hr_6
          refine ps_afterI (wc := (pw cI a q K S ck cu F N)) (wr := []) hP hD hS hA [0, 1, 2, 3, 4, 5, 6, 7, 8, 9, 10, 11, 12, 13, 14, 15, 16, 17, 18, 19, 20, 21, 22, 23, 24, 25, 26, 27, 28, 29, 30, 31, 32, 33, 34, 35, 36, 37, 38, 39] [] rfl rfl (by decide) (by decide) (ps_runVI ⟨hx, hb, hml, hown, hts⟩ (c_mvcS l dC dI cI tys ht a q K S ck cu F N hw hKb hSb p0 (by have b4 := hKb 4; omega)) (ps_cwV ps_gd 1 hts tw_203 k_PS_moveCursor e_PS_moveCursor ⟨Nat.le_of_ble_eq_true rfl, Nat.le_of_ble_eq_true rfl⟩) hK hP hD [0, 1, 2, 3, 4, 5, 6, 7, 8, 9, 10, 11, 12, 13, 14, 15, 16, 17, 18, 19, 20, 21, 22, 23, 24, 25, 26, 27, 28, 29, 30, 31, 32, 33, 34, 35, 36, 37, 38, 39] (by decide) rfl 0 cPS rfl rfl rfl hl.1 rfl (Nat.le_of_ble_eq_true rfl) d_PS_next_75 ⟨Nat.zero_le _, Nat.zero_le _⟩) (fun r_8 u_7 H locs hu_7 hP hD hS => ?_)
          obtain ⟨hr_8, vu_7⟩ := hu_7
          subst hr_8
          subst vu_7
          have hP : va_P (dC, dI) classes (pw cI a q K S (F 8 p0) (F 9 p0) F N) H := hP
          have hD : va_D A (pw cI a q K S (F 8 p0) (F 9 p0) F N) := hD
          exact ps_iret hx hb hr hlocks hK hP hD hS (Nat.le_of_ble_eq_true rfl) (Nat.le_of_ble_eq_true rfl) d_PS_next_78 (ps_cy ⟨c_2, c_4⟩ (ps_cy c_5 (Or.inl ⟨p0, hp1, hp2, hp3, hp4, rfl, rfl⟩)))
        · subst hr_6
          refine ps_afterI (wc := (pw cI a q K S ck cu F N)) (wr := []) hP hD hS hA [0, 1, 2, 3, 4, 5, 6, 7, 8, 9, 10, 11, 12, 13, 14, 15, 16, 17, 18, 19, 20, 21, 22, 23, 24, 25, 26, 27, 28, 29, 30, 31, 32, 33, 34, 35, 36, 37, 38, 39] [] rfl rfl (by decide) (by decide) (ps_runVI ⟨hx, hb, hml, hown, hts⟩ (c_mvcN l dC dI cI tys ht a q K S ck cu F N hw hKb hSb) (ps_cwV ps_gd 1 hts tw_203 k_PS_moveCursor e_PS_moveCursor ⟨Nat.le_of_ble_eq_true rfl, Nat.le_of_ble_eq_true rfl⟩) hK hP hD [0, 1, 2, 3, 4, 5, 6, 7, 8, 9, 10, 11, 12, 13, 14, 15, 16, 17, 18, 19, 20, 21, 22, 23, 24, 25, 26, 27, 28, 29, 30, 31, 32, 33, 34, 35, 36, 37, 38, 39] (by decide) rfl 0 cPS rfl rfl rfl hl.1 rfl (Nat.le_of_ble_eq_true rfl) d_PS_next_75 ⟨Nat.zero_le _, Nat.zero_le _⟩) (fun r_10 u_9 H locs hu_9 hP hD hS => ?_)
          obtain ⟨hr_10, vu_9⟩ := hu_9
          subst hr_10
          subst vu_9
          have hP : va_P (dC, dI) classes (pw cI a q K S 0 0 F N) H := hP
          have hD : va_D A (pw cI a q K S 0 0 F N) := hD
          exact ps_iret hx hb hr hlocks hK hP hD hS (Nat.le_of_ble_eq_true rfl) (Nat.le_of_ble_eq_true rfl) d_PS_next_78 (ps_cy ⟨c_2, c_4⟩ (ps_cy c_5 (Or.inr ⟨hend, rfl, rfl⟩)))
      · refine lv_aload_n hx hb d_PS_next_25 rfl (lv_at hl 1 rfl) ?_
        refine va_get (D := (dC, dI)) (ci := cPS) (v := .ref (a 4)) (C := R_PS) (T := F_PS) (N := 10) hx hb hts i_PS hown hK hP 0 rfl rfl 6 (by decide) (hts _ tw_104) (fun _ h9 => h9) rfl d_PS_next_26 ?_
        refine lv_iload_n hx hb d_PS_next_29 rfl (lv_at hl 2 rfl) ?_
        refine lv_iload_n hx hb d_PS_next_30 rfl (lv_at hl 3 rfl) ?_
        refine lv_iload_n hx hb d_PS_next_31 rfl (lv_at hl 4 rfl) ?_
        refine lv_aload_n hx hb d_PS_next_32 rfl (lv_at hl 1 rfl) ?_
        refine va_get (D := (dC, dI)) (ci := cPS) (v := .ref (a 1)) (C := R_PS) (T := F_PS) (N := 10) hx hb hts i_PS hown hK hP 0 rfl rfl 0 (by decide) (hts _ tw_97) (fun _ h9 => h9) rfl d_PS_next_33 ?_
        refine lv_iconst (v := nI 4) hx hb d_PS_next_36 (by decide) ?_
        refine va_iald hx hb hK hP 1 0 rfl ht (vp_in_nI (show 4 < 6 by decide) (by decide)) d_PS_next_37 ?_
        refine ps_top (z := nI (K 4)) (ps_kat _ 4 (by decide)) ?_
        refine ps_readI (wc := [(a 4, .inr (cKey, [.ref (a 15), .ref (a 16), .ref (a 17), .ref (a 5)])), (a 15, .inr (cCol, [.int (nI 16384), .ref (q 7)])), (q 7, .inl (cI, N 7, .inl (F 7))), (a 16, .inr (cCol, [.int (nI 16384), .ref (q 8)])), (q 8, .inl (cI, N 8, .inl (F 8))), (a 17, .inr (cCol, [.int (nI 16384), .ref (q 9)])), (q 9, .inl (cI, N 9, .inl (F 9))), (a 5, .inr (cVal, [.ref (a 18), .ref (a 19)])), (a 18, .inr (cCol, [.int (nI 16384), .ref (q 10)])), (q 10, .inl (cI, N 10, .inl (F 10)))]) hP hD hS hA [4, 22, 23, 24, 25, 26, 27, 5, 28, 29] rfl (fun _ _ h => h.1) (ps_runVI ⟨hx, hb, hml, hown, hts⟩ (c_kof l dC dI cI tys ht (a 4) (a 5) (a 15) (q 7) (a 16) (q 8) (a 17) (q 9) (a 18) (q 10) (a 19) 16384 (N 7) (N 8) (N 9) (N 10) (F 7) (F 8) (F 9) (F 10) d kk key (K 4) (hw.z 7 (by decide)) (hw.z 8 (by decide)) (hw.z 9 (by decide)) (hw.z 10 (by decide)) (hw.n 7 (by decide)) (hw.n 8 (by decide)) (hw.n 9 (by decide)) (hw.n 10 (by decide)) (by have b4 := hKb 4; omega)) (ps_cwV ps_gd 4 hts tw_200 k_Key_indexOf e_Key_indexOf ⟨Nat.le_of_ble_eq_true rfl, Nat.le_of_ble_eq_true rfl⟩) hK hP hD [4, 22, 23, 24, 25, 26, 27, 5, 28, 29] (by decide) rfl 0 cKey rfl rfl rfl hl.1 rfl (Nat.le_of_ble_eq_true rfl) d_PS_next_38 ⟨Nat.zero_le _, Nat.zero_le _⟩) (fun r_11 H locs hr_11 hP hS => ?_)
        obtain ⟨-, hr_11⟩ := hr_11
        rcases hr_11 with ⟨j, -, hj, hjm, hjn, hr_11⟩ | ⟨hnone, hr_11⟩
        · subst hr_11
          have hj31 : j < 2 ^ 31 := by have b4 := hKb 4; omega
          refine lv_istore (lv' := [(5, .int (nI j)), (4, .int (nI 0)), (0, .ref (a 0)), (1, .int d), (2, .int kk), (3, .int key)]) hx hb d_PS_next_41 hl (by decide) rfl (fun ls hl => ?_)
          refine lv_iload hx hb d_PS_next_43 (lv_at hl 0 rfl) ?_
          refine lv_iconst (v := (-1)) hx hb d_PS_next_45 (by decide) ?_
          refine lv_icmp_ne (tgt := 52) hx hb d_PS_next_46 (by decide) (fun c_12 => ?_) (fun c_12 => ?_)
          · refine lv_iload hx hb d_PS_next_52 (lv_at hl 0 rfl) ?_
            refine lv_iconst (v := nI 1) hx hb d_PS_next_54 (by decide) ?_
            refine lv_iadd hx hb d_PS_next_55 ?_
            refine ps_top (z := nI (j + 1)) (nI_add _ _) ?_
            refine lv_istore (lv' := [(4, .int (nI (j + 1))), (5, .int (nI j)), (0, .ref (a 0)), (1, .int d), (2, .int kk), (3, .int key)]) hx hb d_PS_next_56 hl (by decide) rfl (fun ls hl => ?_)
            refine lv_aload_n hx hb d_PS_next_58 rfl (lv_at hl 2 rfl) ?_
            refine lv_aload_n hx hb d_PS_next_59 rfl (lv_at hl 2 rfl) ?_
            refine va_get (D := (dC, dI)) (ci := cPS) (v := .ref (a 4)) (C := R_PS) (T := F_PS) (N := 10) hx hb hts i_PS hown hK hP 0 rfl rfl 6 (by decide) (hts _ tw_104) (fun _ h9 => h9) rfl d_PS_next_60 ?_
            refine lv_iload_n hx hb d_PS_next_63 rfl (lv_at hl 3 rfl) ?_
            refine lv_iload hx hb d_PS_next_64 (lv_at hl 0 rfl) ?_
            refine lv_aload_n hx hb d_PS_next_66 rfl (lv_at hl 2 rfl) ?_
            refine va_get (D := (dC, dI)) (ci := cPS) (v := .ref (a 1)) (C := R_PS) (T := F_PS) (N := 10) hx hb hts i_PS hown hK hP 0 rfl rfl 0 (by decide) (hts _ tw_97) (fun _ h9 => h9) rfl d_PS_next_67 ?_
            refine lv_iconst (v := nI 4) hx hb d_PS_next_70 (by decide) ?_
            refine va_iald hx hb hK hP 1 0 rfl ht (vp_in_nI (show 4 < 6 by decide) (by decide)) d_PS_next_71 ?_
            refine ps_top (z := nI (K 4)) (ps_kat _ 4 (by decide)) ?_
            refine ps_readI (wc := [(a 4, .inr (cKey, [.ref (a 15), .ref (a 16), .ref (a 17), .ref (a 5)])), (a 15, .inr (cCol, [.int (nI 16384), .ref (q 7)])), (q 7, .inl (cI, N 7, .inl (F 7))), (a 16, .inr (cCol, [.int (nI 16384), .ref (q 8)])), (q 8, .inl (cI, N 8, .inl (F 8))), (a 17, .inr (cCol, [.int (nI 16384), .ref (q 9)])), (q 9, .inl (cI, N 9, .inl (F 9))), (a 5, .inr (cVal, [.ref (a 18), .ref (a 19)])), (a 18, .inr (cCol, [.int (nI 16384), .ref (q 10)])), (q 10, .inl (cI, N 10, .inl (F 10)))]) hP hD hS hA [4, 22, 23, 24, 25, 26, 27, 5, 28, 29] rfl (fun _ _ h => h.1) (ps_runVI ⟨hx, hb, hml, hown, hts⟩ (c_kfirst l dC dI cI tys ht (a 4) (a 5) (a 15) (q 7) (a 16) (q 8) (a 17) (q 9) (a 18) (q 10) (a 19) 16384 (N 7) (N 8) (N 9) (N 10) (F 7) (F 8) (F 9) (F 10) d (j + 1) (K 4) (hw.z 7 (by decide)) (hw.z 8 (by decide)) (hw.z 9 (by decide)) (hw.z 10 (by decide)) (hw.n 7 (by decide)) (hw.n 8 (by decide)) (hw.n 9 (by decide)) (hw.n 10 (by decide)) (by have b4 := hKb 4; omega) (by have b4 := hKb 4; omega)) (ps_cwV ps_gd 3 hts tw_202 k_Key_firstThere e_Key_firstThere ⟨Nat.le_of_ble_eq_true rfl, Nat.le_of_ble_eq_true rfl⟩) hK hP hD [4, 22, 23, 24, 25, 26, 27, 5, 28, 29] (by decide) rfl 0 cKey rfl rfl rfl hl.1 rfl (Nat.le_of_ble_eq_true rfl) d_PS_next_72 ⟨Nat.zero_le _, Nat.zero_le _⟩) (fun r_13 H locs hr_13 hP hS => ?_)
            obtain ⟨-, hr_13⟩ := hr_13
            rcases hr_13 with ⟨p0, hp1, hp2, hp3, hp4, hr_13⟩ | ⟨hend, hr_13⟩
            · subst hr_13
              refine ps_afterI (wc := (pw cI a q K S ck cu F N)) (wr := []) hP hD hS hA [0, 1, 2, 3, 4, 5, 6, 7, 8, 9, 10, 11, 12, 13, 14, 15, 16, 17, 18, 19, 20, 21, 22, 23, 24, 25, 26, 27, 28, 29, 30, 31, 32, 33, 34, 35, 36, 37, 38, 39] [] rfl rfl (by decide) (by decide) (ps_runVI ⟨hx, hb, hml, hown, hts⟩ (c_mvcS l dC dI cI tys ht a q K S ck cu F N hw hKb hSb p0 (by have b4 := hKb 4; omega)) (ps_cwV ps_gd 1 hts tw_203 k_PS_moveCursor e_PS_moveCursor ⟨Nat.le_of_ble_eq_true rfl, Nat.le_of_ble_eq_true rfl⟩) hK hP hD [0, 1, 2, 3, 4, 5, 6, 7, 8, 9, 10, 11, 12, 13, 14, 15, 16, 17, 18, 19, 20, 21, 22, 23, 24, 25, 26, 27, 28, 29, 30, 31, 32, 33, 34, 35, 36, 37, 38, 39] (by decide) rfl 0 cPS rfl rfl rfl hl.1 rfl (Nat.le_of_ble_eq_true rfl) d_PS_next_75 ⟨Nat.zero_le _, Nat.zero_le _⟩) (fun r_15 u_14 H locs hu_14 hP hD hS => ?_)
              obtain ⟨hr_15, vu_14⟩ := hu_14
              subst hr_15
              subst vu_14
              have hP : va_P (dC, dI) classes (pw cI a q K S (F 8 p0) (F 9 p0) F N) H := hP
              have hD : va_D A (pw cI a q K S (F 8 p0) (F 9 p0) F N) := hD
              exact ps_iret hx hb hr hlocks hK hP hD hS (Nat.le_of_ble_eq_true rfl) (Nat.le_of_ble_eq_true rfl) d_PS_next_78 (ps_cy ⟨c_2, c_4⟩ (ps_cn c_5 (Or.inr ⟨j, hj, hjm, hjn, Or.inl ⟨p0, hp1, hp2, hp3, hp4, rfl, rfl⟩⟩)))
            · subst hr_13
              refine ps_afterI (wc := (pw cI a q K S ck cu F N)) (wr := []) hP hD hS hA [0, 1, 2, 3, 4, 5, 6, 7, 8, 9, 10, 11, 12, 13, 14, 15, 16, 17, 18, 19, 20, 21, 22, 23, 24, 25, 26, 27, 28, 29, 30, 31, 32, 33, 34, 35, 36, 37, 38, 39] [] rfl rfl (by decide) (by decide) (ps_runVI ⟨hx, hb, hml, hown, hts⟩ (c_mvcN l dC dI cI tys ht a q K S ck cu F N hw hKb hSb) (ps_cwV ps_gd 1 hts tw_203 k_PS_moveCursor e_PS_moveCursor ⟨Nat.le_of_ble_eq_true rfl, Nat.le_of_ble_eq_true rfl⟩) hK hP hD [0, 1, 2, 3, 4, 5, 6, 7, 8, 9, 10, 11, 12, 13, 14, 15, 16, 17, 18, 19, 20, 21, 22, 23, 24, 25, 26, 27, 28, 29, 30, 31, 32, 33, 34, 35, 36, 37, 38, 39] (by decide) rfl 0 cPS rfl rfl rfl hl.1 rfl (Nat.le_of_ble_eq_true rfl) d_PS_next_75 ⟨Nat.zero_le _, Nat.zero_le _⟩) (fun r_17 u_16 H locs hu_16 hP hD hS => ?_)
              obtain ⟨hr_17, vu_16⟩ := hu_16
              subst hr_17
              subst vu_16
              have hP : va_P (dC, dI) classes (pw cI a q K S 0 0 F N) H := hP
              have hD : va_D A (pw cI a q K S 0 0 F N) := hD
              exact ps_iret hx hb hr hlocks hK hP hD hS (Nat.le_of_ble_eq_true rfl) (Nat.le_of_ble_eq_true rfl) d_PS_next_78 (ps_cy ⟨c_2, c_4⟩ (ps_cn c_5 (Or.inr ⟨j, hj, hjm, hjn, Or.inr ⟨hend, rfl, rfl⟩⟩)))
          · exact absurd c_12 (ps_m1 hj31)
        · subst hr_11
          refine lv_istore (lv' := [(5, .int (-1)), (4, .int (nI 0)), (0, .ref (a 0)), (1, .int d), (2, .int kk), (3, .int key)]) hx hb d_PS_next_41 hl (by decide) rfl (fun ls hl => ?_)
          refine lv_iload hx hb d_PS_next_43 (lv_at hl 0 rfl) ?_
          refine lv_iconst (v := (-1)) hx hb d_PS_next_45 (by decide) ?_
          refine lv_icmp_ne (tgt := 52) hx hb d_PS_next_46 (by decide) (fun c_18 => ?_) (fun c_18 => ?_)
          · exact absurd rfl c_18
          · refine lv_bipush (v := (-2)) hx hb d_PS_next_49 (by decide) ?_
            exact ps_iret hx hb hr hlocks hK hP hD hS (Nat.le_of_ble_eq_true rfl) (Nat.le_of_ble_eq_true rfl) d_PS_next_51 (ps_cy ⟨c_2, c_4⟩ (ps_cn c_5 (Or.inl ⟨hnone, rfl, rfl⟩)))
    · have c_4 := ps_ite0 c_4
      refine lv_iconst (v := (-1)) hx hb d_PS_next_16 (by decide) ?_
      exact ps_iret hx hb hr hlocks hK hP hD hS (Nat.le_of_ble_eq_true rfl) (Nat.le_of_ble_eq_true rfl) d_PS_next_17 (ps_cn (fun q => c_4 q.2) ⟨rfl, rfl⟩)
