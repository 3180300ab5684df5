theorem tw_486 : (.instantiable "PageStore" 10 : Cond) ∈ ps_tbl := ps_t1 12 rfl rfl
theorem tw_487 : (.instantiable "PageStoreModel" 27 : Cond) ∈ ps_tbl := ps_t2 153 rfl rfl
theorem tw_488 : (.classLink "PageStoreLaw" 7 "PageStore" : Cond) ∈ ps_tbl := ps_t1 11 rfl rfl
theorem tw_489 : (.methodLink "PageStoreLaw" 9 ⟨"PageStore", "<init>", "()V"⟩ : Cond) ∈ ps_tbl := ps_t1 13 rfl rfl
theorem tw_490 : (.classLink "PageStoreLaw" 10 "PageStoreModel" : Cond) ∈ ps_tbl := ps_t2 152 rfl rfl
theorem tw_491 : (.methodLink "PageStoreLaw" 12 ⟨"PageStoreModel", "<init>", "()V"⟩ : Cond) ∈ ps_tbl := ps_t2 154 rfl rfl
theorem tw_492 : (.instanceMethod ⟨"PageStore", "<init>", "()V"⟩ : Cond) ∈ ps_tbl := ps_t1 14 rfl rfl
theorem tw_493 : (.code ⟨"PageStore", "<init>", "()V"⟩ prog_1_method_1_code 1 none : Cond) ∈ ps_tbl := ps_t1 15 rfl rfl
theorem tw_494 : (.instanceMethod ⟨"PageStoreModel", "<init>", "()V"⟩ : Cond) ∈ ps_tbl := ps_t2 155 rfl rfl
theorem tw_495 : (.code ⟨"PageStoreModel", "<init>", "()V"⟩ prog_8_method_1_code 1 none : Cond) ∈ ps_tbl := ps_t2 156 rfl rfl
theorem k_PS_init : ps_cdI ps_tbl y_PS_init prog_1_method_1_code 1 := ⟨tw_492, tw_108, tw_493⟩
theorem k_Mod_init : ps_cdI ps_tbl y_Mod_init prog_8_method_1_code 1 := ⟨tw_494, tw_256, tw_495⟩
set_option maxHeartbeats 4000000 in
set_option maxRecDepth 100000 in
theorem lw_tail {p : Program} {l : Launch} {e : Env} {s : State} {m : MethodId} {below : List Frame} {meth : Method} {c : Code} {sb L : Nat} {xs : Nat → Int32} {A : Nat → Prop} {dC : Nat → ClassId} {dI : Nat → Nat → Nat} {cI cB cS cZ : ClassId} {tys : List (ClassId × FieldType)} {a b : Nat → Nat} (hC : lw_C p s m meth c sb L xs A dC dI cI cB cS cZ tys) {i : Nat} (ih : lw_H p l e s m below meth c sb A dC dI cI cB cS cZ a b 18 (i + 1)) : lw_H p l e s m below meth c sb A dC dI cI cB cS cZ a b 795 i := by
  intro K S ck cu F N T X q H locs ls hI hl hP hD hS
  obtain ⟨⟨hx, hb, hr, hml, hown, hts0, hX, hbl, hlocks, hgv⟩, hL, hA, hAs, hbA, hK, ht, htB, htS, htZ⟩ := hC
  have hts : ∀ w ∈ ps_tbl, w.before #[Value.ref sb] s = true := fun w hw => hts0 w (List.mem_filter.mp hw).1
  obtain ⟨⟨hKb, hk0, hk1, hk3, hk4, hk5, hSb⟩, hw, hIL, hIT, hIM, hIP, hIB, hIV⟩ := id hI
  have hrw := hIL.1
  have hRL := ps_L_le hw
  have hRY := ps_Y_le hw
  refine lv_iinc (v := nI (6 * (i + 1))) (lv' := [(3, .int (nI (6 * (i + 1)))), (2, .ref (b 0)), (1, .ref (a 0)), (0, .ref sb)]) hx hb d_law_law_795 hl (k := 0) rfl (show nI (6 * i) + nI 6 = nI (6 * (i + 1)) by rw [nI_add]; congr 1) (by decide) rfl (fun ls hl => ?_)
  refine lv_goto (tgt := 18) hx hb d_law_law_798 (by decide) ?_
  exact ih K S ck cu F N T X q _ _ ls hI hl hP hD hS

set_option maxHeartbeats 4000000 in
set_option maxRecDepth 100000 in
theorem lw_loop {p : Program} {l : Launch} {e : Env} {s : State} {m : MethodId} {below : List Frame} {meth : Method} {c : Code} {sb L : Nat} {xs : Nat → Int32} {A : Nat → Prop} {dC : Nat → ClassId} {dI : Nat → Nat → Nat} {cI cB cS cZ : ClassId} {tys : List (ClassId × FieldType)} {a b : Nat → Nat} (hC : lw_C p s m meth c sb L xs A dC dI cI cB cS cZ tys) : ∀ (n i : Nat), 6 * i ≤ L → L - 6 * i < n → lw_H p l e s m below meth c sb A dC dI cI cB cS cZ a b 18 i := by
  intro n
  induction n with
  | zero => intro i _ h; exact absurd h (Nat.not_lt_zero _)
  | succ n ih =>
    intro i hiL hn
    have hC0 := hC
    intro K S ck cu F N T X q H locs ls hI hl hP hD hS
    obtain ⟨⟨hx, hb, hr, hml, hown, hts0, hX, hbl, hlocks, hgv⟩, hL, hA, hAs, hbA, hK, ht, htB, htS, htZ⟩ := hC
    have hts : ∀ w ∈ ps_tbl, w.before #[Value.ref sb] s = true := fun w hw => hts0 w (List.mem_filter.mp hw).1
    obtain ⟨⟨hKb, hk0, hk1, hk3, hk4, hk5, hSb⟩, hw, hIL, hIT, hIM, hIP, hIB, hIV⟩ := id hI
    have hrw := hIL.1
    have hRL := ps_L_le hw
    have hRY := ps_Y_le hw
    refine lv_iload_n hx hb d_law_law_18 rfl (lv_at hl 0 rfl) ?_
    refine lv_aload_n hx hb d_law_law_19 rfl (lv_at hl 3 rfl) ?_
    refine va_slen hx hb hX hbl hbA hS d_law_law_20 ?_
    refine ps_top (z := nI L) rfl ?_
    refine lv_bipush (v := nI 6) hx hb d_law_law_21 (by decide) ?_
    refine lv_isub hx hb d_law_law_23 ?_
    refine ps_top (z := nI L - nI 6) rfl ?_
    refine lv_icmp_gt (tgt := 801) hx hb d_law_law_24 (by decide) (fun c_1 => ?_) (fun c_1 => ?_)
    · refine va_forget (fun q hq => hAs _ (hS.2.2 q hq)) ?_
      refine W.widen (k := 600000) (n := 7302250) (by omega) (by omega) ?_
      refine lv_iconst (v := 1) hx hb d_law_law_801 (by decide) ?_
      exact lw_ret hx hb hr hlocks d_law_law_802
    · have hi6 : 6 * i + 6 ≤ L := (ps_sub_le (by omega) (by decide) (by omega)).mp (k2_le c_1)
      refine lv_aload_n hx hb d_law_law_27 rfl (lv_at hl 3 rfl) ?_
      refine lv_iload_n hx hb d_law_law_28 rfl (lv_at hl 0 rfl) ?_
      refine va_sld hx hb hX hbl hbA hS (vp_in_nI (show 6 * i < L by omega) (by omega)) d_law_law_29 ?_
      refine ps_top (z := xs (6 * i)) (by rw [nI_clamp (show 6 * i < 2 ^ 31 by omega)]) ?_
      refine lv_bipush (v := nI 31) hx hb d_law_law_30 (by decide) ?_
      refine lv_iand hx hb d_law_law_32 ?_
      obtain ⟨j, hj, ej⟩ := pk_andE (xs (6 * i)) (m := nI 31) 5 (by decide)
      refine ps_top (z := nI j) ej ?_
      have hj32 : j < 32 := hj
      have hcs : j = 0 ∨ j = 1 ∨ j = 2 ∨ j = 3 ∨ j = 4 ∨ j = 5 ∨ j = 6 ∨ j = 7 ∨ j = 8 ∨ j = 9 ∨ j = 10 ∨ j = 11 ∨ j = 12 ∨ j = 13 ∨ j = 14 ∨ j = 15 ∨ j = 16 ∨ j = 17 ∨ j = 18 ∨ j = 19 ∨ j = 20 ∨ 21 ≤ j := by omega
      have hT := lw_tail hC0 (i := i) (ih (i + 1) (by omega) (by omega))
      rcases hcs with rfl | rfl | rfl | rfl | rfl | rfl | rfl | rfl | rfl | rfl | rfl | rfl | rfl | rfl | rfl | rfl | rfl | rfl | rfl | rfl | rfl | h21
      · refine lv_tableIn (tgt := 132) (off := 99) hx hb d_law_law_33 (by decide) (by decide) (by decide) (by decide) ?_
        exact lw_values hC0 hi6 hT K S ck cu F N T X q _ _ ls hI hl hP hD hS
      · refine lv_tableIn (tgt := 155) (off := 122) hx hb d_law_law_33 (by decide) (by decide) (by decide) (by decide) ?_
        exact lw_bytes hC0 hi6 hT K S ck cu F N T X q _ _ ls hI hl hP hD hS
      · refine lv_tableIn (tgt := 178) (off := 145) hx hb d_law_law_33 (by decide) (by decide) (by decide) (by decide) ?_
        exact lw_part hC0 hi6 hT K S ck cu F N T X q _ _ ls hI hl hP hD hS
      · refine lv_tableIn (tgt := 221) (off := 188) hx hb d_law_law_33 (by decide) (by decide) (by decide) (by decide) ?_
        exact lw_sort hC0 hi6 hT K S ck cu F N T X q _ _ ls hI hl hP hD hS
      · refine lv_tableIn (tgt := 244) (off := 211) hx hb d_law_law_33 (by decide) (by decide) (by decide) (by decide) ?_
        exact lw_length hC0 hi6 hT K S ck cu F N T X q _ _ ls hI hl hP hD hS
      · refine lv_tableIn (tgt := 267) (off := 234) hx hb d_law_law_33 (by decide) (by decide) (by decide) (by decide) ?_
        exact lw_set hC0 hi6 hT K S ck cu F N T X q _ _ ls hI hl hP hD hS
      · refine lv_tableIn (tgt := 320) (off := 287) hx hb d_law_law_33 (by decide) (by decide) (by decide) (by decide) ?_
        exact lw_get hC0 hi6 hT K S ck cu F N T X q _ _ ls hI hl hP hD hS
      · refine lv_tableIn (tgt := 353) (off := 320) hx hb d_law_law_33 (by decide) (by decide) (by decide) (by decide) ?_
        exact lw_number hC0 hi6 hT K S ck cu F N T X q _ _ ls hI hl hP hD hS
      · refine lv_tableIn (tgt := 386) (off := 353) hx hb d_law_law_33 (by decide) (by decide) (by decide) (by decide) ?_
        exact lw_setByte hC0 hi6 hT K S ck cu F N T X q _ _ ls hI hl hP hD hS
      · refine lv_tableIn (tgt := 429) (off := 396) hx hb d_law_law_33 (by decide) (by decide) (by decide) (by decide) ?_
        exact lw_dictionary hC0 hi6 hT K S ck cu F N T X q _ _ ls hI hl hP hD hS
      · refine lv_tableIn (tgt := 442) (off := 409) hx hb d_law_law_33 (by decide) (by decide) (by decide) (by decide) ?_
        exact lw_define hC0 hi6 hT K S ck cu F N T X q _ _ ls hI hl hP hD hS
      · refine lv_tableIn (tgt := 505) (off := 472) hx hb d_law_law_33 (by decide) (by decide) (by decide) (by decide) ?_
        exact lw_find hC0 hi6 hT K S ck cu F N T X q _ _ ls hI hl hP hD hS
      · refine lv_tableIn (tgt := 548) (off := 515) hx hb d_law_law_33 (by decide) (by decide) (by decide) (by decide) ?_
        exact lw_found hC0 hi6 hT K S ck cu F N T X q _ _ ls hI hl hP hD hS
      · refine lv_tableIn (tgt := 591) (off := 558) hx hb d_law_law_33 (by decide) (by decide) (by decide) (by decide) ?_
        exact lw_undefine hC0 hi6 hT K S ck cu F N T X q _ _ ls hI hl hP hD hS
      · refine lv_tableIn (tgt := 634) (off := 601) hx hb d_law_law_33 (by decide) (by decide) (by decide) (by decide) ?_
        exact lw_count hC0 hi6 hT K S ck cu F N T X q _ _ ls hI hl hP hD hS
      · refine lv_tableIn (tgt := 657) (off := 624) hx hb d_law_law_33 (by decide) (by decide) (by decide) (by decide) ?_
        exact lw_next hC0 hi6 hT K S ck cu F N T X q _ _ ls hI hl hP hD hS
      · refine lv_tableIn (tgt := 700) (off := 667) hx hb d_law_law_33 (by decide) (by decide) (by decide) (by decide) ?_
        exact lw_cursorKind hC0 hi6 hT K S ck cu F N T X q _ _ ls hI hl hP hD hS
      · refine lv_tableIn (tgt := 713) (off := 680) hx hb d_law_law_33 (by decide) (by decide) (by decide) (by decide) ?_
        exact lw_cursorNumber hC0 hi6 hT K S ck cu F N T X q _ _ ls hI hl hP hD hS
      · refine lv_tableIn (tgt := 726) (off := 693) hx hb d_law_law_33 (by decide) (by decide) (by decide) (by decide) ?_
        exact lw_save hC0 hi6 hT K S ck cu F N T X q _ _ ls hI hl hP hD hS
      · refine lv_tableIn (tgt := 739) (off := 706) hx hb d_law_law_33 (by decide) (by decide) (by decide) (by decide) ?_
        exact lw_restore hC0 hi6 hT K S ck cu F N T X q _ _ ls hI hl hP hD hS
      · refine lv_tableIn (tgt := 762) (off := 729) hx hb d_law_law_33 (by decide) (by decide) (by decide) (by decide) ?_
        exact lw_noted hC0 hi6 hT K S ck cu F N T X q _ _ ls hI hl hP hD hS
      · refine lv_tableOut (tgt := 795) hx hb d_law_law_33 (Or.inr (by rw [nI_toInt (by omega)]; omega)) (by decide) ?_
        exact hT K S ck cu F N T X q _ _ ls hI hl hP hD hS

theorem lw_arr {args : Array Value} {s : State} {ty : FieldType} (h : (Cond.arrayClass ty).before args s = true) : ∃ cA : ClassId, ArrOfT s cA ty ∧ s.vm.findClass ("[" ++ ty.toString) = some cA := by
  obtain ⟨cA, kA, comp, h1, h2, h3⟩ := Cond.arrayClass_spec h
  exact ⟨cA, fun n z => ⟨fun k h => (by cases h), kA, h2, comp, h3⟩, h1⟩
set_option maxHeartbeats 4000000 in
set_option maxRecDepth 100000 in
/-- THE LAW, from its entry -/
theorem whole_start {p : Program} {e : Env} {s : State} {m : MethodId} {below : List Frame} {meth : Method} {c : Code} (l : Launch) {b L : Nat} {xs : Nat → Int32} (hL : L ≤ 3072) (C0 : lw_At p s m meth c b L xs) : W p l e room_1 s m #[Value.ref b] below meth c s.heap [] 0 0 (lw_Z below #[Value.ref b] s) (entryFrame m ([Value.ref b] : List Value).toArray 4) := by
  obtain ⟨hx, hb, hr, hml, hown, hts0, hX, hbl, hlocks, hgv⟩ := id C0
  have hts : ∀ w ∈ ps_tbl, w.before #[Value.ref b] s = true := fun w hw => hts0 w (List.mem_filter.mp hw).1
  obtain ⟨A, eA⟩ : ∃ A : Nat → Prop, A = fun q : Nat => s.heap.size ≤ q := ⟨_, rfl⟩
  have hA : ∀ q : Nat, s.heap.size ≤ q → A q := fun q h => by rw [eA]; exact h
  have hAs : ∀ q : Nat, A q → s.heap.size ≤ q := fun q h => by rw [eA] at h; exact h
  have hbA : ¬ A b := fun h => absurd (hAs b h) (Nat.not_le.mpr hbl)
  obtain ⟨c0, iS0, hKn0⟩ := u_known (C := R_Col) (T := F_Col) (N := 2) (n := 2) hts i_Col (hts _ tw_76)
  obtain ⟨c1, iS1, hKn1⟩ := u_known (C := R_Val) (T := F_Val) (N := 2) (n := 2) hts i_Val (hts _ tw_85)
  obtain ⟨c2, iS2, hKn2⟩ := u_known (C := R_Row) (T := F_Row) (N := 3) (n := 3) hts i_Row (hts _ tw_221)
  obtain ⟨c3, iS3, hKn3⟩ := u_known (C := R_Key) (T := F_Key) (N := 4) (n := 4) hts i_Key (hts _ tw_226)
  obtain ⟨c4, iS4, hKn4⟩ := u_known (C := R_Mem) (T := F_Mem) (N := 3) (n := 3) hts i_Mem (hts _ tw_229)
  obtain ⟨c5, iS5, hKn5⟩ := u_known (C := R_PS) (T := F_PS) (N := 10) (n := 10) hts i_PS (hts _ tw_486)
  obtain ⟨c6, iS6, hKn6⟩ := u_known (C := R_Mod) (T := F_Mod) (N := 27) (n := 27) hts i_Mod (hts _ tw_487)
  obtain ⟨dC, dI, hKc⟩ : ∃ (dC : Nat → ClassId) (dI : Nat → Nat → Nat), ∀ (k : Nat) (q : vw_C), classes[k]? = some q → u_Kn s q.1 q.2.1 q.2.2 (dC k) (dI k) := by
    refine ⟨fun k => ([c0, c1, c2, c3, c4, c5, c6] : List ClassId).getD k c0, fun k => ([iS0, iS1, iS2, iS3, iS4, iS5, iS6] : List (Nat → Nat)).getD k iS0, ?_⟩
    intro k q hq
    match k, hq with
    | 0, hq => cases hq; exact hKn0
    | 1, hq => cases hq; exact hKn1
    | 2, hq => cases hq; exact hKn2
    | 3, hq => cases hq; exact hKn3
    | 4, hq => cases hq; exact hKn4
    | 5, hq => cases hq; exact hKn5
    | 6, hq => cases hq; exact hKn6
    | k + 7, hq => simp [classes] at hq
  obtain ⟨cI, acI, fcI⟩ := lw_arr (hts _ tw_1)
  obtain ⟨cB, acB, fcB⟩ := lw_arr (hts _ tw_312)
  obtain ⟨cS, acS, fcS⟩ := lw_arr (hts _ tw_313)
  obtain ⟨cZ, acZ, fcZ⟩ := lw_arr (hts _ tw_314)
  obtain ⟨tys, et⟩ : ∃ tys : List (ClassId × FieldType), tys = [(cI, FieldType.int), (cB, FieldType.byte), (cS, FieldType.short), (cZ, FieldType.boolean)] := ⟨_, rfl⟩
  have hK : va_K (dC, dI) classes tys s := by
    rw [et]
    refine ⟨hKc, fun k q h => ?_⟩
    match k, h with
    | 0, h => cases h; exact ⟨acI, fcI⟩
    | 1, h => cases h; exact ⟨acB, fcB⟩
    | 2, h => cases h; exact ⟨acS, fcS⟩
    | 3, h => cases h; exact ⟨acZ, fcZ⟩
    | k + 4, h => simp at h
  have ht : tys[0]? = some (cI, FieldType.int) := by rw [et]; rfl
  have htB : tys[1]? = some (cB, FieldType.byte) := by rw [et]; rfl
  have htS : tys[2]? = some (cS, FieldType.short) := by rw [et]; rfl
  have htZ : tys[3]? = some (cZ, FieldType.boolean) := by rw [et]; rfl
  have hC : lw_C p s m meth c b L xs A dC dI cI cB cS cZ tys := ⟨C0, hL, hA, hAs, hbA, hK, ht, htB, htS, htZ⟩
  have hS : va_S A s.heap s.heap [] := va_S.rf
  have hP : va_P (dC, dI) classes [] s.heap := fun k q h => by simp at h
  have hD : va_D A [] := ⟨fun i j p q h => by simp at h, fun k q h => by simp at h⟩
  have hl := lv_entry ([.ref b]) (n := 4) (Nat.le_of_ble_eq_true rfl)
  rw [lg_entry_eq]
  generalize (lg_sl ([.ref b]) ++ List.replicate (4 - (lg_sl ([.ref b])).length) Slot.unset).toArray = ls at hl ⊢
  have hl : lv_has ls 4 [(0, .ref b)] := hl
  refine va_new (ci := cPS) (fs := [.null, .null, .int 0, .null, .null, .null, .null, .null, .int 0, .int 0]) (C := R_PS) (T := F_PS) (N := 10) hx hb hts i_PS t_PS t_PS_ok hown (hts _ tw_488) (hts _ tw_486) (hts _ tw_108) hK hP hD hS hA rfl z_PS (Nat.le_of_ble_eq_true rfl) (Nat.le_of_ble_eq_true rfl) d_law_law_0 (fun o1 H hP hD hS => ?_)
  have hP : va_P (dC, dI) classes [(o1, .inr (cPS, [.null, .null, .int 0, .null, .null, .null, .null, .null, .int 0, .int 0]))] H := hP
  have hD : va_D A [(o1, .inr (cPS, [.null, .null, .int 0, .null, .null, .null, .null, .null, .int 0, .int 0]))] := hD
  refine lv_dup hx hb d_law_law_3 rfl ?_
  refine ps_afterV (wc := [(o1, .inr (cPS, [.null, .null, .int 0, .null, .null, .null, .null, .null, .int 0, .int 0]))]) (wr := []) hP hD hS hA [0] [] rfl rfl (by decide) (by decide) (ps_runIV ⟨hx, hb, hml, hown, hts⟩ (c_pinit l dC dI cI tys ht o1) (ps_cwI ps_gd 0 hts tw_489 k_PS_init rfl e_PS_init ⟨Nat.le_of_ble_eq_true rfl, Nat.le_of_ble_eq_true rfl⟩) hK hP hD [0] (by decide) rfl rfl hl.1 rfl (Nat.le_of_ble_eq_true rfl) d_law_law_4 ⟨Nat.le_of_ble_eq_true rfl, Nat.le_of_ble_eq_true rfl⟩) (fun u H9 locs9 hu hP9 hD9 hS9 => ?_)
  obtain ⟨a, q, ea, hu⟩ := hu
  subst hu
  subst ea
  have hP : va_P (dC, dI) classes (pw cI a q (fun _ => 0) 0 0 0 (fun _ _ => 0) (fun _ => 16)) H9 := hP9
  have hD : va_D A (pw cI a q (fun _ => 0) 0 0 0 (fun _ _ => 0) (fun _ => 16)) := hD9
  have hS := hS9
  refine lv_astore_n (lv' := [(1, .ref (a 0)), (0, .ref b)]) hx hb d_law_law_7 rfl hl (by decide) rfl (fun ls hl => ?_)
  refine va_new (ci := cMod) (fs := [.null, .null, .null, .int 0, .null, .null, .int 0, .null, .int 0, .int 0, .null, .null, .null, .null, .null, .null, .int 0, .null, .null, .int 0, .null, .null, .null, .null, .int 0, .int 0, .int 0]) (C := R_Mod) (T := F_Mod) (N := 27) hx hb hts i_Mod t_Mod t_Mod_ok hown (hts _ tw_490) (hts _ tw_487) (hts _ tw_256) hK hP hD hS hA rfl z_Mod (Nat.le_of_ble_eq_true rfl) (Nat.le_of_ble_eq_true rfl) d_law_law_8 (fun o2 H hP hD hS => ?_)
  have hP : va_P (dC, dI) classes ((pw cI a q (fun _ => 0) 0 0 0 (fun _ _ => 0) (fun _ => 16)) ++ [(o2, .inr (cMod, [.null, .null, .null, .int 0, .null, .null, .int 0, .null, .int 0, .int 0, .null, .null, .null, .null, .null, .null, .int 0, .null, .null, .int 0, .null, .null, .null, .null, .int 0, .int 0, .int 0]))]) H := hP
  have hD : va_D A ((pw cI a q (fun _ => 0) 0 0 0 (fun _ _ => 0) (fun _ => 16)) ++ [(o2, .inr (cMod, [.null, .null, .null, .int 0, .null, .null, .int 0, .null, .int 0, .int 0, .null, .null, .null, .null, .null, .null, .int 0, .null, .null, .int 0, .null, .null, .null, .null, .int 0, .int 0, .int 0]))]) := hD
  refine lv_dup hx hb d_law_law_11 rfl ?_
  refine ps_afterV (wc := [(o2, .inr (cMod, [.null, .null, .null, .int 0, .null, .null, .int 0, .null, .int 0, .int 0, .null, .null, .null, .null, .null, .null, .int 0, .null, .null, .int 0, .null, .null, .null, .null, .int 0, .int 0, .int 0]))]) (wr := pw cI a q (fun _ => 0) 0 0 0 (fun _ _ => 0) (fun _ => 16)) hP hD hS hA [40] [0, 1, 2, 3, 4, 5, 6, 7, 8, 9, 10, 11, 12, 13, 14, 15, 16, 17, 18, 19, 20, 21, 22, 23, 24, 25, 26, 27, 28, 29, 30, 31, 32, 33, 34, 35, 36, 37, 38, 39] rfl rfl (by decide) (by decide) (ps_runIV ⟨hx, hb, hml, hown, hts⟩ (m_init l dC dI cI tys ht cB cS cZ htB htS htZ o2) (ps_cwI ps_gd 0 hts tw_491 k_Mod_init rfl e_Mod_init ⟨Nat.le_of_ble_eq_true rfl, Nat.le_of_ble_eq_true rfl⟩) hK hP hD [40] (by decide) rfl rfl hl.1 rfl (Nat.le_of_ble_eq_true rfl) d_law_law_12 ⟨Nat.le_of_ble_eq_true rfl, Nat.le_of_ble_eq_true rfl⟩) (fun u H9 locs9 hu hP9 hD9 hS9 => ?_)
  obtain ⟨b2, eb, hu⟩ := hu
  subst hu
  subst eb
  have hP : va_P (dC, dI) classes (pw cI a q (fun _ => 0) 0 0 0 (fun _ _ => 0) (fun _ => 16) ++ mw cI cB cS cZ b2 (fun _ => 0) 0 0 0 (fun _ _ => 0) (fun _ _ => 0)) H9 := hP9
  have hD : va_D A (pw cI a q (fun _ => 0) 0 0 0 (fun _ _ => 0) (fun _ => 16) ++ mw cI cB cS cZ b2 (fun _ => 0) 0 0 0 (fun _ _ => 0) (fun _ _ => 0)) := hD9
  have hS := hS9
  refine lv_astore_n (lv' := [(2, .ref (b2 0)), (1, .ref (a 0)), (0, .ref b)]) hx hb d_law_law_15 rfl hl (by decide) rfl (fun ls hl => ?_)
  refine lv_iconst (v := nI 0) hx hb d_law_law_16 (by decide) ?_
  refine lv_istore_n (lv' := [(3, .int (nI 0)), (2, .ref (b2 0)), (1, .ref (a 0)), (0, .ref b)]) hx hb d_law_law_17 rfl hl (by decide) rfl (fun ls hl => ?_)
  refine W.widen (k := 100 + ps_L (fun _ => 16)) (n := 440000 + ps_Y (fun _ => 16)) (Nat.le_of_ble_eq_true rfl) (Nat.le_of_ble_eq_true rfl) ?_
  exact lw_loop hC (L + 1) 0 (Nat.zero_le _) (by omega) _ _ _ _ _ _ _ _ _ _ _ ls li_0 hl hP hD hS
