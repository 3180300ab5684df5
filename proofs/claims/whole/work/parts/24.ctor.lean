theorem tw_71 : (.methodLink "PageStore$Column" 1 ⟨"java/lang/Object", "<init>", "()V"⟩ : Cond) ∈ ps_tbl := ps_t1 24 rfl rfl
theorem tw_72 : (.instanceMethod ⟨"java/lang/Object", "<init>", "()V"⟩ : Cond) ∈ ps_tbl := ps_t1 17 rfl rfl
theorem tw_73 : (.code ⟨"java/lang/Object", "<init>", "()V"⟩ ⟨#[0xb1]⟩ 1 none : Cond) ∈ ps_tbl := ps_t1 18 rfl rfl
theorem tw_74 : (.methodLink "PageStore$Values" 3 ⟨"java/lang/Object", "<init>", "()V"⟩ : Cond) ∈ ps_tbl := ps_t1 60 rfl rfl
theorem tw_75 : (.classLink "PageStore$Values" 9 "PageStore$Column" : Cond) ∈ ps_tbl := ps_t1 61 rfl rfl
theorem tw_76 : (.instantiable "PageStore$Column" 2 : Cond) ∈ ps_tbl := ps_t1 20 rfl rfl
theorem tw_77 : (.methodLink "PageStore$Values" 11 ⟨"PageStore$Column", "<init>", "(I)V"⟩ : Cond) ∈ ps_tbl := ps_t1 62 rfl rfl
theorem tw_78 : (.methodLink "PageStore$Rows" 3 ⟨"java/lang/Object", "<init>", "()V"⟩ : Cond) ∈ ps_tbl := ps_t1 38 rfl rfl
theorem tw_79 : (.classLink "PageStore$Rows" 9 "PageStore$Column" : Cond) ∈ ps_tbl := ps_t1 39 rfl rfl
theorem tw_80 : (.methodLink "PageStore$Rows" 11 ⟨"PageStore$Column", "<init>", "(I)V"⟩ : Cond) ∈ ps_tbl := ps_t1 40 rfl rfl
theorem tw_81 : (.methodLink "PageStore$Keys" 3 ⟨"java/lang/Object", "<init>", "()V"⟩ : Cond) ∈ ps_tbl := ps_t1 81 rfl rfl
theorem tw_82 : (.classLink "PageStore$Keys" 9 "PageStore$Column" : Cond) ∈ ps_tbl := ps_t1 82 rfl rfl
theorem tw_83 : (.methodLink "PageStore$Keys" 11 ⟨"PageStore$Column", "<init>", "(I)V"⟩ : Cond) ∈ ps_tbl := ps_t1 83 rfl rfl
theorem tw_84 : (.classLink "PageStore$Keys" 26 "PageStore$Values" : Cond) ∈ ps_tbl := ps_t1 84 rfl rfl
theorem tw_85 : (.instantiable "PageStore$Values" 2 : Cond) ∈ ps_tbl := ps_t1 55 rfl rfl
theorem tw_86 : (.methodLink "PageStore$Keys" 28 ⟨"PageStore$Values", "<init>", "(I)V"⟩ : Cond) ∈ ps_tbl := ps_t1 85 rfl rfl
theorem tw_87 : (.methodLink "PageStore$Memories" 3 ⟨"java/lang/Object", "<init>", "()V"⟩ : Cond) ∈ ps_tbl := ps_t1 107 rfl rfl
theorem tw_88 : (.classLink "PageStore$Memories" 9 "PageStore$Column" : Cond) ∈ ps_tbl := ps_t1 108 rfl rfl
theorem tw_89 : (.constant "PageStore$Memories" 11 40000 : Cond) ∈ ps_tbl := ps_t1 109 rfl rfl
theorem tw_90 : (.methodLink "PageStore$Memories" 12 ⟨"PageStore$Column", "<init>", "(I)V"⟩ : Cond) ∈ ps_tbl := ps_t1 110 rfl rfl
theorem tw_91 : (.classLink "PageStore$Memories" 24 "PageStore$Values" : Cond) ∈ ps_tbl := ps_t1 111 rfl rfl
theorem tw_92 : (.methodLink "PageStore$Memories" 26 ⟨"PageStore$Values", "<init>", "(I)V"⟩ : Cond) ∈ ps_tbl := ps_t1 112 rfl rfl
theorem tw_93 : (.instanceMethod ⟨"PageStore$Column", "<init>", "(I)V"⟩ : Cond) ∈ ps_tbl := ps_t1 22 rfl rfl
theorem tw_94 : (.code ⟨"PageStore$Column", "<init>", "(I)V"⟩ prog_2_method_1_code 2 none : Cond) ∈ ps_tbl := ps_t1 23 rfl rfl
theorem tw_95 : (.instanceMethod ⟨"PageStore$Values", "<init>", "(I)V"⟩ : Cond) ∈ ps_tbl := ps_t1 58 rfl rfl
theorem tw_96 : (.code ⟨"PageStore$Values", "<init>", "(I)V"⟩ prog_6_method_1_code 2 none : Cond) ∈ ps_tbl := ps_t1 59 rfl rfl
theorem k_Col_init : ps_cdI ps_tbl y_Col_init prog_2_method_1_code 2 := ⟨tw_93, tw_39, tw_94⟩
theorem k_Val_init : ps_cdI ps_tbl y_Val_init prog_6_method_1_code 2 := ⟨tw_95, tw_69, tw_96⟩
set_option maxHeartbeats 4000000 in
set_option maxRecDepth 100000 in
/-- Column(lim) -/
theorem c_cinit (l : Launch) (dC : Nat → ClassId) (dI : Nat → Nat → Nat) (cI : ClassId) (tys : List (ClassId × FieldType)) (ht : tys[0]? = some (cI, FieldType.int)) (h lim : Nat) : ps_mV classes l y_Col_init w_Col_init ({ frames := 1, cells := 1, slots := 16, locals := 12 }) (dC, dI) tys [.ref h, .int (nI lim)] ([(h, .inr (cCol, [.int 0, .null]))]) (fun u => ∃ q : Nat, u = pc_W cI h q lim 16 (fun _ => 0)) := by
  refine ps_mV_of (by decide) rfl (Nat.le_of_ble_eq_true rfl) ?_
  intro p e s m below meth c A ls C0 hA hK hP hD hS hl
  obtain ⟨hx, hb, hr, hml, hts, hown, hlocks, hin⟩ := C0
  have hl : lv_has ls 2 [(0, .ref h), (1, .int (nI lim))] := hl
  have hP : va_P (dC, dI) classes [(h, .inr (cCol, [.int 0, .null]))] s.heap := hP
  have hD : va_D A [(h, .inr (cCol, [.int 0, .null]))] := hD
  refine lv_aload_n hx hb d_Col_init_0 rfl (lv_at hl 0 rfl) ?_
  refine W.objInit hx hb hown (hts _ tw_71) (hts _ tw_72) (hts _ tw_73) rfl (by rw [hml]; exact hl.1) rfl d_Col_init_1 (Nat.le_of_ble_eq_true rfl) (Nat.le_of_ble_eq_true rfl) ?_
  refine W.eq (g2 := F0 m 4 ls []) rfl ?_
  refine lv_aload_n hx hb d_Col_init_4 rfl (lv_at hl 0 rfl) ?_
  refine lv_bipush (v := nI 16) hx hb d_Col_init_5 (by decide) ?_
  refine ps_newi hx hb (hts _ tw_1) hK 0 ht hP hD hS hA (N := 16) (by decide) (Nat.le_of_ble_eq_true rfl) (Nat.le_of_ble_eq_true rfl) d_Col_init_7 (fun o_1 H hP hD hS => ?_)
  have hP : va_P (dC, dI) classes [(h, .inr (cCol, [.int 0, .null])), (o_1, .inl (cI, 16, .inl (fun _ => 0)))] H := hP
  have hD : va_D A [(h, .inr (cCol, [.int 0, .null])), (o_1, .inl (cI, 16, .inl (fun _ => 0)))] := hD
  refine va_put (D := (dC, dI)) (ci := cCol) (v := .ref o_1) (ty := .array .int) (C := R_Col) (T := F_Col) (N := 2) hx hb hts i_Col t_Col t_Col_ok n_Col hown hK hP hD hS 0 rfl rfl 1 (by decide) (hts _ tw_10) (fun _ h9 => h9) rfl (by decide +kernel) rfl rfl (Nat.le_of_ble_eq_true rfl) d_Col_init_9 (fun H locs hP hD hS => ?_)
  have hP : va_P (dC, dI) classes [(h, .inr (cCol, [.int 0, .ref o_1])), (o_1, .inl (cI, 16, .inl (fun _ => 0)))] H := hP
  have hD : va_D A [(h, .inr (cCol, [.int 0, .ref o_1])), (o_1, .inl (cI, 16, .inl (fun _ => 0)))] := hD
  refine lv_aload_n hx hb d_Col_init_12 rfl (lv_at hl 0 rfl) ?_
  refine lv_iload_n hx hb d_Col_init_13 rfl (lv_at hl 1 rfl) ?_
  refine va_putF (D := (dC, dI)) (ci := cCol) (v := .int (nI lim)) (ty := .int) (C := R_Col) (T := F_Col) (N := 2) hx hb hts i_Col t_Col t_Col_ok n_Col hown hK hP hD hS 0 rfl rfl 0 (by decide) (hts _ tw_11) (fun _ h9 => h9) rfl hin rfl (by decide +kernel) rfl rfl (Nat.le_of_ble_eq_true rfl) d_Col_init_14 (fun H locs hP hD hS => ?_)
  have hP : va_P (dC, dI) classes [(h, .inr (cCol, [.int (nI lim), .ref o_1])), (o_1, .inl (cI, 16, .inl (fun _ => 0)))] H := hP
  have hD : va_D A [(h, .inr (cCol, [.int (nI lim), .ref o_1])), (o_1, .inl (cI, 16, .inl (fun _ => 0)))] := hD
  exact ps_vret hx hb hr hlocks hK hP hD hS (Nat.le_of_ble_eq_true rfl) (Nat.le_of_ble_eq_true rfl) d_Col_init_17 (⟨o_1, rfl⟩)

set_option maxHeartbeats 4000000 in
set_option maxRecDepth 100000 in
/-- Values(lim) -/
theorem c_vinit (l : Launch) (dC : Nat → ClassId) (dI : Nat → Nat → Nat) (cI : ClassId) (tys : List (ClassId × FieldType)) (ht : tys[0]? = some (cI, FieldType.int)) (h lim : Nat) : ps_mV classes l y_Val_init w_Val_init ({ frames := 2, cells := 4, slots := 36, locals := 33 }) (dC, dI) tys [.ref h, .int (nI lim)] ([(h, .inr (cVal, [.null, .null]))]) (fun u => ∃ k q x y : Nat, u = pv_W cI h k q x y lim 16 16 (fun _ => 0) (fun _ => 0)) := by
  refine ps_mV_of (by decide) rfl (Nat.le_of_ble_eq_true rfl) ?_
  intro p e s m below meth c A ls C0 hA hK hP hD hS hl
  obtain ⟨hx, hb, hr, hml, hts, hown, hlocks, hin⟩ := C0
  have hl : lv_has ls 2 [(0, .ref h), (1, .int (nI lim))] := hl
  have hP : va_P (dC, dI) classes [(h, .inr (cVal, [.null, .null]))] s.heap := hP
  have hD : va_D A [(h, .inr (cVal, [.null, .null]))] := hD
  refine lv_aload_n hx hb d_Val_init_0 rfl (lv_at hl 0 rfl) ?_
  refine W.objInit hx hb hown (hts _ tw_74) (hts _ tw_72) (hts _ tw_73) rfl (by rw [hml]; exact hl.1) rfl d_Val_init_1 (Nat.le_of_ble_eq_true rfl) (Nat.le_of_ble_eq_true rfl) ?_
  refine W.eq (g2 := F0 m 4 ls []) rfl ?_
  refine lv_aload_n hx hb d_Val_init_4 rfl (lv_at hl 0 rfl) ?_
  refine va_new (ci := cCol) (fs := [.int 0, .null]) (C := R_Col) (T := F_Col) (N := 2) hx hb hts i_Col t_Col t_Col_ok hown (hts _ tw_75) (hts _ tw_76) (hts _ tw_39) hK hP hD hS hA rfl z_Col (Nat.le_of_ble_eq_true rfl) (Nat.le_of_ble_eq_true rfl) d_Val_init_5 (fun o_1 H hP hD hS => ?_)
  have hP : va_P (dC, dI) classes [(h, .inr (cVal, [.null, .null])), (o_1, .inr (cCol, [.int 0, .null]))] H := hP
  have hD : va_D A [(h, .inr (cVal, [.null, .null])), (o_1, .inr (cCol, [.int 0, .null]))] := hD
  refine lv_dup hx hb d_Val_init_8 rfl ?_
  refine lv_iload_n hx hb d_Val_init_9 rfl (lv_at hl 1 rfl) ?_
  refine ps_afterV (wc := [(o_1, .inr (cCol, [.int 0, .null]))]) (wr := [0].filterMap (fun z9 => ([(h, .inr (cVal, [.null, .null])), (o_1, .inr (cCol, [.int 0, .null]))] : va_W)[z9]?)) hP hD hS hA [1] [0] rfl rfl (by decide) (by decide) (ps_runIV ⟨hx, hb, hml, hown, hts⟩ (c_cinit l dC dI cI tys ht o_1 lim) (ps_cwI ps_gd 1 hts tw_77 k_Col_init rfl e_Col_init ⟨Nat.le_of_ble_eq_true rfl, Nat.le_of_ble_eq_true rfl⟩) hK hP hD [1] (by decide) rfl rfl hl.1 rfl (Nat.le_of_ble_eq_true rfl) d_Val_init_10 ⟨Nat.le_of_ble_eq_true rfl, Nat.le_of_ble_eq_true rfl⟩) (fun u_2 H locs hu_2 hP hD hS => ?_)
  obtain ⟨q_4, hu_2⟩ := hu_2
  subst hu_2
  obtain ⟨hP, hD⟩ := ps_perm (ws' := [(h, .inr (cVal, [.null, .null])), (o_1, .inr (cCol, [.int (nI lim), .ref q_4])), (q_4, .inl (cI, 16, .inl (fun _ => 0)))]) hP hD [0, 1, 2] (by decide) rfl
  refine va_putF (D := (dC, dI)) (ci := cVal) (v := .ref o_1) (ty := .object "PageStore$Column") (C := R_Val) (T := F_Val) (N := 2) hx hb hts i_Val t_Val t_Val_ok n_Val hown hK hP hD hS 0 rfl rfl 0 (by decide) (hts _ tw_25) (fun _ h9 => h9) rfl hin rfl (by decide +kernel) rfl rfl (Nat.le_of_ble_eq_true rfl) d_Val_init_13 (fun H locs hP hD hS => ?_)
  have hP : va_P (dC, dI) classes [(h, .inr (cVal, [.ref o_1, .null])), (o_1, .inr (cCol, [.int (nI lim), .ref q_4])), (q_4, .inl (cI, 16, .inl (fun _ => 0)))] H := hP
  have hD : va_D A [(h, .inr (cVal, [.ref o_1, .null])), (o_1, .inr (cCol, [.int (nI lim), .ref q_4])), (q_4, .inl (cI, 16, .inl (fun _ => 0)))] := hD
  refine lv_aload_n hx hb d_Val_init_16 rfl (lv_at hl 0 rfl) ?_
  refine va_new (ci := cCol) (fs := [.int 0, .null]) (C := R_Col) (T := F_Col) (N := 2) hx hb hts i_Col t_Col t_Col_ok hown (hts _ tw_75) (hts _ tw_76) (hts _ tw_39) hK hP hD hS hA rfl z_Col (Nat.le_of_ble_eq_true rfl) (Nat.le_of_ble_eq_true rfl) d_Val_init_17 (fun o_5 H hP hD hS => ?_)
  have hP : va_P (dC, dI) classes [(h, .inr (cVal, [.ref o_1, .null])), (o_1, .inr (cCol, [.int (nI lim), .ref q_4])), (q_4, .inl (cI, 16, .inl (fun _ => 0))), (o_5, .inr (cCol, [.int 0, .null]))] H := hP
  have hD : va_D A [(h, .inr (cVal, [.ref o_1, .null])), (o_1, .inr (cCol, [.int (nI lim), .ref q_4])), (q_4, .inl (cI, 16, .inl (fun _ => 0))), (o_5, .inr (cCol, [.int 0, .null]))] := hD
  refine lv_dup hx hb d_Val_init_20 rfl ?_
  refine lv_iload_n hx hb d_Val_init_21 rfl (lv_at hl 1 rfl) ?_
  refine ps_afterV (wc := [(o_5, .inr (cCol, [.int 0, .null]))]) (wr := [0, 1, 2].filterMap (fun z9 => ([(h, .inr (cVal, [.ref o_1, .null])), (o_1, .inr (cCol, [.int (nI lim), .ref q_4])), (q_4, .inl (cI, 16, .inl (fun _ => 0))), (o_5, .inr (cCol, [.int 0, .null]))] : va_W)[z9]?)) hP hD hS hA [3] [0, 1, 2] rfl rfl (by decide) (by decide) (ps_runIV ⟨hx, hb, hml, hown, hts⟩ (c_cinit l dC dI cI tys ht o_5 lim) (ps_cwI ps_gd 1 hts tw_77 k_Col_init rfl e_Col_init ⟨Nat.le_of_ble_eq_true rfl, Nat.le_of_ble_eq_true rfl⟩) hK hP hD [3] (by decide) rfl rfl hl.1 rfl (Nat.le_of_ble_eq_true rfl) d_Val_init_22 ⟨Nat.le_of_ble_eq_true rfl, Nat.le_of_ble_eq_true rfl⟩) (fun u_6 H locs hu_6 hP hD hS => ?_)
  obtain ⟨q_8, hu_6⟩ := hu_6
  subst hu_6
  obtain ⟨hP, hD⟩ := ps_perm (ws' := [(h, .inr (cVal, [.ref o_1, .null])), (o_1, .inr (cCol, [.int (nI lim), .ref q_4])), (q_4, .inl (cI, 16, .inl (fun _ => 0))), (o_5, .inr (cCol, [.int (nI lim), .ref q_8])), (q_8, .inl (cI, 16, .inl (fun _ => 0)))]) hP hD [0, 1, 2, 3, 4] (by decide) rfl
  refine va_putF (D := (dC, dI)) (ci := cVal) (v := .ref o_5) (ty := .object "PageStore$Column") (C := R_Val) (T := F_Val) (N := 2) hx hb hts i_Val t_Val t_Val_ok n_Val hown hK hP hD hS 0 rfl rfl 1 (by decide) (hts _ tw_27) (fun _ h9 => h9) rfl hin rfl (by decide +kernel) rfl rfl (Nat.le_of_ble_eq_true rfl) d_Val_init_25 (fun H locs hP hD hS => ?_)
  have hP : va_P (dC, dI) classes [(h, .inr (cVal, [.ref o_1, .ref o_5])), (o_1, .inr (cCol, [.int (nI lim), .ref q_4])), (q_4, .inl (cI, 16, .inl (fun _ => 0))), (o_5, .inr (cCol, [.int (nI lim), .ref q_8])), (q_8, .inl (cI, 16, .inl (fun _ => 0)))] H := hP
  have hD : va_D A [(h, .inr (cVal, [.ref o_1, .ref o_5])), (o_1, .inr (cCol, [.int (nI lim), .ref q_4])), (q_4, .inl (cI, 16, .inl (fun _ => 0))), (o_5, .inr (cCol, [.int (nI lim), .ref q_8])), (q_8, .inl (cI, 16, .inl (fun _ => 0)))] := hD
  exact ps_vret hx hb hr hlocks hK hP hD hS (Nat.le_of_ble_eq_true rfl) (Nat.le_of_ble_eq_true rfl) d_Val_init_28 (⟨o_1, q_4, o_5, q_8, rfl⟩)

set_option maxHeartbeats 4000000 in
set_option maxRecDepth 100000 in
/-- c_rinit -/
theorem c_rinit (l : Launch) (dC : Nat → ClassId) (dI : Nat → Nat → Nat) (cI : ClassId) (tys : List (ClassId × FieldType)) (ht : tys[0]? = some (cI, FieldType.int)) (h : Nat) : ps_mV classes l y_Row_init w_Row_init ({ frames := 2, cells := 6, slots := 54, locals := 33 }) (dC, dI) tys [.ref h] ([(h, .inr (cRow, [.null, .null, .null]))]) (fun u => ∃ k1 q1 k2 q2 k3 q3 : Nat, u = pr_W cI h k1 q1 k2 q2 k3 q3 16385 16 16 16 (fun _ => 0) (fun _ => 0) (fun _ => 0)) := by
  refine ps_mV_of (by decide) rfl (Nat.le_of_ble_eq_true rfl) ?_
  intro p e s m below meth c A ls C0 hA hK hP hD hS hl
  obtain ⟨hx, hb, hr, hml, hts, hown, hlocks, hin⟩ := C0
  have hl : lv_has ls 1 [(0, .ref h)] := hl
  have hP : va_P (dC, dI) classes [(h, .inr (cRow, [.null, .null, .null]))] s.heap := hP
  have hD : va_D A [(h, .inr (cRow, [.null, .null, .null]))] := hD
  refine lv_aload_n hx hb d_Row_init_0 rfl (lv_at hl 0 rfl) ?_
  refine W.objInit hx hb hown (hts _ tw_78) (hts _ tw_72) (hts _ tw_73) rfl (by rw [hml]; exact hl.1) rfl d_Row_init_1 (Nat.le_of_ble_eq_true rfl) (Nat.le_of_ble_eq_true rfl) ?_
  refine W.eq (g2 := F0 m 4 ls []) rfl ?_
  refine lv_aload_n hx hb d_Row_init_4 rfl (lv_at hl 0 rfl) ?_
  refine va_new (ci := cCol) (fs := [.int 0, .null]) (C := R_Col) (T := F_Col) (N := 2) hx hb hts i_Col t_Col t_Col_ok hown (hts _ tw_79) (hts _ tw_76) (hts _ tw_39) hK hP hD hS hA rfl z_Col (Nat.le_of_ble_eq_true rfl) (Nat.le_of_ble_eq_true rfl) d_Row_init_5 (fun o_1 H hP hD hS => ?_)
  have hP : va_P (dC, dI) classes [(h, .inr (cRow, [.null, .null, .null])), (o_1, .inr (cCol, [.int 0, .null]))] H := hP
  have hD : va_D A [(h, .inr (cRow, [.null, .null, .null])), (o_1, .inr (cCol, [.int 0, .null]))] := hD
  refine lv_dup hx hb d_Row_init_8 rfl ?_
  refine lv_sipush (v := nI 16385) hx hb d_Row_init_9 (by decide) ?_
  refine ps_afterV (wc := [(o_1, .inr (cCol, [.int 0, .null]))]) (wr := [0].filterMap (fun z9 => ([(h, .inr (cRow, [.null, .null, .null])), (o_1, .inr (cCol, [.int 0, .null]))] : va_W)[z9]?)) hP hD hS hA [1] [0] rfl rfl (by decide) (by decide) (ps_runIV ⟨hx, hb, hml, hown, hts⟩ (c_cinit l dC dI cI tys ht o_1 16385) (ps_cwI ps_gd 1 hts tw_80 k_Col_init rfl e_Col_init ⟨Nat.le_of_ble_eq_true rfl, Nat.le_of_ble_eq_true rfl⟩) hK hP hD [1] (by decide) rfl rfl hl.1 rfl (Nat.le_of_ble_eq_true rfl) d_Row_init_12 ⟨Nat.le_of_ble_eq_true rfl, Nat.le_of_ble_eq_true rfl⟩) (fun u_2 H locs hu_2 hP hD hS => ?_)
  obtain ⟨q_4, hu_2⟩ := hu_2
  subst hu_2
  obtain ⟨hP, hD⟩ := ps_perm (ws' := [(h, .inr (cRow, [.null, .null, .null])), (o_1, .inr (cCol, [.int (nI 16385), .ref q_4])), (q_4, .inl (cI, 16, .inl (fun _ => 0)))]) hP hD [0, 1, 2] (by decide) rfl
  refine va_putF (D := (dC, dI)) (ci := cRow) (v := .ref o_1) (ty := .object "PageStore$Column") (C := R_Row) (T := F_Row) (N := 3) hx hb hts i_Row t_Row t_Row_ok n_Row hown hK hP hD hS 0 rfl rfl 0 (by decide) (hts _ tw_29) (fun _ h9 => h9) rfl hin rfl (by decide +kernel) rfl rfl (Nat.le_of_ble_eq_true rfl) d_Row_init_15 (fun H locs hP hD hS => ?_)
  have hP : va_P (dC, dI) classes [(h, .inr (cRow, [.ref o_1, .null, .null])), (o_1, .inr (cCol, [.int (nI 16385), .ref q_4])), (q_4, .inl (cI, 16, .inl (fun _ => 0)))] H := hP
  have hD : va_D A [(h, .inr (cRow, [.ref o_1, .null, .null])), (o_1, .inr (cCol, [.int (nI 16385), .ref q_4])), (q_4, .inl (cI, 16, .inl (fun _ => 0)))] := hD
  refine lv_aload_n hx hb d_Row_init_18 rfl (lv_at hl 0 rfl) ?_
  refine va_new (ci := cCol) (fs := [.int 0, .null]) (C := R_Col) (T := F_Col) (N := 2) hx hb hts i_Col t_Col t_Col_ok hown (hts _ tw_79) (hts _ tw_76) (hts _ tw_39) hK hP hD hS hA rfl z_Col (Nat.le_of_ble_eq_true rfl) (Nat.le_of_ble_eq_true rfl) d_Row_init_19 (fun o_5 H hP hD hS => ?_)
  have hP : va_P (dC, dI) classes [(h, .inr (cRow, [.ref o_1, .null, .null])), (o_1, .inr (cCol, [.int (nI 16385), .ref q_4])), (q_4, .inl (cI, 16, .inl (fun _ => 0))), (o_5, .inr (cCol, [.int 0, .null]))] H := hP
  have hD : va_D A [(h, .inr (cRow, [.ref o_1, .null, .null])), (o_1, .inr (cCol, [.int (nI 16385), .ref q_4])), (q_4, .inl (cI, 16, .inl (fun _ => 0))), (o_5, .inr (cCol, [.int 0, .null]))] := hD
  refine lv_dup hx hb d_Row_init_22 rfl ?_
  refine lv_sipush (v := nI 16385) hx hb d_Row_init_23 (by decide) ?_
  refine ps_afterV (wc := [(o_5, .inr (cCol, [.int 0, .null]))]) (wr := [0, 1, 2].filterMap (fun z9 => ([(h, .inr (cRow, [.ref o_1, .null, .null])), (o_1, .inr (cCol, [.int (nI 16385), .ref q_4])), (q_4, .inl (cI, 16, .inl (fun _ => 0))), (o_5, .inr (cCol, [.int 0, .null]))] : va_W)[z9]?)) hP hD hS hA [3] [0, 1, 2] rfl rfl (by decide) (by decide) (ps_runIV ⟨hx, hb, hml, hown, hts⟩ (c_cinit l dC dI cI tys ht o_5 16385) (ps_cwI ps_gd 1 hts tw_80 k_Col_init rfl e_Col_init ⟨Nat.le_of_ble_eq_true rfl, Nat.le_of_ble_eq_true rfl⟩) hK hP hD [3] (by decide) rfl rfl hl.1 rfl (Nat.le_of_ble_eq_true rfl) d_Row_init_26 ⟨Nat.le_of_ble_eq_true rfl, Nat.le_of_ble_eq_true rfl⟩) (fun u_6 H locs hu_6 hP hD hS => ?_)
  obtain ⟨q_8, hu_6⟩ := hu_6
  subst hu_6
  obtain ⟨hP, hD⟩ := ps_perm (ws' := [(h, .inr (cRow, [.ref o_1, .null, .null])), (o_1, .inr (cCol, [.int (nI 16385), .ref q_4])), (q_4, .inl (cI, 16, .inl (fun _ => 0))), (o_5, .inr (cCol, [.int (nI 16385), .ref q_8])), (q_8, .inl (cI, 16, .inl (fun _ => 0)))]) hP hD [0, 1, 2, 3, 4] (by decide) rfl
  refine va_putF (D := (dC, dI)) (ci := cRow) (v := .ref o_5) (ty := .object "PageStore$Column") (C := R_Row) (T := F_Row) (N := 3) hx hb hts i_Row t_Row t_Row_ok n_Row hown hK hP hD hS 0 rfl rfl 1 (by decide) (hts _ tw_31) (fun _ h9 => h9) rfl hin rfl (by decide +kernel) rfl rfl (Nat.le_of_ble_eq_true rfl) d_Row_init_29 (fun H locs hP hD hS => ?_)
  have hP : va_P (dC, dI) classes [(h, .inr (cRow, [.ref o_1, .ref o_5, .null])), (o_1, .inr (cCol, [.int (nI 16385), .ref q_4])), (q_4, .inl (cI, 16, .inl (fun _ => 0))), (o_5, .inr (cCol, [.int (nI 16385), .ref q_8])), (q_8, .inl (cI, 16, .inl (fun _ => 0)))] H := hP
  have hD : va_D A [(h, .inr (cRow, [.ref o_1, .ref o_5, .null])), (o_1, .inr (cCol, [.int (nI 16385), .ref q_4])), (q_4, .inl (cI, 16, .inl (fun _ => 0))), (o_5, .inr (cCol, [.int (nI 16385), .ref q_8])), (q_8, .inl (cI, 16, .inl (fun _ => 0)))] := hD
  refine lv_aload_n hx hb d_Row_init_32 rfl (lv_at hl 0 rfl) ?_
  refine va_new (ci := cCol) (fs := [.int 0, .null]) (C := R_Col) (T := F_Col) (N := 2) hx hb hts i_Col t_Col t_Col_ok hown (hts _ tw_79) (hts _ tw_76) (hts _ tw_39) hK hP hD hS hA rfl z_Col (Nat.le_of_ble_eq_true rfl) (Nat.le_of_ble_eq_true rfl) d_Row_init_33 (fun o_9 H hP hD hS => ?_)
  have hP : va_P (dC, dI) classes [(h, .inr (cRow, [.ref o_1, .ref o_5, .null])), (o_1, .inr (cCol, [.int (nI 16385), .ref q_4])), (q_4, .inl (cI, 16, .inl (fun _ => 0))), (o_5, .inr (cCol, [.int (nI 16385), .ref q_8])), (q_8, .inl (cI, 16, .inl (fun _ => 0))), (o_9, .inr (cCol, [.int 0, .null]))] H := hP
  have hD : va_D A [(h, .inr (cRow, [.ref o_1, .ref o_5, .null])), (o_1, .inr (cCol, [.int (nI 16385), .ref q_4])), (q_4, .inl (cI, 16, .inl (fun _ => 0))), (o_5, .inr (cCol, [.int (nI 16385), .ref q_8])), (q_8, .inl (cI, 16, .inl (fun _ => 0))), (o_9, .inr (cCol, [.int 0, .null]))] := hD
  refine lv_dup hx hb d_Row_init_36 rfl ?_
  refine lv_sipush (v := nI 16385) hx hb d_Row_init_37 (by decide) ?_
  refine ps_afterV (wc := [(o_9, .inr (cCol, [.int 0, .null]))]) (wr := [0, 1, 2, 3, 4].filterMap (fun z9 => ([(h, .inr (cRow, [.ref o_1, .ref o_5, .null])), (o_1, .inr (cCol, [.int (nI 16385), .ref q_4])), (q_4, .inl (cI, 16, .inl (fun _ => 0))), (o_5, .inr (cCol, [.int (nI 16385), .ref q_8])), (q_8, .inl (cI, 16, .inl (fun _ => 0))), (o_9, .inr (cCol, [.int 0, .null]))] : va_W)[z9]?)) hP hD hS hA [5] [0, 1, 2, 3, 4] rfl rfl (by decide) (by decide) (ps_runIV ⟨hx, hb, hml, hown, hts⟩ (c_cinit l dC dI cI tys ht o_9 16385) (ps_cwI ps_gd 1 hts tw_80 k_Col_init rfl e_Col_init ⟨Nat.le_of_ble_eq_true rfl, Nat.le_of_ble_eq_true rfl⟩) hK hP hD [5] (by decide) rfl rfl hl.1 rfl (Nat.le_of_ble_eq_true rfl) d_Row_init_40 ⟨Nat.le_of_ble_eq_true rfl, Nat.le_of_ble_eq_true rfl⟩) (fun u_10 H locs hu_10 hP hD hS => ?_)
  obtain ⟨q_12, hu_10⟩ := hu_10
  subst hu_10
  obtain ⟨hP, hD⟩ := ps_perm (ws' := [(h, .inr (cRow, [.ref o_1, .ref o_5, .null])), (o_1, .inr (cCol, [.int (nI 16385), .ref q_4])), (q_4, .inl (cI, 16, .inl (fun _ => 0))), (o_5, .inr (cCol, [.int (nI 16385), .ref q_8])), (q_8, .inl (cI, 16, .inl (fun _ => 0))), (o_9, .inr (cCol, [.int (nI 16385), .ref q_12])), (q_12, .inl (cI, 16, .inl (fun _ => 0)))]) hP hD [0, 1, 2, 3, 4, 5, 6] (by decide) rfl
  refine va_putF (D := (dC, dI)) (ci := cRow) (v := .ref o_9) (ty := .object "PageStore$Column") (C := R_Row) (T := F_Row) (N := 3) hx hb hts i_Row t_Row t_Row_ok n_Row hown hK hP hD hS 0 rfl rfl 2 (by decide) (hts _ tw_32) (fun _ h9 => h9) rfl hin rfl (by decide +kernel) rfl rfl (Nat.le_of_ble_eq_true rfl) d_Row_init_43 (fun H locs hP hD hS => ?_)
  have hP : va_P (dC, dI) classes [(h, .inr (cRow, [.ref o_1, .ref o_5, .ref o_9])), (o_1, .inr (cCol, [.int (nI 16385), .ref q_4])), (q_4, .inl (cI, 16, .inl (fun _ => 0))), (o_5, .inr (cCol, [.int (nI 16385), .ref q_8])), (q_8, .inl (cI, 16, .inl (fun _ => 0))), (o_9, .inr (cCol, [.int (nI 16385), .ref q_12])), (q_12, .inl (cI, 16, .inl (fun _ => 0)))] H := hP
  have hD : va_D A [(h, .inr (cRow, [.ref o_1, .ref o_5, .ref o_9])), (o_1, .inr (cCol, [.int (nI 16385), .ref q_4])), (q_4, .inl (cI, 16, .inl (fun _ => 0))), (o_5, .inr (cCol, [.int (nI 16385), .ref q_8])), (q_8, .inl (cI, 16, .inl (fun _ => 0))), (o_9, .inr (cCol, [.int (nI 16385), .ref q_12])), (q_12, .inl (cI, 16, .inl (fun _ => 0)))] := hD
  exact ps_vret hx hb hr hlocks hK hP hD hS (Nat.le_of_ble_eq_true rfl) (Nat.le_of_ble_eq_true rfl) d_Row_init_46 (⟨o_1, q_4, o_5, q_8, o_9, q_12, rfl⟩)

set_option maxHeartbeats 4000000 in
set_option maxRecDepth 100000 in
/-- c_kinit -/
theorem c_kinit (l : Launch) (dC : Nat → ClassId) (dI : Nat → Nat → Nat) (cI : ClassId) (tys : List (ClassId × FieldType)) (ht : tys[0]? = some (cI, FieldType.int)) (h : Nat) : ps_mV classes l y_Key_init w_Key_init ({ frames := 3, cells := 11, slots := 92, locals := 54 }) (dC, dI) tys [.ref h] ([(h, .inr (cKey, [.null, .null, .null, .null]))]) (fun u => ∃ k1 q1 k2 q2 k3 q3 hv k4 q4 k5 q5 : Nat, u = [(h, .inr (cKey, [.ref k1, .ref k2, .ref k3, .ref hv])), (k1, .inr (cCol, [.int (nI 16384), .ref q1])), (q1, .inl (cI, 16, .inl (fun _ => 0))), (k2, .inr (cCol, [.int (nI 16384), .ref q2])), (q2, .inl (cI, 16, .inl (fun _ => 0))), (k3, .inr (cCol, [.int (nI 16384), .ref q3])), (q3, .inl (cI, 16, .inl (fun _ => 0))), (hv, .inr (cVal, [.ref k4, .ref k5])), (k4, .inr (cCol, [.int (nI 16384), .ref q4])), (q4, .inl (cI, 16, .inl (fun _ => 0))), (k5, .inr (cCol, [.int (nI 16384), .ref q5])), (q5, .inl (cI, 16, .inl (fun _ => 0)))]) := by
  refine ps_mV_of (by decide) rfl (Nat.le_of_ble_eq_true rfl) ?_
  intro p e s m below meth c A ls C0 hA hK hP hD hS hl
  obtain ⟨hx, hb, hr, hml, hts, hown, hlocks, hin⟩ := C0
  have hl : lv_has ls 1 [(0, .ref h)] := hl
  have hP : va_P (dC, dI) classes [(h, .inr (cKey, [.null, .null, .null, .null]))] s.heap := hP
  have hD : va_D A [(h, .inr (cKey, [.null, .null, .null, .null]))] := hD
  refine lv_aload_n hx hb d_Key_init_0 rfl (lv_at hl 0 rfl) ?_
  refine W.objInit hx hb hown (hts _ tw_81) (hts _ tw_72) (hts _ tw_73) rfl (by rw [hml]; exact hl.1) rfl d_Key_init_1 (Nat.le_of_ble_eq_true rfl) (Nat.le_of_ble_eq_true rfl) ?_
  refine W.eq (g2 := F0 m 4 ls []) rfl ?_
  refine lv_aload_n hx hb d_Key_init_4 rfl (lv_at hl 0 rfl) ?_
  refine va_new (ci := cCol) (fs := [.int 0, .null]) (C := R_Col) (T := F_Col) (N := 2) hx hb hts i_Col t_Col t_Col_ok hown (hts _ tw_82) (hts _ tw_76) (hts _ tw_39) hK hP hD hS hA rfl z_Col (Nat.le_of_ble_eq_true rfl) (Nat.le_of_ble_eq_true rfl) d_Key_init_5 (fun o_1 H hP hD hS => ?_)
  have hP : va_P (dC, dI) classes [(h, .inr (cKey, [.null, .null, .null, .null])), (o_1, .inr (cCol, [.int 0, .null]))] H := hP
  have hD : va_D A [(h, .inr (cKey, [.null, .null, .null, .null])), (o_1, .inr (cCol, [.int 0, .null]))] := hD
  refine lv_dup hx hb d_Key_init_8 rfl ?_
  refine lv_sipush (v := nI 16384) hx hb d_Key_init_9 (by decide) ?_
  refine ps_afterV (wc := [(o_1, .inr (cCol, [.int 0, .null]))]) (wr := [0].filterMap (fun z9 => ([(h, .inr (cKey, [.null, .null, .null, .null])), (o_1, .inr (cCol, [.int 0, .null]))] : va_W)[z9]?)) hP hD hS hA [1] [0] rfl rfl (by decide) (by decide) (ps_runIV ⟨hx, hb, hml, hown, hts⟩ (c_cinit l dC dI cI tys ht o_1 16384) (ps_cwI ps_gd 1 hts tw_83 k_Col_init rfl e_Col_init ⟨Nat.le_of_ble_eq_true rfl, Nat.le_of_ble_eq_true rfl⟩) hK hP hD [1] (by decide) rfl rfl hl.1 rfl (Nat.le_of_ble_eq_true rfl) d_Key_init_12 ⟨Nat.le_of_ble_eq_true rfl, Nat.le_of_ble_eq_true rfl⟩) (fun u_2 H locs hu_2 hP hD hS => ?_)
  obtain ⟨q_4, hu_2⟩ := hu_2
  subst hu_2
  obtain ⟨hP, hD⟩ := ps_perm (ws' := [(h, .inr (cKey, [.null, .null, .null, .null])), (o_1, .inr (cCol, [.int (nI 16384), .ref q_4])), (q_4, .inl (cI, 16, .inl (fun _ => 0)))]) hP hD [0, 1, 2] (by decide) rfl
  refine va_putF (D := (dC, dI)) (ci := cKey) (v := .ref o_1) (ty := .object "PageStore$Column") (C := R_Key) (T := F_Key) (N := 4) hx hb hts i_Key t_Key t_Key_ok n_Key hown hK hP hD hS 0 rfl rfl 0 (by decide) (hts _ tw_33) (fun _ h9 => h9) rfl hin rfl (by decide +kernel) rfl rfl (Nat.le_of_ble_eq_true rfl) d_Key_init_15 (fun H locs hP hD hS => ?_)
  have hP : va_P (dC, dI) classes [(h, .inr (cKey, [.ref o_1, .null, .null, .null])), (o_1, .inr (cCol, [.int (nI 16384), .ref q_4])), (q_4, .inl (cI, 16, .inl (fun _ => 0)))] H := hP
  have hD : va_D A [(h, .inr (cKey, [.ref o_1, .null, .null, .null])), (o_1, .inr (cCol, [.int (nI 16384), .ref q_4])), (q_4, .inl (cI, 16, .inl (fun _ => 0)))] := hD
  refine lv_aload_n hx hb d_Key_init_18 rfl (lv_at hl 0 rfl) ?_
  refine va_new (ci := cCol) (fs := [.int 0, .null]) (C := R_Col) (T := F_Col) (N := 2) hx hb hts i_Col t_Col t_Col_ok hown (hts _ tw_82) (hts _ tw_76) (hts _ tw_39) hK hP hD hS hA rfl z_Col (Nat.le_of_ble_eq_true rfl) (Nat.le_of_ble_eq_true rfl) d_Key_init_19 (fun o_5 H hP hD hS => ?_)
  have hP : va_P (dC, dI) classes [(h, .inr (cKey, [.ref o_1, .null, .null, .null])), (o_1, .inr (cCol, [.int (nI 16384), .ref q_4])), (q_4, .inl (cI, 16, .inl (fun _ => 0))), (o_5, .inr (cCol, [.int 0, .null]))] H := hP
  have hD : va_D A [(h, .inr (cKey, [.ref o_1, .null, .null, .null])), (o_1, .inr (cCol, [.int (nI 16384), .ref q_4])), (q_4, .inl (cI, 16, .inl (fun _ => 0))), (o_5, .inr (cCol, [.int 0, .null]))] := hD
  refine lv_dup hx hb d_Key_init_22 rfl ?_
  refine lv_sipush (v := nI 16384) hx hb d_Key_init_23 (by decide) ?_
  refine ps_afterV (wc := [(o_5, .inr (cCol, [.int 0, .null]))]) (wr := [0, 1, 2].filterMap (fun z9 => ([(h, .inr (cKey, [.ref o_1, .null, .null, .null])), (o_1, .inr (cCol, [.int (nI 16384), .ref q_4])), (q_4, .inl (cI, 16, .inl (fun _ => 0))), (o_5, .inr (cCol, [.int 0, .null]))] : va_W)[z9]?)) hP hD hS hA [3] [0, 1, 2] rfl rfl (by decide) (by decide) (ps_runIV ⟨hx, hb, hml, hown, hts⟩ (c_cinit l dC dI cI tys ht o_5 16384) (ps_cwI ps_gd 1 hts tw_83 k_Col_init rfl e_Col_init ⟨Nat.le_of_ble_eq_true rfl, Nat.le_of_ble_eq_true rfl⟩) hK hP hD [3] (by decide) rfl rfl hl.1 rfl (Nat.le_of_ble_eq_true rfl) d_Key_init_26 ⟨Nat.le_of_ble_eq_true rfl, Nat.le_of_ble_eq_true rfl⟩) (fun u_6 H locs hu_6 hP hD hS => ?_)
  obtain ⟨q_8, hu_6⟩ := hu_6
  subst hu_6
  obtain ⟨hP, hD⟩ := ps_perm (ws' := [(h, .inr (cKey, [.ref o_1, .null, .null, .null])), (o_1, .inr (cCol, [.int (nI 16384), .ref q_4])), (q_4, .inl (cI, 16, .inl (fun _ => 0))), (o_5, .inr (cCol, [.int (nI 16384), .ref q_8])), (q_8, .inl (cI, 16, .inl (fun _ => 0)))]) hP hD [0, 1, 2, 3, 4] (by decide) rfl
  refine va_putF (D := (dC, dI)) (ci := cKey) (v := .ref o_5) (ty := .object "PageStore$Column") (C := R_Key) (T := F_Key) (N := 4) hx hb hts i_Key t_Key t_Key_ok n_Key hown hK hP hD hS 0 rfl rfl 1 (by decide) (hts _ tw_35) (fun _ h9 => h9) rfl hin rfl (by decide +kernel) rfl rfl (Nat.le_of_ble_eq_true rfl) d_Key_init_29 (fun H locs hP hD hS => ?_)
  have hP : va_P (dC, dI) classes [(h, .inr (cKey, [.ref o_1, .ref o_5, .null, .null])), (o_1, .inr (cCol, [.int (nI 16384), .ref q_4])), (q_4, .inl (cI, 16, .inl (fun _ => 0))), (o_5, .inr (cCol, [.int (nI 16384), .ref q_8])), (q_8, .inl (cI, 16, .inl (fun _ => 0)))] H := hP
  have hD : va_D A [(h, .inr (cKey, [.ref o_1, .ref o_5, .null, .null])), (o_1, .inr (cCol, [.int (nI 16384), .ref q_4])), (q_4, .inl (cI, 16, .inl (fun _ => 0))), (o_5, .inr (cCol, [.int (nI 16384), .ref q_8])), (q_8, .inl (cI, 16, .inl (fun _ => 0)))] := hD
  refine lv_aload_n hx hb d_Key_init_32 rfl (lv_at hl 0 rfl) ?_
  refine va_new (ci := cCol) (fs := [.int 0, .null]) (C := R_Col) (T := F_Col) (N := 2) hx hb hts i_Col t_Col t_Col_ok hown (hts _ tw_82) (hts _ tw_76) (hts _ tw_39) hK hP hD hS hA rfl z_Col (Nat.le_of_ble_eq_true rfl) (Nat.le_of_ble_eq_true rfl) d_Key_init_33 (fun o_9 H hP hD hS => ?_)
  have hP : va_P (dC, dI) classes [(h, .inr (cKey, [.ref o_1, .ref o_5, .null, .null])), (o_1, .inr (cCol, [.int (nI 16384), .ref q_4])), (q_4, .inl (cI, 16, .inl (fun _ => 0))), (o_5, .inr (cCol, [.int (nI 16384), .ref q_8])), (q_8, .inl (cI, 16, .inl (fun _ => 0))), (o_9, .inr (cCol, [.int 0, .null]))] H := hP
  have hD : va_D A [(h, .inr (cKey, [.ref o_1, .ref o_5, .null, .null])), (o_1, .inr (cCol, [.int (nI 16384), .ref q_4])), (q_4, .inl (cI, 16, .inl (fun _ => 0))), (o_5, .inr (cCol, [.int (nI 16384), .ref q_8])), (q_8, .inl (cI, 16, .inl (fun _ => 0))), (o_9, .inr (cCol, [.int 0, .null]))] := hD
  refine lv_dup hx hb d_Key_init_36 rfl ?_
  refine lv_sipush (v := nI 16384) hx hb d_Key_init_37 (by decide) ?_
  refine ps_afterV (wc := [(o_9, .inr (cCol, [.int 0, .null]))]) (wr := [0, 1, 2, 3, 4].filterMap (fun z9 => ([(h, .inr (cKey, [.ref o_1, .ref o_5, .null, .null])), (o_1, .inr (cCol, [.int (nI 16384), .ref q_4])), (q_4, .inl (cI, 16, .inl (fun _ => 0))), (o_5, .inr (cCol, [.int (nI 16384), .ref q_8])), (q_8, .inl (cI, 16, .inl (fun _ => 0))), (o_9, .inr (cCol, [.int 0, .null]))] : va_W)[z9]?)) hP hD hS hA [5] [0, 1, 2, 3, 4] rfl rfl (by decide) (by decide) (ps_runIV ⟨hx, hb, hml, hown, hts⟩ (c_cinit l dC dI cI tys ht o_9 16384) (ps_cwI ps_gd 1 hts tw_83 k_Col_init rfl e_Col_init ⟨Nat.le_of_ble_eq_true rfl, Nat.le_of_ble_eq_true rfl⟩) hK hP hD [5] (by decide) rfl rfl hl.1 rfl (Nat.le_of_ble_eq_true rfl) d_Key_init_40 ⟨Nat.le_of_ble_eq_true rfl, Nat.le_of_ble_eq_true rfl⟩) (fun u_10 H locs hu_10 hP hD hS => ?_)
  obtain ⟨q_12, hu_10⟩ := hu_10
  subst hu_10
  obtain ⟨hP, hD⟩ := ps_perm (ws' := [(h, .inr (cKey, [.ref o_1, .ref o_5, .null, .null])), (o_1, .inr (cCol, [.int (nI 16384), .ref q_4])), (q_4, .inl (cI, 16, .inl (fun _ => 0))), (o_5, .inr (cCol, [.int (nI 16384), .ref q_8])), (q_8, .inl (cI, 16, .inl (fun _ => 0))), (o_9, .inr (cCol, [.int (nI 16384), .ref q_12])), (q_12, .inl (cI, 16, .inl (fun _ => 0)))]) hP hD [0, 1, 2, 3, 4, 5, 6] (by decide) rfl
  refine va_putF (D := (dC, dI)) (ci := cKey) (v := .ref o_9) (ty := .object "PageStore$Column") (C := R_Key) (T := F_Key) (N := 4) hx hb hts i_Key t_Key t_Key_ok n_Key hown hK hP hD hS 0 rfl rfl 2 (by decide) (hts _ tw_36) (fun _ h9 => h9) rfl hin rfl (by decide +kernel) rfl rfl (Nat.le_of_ble_eq_true rfl) d_Key_init_43 (fun H locs hP hD hS => ?_)
  have hP : va_P (dC, dI) classes [(h, .inr (cKey, [.ref o_1, .ref o_5, .ref o_9, .null])), (o_1, .inr (cCol, [.int (nI 16384), .ref q_4])), (q_4, .inl (cI, 16, .inl (fun _ => 0))), (o_5, .inr (cCol, [.int (nI 16384), .ref q_8])), (q_8, .inl (cI, 16, .inl (fun _ => 0))), (o_9, .inr (cCol, [.int (nI 16384), .ref q_12])), (q_12, .inl (cI, 16, .inl (fun _ => 0)))] H := hP
  have hD : va_D A [(h, .inr (cKey, [.ref o_1, .ref o_5, .ref o_9, .null])), (o_1, .inr (cCol, [.int (nI 16384), .ref q_4])), (q_4, .inl (cI, 16, .inl (fun _ => 0))), (o_5, .inr (cCol, [.int (nI 16384), .ref q_8])), (q_8, .inl (cI, 16, .inl (fun _ => 0))), (o_9, .inr (cCol, [.int (nI 16384), .ref q_12])), (q_12, .inl (cI, 16, .inl (fun _ => 0)))] := hD
  refine lv_aload_n hx hb d_Key_init_46 rfl (lv_at hl 0 rfl) ?_
  refine va_new (ci := cVal) (fs := [.null, .null]) (C := R_Val) (T := F_Val) (N := 2) hx hb hts i_Val t_Val t_Val_ok hown (hts _ tw_84) (hts _ tw_85) (hts _ tw_69) hK hP hD hS hA rfl z_Val (Nat.le_of_ble_eq_true rfl) (Nat.le_of_ble_eq_true rfl) d_Key_init_47 (fun o_13 H hP hD hS => ?_)
  have hP : va_P (dC, dI) classes [(h, .inr (cKey, [.ref o_1, .ref o_5, .ref o_9, .null])), (o_1, .inr (cCol, [.int (nI 16384), .ref q_4])), (q_4, .inl (cI, 16, .inl (fun _ => 0))), (o_5, .inr (cCol, [.int (nI 16384), .ref q_8])), (q_8, .inl (cI, 16, .inl (fun _ => 0))), (o_9, .inr (cCol, [.int (nI 16384), .ref q_12])), (q_12, .inl (cI, 16, .inl (fun _ => 0))), (o_13, .inr (cVal, [.null, .null]))] H := hP
  have hD : va_D A [(h, .inr (cKey, [.ref o_1, .ref o_5, .ref o_9, .null])), (o_1, .inr (cCol, [.int (nI 16384), .ref q_4])), (q_4, .inl (cI, 16, .inl (fun _ => 0))), (o_5, .inr (cCol, [.int (nI 16384), .ref q_8])), (q_8, .inl (cI, 16, .inl (fun _ => 0))), (o_9, .inr (cCol, [.int (nI 16384), .ref q_12])), (q_12, .inl (cI, 16, .inl (fun _ => 0))), (o_13, .inr (cVal, [.null, .null]))] := hD
  refine lv_dup hx hb d_Key_init_50 rfl ?_
  refine lv_sipush (v := nI 16384) hx hb d_Key_init_51 (by decide) ?_
  refine ps_afterV (wc := [(o_13, .inr (cVal, [.null, .null]))]) (wr := [0, 1, 2, 3, 4, 5, 6].filterMap (fun z9 => ([(h, .inr (cKey, [.ref o_1, .ref o_5, .ref o_9, .null])), (o_1, .inr (cCol, [.int (nI 16384), .ref q_4])), (q_4, .inl (cI, 16, .inl (fun _ => 0))), (o_5, .inr (cCol, [.int (nI 16384), .ref q_8])), (q_8, .inl (cI, 16, .inl (fun _ => 0))), (o_9, .inr (cCol, [.int (nI 16384), .ref q_12])), (q_12, .inl (cI, 16, .inl (fun _ => 0))), (o_13, .inr (cVal, [.null, .null]))] : va_W)[z9]?)) hP hD hS hA [7] [0, 1, 2, 3, 4, 5, 6] rfl rfl (by decide) (by decide) (ps_runIV ⟨hx, hb, hml, hown, hts⟩ (c_vinit l dC dI cI tys ht o_13 16384) (ps_cwI ps_gd 1 hts tw_86 k_Val_init rfl e_Val_init ⟨Nat.le_of_ble_eq_true rfl, Nat.le_of_ble_eq_true rfl⟩) hK hP hD [7] (by decide) rfl rfl hl.1 rfl (Nat.le_of_ble_eq_true rfl) d_Key_init_54 ⟨Nat.le_of_ble_eq_true rfl, Nat.le_of_ble_eq_true rfl⟩) (fun u_14 H locs hu_14 hP hD hS => ?_)
  obtain ⟨q_16, q_17, q_18, q_19, hu_14⟩ := hu_14
  subst hu_14
  obtain ⟨hP, hD⟩ := ps_perm (ws' := [(h, .inr (cKey, [.ref o_1, .ref o_5, .ref o_9, .null])), (o_1, .inr (cCol, [.int (nI 16384), .ref q_4])), (q_4, .inl (cI, 16, .inl (fun _ => 0))), (o_5, .inr (cCol, [.int (nI 16384), .ref q_8])), (q_8, .inl (cI, 16, .inl (fun _ => 0))), (o_9, .inr (cCol, [.int (nI 16384), .ref q_12])), (q_12, .inl (cI, 16, .inl (fun _ => 0))), (o_13, .inr (cVal, [.ref q_16, .ref q_18])), (q_16, .inr (cCol, [.int (nI 16384), .ref q_17])), (q_17, .inl (cI, 16, .inl (fun _ => 0))), (q_18, .inr (cCol, [.int (nI 16384), .ref q_19])), (q_19, .inl (cI, 16, .inl (fun _ => 0)))]) hP hD [0, 1, 2, 3, 4, 5, 6, 7, 8, 9, 10, 11] (by decide) rfl
  refine va_putF (D := (dC, dI)) (ci := cKey) (v := .ref o_13) (ty := .object "PageStore$Values") (C := R_Key) (T := F_Key) (N := 4) hx hb hts i_Key t_Key t_Key_ok n_Key hown hK hP hD hS 0 rfl rfl 3 (by decide) (hts _ tw_45) (fun _ h9 => h9) rfl hin rfl (by decide +kernel) rfl rfl (Nat.le_of_ble_eq_true rfl) d_Key_init_57 (fun H locs hP hD hS => ?_)
  have hP : va_P (dC, dI) classes [(h, .inr (cKey, [.ref o_1, .ref o_5, .ref o_9, .ref o_13])), (o_1, .inr (cCol, [.int (nI 16384), .ref q_4])), (q_4, .inl (cI, 16, .inl (fun _ => 0))), (o_5, .inr (cCol, [.int (nI 16384), .ref q_8])), (q_8, .inl (cI, 16, .inl (fun _ => 0))), (o_9, .inr (cCol, [.int (nI 16384), .ref q_12])), (q_12, .inl (cI, 16, .inl (fun _ => 0))), (o_13, .inr (cVal, [.ref q_16, .ref q_18])), (q_16, .inr (cCol, [.int (nI 16384), .ref q_17])), (q_17, .inl (cI, 16, .inl (fun _ => 0))), (q_18, .inr (cCol, [.int (nI 16384), .ref q_19])), (q_19, .inl (cI, 16, .inl (fun _ => 0)))] H := hP
  have hD : va_D A [(h, .inr (cKey, [.ref o_1, .ref o_5, .ref o_9, .ref o_13])), (o_1, .inr (cCol, [.int (nI 16384), .ref q_4])), (q_4, .inl (cI, 16, .inl (fun _ => 0))), (o_5, .inr (cCol, [.int (nI 16384), .ref q_8])), (q_8, .inl (cI, 16, .inl (fun _ => 0))), (o_9, .inr (cCol, [.int (nI 16384), .ref q_12])), (q_12, .inl (cI, 16, .inl (fun _ => 0))), (o_13, .inr (cVal, [.ref q_16, .ref q_18])), (q_16, .inr (cCol, [.int (nI 16384), .ref q_17])), (q_17, .inl (cI, 16, .inl (fun _ => 0))), (q_18, .inr (cCol, [.int (nI 16384), .ref q_19])), (q_19, .inl (cI, 16, .inl (fun _ => 0)))] := hD
  exact ps_vret hx hb hr hlocks hK hP hD hS (Nat.le_of_ble_eq_true rfl) (Nat.le_of_ble_eq_true rfl) d_Key_init_60 (⟨o_1, q_4, o_5, q_8, o_9, q_12, o_13, q_16, q_17, q_18, q_19, rfl⟩)

set_option maxHeartbeats 4000000 in
set_option maxRecDepth 100000 in
/-- c_minit -/
theorem c_minit (l : Launch) (dC : Nat → ClassId) (dI : Nat → Nat → Nat) (cI : ClassId) (tys : List (ClassId × FieldType)) (ht : tys[0]? = some (cI, FieldType.int)) (h : Nat) : ps_mV classes l y_Mem_init w_Mem_init ({ frames := 3, cells := 9, slots := 74, locals := 54 }) (dC, dI) tys [.ref h] ([(h, .inr (cMem, [.null, .null, .null]))]) (fun u => ∃ k1 q1 k2 q2 ho k3 q3 k4 q4 : Nat, u = [(h, .inr (cMem, [.ref k1, .ref k2, .ref ho])), (k1, .inr (cCol, [.int (nI 40000), .ref q1])), (q1, .inl (cI, 16, .inl (fun _ => 0))), (k2, .inr (cCol, [.int (nI 40000), .ref q2])), (q2, .inl (cI, 16, .inl (fun _ => 0))), (ho, .inr (cVal, [.ref k3, .ref k4])), (k3, .inr (cCol, [.int (nI 40000), .ref q3])), (q3, .inl (cI, 16, .inl (fun _ => 0))), (k4, .inr (cCol, [.int (nI 40000), .ref q4])), (q4, .inl (cI, 16, .inl (fun _ => 0)))]) := by
  refine ps_mV_of (by decide) rfl (Nat.le_of_ble_eq_true rfl) ?_
  intro p e s m below meth c A ls C0 hA hK hP hD hS hl
  obtain ⟨hx, hb, hr, hml, hts, hown, hlocks, hin⟩ := C0
  have hl : lv_has ls 1 [(0, .ref h)] := hl
  have hP : va_P (dC, dI) classes [(h, .inr (cMem, [.null, .null, .null]))] s.heap := hP
  have hD : va_D A [(h, .inr (cMem, [.null, .null, .null]))] := hD
  refine lv_aload_n hx hb d_Mem_init_0 rfl (lv_at hl 0 rfl) ?_
  refine W.objInit hx hb hown (hts _ tw_87) (hts _ tw_72) (hts _ tw_73) rfl (by rw [hml]; exact hl.1) rfl d_Mem_init_1 (Nat.le_of_ble_eq_true rfl) (Nat.le_of_ble_eq_true rfl) ?_
  refine W.eq (g2 := F0 m 4 ls []) rfl ?_
  refine lv_aload_n hx hb d_Mem_init_4 rfl (lv_at hl 0 rfl) ?_
  refine va_new (ci := cCol) (fs := [.int 0, .null]) (C := R_Col) (T := F_Col) (N := 2) hx hb hts i_Col t_Col t_Col_ok hown (hts _ tw_88) (hts _ tw_76) (hts _ tw_39) hK hP hD hS hA rfl z_Col (Nat.le_of_ble_eq_true rfl) (Nat.le_of_ble_eq_true rfl) d_Mem_init_5 (fun o_1 H hP hD hS => ?_)
  have hP : va_P (dC, dI) classes [(h, .inr (cMem, [.null, .null, .null])), (o_1, .inr (cCol, [.int 0, .null]))] H := hP
  have hD : va_D A [(h, .inr (cMem, [.null, .null, .null])), (o_1, .inr (cCol, [.int 0, .null]))] := hD
  refine lv_dup hx hb d_Mem_init_8 rfl ?_
  refine lv_ldc (v := 40000) hx hb hown (hts _ tw_89) d_Mem_init_9 ?_
  refine ps_top (z := nI 40000) (by decide) ?_
  refine ps_afterV (wc := [(o_1, .inr (cCol, [.int 0, .null]))]) (wr := [0].filterMap (fun z9 => ([(h, .inr (cMem, [.null, .null, .null])), (o_1, .inr (cCol, [.int 0, .null]))] : va_W)[z9]?)) hP hD hS hA [1] [0] rfl rfl (by decide) (by decide) (ps_runIV ⟨hx, hb, hml, hown, hts⟩ (c_cinit l dC dI cI tys ht o_1 40000) (ps_cwI ps_gd 1 hts tw_90 k_Col_init rfl e_Col_init ⟨Nat.le_of_ble_eq_true rfl, Nat.le_of_ble_eq_true rfl⟩) hK hP hD [1] (by decide) rfl rfl hl.1 rfl (Nat.le_of_ble_eq_true rfl) d_Mem_init_11 ⟨Nat.le_of_ble_eq_true rfl, Nat.le_of_ble_eq_true rfl⟩) (fun u_2 H locs hu_2 hP hD hS => ?_)
  obtain ⟨q_4, hu_2⟩ := hu_2
  subst hu_2
  obtain ⟨hP, hD⟩ := ps_perm (ws' := [(h, .inr (cMem, [.null, .null, .null])), (o_1, .inr (cCol, [.int (nI 40000), .ref q_4])), (q_4, .inl (cI, 16, .inl (fun _ => 0)))]) hP hD [0, 1, 2] (by decide) rfl
  refine va_putF (D := (dC, dI)) (ci := cMem) (v := .ref o_1) (ty := .object "PageStore$Column") (C := R_Mem) (T := F_Mem) (N := 3) hx hb hts i_Mem t_Mem t_Mem_ok n_Mem hown hK hP hD hS 0 rfl rfl 0 (by decide) (hts _ tw_61) (fun _ h9 => h9) rfl hin rfl (by decide +kernel) rfl rfl (Nat.le_of_ble_eq_true rfl) d_Mem_init_14 (fun H locs hP hD hS => ?_)
  have hP : va_P (dC, dI) classes [(h, .inr (cMem, [.ref o_1, .null, .null])), (o_1, .inr (cCol, [.int (nI 40000), .ref q_4])), (q_4, .inl (cI, 16, .inl (fun _ => 0)))] H := hP
  have hD : va_D A [(h, .inr (cMem, [.ref o_1, .null, .null])), (o_1, .inr (cCol, [.int (nI 40000), .ref q_4])), (q_4, .inl (cI, 16, .inl (fun _ => 0)))] := hD
  refine lv_aload_n hx hb d_Mem_init_17 rfl (lv_at hl 0 rfl) ?_
  refine va_new (ci := cCol) (fs := [.int 0, .null]) (C := R_Col) (T := F_Col) (N := 2) hx hb hts i_Col t_Col t_Col_ok hown (hts _ tw_88) (hts _ tw_76) (hts _ tw_39) hK hP hD hS hA rfl z_Col (Nat.le_of_ble_eq_true rfl) (Nat.le_of_ble_eq_true rfl) d_Mem_init_18 (fun o_5 H hP hD hS => ?_)
  have hP : va_P (dC, dI) classes [(h, .inr (cMem, [.ref o_1, .null, .null])), (o_1, .inr (cCol, [.int (nI 40000), .ref q_4])), (q_4, .inl (cI, 16, .inl (fun _ => 0))), (o_5, .inr (cCol, [.int 0, .null]))] H := hP
  have hD : va_D A [(h, .inr (cMem, [.ref o_1, .null, .null])), (o_1, .inr (cCol, [.int (nI 40000), .ref q_4])), (q_4, .inl (cI, 16, .inl (fun _ => 0))), (o_5, .inr (cCol, [.int 0, .null]))] := hD
  refine lv_dup hx hb d_Mem_init_21 rfl ?_
  refine lv_ldc (v := 40000) hx hb hown (hts _ tw_89) d_Mem_init_22 ?_
  refine ps_top (z := nI 40000) (by decide) ?_
  refine ps_afterV (wc := [(o_5, .inr (cCol, [.int 0, .null]))]) (wr := [0, 1, 2].filterMap (fun z9 => ([(h, .inr (cMem, [.ref o_1, .null, .null])), (o_1, .inr (cCol, [.int (nI 40000), .ref q_4])), (q_4, .inl (cI, 16, .inl (fun _ => 0))), (o_5, .inr (cCol, [.int 0, .null]))] : va_W)[z9]?)) hP hD hS hA [3] [0, 1, 2] rfl rfl (by decide) (by decide) (ps_runIV ⟨hx, hb, hml, hown, hts⟩ (c_cinit l dC dI cI tys ht o_5 40000) (ps_cwI ps_gd 1 hts tw_90 k_Col_init rfl e_Col_init ⟨Nat.le_of_ble_eq_true rfl, Nat.le_of_ble_eq_true rfl⟩) hK hP hD [3] (by decide) rfl rfl hl.1 rfl (Nat.le_of_ble_eq_true rfl) d_Mem_init_24 ⟨Nat.le_of_ble_eq_true rfl, Nat.le_of_ble_eq_true rfl⟩) (fun u_6 H locs hu_6 hP hD hS => ?_)
  obtain ⟨q_8, hu_6⟩ := hu_6
  subst hu_6
  obtain ⟨hP, hD⟩ := ps_perm (ws' := [(h, .inr (cMem, [.ref o_1, .null, .null])), (o_1, .inr (cCol, [.int (nI 40000), .ref q_4])), (q_4, .inl (cI, 16, .inl (fun _ => 0))), (o_5, .inr (cCol, [.int (nI 40000), .ref q_8])), (q_8, .inl (cI, 16, .inl (fun _ => 0)))]) hP hD [0, 1, 2, 3, 4] (by decide) rfl
  refine va_putF (D := (dC, dI)) (ci := cMem) (v := .ref o_5) (ty := .object "PageStore$Column") (C := R_Mem) (T := F_Mem) (N := 3) hx hb hts i_Mem t_Mem t_Mem_ok n_Mem hown hK hP hD hS 0 rfl rfl 1 (by decide) (hts _ tw_59) (fun _ h9 => h9) rfl hin rfl (by decide +kernel) rfl rfl (Nat.le_of_ble_eq_true rfl) d_Mem_init_27 (fun H locs hP hD hS => ?_)
  have hP : va_P (dC, dI) classes [(h, .inr (cMem, [.ref o_1, .ref o_5, .null])), (o_1, .inr (cCol, [.int (nI 40000), .ref q_4])), (q_4, .inl (cI, 16, .inl (fun _ => 0))), (o_5, .inr (cCol, [.int (nI 40000), .ref q_8])), (q_8, .inl (cI, 16, .inl (fun _ => 0)))] H := hP
  have hD : va_D A [(h, .inr (cMem, [.ref o_1, .ref o_5, .null])), (o_1, .inr (cCol, [.int (nI 40000), .ref q_4])), (q_4, .inl (cI, 16, .inl (fun _ => 0))), (o_5, .inr (cCol, [.int (nI 40000), .ref q_8])), (q_8, .inl (cI, 16, .inl (fun _ => 0)))] := hD
  refine lv_aload_n hx hb d_Mem_init_30 rfl (lv_at hl 0 rfl) ?_
  refine va_new (ci := cVal) (fs := [.null, .null]) (C := R_Val) (T := F_Val) (N := 2) hx hb hts i_Val t_Val t_Val_ok hown (hts _ tw_91) (hts _ tw_85) (hts _ tw_69) hK hP hD hS hA rfl z_Val (Nat.le_of_ble_eq_true rfl) (Nat.le_of_ble_eq_true rfl) d_Mem_init_31 (fun o_9 H hP hD hS => ?_)
  have hP : va_P (dC, dI) classes [(h, .inr (cMem, [.ref o_1, .ref o_5, .null])), (o_1, .inr (cCol, [.int (nI 40000), .ref q_4])), (q_4, .inl (cI, 16, .inl (fun _ => 0))), (o_5, .inr (cCol, [.int (nI 40000), .ref q_8])), (q_8, .inl (cI, 16, .inl (fun _ => 0))), (o_9, .inr (cVal, [.null, .null]))] H := hP
  have hD : va_D A [(h, .inr (cMem, [.ref o_1, .ref o_5, .null])), (o_1, .inr (cCol, [.int (nI 40000), .ref q_4])), (q_4, .inl (cI, 16, .inl (fun _ => 0))), (o_5, .inr (cCol, [.int (nI 40000), .ref q_8])), (q_8, .inl (cI, 16, .inl (fun _ => 0))), (o_9, .inr (cVal, [.null, .null]))] := hD
  refine lv_dup hx hb d_Mem_init_34 rfl ?_
  refine lv_ldc (v := 40000) hx hb hown (hts _ tw_89) d_Mem_init_35 ?_
  refine ps_top (z := nI 40000) (by decide) ?_
  refine ps_afterV (wc := [(o_9, .inr (cVal, [.null, .null]))]) (wr := [0, 1, 2, 3, 4].filterMap (fun z9 => ([(h, .inr (cMem, [.ref o_1, .ref o_5, .null])), (o_1, .inr (cCol, [.int (nI 40000), .ref q_4])), (q_4, .inl (cI, 16, .inl (fun _ => 0))), (o_5, .inr (cCol, [.int (nI 40000), .ref q_8])), (q_8, .inl (cI, 16, .inl (fun _ => 0))), (o_9, .inr (cVal, [.null, .null]))] : va_W)[z9]?)) hP hD hS hA [5] [0, 1, 2, 3, 4] rfl rfl (by decide) (by decide) (ps_runIV ⟨hx, hb, hml, hown, hts⟩ (c_vinit l dC dI cI tys ht o_9 40000) (ps_cwI ps_gd 1 hts tw_92 k_Val_init rfl e_Val_init ⟨Nat.le_of_ble_eq_true rfl, Nat.le_of_ble_eq_true rfl⟩) hK hP hD [5] (by decide) rfl rfl hl.1 rfl (Nat.le_of_ble_eq_true rfl) d_Mem_init_37 ⟨Nat.le_of_ble_eq_true rfl, Nat.le_of_ble_eq_true rfl⟩) (fun u_10 H locs hu_10 hP hD hS => ?_)
  obtain ⟨q_12, q_13, q_14, q_15, hu_10⟩ := hu_10
  subst hu_10
  obtain ⟨hP, hD⟩ := ps_perm (ws' := [(h, .inr (cMem, [.ref o_1, .ref o_5, .null])), (o_1, .inr (cCol, [.int (nI 40000), .ref q_4])), (q_4, .inl (cI, 16, .inl (fun _ => 0))), (o_5, .inr (cCol, [.int (nI 40000), .ref q_8])), (q_8, .inl (cI, 16, .inl (fun _ => 0))), (o_9, .inr (cVal, [.ref q_12, .ref q_14])), (q_12, .inr (cCol, [.int (nI 40000), .ref q_13])), (q_13, .inl (cI, 16, .inl (fun _ => 0))), (q_14, .inr (cCol, [.int (nI 40000), .ref q_15])), (q_15, .inl (cI, 16, .inl (fun _ => 0)))]) hP hD [0, 1, 2, 3, 4, 5, 6, 7, 8, 9] (by decide) rfl
  refine va_putF (D := (dC, dI)) (ci := cMem) (v := .ref o_9) (ty := .object "PageStore$Values") (C := R_Mem) (T := F_Mem) (N := 3) hx hb hts i_Mem t_Mem t_Mem_ok n_Mem hown hK hP hD hS 0 rfl rfl 2 (by decide) (hts _ tw_63) (fun _ h9 => h9) rfl hin rfl (by decide +kernel) rfl rfl (Nat.le_of_ble_eq_true rfl) d_Mem_init_40 (fun H locs hP hD hS => ?_)
  have hP : va_P (dC, dI) classes [(h, .inr (cMem, [.ref o_1, .ref o_5, .ref o_9])), (o_1, .inr (cCol, [.int (nI 40000), .ref q_4])), (q_4, .inl (cI, 16, .inl (fun _ => 0))), (o_5, .inr (cCol, [.int (nI 40000), .ref q_8])), (q_8, .inl (cI, 16, .inl (fun _ => 0))), (o_9, .inr (cVal, [.ref q_12, .ref q_14])), (q_12, .inr (cCol, [.int (nI 40000), .ref q_13])), (q_13, .inl (cI, 16, .inl (fun _ => 0))), (q_14, .inr (cCol, [.int (nI 40000), .ref q_15])), (q_15, .inl (cI, 16, .inl (fun _ => 0)))] H := hP
  have hD : va_D A [(h, .inr (cMem, [.ref o_1, .ref o_5, .ref o_9])), (o_1, .inr (cCol, [.int (nI 40000), .ref q_4])), (q_4, .inl (cI, 16, .inl (fun _ => 0))), (o_5, .inr (cCol, [.int (nI 40000), .ref q_8])), (q_8, .inl (cI, 16, .inl (fun _ => 0))), (o_9, .inr (cVal, [.ref q_12, .ref q_14])), (q_12, .inr (cCol, [.int (nI 40000), .ref q_13])), (q_13, .inl (cI, 16, .inl (fun _ => 0))), (q_14, .inr (cCol, [.int (nI 40000), .ref q_15])), (q_15, .inl (cI, 16, .inl (fun _ => 0)))] := hD
  exact ps_vret hx hb hr hlocks hK hP hD hS (Nat.le_of_ble_eq_true rfl) (Nat.le_of_ble_eq_true rfl) d_Mem_init_43 (⟨o_1, q_4, o_5, q_8, o_9, q_12, q_13, q_14, q_15, rfl⟩)
