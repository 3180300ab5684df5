/-! THE INVARIANT between the class's state (K, S, F, N), the notes of the saves (T) and the reference's own (X). -/
theorem li_o {α : Type} {f : Nat → α} {k j : Nat} {v : α} (h : j ≠ k) : va_up f k v j = f j := va_up_ne _ _ h
def li_A (K : Nat → Nat) (S : Nat) : Prop := (∀ j, K j ≤ 65536) ∧ K 0 ≤ 16384 ∧ K 1 ≤ 32768 ∧ K 3 ≤ 1024 ∧ K 4 ≤ 16384 ∧ K 5 ≤ 40000 ∧ S ≤ 15
/-- rows and keys that there are at counts L -/
def li_L (L : Nat → Nat) (F : Nat → Nat → Int32) : Prop := ps_rows L F ∧ ∀ j, j < L 4 → ∃ d : Nat, F 7 j = nI d ∧ 1 ≤ d ∧ d ≤ L 3
/-- the saves -/
def li_T (K : Nat → Nat) (S : Nat) (F : Nat → Nat → Int32) (T : Nat → Nat → Nat) (X : Nat → Nat → Int32) : Prop :=
  (∀ k, 1 ≤ k → k ≤ S → li_L (T k) F ∧ (∀ w, w < 6 → F 0 ((k - 1) * 6 + w) = nI (T k w) ∧ T k w ≤ K w) ∧ (∀ w, w < 5 → X 4 (5 * k + w) = nI (T k w)) ∧ X 5 k = nI (T k 5)) ∧
  (∀ k k', 1 ≤ k → k ≤ k' → k' ≤ S → ∀ w, w < 6 → T k w ≤ T k' w) ∧ ∀ w, T 0 w = 0
/-- a key's value, here and there -/
def li_kv (f g x y z : Int32) : Prop := (z = 0 ∧ f = x ∧ ¬ x = -1 ∧ g = y) ∨ (z = 1 ∧ f = -1 ∧ g = 0)
/-- the memories -/
def li_M (k5 : Nat) (F : Nat → Nat → Int32) (N : Nat → Nat) (X : Nat → Nat → Int32) : Prop := ∀ m, m < k5 → ∃ i : Nat, F 13 m = nI i ∧ vp_nar .byte (X 7 m) = X 7 m ∧ (F 14 m = 0 → F 15 m = 0) ∧
  ((F 12 m = nI 1 ∧ i < N 2 ∧ i < N 3 ∧ X 6 m = nI i ∧ X 7 m = F 14 m ∧ X 8 m = F 15 m) ∨ (F 12 m = nI 4 ∧ i < N 10 ∧ i < N 11 ∧ X 6 m = (-1) - nI i ∧ li_kv (F 14 m) (F 15 m) (X 7 m) (X 8 m) (X 9 m)))
/-- places; bytes; keys' values -/
def li_P (F : Nat → Nat → Int32) : Prop := ∀ j, vp_nar .byte (F 2 j) = F 2 j ∧ (F 2 j = 0 → F 3 j = 0)
def li_B (F X : Nat → Nat → Int32) : Prop := ∀ j, F 1 j = X 0 j &&& nI 255
def li_V (F X : Nat → Nat → Int32) : Prop := ∀ j, li_kv (F 10 j) (F 11 j) (X 1 j) (X 2 j) (X 3 j) ∧ vp_nar .byte (X 1 j) = X 1 j ∧ (F 10 j = 0 → F 11 j = 0)
def li_I (K : Nat → Nat) (S : Nat) (F : Nat → Nat → Int32) (N : Nat → Nat) (T : Nat → Nat → Nat) (X : Nat → Nat → Int32) : Prop :=
  li_A K S ∧ ps_wf F N ∧ li_L K F ∧ li_T K S F T X ∧ li_M (K 5) F N X ∧ li_P F ∧ li_B F X ∧ li_V F X
-- the start
theorem li_0 : li_I (fun _ => 0) 0 (fun _ _ => 0) (fun _ => 16) (fun _ _ => 0) (fun _ _ => 0) := by
  refine ⟨⟨fun _ => Nat.zero_le _, by decide, by decide, by decide, by decide, by decide, by decide⟩, ?_, ⟨?_, ?_⟩, ⟨?_, ?_, fun _ => rfl⟩, ?_, ?_, ?_, ?_⟩
  · intro k hk
    refine ⟨fun _ _ => rfl, ?_⟩
    have : ∀ k, k < 16 → 16 ≤ ps_lim k := by decide
    exact this k hk
  · intro r h1 h2
    exact absurd h2 (by show ¬ r ≤ 0; omega)
  · intro j hj
    exact absurd hj (by show ¬ j < 0; omega)
  · intro k h1 h2
    omega
  · intro k k' h1 h2 h3
    omega
  · intro m hm
    exact absurd hm (by show ¬ m < 0; omega)
  · exact fun j => ⟨(show vp_nar .byte 0 = 0 by decide), fun _ => rfl⟩
  · exact fun j => by show (0 : Int32) = 0 &&& nI 255; decide
  · exact fun j => ⟨Or.inl ⟨rfl, rfl, (show ¬ (0 : Int32) = -1 by decide), rfl⟩, (show vp_nar .byte 0 = 0 by decide), fun _ => rfl⟩
-- moving parts
theorem li_L.mono {L L' : Nat → Nat} {F : Nat → Nat → Int32} (h : li_L L F) (h0 : L' 0 = L 0) (h1 : L 1 ≤ L' 1) (h2 : L 2 ≤ L' 2) (h3 : L 3 ≤ L' 3) (h4 : L' 4 = L 4) : li_L L' F := by
  refine ⟨fun r a b => ?_, fun j hj => ?_⟩
  · obtain ⟨s, l, e5, e6, q⟩ := h.1 r a (by omega)
    exact ⟨s, l, e5, e6, q.elim (fun q => Or.inl ⟨q.1, by omega⟩) (fun q => Or.inr ⟨q.1, by omega⟩)⟩
  · obtain ⟨d, e, a, b⟩ := h.2 j (by omega)
    exact ⟨d, e, a, by omega⟩
theorem li_L.cong {L : Nat → Nat} {F G : Nat → Nat → Int32} (h : li_L L F) (h4 : ∀ r, r ≤ L 0 → G 4 r = F 4 r ∧ G 5 r = F 5 r ∧ G 6 r = F 6 r) (h7 : ∀ j, j < L 4 → G 7 j = F 7 j) : li_L L G := by
  refine ⟨fun r a b => ?_, fun j hj => ?_⟩
  · obtain ⟨s, l, e5, e6, q⟩ := h.1 r a b
    obtain ⟨q4, q5, q6⟩ := h4 r b
    exact ⟨s, l, by rw [q5]; exact e5, by rw [q6]; exact e6, by rw [q4]; exact q⟩
  · rw [h7 j hj]; exact h.2 j hj
theorem li_T.cong {K K' : Nat → Nat} {S : Nat} {F G : Nat → Nat → Int32} {T : Nat → Nat → Nat} {X Y : Nat → Nat → Int32} (h : li_T K S F T X) (hK : ∀ w, w < 6 → K w ≤ K' w) (h0 : G 0 = F 0) (h4 : ∀ r, r ≤ K 0 → G 4 r = F 4 r ∧ G 5 r = F 5 r ∧ G 6 r = F 6 r) (h7 : ∀ j, j < K 4 → G 7 j = F 7 j) (x4 : Y 4 = X 4) (x5 : Y 5 = X 5) : li_T K' S G T Y := by
  refine ⟨fun k a b => ?_, h.2⟩
  obtain ⟨q1, q2, q3, q4⟩ := h.1 k a b
  refine ⟨q1.cong (fun r hr => h4 r (Nat.le_trans hr (q2 0 (by decide)).2)) (fun j hj => h7 j (Nat.lt_of_lt_of_le hj (q2 4 (by decide)).2)), fun w hw => ?_, by rw [x4]; exact q3, by rw [x5]; exact q4⟩
  rw [h0]
  exact ⟨(q2 w hw).1, Nat.le_trans (q2 w hw).2 (hK w hw)⟩
theorem li_M.cong {k5 : Nat} {F G : Nat → Nat → Int32} {N N' : Nat → Nat} {X Y : Nat → Nat → Int32} (h : li_M k5 F N X) (hF : G 12 = F 12 ∧ G 13 = F 13 ∧ G 14 = F 14 ∧ G 15 = F 15) (hN : N 2 ≤ N' 2 ∧ N 3 ≤ N' 3 ∧ N 10 ≤ N' 10 ∧ N 11 ≤ N' 11) (hX : Y 6 = X 6 ∧ Y 7 = X 7 ∧ Y 8 = X 8 ∧ Y 9 = X 9) : li_M k5 G N' Y := by
  intro m hm
  obtain ⟨i, q1, q2, q3, q4⟩ := h m hm
  rw [hF.1, hF.2.1, hF.2.2.1, hF.2.2.2, hX.1, hX.2.1, hX.2.2.1, hX.2.2.2]
  exact ⟨i, q1, q2, q3, q4.elim (fun q => Or.inl ⟨q.1, by omega, by omega, q.2.2.2⟩) (fun q => Or.inr ⟨q.1, by omega, by omega, q.2.2.2⟩)⟩
theorem li_g_ge (N : Nat → Nat) (k i j : Nat) : N j ≤ ps_g N k i j := by
  unfold ps_g
  by_cases h : j = k
  · subst h; rw [va_up_self]; exact ps_len_ge _ _ _
  · rw [va_up_ne _ _ h]; exact Nat.le_refl _
-- a row comes
theorem li_row {K : Nat → Nat} {S : Nat} {F : Nat → Nat → Int32} {N : Nat → Nat} {T : Nat → Nat → Nat} {X : Nat → Nat → Int32} (h : li_I K S F N T X) (hr : K 0 < 16384) {x : Int32} {s n : Nat} (hx : (x = nI 1 ∧ s + n ≤ K 1) ∨ (x = nI 2 ∧ s + n ≤ K 2)) :
    li_I (va_up K 0 (K 0 + 1)) S (ps_Fr F (K 0 + 1) x (nI s) (nI n)) (ps_Nr N (K 0 + 1)) T X := by
  obtain ⟨hA, hW, hL, hT, hM, hP, hB, hV⟩ := h
  have h4 : ∀ r, r ≤ K 0 → ps_Fr F (K 0 + 1) x (nI s) (nI n) 4 r = F 4 r ∧ ps_Fr F (K 0 + 1) x (nI s) (nI n) 5 r = F 5 r ∧ ps_Fr F (K 0 + 1) x (nI s) (nI n) 6 r = F 6 r := fun r hr => ⟨pk_un (by omega), pk_un (by omega), pk_un (by omega)⟩
  refine ⟨⟨ps_kb hA.1 (by omega), by show K 0 + 1 ≤ 16384; omega, hA.2.2⟩, ?_, ⟨?_, hL.2⟩, ?_, hM, hP, hB, hV⟩
  · exact ps_wf_u 6 (ps_wf_u 5 (ps_wf_u 4 hW (show K 0 + 1 < 16385 by omega)) (show K 0 + 1 < 16385 by omega)) (show K 0 + 1 < 16385 by omega)
  · intro r a b
    have b : r ≤ K 0 + 1 := b
    by_cases e : r = K 0 + 1
    · subst e
      refine ⟨s, n, pk_us, pk_us, ?_⟩
      have e4 : ps_Fr F (K 0 + 1) x (nI s) (nI n) 4 (K 0 + 1) = x := pk_us
      rw [e4]
      exact hx
    · obtain ⟨q4, q5, q6⟩ := h4 r (by omega)
      rw [q4, q5, q6]
      exact hL.1 r a (by omega)
  · refine hT.cong (fun w hw => ?_) rfl h4 (fun j _ => rfl) rfl rfl
    by_cases e : w = 0
    · subst e; rw [va_up_self]; omega
    · rw [va_up_ne _ _ e]; exact Nat.le_refl _
-- values, bytes: what is taken is wiped
theorem li_up {K : Nat → Nat} {c x : Nat} (h : K c ≤ x) : ∀ w, K w ≤ va_up K c x w := fun w => by
  by_cases e : w = c
  · subst e; rw [va_up_self]; exact h
  · rw [va_up_ne _ _ e]; exact Nat.le_refl _
theorem li_w2 {K : Nat → Nat} {S : Nat} {F : Nat → Nat → Int32} {N : Nat → Nat} {T : Nat → Nat → Nat} {X : Nat → Nat → Int32} (h : li_I K S F N T X) {n : Nat} (hn : K 1 + n ≤ 32768) : li_I (va_up K 1 (K 1 + n)) S (ps_w (ps_w F 2 (K 1) (K 1 + n)) 3 (K 1) (K 1 + n)) N T X := by
  obtain ⟨hA, hW, hL, hT, hM, hP, hB, hV⟩ := h
  refine ⟨⟨ps_kb hA.1 (by omega), hA.2.1, hn, hA.2.2.2⟩, ps_wf_w 3 (ps_wf_w 2 hW), ?_, ?_, hM, ?_, hB, hV⟩
  · exact hL.mono rfl (show K 1 ≤ K 1 + n by omega) (Nat.le_refl _) (Nat.le_refl _) rfl
  · exact hT.cong (fun w _ => li_up (by omega) w) rfl (fun r _ => ⟨rfl, rfl, rfl⟩) (fun j _ => rfl) rfl rfl
  · intro j
    show vp_nar .byte (ps_fil (F 2) (K 1) (K 1 + n) 0 j) = ps_fil (F 2) (K 1) (K 1 + n) 0 j ∧ (ps_fil (F 2) (K 1) (K 1 + n) 0 j = 0 → ps_fil (F 3) (K 1) (K 1 + n) 0 j = 0)
    unfold ps_fil
    split
    · exact ⟨by decide, fun _ => rfl⟩
    · exact hP j
theorem li_w1 {K : Nat → Nat} {S : Nat} {F : Nat → Nat → Int32} {N : Nat → Nat} {T : Nat → Nat → Nat} {X : Nat → Nat → Int32} (h : li_I K S F N T X) {n : Nat} (hn : K 2 + n ≤ 65536) : li_I (va_up K 2 (K 2 + n)) S (ps_w F 1 (K 2) (K 2 + n)) N T (ps_w X 0 (K 2) (K 2 + n)) := by
  obtain ⟨hA, hW, hL, hT, hM, hP, hB, hV⟩ := h
  refine ⟨⟨ps_kb hA.1 (by omega), hA.2⟩, ps_wf_w 1 hW, ?_, ?_, hM, hP, ?_, hV⟩
  · exact hL.mono rfl (Nat.le_refl _) (show K 2 ≤ K 2 + n by omega) (Nat.le_refl _) rfl
  · exact hT.cong (fun w _ => li_up (by omega) w) rfl (fun r _ => ⟨rfl, rfl, rfl⟩) (fun j _ => rfl) rfl rfl
  · intro j
    show ps_fil (F 1) (K 2) (K 2 + n) 0 j = ps_fil (X 0) (K 2) (K 2 + n) 0 j &&& nI 255
    unfold ps_fil
    split
    · decide
    · exact hB j
-- a byte is set
theorem li_byte (b : Int32) : b &&& nI 255 = b.toInt8.toInt32 &&& nI 255 := by
  have e : nI 255 = 255 := by decide
  rw [e]
  apply Int32.toBitVec_inj.mp
  rw [Int32.toBitVec_and, Int32.toBitVec_and, Int8.toBitVec_toInt32, Int32.toBitVec_toInt8]
  apply BitVec.eq_of_getLsbD_eq
  intro i hi
  rw [BitVec.getLsbD_and, BitVec.getLsbD_and]
  have hm : ∀ i < 32, 8 ≤ i → (255 : Int32).toBitVec.getLsbD i = false := by decide
  rcases Nat.lt_or_ge i 8 with z | z
  · rw [BitVec.getLsbD_signExtend, BitVec.getLsbD_signExtend, if_pos z, if_pos hi]
    simp only [z, hi, decide_true, Bool.true_and]
  · rw [hm i hi z]; simp
theorem li_setb {K : Nat → Nat} {S : Nat} {F : Nat → Nat → Int32} {N : Nat → Nat} {T : Nat → Nat → Nat} {X : Nat → Nat → Int32} (h : li_I K S F N T X) {i : Nat} (b : Int32) (hi : i < 65536) : li_I K S (ps_u F 1 i (b &&& nI 255)) (ps_g N 1 i) T (ps_u X 0 i b.toInt8.toInt32) := by
  obtain ⟨hA, hW, hL, hT, hM, hP, hB, hV⟩ := h
  refine ⟨hA, ps_wf_u 1 hW hi, hL, hT, hM, hP, fun j => ?_, hV⟩
  show upd (F 1) i (b &&& nI 255) j = upd (X 0) i b.toInt8.toInt32 j &&& nI 255
  by_cases e : j = i
  · subst e; rw [pk_us, pk_us]; exact li_byte b
  · rw [pk_un e, pk_un e]; exact hB j
-- a dictionary comes
theorem li_dict {K : Nat → Nat} {S : Nat} {F : Nat → Nat → Int32} {N : Nat → Nat} {T : Nat → Nat → Nat} {X : Nat → Nat → Int32} (h : li_I K S F N T X) (hd : ¬ 1024 ≤ K 3) : li_I (va_up K 3 (K 3 + 1)) S F N T X := by
  obtain ⟨hA, hW, hL, hT, hM, hP, hB, hV⟩ := h
  refine ⟨⟨ps_kb hA.1 (by omega), hA.2.1, hA.2.2.1, by show K 3 + 1 ≤ 1024; omega, hA.2.2.2.2⟩, hW, ?_, ?_, hM, hP, hB, hV⟩
  · exact hL.mono rfl (Nat.le_refl _) (Nat.le_refl _) (show K 3 ≤ K 3 + 1 by omega) rfl
  · exact hT.cong (fun w _ => li_up (by omega) w) rfl (fun r _ => ⟨rfl, rfl, rfl⟩) (fun j _ => rfl) rfl rfl
-- a place is set
theorem li_ite0 {v w : Int32} : (v = 0 → (if v = 0 then 0 else w) = 0) := fun h => if_pos h
theorem li_setP {F : Nat → Nat → Int32} {i : Nat} {v w : Int32} (h : li_P F) (hv : vp_nar .byte v = v) : li_P (ps_Fv F 2 i v w) := fun j => by
  show vp_nar .byte (upd (F 2) i v j) = upd (F 2) i v j ∧ (upd (F 2) i v j = 0 → upd (F 3) i (if v = 0 then 0 else w) j = 0)
  by_cases e : j = i
  · subst e; rw [pk_us, pk_us]; exact ⟨hv, li_ite0⟩
  · rw [pk_un e, pk_un e]; exact h j
theorem li_set {K : Nat → Nat} {S : Nat} {F : Nat → Nat → Int32} {N : Nat → Nat} {T : Nat → Nat → Nat} {X : Nat → Nat → Int32} (h : li_I K S F N T X) {i : Nat} {v : Int32} (w : Int32) (hi : i < 32768) (hv : vp_nar .byte v = v) : li_I K S (ps_Fv F 2 i v w) (ps_Nv N 2 i) T X := by
  obtain ⟨hA, hW, hL, hT, hM, hP, hB, hV⟩ := h
  refine ⟨hA, ps_wf_u 3 (ps_wf_u 2 hW hi) hi, hL, hT, ?_, li_setP hP hv, hB, hV⟩
  exact hM.cong ⟨rfl, rfl, rfl, rfl⟩ ⟨ps_len_ge _ _ _, ps_len_ge _ _ _, Nat.le_refl _, Nat.le_refl _⟩ ⟨rfl, rfl, rfl, rfl⟩
-- a memory comes
theorem li_mem {k5 : Nat} {F : Nat → Nat → Int32} {N N' : Nat → Nat} {X : Nat → Nat → Int32} {o f g z x y c : Int32} {i : Nat} {G Y : Nat → Nat → Int32} (h : li_M k5 F N X) (g12 : G 12 = upd (F 12) k5 o) (g13 : G 13 = upd (F 13) k5 (nI i)) (g14 : G 14 = upd (F 14) k5 f) (g15 : G 15 = upd (F 15) k5 (if f = 0 then 0 else g))
    (y6 : Y 6 = upd (X 6) k5 z) (y7 : Y 7 = upd (X 7) k5 x) (y8 : Y 8 = upd (X 8) k5 y) (y9 : ∀ j, j ≠ k5 → Y 9 j = X 9 j) (y9c : Y 9 k5 = c) (hN : N 2 ≤ N' 2 ∧ N 3 ≤ N' 3 ∧ N 10 ≤ N' 10 ∧ N 11 ≤ N' 11) (hx : vp_nar .byte x = x)
    (hc : (o = nI 1 ∧ i < N' 2 ∧ i < N' 3 ∧ z = nI i ∧ x = f ∧ y = (if f = 0 then 0 else g)) ∨ (o = nI 4 ∧ i < N' 10 ∧ i < N' 11 ∧ z = (-1) - nI i ∧ li_kv f (if f = 0 then 0 else g) x y c)) : li_M (k5 + 1) G N' Y := by
  intro m hm
  rw [g12, g13, g14, g15, y6, y7, y8]
  by_cases e : m = k5
  · subst e
    rw [pk_us, pk_us, pk_us, pk_us, pk_us, pk_us, pk_us, y9c]
    exact ⟨i, rfl, hx, li_ite0, hc⟩
  · rw [pk_un e, pk_un e, pk_un e, pk_un e, pk_un e, pk_un e, pk_un e, y9 m e]
    obtain ⟨i, q1, q2, q3, q4⟩ := h m (by omega)
    exact ⟨i, q1, q2, q3, q4.elim (fun q => Or.inl ⟨q.1, by omega, by omega, q.2.2.2⟩) (fun q => Or.inr ⟨q.1, by omega, by omega, q.2.2.2⟩)⟩
theorem li_zero {f g : Int32} (h : f = 0 → g = 0) : (if f = 0 then 0 else g) = g := by
  by_cases e : f = 0
  · rw [if_pos e, h e]
  · rw [if_neg e]
theorem li_mset {K : Nat → Nat} {S : Nat} {F : Nat → Nat → Int32} {N : Nat → Nat} {T : Nat → Nat → Nat} {X : Nat → Nat → Int32} (h : li_I K S F N T X) {i : Nat} {v : Int32} (w : Int32) (hi : i < 32768) (hv : vp_nar .byte v = v) (h5 : ¬ 40000 ≤ K 5) :
    li_I (va_up K 5 (K 5 + 1)) S (ps_Fv (ps_Fm F (K 5) (nI 1) i (F 2 i) (F 3 i)) 2 i v w) (ps_Nv (ps_Nm N (K 5)) 2 i) T (mo_Xp X (K 5) i (F 2 i) (F 3 i)) := by
  obtain ⟨hA, hW, hL, hT, hM, hP, hB, hV⟩ := h
  refine ⟨⟨ps_kb hA.1 (by omega), hA.2.1, hA.2.2.1, hA.2.2.2.1, hA.2.2.2.2.1, by show K 5 + 1 ≤ 40000; omega, hA.2.2.2.2.2.2⟩, ?_, hL.mono rfl (Nat.le_refl _) (Nat.le_refl _) (Nat.le_refl _) rfl, ?_, ?_, li_setP (F := ps_Fm F (K 5) (nI 1) i (F 2 i) (F 3 i)) hP hv, hB, hV⟩
  · exact ps_wf_u 3 (ps_wf_u 2 (ps_wf_m hW (show K 5 < 40000 by omega)) hi) hi
  · exact hT.cong (fun w _ => li_up (by omega) w) rfl (fun r _ => ⟨rfl, rfl, rfl⟩) (fun j _ => rfl) rfl rfl
  · refine li_mem (o := nI 1) (i := i) (f := F 2 i) (g := F 3 i) (z := nI i) (x := F 2 i) (y := F 3 i) (c := X 9 (K 5)) hM rfl rfl rfl rfl rfl rfl rfl (fun _ _ => rfl) rfl ⟨ps_len_ge _ _ _, ps_len_ge _ _ _, Nat.le_refl _, Nat.le_refl _⟩ (hP i).1 (Or.inl ⟨rfl, ps_len_gt _ _ _, ps_len_gt _ _ _, rfl, rfl, (li_zero (hP i).2).symm⟩)
-- a key's value is set
theorem li_setV {F X Y : Nat → Nat → Int32} {i : Nat} {v w a b c : Int32} (h : li_V F X) (y1 : Y 1 = upd (X 1) i a) (y2 : Y 2 = upd (X 2) i b) (y3 : Y 3 = upd (X 3) i c) (hk : li_kv v (if v = 0 then 0 else w) a b c) (ha : vp_nar .byte a = a) : li_V (ps_Fv F 10 i v w) Y := fun j => by
  rw [y1, y2, y3]
  show li_kv (upd (F 10) i v j) (upd (F 11) i (if v = 0 then 0 else w) j) (upd (X 1) i a j) (upd (X 2) i b j) (upd (X 3) i c j) ∧ vp_nar .byte (upd (X 1) i a j) = upd (X 1) i a j ∧ (upd (F 10) i v j = 0 → upd (F 11) i (if v = 0 then 0 else w) j = 0)
  by_cases e : j = i
  · subst e; rw [pk_us, pk_us, pk_us, pk_us, pk_us]; exact ⟨hk, ha, li_ite0⟩
  · rw [pk_un e, pk_un e, pk_un e, pk_un e, pk_un e]; exact h j
/-- a key's value becomes v, w here and a, b, c there; no memory -/
theorem li_val {K : Nat → Nat} {S : Nat} {F : Nat → Nat → Int32} {N : Nat → Nat} {T : Nat → Nat → Nat} {X Y : Nat → Nat → Int32} (h : li_I K S F N T X) {i : Nat} {v w a b c : Int32} (hi : i < 16384) (y0 : Y 0 = X 0) (y1 : Y 1 = upd (X 1) i a) (y2 : Y 2 = upd (X 2) i b) (y3 : Y 3 = upd (X 3) i c) (y4 : Y 4 = X 4) (y5 : Y 5 = X 5) (y6 : Y 6 = X 6) (y7 : Y 7 = X 7) (y8 : Y 8 = X 8) (y9 : Y 9 = X 9)
    (hk : li_kv v (if v = 0 then 0 else w) a b c) (ha : vp_nar .byte a = a) : li_I K S (ps_Fv F 10 i v w) (ps_Nv N 10 i) T Y := by
  obtain ⟨hA, hW, hL, hT, hM, hP, hB, hV⟩ := h
  refine ⟨hA, ps_wf_u 11 (ps_wf_u 10 hW hi) hi, hL, ?_, ?_, hP, ?_, li_setV hV y1 y2 y3 hk ha⟩
  · exact hT.cong (fun w _ => Nat.le_refl _) rfl (fun r _ => ⟨rfl, rfl, rfl⟩) (fun j _ => rfl) y4 y5
  · exact hM.cong ⟨rfl, rfl, rfl, rfl⟩ ⟨Nat.le_refl _, Nat.le_refl _, ps_len_ge _ _ _, ps_len_ge _ _ _⟩ ⟨y6, y7, y8, y9⟩
  · exact fun j => by rw [y0]; exact hB j
/-- the same, with a memory -/
theorem li_mval {K : Nat → Nat} {S : Nat} {F : Nat → Nat → Int32} {N : Nat → Nat} {T : Nat → Nat → Nat} {X Y : Nat → Nat → Int32} (h : li_I K S F N T X) {i : Nat} {v w a b c z : Int32} (hi : i < 16384) (h5 : ¬ 40000 ≤ K 5) (hz : z = (-1) - nI i) (y0 : Y 0 = X 0) (y1 : Y 1 = upd (X 1) i a) (y2 : Y 2 = upd (X 2) i b) (y3 : Y 3 = upd (X 3) i c) (y4 : Y 4 = X 4) (y5 : Y 5 = X 5) (y6 : Y 6 = upd (X 6) (K 5) z) (y7 : Y 7 = upd (X 7) (K 5) (X 1 i)) (y8 : Y 8 = upd (X 8) (K 5) (X 2 i)) (y9 : Y 9 = upd (X 9) (K 5) (X 3 i))
    (hk : li_kv v (if v = 0 then 0 else w) a b c) (ha : vp_nar .byte a = a) : li_I (va_up K 5 (K 5 + 1)) S (ps_Fv (ps_Fm F (K 5) (nI 4) i (F 10 i) (F 11 i)) 10 i v w) (ps_Nv (ps_Nm N (K 5)) 10 i) T Y := by
  obtain ⟨hA, hW, hL, hT, hM, hP, hB, hV⟩ := h
  obtain ⟨q1, q2, q3⟩ := hV i
  refine ⟨⟨ps_kb hA.1 (by omega), hA.2.1, hA.2.2.1, hA.2.2.2.1, hA.2.2.2.2.1, by show K 5 + 1 ≤ 40000; omega, hA.2.2.2.2.2.2⟩, ?_, hL.mono rfl (Nat.le_refl _) (Nat.le_refl _) (Nat.le_refl _) rfl, ?_, ?_, hP, ?_, ?_⟩
  · exact ps_wf_u 11 (ps_wf_u 10 (ps_wf_m hW (show K 5 < 40000 by omega)) hi) hi
  · exact hT.cong (fun w _ => li_up (by omega) w) rfl (fun r _ => ⟨rfl, rfl, rfl⟩) (fun j _ => rfl) y4 y5
  · refine li_mem (o := nI 4) (i := i) (f := F 10 i) (g := F 11 i) (z := z) (x := X 1 i) (y := X 2 i) (c := X 3 i) hM rfl rfl rfl rfl y6 y7 y8 (fun j hj => by rw [y9, pk_un hj]) (by rw [y9, pk_us]) ⟨Nat.le_refl _, Nat.le_refl _, ps_len_ge _ _ _, ps_len_ge _ _ _⟩ q2 (Or.inr ⟨rfl, ps_len_gt _ _ _, ps_len_gt _ _ _, hz, by rw [li_zero q3]; exact q1⟩)
  · exact fun j => by rw [y0]; exact hB j
  · exact li_setV (F := ps_Fm F (K 5) (nI 4) i (F 10 i) (F 11 i)) hV y1 y2 y3 hk ha
-- a key comes
theorem li_key {K : Nat → Nat} {S : Nat} {F : Nat → Nat → Int32} {N : Nat → Nat} {T : Nat → Nat → Nat} {X Y : Nat → Nat → Int32} (h : li_I K S F N T X) {d0 : Nat} {kk key v w a b c : Int32} (h4 : ¬ 16384 ≤ K 4) (hd1 : 1 ≤ d0) (hd2 : d0 ≤ K 3) (y0 : Y 0 = X 0) (y1 : Y 1 = upd (X 1) (K 4) a) (y2 : Y 2 = upd (X 2) (K 4) b) (y3 : Y 3 = upd (X 3) (K 4) c) (y4 : Y 4 = X 4) (y5 : Y 5 = X 5) (y6 : Y 6 = X 6) (y7 : Y 7 = X 7) (y8 : Y 8 = X 8) (y9 : Y 9 = X 9)
    (hk : li_kv v (if v = 0 then 0 else w) a b c) (ha : vp_nar .byte a = a) : li_I (va_up K 4 (K 4 + 1)) S (ps_Fk F (K 4) (nI d0) kk key v w) (ps_Nk N (K 4)) T Y := by
  obtain ⟨hA, hW, hL, hT, hM, hP, hB, hV⟩ := h
  have h7 : ∀ j, j < K 4 → ps_Fk F (K 4) (nI d0) kk key v w 7 j = F 7 j := fun j hj => pk_un (by omega)
  refine ⟨⟨ps_kb hA.1 (by omega), hA.2.1, hA.2.2.1, hA.2.2.2.1, by show K 4 + 1 ≤ 16384; omega, hA.2.2.2.2.2⟩, ?_, ⟨?_, ?_⟩, ?_, ?_, hP, ?_, ?_⟩
  · exact ps_wf_u 11 (ps_wf_u 10 (ps_wf_k hW (show K 4 < 16384 by omega)) (show K 4 < 16384 by omega)) (show K 4 < 16384 by omega)
  · exact hL.1
  · intro j hj
    have hj : j < K 4 + 1 := hj
    by_cases e : j = K 4
    · subst e; exact ⟨d0, pk_us, hd1, hd2⟩
    · rw [h7 j (by omega)]; exact hL.2 j (by omega)
  · exact hT.cong (fun w _ => li_up (by omega) w) rfl (fun r _ => ⟨rfl, rfl, rfl⟩) h7 y4 y5
  · exact hM.cong ⟨rfl, rfl, rfl, rfl⟩ ⟨Nat.le_refl _, Nat.le_refl _, ps_len_ge _ _ _, ps_len_ge _ _ _⟩ ⟨y6, y7, y8, y9⟩
  · exact fun j => by rw [y0]; exact hB j
  · exact li_setV (F := ps_u (ps_u (ps_u F 7 (K 4) (nI d0)) 8 (K 4) kk) 9 (K 4) key) hV y1 y2 y3 hk ha
-- a save
theorem li_nt_lo {f : Nat → Int32} {K : Nat → Nat} {b w j : Nat} (h : j < b) : ps_nt f K b w j = f j := by
  induction w with
  | zero => rfl
  | succ w ih => show upd (ps_nt f K b w) (b + w) _ j = _; rw [pk_un (by omega), ih]
theorem li_nt_at {f : Nat → Int32} {K : Nat → Nat} {b w v : Nat} (h : v < w) : ps_nt f K b w (b + v) = nI (K v) := by
  induction w with
  | zero => omega
  | succ w ih =>
    show upd (ps_nt f K b w) (b + w) _ (b + v) = _
    by_cases e : v = w
    · subst e; rw [pk_us]
    · rw [pk_un (by omega), ih (by omega)]
theorem li_save {K : Nat → Nat} {S : Nat} {F : Nat → Nat → Int32} {N : Nat → Nat} {T : Nat → Nat → Nat} {X : Nat → Nat → Int32} (h : li_I K S F N T X) (hS : ¬ 15 ≤ S) :
    li_I K (S + 1) (va_up F 0 (ps_nt (F 0) K (S * 6) 6)) (va_up N 0 (ps_nl (N 0) (S * 6) 6)) (va_up T (S + 1) K) (va_up (va_up X 4 (ps_nt (X 4) K (5 * (S + 1)) 5)) 5 (upd (X 5) (S + 1) (nI (K 5)))) := by
  obtain ⟨hA, hW, hL, hT, hM, hP, hB, hV⟩ := h
  have hN0 : N 0 ≤ 90 := (hW 0 (by decide)).2
  refine ⟨⟨hA.1, hA.2.1, hA.2.2.1, hA.2.2.2.1, hA.2.2.2.2.1, hA.2.2.2.2.2.1, by omega⟩, ?_, hL, ⟨?_, ?_, ?_⟩, hM, hP, hB, hV⟩
  · intro j hj
    by_cases e : j = 0
    · subst e; rw [va_up_self, va_up_self]; exact ⟨ps_nt_z (hW 0 (by decide)).1, ps_nl_le hN0 (by omega)⟩
    · rw [va_up_ne _ _ e, va_up_ne _ _ e]; exact hW j hj
  · intro k a b
    by_cases e : k = S + 1
    · subst e
      rw [va_up_self]
      refine ⟨hL, fun w hw => ⟨?_, Nat.le_refl _⟩, fun w hw => ?_, pk_us⟩
      · show ps_nt (F 0) K (S * 6) 6 ((S + 1 - 1) * 6 + w) = _
        rw [show (S + 1 - 1) * 6 + w = S * 6 + w by omega]
        exact li_nt_at hw
      · exact li_nt_at hw
    · rw [va_up_ne _ _ e]
      obtain ⟨q1, q2, q3, q4⟩ := hT.1 k a (by omega)
      refine ⟨q1, fun w hw => ⟨?_, (q2 w hw).2⟩, fun w hw => ?_, ?_⟩
      · show ps_nt (F 0) K (S * 6) 6 ((k - 1) * 6 + w) = _
        rw [li_nt_lo (by omega)]; exact (q2 w hw).1
      · show ps_nt (X 4) K (5 * (S + 1)) 5 (5 * k + w) = _
        rw [li_nt_lo (by omega)]; exact q3 w hw
      · show upd (X 5) (S + 1) (nI (K 5)) k = _
        rw [pk_un e]; exact q4
  · intro k k' a b c w hw
    by_cases e : k' = S + 1
    · subst e
      rw [va_up_self]
      by_cases e2 : k = S + 1
      · subst e2; rw [va_up_self]; exact Nat.le_refl _
      · rw [va_up_ne _ _ e2]; exact ((hT.1 k a (by omega)).2.1 w hw).2
    · rw [va_up_ne _ _ e, va_up_ne _ _ (show k ≠ S + 1 by omega)]
      exact hT.2.1 k k' a b (by omega) w hw
  · intro w
    rw [va_up_ne _ _ (by omega)]
    exact hT.2.2 w
-- a restore
theorem li_M.mem {k5 : Nat} {F : Nat → Nat → Int32} {N : Nat → Nat} {X : Nat → Nat → Int32} (h : li_M k5 F N X) : ps_mem k5 F N := fun m hm => by
  obtain ⟨i, q1, -, -, q4⟩ := h m hm
  exact ⟨i, q1, q4.elim (fun q => Or.inl ⟨q.1, q.2.1, q.2.2.1⟩) (fun q => Or.inr ⟨q.1, q.2.1, q.2.2.1⟩)⟩
theorem li_kv.z {f g x y z : Int32} (h : li_kv f g x y z) : vp_nar .boolean z = z := by
  rcases h with ⟨e, -⟩ | ⟨e, -⟩ <;> rw [e] <;> decide
theorem li_M.mo {k5 : Nat} {F : Nat → Nat → Int32} {N : Nat → Nat} {X : Nat → Nat → Int32} (h : li_M k5 F N X) (hW : ps_wf F N) : mo_mem k5 F X := fun m hm => by
  obtain ⟨i, q1, q2, q3, q4⟩ := h m hm
  have n2 : N 2 ≤ 32768 := (hW 2 (by decide)).2
  have n10 : N 10 ≤ 16384 := (hW 10 (by decide)).2
  refine ⟨i, q1, q2, q4.elim (fun q => Or.inl ⟨q.1, by omega, q.2.2.2.1, q.2.2.2.2.1, ?_⟩) (fun q => Or.inr ⟨q.1, by omega, q.2.2.2.1, q.2.2.2.2.z⟩)⟩
  rw [li_zero q3]; exact q.2.2.2.2.2
theorem li_bs {k5 : Nat} {F : Nat → Nat → Int32} {N : Nat → Nat} {X : Nat → Nat → Int32} (hM : li_M k5 F N X) (hW : ps_wf F N) (hP : li_P F) (hV : li_V F X) {d : Nat} (hd : d ≤ k5) : li_P (ps_bs F k5 d) ∧ li_V (ps_bs F k5 d) (mo_bs F X k5 d) := by
  induction d with
  | zero => exact ⟨hP, hV⟩
  | succ d ih =>
    obtain ⟨ihP, ihV⟩ := ih (by omega)
    obtain ⟨i, h13, h7b, h0, ⟨h12, a, b, h6, h7, h8⟩ | ⟨h12, a, b, h6, hk⟩⟩ := hM (k5 - (d + 1)) (by omega)
    · have hi := hW.n 2 (by decide)
      have e1 := ps_bs_1 (F := F) (k5 := k5) (d := d) rfl h12 h13 (by omega)
      rw [mo_bs_1 rfl h12, e1]
      refine ⟨li_setP (F := ps_bs F k5 d) (w := F 15 (k5 - (d + 1))) ihP (by rw [← h7]; exact h7b), fun j => ihV j⟩
    · have hi := hW.n 10 (by decide)
      have e1 := ps_bs_4 (F := F) (k5 := k5) (d := d) rfl h12 h13 (by omega)
      rw [e1, mo_bs_4 rfl h12 h13 (by omega)]
      refine ⟨fun j => ihP j, li_setV (F := ps_bs F k5 d) (w := F 15 (k5 - (d + 1))) ihV rfl rfl rfl (by rw [li_zero h0]; exact hk) h7b⟩
theorem li_rest {K : Nat → Nat} {S : Nat} {F : Nat → Nat → Int32} {N : Nat → Nat} {T : Nat → Nat → Nat} {X : Nat → Nat → Int32} (h : li_I K S F N T X) {k : Nat} (h1 : 1 ≤ k) (h2 : k ≤ S) : li_I (ps_kx K (T k) 6) (k - 1) (ps_bs F (K 5) (K 5 - T k 5)) N T (mo_bs F X (K 5) (K 5 - T k 5)) := by
  obtain ⟨hA, hW, hL, hT, hM, hP, hB, hV⟩ := h
  obtain ⟨q1, q2, q3, q4⟩ := hT.1 k h1 h2
  have kx : ∀ j, j < 6 → ps_kx K (T k) 6 j = T k j := fun j hj => by unfold ps_kx; rw [if_pos hj]
  have t := fun j hj => (q2 j hj).2
  have t0 := t 0 (by decide)
  have t1 := t 1 (by decide)
  have t3 := t 3 (by decide)
  have t4 := t 4 (by decide)
  have t5 := t 5 (by decide)
  obtain ⟨bP, bV⟩ := li_bs hM hW hP hV (d := K 5 - T k 5) (by omega)
  have o : ∀ j, j ≠ 2 ∧ j ≠ 3 ∧ j ≠ 10 ∧ j ≠ 11 → ps_bs F (K 5) (K 5 - T k 5) j = F j := fun j hj => ps_bs_o hj
  have ox : ∀ j, j ≠ 1 ∧ j ≠ 2 ∧ j ≠ 3 → mo_bs F X (K 5) (K 5 - T k 5) j = X j := fun j hj => mo_bs_o hj
  obtain ⟨a1, a2, a3, a4, a5, a6, a7⟩ := hA
  refine ⟨⟨ps_kx_b a1 (fun j hj => Nat.le_trans (t j hj) (a1 j)) (Nat.le_refl _), ?_, ?_, ?_, ?_, ?_, by omega⟩, ps_wf_bs hW hM.mem (by omega), ?_, ⟨?_, ?_, hT.2.2⟩, ?_, bP, ?_, bV⟩
  · rw [kx 0 (by decide)]; omega
  · rw [kx 1 (by decide)]; omega
  · rw [kx 3 (by decide)]; omega
  · rw [kx 4 (by decide)]; omega
  · rw [kx 5 (by decide)]; omega
  · have q5 : li_L (ps_kx K (T k) 6) F := q1.mono (kx 0 (by decide)) (by rw [kx 1 (by decide)]; exact Nat.le_refl _) (by rw [kx 2 (by decide)]; exact Nat.le_refl _) (by rw [kx 3 (by decide)]; exact Nat.le_refl _) (kx 4 (by decide))
    exact q5.cong (fun r _ => ⟨by rw [o 4 (by decide)], by rw [o 5 (by decide)], by rw [o 6 (by decide)]⟩) (fun j _ => by rw [o 7 (by decide)])
  · intro k' a b
    obtain ⟨p1, p2, p3, p4⟩ := hT.1 k' a (by omega)
    refine ⟨p1.cong (fun r _ => ⟨by rw [o 4 (by decide)], by rw [o 5 (by decide)], by rw [o 6 (by decide)]⟩) (fun j _ => by rw [o 7 (by decide)]), fun w hw => ?_, fun w hw => by rw [ox 4 (by decide)]; exact p3 w hw, by rw [ox 5 (by decide)]; exact p4⟩
    rw [o 0 (by decide), kx w hw]
    exact ⟨(p2 w hw).1, hT.2.1 k' k a (by omega) h2 w hw⟩
  · exact fun a b h3 h4 h6 => hT.2.1 a b h3 h4 (by omega)
  · rw [kx 5 (by decide)]
    have hM2 : li_M (T k 5) F N X := fun m hm => hM m (by omega)
    exact hM2.cong ⟨o 12 (by decide), o 13 (by decide), o 14 (by decide), o 15 (by decide)⟩ ⟨Nat.le_refl _, Nat.le_refl _, Nat.le_refl _, Nat.le_refl _⟩ ⟨ox 6 (by decide), ox 7 (by decide), ox 8 (by decide), ox 9 (by decide)⟩
  · exact fun j => by rw [o 1 (by decide), ox 0 (by decide)]; exact hB j
-- what must be remembered, here and there
theorem li_must1 {K : Nat → Nat} {S : Nat} {F : Nat → Nat → Int32} {N : Nat → Nat} {X : Nat → Nat → Int32} {t b i : Nat} (hM : li_M (K 5) F N X) (hW : ps_wf F N) (hi : i < 2 ^ 31) : ps_must S t b (K 5) F 1 i ↔ mo_open S t b (K 5) X (nI i) i := by
  have key : ∀ m, m < K 5 → ((F 13 m = nI i ∧ F 12 m = nI 1) ↔ X 6 m = nI i) := fun m hm => by
    obtain ⟨i', h13, -, -, ⟨h12, a, -, h6, -⟩ | ⟨h12, a, -, h6, -⟩⟩ := hM m hm
    · rw [h13, h12, h6]; exact ⟨fun q => q.1, fun q => ⟨q, rfl⟩⟩
    · have n10 := hW.n 10 (by decide)
      rw [h12, h6]
      refine ⟨fun q => absurd q.2 (by decide), fun q => ?_⟩
      have h1 := mo_neg (i := i') (by omega)
      rw [q] at h1
      exact absurd h1 (nI_pos hi)
  constructor
  · exact fun q => ⟨q.1, q.2.1, fun m h1 h2 h3 => q.2.2 m h1 h2 ((key m h2).mpr h3)⟩
  · exact fun q => ⟨q.1, q.2.1, fun m h1 h2 h3 => q.2.2 m h1 h2 ((key m h2).mp h3)⟩
theorem li_must4 {K : Nat → Nat} {S : Nat} {F : Nat → Nat → Int32} {N : Nat → Nat} {X : Nat → Nat → Int32} {t b i : Nat} {z : Int32} (hM : li_M (K 5) F N X) (hW : ps_wf F N) (hi : i < 2 ^ 31) (hz : z = (-1) - nI i) : ps_must S t b (K 5) F 4 i ↔ mo_open S t b (K 5) X z i := by
  have key : ∀ m, m < K 5 → ((F 13 m = nI i ∧ F 12 m = nI 4) ↔ X 6 m = z) := fun m hm => by
    obtain ⟨i', h13, -, -, ⟨h12, a, -, h6, -⟩ | ⟨h12, a, -, h6, -⟩⟩ := hM m hm
    · have n2 := hW.n 2 (by decide)
      rw [h12, h6]
      refine ⟨fun q => absurd q.2 (by decide), fun q => ?_⟩
      have h1 := mo_neg (i := i) hi
      rw [← hz, ← q] at h1
      exact absurd h1 (nI_pos (by omega))
    · rw [h13, h12, h6, hz]
      refine ⟨fun q => by rw [q.1], fun q => ⟨?_, rfl⟩⟩
      have h1 := congrArg (fun v => (-1 : Int32) - v) q
      rw [mo_inv, mo_inv] at h1
      exact h1
  constructor
  · exact fun q => ⟨q.1, q.2.1, fun m h1 h2 h3 => q.2.2 m h1 h2 ((key m h2).mpr h3)⟩
  · exact fun q => ⟨q.1, q.2.1, fun m h1 h2 h3 => q.2.2 m h1 h2 ((key m h2).mp h3)⟩
