/-- cells and slots that the columns have cost, at most -/
def ps_L (N : Nat → Nat) : Nat := N 0 + N 1 + N 2 + N 3 + N 4 + N 5 + N 6 + N 7 + N 8 + N 9 + N 10 + N 11 + N 12 + N 13 + N 14 + N 15
def ps_Y (N : Nat → Nat) : Nat := ps_psi 90 (N 0) + ps_psi 65536 (N 1) + ps_psi 32768 (N 2) + ps_psi 32768 (N 3) + ps_psi 16385 (N 4) + ps_psi 16385 (N 5) + ps_psi 16385 (N 6) + ps_psi 16384 (N 7) + ps_psi 16384 (N 8) + ps_psi 16384 (N 9) + ps_psi 16384 (N 10) + ps_psi 16384 (N 11) + ps_psi 40000 (N 12) + ps_psi 40000 (N 13) + ps_psi 40000 (N 14) + ps_psi 40000 (N 15)
theorem ps_psi_max {lim n : Nat} (h : n ≤ lim) : ps_psi lim n ≤ 3 * lim := by unfold ps_psi; split <;> omega
theorem ps_L_le {F : Nat → Nat → Int32} {N : Nat → Nat} (h : ps_wf F N) : ps_L N ≤ 422237 := by
  have h0 : N 0 ≤ 90 := (h 0 (by decide)).2
  have h1 : N 1 ≤ 65536 := (h 1 (by decide)).2
  have h2 : N 2 ≤ 32768 := (h 2 (by decide)).2
  have h3 : N 3 ≤ 32768 := (h 3 (by decide)).2
  have h4 : N 4 ≤ 16385 := (h 4 (by decide)).2
  have h5 : N 5 ≤ 16385 := (h 5 (by decide)).2
  have h6 : N 6 ≤ 16385 := (h 6 (by decide)).2
  have h7 : N 7 ≤ 16384 := (h 7 (by decide)).2
  have h8 : N 8 ≤ 16384 := (h 8 (by decide)).2
  have h9 : N 9 ≤ 16384 := (h 9 (by decide)).2
  have h10 : N 10 ≤ 16384 := (h 10 (by decide)).2
  have h11 : N 11 ≤ 16384 := (h 11 (by decide)).2
  have h12 : N 12 ≤ 40000 := (h 12 (by decide)).2
  have h13 : N 13 ≤ 40000 := (h 13 (by decide)).2
  have h14 : N 14 ≤ 40000 := (h 14 (by decide)).2
  have h15 : N 15 ≤ 40000 := (h 15 (by decide)).2
  unfold ps_L
  omega
theorem ps_Y_le {F : Nat → Nat → Int32} {N : Nat → Nat} (h : ps_wf F N) : ps_Y N ≤ 1266711 := by
  have h0 : ps_psi 90 (N 0) ≤ 3 * 90 := ps_psi_max (h 0 (by decide)).2
  have h1 : ps_psi 65536 (N 1) ≤ 3 * 65536 := ps_psi_max (h 1 (by decide)).2
  have h2 : ps_psi 32768 (N 2) ≤ 3 * 32768 := ps_psi_max (h 2 (by decide)).2
  have h3 : ps_psi 32768 (N 3) ≤ 3 * 32768 := ps_psi_max (h 3 (by decide)).2
  have h4 : ps_psi 16385 (N 4) ≤ 3 * 16385 := ps_psi_max (h 4 (by decide)).2
  have h5 : ps_psi 16385 (N 5) ≤ 3 * 16385 := ps_psi_max (h 5 (by decide)).2
  have h6 : ps_psi 16385 (N 6) ≤ 3 * 16385 := ps_psi_max (h 6 (by decide)).2
  have h7 : ps_psi 16384 (N 7) ≤ 3 * 16384 := ps_psi_max (h 7 (by decide)).2
  have h8 : ps_psi 16384 (N 8) ≤ 3 * 16384 := ps_psi_max (h 8 (by decide)).2
  have h9 : ps_psi 16384 (N 9) ≤ 3 * 16384 := ps_psi_max (h 9 (by decide)).2
  have h10 : ps_psi 16384 (N 10) ≤ 3 * 16384 := ps_psi_max (h 10 (by decide)).2
  have h11 : ps_psi 16384 (N 11) ≤ 3 * 16384 := ps_psi_max (h 11 (by decide)).2
  have h12 : ps_psi 40000 (N 12) ≤ 3 * 40000 := ps_psi_max (h 12 (by decide)).2
  have h13 : ps_psi 40000 (N 13) ≤ 3 * 40000 := ps_psi_max (h 13 (by decide)).2
  have h14 : ps_psi 40000 (N 14) ≤ 3 * 40000 := ps_psi_max (h 14 (by decide)).2
  have h15 : ps_psi 40000 (N 15) ≤ 3 * 40000 := ps_psi_max (h 15 (by decide)).2
  unfold ps_Y
  omega
theorem li_cr_L {N : Nat → Nat} (r : Nat) : ps_L N + (ps_rc N r) ≤ ps_L (ps_Nr N r) := by
  have e : ps_L (ps_Nr N r) = N 0 + N 1 + N 2 + N 3 + ps_len 16385 (N 4) (r) + ps_len 16385 (N 5) (r) + ps_len 16385 (N 6) (r) + N 7 + N 8 + N 9 + N 10 + N 11 + N 12 + N 13 + N 14 + N 15 := rfl
  rw [e]
  unfold ps_L ps_rc
  have h4 : N 4 ≤ ps_len 16385 (N 4) (r) := ps_len_ge _ _ _
  have h5 : N 5 ≤ ps_len 16385 (N 5) (r) := ps_len_ge _ _ _
  have h6 : N 6 ≤ ps_len 16385 (N 6) (r) := ps_len_ge _ _ _
  unfold ps_dc
  omega
theorem li_cr_Y {F : Nat → Nat → Int32} {N : Nat → Nat} (r : Nat) (hW : ps_wf F N) (hr : r < 16385) : ps_Y N + (ps_rs N r) ≤ ps_Y (ps_Nr N r) := by
  have e : ps_Y (ps_Nr N r) = ps_psi 90 (N 0) + ps_psi 65536 (N 1) + ps_psi 32768 (N 2) + ps_psi 32768 (N 3) + ps_psi 16385 (ps_len 16385 (N 4) (r)) + ps_psi 16385 (ps_len 16385 (N 5) (r)) + ps_psi 16385 (ps_len 16385 (N 6) (r)) + ps_psi 16384 (N 7) + ps_psi 16384 (N 8) + ps_psi 16384 (N 9) + ps_psi 16384 (N 10) + ps_psi 16384 (N 11) + ps_psi 40000 (N 12) + ps_psi 40000 (N 13) + ps_psi 40000 (N 14) + ps_psi 40000 (N 15) := rfl
  rw [e]
  unfold ps_Y ps_rs
  have h4 : ps_psi 16385 (N 4) ≤ ps_psi 16385 (ps_len 16385 (N 4) (r)) := ps_psi_le (ps_len_ge _ _ _) (ps_len_le (hW 4 (by decide)).2 (by show _ < 16385; omega))
  have h5 : ps_psi 16385 (N 5) ≤ ps_psi 16385 (ps_len 16385 (N 5) (r)) := ps_psi_le (ps_len_ge _ _ _) (ps_len_le (hW 5 (by decide)).2 (by show _ < 16385; omega))
  have h6 : ps_psi 16385 (N 6) ≤ ps_psi 16385 (ps_len 16385 (N 6) (r)) := ps_psi_le (ps_len_ge _ _ _) (ps_len_le (hW 6 (by decide)).2 (by show _ < 16385; omega))
  unfold ps_ds
  omega
theorem li_cb_L {N : Nat → Nat} (i : Nat) : ps_L N + (ps_dc 65536 (N 1) i) ≤ ps_L (ps_g N 1 i) := by
  have e : ps_L (ps_g N 1 i) = N 0 + ps_len 65536 (N 1) (i) + N 2 + N 3 + N 4 + N 5 + N 6 + N 7 + N 8 + N 9 + N 10 + N 11 + N 12 + N 13 + N 14 + N 15 := rfl
  rw [e]
  unfold ps_L
  have h1 : N 1 ≤ ps_len 65536 (N 1) (i) := ps_len_ge _ _ _
  unfold ps_dc
  omega
theorem li_cb_Y {F : Nat → Nat → Int32} {N : Nat → Nat} (i : Nat) (hW : ps_wf F N) (hr : i < 65536) : ps_Y N + (ps_ds 65536 (N 1) i) ≤ ps_Y (ps_g N 1 i) := by
  have e : ps_Y (ps_g N 1 i) = ps_psi 90 (N 0) + ps_psi 65536 (ps_len 65536 (N 1) (i)) + ps_psi 32768 (N 2) + ps_psi 32768 (N 3) + ps_psi 16385 (N 4) + ps_psi 16385 (N 5) + ps_psi 16385 (N 6) + ps_psi 16384 (N 7) + ps_psi 16384 (N 8) + ps_psi 16384 (N 9) + ps_psi 16384 (N 10) + ps_psi 16384 (N 11) + ps_psi 40000 (N 12) + ps_psi 40000 (N 13) + ps_psi 40000 (N 14) + ps_psi 40000 (N 15) := rfl
  rw [e]
  unfold ps_Y
  have h1 : ps_psi 65536 (N 1) ≤ ps_psi 65536 (ps_len 65536 (N 1) (i)) := ps_psi_le (ps_len_ge _ _ _) (ps_len_le (hW 1 (by decide)).2 (by show _ < 65536; omega))
  unfold ps_ds
  omega
theorem li_c2_L {N : Nat → Nat} (i : Nat) : ps_L N + (ps_vc 32768 N 2 i) ≤ ps_L (ps_Nv N 2 i) := by
  have e : ps_L (ps_Nv N 2 i) = N 0 + N 1 + ps_len 32768 (N 2) (i) + ps_len 32768 (N 3) (i) + N 4 + N 5 + N 6 + N 7 + N 8 + N 9 + N 10 + N 11 + N 12 + N 13 + N 14 + N 15 := rfl
  rw [e]
  unfold ps_L ps_vc
  rw [show (2 : Nat) + 1 = 3 from rfl]
  have h2 : N 2 ≤ ps_len 32768 (N 2) (i) := ps_len_ge _ _ _
  have h3 : N 3 ≤ ps_len 32768 (N 3) (i) := ps_len_ge _ _ _
  unfold ps_dc
  omega
theorem li_c2_Y {F : Nat → Nat → Int32} {N : Nat → Nat} (i : Nat) (hW : ps_wf F N) (hr : i < 32768) : ps_Y N + (ps_vs 32768 N 2 i) ≤ ps_Y (ps_Nv N 2 i) := by
  have e : ps_Y (ps_Nv N 2 i) = ps_psi 90 (N 0) + ps_psi 65536 (N 1) + ps_psi 32768 (ps_len 32768 (N 2) (i)) + ps_psi 32768 (ps_len 32768 (N 3) (i)) + ps_psi 16385 (N 4) + ps_psi 16385 (N 5) + ps_psi 16385 (N 6) + ps_psi 16384 (N 7) + ps_psi 16384 (N 8) + ps_psi 16384 (N 9) + ps_psi 16384 (N 10) + ps_psi 16384 (N 11) + ps_psi 40000 (N 12) + ps_psi 40000 (N 13) + ps_psi 40000 (N 14) + ps_psi 40000 (N 15) := rfl
  rw [e]
  unfold ps_Y ps_vs
  rw [show (2 : Nat) + 1 = 3 from rfl]
  have h2 : ps_psi 32768 (N 2) ≤ ps_psi 32768 (ps_len 32768 (N 2) (i)) := ps_psi_le (ps_len_ge _ _ _) (ps_len_le (hW 2 (by decide)).2 (by show _ < 32768; omega))
  have h3 : ps_psi 32768 (N 3) ≤ ps_psi 32768 (ps_len 32768 (N 3) (i)) := ps_psi_le (ps_len_ge _ _ _) (ps_len_le (hW 3 (by decide)).2 (by show _ < 32768; omega))
  unfold ps_ds
  omega
theorem li_c10_L {N : Nat → Nat} (i : Nat) : ps_L N + (ps_vc 16384 N 10 i) ≤ ps_L (ps_Nv N 10 i) := by
  have e : ps_L (ps_Nv N 10 i) = N 0 + N 1 + N 2 + N 3 + N 4 + N 5 + N 6 + N 7 + N 8 + N 9 + ps_len 16384 (N 10) (i) + ps_len 16384 (N 11) (i) + N 12 + N 13 + N 14 + N 15 := rfl
  rw [e]
  unfold ps_L ps_vc
  rw [show (10 : Nat) + 1 = 11 from rfl]
  have h10 : N 10 ≤ ps_len 16384 (N 10) (i) := ps_len_ge _ _ _
  have h11 : N 11 ≤ ps_len 16384 (N 11) (i) := ps_len_ge _ _ _
  unfold ps_dc
  omega
theorem li_c10_Y {F : Nat → Nat → Int32} {N : Nat → Nat} (i : Nat) (hW : ps_wf F N) (hr : i < 16384) : ps_Y N + (ps_vs 16384 N 10 i) ≤ ps_Y (ps_Nv N 10 i) := by
  have e : ps_Y (ps_Nv N 10 i) = ps_psi 90 (N 0) + ps_psi 65536 (N 1) + ps_psi 32768 (N 2) + ps_psi 32768 (N 3) + ps_psi 16385 (N 4) + ps_psi 16385 (N 5) + ps_psi 16385 (N 6) + ps_psi 16384 (N 7) + ps_psi 16384 (N 8) + ps_psi 16384 (N 9) + ps_psi 16384 (ps_len 16384 (N 10) (i)) + ps_psi 16384 (ps_len 16384 (N 11) (i)) + ps_psi 40000 (N 12) + ps_psi 40000 (N 13) + ps_psi 40000 (N 14) + ps_psi 40000 (N 15) := rfl
  rw [e]
  unfold ps_Y ps_vs
  rw [show (10 : Nat) + 1 = 11 from rfl]
  have h10 : ps_psi 16384 (N 10) ≤ ps_psi 16384 (ps_len 16384 (N 10) (i)) := ps_psi_le (ps_len_ge _ _ _) (ps_len_le (hW 10 (by decide)).2 (by show _ < 16384; omega))
  have h11 : ps_psi 16384 (N 11) ≤ ps_psi 16384 (ps_len 16384 (N 11) (i)) := ps_psi_le (ps_len_ge _ _ _) (ps_len_le (hW 11 (by decide)).2 (by show _ < 16384; omega))
  unfold ps_ds
  omega
theorem li_cm2_L {N : Nat → Nat} (m i : Nat) : ps_L N + (ps_mc N m + ps_vc 32768 N 2 i) ≤ ps_L (ps_Nv (ps_Nm N m) 2 i) := by
  have e : ps_L (ps_Nv (ps_Nm N m) 2 i) = N 0 + N 1 + ps_len 32768 (N 2) (i) + ps_len 32768 (N 3) (i) + N 4 + N 5 + N 6 + N 7 + N 8 + N 9 + N 10 + N 11 + ps_len 40000 (N 12) (m) + ps_len 40000 (N 13) (m) + ps_len 40000 (N 14) (m) + ps_len 40000 (N 15) (m) := rfl
  rw [e]
  unfold ps_L ps_vc ps_mc
  rw [show (2 : Nat) + 1 = 3 from rfl]
  have h12 : N 12 ≤ ps_len 40000 (N 12) (m) := ps_len_ge _ _ _
  have h13 : N 13 ≤ ps_len 40000 (N 13) (m) := ps_len_ge _ _ _
  have h14 : N 14 ≤ ps_len 40000 (N 14) (m) := ps_len_ge _ _ _
  have h15 : N 15 ≤ ps_len 40000 (N 15) (m) := ps_len_ge _ _ _
  have h2 : N 2 ≤ ps_len 32768 (N 2) (i) := ps_len_ge _ _ _
  have h3 : N 3 ≤ ps_len 32768 (N 3) (i) := ps_len_ge _ _ _
  unfold ps_dc
  omega
theorem li_cm2_Y {F : Nat → Nat → Int32} {N : Nat → Nat} (m i : Nat) (hW : ps_wf F N) (hm : m < 40000) (hr : i < 32768) : ps_Y N + (ps_ms N m + ps_vs 32768 N 2 i) ≤ ps_Y (ps_Nv (ps_Nm N m) 2 i) := by
  have e : ps_Y (ps_Nv (ps_Nm N m) 2 i) = ps_psi 90 (N 0) + ps_psi 65536 (N 1) + ps_psi 32768 (ps_len 32768 (N 2) (i)) + ps_psi 32768 (ps_len 32768 (N 3) (i)) + ps_psi 16385 (N 4) + ps_psi 16385 (N 5) + ps_psi 16385 (N 6) + ps_psi 16384 (N 7) + ps_psi 16384 (N 8) + ps_psi 16384 (N 9) + ps_psi 16384 (N 10) + ps_psi 16384 (N 11) + ps_psi 40000 (ps_len 40000 (N 12) (m)) + ps_psi 40000 (ps_len 40000 (N 13) (m)) + ps_psi 40000 (ps_len 40000 (N 14) (m)) + ps_psi 40000 (ps_len 40000 (N 15) (m)) := rfl
  rw [e]
  unfold ps_Y ps_vs ps_ms
  rw [show (2 : Nat) + 1 = 3 from rfl]
  have h12 : ps_psi 40000 (N 12) ≤ ps_psi 40000 (ps_len 40000 (N 12) (m)) := ps_psi_le (ps_len_ge _ _ _) (ps_len_le (hW 12 (by decide)).2 (by show _ < 40000; omega))
  have h13 : ps_psi 40000 (N 13) ≤ ps_psi 40000 (ps_len 40000 (N 13) (m)) := ps_psi_le (ps_len_ge _ _ _) (ps_len_le (hW 13 (by decide)).2 (by show _ < 40000; omega))
  have h14 : ps_psi 40000 (N 14) ≤ ps_psi 40000 (ps_len 40000 (N 14) (m)) := ps_psi_le (ps_len_ge _ _ _) (ps_len_le (hW 14 (by decide)).2 (by show _ < 40000; omega))
  have h15 : ps_psi 40000 (N 15) ≤ ps_psi 40000 (ps_len 40000 (N 15) (m)) := ps_psi_le (ps_len_ge _ _ _) (ps_len_le (hW 15 (by decide)).2 (by show _ < 40000; omega))
  have h2 : ps_psi 32768 (N 2) ≤ ps_psi 32768 (ps_len 32768 (N 2) (i)) := ps_psi_le (ps_len_ge _ _ _) (ps_len_le (hW 2 (by decide)).2 (by show _ < 32768; omega))
  have h3 : ps_psi 32768 (N 3) ≤ ps_psi 32768 (ps_len 32768 (N 3) (i)) := ps_psi_le (ps_len_ge _ _ _) (ps_len_le (hW 3 (by decide)).2 (by show _ < 32768; omega))
  unfold ps_ds
  omega
theorem li_cm10_L {N : Nat → Nat} (m i : Nat) : ps_L N + (ps_mc N m + ps_vc 16384 N 10 i) ≤ ps_L (ps_Nv (ps_Nm N m) 10 i) := by
  have e : ps_L (ps_Nv (ps_Nm N m) 10 i) = N 0 + N 1 + N 2 + N 3 + N 4 + N 5 + N 6 + N 7 + N 8 + N 9 + ps_len 16384 (N 10) (i) + ps_len 16384 (N 11) (i) + ps_len 40000 (N 12) (m) + ps_len 40000 (N 13) (m) + ps_len 40000 (N 14) (m) + ps_len 40000 (N 15) (m) := rfl
  rw [e]
  unfold ps_L ps_vc ps_mc
  rw [show (10 : Nat) + 1 = 11 from rfl]
  have h12 : N 12 ≤ ps_len 40000 (N 12) (m) := ps_len_ge _ _ _
  have h13 : N 13 ≤ ps_len 40000 (N 13) (m) := ps_len_ge _ _ _
  have h14 : N 14 ≤ ps_len 40000 (N 14) (m) := ps_len_ge _ _ _
  have h15 : N 15 ≤ ps_len 40000 (N 15) (m) := ps_len_ge _ _ _
  have h10 : N 10 ≤ ps_len 16384 (N 10) (i) := ps_len_ge _ _ _
  have h11 : N 11 ≤ ps_len 16384 (N 11) (i) := ps_len_ge _ _ _
  unfold ps_dc
  omega
theorem li_cm10_Y {F : Nat → Nat → Int32} {N : Nat → Nat} (m i : Nat) (hW : ps_wf F N) (hm : m < 40000) (hr : i < 16384) : ps_Y N + (ps_ms N m + ps_vs 16384 N 10 i) ≤ ps_Y (ps_Nv (ps_Nm N m) 10 i) := by
  have e : ps_Y (ps_Nv (ps_Nm N m) 10 i) = ps_psi 90 (N 0) + ps_psi 65536 (N 1) + ps_psi 32768 (N 2) + ps_psi 32768 (N 3) + ps_psi 16385 (N 4) + ps_psi 16385 (N 5) + ps_psi 16385 (N 6) + ps_psi 16384 (N 7) + ps_psi 16384 (N 8) + ps_psi 16384 (N 9) + ps_psi 16384 (ps_len 16384 (N 10) (i)) + ps_psi 16384 (ps_len 16384 (N 11) (i)) + ps_psi 40000 (ps_len 40000 (N 12) (m)) + ps_psi 40000 (ps_len 40000 (N 13) (m)) + ps_psi 40000 (ps_len 40000 (N 14) (m)) + ps_psi 40000 (ps_len 40000 (N 15) (m)) := rfl
  rw [e]
  unfold ps_Y ps_vs ps_ms
  rw [show (10 : Nat) + 1 = 11 from rfl]
  have h12 : ps_psi 40000 (N 12) ≤ ps_psi 40000 (ps_len 40000 (N 12) (m)) := ps_psi_le (ps_len_ge _ _ _) (ps_len_le (hW 12 (by decide)).2 (by show _ < 40000; omega))
  have h13 : ps_psi 40000 (N 13) ≤ ps_psi 40000 (ps_len 40000 (N 13) (m)) := ps_psi_le (ps_len_ge _ _ _) (ps_len_le (hW 13 (by decide)).2 (by show _ < 40000; omega))
  have h14 : ps_psi 40000 (N 14) ≤ ps_psi 40000 (ps_len 40000 (N 14) (m)) := ps_psi_le (ps_len_ge _ _ _) (ps_len_le (hW 14 (by decide)).2 (by show _ < 40000; omega))
  have h15 : ps_psi 40000 (N 15) ≤ ps_psi 40000 (ps_len 40000 (N 15) (m)) := ps_psi_le (ps_len_ge _ _ _) (ps_len_le (hW 15 (by decide)).2 (by show _ < 40000; omega))
  have h10 : ps_psi 16384 (N 10) ≤ ps_psi 16384 (ps_len 16384 (N 10) (i)) := ps_psi_le (ps_len_ge _ _ _) (ps_len_le (hW 10 (by decide)).2 (by show _ < 16384; omega))
  have h11 : ps_psi 16384 (N 11) ≤ ps_psi 16384 (ps_len 16384 (N 11) (i)) := ps_psi_le (ps_len_ge _ _ _) (ps_len_le (hW 11 (by decide)).2 (by show _ < 16384; omega))
  unfold ps_ds
  omega
theorem li_ck_L {N : Nat → Nat} (j : Nat) : ps_L N + (ps_kc N j) ≤ ps_L (ps_Nk N j) := by
  have e : ps_L (ps_Nk N j) = N 0 + N 1 + N 2 + N 3 + N 4 + N 5 + N 6 + ps_len 16384 (N 7) (j) + ps_len 16384 (N 8) (j) + ps_len 16384 (N 9) (j) + ps_len 16384 (N 10) (j) + ps_len 16384 (N 11) (j) + N 12 + N 13 + N 14 + N 15 := rfl
  rw [e]
  unfold ps_L ps_kc
  have h7 : N 7 ≤ ps_len 16384 (N 7) (j) := ps_len_ge _ _ _
  have h8 : N 8 ≤ ps_len 16384 (N 8) (j) := ps_len_ge _ _ _
  have h9 : N 9 ≤ ps_len 16384 (N 9) (j) := ps_len_ge _ _ _
  have h10 : N 10 ≤ ps_len 16384 (N 10) (j) := ps_len_ge _ _ _
  have h11 : N 11 ≤ ps_len 16384 (N 11) (j) := ps_len_ge _ _ _
  unfold ps_dc
  omega
theorem li_ck_Y {F : Nat → Nat → Int32} {N : Nat → Nat} (j : Nat) (hW : ps_wf F N) (hr : j < 16384) : ps_Y N + (ps_ks N j) ≤ ps_Y (ps_Nk N j) := by
  have e : ps_Y (ps_Nk N j) = ps_psi 90 (N 0) + ps_psi 65536 (N 1) + ps_psi 32768 (N 2) + ps_psi 32768 (N 3) + ps_psi 16385 (N 4) + ps_psi 16385 (N 5) + ps_psi 16385 (N 6) + ps_psi 16384 (ps_len 16384 (N 7) (j)) + ps_psi 16384 (ps_len 16384 (N 8) (j)) + ps_psi 16384 (ps_len 16384 (N 9) (j)) + ps_psi 16384 (ps_len 16384 (N 10) (j)) + ps_psi 16384 (ps_len 16384 (N 11) (j)) + ps_psi 40000 (N 12) + ps_psi 40000 (N 13) + ps_psi 40000 (N 14) + ps_psi 40000 (N 15) := rfl
  rw [e]
  unfold ps_Y ps_ks
  have h7 : ps_psi 16384 (N 7) ≤ ps_psi 16384 (ps_len 16384 (N 7) (j)) := ps_psi_le (ps_len_ge _ _ _) (ps_len_le (hW 7 (by decide)).2 (by show _ < 16384; omega))
  have h8 : ps_psi 16384 (N 8) ≤ ps_psi 16384 (ps_len 16384 (N 8) (j)) := ps_psi_le (ps_len_ge _ _ _) (ps_len_le (hW 8 (by decide)).2 (by show _ < 16384; omega))
  have h9 : ps_psi 16384 (N 9) ≤ ps_psi 16384 (ps_len 16384 (N 9) (j)) := ps_psi_le (ps_len_ge _ _ _) (ps_len_le (hW 9 (by decide)).2 (by show _ < 16384; omega))
  have h10 : ps_psi 16384 (N 10) ≤ ps_psi 16384 (ps_len 16384 (N 10) (j)) := ps_psi_le (ps_len_ge _ _ _) (ps_len_le (hW 10 (by decide)).2 (by show _ < 16384; omega))
  have h11 : ps_psi 16384 (N 11) ≤ ps_psi 16384 (ps_len 16384 (N 11) (j)) := ps_psi_le (ps_len_ge _ _ _) (ps_len_le (hW 11 (by decide)).2 (by show _ < 16384; omega))
  unfold ps_ds
  omega
theorem li_cs_L {N : Nat → Nat} (S : Nat) : ps_L N + (ps_nl (N 0) (S * 6) 6 - N 0) ≤ ps_L (va_up N 0 (ps_nl (N 0) (S * 6) 6)) := by
  have e : ps_L (va_up N 0 (ps_nl (N 0) (S * 6) 6)) = ps_nl (N 0) (S * 6) 6 + N 1 + N 2 + N 3 + N 4 + N 5 + N 6 + N 7 + N 8 + N 9 + N 10 + N 11 + N 12 + N 13 + N 14 + N 15 := rfl
  rw [e]
  unfold ps_L
  have h0 := ps_nl_ge (N 0) (S * 6) 6
  omega
theorem li_cs_Y {F : Nat → Nat → Int32} {N : Nat → Nat} (S : Nat) (hW : ps_wf F N) (hr : S < 15) : ps_Y N + (ps_psi 90 (ps_nl (N 0) (S * 6) 6) - ps_psi 90 (N 0)) ≤ ps_Y (va_up N 0 (ps_nl (N 0) (S * 6) 6)) := by
  have e : ps_Y (va_up N 0 (ps_nl (N 0) (S * 6) 6)) = ps_psi 90 (ps_nl (N 0) (S * 6) 6) + ps_psi 65536 (N 1) + ps_psi 32768 (N 2) + ps_psi 32768 (N 3) + ps_psi 16385 (N 4) + ps_psi 16385 (N 5) + ps_psi 16385 (N 6) + ps_psi 16384 (N 7) + ps_psi 16384 (N 8) + ps_psi 16384 (N 9) + ps_psi 16384 (N 10) + ps_psi 16384 (N 11) + ps_psi 40000 (N 12) + ps_psi 40000 (N 13) + ps_psi 40000 (N 14) + ps_psi 40000 (N 15) := rfl
  rw [e]
  unfold ps_Y
  have h0 := ps_psi_le (lim := 90) (ps_nl_ge (N 0) (S * 6) 6) (ps_nl_le (hW 0 (by decide)).2 (by omega))
  omega
-- choosing among cases
theorem li_sn {M : Nat → Prop} {E : Nat} {A : Prop} {B : Nat → Prop} (h : (ps_not M 0 E ∧ A) ∨ (∃ j : Nat, j < E ∧ M j ∧ ps_not M 0 j ∧ B j)) (hn : ps_not M 0 E) : A := h.elim (fun q => q.2) (fun ⟨j, hj, hm, _⟩ => absurd hm (hn j (Nat.zero_le _) hj))
theorem li_uni {M : Nat → Prop} {a i j : Nat} (ai : a ≤ i) (aj : a ≤ j) (hi : M i) (hj : M j) (ni : ps_not M a i) (nj : ps_not M a j) : i = j := by
  rcases Nat.lt_trichotomy i j with h | h | h
  · exact absurd hi (nj i ai h)
  · exact h
  · exact absurd hj (ni j aj h)
theorem li_ss {M : Nat → Prop} {E j : Nat} {A : Prop} {B : Nat → Prop} (h : (ps_not M 0 E ∧ A) ∨ (∃ j : Nat, j < E ∧ M j ∧ ps_not M 0 j ∧ B j)) (hj : j < E) (hm : M j) (hn : ps_not M 0 j) : B j := by
  rcases h with ⟨q, -⟩ | ⟨j', hj', hm', hn', b⟩
  · exact absurd hm (q j (Nat.zero_le _) hj)
  · have e := li_uni (Nat.zero_le _) (Nat.zero_le _) hm' hm hn' hn
    subst e
    exact b
theorem li_find (M : Nat → Prop) (a E : Nat) : ps_not M a E ∨ ∃ j, a ≤ j ∧ j < E ∧ M j ∧ ps_not M a j := by
  by_cases h : ∃ j, a ≤ j ∧ j < E ∧ M j
  · obtain ⟨j, ⟨h1, h2, h3⟩, h4⟩ := pk_least (fun j => a ≤ j ∧ j < E ∧ M j) h
    exact Or.inr ⟨j, h1, h2, h3, fun i hi1 hi2 hm => h4 i hi2 ⟨hi1, by omega, hm⟩⟩
  · exact Or.inl (fun i h1 h2 h3 => h ⟨i, h1, h2, h3⟩)
theorem li_xn {M : Nat → Prop} {a E : Nat} {A : Prop} {B : Nat → Prop} (h : (∃ p0 : Nat, a ≤ p0 ∧ p0 < E ∧ M p0 ∧ ps_not M a p0 ∧ B p0) ∨ (ps_not M a E ∧ A)) (hn : ps_not M a E) : A := h.elim (fun ⟨j, h1, h2, h3, _⟩ => absurd h3 (hn j h1 h2)) (fun q => q.2)
theorem li_xs {M : Nat → Prop} {a E j : Nat} {A : Prop} {B : Nat → Prop} (h : (∃ p0 : Nat, a ≤ p0 ∧ p0 < E ∧ M p0 ∧ ps_not M a p0 ∧ B p0) ∨ (ps_not M a E ∧ A)) (ha : a ≤ j) (hj : j < E) (hm : M j) (hn : ps_not M a j) : B j := by
  rcases h with ⟨j', h1, h2, h3, h4, b⟩ | ⟨q, -⟩
  · have e := li_uni h1 ha h3 hm h4 hn
    subst e
    exact b
  · exact absurd hm (q j ha hj)
theorem li_gone {F X : Nat → Nat → Int32} (h : li_V F X) (j : Nat) : F 10 j = -1 ↔ ¬ X 3 j = 0 := by
  rcases (h j).1 with ⟨a, b, c, -⟩ | ⟨a, b, -⟩
  · rw [a, b]; exact ⟨fun q => absurd q c, fun q => absurd rfl q⟩
  · rw [a, b]; exact ⟨fun _ => by decide, fun _ => rfl⟩
theorem li_m2 {F X : Nat → Nat → Int32} (h : li_V F X) (d : Int32) : (fun j => F 7 j = d ∧ X 3 j = 0) = (fun j => F 7 j = d ∧ ¬ F 10 j = -1) := by
  funext j
  apply propext
  rw [li_gone h j]
  exact ⟨fun q => ⟨q.1, fun z => z q.2⟩, fun q => ⟨q.1, Classical.byContradiction q.2⟩⟩
theorem li_c2d {F X : Nat → Nat → Int32} (h : li_V F X) (d : Int32) : (fun j => decide (F 7 j = d ∧ X 3 j = 0)) = (fun j => decide (F 7 j = d ∧ ¬ F 10 j = -1)) := by
  funext j
  have e := congrFun (li_m2 h d) j
  exact decide_eq_decide.mpr (iff_of_eq e)
theorem li_there {F X : Nat → Nat → Int32} (h : li_V F X) {j : Nat} (hg : ¬ F 10 j = -1) : F 10 j = X 1 j ∧ F 11 j = X 2 j := by
  rcases (h j).1 with ⟨a, b, c, d⟩ | ⟨a, b, -⟩
  · exact ⟨b, d⟩
  · exact absurd b hg
theorem li_part {K : Nat → Nat} {S : Nat} {F : Nat → Nat → Int32} {N : Nat → Nat} {T : Nat → Nat → Nat} {X : Nat → Nat → Int32} (h : li_I K S F N T X) {row fr n : Int32} (hr : ¬ 16384 ≤ K 0) (ho : (nI 1 ≤ row ∧ row ≤ nI (K 0)) ∧ ¬ fr < 0 ∧ ¬ n < 0 ∧ fr.toNatClampNeg + n.toNatClampNeg ≤ (F 6 row.toNatClampNeg).toNatClampNeg) :
    li_I (va_up K 0 (K 0 + 1)) S (ps_Fr F (K 0 + 1) (F 4 row.toNatClampNeg) (F 5 row.toNatClampNeg + fr) n) (ps_Nr N (K 0 + 1)) T X := by
  obtain ⟨h1, h2, h3, h4⟩ := ho
  have hA := h.1.1
  have b0 := hA 0
  have b1 := hA 1
  have b2 := hA 2
  obtain ⟨j, hj1, hj2, rfl⟩ := ps_rng (by omega) h1
  obtain ⟨f0, hf, rfl⟩ := nI_of h2
  obtain ⟨n0, hn, rfl⟩ := nI_of h3
  obtain ⟨s, l, e5, e6, hs⟩ := h.2.2.1.1 j hj1 hj2
  rw [nI_clamp (show j < 2 ^ 31 by omega)] at h4 ⊢
  have hl : l < 2 ^ 31 := by rcases hs with q | q <;> omega
  rw [e6, nI_clamp hf, nI_clamp hn, nI_clamp hl] at h4
  rw [e5, nI_add]
  refine li_row h (by omega) ?_
  rcases hs with ⟨q, z⟩ | ⟨q, z⟩
  · exact Or.inl ⟨q, by omega⟩
  · exact Or.inr ⟨q, by omega⟩
theorem li_us {f : Nat → Int32} {j : Nat} : f = upd f j (f j) := by
  funext i
  by_cases h : i = j
  · subst h; rw [pk_us]
  · rw [pk_un h]
theorem li_k15 {kind : Int32} (h : nI 0 ≤ kind ∧ kind ≤ nI 15) : vp_nar .byte kind = kind ∧ ¬ kind = -1 := by
  obtain ⟨k, hk, rfl⟩ := mo_k15 h
  exact ⟨mo_nb (by omega), ps_m1 (by omega)⟩
theorem li_T.t {K : Nat → Nat} {S : Nat} {F : Nat → Nat → Int32} {T : Nat → Nat → Nat} {X : Nat → Nat → Int32} (h : li_T K S F T X) (w : Nat) (hw : w < 6) : T S w ≤ K w ∧ (¬ S = 0 → F 0 ((S - 1) * 6 + w) = nI (T S w)) ∧ (¬ S = 0 → w < 5 → X 4 (5 * S + w) = nI (T S w)) ∧ (¬ S = 0 → X 5 S = nI (T S 5)) := by
  by_cases e : S = 0
  · subst e
    exact ⟨by rw [h.2.2]; exact Nat.zero_le _, fun q => absurd rfl q, fun q => absurd rfl q, fun q => absurd rfl q⟩
  · obtain ⟨q1, q2, q3, q4⟩ := h.1 S (by omega) (Nat.le_refl _)
    exact ⟨(q2 w hw).2, fun _ => (q2 w hw).1, fun _ h5 => q3 w h5, fun _ => q4⟩
