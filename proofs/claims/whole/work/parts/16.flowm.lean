theorem mul_b {x y X Y : Int} (h1 : -X ≤ x) (h2 : x ≤ X) (h3 : -Y ≤ y) (h4 : y ≤ Y) : -(X * Y) ≤ x * y ∧ x * y ≤ X * Y := by
  have hX : 0 ≤ X := by omega
  have hY : 0 ≤ Y := by omega
  have k1 : 0 ≤ (X - x) * (Y + y) := Int.mul_nonneg (by omega) (by omega)
  have k2 : 0 ≤ (X + x) * (Y - y) := Int.mul_nonneg (by omega) (by omega)
  have k3 : 0 ≤ (X - x) * (Y - y) := Int.mul_nonneg (by omega) (by omega)
  have k4 : 0 ≤ (X + x) * (Y + y) := Int.mul_nonneg (by omega) (by omega)
  simp only [Int.sub_mul, Int.add_mul, Int.mul_sub, Int.mul_add] at k1 k2 k3 k4
  omega
theorem iI_min {A B : Int} (hA : i3 A) (hB : i3 B) : (if iI B < iI A then iI B else iI A) = iI (min A B) := by
  by_cases h : B < A
  · rw [if_pos ((iI_lt hB hA).mpr h), Int.min_eq_right (by omega)]
  · rw [if_neg (fun q => h ((iI_lt hB hA).mp q)), Int.min_eq_left (by omega)]
theorem iI_max {A B : Int} (hA : i3 A) (hB : i3 B) : (if iI A < iI B then iI B else iI A) = iI (max A B) := by
  by_cases h : A < B
  · rw [if_pos ((iI_lt hA hB).mpr h), Int.max_eq_right (by omega)]
  · rw [if_neg (fun q => h ((iI_lt hA hB).mp q)), Int.max_eq_left (by omega)]
theorem m_drive_b {nf : Nat → Int → Int} {ns : Nat → Int} {da : Int → Int → Int} {P : Int → Int} {j : Int} (hOk : pn_Ok nf ns da) (hPr : pn_Pr P) (h0 : 0 ≤ j) (h1 : j < 20) : -27000 ≤ m_drive nf P j ∧ m_drive nf P j ≤ 27000 := by
  obtain ⟨o_zc, o_lc, o_fc, o_ve, o_wi, o_wa, o_vo, o_fr, o_to, o_he, o_ar, o_ki, o_st, o_ff, o_sl, o_dc, o_da⟩ := hOk
  have a1 := o_fr j h0 (by omega)
  have a2 := o_to j h0 (by omega)
  have a3 := o_st j h0 h1
  have a4 := hPr (nf 3 j) a1.1 (by omega)
  have a5 := hPr (nf 4 j) a2.1 (by omega)
  unfold m_drive
  omega
theorem m_root_b {A d : Int} (hA : 0 ≤ A ∧ A ≤ 1000) (hd : d ≤ 30000) : 0 ≤ m_root A d ∧ m_root A d ≤ 400000 := by
  by_cases h : d ≤ 0
  · rw [m_root_0 A h]; omega
  · have h2 := pn_aad hA ⟨by omega, hd⟩
    unfold m_root
    have h3 : pn_sq (A * A * d).toNat ≤ 400000 := pn_sq_of_lt (by omega)
    omega
theorem m_leak_b {A K d : Int} (hA : 0 ≤ A ∧ A ≤ 1000) (hd : -27000 ≤ d ∧ d ≤ 27000) : -27000000 ≤ m_leak A K d ∧ m_leak A K d ≤ 27000000 := by
  unfold m_leak
  have h1 := mul_b (x := A) (y := d) (X := 1000) (Y := 27000) (by omega) (by omega) hd.1 hd.2
  have h2 := m_root_b (A := A) (d := d) hA (by omega)
  have h3 := m_root_b (A := A) (d := -d) hA (by omega)
  by_cases k : K = 1
  · rw [if_pos k]; omega
  · rw [if_neg k]
    by_cases q : d < 0
    · rw [if_pos q]; omega
    · rw [if_neg q]; omega
theorem m_blow_b {F S u : Int} (hF : 0 ≤ F ∧ F ≤ 10000) : 0 ≤ m_blow F S u ∧ m_blow F S u ≤ 20000 := by
  unfold m_blow
  omega
theorem m_flow_b {nf : Nat → Int → Int} {ns : Nat → Int} {da : Int → Int → Int} {S : Nat} {P : Int → Int} {d : Int} (hOk : pn_Ok nf ns da) (hPr : pn_Pr P) (h0 : 0 ≤ d) (h1 : d < 24) : -27000000 ≤ m_flow nf S P d ∧ m_flow nf S P d ≤ 27000000 := by
  have hOk2 := hOk
  obtain ⟨o_zc, o_lc, o_fc, o_ve, o_wi, o_wa, o_vo, o_fr, o_to, o_he, o_ar, o_ki, o_st, o_ff, o_sl, o_dc, o_da⟩ := hOk
  unfold m_flow
  by_cases h : 20 ≤ d
  · rw [if_pos h]
    have := m_blow_b (F := nf 9 (d - 20)) (S := nf 10 (d - 20)) (u := P (nf 4 d) - P (nf 3 d)) (o_ff _ (by omega) (by omega))
    omega
  · rw [if_neg h]
    by_cases b : S.testBit d.toNat = true
    · rw [if_pos b]; omega
    · rw [if_neg b]
      exact m_leak_b (o_ar d h0 (by omega)) (m_drive_b hOk2 hPr h0 (by omega))
theorem m_flow_fan {nf : Nat → Int → Int} {S : Nat} {P : Int → Int} {d : Int} (h : 20 ≤ d) : m_flow nf S P d = max 0 (min (nf 9 (d - 20) - nf 10 (d - 20) * (P (nf 4 d) - P (nf 3 d))) (2 * nf 9 (d - 20))) := if_pos h
theorem m_flow_shut {nf : Nat → Int → Int} {S : Nat} {P : Int → Int} {d : Int} (h : d < 20) (b : S.testBit d.toNat = true) : m_flow nf S P d = 0 := by
  unfold m_flow; rw [if_neg (by omega), if_pos b]
theorem m_flow_one {nf : Nat → Int → Int} {S : Nat} {P : Int → Int} {d : Int} (h : d < 20) (b : ¬ S.testBit d.toNat = true) (k : nf 7 d = 1) : m_flow nf S P d = nf 6 d * m_drive nf P d := by
  unfold m_flow m_leak; rw [if_neg (by omega), if_neg b, if_pos k]
theorem m_flow_neg {nf : Nat → Int → Int} {S : Nat} {P : Int → Int} {d : Int} (h : d < 20) (b : ¬ S.testBit d.toNat = true) (k : nf 7 d ≠ 1) (q : m_drive nf P d < 0) : m_flow nf S P d = -(m_root (nf 6 d) (-(m_drive nf P d))) := by
  unfold m_flow m_leak; rw [if_neg (by omega), if_neg b, if_neg k, if_pos q]
theorem m_flow_pos {nf : Nat → Int → Int} {S : Nat} {P : Int → Int} {d : Int} (h : d < 20) (b : ¬ S.testBit d.toNat = true) (k : nf 7 d ≠ 1) (q : 0 ≤ m_drive nf P d) : m_flow nf S P d = m_root (nf 6 d) (m_drive nf P d) := by
  unfold m_flow m_leak; rw [if_neg (by omega), if_neg b, if_neg k, if_neg (by omega)]
