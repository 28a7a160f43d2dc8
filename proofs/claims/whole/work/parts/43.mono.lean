/-! gains fall where differences grow -/
theorem m_root_mono {A d e : Int} (hA : 0 ≤ A) (h : d ≤ e) : m_root A d ≤ m_root A e := by
  unfold m_root
  have h1 : A * A * d ≤ A * A * e := Int.mul_le_mul_of_nonneg_left h (Int.mul_nonneg hA hA)
  have h2 := pn_sq_mono (a := (A * A * d).toNat) (b := (A * A * e).toNat) (by omega)
  omega
theorem m_root_nn (A d : Int) : 0 ≤ m_root A d := by
  unfold m_root
  omega
theorem m_leak_mono {A K d e : Int} (hA : 0 ≤ A) (h : d ≤ e) : m_leak A K d ≤ m_leak A K e := by
  unfold m_leak
  by_cases k : K = 1
  · rw [if_pos k, if_pos k]
    exact Int.mul_le_mul_of_nonneg_left h hA
  · rw [if_neg k, if_neg k]
    have a1 := m_root_nn A d
    have a2 := m_root_nn A e
    have a3 := m_root_nn A (-d)
    have a4 := m_root_nn A (-e)
    by_cases c1 : d < 0
    · rw [if_pos c1]
      by_cases c2 : e < 0
      · rw [if_pos c2]
        have := m_root_mono (A := A) (d := -e) (e := -d) hA (by omega)
        omega
      · rw [if_neg c2]; omega
    · rw [if_neg c1, if_neg (by omega)]
      exact m_root_mono hA h
theorem m_blow_mono {F S u v : Int} (hS : 0 ≤ S) (h : u ≤ v) : m_blow F S v ≤ m_blow F S u := by
  unfold m_blow
  have h1 : S * u ≤ S * v := Int.mul_le_mul_of_nonneg_left h hS
  omega
theorem m_flow_mono {nf : Nat → Int → Int} {ns : Nat → Int} {da : Int → Int → Int} {S : Nat} {P Q : Int → Int} {d : Int} (hOk : pn_Ok nf ns da) (h0 : 0 ≤ d) (h1 : d < 24) (h : P (nf 3 d) - P (nf 4 d) ≤ Q (nf 3 d) - Q (nf 4 d)) : m_flow nf S P d ≤ m_flow nf S Q d := by
  obtain ⟨o_zc, o_lc, o_fc, o_ve, o_wi, o_wa, o_vo, o_fr, o_to, o_he, o_ar, o_ki, o_st, o_ff, o_sl, o_dc, o_da⟩ := hOk
  unfold m_flow
  by_cases c : 20 ≤ d
  · rw [if_pos c, if_pos c]
    exact m_blow_mono (o_sl (d - 20) (by omega) (by omega)).1 (by omega)
  · rw [if_neg c, if_neg c]
    by_cases b : S.testBit d.toNat = true
    · rw [if_pos b, if_pos b]; exact Int.le_refl _
    · rw [if_neg b, if_neg b]
      refine m_leak_mono (o_ar d h0 (by omega)).1 ?_
      unfold m_drive
      omega
theorem m_sum_le {f g : Int → Int} {n : Nat} (h : ∀ t : Nat, t < n → f t ≤ g t) : m_sum f n ≤ m_sum g n := by
  induction n with
  | zero => exact Int.le_refl _
  | succ n ih =>
    have h1 := ih (fun t ht => h t (by omega))
    have h2 := h n (by omega)
    show m_sum f n + f n ≤ m_sum g n + g n
    omega
/-- the ducts that are noted at a zone's row end there, and lie between places that there are -/
def pn_Tch (nf : Nat → Int → Int) (ns : Nat → Int) (da : Int → Int → Int) : Prop := ∀ r, 4 ≤ r → r < 12 → ∀ t, 0 ≤ t → t < nf 11 r → (nf 4 (da r t) = r ∨ nf 3 (da r t) = r) ∧ nf 3 (da r t) < 4 + ns 0 ∧ nf 4 (da r t) < 4 + ns 0
theorem m_G_mono {nf : Nat → Int → Int} {ns : Nat → Int} {da : Int → Int → Int} {S : Nat} (hOk : pn_Ok nf ns da) (hT : pn_Tch nf ns da) : pn_Mono (ns 0) (m_G nf da S) := by
  intro P Q z hz h
  have hOk2 := hOk
  obtain ⟨o_zc, o_lc, o_fc, o_ve, o_wi, o_wa, o_vo, o_fr, o_to, o_he, o_ar, o_ki, o_st, o_ff, o_sl, o_dc, o_da⟩ := hOk
  obtain ⟨z1, z2⟩ := hz
  have a1 := o_dc z (by omega) (by omega)
  show m_gain nf da S Q z ≤ m_gain nf da S P z
  unfold m_gain
  refine m_sum_le (fun t ht => ?_)
  have b1 := o_da z t (by omega) (by omega) (by omega) (by omega)
  obtain ⟨c1, c2, c3⟩ := hT z z1 (by omega) t (by omega) (by omega)
  have d1 := o_fr (da z t) b1.1 (by omega)
  have d2 := o_to (da z t) b1.1 (by omega)
  show m_term nf S Q z (da z t) ≤ m_term nf S P z (da z t)
  unfold m_term
  by_cases e : nf 4 (da z t) = z
  · rw [if_pos e, if_pos e]
    refine m_flow_mono hOk2 b1.1 (by omega) ?_
    have := h (nf 3 (da z t)) d1.1 c2
    rw [e]
    omega
  · rw [if_neg e, if_neg e]
    have e3 : nf 3 (da z t) = z := by omega
    have h9 := m_flow_mono (S := S) (P := P) (Q := Q) (d := da z t) hOk2 b1.1 (by omega) (by
      have := h (nf 4 (da z t)) d2.1 c3
      rw [e3]
      omega)
    omega
/-- the least state is one -/
theorem pn_Le_one {n : Int} {wd : Int → Int} {G : (Int → Int) → Int → Int} {b b' : Int} {P P' : Int → Int} (h : pn_Le n wd G b P) (h' : pn_Le n wd G b' P') : b = b' ∧ (b = 1 → ∀ z, pn_zone n z → P z = P' z) := by
  rcases h with ⟨h1, h2, h3⟩ | ⟨h1, h2⟩
  · rcases h' with ⟨g1, g2, g3⟩ | ⟨g1, g2⟩
    · exact ⟨by omega, fun _ z hz => Int.le_antisymm (h3.2 P' g2 z hz) (g3.2 P h2 z hz)⟩
    · exact absurd ⟨P, h2⟩ g2
  · rcases h' with ⟨g1, g2, g3⟩ | ⟨g1, g2⟩
    · exact absurd ⟨P', g2⟩ h2
    · exact ⟨by omega, fun q => by omega⟩
