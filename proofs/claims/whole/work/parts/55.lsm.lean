/-! there is one least state -/
theorem pn_uni {n : Int} {wd : Int → Int} {G : (Int → Int) → Int → Int} {P Q : Int → Int} (s1 : pn_St n wd G P) (b1 : pn_Be n wd G P) (s2 : pn_St n wd G Q) (b2 : pn_Be n wd G Q) : ∀ j, 0 ≤ j → j < 4 + n → P j = Q j := by
  intro j a b
  by_cases c : j < 4
  · rw [s1.1 j a c, s2.1 j a c]
  · have h1 := b1.2 Q s2 j ⟨by omega, b⟩
    have h2 := b2.2 P s1 j ⟨by omega, b⟩
    omega
theorem pn_Le_eq {n : Int} {wd : Int → Int} {G : (Int → Int) → Int → Int} {b b' : Int} {P Q : Int → Int} (h : pn_Le n wd G b P) (h' : pn_Le n wd G b' Q) : b = b' ∧ (b = 1 → ∀ j, 0 ≤ j → j < 4 + n → P j = Q j) := by
  rcases h with ⟨rfl, s1, b1⟩ | ⟨rfl, n1⟩ <;> rcases h' with ⟨rfl, s2, b2⟩ | ⟨rfl, n2⟩
  · exact ⟨rfl, fun _ => pn_uni s1 b1 s2 b2⟩
  · exact absurd ⟨P, s1⟩ n2
  · exact absurd ⟨Q, s2⟩ n1
  · exact ⟨rfl, fun h => absurd h (by decide)⟩
def m_has (nf : Nat → Int → Int) (ns : Nat → Int) (da : Int → Int → Int) (S : Nat) : Prop := ∃ Q, pn_St (ns 0) (nf 0) (m_G nf da S) Q
noncomputable def m_ls (nf : Nat → Int → Int) (ns : Nat → Int) (da : Int → Int → Int) (S : Nat) : Int → Int := Classical.epsilon (fun P => pn_St (ns 0) (nf 0) (m_G nf da S) P ∧ pn_Be (ns 0) (nf 0) (m_G nf da S) P)
theorem m_ls_eq {nf : Nat → Int → Int} {ns : Nat → Int} {da : Int → Int → Int} {S : Nat} {P : Int → Int} (s1 : pn_St (ns 0) (nf 0) (m_G nf da S) P) (b1 : pn_Be (ns 0) (nf 0) (m_G nf da S) P) : ∀ j, 0 ≤ j → j < 4 + ns 0 → P j = m_ls nf ns da S j := by
  have h := Classical.epsilon_spec (p := fun P => pn_St (ns 0) (nf 0) (m_G nf da S) P ∧ pn_Be (ns 0) (nf 0) (m_G nf da S) P) ⟨P, s1, b1⟩
  exact pn_uni s1 b1 h.1 h.2
/-- what is joined: two places, both told -/
def pn_Rw (nf : Nat → Int → Int) (ns : Nat → Int) : Prop := ∀ k, ((0 ≤ k ∧ k < ns 1) ∨ (20 ≤ k ∧ k < 20 + ns 2)) → nf 3 k < 4 + ns 0 ∧ nf 4 k < 4 + ns 0 ∧ nf 3 k ≠ nf 4 k
theorem m_drive_cg {nf : Nat → Int → Int} {ns : Nat → Int} {da : Int → Int → Int} {P Q : Int → Int} {k : Int} (hOk : pn_Ok nf ns da) (hw : pn_Rw nf ns) (h0 : 0 ≤ k) (h1 : k < ns 1) (e : ∀ j, 0 ≤ j → j < 4 + ns 0 → P j = Q j) : m_drive nf P k = m_drive nf Q k := by
  obtain ⟨o_zc, o_lc, o_fc, o_ve, o_wi, o_wa, o_vo, o_fr, o_to, -⟩ := hOk
  obtain ⟨w1, w2, -⟩ := hw k (Or.inl ⟨h0, h1⟩)
  have a1 := o_fr k h0 (by omega)
  have a2 := o_to k h0 (by omega)
  unfold m_drive
  rw [e _ a1.1 w1, e _ a2.1 w2]
theorem m_flow_cg {nf : Nat → Int → Int} {ns : Nat → Int} {da : Int → Int → Int} {S : Nat} {P Q : Int → Int} {k : Int} (hOk : pn_Ok nf ns da) (hw : pn_Rw nf ns) (hk : (0 ≤ k ∧ k < ns 1) ∨ (20 ≤ k ∧ k < 20 + ns 2)) (e : ∀ j, 0 ≤ j → j < 4 + ns 0 → P j = Q j) : m_flow nf S P k = m_flow nf S Q k := by
  have hOk2 := hOk
  obtain ⟨o_zc, o_lc, o_fc, o_ve, o_wi, o_wa, o_vo, o_fr, o_to, -⟩ := hOk
  rcases hk with ⟨h0, h1⟩ | ⟨h0, h1⟩
  · unfold m_flow
    rw [if_neg (show ¬ 20 ≤ k by omega), if_neg (show ¬ 20 ≤ k by omega), m_drive_cg hOk2 hw h0 h1 e]
  · obtain ⟨w1, w2, -⟩ := hw k (Or.inr ⟨h0, h1⟩)
    have a1 := o_fr k (by omega) (by omega)
    have a2 := o_to k (by omega) (by omega)
    unfold m_flow
    rw [if_pos h0, if_pos h0, e _ a1.1 w1, e _ a2.1 w2]
theorem m_F_cg {nf : Nat → Int → Int} {ns : Nat → Int} {da : Int → Int → Int} {S : Nat} {P Q : Int → Int} {k : Int} (hOk : pn_Ok nf ns da) (hw : pn_Rw nf ns) (h0 : 0 ≤ k) (e : ∀ j, 0 ≤ j → j < 4 + ns 0 → P j = Q j) : m_F nf ns S P k = m_F nf ns S Q k := by
  unfold m_F
  by_cases c : (k < 20 ∧ k < ns 1) ∨ (20 ≤ k ∧ k - 20 < ns 2)
  · rw [if_pos c, if_pos c, m_flow_cg hOk hw (by omega) e]
  · rw [if_neg c, if_neg c]
theorem m_F_R {nf : Nat → Int → Int} {ns : Nat → Int} {da : Int → Int → Int} {S : Nat} {P : Int → Int} (hOk : pn_Ok nf ns da) (hw : pn_Rw nf ns) : s_R nf (m_F nf ns S P) (ns 0) := by
  intro d a b hF
  obtain ⟨g1, g2⟩ := m_gv_b (m_F nf ns S P) hOk a b
  have hk : (d < 20 ∧ d < ns 1) ∨ (20 ≤ d ∧ d - 20 < ns 2) := Classical.byContradiction (fun q => hF (if_neg q))
  obtain ⟨w1, w2, -⟩ := hw d (by omega)
  refine ⟨⟨g1.1, ?_⟩, ⟨g2.1, ?_⟩⟩
  · unfold m_gv
    by_cases c : m_F nf ns S P d < 0
    · rw [if_pos c]; exact w2
    · rw [if_neg c]; exact w1
  · unfold m_tk
    by_cases c : m_F nf ns S P d < 0
    · rw [if_pos c]; exact w1
    · rw [if_neg c]; exact w2
theorem m_gain_cg {nf : Nat → Int → Int} {ns : Nat → Int} {da : Int → Int → Int} {S : Nat} {P Q : Int → Int} {r : Int} (hOk : pn_Ok nf ns da) (hw : pn_Rw nf ns) (hE : ∀ r t, 0 ≤ r → r < 12 → 0 ≤ t → t < nf 11 r → (0 ≤ da r t ∧ da r t < ns 1) ∨ (20 ≤ da r t ∧ da r t < 20 + ns 2)) (h0 : 0 ≤ r) (h1 : r < 12) (e : ∀ j, 0 ≤ j → j < 4 + ns 0 → P j = Q j) : m_gain nf da S P r = m_gain nf da S Q r := by
  unfold m_gain
  refine m_sum_cg (fun t ht => ?_)
  unfold m_term
  rw [m_flow_cg hOk hw (hE r t h0 h1 (by omega) (by omega)) e]
