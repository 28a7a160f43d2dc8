/-! lifts -/
def pn_P5 (P : Int → Int) : Prop := ∀ j, 0 ≤ j → j < 12 → -5000 ≤ P j ∧ P j ≤ 5001
theorem pn_P5.pr {P : Int → Int} (h : pn_P5 P) : pn_Pr P := fun j a b => by have := h j a b; omega
def m_S (n : Int) (am : Nat) : Int → Bool := fun w => decide (4 ≤ w) && decide (w < 4 + n) && am.testBit (w - 4).toNat
theorem m_S_iff {n : Int} {am : Nat} {w : Int} : m_S n am w = true ↔ 4 ≤ w ∧ w < 4 + n ∧ am.testBit (w - 4).toNat = true := by
  unfold m_S
  simp [Bool.and_eq_true, and_assoc]
abbrev m_lift (n : Int) (am lf : Nat) (P : Int → Int) : Int → Int := pn_lift (m_S n am) (lf : Int) P
theorem m_lift_0 (am lf : Nat) (P : Int → Int) : m_lift 0 am lf P = P := by
  funext w
  unfold m_lift pn_lift
  exact if_neg (fun h => by have := m_S_iff.mp h; omega)
theorem m_lift_t {n am lf : Nat} {P : Int → Int} (h : am.testBit n = true) : pu (m_lift n am lf P) (rw4 n) (m_lift n am lf P (rw4 n) + lf) = m_lift ((n + 1 : Nat) : Int) am lf P := by
  funext w
  have e0 : rw4 n = (n : Int) + 4 := by show ((n + 4 : Nat) : Int) = _; omega
  unfold pu
  by_cases e : w = rw4 n
  · rw [if_pos e, e]
    unfold m_lift pn_lift
    rw [if_neg (fun q => by have := m_S_iff.mp q; omega), if_pos (m_S_iff.mpr ⟨by omega, by omega, by rw [show (rw4 n - 4).toNat = n by omega]; exact h⟩)]
  · rw [if_neg e]
    unfold m_lift pn_lift
    by_cases q : m_S (n : Int) am w = true
    · have h2 := m_S_iff.mp q
      rw [if_pos q, if_pos (m_S_iff.mpr ⟨h2.1, by omega, h2.2.2⟩)]
    · rw [if_neg q, if_neg (fun q2 => q (by have h2 := m_S_iff.mp q2; exact m_S_iff.mpr ⟨h2.1, by omega, h2.2.2⟩))]
theorem m_lift_f {n am lf : Nat} {P : Int → Int} (h : ¬ am.testBit n = true) : m_lift n am lf P = m_lift ((n + 1 : Nat) : Int) am lf P := by
  funext w
  unfold m_lift pn_lift
  by_cases q : m_S (n : Int) am w = true
  · have h2 := m_S_iff.mp q
    rw [if_pos q, if_pos (m_S_iff.mpr ⟨h2.1, by omega, h2.2.2⟩)]
  · rw [if_neg q, if_neg (fun q2 => by
      have h2 := m_S_iff.mp q2
      by_cases e : w = (n : Int) + 4
      · rw [show (w - 4).toNat = n by omega] at h2; exact h h2.2.2
      · exact q (m_S_iff.mpr ⟨h2.1, by omega, h2.2.2⟩))]
theorem m_lift_pr {n : Int} {am lf : Nat} {P : Int → Int} (h : pn_P5 P) (hl : lf ≤ 10000) : pn_Pr (m_lift n am lf P) := by
  intro j a b
  have h1 := h j a b
  unfold m_lift pn_lift
  by_cases q : m_S n am j = true
  · rw [if_pos q]; omega
  · rw [if_neg q]; omega
theorem m_lift_ge {n : Int} {am lf : Nat} {P : Int → Int} (j : Int) : P j ≤ m_lift n am lf P j := by
  unfold m_lift pn_lift
  by_cases q : m_S n am j = true
  · rw [if_pos q]; omega
  · rw [if_neg q]; omega
theorem m_lift_off {n : Int} {am lf : Nat} {P : Int → Int} {j : Int} (h : j < 4 ∨ 4 + n ≤ j) : m_lift n am lf P j = P j := by
  unfold m_lift pn_lift
  exact if_neg (fun q => by have := m_S_iff.mp q; omega)
theorem pn_Re.mono2 {n : Int} {G : (Int → Int) → Int → Int} {S S' : Int → Prop} {P P' : Int → Int} (h : pn_Re n G S P P') (hS : ∀ z, pn_zone n z → S z → S' z) : pn_Re n G S' P P' :=
  fun I h0 hs => h I h0 (fun Q z v hQ hz hS0 hv hg => hs Q z v hQ hz (hS z hz hS0) hv hg)
def m_s8 (P : Int → Int) : Int := P 4 + P 5 + P 6 + P 7 + P 8 + P 9 + P 10 + P 11
theorem m_s8_le {P Q : Int → Int} (h : ∀ w, P w ≤ Q w) : m_s8 P ≤ m_s8 Q := by
  unfold m_s8
  have h4 := h 4
  have h5 := h 5
  have h6 := h 6
  have h7 := h 7
  have h8 := h 8
  have h9 := h 9
  have h10 := h 10
  have h11 := h 11
  omega
theorem m_s8_lt {P Q : Int → Int} (h : ∀ w, P w ≤ Q w) {t : Int} (h1 : 4 ≤ t) (h2 : t < 12) (hlt : P t < Q t) : m_s8 P < m_s8 Q := by
  unfold m_s8
  have h4 := h 4
  have h5 := h 5
  have h6 := h 6
  have h7 := h 7
  have h8 := h 8
  have h9 := h 9
  have h10 := h 10
  have h11 := h 11
  have h3 : t = 4 ∨ t = 5 ∨ t = 6 ∨ t = 7 ∨ t = 8 ∨ t = 9 ∨ t = 10 ∨ t = 11 := by omega
  rcases h3 with rfl | rfl | rfl | rfl | rfl | rfl | rfl | rfl <;> omega
theorem m_s8_past {P : Int → Int} (h : ¬ m_past P) : m_s8 P ≤ 40000 := by
  unfold m_s8
  have h4 := m_past_le h (j := 4) (by omega) (by omega)
  have h5 := m_past_le h (j := 5) (by omega) (by omega)
  have h6 := m_past_le h (j := 6) (by omega) (by omega)
  have h7 := m_past_le h (j := 7) (by omega) (by omega)
  have h8 := m_past_le h (j := 8) (by omega) (by omega)
  have h9 := m_past_le h (j := 9) (by omega) (by omega)
  have h10 := m_past_le h (j := 10) (by omega) (by omega)
  have h11 := m_past_le h (j := 11) (by omega) (by omega)
  omega
/-- what the making of a state keeps -/
def pn_I (n : Int) (wd : Int → Int) (G : (Int → Int) → Int → Int) (P : Int → Int) : Prop := pn_Be n wd G P ∧ pn_P5 P ∧ ∀ j, 4 + n ≤ j → j < 12 → P j ≤ 5000
theorem pn_I_bout {n : Int} {wd : Int → Int} {G : (Int → Int) → Int → Int} {am ro : Nat} {P Q : Int → Int} (hM : pn_Mono n G) (hn : 0 ≤ n) (h : pn_I n wd G P) (hB : pn_Bo n G am ro P Q) : pn_I n wd G Q ∧ m_s8 P ≤ m_s8 Q ∧ (ro ≠ 0 → m_s8 P < m_s8 Q) := by
  obtain ⟨h1, h2, h3⟩ := h
  have hg := hB.1.ge
  refine ⟨⟨hB.1.be hM h1, fun j a b => ?_, fun j a b => ?_⟩, m_s8_le hg, fun h0 => ?_⟩
  · have q1 := h2 j a b
    have q2 := hg j
    have q3 := hB.2.2.1 j
    omega
  · rw [hB.1.off j (fun q => by have := q.1.2; omega)]
    exact h3 j a b
  · rcases Classical.em (∃ z : Nat, z < 8 ∧ ro.testBit z = true) with ⟨z, hz, hb⟩ | hno
    · refine m_s8_lt hg (t := rw4 z) (by show 4 ≤ ((z + 4 : Nat) : Int); omega) (by show ((z + 4 : Nat) : Int) < 12; omega) ((hB.2.1 z hz).mp hb)
    · exact absurd (pn_tb0 (am := ro) (fun z hz => by
        cases hb : ro.testBit z
        · rfl
        · exact absurd ⟨z, hz, hb⟩ hno) hB.2.2.2) h0
theorem pn_I_lift {n : Int} {wd : Int → Int} {G : (Int → Int) → Int → Int} {am lf : Nat} {P Q : Int → Int} (hM : pn_Mono n G) (hn : 0 ≤ n) (hn8 : n ≤ 8) (h : pn_I n wd G P) (hnp : ¬ m_past (m_lift n am lf P)) (hB : pn_Bo n G am am (m_lift n am lf P) Q) : pn_I n wd G Q ∧ m_s8 P ≤ m_s8 Q := by
  obtain ⟨h1, h2, h3⟩ := h
  have hg := hB.1.ge
  have hge : ∀ w, P w ≤ Q w := fun w => Int.le_trans (m_lift_ge (n := n) (am := am) (lf := lf) w) (hg w)
  have hRe : pn_Re n G (fun w => m_S n am w = true) (m_lift n am lf P) Q := hB.1.mono2 (fun w hz ⟨z, hz8, e, hb⟩ => m_S_iff.mpr ⟨hz.1, hz.2, by rw [e, show (rw4 z - 4).toNat = z by show (((z + 4 : Nat) : Int) - 4).toNat = z; omega]; exact hb⟩)
  refine ⟨⟨?_, fun j a b => ?_, fun j a b => ?_⟩, m_s8_le hge⟩
  · refine pn_lifts hM (S := m_S n am) (fun w hw => by have := m_S_iff.mp hw; exact ⟨this.1, this.2.1⟩) (k := lf) h1 hRe (fun w hw => ?_)
    have hw2 := m_S_iff.mp hw
    have e : w = rw4 (w - 4).toNat := by show w = (((w - 4).toNat + 4 : Nat) : Int); omega
    have h5 := (hB.2.1 (w - 4).toNat (by omega)).mp hw2.2.2
    rw [← e] at h5
    exact h5
  · have q1 := h2 j a b
    have q2 := hge j
    have q3 := hB.2.2.1 j
    rcases Int.lt_or_le j 4 with z | z
    · rw [m_lift_off (Or.inl z)] at q3
      omega
    · have := m_past_le hnp z b
      omega
  · rw [hB.1.off j (fun q => by have := q.1.2; omega), m_lift_off (Or.inr a)]
    exact h3 j a b
theorem pn_end_no {n : Int} {wd : Int → Int} {G : (Int → Int) → Int → Int} {P : Int → Int} (h : pn_I n wd G P) (hp : m_past P) : ¬ ∃ Q, pn_St n wd G Q := by
  rintro ⟨Q, hQ⟩
  obtain ⟨h1, h2, h3⟩ := h
  refine absurd hp (m_past_no (fun j a b => ?_))
  rcases Int.lt_or_le j (4 + n) with z | z
  · have := h1.2 Q hQ j ⟨a, z⟩
    have := (hQ.2 j ⟨a, z⟩).2.1
    omega
  · exact h3 j z b
theorem pn_end_yes {n : Int} {wd : Int → Int} {G : (Int → Int) → Int → Int} {am : Nat} {P : Int → Int} (hn8 : n ≤ 8) (h : pn_I n wd G P) (hp : ¬ m_past P) (hno : pn_no n G am 8 P) (hall : ∀ z : Nat, z < 8 → (z : Int) < n → am.testBit z = true) : pn_St n wd G P := by
  obtain ⟨h1, h2, h3⟩ := h
  refine ⟨h1.1, fun z hz => ?_⟩
  obtain ⟨a, b⟩ := hz
  have e : z = rw4 (z - 4).toNat := by show z = (((z - 4).toNat + 4 : Nat) : Int); omega
  have q := hno (z - 4).toNat (by omega) (by omega) (by omega) (hall _ (by omega) (by omega))
  rw [← e] at q
  have q1 := h2 z (by omega) (by omega)
  have q2 := m_past_le hp a (by omega)
  exact ⟨q1.1, q2, by omega⟩
theorem pn_cpback {P Q be : Int → Int} (h : ∀ j, ¬ (0 ≤ j ∧ j < 12) → Q j = P j) : cp (cp P be ((0 : Nat) : Int) ((0 : Nat) : Int) ((12 : Nat) : Int)) Q ((0 : Nat) : Int) ((0 : Nat) : Int) ((12 : Nat) : Int) = P := by
  funext j
  unfold cp
  by_cases c : (((0 : Nat) : Int) ≤ j ∧ j < ((0 : Nat) : Int) + ((12 : Nat) : Int))
  · rw [if_pos c, if_pos (by omega)]
    congr 1
    omega
  · rw [if_neg c]
    exact h j (by omega)
