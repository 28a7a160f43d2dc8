/-! the making of a state -/
def m_al (n : Int) : Nat := 2 ^ n.toNat - 1
theorem m_al_lt {n : Int} (h : n ≤ 8) : m_al n < 256 := by
  unfold m_al
  have h1 : 2 ^ n.toNat ≤ 2 ^ 8 := Nat.pow_le_pow_right (by decide) (by omega)
  have h2 : (2 : Nat) ^ 8 = 256 := by decide
  have h3 := Nat.two_pow_pos n.toNat
  omega
theorem m_al_bit {n : Int} {z : Nat} (h : (z : Int) < n) : (m_al n).testBit z = true := by
  unfold m_al
  rw [Nat.testBit_two_pow_sub_one]
  exact decide_eq_true (by omega)
theorem m_al_0 {n : Int} (h0 : 0 ≤ n) (h : m_al n = 0) : n = 0 := by
  rcases Int.lt_or_le 0 n with q | q
  · have := m_al_bit (n := n) (z := 0) (by omega)
    rw [h] at this
    simp at this
  · omega
theorem m_al_v (n : Int) : ((2 ^ n.toNat : Nat) : Int) - 1 = ((m_al n : Nat) : Int) := by
  unfold m_al
  have h3 := Nat.two_pow_pos n.toNat
  omega
abbrev m_beg (wd f : Int → Int) : Int → Int := cp wd (fl 12 (-5000) f) ((0 : Nat) : Int) ((0 : Nat) : Int) ((4 : Nat) : Int)
theorem m_beg_s {wd f : Int → Int} {j : Int} (h0 : 0 ≤ j) (h : j < 4) : m_beg wd f j = wd j := by
  unfold m_beg cp
  rw [if_pos (by omega)]
  congr 1
  omega
theorem m_beg_z {wd f : Int → Int} {j : Int} (h0 : 4 ≤ j) (h : j < 12) : m_beg wd f j = -5000 := by
  unfold m_beg cp fl
  rw [if_neg (by omega), if_pos (by omega)]
theorem pn_I_beg {n : Int} {wd f : Int → Int} {G : (Int → Int) → Int → Int} (h00 : 0 ≤ n) (hn : n ≤ 8) (hwd : ∀ j, 0 ≤ j → j < 4 → -1000 ≤ wd j ∧ wd j ≤ 1000) : pn_I n wd G (m_beg wd f) := by
  refine ⟨⟨fun w h0 hw => m_beg_s h0 hw, fun Q hQ z hz => ?_⟩, fun j a b => ?_, fun j a b => ?_⟩
  · rw [m_beg_z hz.1 (by have := hz.2; omega)]
    exact (hQ.2 z hz).1
  · rcases Int.lt_or_le j 4 with q | q
    · rw [m_beg_s a q]
      have := hwd j a q
      omega
    · rw [m_beg_z q b]
      omega
  · rw [m_beg_z (by omega) b]
    omega
theorem m_s8_beg {wd f : Int → Int} : m_s8 (m_beg wd f) = -40000 := by
  unfold m_s8
  rw [m_beg_z (j := 4) (by omega) (by omega), m_beg_z (j := 5) (by omega) (by omega), m_beg_z (j := 6) (by omega) (by omega), m_beg_z (j := 7) (by omega) (by omega), m_beg_z (j := 8) (by omega) (by omega), m_beg_z (j := 9) (by omega) (by omega), m_beg_z (j := 10) (by omega) (by omega), m_beg_z (j := 11) (by omega) (by omega)]
  decide
theorem pn_fin {n : Int} {wd : Int → Int} {G : (Int → Int) → Int → Int} {ro kk : Nat} {Q : Int → Int} (hn8 : n ≤ 8) (hex : (80009 : Int) ≤ (kk : Int) ∨ (ro : Int) = 0 ∨ m_past Q) (q2 : pn_I n wd G Q) (q4 : ro = 0 → pn_no n G (m_al n) 8 Q) (q5 : ro ≠ 0 → (kk : Int) ≤ m_s8 Q + 40000) (hp : ¬ m_past Q) : pn_St n wd G Q ∧ pn_Be n wd G Q := by
  have h1 := m_s8_past hp
  have h0 : ro = 0 := by
    rcases hex with h | h | h
    · rcases Nat.eq_zero_or_pos ro with z | z
      · exact z
      · have := q5 (by omega)
        omega
    · omega
    · exact absurd h hp
  exact ⟨pn_end_yes hn8 q2 hp (q4 h0) (fun z _ hz => m_al_bit hz), q2.1⟩
/-- b says whether there is a state; if so P is the least -/
def pn_Le (n : Int) (wd : Int → Int) (G : (Int → Int) → Int → Int) (b : Int) (P : Int → Int) : Prop := (b = 1 ∧ pn_St n wd G P ∧ pn_Be n wd G P) ∨ (b = 0 ∧ ¬ ∃ Q, pn_St n wd G Q)
