/-! bouts -/
def m_past (P : Int → Int) : Prop := 5000 < P 4 ∨ 5000 < P 5 ∨ 5000 < P 6 ∨ 5000 < P 7 ∨ 5000 < P 8 ∨ 5000 < P 9 ∨ 5000 < P 10 ∨ 5000 < P 11
theorem m_past_dec (P : Int → Int) : Nonempty (Decidable (m_past P)) := ⟨Classical.propDecidable _⟩
noncomputable def m_pb (P : Int → Int) : Int := @b2 (m_past P) (Classical.propDecidable _)
theorem m_pb_t {P : Int → Int} (h : m_past P) : m_pb P = 1 := by unfold m_pb b2; exact if_pos h
theorem m_pb_f {P : Int → Int} (h : ¬ m_past P) : m_pb P = 0 := by unfold m_pb b2; exact if_neg h
theorem m_pb_01 (P : Int → Int) : m_pb P = 0 ∨ m_pb P = 1 := by
  by_cases h : m_past P
  · exact Or.inr (m_pb_t h)
  · exact Or.inl (m_pb_f h)
theorem m_pb_0 {P : Int → Int} (h : m_pb P = 0) : ¬ m_past P := fun q => by rw [m_pb_t q] at h; cases h
theorem m_pb_1 {P : Int → Int} (h : m_pb P ≠ 0) : m_past P := Classical.byContradiction fun q => h (m_pb_f q)
theorem m_past_of {P : Int → Int} {t : Int} (h1 : 4 ≤ t) (h2 : t < 12) (h : 5000 < P t) : m_past P := by
  unfold m_past
  have h3 : t = 4 ∨ t = 5 ∨ t = 6 ∨ t = 7 ∨ t = 8 ∨ t = 9 ∨ t = 10 ∨ t = 11 := by omega
  rcases h3 with rfl | rfl | rfl | rfl | rfl | rfl | rfl | rfl <;> omega
theorem m_past_no {P : Int → Int} (h : ∀ j : Int, 4 ≤ j → j < 12 → P j ≤ 5000) : ¬ m_past P := by
  unfold m_past
  have h4 := h 4 (by omega) (by omega)
  have h5 := h 5 (by omega) (by omega)
  have h6 := h 6 (by omega) (by omega)
  have h7 := h 7 (by omega) (by omega)
  have h8 := h 8 (by omega) (by omega)
  have h9 := h 9 (by omega) (by omega)
  have h10 := h 10 (by omega) (by omega)
  have h11 := h 11 (by omega) (by omega)
  omega
theorem m_past_le {P : Int → Int} (h : ¬ m_past P) {j : Int} (h1 : 4 ≤ j) (h2 : j < 12) : P j ≤ 5000 := by
  rcases Int.lt_or_le 5000 (P j) with q | q
  · exact absurd (m_past_of h1 h2 q) h
  · exact q
abbrev m_G (nf : Nat → Int → Int) (da : Int → Int → Int) (S : Nat) : (Int → Int) → Int → Int := fun P r => m_gain nf da S P r
abbrev rw4 (z : Nat) : Int := ((z + 4 : Nat) : Int)
def pn_in (am : Nat) (w : Int) : Prop := ∃ z : Nat, z < 8 ∧ w = rw4 z ∧ am.testBit z = true
def pn_Bo (n : Int) (G : (Int → Int) → Int → Int) (am ro : Nat) (P P' : Int → Int) : Prop :=
  pn_Re n G (pn_in am) P P' ∧ (∀ z : Nat, z < 8 → (ro.testBit z = true ↔ P (rw4 z) < P' (rw4 z))) ∧ (∀ j : Int, P' j ≤ P j ∨ P' j ≤ 5001) ∧ ro < 256
theorem pn_Bo_0 {n : Int} {G : (Int → Int) → Int → Int} {am : Nat} {P : Int → Int} : pn_Bo n G am 0 P P := ⟨pn_Re.rf, fun z _ => by simp, fun j => Or.inl (Int.le_refl _), by decide⟩
theorem pn_or_lt {ro z : Nat} (h : ro < 256) (hz : z < 8) : ro ||| 2 ^ z < 256 := by
  have h1 : 2 ^ z < 2 ^ 8 := Nat.pow_lt_pow_right (by omega) hz
  exact Nat.or_lt_two_pow (n := 8) h h1
theorem pn_Bo_step {n : Int} {G : (Int → Int) → Int → Int} {am ro z : Nat} {P Q : Int → Int} {v : Int} (h : pn_Bo n G am ro P Q) (hb : am.testBit z = true) (hz : z < 8) (hn : (z : Int) < n) (h1 : Q (rw4 z) < v) (h2 : v ≤ 5001) (h3 : 0 < G (pu Q (rw4 z) (v - 1)) (rw4 z)) : pn_Bo n G am (ro ||| 2 ^ z) P (pu Q (rw4 z) v) := by
  obtain ⟨a1, a2, a3, a4⟩ := h
  refine ⟨a1.step (z := rw4 z) (v := v) ⟨by show 4 ≤ ((z + 4 : Nat) : Int); omega, by show ((z + 4 : Nat) : Int) < 4 + n; omega⟩ ⟨z, hz, rfl, hb⟩ h1 h3, fun y hy => ?_, fun j => ?_, pn_or_lt a4 hz⟩
  · rw [Nat.testBit_or, Nat.testBit_two_pow]
    by_cases e : z = y
    · subst e
      rw [pu_s]
      have h5 := a1.ge (rw4 z)
      exact ⟨fun _ => Int.lt_of_le_of_lt h5 h1, fun _ => by simp⟩
    · have e2 : rw4 y ≠ rw4 z := by show ((y + 4 : Nat) : Int) ≠ ((z + 4 : Nat) : Int); omega
      rw [pu_n _ _ e2]
      rw [decide_eq_false e, Bool.or_false]
      exact a2 y hy
  · by_cases e : j = rw4 z
    · subst e; rw [pu_s]; exact Or.inr h2
    · rw [pu_n _ _ e]; exact a3 j
theorem pn_Bo_pr {n : Int} {G : (Int → Int) → Int → Int} {am ro : Nat} {P Q : Int → Int} (h : pn_Bo n G am ro P Q) (hp : pn_Pr P) : pn_Pr Q := by
  intro j a b
  have h1 := hp j a b
  have h2 := h.1.ge j
  have h3 := h.2.2.1 j
  omega
/-- none of the zones of am (below lim) would rise -/
def pn_no (n : Int) (G : (Int → Int) → Int → Int) (am : Nat) (lim : Nat) (P : Int → Int) : Prop := ∀ z : Nat, z < lim → z < 8 → (z : Int) < n → am.testBit z = true → 5000 < P (rw4 z) ∨ G P (rw4 z) ≤ 0
theorem pn_no_0 {n : Int} {G : (Int → Int) → Int → Int} {am : Nat} {P : Int → Int} : pn_no n G am 0 P := fun z h => absurd h (Nat.not_lt_zero _)
theorem pn_no_s {n : Int} {G : (Int → Int) → Int → Int} {am z : Nat} {P : Int → Int} (h : pn_no n G am z P) (h2 : am.testBit z = true → 5000 < P (rw4 z) ∨ G P (rw4 z) ≤ 0) : pn_no n G am (z + 1) P := by
  intro y hy h8 hn hb
  rcases Nat.lt_or_ge y z with q | q
  · exact h y q h8 hn hb
  · have : y = z := by omega
    subst this
    exact h2 hb
theorem iI_sh1 {ro z : Nat} (hz : z < 8) : iI ((ro : Nat) : Int) ||| (iI 1 <<< (iI ((z : Nat) : Int) &&& 31)) = iI ((ro ||| 2 ^ z : Nat) : Int) := by
  rw [nb_sh (by omega), iI_or]
theorem pn_or_ne {ro z : Nat} : ro ||| 2 ^ z ≠ 0 := by
  intro h
  have : (ro ||| 2 ^ z).testBit z = true := by rw [Nat.testBit_or, Nat.testBit_two_pow]; simp
  rw [h] at this
  simp at this
theorem pn_tb0 {am : Nat} (h : ∀ z : Nat, z < 8 → am.testBit z = false) (h2 : am < 256) : am = 0 := by
  apply Nat.eq_of_testBit_eq
  intro i
  rw [Nat.zero_testBit]
  rcases Nat.lt_or_ge i 8 with q | q
  · exact h i q
  · exact Nat.testBit_lt_two_pow (Nat.lt_of_lt_of_le h2 (Nat.le_trans (by decide : 256 ≤ 2 ^ 8) (Nat.pow_le_pow_right (by decide) q)))
theorem pn_q8 {n : Int} {G : (Int → Int) → Int → Int} {am ro sw : Nat} {go : Int} {P Q : Int → Int} (hex : (4 : Int) ≤ (sw : Int) ∨ go = 0 ∨ (ro : Int) = (am : Int)) (q3 : go = 0 ∨ go = 1) (q4 : go = 0 → pn_no n G am 8 Q) (q5 : go = 1 → sw = 0 ∨ ro ≠ 0) (q6 : ro = 0 → Q = P) : ro = 0 → pn_no n G am 8 P ∧ Q = P := by
  intro h0
  have e8 := q6 h0
  refine ⟨?_, e8⟩
  rcases q3 with g | g
  · rw [← e8]; exact q4 g
  · intro z hz h8 hn hb
    rcases q5 g with y | y
    · exfalso
      have e7 : am = 0 := by omega
      rw [e7] at hb
      simp at hb
    · exact absurd h0 y
