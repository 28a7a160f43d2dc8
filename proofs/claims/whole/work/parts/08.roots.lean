/-! roots, in whole numbers -/
def pn_sq : Nat → Nat
  | 0 => 0
  | n + 1 => if (pn_sq n + 1) * (pn_sq n + 1) ≤ n + 1 then pn_sq n + 1 else pn_sq n
theorem pn_sq_spec (n : Nat) : pn_sq n * pn_sq n ≤ n ∧ n < (pn_sq n + 1) * (pn_sq n + 1) := by
  induction n with
  | zero => simp [pn_sq]
  | succ n ih =>
    obtain ⟨h1, h2⟩ := ih
    unfold pn_sq
    by_cases h : (pn_sq n + 1) * (pn_sq n + 1) ≤ n + 1
    · rw [if_pos h]
      refine ⟨h, ?_⟩
      simp only [Nat.add_mul, Nat.mul_add] at h h2 ⊢
      omega
    · rw [if_neg h]
      exact ⟨by omega, by omega⟩
theorem pn_sq_of_le {n r : Nat} (h : r * r ≤ n) : r ≤ pn_sq n := by
  have h2 := (pn_sq_spec n).2
  rcases Nat.lt_or_ge (pn_sq n) r with q | q
  · have := Nat.mul_le_mul (show pn_sq n + 1 ≤ r from q) (show pn_sq n + 1 ≤ r from q)
    omega
  · exact q
theorem pn_sq_of_lt {n r : Nat} (h : n < (r + 1) * (r + 1)) : pn_sq n ≤ r := by
  have h1 := (pn_sq_spec n).1
  rcases Nat.lt_or_ge r (pn_sq n) with q | q
  · have := Nat.mul_le_mul (show r + 1 ≤ pn_sq n from q) (show r + 1 ≤ pn_sq n from q)
    omega
  · exact q
theorem pn_sq_eq {n r : Nat} (h1 : r * r ≤ n) (h2 : n < (r + 1) * (r + 1)) : pn_sq n = r := Nat.le_antisymm (pn_sq_of_lt h2) (pn_sq_of_le h1)
theorem pn_sq_mono {a b : Nat} (h : a ≤ b) : pn_sq a ≤ pn_sq b := pn_sq_of_le (Nat.le_trans (pn_sq_spec a).1 h)
theorem pn_sq_zero : pn_sq 0 = 0 := rfl
/-- a step of the way down stays above the root -/
theorem pn_newton_ge {n x : Nat} (hx : 0 < x) : pn_sq n ≤ (x + n / x) / 2 := by
  have h1 := (pn_sq_spec n).1
  rw [Nat.le_div_iff_mul_le (by omega)]
  rcases Nat.le_total (pn_sq n * 2) x with q | q
  · exact Nat.le_trans q (Nat.le_add_right _ _)
  · obtain ⟨d, hd⟩ := Nat.exists_eq_add_of_le q
    have h3 : d * x ≤ n := by
      refine Nat.le_trans ?_ h1
      -- (2r - x) * x ≤ r * r
      have e : ((pn_sq n : Int) - x) * ((pn_sq n : Int) - x) ≥ 0 := by
        rcases Int.le_total 0 ((pn_sq n : Int) - x) with z | z
        · exact Int.mul_nonneg z z
        · exact Int.mul_nonneg_of_nonpos_of_nonpos z z
      have hd' : (pn_sq n : Int) * 2 = x + d := by exact_mod_cast hd
      have e2 : (d : Int) * x ≤ (pn_sq n : Int) * pn_sq n := by
        have : (d : Int) = pn_sq n * 2 - x := by omega
        rw [this]
        simp only [Int.sub_mul, Int.mul_sub] at e ⊢
        have c : (pn_sq n : Int) * 2 * x = 2 * (pn_sq n * x) := by rw [Int.mul_comm (pn_sq n : Int) 2, Int.mul_assoc]
        have c2 : (x : Int) * pn_sq n = pn_sq n * x := Int.mul_comm _ _
        rw [c]; rw [c2] at e
        omega
      exact_mod_cast e2
    have h4 : d ≤ n / x := (Nat.le_div_iff_mul_le hx).mpr h3
    rw [hd]
    exact Nat.add_le_add_left h4 x
/-- where it goes down no more it is the root -/
theorem pn_newton_stop {n x : Nat} (hx : 0 < x) (hr : pn_sq n ≤ x) (h : x ≤ (x + n / x) / 2) : x = pn_sq n := by
  have h1 : x ≤ n / x := by
    have := (Nat.le_div_iff_mul_le (k := 2) (by omega)).mp h
    generalize n / x = g at this ⊢
    omega
  have h2 : x * x ≤ n := (Nat.le_div_iff_mul_le hx).mp h1
  exact Nat.le_antisymm (pn_sq_of_le h2) hr
/-- the gap halves -/
theorem pn_newton_gap {n x : Nat} (hx : pn_sq n < x) : ((x + n / x) / 2 - pn_sq n) * 2 ≤ x - pn_sq n := by
  have h2 := (pn_sq_spec n).2
  have h3 : n / x ≤ pn_sq n := by
    have : n / x < pn_sq n + 1 := by
      rw [Nat.div_lt_iff_lt_mul (by omega)]
      exact Nat.lt_of_lt_of_le h2 (Nat.mul_le_mul_left _ hx)
    exact Nat.le_of_lt_succ this
  generalize n / x = g at h3 ⊢
  omega
