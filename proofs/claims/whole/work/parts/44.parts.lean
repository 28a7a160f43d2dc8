/-! what goes out of a zone is not more than it holds -/
def m_ab (nf : Nat → Int → Int) (f : Int → Int) (g : Int) : Nat → Int
  | 0 => 0
  | n + 1 => m_ab nf f g n + (if m_gv nf f (n : Int) = g then m_abs (f (n : Int)) else 0)
def m_po (nf : Nat → Int → Int) (f hl wh : Int → Int) (g : Int) : Nat → Int
  | 0 => 0
  | n + 1 => m_po nf f hl wh g n + (if m_gv nf f (n : Int) = g then m_part nf f hl wh (n : Int) else 0)
theorem m_abs_nn (x : Int) : 0 ≤ m_abs x := by
  unfold m_abs
  by_cases c : 0 ≤ x
  · rw [if_pos c]; exact c
  · rw [if_neg c]; omega
theorem m_whs_ab {nf : Nat → Int → Int} {F w0 : Int → Int} (g : Int) (n : Nat) : m_whs nf F w0 n g = w0 g + m_ab nf F g n := by
  induction n with
  | zero => show w0 g = w0 g + 0; omega
  | succ n ih =>
    show pu (m_whs nf F w0 n) (m_gv nf F (n : Int)) (m_whs nf F w0 n (m_gv nf F (n : Int)) + m_abs (F (n : Int))) g = w0 g + (m_ab nf F g n + (if m_gv nf F (n : Int) = g then m_abs (F (n : Int)) else 0))
    unfold pu
    by_cases c : m_gv nf F (n : Int) = g
    · rw [if_pos c.symm, if_pos c, c, ih]; omega
    · rw [if_neg (fun q => c q.symm), if_neg c, ih]; omega
theorem m_po_le {nf : Nat → Int → Int} {f hl wh : Int → Int} {g : Int} (hg : 0 ≤ hl g) (hw : 0 < wh g) (n : Nat) : m_po nf f hl wh g n * wh g ≤ hl g * m_ab nf f g n := by
  induction n with
  | zero => show 0 * wh g ≤ hl g * 0; omega
  | succ n ih =>
    show (m_po nf f hl wh g n + (if m_gv nf f (n : Int) = g then m_part nf f hl wh (n : Int) else 0)) * wh g ≤ hl g * (m_ab nf f g n + (if m_gv nf f (n : Int) = g then m_abs (f (n : Int)) else 0))
    rw [Int.add_mul, Int.mul_add]
    by_cases c : m_gv nf f (n : Int) = g
    · rw [if_pos c, if_pos c]
      have h1 : m_part nf f hl wh (n : Int) * wh g ≤ hl g * m_abs (f (n : Int)) := by
        unfold m_part
        rw [c]
        exact Int.ediv_mul_le _ (by omega)
      omega
    · rw [if_neg c, if_neg c, Int.zero_mul, Int.mul_zero]
      omega
theorem m_po_held {nf : Nat → Int → Int} {f hl wh : Int → Int} {g : Int} {n : Nat} (hg : 0 ≤ hl g) (hw : 0 < wh g) (ha : m_ab nf f g n ≤ wh g) : m_po nf f hl wh g n ≤ hl g := by
  have h1 := m_po_le (nf := nf) (f := f) hg hw n
  have h2 : hl g * m_ab nf f g n ≤ hl g * wh g := Int.mul_le_mul_of_nonneg_left ha hg
  exact Int.le_of_mul_le_mul_right (Int.le_trans h1 h2) hw
theorem m_part_nn {nf : Nat → Int → Int} {f hl wh : Int → Int} {d : Int} (hg : 0 ≤ hl (m_gv nf f d)) (hw : 0 ≤ wh (m_gv nf f d)) : 0 ≤ m_part nf f hl wh d := by
  unfold m_part
  exact Int.ediv_nonneg (Int.mul_nonneg hg (m_abs_nn _)) hw
theorem m_cars_ge {nf : Nat → Int → Int} {f hl wh th : Int → Int} {g : Int} (hl0 : ∀ d : Nat, d < 24 → 4 ≤ m_gv nf f (d : Int) → 0 ≤ hl (m_gv nf f (d : Int))) (hg4 : 4 ≤ g) (hgv : 0 ≤ hl g) (hw : 0 < wh g) {n : Nat} (hn : n ≤ 24) : th g - m_po nf f hl wh g n ≤ m_cars nf f hl wh th n g := by
  induction n with
  | zero => show th g - 0 ≤ th g; omega
  | succ n ih =>
    have h1 := ih (by omega)
    show th g - (m_po nf f hl wh g n + (if m_gv nf f (n : Int) = g then m_part nf f hl wh (n : Int) else 0)) ≤ m_car nf f hl wh (m_cars nf f hl wh th n) (n : Int) g
    have hp : m_gv nf f (n : Int) = g → 0 ≤ m_part nf f hl wh (n : Int) := fun e => m_part_nn (by rw [e]; exact hgv) (by rw [e]; omega)
    unfold m_car
    by_cases c : f (n : Int) = 0 ∨ m_gv nf f (n : Int) < 4 ∨ wh (m_gv nf f (n : Int)) ≤ 0
    · rw [if_pos c]
      by_cases e : m_gv nf f (n : Int) = g
      · rw [if_pos e]; have := hp e; omega
      · rw [if_neg e]; omega
    · rw [if_neg c]
      have hq : 0 ≤ m_part nf f hl wh (n : Int) := m_part_nn (hl0 n (by omega) (by omega)) (by omega)
      unfold pu
      by_cases e1 : g = m_tk nf f (n : Int)
      · rw [if_pos e1, ← e1]
        by_cases e2 : g = m_gv nf f (n : Int)
        · rw [if_pos e2, if_pos e2.symm, ← e2]; omega
        · rw [if_neg e2, if_neg (fun q => e2 q.symm)]; omega
      · rw [if_neg e1]
        by_cases e2 : g = m_gv nf f (n : Int)
        · rw [if_pos e2, if_pos e2.symm, ← e2]; omega
        · rw [if_neg e2, if_neg (fun q => e2 q.symm)]; omega
