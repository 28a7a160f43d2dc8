/-! the search of a raise -/
def pn_J (i : Nat) (rc g : Int) : Prop := 1 ≤ rc ∧ rc ≤ ((2 ^ i : Nat) : Int) ∧ 1 ≤ g ∧ ((rc = ((2 ^ i : Nat) : Int) ∧ i ≤ 13 ∧ g ≤ 10001) ∨ (g ≤ 2 * rc + 1 ∧ (g - 1) * ((2 ^ i : Nat) : Int) ≤ 163840000))
theorem pn_2i (i : Nat) (h : i ≤ 13) : ((2 ^ i : Nat) : Int) ≤ 8192 := by
  have h1 : 2 ^ i ≤ 2 ^ 13 := Nat.pow_le_pow_right (by omega) h
  have h2 : (2 : Nat) ^ 13 = 8192 := by decide
  omega
theorem pn_2s (i : Nat) : ((2 ^ (i + 1) : Nat) : Int) = 2 * ((2 ^ i : Nat) : Int) := by
  have : 2 ^ (i + 1) = 2 * 2 ^ i := by rw [Nat.pow_succ]; omega
  omega
theorem pn_2p (i : Nat) : 1 ≤ ((2 ^ i : Nat) : Int) := by
  have := Nat.two_pow_pos i
  omega
theorem pn_J_0 {g : Int} (h : 1 ≤ g) (h2 : g ≤ 10001) : pn_J 0 1 g := ⟨by decide, by decide, h, Or.inl ⟨by decide, by decide, h2⟩⟩
theorem pn_J_B {i : Nat} {rc g : Int} (h : pn_J i rc g) (hr : g / 2 ≤ rc) : g ≤ 2 * rc + 1 ∧ (g - 1) * ((2 ^ i : Nat) : Int) ≤ 163840000 := by
  obtain ⟨h1, h2, h3, h4⟩ := h
  rcases h4 with ⟨a1, a2, a3⟩ | h4
  · have h5 := pn_2i i a2
    have h6 : (g - 1) * ((2 ^ i : Nat) : Int) ≤ 10000 * 8192 := Int.mul_le_mul (by omega) h5 (by have := pn_2p i; omega) (by decide)
    exact ⟨by omega, by omega⟩
  · exact h4
theorem pn_J_half {i : Nat} {g g' : Int} (hg : (g' - 1) * 2 ≤ g - 1) (h : (g - 1) * ((2 ^ i : Nat) : Int) ≤ 163840000) : (g' - 1) * ((2 ^ (i + 1) : Nat) : Int) ≤ 163840000 := by
  rw [pn_2s]
  have e : (g' - 1) * (2 * ((2 ^ i : Nat) : Int)) = (g' - 1) * 2 * ((2 ^ i : Nat) : Int) := (Int.mul_assoc _ _ _).symm
  rw [e]
  exact Int.le_trans (Int.mul_le_mul_of_nonneg_right hg (by have := pn_2p i; omega)) h
theorem pn_J_low {i : Nat} {rc g : Int} (h : pn_J i rc g) (h2 : 2 ≤ g) : pn_J (i + 1) (rc * 2) (g - min rc (g / 2)) := by
  have hh := h
  obtain ⟨q1, q2, q3, q4⟩ := h
  have hs := pn_2s i
  refine ⟨by omega, by omega, by omega, ?_⟩
  by_cases c : g / 2 ≤ rc
  · have hB := pn_J_B hh c
    exact Or.inr ⟨by omega, pn_J_half (g := g) (by omega) hB.2⟩
  · rcases q4 with ⟨a1, a2, a3⟩ | q4
    · refine Or.inl ⟨by omega, ?_, by omega⟩
      rcases Nat.lt_or_ge i 13 with z | z
      · omega
      · exfalso
        have : i = 13 := by omega
        subst this
        have h9 : ((2 ^ 13 : Nat) : Int) = 8192 := by decide
        omega
    · exfalso; omega
theorem pn_J_high {i : Nat} {rc g : Int} (h : pn_J i rc g) (h2 : 2 ≤ g) : pn_J (i + 1) rc (min rc (g / 2)) := by
  have hh := h
  obtain ⟨q1, q2, q3, q4⟩ := h
  have hs := pn_2s i
  have hp := pn_2p i
  refine ⟨by omega, by omega, by omega, ?_⟩
  by_cases c : g / 2 ≤ rc
  · have hB := pn_J_B hh c
    exact Or.inr ⟨by omega, pn_J_half (g := g) (by omega) hB.2⟩
  · rcases q4 with ⟨a1, a2, a3⟩ | q4
    · refine Or.inr ⟨by omega, ?_⟩
      have h5 := pn_2i i a2
      rw [Int.min_eq_left (by omega), hs]
      have h6 : (rc - 1) * (2 * ((2 ^ i : Nat) : Int)) ≤ 8192 * 16384 := Int.mul_le_mul (by omega) (by omega) (by omega) (by decide)
      omega
    · exfalso; omega
theorem pn_J_rc {i : Nat} {rc g : Int} (h : pn_J i rc g) (h2 : 2 ≤ g) : rc ≤ 163840000 := by
  obtain ⟨q1, q2, q3, q4⟩ := h
  rcases q4 with ⟨a1, a2, a3⟩ | q4
  · have := pn_2i i a2
    omega
  · have h5 : 1 * ((2 ^ i : Nat) : Int) ≤ (g - 1) * ((2 ^ i : Nat) : Int) := Int.mul_le_mul_of_nonneg_right (by omega) (by have := pn_2p i; omega)
    omega
theorem pn_J_end {i : Nat} {rc g : Int} (h : pn_J i rc g) (hi : 64 ≤ i) : g = 1 := by
  obtain ⟨q1, q2, q3, q4⟩ := h
  rcases q4 with ⟨a1, a2, a3⟩ | q4
  · omega
  · have h1 : 2 ^ 64 ≤ 2 ^ i := Nat.pow_le_pow_right (by omega) hi
    have h3 : (2 : Nat) ^ 64 = 18446744073709551616 := by decide
    rcases Int.lt_or_le 1 g with z | z
    · have h5 : 1 * ((2 ^ i : Nat) : Int) ≤ (g - 1) * ((2 ^ i : Nat) : Int) := Int.mul_le_mul_of_nonneg_right (by omega) (by have := pn_2p i; omega)
      omega
    · omega
theorem pu_pu (f : Int → Int) (k v w : Int) : pu (pu f k v) k w = pu f k w := by
  funext j
  unfold pu
  by_cases h : j = k
  · rw [if_pos h, if_pos h]
  · rw [if_neg h, if_neg h, if_neg h]
theorem pu_self (f : Int → Int) (k : Int) : pu f k (f k) = f := by
  funext j
  unfold pu
  by_cases h : j = k
  · rw [if_pos h, h]
  · rw [if_neg h]
theorem nw_self {α : Type} (f : Nat → α) (k : Nat) : nw f k (f k) = f := by
  funext j
  unfold nw
  by_cases h : j = k
  · rw [if_pos h, h]
  · rw [if_neg h]
theorem nw_nw {α : Type} (f : Nat → α) (k : Nat) (x y : α) : nw (nw f k x) k y = nw f k y := by
  funext j
  unfold nw
  by_cases h : j = k
  · rw [if_pos h, if_pos h]
  · rw [if_neg h, if_neg h, if_neg h]
theorem pn_npu (f : Nat → Int → Int) (g : Int → Int) (k : Nat) (r c v : Int) : nw (nw f k (pu g r c)) k (pu ((nw f k (pu g r c)) k) r v) = nw f k (pu g r v) := by rw [nw_nw, nw_s, pu_pu]
theorem pn_Pr_pu {P : Int → Int} (h : pn_Pr P) {r v : Int} (h1 : -5000 ≤ v) (h2 : v ≤ 20000) : pn_Pr (pu P r v) := by
  intro j a b
  unfold pu
  by_cases e : j = r
  · rw [if_pos e]; exact ⟨h1, h2⟩
  · rw [if_neg e]; exact h j a b
section PW
variable {s : State} {H : Heap} {D : va_G} {cI cL cD cS : ClassId} {ws : va_W}
theorem pn_preW {As : List Value} {b q0 ci : Nat} {q : vw_C} {fs : List Value} {A : Nat → Prop} (hP : va_P D pn_cl ws H) (hD : va_D A ws) (hE : pn_E D cI cL cD cS s) (hc : pn_cl[ci]? = some q) (he : ws[q0]? = some (b, .inr (ci, fs))) : PreV s H q.1 b (va_Pc (.ref b :: As) (fun U => U.heap.size = H.size ∧ va_P D pn_cl ws U.heap ∧ va_D (fun _ => True) ws ∧ pn_E D cI cL cD cS U)) As :=
  ⟨fun _ _ _ _ q => ⟨q.1, q.2.1, q.2.2.1, q.2.2.2.1, pn_E.same rfl q.2.2.2.2⟩, va_recv hE.1 hP hc he, fun U hU hW => ⟨rfl, by rw [hU], by rw [hU]; exact hP, hD.weaken (fun _ _ _ _ => trivial), pn_E.warm hW hE⟩⟩
end PW
