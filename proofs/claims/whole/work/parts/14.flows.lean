/-! flows by whole numbers -/
def m_root (A d : Int) : Int := ((pn_sq (A * A * d).toNat : Nat) : Int)
def m_leak (A K d : Int) : Int := if K = 1 then A * d else if d < 0 then -(m_root A (-d)) else m_root A d
def m_blow (F S u : Int) : Int := max 0 (min (F - S * u) (2 * F))
def m_flow (nf : Nat → Int → Int) (S : Nat) (P : Int → Int) (d : Int) : Int := if 20 ≤ d then m_blow (nf 9 (d - 20)) (nf 10 (d - 20)) (P (nf 4 d) - P (nf 3 d)) else if S.testBit d.toNat then 0 else m_leak (nf 6 d) (nf 7 d) (m_drive nf P d)
def m_term (nf : Nat → Int → Int) (S : Nat) (P : Int → Int) (r d : Int) : Int := if nf 4 d = r then m_flow nf S P d else -(m_flow nf S P d)
def m_sum (f : Int → Int) : Nat → Int
  | 0 => 0
  | n + 1 => m_sum f n + f (n : Int)
def m_gain (nf : Nat → Int → Int) (da : Int → Int → Int) (S : Nat) (P : Int → Int) (r : Int) : Int := m_sum (fun t => m_term nf S P r (da r t)) (nf 11 r).toNat
theorem m_sum_b {f : Int → Int} {B : Int} {n : Nat} (h : ∀ t : Nat, t < n → -B ≤ f t ∧ f t ≤ B) : -(B * n) ≤ m_sum f n ∧ m_sum f n ≤ B * n := by
  induction n with
  | zero => simp [m_sum]
  | succ n ih =>
    have h1 := ih (fun t ht => h t (by omega))
    have h2 := h n (by omega)
    have e : B * ((n + 1 : Nat) : Int) = B * n + B := by rw [Int.natCast_succ, Int.mul_add, Int.mul_one]
    rw [e]
    show -(B * n + B) ≤ m_sum f n + f n ∧ m_sum f n + f n ≤ B * n + B
    omega
theorem m_root_0 (A : Int) {d : Int} (h : d ≤ 0) : m_root A d = 0 := by
  unfold m_root
  have h1 : 0 ≤ A * A := by
    rcases Int.le_total 0 A with z | z
    · exact Int.mul_nonneg z z
    · exact Int.mul_nonneg_of_nonpos_of_nonpos z z
  have h2 : A * A * d ≤ 0 := Int.mul_nonpos_of_nonneg_of_nonpos h1 h
  rw [Int.toNat_of_nonpos h2]
  rfl
theorem pn_exit1 {x r i : Nat} (h : (x - r) * 2 ^ i ≤ 400000) (hi : 64 ≤ i) (hr : r ≤ x) : x = r := by
  rcases Nat.eq_or_lt_of_le hr with q | q
  · exact q.symm
  · exfalso
    have h1 : 2 ^ 64 ≤ 2 ^ i := Nat.pow_le_pow_right (by omega) hi
    have h2 : 1 * 2 ^ i ≤ (x - r) * 2 ^ i := Nat.mul_le_mul_right _ (by omega)
    have h3 : (2 : Nat) ^ 64 = 18446744073709551616 := by decide
    omega
theorem pn_gapN {n x i : Nat} (h : (x - pn_sq n) * 2 ^ i ≤ 400000) (hr : pn_sq n ≤ x) (hlt : (x + n / x) / 2 < x) : ((x + n / x) / 2 - pn_sq n) * 2 ^ (i + 1) ≤ 400000 := by
  rcases Nat.eq_or_lt_of_le hr with q | q
  · exfalso
    have := pn_newton_ge (n := n) (x := x) (Nat.lt_of_le_of_lt (Nat.zero_le _) hlt)
    omega
  · have h1 := pn_newton_gap q
    refine Nat.le_trans ?_ h
    have e : ((x + n / x) / 2 - pn_sq n) * 2 ^ (i + 1) = ((x + n / x) / 2 - pn_sq n) * 2 * 2 ^ i := by rw [Nat.pow_succ, Nat.mul_comm (2 ^ i) 2, Nat.mul_assoc]
    rw [e]
    exact Nat.mul_le_mul_right _ h1
theorem pn_lt174 {ab : Nat} (h : (ab : Int) * ab < 30001) : ab ≤ 173 := by
  rcases Nat.lt_or_ge 173 ab with q | q
  · have := Nat.mul_le_mul (show 174 ≤ ab from q) (show 174 ≤ ab from q)
    have h2 : ((ab * ab : Nat) : Int) < 30001 := by rw [Int.natCast_mul]; exact h
    omega
  · exact q
theorem pn_abs {ab : Nat} (h : ab ≤ 400) : 0 ≤ (ab : Int) * ab ∧ (ab : Int) * ab ≤ 160000 := by
  have h1 := Nat.mul_le_mul h h
  have h2 : (ab : Int) * ab = ((ab * ab : Nat) : Int) := (Int.natCast_mul ab ab).symm
  rw [h2]
  omega
theorem pn_aad {A d : Int} (hA : 0 ≤ A ∧ A ≤ 1000) (hd : 0 < d ∧ d ≤ 30000) : 0 ≤ A * A ∧ A * A ≤ 1000000 ∧ 0 ≤ A * A * d ∧ A * A * d ≤ 30000000000 := by
  have h1 : 0 ≤ A * A := Int.mul_nonneg hA.1 hA.1
  have h2 : A * A ≤ 1000 * 1000 := Int.mul_le_mul hA.2 hA.2 hA.1 (by decide)
  have h3 : A * A * d ≤ 1000 * 1000 * 30000 := Int.mul_le_mul h2 hd.2 (by omega) (by decide)
  exact ⟨h1, by omega, Int.mul_nonneg h1 (by omega), by omega⟩
theorem pn_aab {A : Int} {ab : Nat} (hA : 0 ≤ A ∧ A ≤ 1000) (h : ab ≤ 400) : 0 ≤ A * ab ∧ A * ab ≤ 400000 := by
  have h3 : A * (ab : Int) ≤ 1000 * 400 := Int.mul_le_mul hA.2 (by omega) (by omega) (by decide)
  exact ⟨Int.mul_nonneg hA.1 (by omega), by omega⟩
theorem pn_root0 {A d : Int} {ab : Nat} (hA : 0 ≤ A) (h : d ≤ (ab : Int) * ab) : pn_sq (A * A * d).toNat ≤ (A * ab).toNat := by
  refine pn_sq_of_lt ?_
  have h0 : 0 ≤ A * ab := Int.mul_nonneg hA (by omega)
  have h1 : A * A * d ≤ (A * ab) * (A * ab) := by
    have e : (A * ab) * (A * ab) = A * A * ((ab : Int) * ab) := by
      rw [Int.mul_assoc, Int.mul_assoc, ← Int.mul_assoc (ab : Int) A, Int.mul_comm (ab : Int) A, Int.mul_assoc]
    rw [e]
    exact Int.mul_le_mul_of_nonneg_left h (Int.mul_nonneg hA hA)
  obtain ⟨x, hx⟩ := Int.eq_ofNat_of_zero_le h0
  rw [hx] at h1 ⊢
  have h2 : (x : Int) * x = ((x * x : Nat) : Int) := (Int.natCast_mul x x).symm
  rw [h2] at h1
  have h3 : (A * A * d).toNat ≤ x * x := by omega
  have h4 : (x + 1) * (x + 1) = x * x + x + x + 1 := by simp only [Nat.add_mul, Nat.mul_add]; omega
  rw [Int.toNat_natCast, h4]
  omega
section PL
variable {p : Program} {l : Launch} {e : Env} {R : Room} {s : State} {m : MethodId} {args : Array Value} {below : List Frame} {meth : Method} {c : Code} {H : Heap} {locs : List Loc} {cells slots : Nat} {Q : State → Prop} {pc : Nat} {ls : Array Slot} {rest : List Value}
theorem pr_lre {A B : Int} (h : A = B) (k : W p l e R s m args below meth c H locs cells slots Q (F0 m pc ls (.long (lI B) :: rest))) : W p l e R s m args below meth c H locs cells slots Q (F0 m pc ls (.long (lI A) :: rest)) := by subst h; exact k
theorem pr_ire {A B : Int} (h : A = B) (k : W p l e R s m args below meth c H locs cells slots Q (F0 m pc ls (.int (iI B) :: rest))) : W p l e R s m args below meth c H locs cells slots Q (F0 m pc ls (.int (iI A) :: rest)) := by subst h; exact k
theorem pr_ixe {v : Int32} {B : Int} (h : v = iI B) (k : W p l e R s m args below meth c H locs cells slots Q (F0 m pc ls (.int (iI B) :: rest))) : W p l e R s m args below meth c H locs cells slots Q (F0 m pc ls (.int v :: rest)) := by subst h; exact k
end PL
