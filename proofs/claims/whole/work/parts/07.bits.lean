/-! sets of leaks and of zones, as bits of an int -/
def bn (b : Bool) : Int := if b then 1 else 0
theorem nb_nI (n : Nat) : iI (n : Int) = nI n := iI_nat n
theorem nb_s : ∀ j, j < 32 → ((nI j &&& 31).toBitVec.smod 32).toNat = j := by decide +kernel
theorem nb_shr {n j : Nat} (hn : n < 2 ^ 31) (hj : j < 32) : iI (n : Int) >>> (iI (j : Int) &&& 31) = iI ((n / 2 ^ j : Nat) : Int) := by
  rw [nb_nI, nb_nI, nb_nI]
  exact pk_shrN hn _ j (nb_s j hj)
theorem nb_one {n : Nat} (hn : n < 2 ^ 31) : iI (n : Int) &&& iI 1 = iI ((n % 2 : Nat) : Int) := by
  have h := pk_andN (n := n) (by omega) (m := 1) 1 (by decide)
  rw [nb_nI, nb_nI]
  exact h
theorem nb_tb (n j : Nat) : ((n / 2 ^ j % 2 : Nat) : Int) = bn (n.testBit j) := by
  unfold bn
  rw [Nat.testBit_eq_decide_div_mod_eq]
  by_cases h : n / 2 ^ j % 2 = 1
  · rw [h]; simp
  · have h0 : n / 2 ^ j % 2 = 0 := by omega
    rw [h0]; simp
theorem nb_bit {n j : Nat} (hn : n < 2 ^ 31) (hj : j < 32) : iI (n : Int) >>> (iI (j : Int) &&& 31) &&& iI 1 = iI (bn (n.testBit j)) := by
  rw [nb_shr hn hj, nb_one (Nat.lt_of_le_of_lt (Nat.div_le_self _ _) hn), nb_tb]
theorem nb_shl : ∀ j, j < 31 → (1 : Int32) <<< (nI j &&& 31) = nI (2 ^ j) := by decide +kernel
theorem nb_sh {j : Nat} (hj : j < 31) : iI 1 <<< (iI (j : Int) &&& 31) = iI ((2 ^ j : Nat) : Int) := by
  rw [nb_nI, nb_nI]
  exact nb_shl j hj
theorem nb_and (a b : Nat) : nI a &&& nI b = nI (a &&& b) := by
  apply Int32.toBitVec.inj
  show BitVec.ofNat 32 a &&& BitVec.ofNat 32 b = BitVec.ofNat 32 (a &&& b)
  apply BitVec.eq_of_toNat_eq
  simp [Nat.and_mod_two_pow]
theorem nb_or (a b : Nat) : nI a ||| nI b = nI (a ||| b) := by
  apply Int32.toBitVec.inj
  show BitVec.ofNat 32 a ||| BitVec.ofNat 32 b = BitVec.ofNat 32 (a ||| b)
  apply BitVec.eq_of_toNat_eq
  simp [Nat.or_mod_two_pow]
theorem nb_xor (a b : Nat) : nI a ^^^ nI b = nI (a ^^^ b) := by
  apply Int32.toBitVec.inj
  show BitVec.ofNat 32 a ^^^ BitVec.ofNat 32 b = BitVec.ofNat 32 (a ^^^ b)
  apply BitVec.eq_of_toNat_eq
  simp [Nat.xor_mod_two_pow]
theorem iI_and (a b : Nat) : iI (a : Int) &&& iI (b : Int) = iI ((a &&& b : Nat) : Int) := by rw [nb_nI, nb_nI, nb_nI, nb_and]
theorem iI_or (a b : Nat) : iI (a : Int) ||| iI (b : Int) = iI ((a ||| b : Nat) : Int) := by rw [nb_nI, nb_nI, nb_nI, nb_or]
theorem iI_xor (a b : Nat) : iI (a : Int) ^^^ iI (b : Int) = iI ((a ^^^ b : Nat) : Int) := by rw [nb_nI, nb_nI, nb_nI, nb_xor]
theorem nb_and_pow (n j : Nat) : (n &&& 2 ^ j) = if n.testBit j then 2 ^ j else 0 := by
  apply Nat.eq_of_testBit_eq
  intro i
  rw [Nat.testBit_and, Nat.testBit_two_pow]
  by_cases h : n.testBit j = true
  · rw [if_pos h, Nat.testBit_two_pow]
    by_cases e : j = i
    · subst e; simp [h]
    · simp [e]
  · rw [if_neg h]
    by_cases e : j = i
    · subst e; simp [h]
    · simp [e]
