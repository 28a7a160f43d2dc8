/-! what stays true of the net -/
def pn_Ex (nf : Nat → Int → Int) (ns : Nat → Int) (da : Int → Int → Int) : Prop := ∀ r t, 0 ≤ r → r < 12 → 0 ≤ t → t < nf 11 r → (0 ≤ da r t ∧ da r t < ns 1) ∨ (20 ≤ da r t ∧ da r t < 20 + ns 2)
def pn_Dc (nf : Nat → Int → Int) (ns : Nat → Int) : Prop := ∀ j, 0 ≤ j → j < 12 → nf 11 j ≤ ns 1 + ns 2
def v_N (nf : Nat → Int → Int) (ns : Nat → Int) (da : Int → Int → Int) : Prop := pn_Ok nf ns da ∧ pn_Dc nf ns ∧ pn_Tch nf ns da ∧ pn_Sm nf ns da ∧ pn_Rw nf ns ∧ pn_Ex nf ns da ∧ s_V nf (ns 0)
/-- a duct d between the rows A and B is noted -/
def v_dk (nf : Nat → Int → Int) (da : Int → Int → Int) (d A B : Int) (nf' : Nat → Int → Int) (da' : Int → Int → Int) : Prop :=
  nf' 3 = pu (nf 3) d A ∧ nf' 4 = pu (nf 4) d B ∧ nf' 11 = pu (pu (nf 11) A (nf 11 A + 1)) B (pu (nf 11) A (nf 11 A + 1) B + 1) ∧ da' = pw (pw da A (pu (da A) (nf 11 A) d)) B (pu (pw da A (pu (da A) (nf 11 A) d) B) (pu (nf 11) A (nf 11 A + 1) B) d)
theorem v_dk_11 {nf nf' : Nat → Int → Int} {da da' : Int → Int → Int} {d A B : Int} (hAB : A ≠ B) (h : v_dk nf da d A B nf' da') (r : Int) : nf' 11 r = nf 11 r + (if r = A ∨ r = B then 1 else 0) := by
  obtain ⟨-, -, e, -⟩ := h
  rw [e]
  unfold pu
  by_cases c1 : r = A
  · rw [if_neg (by omega), if_pos c1, if_pos (Or.inl c1), c1]
  · by_cases c2 : r = B
    · rw [if_pos c2, if_neg (by omega), if_pos (Or.inr c2), c2]
    · rw [if_neg c2, if_neg c1, if_neg (by omega)]; omega
theorem v_dk_da {nf nf' : Nat → Int → Int} {da da' : Int → Int → Int} {d A B : Int} (hAB : A ≠ B) (h : v_dk nf da d A B nf' da') (r t : Int) : da' r t = if (r = A ∨ r = B) ∧ t = nf 11 r then d else da r t := by
  obtain ⟨-, -, -, e⟩ := h
  rw [e]
  by_cases c1 : r = A
  · rw [pw_n _ _ (by omega), c1, pw_s]
    unfold pu
    by_cases c3 : t = nf 11 A
    · rw [if_pos c3, if_pos ⟨Or.inl rfl, c3⟩]
    · rw [if_neg c3, if_neg (fun q => c3 q.2)]
  · by_cases c2 : r = B
    · rw [c2, pw_s, pw_n _ _ (by omega), pu_n _ _ (show B ≠ A by omega)]
      unfold pu
      by_cases c3 : t = nf 11 B
      · rw [if_pos c3, if_pos ⟨Or.inr rfl, c3⟩]
      · rw [if_neg c3, if_neg (fun q => c3 q.2)]
    · rw [pw_n _ _ c2, pw_n _ _ c1, if_neg (fun q => by omega)]
/-- the counts after a duct more: a leak or a fan -/
def v_dn (ns : Nat → Int) (d : Int) (ns' : Nat → Int) : Prop := ns' 0 = ns 0 ∧ ns' 3 = ns 3 + 1 ∧ ((d = ns 1 ∧ ns 1 < 20 ∧ ns' 1 = ns 1 + 1 ∧ ns' 2 = ns 2) ∨ (d = 20 + ns 2 ∧ ns 2 < 4 ∧ ns' 1 = ns 1 ∧ ns' 2 = ns 2 + 1))
theorem v_dk_N {nf nf' : Nat → Int → Int} {ns ns' : Nat → Int} {da da' : Int → Int → Int} {d A B : Int} (h : v_N nf ns da) (hk : v_dk nf da d A B nf' da') (hd : v_dn ns d ns') (hA : 0 ≤ A ∧ A < 4 + ns 0) (hB : 0 ≤ B ∧ B < 4 + ns 0) (hAB : A ≠ B) (h0 : nf' 0 = nf 0) (h1 : nf' 1 = nf 1) (h2 : nf' 2 = nf 2)
    (h5 : ∀ j, 0 ≤ j → j < 20 → 0 ≤ nf' 5 j ∧ nf' 5 j ≤ 100) (h6 : ∀ j, 0 ≤ j → j < 20 → 0 ≤ nf' 6 j ∧ nf' 6 j ≤ 1000) (h7 : ∀ j, 0 ≤ j → j < 20 → 0 ≤ nf' 7 j ∧ nf' 7 j ≤ 1) (h8 : ∀ j, 0 ≤ j → j < 20 → -2000 ≤ nf' 8 j ∧ nf' 8 j ≤ 2000) (h9 : ∀ j, 0 ≤ j → j < 4 → 0 ≤ nf' 9 j ∧ nf' 9 j ≤ 10000) (h10 : ∀ j, 0 ≤ j → j < 4 → 0 ≤ nf' 10 j ∧ nf' 10 j ≤ 100) (hv : ns 3 < 512) : v_N nf' ns' da' := by
  obtain ⟨hOk, hDc, hT, hS, hW, hE, hV⟩ := h
  obtain ⟨o_zc, o_lc, o_fc, o_ve, o_wi, o_wa, o_vo, o_fr, o_to, o_he, o_ar, o_ki, o_st, o_ff, o_sl, o_dc, o_da⟩ := hOk
  have k11 := v_dk_11 hAB hk
  have kda := v_dk_da hAB hk
  obtain ⟨k3, k4, -, -⟩ := hk
  obtain ⟨n0, n3, nn⟩ := hd
  have hd24 : 0 ≤ d ∧ d < 24 := by rcases nn with ⟨a, b, c, e⟩ | ⟨a, b, c, e⟩ <;> omega
  have hcnt : ns' 1 + ns' 2 = ns 1 + ns 2 + 1 := by rcases nn with ⟨a, b, c, e⟩ | ⟨a, b, c, e⟩ <;> omega
  have old3 : ∀ e, e ≠ d → nf' 3 e = nf 3 e ∧ nf' 4 e = nf 4 e := fun e he => by rw [k3, k4]; exact ⟨pu_n _ _ he, pu_n _ _ he⟩
  have new3 : nf' 3 d = A ∧ nf' 4 d = B := by rw [k3, k4]; exact ⟨pu_s _ _ _, pu_s _ _ _⟩
  have hex : ∀ r t, 0 ≤ r → r < 12 → 0 ≤ t → t < nf 11 r → da r t ≠ d := fun r t a b c q => by
    have := hE r t a b c q
    rcases nn with ⟨a1, b1, c1, e1⟩ | ⟨a1, b1, c1, e1⟩ <;> omega
  refine ⟨⟨by omega, by rcases nn with ⟨a, b, c, e⟩ | ⟨a, b, c, e⟩ <;> omega, by rcases nn with ⟨a, b, c, e⟩ | ⟨a, b, c, e⟩ <;> omega, by omega, by rw [h0]; exact o_wi, by rw [h1]; exact o_wa, by rw [h2]; exact o_vo, ?_, ?_, h5, h6, h7, h8, h9, h10, ?_, ?_⟩, ?_, ?_, ?_, ?_, ?_, ?_⟩
  · intro j a b
    by_cases c : j = d
    · rw [c, new3.1]; omega
    · rw [(old3 j c).1]; exact o_fr j a b
  · intro j a b
    by_cases c : j = d
    · rw [c, new3.2]; omega
    · rw [(old3 j c).2]; exact o_to j a b
  · intro j a b
    have e1 := k11 j
    have e2 := hDc j a b
    have e3 := o_dc j a b
    by_cases c : j = A ∨ j = B
    · rw [if_pos c] at e1; rcases nn with ⟨a1, b1, c1, e1⟩ | ⟨a1, b1, c1, e1⟩ <;> omega
    · rw [if_neg c] at e1; omega
  · intro r j a b a2 b2
    rw [kda]
    by_cases c : (r = A ∨ r = B) ∧ j = nf 11 r
    · rw [if_pos c]; omega
    · rw [if_neg c]; exact o_da r j a b a2 b2
  · intro j a b
    have e1 := k11 j
    have e2 := hDc j a b
    by_cases c : j = A ∨ j = B
    · rw [if_pos c] at e1; omega
    · rw [if_neg c] at e1; omega
  · intro r a b t a2 b2
    have e1 := k11 r
    rw [kda, n0]
    by_cases c : (r = A ∨ r = B) ∧ t = nf 11 r
    · rw [if_pos c, new3.1, new3.2]
      exact ⟨by omega, hA.2, hB.2⟩
    · rw [if_neg c]
      have hlt : t < nf 11 r := by
        by_cases c2 : r = A ∨ r = B
        · rw [if_pos c2] at e1
          have : t ≠ nf 11 r := fun q => c ⟨c2, q⟩
          omega
        · rw [if_neg c2] at e1; omega
      obtain ⟨q3, q4⟩ := old3 _ (hex r t (by omega) b a2 hlt)
      rw [q3, q4]
      exact hT r a b t a2 hlt
  · intro r a b g
    have e1 := k11 r
    have e3 := o_dc r (by omega) b
    have eo := hS r a b g
    have lhs : m_sum (fun t => g (da' r t)) (nf' 11 r).toNat = m_sum (fun t => g (da r t)) (nf 11 r).toNat + (if r = A ∨ r = B then g d else 0) := by
      have e0 : m_sum (fun t => g (da' r t)) (nf 11 r).toNat = m_sum (fun t => g (da r t)) (nf 11 r).toNat := m_sum_cg (fun t ht => by
        show g (da' r (t : Int)) = g (da r (t : Int))
        rw [kda, if_neg (fun q => by have := q.2; omega)])
      by_cases c : r = A ∨ r = B
      · rw [if_pos c] at e1
        rw [if_pos c, show (nf' 11 r).toNat = (nf 11 r).toNat + 1 by omega]
        show m_sum (fun t => g (da' r t)) (nf 11 r).toNat + g (da' r (((nf 11 r).toNat : Nat) : Int)) = _
        rw [e0, kda, if_pos ⟨c, by omega⟩]
      · rw [if_neg c] at e1
        rw [if_neg c, show (nf' 11 r).toNat = (nf 11 r).toNat by omega, e0]; omega
    have tn : (if m_tch nf' r d then g d else 0) = (if r = A ∨ r = B then g d else 0) := by
      unfold m_tch
      rw [new3.1, new3.2]
      by_cases c : r = A ∨ r = B
      · rw [if_pos c, if_pos (by omega)]
      · rw [if_neg c, if_neg (by omega)]
    have to : ∀ e, e ≠ d → (if m_tch nf' r e then g e else 0) = (if m_tch nf r e then g e else 0) := fun e he => by
      unfold m_tch
      rw [(old3 e he).1, (old3 e he).2]
    rw [lhs, eo]
    rcases nn with ⟨a1, b1, c1, d1⟩ | ⟨a1, b1, c1, d1⟩
    · rw [c1, d1, show (ns 1 + 1).toNat = (ns 1).toNat + 1 by omega]
      show _ = m_sum (fun d => if m_tch nf' r d then g d else 0) (ns 1).toNat + (if m_tch nf' r (((ns 1).toNat : Nat) : Int) then g (((ns 1).toNat : Nat) : Int) else 0) + _
      rw [show (((ns 1).toNat : Nat) : Int) = d by omega, tn, m_sum_cg (f := fun d => if m_tch nf' r d then g d else 0) (g := fun d => if m_tch nf r d then g d else 0) (fun t ht => to t (by omega)), m_sum_cg (f := fun f => if m_tch nf' r (20 + f) then g (20 + f) else 0) (g := fun f => if m_tch nf r (20 + f) then g (20 + f) else 0) (fun t ht => to _ (by omega))]
      omega
    · rw [c1, d1, show (ns 2 + 1).toNat = (ns 2).toNat + 1 by omega]
      show _ = _ + (m_sum (fun f => if m_tch nf' r (20 + f) then g (20 + f) else 0) (ns 2).toNat + (if m_tch nf' r (20 + (((ns 2).toNat : Nat) : Int)) then g (20 + (((ns 2).toNat : Nat) : Int)) else 0))
      rw [show (20 + (((ns 2).toNat : Nat) : Int)) = d by omega, tn, m_sum_cg (f := fun d => if m_tch nf' r d then g d else 0) (g := fun d => if m_tch nf r d then g d else 0) (fun t ht => to t (by omega)), m_sum_cg (f := fun f => if m_tch nf' r (20 + f) then g (20 + f) else 0) (g := fun f => if m_tch nf r (20 + f) then g (20 + f) else 0) (fun t ht => to _ (by omega))]
      omega
  · intro k c
    rw [n0]
    by_cases e : k = d
    · rw [e, new3.1, new3.2]; exact ⟨hA.2, hB.2, hAB⟩
    · rw [(old3 k e).1, (old3 k e).2]
      exact hW k (by rcases nn with ⟨a1, b1, c1, d1⟩ | ⟨a1, b1, c1, d1⟩ <;> omega)
  · intro r t a b a2 b2
    have e1 := k11 r
    rw [kda]
    by_cases c : (r = A ∨ r = B) ∧ t = nf 11 r
    · rw [if_pos c]
      rcases nn with ⟨a1, b1, c1, d1⟩ | ⟨a1, b1, c1, d1⟩ <;> omega
    · rw [if_neg c]
      have hlt : t < nf 11 r := by
        by_cases c2 : r = A ∨ r = B
        · rw [if_pos c2] at e1
          have : t ≠ nf 11 r := fun q => c ⟨c2, q⟩
          omega
        · rw [if_neg c2] at e1; omega
      have := hE r t a b a2 hlt
      rcases nn with ⟨a1, b1, c1, d1⟩ | ⟨a1, b1, c1, d1⟩ <;> omega
  · intro z a b
    rw [h2]
    exact hV z a (by omega)
