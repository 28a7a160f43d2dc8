/-! zones, winds, warmths; the reference beside it -/
def v_zn (nf : Nat → Int → Int) (ns : Nat → Int) (x y : Int) (nf' : Nat → Int → Int) (ns' : Nat → Int) : Prop := nf' = nw (nw nf 1 (pu (nf 1) (ns 0 + 4) x)) 2 (pu (nf 2) (ns 0) y) ∧ ns' = nw (nw ns 0 (ns 0 + 1)) 3 (ns 3 + 1)
theorem v_zn_N {nf nf' : Nat → Int → Int} {ns ns' : Nat → Int} {da : Int → Int → Int} {x y : Int} (h : v_N nf ns da) (hz : v_zn nf ns x y nf' ns') (hx : -1000 ≤ x ∧ x ≤ 1000) (hy : 1 ≤ y ∧ y ≤ 100000) (h8 : ns 0 < 8) (hv : ns 3 < 512) : v_N nf' ns' da := by
  obtain ⟨hOk, hDc, hT, hS, hW, hE, hV⟩ := h
  obtain ⟨o_zc, o_lc, o_fc, o_ve, o_wi, o_wa, o_vo, o_fr, o_to, o_he, o_ar, o_ki, o_st, o_ff, o_sl, o_dc, o_da⟩ := hOk
  obtain ⟨rfl, rfl⟩ := hz
  refine ⟨⟨?_, o_lc, o_fc, ?_, o_wi, ?_, ?_, o_fr, o_to, o_he, o_ar, o_ki, o_st, o_ff, o_sl, o_dc, o_da⟩, hDc, ?_, hS, ?_, hE, ?_⟩
  · show 0 ≤ ns 0 + 1 ∧ ns 0 + 1 ≤ 8
    omega
  · show 0 ≤ ns 3 + 1 ∧ ns 3 + 1 ≤ 512
    omega
  · intro j a b
    show -1000 ≤ pu (nf 1) (ns 0 + 4) x j ∧ pu (nf 1) (ns 0 + 4) x j ≤ 1000
    unfold pu
    by_cases c : j = ns 0 + 4
    · rw [if_pos c]; exact hx
    · rw [if_neg c]; exact o_wa j a b
  · intro j a b
    show 0 ≤ pu (nf 2) (ns 0) y j ∧ pu (nf 2) (ns 0) y j ≤ 100000
    unfold pu
    by_cases c : j = ns 0
    · rw [if_pos c]; omega
    · rw [if_neg c]; exact o_vo j a b
  · intro r a b t a2 b2
    have q := hT r a b t a2 b2
    exact ⟨q.1, show nf 3 (da r t) < 4 + (ns 0 + 1) by omega, show nf 4 (da r t) < 4 + (ns 0 + 1) by omega⟩
  · intro k c
    have q := hW k c
    exact ⟨show nf 3 k < 4 + (ns 0 + 1) by omega, show nf 4 k < 4 + (ns 0 + 1) by omega, q.2.2⟩
  · intro z a b
    show 1 ≤ pu (nf 2) (ns 0) y z
    have b : z < ns 0 + 1 := b
    unfold pu
    by_cases c : z = ns 0
    · rw [if_pos c]; exact hy.1
    · rw [if_neg c]; exact hV z a (by omega)
def v_wd (nf : Nat → Int → Int) (ns : Nat → Int) (x y : Int) (nf' : Nat → Int → Int) (ns' : Nat → Int) : Prop := nf' = nw nf 0 (pu (nf 0) (x + 4) y) ∧ ns' = nw ns 3 (ns 3 + 1)
theorem v_wd_N {nf nf' : Nat → Int → Int} {ns ns' : Nat → Int} {da : Int → Int → Int} {x y : Int} (h : v_N nf ns da) (hz : v_wd nf ns x y nf' ns') (hy : -1000 ≤ y ∧ y ≤ 1000) (hv : ns 3 < 512) : v_N nf' ns' da := by
  obtain ⟨hOk, hDc, hT, hS, hW, hE, hV⟩ := h
  obtain ⟨o_zc, o_lc, o_fc, o_ve, o_wi, o_wa, o_vo, o_fr, o_to, o_he, o_ar, o_ki, o_st, o_ff, o_sl, o_dc, o_da⟩ := hOk
  obtain ⟨rfl, rfl⟩ := hz
  refine ⟨⟨o_zc, o_lc, o_fc, ?_, ?_, o_wa, o_vo, o_fr, o_to, o_he, o_ar, o_ki, o_st, o_ff, o_sl, o_dc, o_da⟩, hDc, hT, hS, hW, hE, hV⟩
  · show 0 ≤ ns 3 + 1 ∧ ns 3 + 1 ≤ 512
    omega
  · intro j a b
    show -1000 ≤ pu (nf 0) (x + 4) y j ∧ pu (nf 0) (x + 4) y j ≤ 1000
    unfold pu
    by_cases c : j = x + 4
    · rw [if_pos c]; exact hy
    · rw [if_neg c]; exact o_wi j a b
def v_wm (nf : Nat → Int → Int) (ns : Nat → Int) (x y : Int) (nf' : Nat → Int → Int) (ns' : Nat → Int) : Prop := nf' = m_nw nf (m_wa (x + 4) y (nf 1)) (m_stk nf (m_wa (x + 4) y (nf 1)) (ns 1)) ∧ ns' = nw ns 3 (ns 3 + 1)
theorem td_b {a : Int} (h1 : -200000 ≤ a) (h2 : a ≤ 200000) : -2000 ≤ a.tdiv 100 ∧ a.tdiv 100 ≤ 2000 := by
  rcases Int.le_total 0 a with c | c
  · rw [Int.tdiv_eq_ediv_of_nonneg c]; omega
  · have e : a.tdiv 100 = -((-a).tdiv 100) := by rw [Int.neg_tdiv, Int.neg_neg]
    rw [e, Int.tdiv_eq_ediv_of_nonneg (by omega)]; omega
theorem m_stk_b {nf : Nat → Int → Int} {W : Int → Int} {t : Int} (h5 : ∀ j, 0 ≤ j → j < 20 → 0 ≤ nf 5 j ∧ nf 5 j ≤ 100) (h8 : ∀ j, 0 ≤ j → j < 20 → -2000 ≤ nf 8 j ∧ nf 8 j ≤ 2000) (hW : ∀ j, 0 ≤ j → j < 24 → -2000 ≤ W (nf 3 j) - W (nf 4 j) ∧ W (nf 3 j) - W (nf 4 j) ≤ 2000) : ∀ j, 0 ≤ j → j < 20 → -2000 ≤ m_stk nf W t j ∧ m_stk nf W t j ≤ 2000 := by
  intro j a b
  unfold m_stk
  by_cases c : 0 ≤ j ∧ j < t
  · rw [if_pos c]
    have w := hW j a (by omega)
    have f := h5 j a b
    have m := mul_b (x := nf 5 j) (y := W (nf 3 j) - W (nf 4 j)) (X := 100) (Y := 2000) (by omega) (by omega) (by omega) (by omega)
    exact td_b (by omega) (by omega)
  · rw [if_neg c]; exact h8 j a b
theorem v_wm_N {nf nf' : Nat → Int → Int} {ns ns' : Nat → Int} {da : Int → Int → Int} {x y : Int} (h : v_N nf ns da) (hz : v_wm nf ns x y nf' ns') (hy : -1000 ≤ y ∧ y ≤ 1000) (hv : ns 3 < 512) : v_N nf' ns' da := by
  obtain ⟨hOk, hDc, hT, hS, hW, hE, hV⟩ := h
  obtain ⟨o_zc, o_lc, o_fc, o_ve, o_wi, o_wa, o_vo, o_fr, o_to, o_he, o_ar, o_ki, o_st, o_ff, o_sl, o_dc, o_da⟩ := hOk
  obtain ⟨rfl, rfl⟩ := hz
  have wb := m_wa_b (r := x + 4) hy o_wa
  refine ⟨⟨o_zc, o_lc, o_fc, ?_, o_wi, wb, o_vo, o_fr, o_to, o_he, o_ar, o_ki, ?_, o_ff, o_sl, o_dc, o_da⟩, hDc, hT, hS, hW, hE, hV⟩
  · show 0 ≤ ns 3 + 1 ∧ ns 3 + 1 ≤ 512
    omega
  · exact m_stk_b o_he o_st (fun j a b => by
      have a1 := o_fr j a b
      have a2 := o_to j a b
      have w1 := wb (nf 3 j) (by omega) (by omega)
      have w2 := wb (nf 4 j) (by omega) (by omega)
      omega)
/-! the relation -/
theorem mn_zn {nf nf' : Nat → Int → Int} {ns ns' : Nat → Int} {mi : Nat → Int → Int} {ms : Nat → Int} {da : Int → Int → Int} {x y : Int} (hN : v_N nf ns da) (h : mn_R nf ns mi ms) (hz : v_zn nf ns x y nf' ns') (h8 : ns 0 < 8) : mn_R nf' ns' (nw (nw mi 1 (pu (mi 1) (ms 2) x)) 2 (pu (mi 2) (ms 2) y)) (nw (nw ms 0 0) 2 (ms 2 + 1)) := by
  obtain ⟨hOk, hDc, hT, hS, hW, hE, hV⟩ := hN
  obtain ⟨o_zc, o_lc, o_fc, o_ve, o_wi, o_wa, o_vo, o_fr, o_to, -⟩ := hOk
  obtain ⟨r_zo, r_le, r_fa, r_wi, r_ai, r_wa, r_vo, r_lk, r_fn⟩ := h
  obtain ⟨rfl, rfl⟩ := hz
  refine ⟨show ms 2 + 1 = ns 0 + 1 by omega, r_le, r_fa, r_wi, fun j a b => ?_, fun z a b => ?_, fun z a b => ?_, fun k a b => ?_, r_fn⟩
  · show ms 1 = pu (nf 1) (ns 0 + 4) x j
    rw [pu_n _ _ (by omega)]
    exact r_ai j a b
  · show pu (mi 1) (ms 2) x z = pu (nf 1) (ns 0 + 4) x (z + 4)
    unfold pu
    by_cases c : z = ms 2
    · rw [if_pos c, if_pos (by omega)]
    · rw [if_neg c, if_neg (by omega)]; exact r_wa z a b
  · show pu (mi 2) (ms 2) y z = pu (nf 2) (ns 0) y z
    rw [r_zo]
    unfold pu
    by_cases c : z = ns 0
    · rw [if_pos c, if_pos c]
    · rw [if_neg c, if_neg c]; exact r_vo z a b
  · have q := r_lk k a b
    have w := hW k (Or.inl ⟨a, b⟩)
    refine ⟨q.1, q.2.1, q.2.2.1, q.2.2.2.1, q.2.2.2.2.1, ?_⟩
    show nf 8 k = (nf 5 k * (pu (nf 1) (ns 0 + 4) x (nf 3 k) - pu (nf 1) (ns 0 + 4) x (nf 4 k))).tdiv 100
    rw [pu_n _ _ (by omega), pu_n _ _ (by omega)]
    exact q.2.2.2.2.2
theorem mn_wd {nf nf' : Nat → Int → Int} {ns ns' : Nat → Int} {mi : Nat → Int → Int} {ms : Nat → Int} {x y : Int} (h : mn_R nf ns mi ms) (hz : v_wd nf ns x y nf' ns') : mn_R nf' ns' (nw mi 0 (pu (mi 0) (x + 4) y)) (nw ms 0 0) := by
  obtain ⟨r_zo, r_le, r_fa, r_wi, r_ai, r_wa, r_vo, r_lk, r_fn⟩ := h
  obtain ⟨rfl, rfl⟩ := hz
  refine ⟨r_zo, r_le, r_fa, fun j a b => ?_, r_ai, r_wa, r_vo, r_lk, r_fn⟩
  show pu (mi 0) (x + 4) y j = pu (nf 0) (x + 4) y j
  unfold pu
  by_cases c : j = x + 4
  · rw [if_pos c, if_pos c]
  · rw [if_neg c, if_neg c]; exact r_wi j a b
theorem m_wa_s {x y : Int} {f : Int → Int} (h : x < 0) {j : Int} (h0 : 0 ≤ j) (h1 : j < 4) (hx : -4 ≤ x) : m_wa (x + 4) y f j = y := by
  unfold m_wa m_wt fl
  rw [if_pos (show x + 4 < 4 by omega)]
  exact if_pos ⟨h0, h1⟩
theorem m_wa_o {x y : Int} {f : Int → Int} (h : x < 0) {j : Int} (h1 : 4 ≤ j) : m_wa (x + 4) y f j = f j := by
  unfold m_wa m_wt fl
  rw [if_pos (show x + 4 < 4 by omega), if_neg (show ¬ (0 ≤ j ∧ j < 4) by omega)]
  exact pu_n _ _ (by omega)
theorem m_wa_z {x y : Int} {f : Int → Int} (h : 0 ≤ x) (j : Int) : m_wa (x + 4) y f j = pu f (x + 4) y j := by
  unfold m_wa m_wt fl
  rw [if_neg (show ¬ x + 4 < 4 by omega), if_neg (by omega)]
theorem mn_wm {nf nf' : Nat → Int → Int} {ns ns' : Nat → Int} {mi mi' : Nat → Int → Int} {ms ms' : Nat → Int} {x y : Int} (h : mn_R nf ns mi ms) (hz : v_wm nf ns x y nf' ns') (hx : -4 ≤ x) (hm : (x < 0 ∧ mi' = mi ∧ ms' = nw (nw ms 0 0) 1 y) ∨ (0 ≤ x ∧ mi' = nw mi 1 (pu (mi 1) x y) ∧ ms' = nw ms 0 0)) : mn_R nf' ns' mi' ms' := by
  obtain ⟨r_zo, r_le, r_fa, r_wi, r_ai, r_wa, r_vo, r_lk, r_fn⟩ := h
  obtain ⟨rfl, rfl⟩ := hz
  have hs : ∀ k, 0 ≤ k → k < ns 1 → m_stk nf (m_wa (x + 4) y (nf 1)) (ns 1) k = (nf 5 k * (m_wa (x + 4) y (nf 1) (nf 3 k) - m_wa (x + 4) y (nf 1) (nf 4 k))).tdiv 100 := fun k a b => if_pos ⟨a, b⟩
  rcases hm with ⟨c, rfl, rfl⟩ | ⟨c, rfl, rfl⟩
  · refine ⟨r_zo, r_le, r_fa, r_wi, fun j a b => (m_wa_s c a b hx).symm, fun z a b => ?_, r_vo, fun k a b => ?_, r_fn⟩
    · show mi' 1 z = m_wa (x + 4) y (nf 1) (z + 4)
      rw [m_wa_o c (by omega)]; exact r_wa z a b
    · have q := r_lk k a b
      exact ⟨q.1, q.2.1, q.2.2.1, q.2.2.2.1, q.2.2.2.2.1, hs k a b⟩
  · refine ⟨r_zo, r_le, r_fa, r_wi, fun j a b => ?_, fun z a b => ?_, r_vo, fun k a b => ?_, r_fn⟩
    · show ms 1 = m_wa (x + 4) y (nf 1) j
      rw [m_wa_z c, pu_n _ _ (by omega)]; exact r_ai j a b
    · show pu (mi 1) x y z = m_wa (x + 4) y (nf 1) (z + 4)
      rw [m_wa_z c]
      unfold pu
      by_cases e : z = x
      · rw [if_pos e, if_pos (by omega)]
      · rw [if_neg e, if_neg (by omega)]; exact r_wa z a b
    · have q := r_lk k a b
      exact ⟨q.1, q.2.1, q.2.2.1, q.2.2.2.1, q.2.2.2.2.1, hs k a b⟩
