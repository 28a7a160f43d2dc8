/-! leaks and fans -/
def v_lk (nf : Nat → Int → Int) (ns : Nat → Int) (da : Int → Int → Int) (x y z xa xb : Int) (nf' : Nat → Int → Int) (ns' : Nat → Int) (da' : Int → Int → Int) : Prop :=
  v_dk nf da (ns 1) (x + 4) (y + 4) nf' da' ∧ (nf' 0 = nf 0 ∧ nf' 1 = nf 1 ∧ nf' 2 = nf 2 ∧ nf' 9 = nf 9 ∧ nf' 10 = nf 10) ∧ (nf' 5 = pu (nf 5) (ns 1) z ∧ nf' 6 = pu (nf 6) (ns 1) xa ∧ nf' 7 = pu (nf 7) (ns 1) xb ∧ nf' 8 = pu (nf 8) (ns 1) ((z * (nf 1 (x + 4) - nf 1 (y + 4))).tdiv 100)) ∧ (ns' 0 = ns 0 ∧ ns' 1 = ns 1 + 1 ∧ ns' 2 = ns 2 ∧ ns' 3 = ns 3 + 1)
def v_fn (nf : Nat → Int → Int) (ns : Nat → Int) (da : Int → Int → Int) (x y z xa : Int) (nf' : Nat → Int → Int) (ns' : Nat → Int) (da' : Int → Int → Int) : Prop :=
  v_dk nf da (20 + ns 2) (x + 4) (y + 4) nf' da' ∧ (nf' 0 = nf 0 ∧ nf' 1 = nf 1 ∧ nf' 2 = nf 2 ∧ nf' 5 = nf 5 ∧ nf' 6 = nf 6 ∧ nf' 7 = nf 7 ∧ nf' 8 = nf 8) ∧ (nf' 9 = pu (nf 9) (ns 2) z ∧ nf' 10 = pu (nf 10) (ns 2) xa) ∧ (ns' 0 = ns 0 ∧ ns' 1 = ns 1 ∧ ns' 2 = ns 2 + 1 ∧ ns' 3 = ns 3 + 1)
theorem pu_bb {f : Int → Int} {k v L U : Int} {n : Int} (h : ∀ j, 0 ≤ j → j < n → L ≤ f j ∧ f j ≤ U) (hv : L ≤ v ∧ v ≤ U) : ∀ j, 0 ≤ j → j < n → L ≤ pu f k v j ∧ pu f k v j ≤ U := by
  intro j a b
  unfold pu
  by_cases c : j = k
  · rw [if_pos c]; exact hv
  · rw [if_neg c]; exact h j a b
theorem v_lk_N {nf nf' : Nat → Int → Int} {ns ns' : Nat → Int} {da da' : Int → Int → Int} {x y z xa xb : Int} (h : v_N nf ns da) (hk : v_lk nf ns da x y z xa xb nf' ns' da') (hx : -4 ≤ x ∧ x ≤ ns 0 - 1) (hy : -4 ≤ y ∧ y ≤ ns 0 - 1) (hxy : x ≠ y) (hz : 0 ≤ z ∧ z ≤ 100) (ha : 1 ≤ xa ∧ xa ≤ 1000) (hb : 0 ≤ xb ∧ xb ≤ 1) (h20 : ns 1 < 20) (hv : ns 3 < 512) : v_N nf' ns' da' := by
  obtain ⟨k1, ⟨k20, k21, k22, k29, k210⟩, ⟨k35, k36, k37, k38⟩, ⟨k40, k41, k42, k43⟩⟩ := hk
  have h' := h
  obtain ⟨⟨o_zc, o_lc, o_fc, o_ve, o_wi, o_wa, o_vo, o_fr, o_to, o_he, o_ar, o_ki, o_st, o_ff, o_sl, o_dc, o_da⟩, -⟩ := h'
  have w1 := o_wa (x + 4) (by omega) (by omega)
  have w2 := o_wa (y + 4) (by omega) (by omega)
  have m := mul_b (x := z) (y := nf 1 (x + 4) - nf 1 (y + 4)) (X := 100) (Y := 2000) (by omega) (by omega) (by omega) (by omega)
  exact v_dk_N h k1 ⟨k40, k43, Or.inl ⟨rfl, h20, k41, k42⟩⟩ (by omega) (by omega) (by omega) k20 k21 k22 (by rw [k35]; exact pu_bb o_he hz) (by rw [k36]; exact pu_bb o_ar (by omega)) (by rw [k37]; exact pu_bb o_ki hb) (by rw [k38]; exact pu_bb o_st (td_b (by omega) (by omega))) (by rw [k29]; exact o_ff) (by rw [k210]; exact o_sl) hv
theorem v_fn_N {nf nf' : Nat → Int → Int} {ns ns' : Nat → Int} {da da' : Int → Int → Int} {x y z xa : Int} (h : v_N nf ns da) (hk : v_fn nf ns da x y z xa nf' ns' da') (hx : -4 ≤ x ∧ x ≤ ns 0 - 1) (hy : -4 ≤ y ∧ y ≤ ns 0 - 1) (hxy : x ≠ y) (hz : 0 ≤ z ∧ z ≤ 10000) (ha : 0 ≤ xa ∧ xa ≤ 100) (h4 : ns 2 < 4) (hv : ns 3 < 512) : v_N nf' ns' da' := by
  obtain ⟨k1, ⟨k20, k21, k22, k25, k26, k27, k28⟩, ⟨k39, k310⟩, ⟨k40, k41, k42, k43⟩⟩ := hk
  have h' := h
  obtain ⟨⟨o_zc, o_lc, o_fc, o_ve, o_wi, o_wa, o_vo, o_fr, o_to, o_he, o_ar, o_ki, o_st, o_ff, o_sl, o_dc, o_da⟩, -⟩ := h'
  exact v_dk_N h k1 ⟨k40, k43, Or.inr ⟨rfl, h4, k41, k42⟩⟩ (by omega) (by omega) (by omega) k20 k21 k22 (by rw [k25]; exact o_he) (by rw [k26]; exact o_ar) (by rw [k27]; exact o_ki) (by rw [k28]; exact o_st) (by rw [k39]; exact pu_bb o_ff hz) (by rw [k310]; exact pu_bb o_sl ha) hv
theorem pu_c {f g : Int → Int} {k k' v j c : Int} (hk : k' = k) (h : j ≠ k → f j + c = g j) : pu f k v j + c = pu g k' (v + c) j := by
  subst hk
  unfold pu
  by_cases e : j = k'
  · rw [if_pos e, if_pos e]
  · rw [if_neg e, if_neg e]; exact h e
theorem pu_c0 {f g : Int → Int} {k k' v j : Int} (hk : k' = k) (h : j ≠ k → f j = g j) : pu f k v j = pu g k' v j := by
  subst hk
  unfold pu
  by_cases e : j = k'
  · rw [if_pos e, if_pos e]
  · rw [if_neg e, if_neg e]; exact h e
theorem mn_lk {nf nf' : Nat → Int → Int} {ns ns' : Nat → Int} {da da' : Int → Int → Int} {mi : Nat → Int → Int} {ms : Nat → Int} {x y z xa xb : Int} (hN : v_N nf ns da) (h : mn_R nf ns mi ms) (hk : v_lk nf ns da x y z xa xb nf' ns' da') (h20 : ns 1 < 20) : mn_R nf' ns' (nw (nw (nw (nw (nw mi 4 (pu (mi 4) (ms 3) x)) 5 (pu (mi 5) (ms 3) y)) 6 (pu (mi 6) (ms 3) z)) 7 (pu (mi 7) (ms 3) xa)) 8 (pu (mi 8) (ms 3) xb)) (nw (nw ms 0 0) 3 (ms 3 + 1)) := by
  obtain ⟨⟨o_zc, o_lc, o_fc, -⟩, -⟩ := hN
  obtain ⟨r_zo, r_le, r_fa, r_wi, r_ai, r_wa, r_vo, r_lk, r_fn⟩ := h
  obtain ⟨⟨k3, k4, -, -⟩, ⟨k20, k21, k22, k29, k210⟩, ⟨k35, k36, k37, k38⟩, ⟨k40, k41, k42, k43⟩⟩ := hk
  refine ⟨?_, ?_, ?_, ?_, ?_, ?_, ?_, fun k a b => ?_, fun f a b => ?_⟩
  · rw [k40]; exact r_zo
  · rw [k41]; show ms 3 + 1 = ns 1 + 1; omega
  · rw [k42]; exact r_fa
  · rw [k20]; exact r_wi
  · rw [k21]; exact r_ai
  · rw [k21]; exact r_wa
  · rw [k22]; exact r_vo
  · have b : k < ns 1 + 1 := by rw [← k41]; exact b
    have q : k ≠ ms 3 → _ := fun e => r_lk k a (by omega)
    rw [k3, k4, k35, k36, k37, k38, k21]
    refine ⟨pu_c r_le.symm (fun e => (q e).1), pu_c r_le.symm (fun e => (q e).2.1), pu_c0 r_le.symm (fun e => (q e).2.2.1), pu_c0 r_le.symm (fun e => (q e).2.2.2.1), pu_c0 r_le.symm (fun e => (q e).2.2.2.2.1), ?_⟩
    by_cases e : k = ns 1
    · rw [e, pu_s, pu_s, pu_s, pu_s]
    · rw [pu_n _ _ e, pu_n _ _ e, pu_n _ _ e, pu_n _ _ e]
      exact (q (by omega)).2.2.2.2.2
  · have b : f < ns 2 := by rw [← k42]; exact b
    have q := r_fn f a b
    rw [k3, k4, k29, k210, pu_n _ _ (by omega), pu_n _ _ (by omega)]
    exact q
theorem mn_fn {nf nf' : Nat → Int → Int} {ns ns' : Nat → Int} {da da' : Int → Int → Int} {mi : Nat → Int → Int} {ms : Nat → Int} {x y z xa : Int} (hN : v_N nf ns da) (h : mn_R nf ns mi ms) (hk : v_fn nf ns da x y z xa nf' ns' da') : mn_R nf' ns' (nw (nw (nw (nw mi 9 (pu (mi 9) (ms 4) x)) 10 (pu (mi 10) (ms 4) y)) 11 (pu (mi 11) (ms 4) z)) 12 (pu (mi 12) (ms 4) xa)) (nw (nw ms 0 0) 4 (ms 4 + 1)) := by
  obtain ⟨⟨o_zc, o_lc, o_fc, -⟩, -⟩ := hN
  obtain ⟨r_zo, r_le, r_fa, r_wi, r_ai, r_wa, r_vo, r_lk, r_fn⟩ := h
  obtain ⟨⟨k3, k4, -, -⟩, ⟨k20, k21, k22, k25, k26, k27, k28⟩, ⟨k39, k310⟩, ⟨k40, k41, k42, k43⟩⟩ := hk
  refine ⟨?_, ?_, ?_, ?_, ?_, ?_, ?_, fun k a b => ?_, fun f a b => ?_⟩
  · rw [k40]; exact r_zo
  · rw [k41]; exact r_le
  · rw [k42]; show ms 4 + 1 = ns 2 + 1; omega
  · rw [k20]; exact r_wi
  · rw [k21]; exact r_ai
  · rw [k21]; exact r_wa
  · rw [k22]; exact r_vo
  · have b : k < ns 1 := by rw [← k41]; exact b
    have q := r_lk k a b
    rw [k3, k4, k25, k26, k27, k28, k21, pu_n _ _ (by omega), pu_n _ _ (by omega)]
    exact q
  · have b : f < ns 2 + 1 := by rw [← k42]; exact b
    have q : f ≠ ms 4 → _ := fun e => r_fn f a (by omega)
    rw [k3, k4, k39, k310]
    have s3 : pu (mi 9) (ms 4) x f + 4 = pu (nf 3) (20 + ns 2) (x + 4) (20 + f) := by
      unfold pu
      by_cases e : f = ms 4
      · rw [if_pos e, if_pos (by omega)]
      · rw [if_neg e, if_neg (by omega)]; exact (q e).1
    have s4 : pu (mi 10) (ms 4) y f + 4 = pu (nf 4) (20 + ns 2) (y + 4) (20 + f) := by
      unfold pu
      by_cases e : f = ms 4
      · rw [if_pos e, if_pos (by omega)]
      · rw [if_neg e, if_neg (by omega)]; exact (q e).2.1
    exact ⟨s3, s4, pu_c0 r_fa.symm (fun e => (q e).2.2.1), pu_c0 r_fa.symm (fun e => (q e).2.2.2)⟩
