/-! all that stays true between two calls -/
def v_S (ns : Nat → Int) (ss : Nat → Nat) : Prop := ss 0 < 2 ^ (ns 1).toNat ∧ ∀ k, k < 9 → ss k < 2 ^ 20
def v_U (ns : Nat → Int) (ui ul : Nat → Int → Int) : Prop := s_B (ul 0) ∧ (∀ j, 0 ≤ j → j < 12 → 0 ≤ ui 0 j ∧ ui 0 j ≤ 1000000) ∧ (∀ j, 4 + ns 0 ≤ j → j < 12 → ui 0 j = 0) ∧ pn_Fl (ui 1)
def v_R (nf : Nat → Int → Int) (ns : Nat → Int) (ui ul : Nat → Int → Int) (cn : Int) (ss : Nat → Nat) (mi ml : Nat → Int → Int) (mz : Int → Int) (ms : Nat → Int) : Prop :=
  mn_R nf ns mi ms ∧ ms 5 = cn ∧ s_ag (mH ml) (ul 0) ∧ (∀ z, 0 ≤ z → z < 8 → mi 3 z = ui 0 (z + 4)) ∧ (∀ t : Nat, t < 20 → mz (t : Int) = b2 ((ss 0).testBit t = true)) ∧ (∀ c : Nat, (c : Int) < cn → mi 13 (c : Int) = ((ss (c + 1) : Nat) : Int))
def v_J (nf : Nat → Int → Int) (ns : Nat → Int) (da : Int → Int → Int) (ui ul : Nat → Int → Int) (cn : Int) (ss : Nat → Nat) (mf sd : Nat → Int) (pr : Nat → Int → Int) (mi ml : Nat → Int → Int) (mz : Int → Int) (ms : Nat → Int) : Prop :=
  v_N nf ns da ∧ (0 ≤ cn ∧ cn ≤ 8) ∧ v_S ns ss ∧ v_K nf ns da cn ss mf sd pr ∧ v_U ns ui ul ∧ v_R nf ns ui ul cn ss mi ml mz ms
section VJ
variable {nf : Nat → Int → Int} {ns : Nat → Int} {da : Int → Int → Int} {ui ul : Nat → Int → Int} {cn : Int} {ss : Nat → Nat} {mf sd : Nat → Int} {pr : Nat → Int → Int} {mi ml : Nat → Int → Int} {mz : Int → Int} {ms : Nat → Int}
theorem v_J_ok (h : v_J nf ns da ui ul cn ss mf sd pr mi ml mz ms) : pn_Ok nf ns da := h.1.1
theorem v_J_R (h : v_J nf ns da ui ul cn ss mf sd pr mi ml mz ms) : mn_R nf ns mi ms := h.2.2.2.2.2.1
theorem v_J_mn (h : v_J nf ns da ui ul cn ss mf sd pr mi ml mz ms) : mn_Ok ms := by
  obtain ⟨⟨⟨o_zc, o_lc, o_fc, -⟩, -⟩, hc, -, -, -, ⟨⟨r1, r2, r3, -⟩, r5, -⟩⟩ := h
  exact ⟨by omega, by omega, by omega, by omega⟩
theorem v_J_mono (h : v_J nf ns da ui ul cn ss mf sd pr mi ml mz ms) (S : Nat) : pn_Mono (ns 0) (m_G nf da S) := m_G_mono h.1.1 h.1.2.2.1
theorem v_J_hC (h : v_J nf ns da ui ul cn ss mf sd pr mi ml mz ms) : ∀ k : Nat, k < 9 → (sd k = 0 ∨ sd k = 1) ∧ (-1 ≤ mf k ∧ mf k ≤ 512) ∧ (mf k = ns 3 → pn_P5 (pr k) ∧ pn_Le (ns 0) (nf 0) (m_G nf da (ss k)) (sd k) (pr k)) := fun k hk => by
  obtain ⟨⟨⟨-, -, -, o_ve, -⟩, -⟩, -, -, hK, -⟩ := h
  obtain ⟨a, b, -, d⟩ := hK k hk
  exact ⟨a, by omega, d⟩
/-- a change of the net -/
theorem v_J_net {nf' : Nat → Int → Int} {ns' : Nat → Int} {da' : Int → Int → Int} {mi' : Nat → Int → Int} {ms' : Nat → Int} (h : v_J nf ns da ui ul cn ss mf sd pr mi ml mz ms) (hN : v_N nf' ns' da') (hR : mn_R nf' ns' mi' ms') (e3 : ns' 3 = ns 3 + 1) (e0 : ns 0 ≤ ns' 0) (e1 : ns 1 ≤ ns' 1) (m5 : ms' 5 = ms 5) (m3 : mi' 3 = mi 3) (m13 : mi' 13 = mi 13) : v_J nf' ns' da' ui ul cn ss mf sd pr mi' ml mz ms' := by
  obtain ⟨⟨⟨o_zc, o_lc, o_fc, o_ve, -⟩, -⟩, hc, ⟨s0, s1⟩, hK, ⟨u1, u2, u3, u4⟩, ⟨-, r5, r6, r7, r8, r9⟩⟩ := h
  refine ⟨hN, hc, ⟨?_, s1⟩, fun k hk => ?_, ⟨u1, u2, fun j a b => u3 j (by omega) b, u4⟩, ⟨hR, by omega, r6, by rw [m3]; exact r7, r8, by rw [m13]; exact r9⟩⟩
  · exact Nat.lt_of_lt_of_le s0 (Nat.pow_le_pow_right (by decide) (by omega))
  · obtain ⟨a, b, c, -⟩ := hK k hk
    exact ⟨a, by omega, c, fun q => by omega⟩
/-- the reference's code, its state and the set that it was made for -/
theorem v_J_code {c : Int} (h : v_J nf ns da ui ul cn ss mf sd pr mi ml mz ms) : v_J nf ns da ui ul cn ss mf sd pr mi ml mz (nw ms 0 c) := h
theorem v_J_made {f : Int → Int} {c q : Int} (h : v_J nf ns da ui ul cn ss mf sd pr mi ml mz ms) : v_J nf ns da ui ul cn ss mf sd pr (nw mi 14 f) ml mz (nw (nw ms 0 c) 6 q) := h
/-- the class's state k is made -/
theorem v_J_set {k : Nat} {P : Int → Int} {b : Int} (h : v_J nf ns da ui ul cn ss mf sd pr mi ml mz ms) (hk : (k : Int) ≤ cn) (h5 : pn_P5 P) (hL : pn_Le (ns 0) (nf 0) (m_G nf da (ss k)) b P) : v_J nf ns da ui ul cn ss (nw mf k (ns 3)) (nw sd k b) (nw pr k P) mi ml mz ms := by
  obtain ⟨hN, hc, hS, hK, hU, hR⟩ := h
  have o_ve := hN.1.2.2.2.1
  refine ⟨hN, hc, hS, fun j hj => ?_, hU, hR⟩
  by_cases e : j = k
  · subst e
    rw [nw_s, nw_s, nw_s]
    exact ⟨pn_Le_01 hL, by omega, fun q => by omega, fun _ => ⟨h5, hL⟩⟩
  · rw [nw_n _ _ e, nw_n _ _ e, nw_n _ _ e]
    exact hK j hj
theorem v_J_shut {x z : Int} {s' : Nat} {m' : Int} (h : v_J nf ns da ui ul cn ss mf sd pr mi ml mz ms) (hx : 0 ≤ x ∧ x ≤ ns 1 - 1) (hz : z = 0 ∨ z = 1) (hs : (b2 ((ss 0).testBit x.toNat = true) = z ∧ s' = ss 0 ∧ m' = mf 0) ∨ (b2 ((ss 0).testBit x.toNat = true) ≠ z ∧ s' = ss 0 ^^^ 2 ^ x.toNat ∧ m' = -1)) : v_J nf ns da ui ul cn (nw ss 0 s') (nw mf 0 m') sd pr mi ml (pu mz x z) (nw ms 0 0) := by
  obtain ⟨hN, hc, ⟨s0, s1⟩, hK, hU, ⟨r1, r5, r6, r7, r8, r9⟩⟩ := h
  have o_lc := hN.1.2.1
  have o_ve := hN.1.2.2.2.1
  have hbit : ∀ t : Nat, s'.testBit t = true ↔ (if t = x.toNat then z = 1 else (ss 0).testBit t = true) := by
    intro t
    rcases hs with ⟨e, rfl, -⟩ | ⟨e, rfl, -⟩
    · by_cases c : t = x.toNat
      · rw [if_pos c, c, ← e]
        by_cases q : (ss 0).testBit x.toNat = true
        · rw [b2_t q]; exact ⟨fun _ => rfl, fun _ => q⟩
        · rw [b2_f q]; exact ⟨fun w => absurd w q, fun w => absurd w (by decide)⟩
      · rw [if_neg c]
    · rw [Nat.testBit_xor, Nat.testBit_two_pow]
      by_cases c : t = x.toNat
      · rw [if_pos c, c]
        by_cases q : (ss 0).testBit x.toNat = true
        · rw [b2_t q] at e
          simp [q]; omega
        · rw [b2_f q] at e
          simp [q]; omega
      · rw [if_neg c]
        simp [show ¬ x.toNat = t from fun w => c w.symm]
  have hlt : s' < 2 ^ (ns 1).toNat := by
    rcases hs with ⟨-, rfl, -⟩ | ⟨-, rfl, -⟩
    · exact s0
    · exact Nat.xor_lt_two_pow s0 (Nat.pow_lt_pow_right (by decide) (by omega))
  have h20 : s' < 2 ^ 20 := Nat.lt_of_lt_of_le hlt (Nat.pow_le_pow_right (by decide) (by omega))
  refine ⟨hN, hc, ⟨by rw [nw_s]; exact hlt, fun k hk => ?_⟩, fun k hk => ?_, hU, ⟨r1, r5, r6, r7, fun t ht => ?_, fun c hc2 => ?_⟩⟩
  · by_cases e : k = 0
    · subst e; rw [nw_s]; exact h20
    · rw [nw_n _ _ e]; exact s1 k hk
  · by_cases e : k = 0
    · subst e
      rw [nw_s, nw_s]
      obtain ⟨a, b, c, d⟩ := hK 0 hk
      rcases hs with ⟨-, rfl, rfl⟩ | ⟨-, rfl, rfl⟩
      · exact ⟨a, b, c, d⟩
      · exact ⟨a, by omega, fun _ => rfl, fun q => by omega⟩
    · rw [nw_n _ _ e, nw_n _ _ e]; exact hK k hk
  · rw [nw_s]
    unfold pu
    by_cases e : (t : Int) = x
    · rw [if_pos e]
      have hb := hbit t
      rw [if_pos (by omega)] at hb
      rcases hz with rfl | rfl
      · rw [b2_f (fun q => absurd (hb.mp q) (by decide))]
      · rw [b2_t (hb.mpr rfl)]
    · rw [if_neg e, r8 t ht]
      have hb := hbit t
      rw [if_neg (by omega)] at hb
      exact b2_iff hb.symm
  · rw [nw_n _ _ (by omega)]; exact r9 c hc2
theorem v_J_case {x : Int} (h : v_J nf ns da ui ul cn ss mf sd pr mi ml mz ms) (hx : 0 ≤ x ∧ x < ((2 ^ (ns 1).toNat : Nat) : Int)) (h8 : cn < 8) : v_J nf ns da ui ul (cn + 1) (nw ss (cn.toNat + 1) x.toNat) mf sd pr (nw mi 13 (pu (mi 13) (ms 5) x)) ml mz (nw (nw ms 0 0) 5 (ms 5 + 1)) := by
  obtain ⟨hN, hc, ⟨s0, s1⟩, hK, hU, ⟨r1, r5, r6, r7, r8, r9⟩⟩ := h
  have o_lc := hN.1.2.1
  have o_ve := hN.1.2.2.2.1
  have h20 : 2 ^ (ns 1).toNat ≤ 2 ^ 20 := Nat.pow_le_pow_right (by decide) (by omega)
  refine ⟨hN, by omega, ⟨by rw [nw_n _ _ (by omega)]; exact s0, fun k hk => ?_⟩, fun k hk => ?_, hU, ⟨r1, show ms 5 + 1 = cn + 1 by omega, r6, r7, fun t ht => by rw [nw_n _ _ (by omega)]; exact r8 t ht, fun c hc2 => ?_⟩⟩
  · by_cases e : k = cn.toNat + 1
    · subst e; rw [nw_s]; omega
    · rw [nw_n _ _ e]; exact s1 k hk
  · obtain ⟨a, b, c, d⟩ := hK k hk
    refine ⟨a, b, fun q => c (by omega), fun q => ?_⟩
    by_cases e : k = cn.toNat + 1
    · have := c (by omega)
      omega
    · rw [nw_n _ _ e]; exact d q
  · show pu (mi 13) (ms 5) x (c : Int) = _
    unfold pu
    by_cases e : (c : Int) = ms 5
    · rw [if_pos e, show c + 1 = cn.toNat + 1 by omega, nw_s]; omega
    · rw [if_neg e, nw_n _ _ (by omega)]; exact r9 c (by omega)
theorem v_J_put {x y : Int} (h : v_J nf ns da ui ul cn ss mf sd pr mi ml mz ms) (hx : 0 ≤ x ∧ x ≤ ns 0 - 1) (hy : 0 ≤ ul 0 (x + 4) + y ∧ ul 0 (x + 4) + y ≤ 1000000000) : v_J nf ns da ui (nw ul 0 (pu (ul 0) (x + 4) (ul 0 (x + 4) + y))) cn ss mf sd pr mi (nw ml 0 (pu (ml 0) x (ml 0 x + y))) mz (nw ms 0 0) ∧ ml 0 x = ul 0 (x + 4) := by
  obtain ⟨hN, hc, hS, hK, ⟨u1, u2, u3, u4⟩, ⟨r1, r5, r6, r7, r8, r9⟩⟩ := h
  have o_zc := hN.1.1
  have e : ml 0 x = ul 0 (x + 4) := by
    have q := r6 (x + 4) (by omega) (by omega)
    unfold mH at q
    rw [if_neg (by omega), show x + 4 - 4 = x by omega] at q
    exact q
  refine ⟨⟨hN, hc, hS, hK, ⟨fun j a b => ?_, u2, u3, u4⟩, ⟨r1, r5, fun j a b => ?_, r7, r8, r9⟩⟩, e⟩
  · show 0 ≤ pu (ul 0) (x + 4) (ul 0 (x + 4) + y) j ∧ pu (ul 0) (x + 4) (ul 0 (x + 4) + y) j ≤ 1000000000
    unfold pu
    by_cases c : j = x + 4
    · rw [if_pos c]; exact hy
    · rw [if_neg c]; exact u1 j a b
  · have q := r6 j a b
    unfold mH at q ⊢
    show (if j < 4 then ml 1 j else pu (ml 0) x (ml 0 x + y) (j - 4)) = pu (ul 0) (x + 4) (ul 0 (x + 4) + y) j
    unfold pu
    by_cases c : j < 4
    · rw [if_pos c] at q ⊢
      rw [if_neg (by omega)]; exact q
    · rw [if_neg c] at q ⊢
      by_cases c2 : j = x + 4
      · rw [if_pos (by omega), if_pos c2, e]
      · rw [if_neg (by omega), if_neg c2]; exact q
theorem v_J_src {x y : Int} (h : v_J nf ns da ui ul cn ss mf sd pr mi ml mz ms) (hx : 0 ≤ x ∧ x ≤ ns 0 - 1) (hy : 0 ≤ y ∧ y ≤ 1000000) : v_J nf ns da (nw ui 0 (pu (ui 0) (x + 4) y)) ul cn ss mf sd pr (nw mi 3 (pu (mi 3) x y)) ml mz (nw ms 0 0) ∧ mi 3 x = ui 0 (x + 4) := by
  obtain ⟨hN, hc, hS, hK, ⟨u1, u2, u3, u4⟩, ⟨r1, r5, r6, r7, r8, r9⟩⟩ := h
  have o_zc := hN.1.1
  refine ⟨⟨hN, hc, hS, hK, ⟨u1, pu_bb u2 hy, fun j a b => ?_, u4⟩, ⟨r1, r5, r6, fun z a b => ?_, r8, r9⟩⟩, r7 x hx.1 (by omega)⟩
  · show pu (ui 0) (x + 4) y j = 0
    rw [pu_n _ _ (by omega)]; exact u3 j a b
  · show pu (mi 3) x y z = pu (ui 0) (x + 4) y (z + 4)
    unfold pu
    by_cases c : z = x
    · rw [if_pos c, if_pos (by omega)]
    · rw [if_neg c, if_neg (by omega)]; exact r7 z a b
/-- steps -/
theorem v_J_step {ui' ul' ml' : Nat → Int → Int} (h : v_J nf ns da ui ul cn ss mf sd pr mi ml mz ms) (e0 : ui' 0 = ui 0) (hF : pn_Fl (ui' 1)) (hB : s_B (ul' 0)) (hag : s_ag (mH ml') (ul' 0)) : v_J nf ns da ui' ul' cn ss mf sd pr mi ml' mz ms := by
  obtain ⟨hN, hc, hS, hK, ⟨u1, u2, u3, u4⟩, ⟨r1, r5, r6, r7, r8, r9⟩⟩ := h
  exact ⟨hN, hc, hS, hK, ⟨hB, by rw [e0]; exact u2, by rw [e0]; exact u3, hF⟩, ⟨r1, r5, hag, by rw [e0]; exact r7, r8, r9⟩⟩
end VJ
