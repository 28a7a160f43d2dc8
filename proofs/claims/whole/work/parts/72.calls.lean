/-! one call on both sides: the answers agree, and what stays true stays true -/
abbrev vJt (v : vS) (u : vM) : Prop := v_J v.1 v.2.1 v.2.2.1 v.2.2.2.2.1 v.2.2.2.2.2.1 v.2.2.2.2.2.2.1 v.2.2.2.2.2.2.2.1 v.2.2.2.2.2.2.2.2.1 v.2.2.2.2.2.2.2.2.2.1 v.2.2.2.2.2.2.2.2.2.2 u.1 u.2.1 u.2.2.1 u.2.2.2
theorem j_zone {nf : Nat → Int → Int} {ns : Nat → Int} {da : Int → Int → Int} {be : Int → Int} {ui ul : Nat → Int → Int} {cn : Int} {ss : Nat → Nat} {mf sd : Nat → Int} {pr : Nat → Int → Int} {mi ml : Nat → Int → Int} {mz : Int → Int} {ms : Nat → Int} {x y : Int} {r : Int32} {w : vS × (Int → Int)} {r2 : Int32} {u : vM} (hJ : v_J nf ns da ui ul cn ss mf sd pr mi ml mz ms) (hn : ns 3 < 512) (hC : (fun (r : Int32) (w : vS × (Int → Int)) => (r = iI 1 ∧ ¬ ((-1000 ≤ x ∧ x ≤ 1000) ∧ (1 ≤ y ∧ y ≤ 100000)) ∧ w.1 = (nf, ns, da, be, ui, ul, cn, ss, mf, sd, pr)) ∨ (r = iI 2 ∧ ((-1000 ≤ x ∧ x ≤ 1000) ∧ (1 ≤ y ∧ y ≤ 100000)) ∧ (8 ≤ ns 0) ∧ w.1 = (nf, ns, da, be, ui, ul, cn, ss, mf, sd, pr)) ∨ (r = iI 0 ∧ ∃ (r32 : Int32) (u : Unit), (fun (r : Int32) (_ : Unit) => ((-1000 ≤ x ∧ x ≤ 1000) ∧ (1 ≤ y ∧ y ≤ 100000)) ∧ ¬ (8 ≤ ns 0) ∧ r = iI (ns 0)) r32 u ∧ w.1 = ((nw (nw nf 1 (pu (nf 1) ((ns 0) + 4) (x))) 2 (pu ((nw nf 1 (pu (nf 1) ((ns 0) + 4) (x))) 2) (ns 0) (y))), (nw (nw ns 0 ((ns 0) + (1))) 3 (((nw ns 0 ((ns 0) + (1))) 3) + (1))), da, be, ui, ul, cn, ss, mf, sd, pr) ∧ lI (w.2 0) = r32.toInt64)) r w) (hM : (fun (r : Int32) (u : (Nat → Int → Int) × (Nat → Int → Int) × (Int → Int) × (Nat → Int)) => (¬ ((-1000 ≤ x ∧ x ≤ 1000) ∧ (1 ≤ y ∧ y ≤ 100000)) ∧ r = iI 0 ∧ u = (mi, ml, mz, nw ms 0 (1))) ∨ (((-1000 ≤ x ∧ x ≤ 1000) ∧ (1 ≤ y ∧ y ≤ 100000)) ∧ (8 ≤ ms 2) ∧ r = iI 0 ∧ u = (mi, ml, mz, nw ms 0 (2))) ∨ (((-1000 ≤ x ∧ x ≤ 1000) ∧ (1 ≤ y ∧ y ≤ 100000)) ∧ ¬ (8 ≤ ms 2) ∧ r = iI ((((ms 2) + (1))) - (1)) ∧ u = (nw (nw mi 1 (pu (mi 1) (ms 2) (x))) 2 (pu (mi 2) (ms 2) (y)), ml, mz, nw (nw ms 0 (0)) 2 ((ms 2) + (1))))) r2 u) : ∃ k : Int, (k = 0 ∨ k = 1 ∨ k = 2) ∧ r = iI k ∧ u.2.2.2 0 = k ∧ (k = 0 → lI (w.2 0) = r2.toInt64) ∧ vJt w.1 u ∧ w.1.2.1 3 ≤ ns 3 + 1 := by
  obtain ⟨w1, w2⟩ := w
  dsimp only at hC hM
  obtain ⟨hN, hc, hS, hK, hU, hR⟩ := id hJ
  obtain ⟨r_R, r5, r6, r7, r8, r9⟩ := id hR
  obtain ⟨r_zo, r_le, r_fa, r_wi, r_ai, r_wa, r_vo, r_lk, r_fn⟩ := id r_R
  obtain ⟨o_zc, o_lc, o_fc, o_ve, -⟩ := id hN.1
  rcases hC with ⟨rfl, c1, rfl⟩ | ⟨rfl, c1, cf, rfl⟩ | ⟨rfl, r32, u0, cp, rfl, c3⟩
  · skip
    rcases hM with ⟨m1, rfl, rfl⟩ | ⟨m1, mf9, rfl, rfl⟩ | ⟨m1, mf9, rfl, rfl⟩
    · exact ⟨1, by omega, rfl, rfl, fun h => absurd h (by decide), v_J_code hJ, by show ns 3 ≤ ns 3 + 1; omega⟩
    · skip
      exfalso; first | omega | (rcases e with e | e <;> omega)
    · skip
      exfalso; first | omega | (rcases e with e | e <;> omega)
  · skip
    rcases hM with ⟨m1, rfl, rfl⟩ | ⟨m1, mf9, rfl, rfl⟩ | ⟨m1, mf9, rfl, rfl⟩
    · skip
      exfalso; first | omega | (rcases e with e | e <;> omega)
    · exact ⟨2, by omega, rfl, rfl, fun h => absurd h (by decide), v_J_code hJ, by show ns 3 ≤ ns 3 + 1; omega⟩
    · skip
      exfalso; first | omega | (rcases e with e | e <;> omega)
  · have cp9 := cp
    rcases hM with ⟨m1, rfl, rfl⟩ | ⟨m1, mf9, rfl, rfl⟩ | ⟨m1, mf9, rfl, rfl⟩
    · obtain ⟨cq, cp9⟩ := cp9
      exfalso; first | omega | (rcases e with e | e <;> omega)
    · obtain ⟨cq, cp9⟩ := cp9
      exfalso; first | omega | (rcases e with e | e <;> omega)
    · skip
      obtain ⟨cl, cf, rfl⟩ := cp
      exact ⟨0, Or.inl rfl, rfl, rfl, fun _ => (by rw [c3, show ms 2 + 1 - 1 = ns 0 by omega]), v_J_net hJ (v_zn_N (x := x) (y := y) hN ⟨rfl, rfl⟩ cl.1 cl.2 (by omega) hn) (mn_zn (x := x) (y := y) hN r_R ⟨rfl, rfl⟩ (by omega)) rfl (by show ns 0 ≤ ns 0 + 1; omega) (Int.le_refl _) rfl rfl rfl, by show ns 3 + 1 ≤ ns 3 + 1; omega⟩
theorem j_wind {nf : Nat → Int → Int} {ns : Nat → Int} {da : Int → Int → Int} {be : Int → Int} {ui ul : Nat → Int → Int} {cn : Int} {ss : Nat → Nat} {mf sd : Nat → Int} {pr : Nat → Int → Int} {mi ml : Nat → Int → Int} {mz : Int → Int} {ms : Nat → Int} {x y : Int} {r : Int32} {w : vS × (Int → Int)} {r2 : Int32} {u : vM} (hJ : v_J nf ns da ui ul cn ss mf sd pr mi ml mz ms) (hn : ns 3 < 512) (hC : (fun (r : Int32) (w : vS × (Int → Int)) => (r = iI 1 ∧ ¬ ((-4 ≤ x ∧ x ≤ -1) ∧ (-1000 ≤ y ∧ y ≤ 1000)) ∧ w.1 = (nf, ns, da, be, ui, ul, cn, ss, mf, sd, pr)) ∨ (r = iI 0 ∧ ∃ (r32 : Int32) (u : Unit), (fun (r : Int32) (_ : Unit) => ((-4 ≤ x ∧ x ≤ -1) ∧ (-1000 ≤ y ∧ y ≤ 1000)) ∧ r = iI (nf 0 (((x) + 4)))) r32 u ∧ w.1 = ((nw nf 0 (pu (nf 0) (((x) + 4)) (y))), (nw ns 3 ((ns 3) + (1))), da, be, ui, ul, cn, ss, mf, sd, pr) ∧ lI (w.2 0) = r32.toInt64)) r w) (hM : (fun (r : Int32) (u : (Nat → Int → Int) × (Nat → Int → Int) × (Int → Int) × (Nat → Int)) => (¬ ((-4 ≤ x ∧ x ≤ -1) ∧ (-1000 ≤ y ∧ y ≤ 1000)) ∧ r = iI 0 ∧ u = (mi, ml, mz, nw ms 0 (1))) ∨ (((-4 ≤ x ∧ x ≤ -1) ∧ (-1000 ≤ y ∧ y ≤ 1000)) ∧ r = iI (mi 0 (x + 4)) ∧ u = (nw mi 0 (pu (mi 0) (x + 4) (y)), ml, mz, nw ms 0 (0)))) r2 u) : ∃ k : Int, (k = 0 ∨ k = 1 ∨ k = 2) ∧ r = iI k ∧ u.2.2.2 0 = k ∧ (k = 0 → lI (w.2 0) = r2.toInt64) ∧ vJt w.1 u ∧ w.1.2.1 3 ≤ ns 3 + 1 := by
  obtain ⟨w1, w2⟩ := w
  dsimp only at hC hM
  obtain ⟨hN, hc, hS, hK, hU, hR⟩ := id hJ
  obtain ⟨r_R, r5, r6, r7, r8, r9⟩ := id hR
  obtain ⟨r_zo, r_le, r_fa, r_wi, r_ai, r_wa, r_vo, r_lk, r_fn⟩ := id r_R
  obtain ⟨o_zc, o_lc, o_fc, o_ve, -⟩ := id hN.1
  rcases hC with ⟨rfl, c1, rfl⟩ | ⟨rfl, r32, u0, cp, rfl, c3⟩
  · skip
    rcases hM with ⟨m1, rfl, rfl⟩ | ⟨m1, rfl, rfl⟩
    · exact ⟨1, by omega, rfl, rfl, fun h => absurd h (by decide), v_J_code hJ, by show ns 3 ≤ ns 3 + 1; omega⟩
    · skip
      exfalso; first | omega | (rcases e with e | e <;> omega)
  · have cp9 := cp
    rcases hM with ⟨m1, rfl, rfl⟩ | ⟨m1, rfl, rfl⟩
    · obtain ⟨cq, cp9⟩ := cp9
      exfalso; first | omega | (rcases e with e | e <;> omega)
    · skip
      obtain ⟨cl, rfl⟩ := cp
      exact ⟨0, Or.inl rfl, rfl, rfl, fun _ => (by rw [c3, r_wi (x + 4) (by omega) (by omega)]), v_J_net hJ (v_wd_N (x := x) (y := y) hN ⟨rfl, rfl⟩ cl.2 hn) (mn_wd (x := x) (y := y) r_R ⟨rfl, rfl⟩) rfl (Int.le_refl _) (Int.le_refl _) rfl rfl rfl, by show ns 3 + 1 ≤ ns 3 + 1; omega⟩
theorem j_warmth {nf : Nat → Int → Int} {ns : Nat → Int} {da : Int → Int → Int} {be : Int → Int} {ui ul : Nat → Int → Int} {cn : Int} {ss : Nat → Nat} {mf sd : Nat → Int} {pr : Nat → Int → Int} {mi ml : Nat → Int → Int} {mz : Int → Int} {ms : Nat → Int} {x y : Int} {r : Int32} {w : vS × (Int → Int)} {r2 : Int32} {u : vM} (hJ : v_J nf ns da ui ul cn ss mf sd pr mi ml mz ms) (hn : ns 3 < 512) (hC : (fun (r : Int32) (w : vS × (Int → Int)) => (r = iI 1 ∧ ¬ ((-4 ≤ x ∧ x ≤ ns 0 - 1) ∧ (-1000 ≤ y ∧ y ≤ 1000)) ∧ w.1 = (nf, ns, da, be, ui, ul, cn, ss, mf, sd, pr)) ∨ (r = iI 0 ∧ ∃ (r32 : Int32) (u : Unit), (fun (r : Int32) (_ : Unit) => ((-4 ≤ x ∧ x ≤ ns 0 - 1) ∧ (-1000 ≤ y ∧ y ≤ 1000)) ∧ r = iI (nf 1 ((x) + 4))) r32 u ∧ w.1 = ((m_nw nf (m_wa ((x) + 4) (y) (nf 1)) (m_stk nf (m_wa ((x) + 4) (y) (nf 1)) (ns 1))), (nw ns 3 (ns 3 + 1)), da, be, ui, ul, cn, ss, mf, sd, pr) ∧ lI (w.2 0) = r32.toInt64)) r w) (hM : (fun (r : Int32) (u : (Nat → Int → Int) × (Nat → Int → Int) × (Int → Int) × (Nat → Int)) => (¬ ((-4 ≤ x ∧ x ≤ ms 2 - 1) ∧ (-1000 ≤ y ∧ y ≤ 1000)) ∧ r = iI 0 ∧ u = (mi, ml, mz, nw ms 0 (1))) ∨ (((-4 ≤ x ∧ x ≤ ms 2 - 1) ∧ (-1000 ≤ y ∧ y ≤ 1000)) ∧ (0 ≤ x) ∧ r = iI (nf 1 ((x) + 4)) ∧ u = (nw mi 1 (pu (mi 1) (x) (y)), ml, mz, nw ms 0 (0))) ∨ (((-4 ≤ x ∧ x ≤ ms 2 - 1) ∧ (-1000 ≤ y ∧ y ≤ 1000)) ∧ (x < 0) ∧ r = iI (nf 1 ((x) + 4)) ∧ u = (mi, ml, mz, nw (nw ms 0 (0)) 1 (y)))) r2 u) : ∃ k : Int, (k = 0 ∨ k = 1 ∨ k = 2) ∧ r = iI k ∧ u.2.2.2 0 = k ∧ (k = 0 → lI (w.2 0) = r2.toInt64) ∧ vJt w.1 u ∧ w.1.2.1 3 ≤ ns 3 + 1 := by
  obtain ⟨w1, w2⟩ := w
  dsimp only at hC hM
  obtain ⟨hN, hc, hS, hK, hU, hR⟩ := id hJ
  obtain ⟨r_R, r5, r6, r7, r8, r9⟩ := id hR
  obtain ⟨r_zo, r_le, r_fa, r_wi, r_ai, r_wa, r_vo, r_lk, r_fn⟩ := id r_R
  obtain ⟨o_zc, o_lc, o_fc, o_ve, -⟩ := id hN.1
  rcases hC with ⟨rfl, c1, rfl⟩ | ⟨rfl, r32, u0, cp, rfl, c3⟩
  · skip
    rcases hM with ⟨m1, rfl, rfl⟩ | ⟨m1, mx, rfl, rfl⟩ | ⟨m1, mx, rfl, rfl⟩
    · exact ⟨1, by omega, rfl, rfl, fun h => absurd h (by decide), v_J_code hJ, by show ns 3 ≤ ns 3 + 1; omega⟩
    · skip
      exfalso; first | omega | (rcases e with e | e <;> omega)
    · skip
      exfalso; first | omega | (rcases e with e | e <;> omega)
  · have cp9 := cp
    rcases hM with ⟨m1, rfl, rfl⟩ | ⟨m1, mx, rfl, rfl⟩ | ⟨m1, mx, rfl, rfl⟩
    · obtain ⟨cq, cp9⟩ := cp9
      exfalso; first | omega | (rcases e with e | e <;> omega)
    · skip
      obtain ⟨cl, rfl⟩ := cp
      exact ⟨0, Or.inl rfl, rfl, rfl, fun _ => (by exact c3), v_J_net hJ (v_wm_N (x := x) (y := y) hN ⟨rfl, rfl⟩ cl.2 hn) (mn_wm (x := x) (y := y) r_R ⟨rfl, rfl⟩ (by omega) (Or.inr ⟨mx, rfl, rfl⟩)) rfl (Int.le_refl _) (Int.le_refl _) rfl rfl rfl, by show ns 3 + 1 ≤ ns 3 + 1; omega⟩
    · skip
      obtain ⟨cl, rfl⟩ := cp
      exact ⟨0, Or.inl rfl, rfl, rfl, fun _ => (by exact c3), v_J_net hJ (v_wm_N (x := x) (y := y) hN ⟨rfl, rfl⟩ cl.2 hn) (mn_wm (x := x) (y := y) r_R ⟨rfl, rfl⟩ (by omega) (Or.inl ⟨mx, rfl, rfl⟩)) rfl (Int.le_refl _) (Int.le_refl _) rfl rfl rfl, by show ns 3 + 1 ≤ ns 3 + 1; omega⟩
theorem j_leak {nf : Nat → Int → Int} {ns : Nat → Int} {da : Int → Int → Int} {be : Int → Int} {ui ul : Nat → Int → Int} {cn : Int} {ss : Nat → Nat} {mf sd : Nat → Int} {pr : Nat → Int → Int} {mi ml : Nat → Int → Int} {mz : Int → Int} {ms : Nat → Int} {x y z xa xb : Int} {r : Int32} {w : vS × (Int → Int)} {r2 : Int32} {u : vM} (hJ : v_J nf ns da ui ul cn ss mf sd pr mi ml mz ms) (hn : ns 3 < 512) (hC : (fun (r : Int32) (w : vS × (Int → Int)) => (r = iI 1 ∧ ¬ (((-4 ≤ x ∧ x ≤ ns 0 - 1) ∧ (-4 ≤ y ∧ y ≤ ns 0 - 1) ∧ x ≠ y ∧ ¬ ((-4 ≤ x ∧ x ≤ -1) ∧ (-4 ≤ y ∧ y ≤ -1))) ∧ (0 ≤ z ∧ z ≤ 100) ∧ (1 ≤ xa ∧ xa ≤ 1000) ∧ (0 ≤ xb ∧ xb ≤ 1)) ∧ w.1 = (nf, ns, da, be, ui, ul, cn, ss, mf, sd, pr)) ∨ (r = iI 2 ∧ (((-4 ≤ x ∧ x ≤ ns 0 - 1) ∧ (-4 ≤ y ∧ y ≤ ns 0 - 1) ∧ x ≠ y ∧ ¬ ((-4 ≤ x ∧ x ≤ -1) ∧ (-4 ≤ y ∧ y ≤ -1))) ∧ (0 ≤ z ∧ z ≤ 100) ∧ (1 ≤ xa ∧ xa ≤ 1000) ∧ (0 ≤ xb ∧ xb ≤ 1)) ∧ (20 ≤ ns 1) ∧ w.1 = (nf, ns, da, be, ui, ul, cn, ss, mf, sd, pr)) ∨ (r = iI 0 ∧ ∃ (r32 : Int32) (nf' : Nat → Int → Int) (ns' : Nat → Int) (da' : Int → Int → Int), (fun (r : Int32) (_ : Unit) => (((-4 ≤ x ∧ x ≤ ns 0 - 1) ∧ (-4 ≤ y ∧ y ≤ ns 0 - 1) ∧ x ≠ y ∧ ¬ ((-4 ≤ x ∧ x ≤ -1) ∧ (-4 ≤ y ∧ y ≤ -1))) ∧ (0 ≤ z ∧ z ≤ 100) ∧ (1 ≤ xa ∧ xa ≤ 1000) ∧ (0 ≤ xb ∧ xb ≤ 1)) ∧ ¬ (20 ≤ ns 1) ∧ r = iI (ns 1)) r32 () ∧ v_lk nf ns da x y z xa xb nf' ns' da' ∧ w.1 = (nf', ns', da', be, ui, ul, cn, ss, mf, sd, pr) ∧ lI (w.2 0) = r32.toInt64)) r w) (hM : (fun (r : Int32) (u : (Nat → Int → Int) × (Nat → Int → Int) × (Int → Int) × (Nat → Int)) => (¬ (((-4 ≤ x ∧ x ≤ ms 2 - 1) ∧ (-4 ≤ y ∧ y ≤ ms 2 - 1) ∧ x ≠ y ∧ (0 ≤ x ∨ 0 ≤ y)) ∧ (0 ≤ z ∧ z ≤ 100) ∧ (1 ≤ xa ∧ xa ≤ 1000) ∧ (0 ≤ xb ∧ xb ≤ 1)) ∧ r = iI 0 ∧ u = (mi, ml, mz, nw ms 0 (1))) ∨ ((((-4 ≤ x ∧ x ≤ ms 2 - 1) ∧ (-4 ≤ y ∧ y ≤ ms 2 - 1) ∧ x ≠ y ∧ (0 ≤ x ∨ 0 ≤ y)) ∧ (0 ≤ z ∧ z ≤ 100) ∧ (1 ≤ xa ∧ xa ≤ 1000) ∧ (0 ≤ xb ∧ xb ≤ 1)) ∧ (20 ≤ ms 3) ∧ r = iI 0 ∧ u = (mi, ml, mz, nw ms 0 (2))) ∨ ((((-4 ≤ x ∧ x ≤ ms 2 - 1) ∧ (-4 ≤ y ∧ y ≤ ms 2 - 1) ∧ x ≠ y ∧ (0 ≤ x ∨ 0 ≤ y)) ∧ (0 ≤ z ∧ z ≤ 100) ∧ (1 ≤ xa ∧ xa ≤ 1000) ∧ (0 ≤ xb ∧ xb ≤ 1)) ∧ ¬ (20 ≤ ms 3) ∧ r = iI ((((ms 3) + (1))) - (1)) ∧ u = (nw (nw (nw (nw (nw mi 4 (pu (mi 4) (ms 3) (x))) 5 (pu (mi 5) (ms 3) (y))) 6 (pu (mi 6) (ms 3) (z))) 7 (pu (mi 7) (ms 3) (xa))) 8 (pu (mi 8) (ms 3) (xb)), ml, mz, nw (nw ms 0 (0)) 3 ((ms 3) + (1))))) r2 u) : ∃ k : Int, (k = 0 ∨ k = 1 ∨ k = 2) ∧ r = iI k ∧ u.2.2.2 0 = k ∧ (k = 0 → lI (w.2 0) = r2.toInt64) ∧ vJt w.1 u ∧ w.1.2.1 3 ≤ ns 3 + 1 := by
  obtain ⟨w1, w2⟩ := w
  dsimp only at hC hM
  obtain ⟨hN, hc, hS, hK, hU, hR⟩ := id hJ
  obtain ⟨r_R, r5, r6, r7, r8, r9⟩ := id hR
  obtain ⟨r_zo, r_le, r_fa, r_wi, r_ai, r_wa, r_vo, r_lk, r_fn⟩ := id r_R
  obtain ⟨o_zc, o_lc, o_fc, o_ve, -⟩ := id hN.1
  rcases hC with ⟨rfl, c1, rfl⟩ | ⟨rfl, c1, cf, rfl⟩ | ⟨rfl, r32, nf', ns', da', cp, hlk, rfl, c3⟩
  · skip
    rcases hM with ⟨m1, rfl, rfl⟩ | ⟨m1, mf9, rfl, rfl⟩ | ⟨m1, mf9, rfl, rfl⟩
    · exact ⟨1, by omega, rfl, rfl, fun h => absurd h (by decide), v_J_code hJ, by show ns 3 ≤ ns 3 + 1; omega⟩
    · skip
      exfalso; first | omega | (rcases e with e | e <;> omega)
    · skip
      exfalso; first | omega | (rcases e with e | e <;> omega)
  · skip
    rcases hM with ⟨m1, rfl, rfl⟩ | ⟨m1, mf9, rfl, rfl⟩ | ⟨m1, mf9, rfl, rfl⟩
    · skip
      exfalso; first | omega | (rcases e with e | e <;> omega)
    · exact ⟨2, by omega, rfl, rfl, fun h => absurd h (by decide), v_J_code hJ, by show ns 3 ≤ ns 3 + 1; omega⟩
    · skip
      exfalso; first | omega | (rcases e with e | e <;> omega)
  · have cp9 := cp
    rcases hM with ⟨m1, rfl, rfl⟩ | ⟨m1, mf9, rfl, rfl⟩ | ⟨m1, mf9, rfl, rfl⟩
    · obtain ⟨cq, cp9⟩ := cp9
      exfalso; first | omega | (rcases e with e | e <;> omega)
    · obtain ⟨cq, cp9⟩ := cp9
      exfalso; first | omega | (rcases e with e | e <;> omega)
    · skip
      obtain ⟨cl, cf, rfl⟩ := cp
      have k4 := hlk.2.2.2
      exact ⟨0, Or.inl rfl, rfl, rfl, fun _ => (by rw [c3, show ms 3 + 1 - 1 = ns 1 by omega]), v_J_net hJ (v_lk_N hN hlk (by omega) (by omega) (by omega) (by omega) (by omega) (by omega) (by omega) hn) (mn_lk hN r_R hlk (by omega)) k4.2.2.2 (by show ns 0 ≤ ns' 0; omega) (by show ns 1 ≤ ns' 1; omega) rfl rfl rfl, by show ns' 3 ≤ ns 3 + 1; omega⟩
theorem j_fan {nf : Nat → Int → Int} {ns : Nat → Int} {da : Int → Int → Int} {be : Int → Int} {ui ul : Nat → Int → Int} {cn : Int} {ss : Nat → Nat} {mf sd : Nat → Int} {pr : Nat → Int → Int} {mi ml : Nat → Int → Int} {mz : Int → Int} {ms : Nat → Int} {x y z xa : Int} {r : Int32} {w : vS × (Int → Int)} {r2 : Int32} {u : vM} (hJ : v_J nf ns da ui ul cn ss mf sd pr mi ml mz ms) (hn : ns 3 < 512) (hC : (fun (r : Int32) (w : vS × (Int → Int)) => (r = iI 1 ∧ ¬ (((-4 ≤ x ∧ x ≤ ns 0 - 1) ∧ (-4 ≤ y ∧ y ≤ ns 0 - 1) ∧ x ≠ y ∧ ¬ ((-4 ≤ x ∧ x ≤ -1) ∧ (-4 ≤ y ∧ y ≤ -1))) ∧ (0 ≤ z ∧ z ≤ 10000) ∧ (0 ≤ xa ∧ xa ≤ 100)) ∧ w.1 = (nf, ns, da, be, ui, ul, cn, ss, mf, sd, pr)) ∨ (r = iI 2 ∧ (((-4 ≤ x ∧ x ≤ ns 0 - 1) ∧ (-4 ≤ y ∧ y ≤ ns 0 - 1) ∧ x ≠ y ∧ ¬ ((-4 ≤ x ∧ x ≤ -1) ∧ (-4 ≤ y ∧ y ≤ -1))) ∧ (0 ≤ z ∧ z ≤ 10000) ∧ (0 ≤ xa ∧ xa ≤ 100)) ∧ (4 ≤ ns 2) ∧ w.1 = (nf, ns, da, be, ui, ul, cn, ss, mf, sd, pr)) ∨ (r = iI 0 ∧ ∃ (r32 : Int32) (nf' : Nat → Int → Int) (ns' : Nat → Int) (da' : Int → Int → Int), (fun (r : Int32) (_ : Unit) => (((-4 ≤ x ∧ x ≤ ns 0 - 1) ∧ (-4 ≤ y ∧ y ≤ ns 0 - 1) ∧ x ≠ y ∧ ¬ ((-4 ≤ x ∧ x ≤ -1) ∧ (-4 ≤ y ∧ y ≤ -1))) ∧ (0 ≤ z ∧ z ≤ 10000) ∧ (0 ≤ xa ∧ xa ≤ 100)) ∧ ¬ (4 ≤ ns 2) ∧ r = iI (ns 2)) r32 () ∧ v_fn nf ns da x y z xa nf' ns' da' ∧ w.1 = (nf', ns', da', be, ui, ul, cn, ss, mf, sd, pr) ∧ lI (w.2 0) = r32.toInt64)) r w) (hM : (fun (r : Int32) (u : (Nat → Int → Int) × (Nat → Int → Int) × (Int → Int) × (Nat → Int)) => (¬ (((-4 ≤ x ∧ x ≤ ms 2 - 1) ∧ (-4 ≤ y ∧ y ≤ ms 2 - 1) ∧ x ≠ y ∧ (0 ≤ x ∨ 0 ≤ y)) ∧ (0 ≤ z ∧ z ≤ 10000) ∧ (0 ≤ xa ∧ xa ≤ 100)) ∧ r = iI 0 ∧ u = (mi, ml, mz, nw ms 0 (1))) ∨ ((((-4 ≤ x ∧ x ≤ ms 2 - 1) ∧ (-4 ≤ y ∧ y ≤ ms 2 - 1) ∧ x ≠ y ∧ (0 ≤ x ∨ 0 ≤ y)) ∧ (0 ≤ z ∧ z ≤ 10000) ∧ (0 ≤ xa ∧ xa ≤ 100)) ∧ (4 ≤ ms 4) ∧ r = iI 0 ∧ u = (mi, ml, mz, nw ms 0 (2))) ∨ ((((-4 ≤ x ∧ x ≤ ms 2 - 1) ∧ (-4 ≤ y ∧ y ≤ ms 2 - 1) ∧ x ≠ y ∧ (0 ≤ x ∨ 0 ≤ y)) ∧ (0 ≤ z ∧ z ≤ 10000) ∧ (0 ≤ xa ∧ xa ≤ 100)) ∧ ¬ (4 ≤ ms 4) ∧ r = iI ((((ms 4) + (1))) - (1)) ∧ u = (nw (nw (nw (nw mi 9 (pu (mi 9) (ms 4) (x))) 10 (pu (mi 10) (ms 4) (y))) 11 (pu (mi 11) (ms 4) (z))) 12 (pu (mi 12) (ms 4) (xa)), ml, mz, nw (nw ms 0 (0)) 4 ((ms 4) + (1))))) r2 u) : ∃ k : Int, (k = 0 ∨ k = 1 ∨ k = 2) ∧ r = iI k ∧ u.2.2.2 0 = k ∧ (k = 0 → lI (w.2 0) = r2.toInt64) ∧ vJt w.1 u ∧ w.1.2.1 3 ≤ ns 3 + 1 := by
  obtain ⟨w1, w2⟩ := w
  dsimp only at hC hM
  obtain ⟨hN, hc, hS, hK, hU, hR⟩ := id hJ
  obtain ⟨r_R, r5, r6, r7, r8, r9⟩ := id hR
  obtain ⟨r_zo, r_le, r_fa, r_wi, r_ai, r_wa, r_vo, r_lk, r_fn⟩ := id r_R
  obtain ⟨o_zc, o_lc, o_fc, o_ve, -⟩ := id hN.1
  rcases hC with ⟨rfl, c1, rfl⟩ | ⟨rfl, c1, cf, rfl⟩ | ⟨rfl, r32, nf', ns', da', cp, hlk, rfl, c3⟩
  · skip
    rcases hM with ⟨m1, rfl, rfl⟩ | ⟨m1, mf9, rfl, rfl⟩ | ⟨m1, mf9, rfl, rfl⟩
    · exact ⟨1, by omega, rfl, rfl, fun h => absurd h (by decide), v_J_code hJ, by show ns 3 ≤ ns 3 + 1; omega⟩
    · skip
      exfalso; first | omega | (rcases e with e | e <;> omega)
    · skip
      exfalso; first | omega | (rcases e with e | e <;> omega)
  · skip
    rcases hM with ⟨m1, rfl, rfl⟩ | ⟨m1, mf9, rfl, rfl⟩ | ⟨m1, mf9, rfl, rfl⟩
    · skip
      exfalso; first | omega | (rcases e with e | e <;> omega)
    · exact ⟨2, by omega, rfl, rfl, fun h => absurd h (by decide), v_J_code hJ, by show ns 3 ≤ ns 3 + 1; omega⟩
    · skip
      exfalso; first | omega | (rcases e with e | e <;> omega)
  · have cp9 := cp
    rcases hM with ⟨m1, rfl, rfl⟩ | ⟨m1, mf9, rfl, rfl⟩ | ⟨m1, mf9, rfl, rfl⟩
    · obtain ⟨cq, cp9⟩ := cp9
      exfalso; first | omega | (rcases e with e | e <;> omega)
    · obtain ⟨cq, cp9⟩ := cp9
      exfalso; first | omega | (rcases e with e | e <;> omega)
    · skip
      obtain ⟨cl, cf, rfl⟩ := cp
      have k4 := hlk.2.2.2
      exact ⟨0, Or.inl rfl, rfl, rfl, fun _ => (by rw [c3, show ms 4 + 1 - 1 = ns 2 by omega]), v_J_net hJ (v_fn_N hN hlk (by omega) (by omega) (by omega) (by omega) (by omega) (by omega) hn) (mn_fn hN r_R hlk) k4.2.2.2 (by show ns 0 ≤ ns' 0; omega) (by show ns 1 ≤ ns' 1; omega) rfl rfl rfl, by show ns' 3 ≤ ns 3 + 1; omega⟩
theorem j_shut {nf : Nat → Int → Int} {ns : Nat → Int} {da : Int → Int → Int} {be : Int → Int} {ui ul : Nat → Int → Int} {cn : Int} {ss : Nat → Nat} {mf sd : Nat → Int} {pr : Nat → Int → Int} {mi ml : Nat → Int → Int} {mz : Int → Int} {ms : Nat → Int} {x z : Int} (hz01 : z = 0 ∨ z = 1) {r : Int32} {w : vS × (Int → Int)} {r2 : Int32} {u : vM} (hJ : v_J nf ns da ui ul cn ss mf sd pr mi ml mz ms) (hn : ns 3 < 512) (hC : (fun (r : Int32) (w : vS × (Int → Int)) => (r = iI 1 ∧ ¬ (0 ≤ x ∧ x ≤ ns 1 - 1) ∧ w.1 = (nf, ns, da, be, ui, ul, cn, ss, mf, sd, pr)) ∨ (r = iI 0 ∧ ∃ (r32 : Int32) (u : Nat × Int), (fun (r : Int32) (u : Nat × Int) => (0 ≤ x ∧ x ≤ ns 1 - 1) ∧ r = iI (b2 ((ss 0).testBit x.toNat = true)) ∧ ((b2 ((ss 0).testBit x.toNat = true) = z ∧ u.1 = ss 0 ∧ u.2 = mf 0) ∨ (b2 ((ss 0).testBit x.toNat = true) ≠ z ∧ u.1 = ss 0 ^^^ 2 ^ x.toNat ∧ u.2 = -1))) r32 u ∧ w.1 = (nf, ns, da, be, ui, ul, cn, (nw ss 0 u.1), (nw mf 0 u.2), sd, pr) ∧ lI (w.2 0) = (if r32 = 0 then 0 else 1 : Int64))) r w) (hM : (fun (r : Int32) (u : (Nat → Int → Int) × (Nat → Int → Int) × (Int → Int) × (Nat → Int)) => (¬ (0 ≤ x ∧ x ≤ ms 3 - 1) ∧ r = iI 0 ∧ u = (mi, ml, mz, nw ms 0 (1))) ∨ ((0 ≤ x ∧ x ≤ ms 3 - 1) ∧ r = iI (mz (x)) ∧ u = (mi, ml, pu (mz) (x) (z), nw ms 0 (0)))) r2 u) : ∃ k : Int, (k = 0 ∨ k = 1 ∨ k = 2) ∧ r = iI k ∧ u.2.2.2 0 = k ∧ (k = 0 → lI (w.2 0) = (if r2 = 0 then 0 else 1 : Int64)) ∧ vJt w.1 u ∧ w.1.2.1 3 ≤ ns 3 + 1 := by
  obtain ⟨w1, w2⟩ := w
  dsimp only at hC hM
  obtain ⟨hN, hc, hS, hK, hU, hR⟩ := id hJ
  obtain ⟨r_R, r5, r6, r7, r8, r9⟩ := id hR
  obtain ⟨r_zo, r_le, r_fa, r_wi, r_ai, r_wa, r_vo, r_lk, r_fn⟩ := id r_R
  obtain ⟨o_zc, o_lc, o_fc, o_ve, -⟩ := id hN.1
  rcases hC with ⟨rfl, c1, rfl⟩ | ⟨rfl, r32, u0, cp, rfl, c3⟩
  · skip
    rcases hM with ⟨m1, rfl, rfl⟩ | ⟨m1, rfl, rfl⟩
    · exact ⟨1, by omega, rfl, rfl, fun h => absurd h (by decide), v_J_code hJ, by show ns 3 ≤ ns 3 + 1; omega⟩
    · skip
      exfalso; first | omega | (rcases e with e | e <;> omega)
  · have cp9 := cp
    rcases hM with ⟨m1, rfl, rfl⟩ | ⟨m1, rfl, rfl⟩
    · obtain ⟨cq, cp9⟩ := cp9
      exfalso; first | omega | (rcases e with e | e <;> omega)
    · skip
      obtain ⟨cl, rfl, cs⟩ := cp
      have e8 := r8 x.toNat (by omega)
      rw [Int.toNat_of_nonneg cl.1] at e8
      exact ⟨0, Or.inl rfl, rfl, rfl, fun _ => (by rw [c3, e8]), v_J_shut hJ cl hz01 cs, by show ns 3 ≤ ns 3 + 1; omega⟩
theorem j_told {nf : Nat → Int → Int} {ns : Nat → Int} {da : Int → Int → Int} {be : Int → Int} {ui ul : Nat → Int → Int} {cn : Int} {ss : Nat → Nat} {mf sd : Nat → Int} {pr : Nat → Int → Int} {mi ml : Nat → Int → Int} {mz : Int → Int} {ms : Nat → Int} {x y : Int} {r : Int32} {w : vS × (Int → Int)} {r2 : Int32} {u : vM} (hJ : v_J nf ns da ui ul cn ss mf sd pr mi ml mz ms) (hn : ns 3 < 512) (hC : (fun (r : Int32) (w : vS × (Int → Int)) => (r = iI 1 ∧ ¬ ((0 ≤ x ∧ x ≤ ns 1 - 1) ∧ (0 ≤ y ∧ y ≤ 1)) ∧ w.1 = (nf, ns, da, be, ui, ul, cn, ss, mf, sd, pr)) ∨ (r = iI 0 ∧ ∃ (r32 : Int32) (u : (Int → Int) × (Int → Int) × Int), (fun (r : Int32) (u : (Int → Int) × (Int → Int) × Int) => ((0 ≤ x ∧ x ≤ ns 1 - 1) ∧ (0 ≤ y ∧ y ≤ 1)) ∧ pn_P5 u.1 ∧ pn_Le (ns 0) (nf 0) (m_G nf da (ss 0)) u.2.2 u.1 ∧ ((u.2.2 = 1 ∧ r = iI (if y = 0 then m_drive nf u.1 x else m_flow nf (ss 0) u.1 x)) ∨ (u.2.2 = 0 ∧ r = iI (-1000000)))) r32 u ∧ w.1 = (nf, ns, da, u.2.1, ui, ul, cn, ss, (nw mf 0 (ns 3)), (nw sd 0 u.2.2), (nw pr 0 u.1)) ∧ lI (w.2 0) = r32.toInt64)) r w) (hM : (fun (r : Int32) (u : (Nat → Int → Int) × (Nat → Int → Int) × (Int → Int) × (Nat → Int)) => (¬ ((0 ≤ x ∧ x ≤ ms 3 - 1) ∧ (0 ≤ y ∧ y ≤ 1)) ∧ r = iI 0 ∧ u = (mi, ml, mz, nw ms 0 (1))) ∨ (((0 ≤ x ∧ x ≤ ms 3 - 1) ∧ (0 ≤ y ∧ y ≤ 1)) ∧ ∃ (f : Int → Int) (bo : Int), m_s5 f ∧ pn_Le (ns 0) (nf 0) (m_G nf da (ss 0)) bo (mP (nw mi 14 f)) ∧ u = (nw mi 14 f, ml, mz, nw (nw ms 0 (0)) 6 ((((ss 0) : Nat) : Int))) ∧ ((bo = 1 ∧ r = iI (if y = 0 then m_drive nf (mP (nw mi 14 f)) x else m_flow nf (ss 0) (mP (nw mi 14 f)) x)) ∨ (bo = 0 ∧ r = iI (-1000000))))) r2 u) : ∃ k : Int, (k = 0 ∨ k = 1 ∨ k = 2) ∧ r = iI k ∧ u.2.2.2 0 = k ∧ (k = 0 → lI (w.2 0) = r2.toInt64) ∧ vJt w.1 u ∧ w.1.2.1 3 ≤ ns 3 + 1 := by
  obtain ⟨w1, w2⟩ := w
  dsimp only at hC hM
  obtain ⟨hN, hc, hS, hK, hU, hR⟩ := id hJ
  obtain ⟨r_R, r5, r6, r7, r8, r9⟩ := id hR
  obtain ⟨r_zo, r_le, r_fa, r_wi, r_ai, r_wa, r_vo, r_lk, r_fn⟩ := id r_R
  obtain ⟨o_zc, o_lc, o_fc, o_ve, -⟩ := id hN.1
  rcases hC with ⟨rfl, c1, rfl⟩ | ⟨rfl, r32, u0, cp, rfl, c3⟩
  · skip
    rcases hM with ⟨m1, rfl, rfl⟩ | ⟨m1, f, bo, hf5, hLe, rfl, mv⟩
    · exact ⟨1, by omega, rfl, rfl, fun h => absurd h (by decide), v_J_code hJ, by show ns 3 ≤ ns 3 + 1; omega⟩
    · skip
      exfalso; first | omega | (rcases e with e | e <;> omega)
  · have cp9 := cp
    rcases hM with ⟨m1, rfl, rfl⟩ | ⟨m1, f, bo, hf5, hLe, rfl, mv⟩
    · obtain ⟨cq, cp9⟩ := cp9
      exfalso; first | omega | (rcases e with e | e <;> omega)
    · skip
      obtain ⟨cl, h5, cLe, cv⟩ := cp
      obtain ⟨eb, eP⟩ := pn_Le_eq cLe hLe
      exact ⟨0, Or.inl rfl, rfl, rfl, fun _ => (by rcases cv with ⟨k1, rfl⟩ | ⟨k1, rfl⟩ <;> rcases mv with ⟨k2, rfl⟩ | ⟨k2, rfl⟩; rw [c3, m_drive_cg hN.1 hN.2.2.2.2.1 (by omega) (by omega) (eP k1), m_flow_cg (S := ss 0) hN.1 hN.2.2.2.2.1 (Or.inl ⟨by omega, by omega⟩) (eP k1)]; exfalso; omega; exfalso; omega; exact c3), v_J_made (v_J_set (k := 0) hJ hc.1 h5 cLe), by show ns 3 ≤ ns 3 + 1; omega⟩
theorem j_blows {nf : Nat → Int → Int} {ns : Nat → Int} {da : Int → Int → Int} {be : Int → Int} {ui ul : Nat → Int → Int} {cn : Int} {ss : Nat → Nat} {mf sd : Nat → Int} {pr : Nat → Int → Int} {mi ml : Nat → Int → Int} {mz : Int → Int} {ms : Nat → Int} {x : Int} {r : Int32} {w : vS × (Int → Int)} {r2 : Int32} {u : vM} (hJ : v_J nf ns da ui ul cn ss mf sd pr mi ml mz ms) (hn : ns 3 < 512) (hC : (fun (r : Int32) (w : vS × (Int → Int)) => (r = iI 1 ∧ ¬ (0 ≤ x ∧ x ≤ ns 2 - 1) ∧ w.1 = (nf, ns, da, be, ui, ul, cn, ss, mf, sd, pr)) ∨ (r = iI 0 ∧ ∃ (r32 : Int32) (u : (Int → Int) × (Int → Int) × Int), (fun (r : Int32) (u : (Int → Int) × (Int → Int) × Int) => (0 ≤ x ∧ x ≤ ns 2 - 1) ∧ pn_P5 u.1 ∧ pn_Le (ns 0) (nf 0) (m_G nf da (ss 0)) u.2.2 u.1 ∧ ((u.2.2 = 1 ∧ r = iI (m_flow nf (ss 0) u.1 (20 + x))) ∨ (u.2.2 = 0 ∧ r = iI (-1000000)))) r32 u ∧ w.1 = (nf, ns, da, u.2.1, ui, ul, cn, ss, (nw mf 0 (ns 3)), (nw sd 0 u.2.2), (nw pr 0 u.1)) ∧ lI (w.2 0) = r32.toInt64)) r w) (hM : (fun (r : Int32) (u : (Nat → Int → Int) × (Nat → Int → Int) × (Int → Int) × (Nat → Int)) => (¬ (0 ≤ x ∧ x ≤ ms 4 - 1) ∧ r = iI 0 ∧ u = (mi, ml, mz, nw ms 0 (1))) ∨ ((0 ≤ x ∧ x ≤ ms 4 - 1) ∧ ∃ (f : Int → Int) (bo : Int), m_s5 f ∧ pn_Le (ns 0) (nf 0) (m_G nf da (ss 0)) bo (mP (nw mi 14 f)) ∧ u = (nw mi 14 f, ml, mz, nw (nw ms 0 (0)) 6 ((((ss 0) : Nat) : Int))) ∧ ((bo = 1 ∧ r = iI (m_flow nf (ss 0) (mP (nw mi 14 f)) (20 + x))) ∨ (bo = 0 ∧ r = iI (-1000000))))) r2 u) : ∃ k : Int, (k = 0 ∨ k = 1 ∨ k = 2) ∧ r = iI k ∧ u.2.2.2 0 = k ∧ (k = 0 → lI (w.2 0) = r2.toInt64) ∧ vJt w.1 u ∧ w.1.2.1 3 ≤ ns 3 + 1 := by
  obtain ⟨w1, w2⟩ := w
  dsimp only at hC hM
  obtain ⟨hN, hc, hS, hK, hU, hR⟩ := id hJ
  obtain ⟨r_R, r5, r6, r7, r8, r9⟩ := id hR
  obtain ⟨r_zo, r_le, r_fa, r_wi, r_ai, r_wa, r_vo, r_lk, r_fn⟩ := id r_R
  obtain ⟨o_zc, o_lc, o_fc, o_ve, -⟩ := id hN.1
  rcases hC with ⟨rfl, c1, rfl⟩ | ⟨rfl, r32, u0, cp, rfl, c3⟩
  · skip
    rcases hM with ⟨m1, rfl, rfl⟩ | ⟨m1, f, bo, hf5, hLe, rfl, mv⟩
    · exact ⟨1, by omega, rfl, rfl, fun h => absurd h (by decide), v_J_code hJ, by show ns 3 ≤ ns 3 + 1; omega⟩
    · skip
      exfalso; first | omega | (rcases e with e | e <;> omega)
  · have cp9 := cp
    rcases hM with ⟨m1, rfl, rfl⟩ | ⟨m1, f, bo, hf5, hLe, rfl, mv⟩
    · obtain ⟨cq, cp9⟩ := cp9
      exfalso; first | omega | (rcases e with e | e <;> omega)
    · skip
      obtain ⟨cl, h5, cLe, cv⟩ := cp
      obtain ⟨eb, eP⟩ := pn_Le_eq cLe hLe
      exact ⟨0, Or.inl rfl, rfl, rfl, fun _ => (by rcases cv with ⟨k1, rfl⟩ | ⟨k1, rfl⟩ <;> rcases mv with ⟨k2, rfl⟩ | ⟨k2, rfl⟩; rw [c3, m_flow_cg (S := ss 0) hN.1 hN.2.2.2.2.1 (Or.inr ⟨by omega, by omega⟩) (eP k1)]; exfalso; omega; exfalso; omega; exact c3), v_J_made (v_J_set (k := 0) hJ hc.1 h5 cLe), by show ns 3 ≤ ns 3 + 1; omega⟩
theorem j_gain {nf : Nat → Int → Int} {ns : Nat → Int} {da : Int → Int → Int} {be : Int → Int} {ui ul : Nat → Int → Int} {cn : Int} {ss : Nat → Nat} {mf sd : Nat → Int} {pr : Nat → Int → Int} {mi ml : Nat → Int → Int} {mz : Int → Int} {ms : Nat → Int} {x : Int} {r : Int32} {w : vS × (Int → Int)} {r2 : Int32} {u : vM} (hJ : v_J nf ns da ui ul cn ss mf sd pr mi ml mz ms) (hn : ns 3 < 512) (hC : (fun (r : Int32) (w : vS × (Int → Int)) => (r = iI 1 ∧ ¬ (0 ≤ x ∧ x ≤ ns 0 - 1) ∧ w.1 = (nf, ns, da, be, ui, ul, cn, ss, mf, sd, pr)) ∨ (r = iI 0 ∧ ∃ (r32 : Int32) (u : (Int → Int) × (Int → Int) × Int), (fun (r : Int32) (u : (Int → Int) × (Int → Int) × Int) => (0 ≤ x ∧ x ≤ ns 0 - 1) ∧ pn_P5 u.1 ∧ pn_Le (ns 0) (nf 0) (m_G nf da (ss 0)) u.2.2 u.1 ∧ ((u.2.2 = 1 ∧ r = iI (m_gain nf da (ss 0) u.1 (x + 4))) ∨ (u.2.2 = 0 ∧ r = iI (-1000000)))) r32 u ∧ w.1 = (nf, ns, da, u.2.1, ui, ul, cn, ss, (nw mf 0 (ns 3)), (nw sd 0 u.2.2), (nw pr 0 u.1)) ∧ lI (w.2 0) = r32.toInt64)) r w) (hM : (fun (r : Int32) (u : (Nat → Int → Int) × (Nat → Int → Int) × (Int → Int) × (Nat → Int)) => (¬ (0 ≤ x ∧ x ≤ ms 2 - 1) ∧ r = iI 0 ∧ u = (mi, ml, mz, nw ms 0 (1))) ∨ ((0 ≤ x ∧ x ≤ ms 2 - 1) ∧ ∃ (f : Int → Int) (bo : Int), m_s5 f ∧ pn_Le (ns 0) (nf 0) (m_G nf da (ss 0)) bo (mP (nw mi 14 f)) ∧ u = (nw mi 14 f, ml, mz, nw (nw ms 0 (0)) 6 ((((ss 0) : Nat) : Int))) ∧ ((bo = 1 ∧ r = iI (m_gain nf da (ss 0) (mP (nw mi 14 f)) (x + 4))) ∨ (bo = 0 ∧ r = iI (-1000000))))) r2 u) : ∃ k : Int, (k = 0 ∨ k = 1 ∨ k = 2) ∧ r = iI k ∧ u.2.2.2 0 = k ∧ (k = 0 → lI (w.2 0) = r2.toInt64) ∧ vJt w.1 u ∧ w.1.2.1 3 ≤ ns 3 + 1 := by
  obtain ⟨w1, w2⟩ := w
  dsimp only at hC hM
  obtain ⟨hN, hc, hS, hK, hU, hR⟩ := id hJ
  obtain ⟨r_R, r5, r6, r7, r8, r9⟩ := id hR
  obtain ⟨r_zo, r_le, r_fa, r_wi, r_ai, r_wa, r_vo, r_lk, r_fn⟩ := id r_R
  obtain ⟨o_zc, o_lc, o_fc, o_ve, -⟩ := id hN.1
  rcases hC with ⟨rfl, c1, rfl⟩ | ⟨rfl, r32, u0, cp, rfl, c3⟩
  · skip
    rcases hM with ⟨m1, rfl, rfl⟩ | ⟨m1, f, bo, hf5, hLe, rfl, mv⟩
    · exact ⟨1, by omega, rfl, rfl, fun h => absurd h (by decide), v_J_code hJ, by show ns 3 ≤ ns 3 + 1; omega⟩
    · skip
      exfalso; first | omega | (rcases e with e | e <;> omega)
  · have cp9 := cp
    rcases hM with ⟨m1, rfl, rfl⟩ | ⟨m1, f, bo, hf5, hLe, rfl, mv⟩
    · obtain ⟨cq, cp9⟩ := cp9
      exfalso; first | omega | (rcases e with e | e <;> omega)
    · skip
      obtain ⟨cl, h5, cLe, cv⟩ := cp
      obtain ⟨eb, eP⟩ := pn_Le_eq cLe hLe
      exact ⟨0, Or.inl rfl, rfl, rfl, fun _ => (by rcases cv with ⟨k1, rfl⟩ | ⟨k1, rfl⟩ <;> rcases mv with ⟨k2, rfl⟩ | ⟨k2, rfl⟩; rw [c3, m_gain_cg (S := ss 0) hN.1 hN.2.2.2.2.1 hN.2.2.2.2.2.1 (by omega) (by omega) (eP k1)]; exfalso; omega; exfalso; omega; exact c3), v_J_made (v_J_set (k := 0) hJ hc.1 h5 cLe), by show ns 3 ≤ ns 3 + 1; omega⟩
theorem j_pressure {nf : Nat → Int → Int} {ns : Nat → Int} {da : Int → Int → Int} {be : Int → Int} {ui ul : Nat → Int → Int} {cn : Int} {ss : Nat → Nat} {mf sd : Nat → Int} {pr : Nat → Int → Int} {mi ml : Nat → Int → Int} {mz : Int → Int} {ms : Nat → Int} {x : Int} {r : Int32} {w : vS × (Int → Int)} {r2 : Int32} {u : vM} (hJ : v_J nf ns da ui ul cn ss mf sd pr mi ml mz ms) (hn : ns 3 < 512) (hC : (fun (r : Int32) (w : vS × (Int → Int)) => (r = iI 1 ∧ ¬ (-4 ≤ x ∧ x ≤ ns 0 - 1) ∧ w.1 = (nf, ns, da, be, ui, ul, cn, ss, mf, sd, pr)) ∨ (r = iI 0 ∧ ∃ (r32 : Int32) (u : (Int → Int) × (Int → Int) × Int × Int), (fun (r : Int32) (u : (Int → Int) × (Int → Int) × Int × Int) => (-4 ≤ x ∧ x ≤ ns 0 - 1) ∧ ((x < 0 ∧ r = iI (nf 0 (x + 4)) ∧ u.1 = pr 0 ∧ u.2.2.1 = mf 0 ∧ u.2.2.2 = sd 0) ∨ (0 ≤ x ∧ u.2.2.1 = ns 3 ∧ pn_P5 u.1 ∧ pn_Le (ns 0) (nf 0) (m_G nf da (ss 0)) u.2.2.2 u.1 ∧ ((u.2.2.2 = 1 ∧ r = iI (u.1 (x + 4))) ∨ (u.2.2.2 = 0 ∧ r = iI (-1000000)))))) r32 u ∧ w.1 = (nf, ns, da, u.2.1, ui, ul, cn, ss, (nw mf 0 u.2.2.1), (nw sd 0 u.2.2.2), (nw pr 0 u.1)) ∧ lI (w.2 0) = r32.toInt64)) r w) (hM : (fun (r : Int32) (u : (Nat → Int → Int) × (Nat → Int → Int) × (Int → Int) × (Nat → Int)) => (¬ (-4 ≤ x ∧ x ≤ ms 2 - 1) ∧ r = iI 0 ∧ u = (mi, ml, mz, nw ms 0 (1))) ∨ ((-4 ≤ x ∧ x ≤ ms 2 - 1) ∧ x < 0 ∧ r = iI (mi 0 (x + 4)) ∧ u = (mi, ml, mz, nw ms 0 (0))) ∨ ((-4 ≤ x ∧ x ≤ ms 2 - 1) ∧ 0 ≤ x ∧ ∃ (f : Int → Int) (bo : Int), m_s5 f ∧ pn_Le (ns 0) (nf 0) (m_G nf da (ss 0)) bo (mP (nw mi 14 f)) ∧ u = (nw mi 14 f, ml, mz, nw (nw ms 0 (0)) 6 ((((ss 0) : Nat) : Int))) ∧ ((bo = 1 ∧ r = iI (f x)) ∨ (bo = 0 ∧ r = iI (-1000000))))) r2 u) : ∃ k : Int, (k = 0 ∨ k = 1 ∨ k = 2) ∧ r = iI k ∧ u.2.2.2 0 = k ∧ (k = 0 → lI (w.2 0) = r2.toInt64) ∧ vJt w.1 u ∧ w.1.2.1 3 ≤ ns 3 + 1 := by
  obtain ⟨w1, w2⟩ := w
  dsimp only at hC hM
  obtain ⟨hN, hc, hS, hK, hU, hR⟩ := id hJ
  obtain ⟨r_R, r5, r6, r7, r8, r9⟩ := id hR
  obtain ⟨r_zo, r_le, r_fa, r_wi, r_ai, r_wa, r_vo, r_lk, r_fn⟩ := id r_R
  obtain ⟨o_zc, o_lc, o_fc, o_ve, -⟩ := id hN.1
  rcases hC with ⟨rfl, c1, rfl⟩ | ⟨rfl, r32, u0, cp, rfl, c3⟩
  · skip
    rcases hM with ⟨m1, rfl, rfl⟩ | ⟨m1, mx, rfl, rfl⟩ | ⟨m1, mx, f, bo, hf5, hLe, rfl, mv⟩
    · exact ⟨1, by omega, rfl, rfl, fun h => absurd h (by decide), v_J_code hJ, by show ns 3 ≤ ns 3 + 1; omega⟩
    · skip
      exfalso; first | omega | (rcases e with e | e <;> omega)
    · skip
      exfalso; first | omega | (rcases e with e | e <;> omega)
  · have cp9 := cp
    rcases hM with ⟨m1, rfl, rfl⟩ | ⟨m1, mx, rfl, rfl⟩ | ⟨m1, mx, f, bo, hf5, hLe, rfl, mv⟩
    · obtain ⟨cq, cp9⟩ := cp9
      exfalso; first | omega | (rcases e with e | e <;> omega)
    · skip
      obtain ⟨cl, cv⟩ := cp
      obtain ⟨P1, b1, m9, s9⟩ := u0
      dsimp only at cv
      rcases cv with ⟨cx, rfl, rfl, rfl, rfl⟩ | ⟨cx, cv⟩
      · rw [nw_self, nw_self, nw_self]
        exact ⟨0, Or.inl rfl, rfl, rfl, fun _ => (by rw [c3, r_wi (x + 4) (by omega) (by omega)]), v_J_code hJ, by show ns 3 ≤ ns 3 + 1; omega⟩
      · exfalso; omega
    · skip
      obtain ⟨cl, cv⟩ := cp
      obtain ⟨P1, b1, m9, s9⟩ := u0
      dsimp only at cv
      rcases cv with ⟨cx, rfl, rfl, rfl, rfl⟩ | ⟨cx, cv⟩
      · exfalso; omega
      · obtain ⟨rfl, h5, cLe, cv⟩ := cv
        obtain ⟨eb, eP⟩ := pn_Le_eq cLe hLe
        exact ⟨0, Or.inl rfl, rfl, rfl, fun _ => (by rcases cv with ⟨k1, rfl⟩ | ⟨k1, rfl⟩ <;> rcases mv with ⟨k2, rfl⟩ | ⟨k2, rfl⟩; rw [c3, eP k1 (x + 4) (by omega) (by omega), mP_at mi f mx]; exfalso; omega; exfalso; omega; exact c3), v_J_made (v_J_set (k := 0) hJ hc.1 h5 cLe), by show ns 3 ≤ ns 3 + 1; omega⟩
theorem j_caseOf {nf : Nat → Int → Int} {ns : Nat → Int} {da : Int → Int → Int} {be : Int → Int} {ui ul : Nat → Int → Int} {cn : Int} {ss : Nat → Nat} {mf sd : Nat → Int} {pr : Nat → Int → Int} {mi ml : Nat → Int → Int} {mz : Int → Int} {ms : Nat → Int} {x : Int} {r : Int32} {w : vS × (Int → Int)} {r2 : Int32} {u : vM} (hJ : v_J nf ns da ui ul cn ss mf sd pr mi ml mz ms) (hn : ns 3 < 512) (hC : (fun (r : Int32) (w : vS × (Int → Int)) => (r = iI 1 ∧ ¬ (0 ≤ x ∧ x < ((2 ^ (ns 1).toNat : Nat) : Int)) ∧ w.1 = (nf, ns, da, be, ui, ul, cn, ss, mf, sd, pr)) ∨ (r = iI 2 ∧ (0 ≤ x ∧ x < ((2 ^ (ns 1).toNat : Nat) : Int)) ∧ (8 ≤ cn) ∧ w.1 = (nf, ns, da, be, ui, ul, cn, ss, mf, sd, pr)) ∨ (r = iI 0 ∧ ∃ (r32 : Int32) (u : Unit), (fun (r : Int32) (_ : Unit) => (0 ≤ x ∧ x < ((2 ^ (ns 1).toNat : Nat) : Int)) ∧ ¬ (8 ≤ cn) ∧ r = iI (cn)) r32 u ∧ w.1 = (nf, ns, da, be, ui, ul, (cn + 1), (nw ss (cn.toNat + 1) ((x.toNat))), mf, sd, pr) ∧ lI (w.2 0) = r32.toInt64)) r w) (hM : (fun (r : Int32) (u : (Nat → Int → Int) × (Nat → Int → Int) × (Int → Int) × (Nat → Int)) => (¬ (0 ≤ x ∧ x < ((2 ^ (ms 3).toNat : Nat) : Int)) ∧ r = iI 0 ∧ u = (mi, ml, mz, nw ms 0 (1))) ∨ ((0 ≤ x ∧ x < ((2 ^ (ms 3).toNat : Nat) : Int)) ∧ (8 ≤ ms 5) ∧ r = iI 0 ∧ u = (mi, ml, mz, nw ms 0 (2))) ∨ ((0 ≤ x ∧ x < ((2 ^ (ms 3).toNat : Nat) : Int)) ∧ ¬ (8 ≤ ms 5) ∧ r = iI ((((ms 5) + (1))) - (1)) ∧ u = (nw mi 13 (pu (mi 13) (ms 5) (x)), ml, mz, nw (nw ms 0 (0)) 5 ((ms 5) + (1))))) r2 u) : ∃ k : Int, (k = 0 ∨ k = 1 ∨ k = 2) ∧ r = iI k ∧ u.2.2.2 0 = k ∧ (k = 0 → lI (w.2 0) = r2.toInt64) ∧ vJt w.1 u ∧ w.1.2.1 3 ≤ ns 3 + 1 := by
  obtain ⟨w1, w2⟩ := w
  dsimp only at hC hM
  obtain ⟨hN, hc, hS, hK, hU, hR⟩ := id hJ
  obtain ⟨r_R, r5, r6, r7, r8, r9⟩ := id hR
  obtain ⟨r_zo, r_le, r_fa, r_wi, r_ai, r_wa, r_vo, r_lk, r_fn⟩ := id r_R
  obtain ⟨o_zc, o_lc, o_fc, o_ve, -⟩ := id hN.1
  rw [r_le] at hM
  rcases hC with ⟨rfl, c1, rfl⟩ | ⟨rfl, c1, cf, rfl⟩ | ⟨rfl, r32, u0, cp, rfl, c3⟩
  · skip
    rcases hM with ⟨m1, rfl, rfl⟩ | ⟨m1, mf9, rfl, rfl⟩ | ⟨m1, mf9, rfl, rfl⟩
    · exact ⟨1, by omega, rfl, rfl, fun h => absurd h (by decide), v_J_code hJ, by show ns 3 ≤ ns 3 + 1; omega⟩
    · skip
      exfalso; first | omega | (rcases e with e | e <;> omega)
    · skip
      exfalso; first | omega | (rcases e with e | e <;> omega)
  · skip
    rcases hM with ⟨m1, rfl, rfl⟩ | ⟨m1, mf9, rfl, rfl⟩ | ⟨m1, mf9, rfl, rfl⟩
    · skip
      exfalso; first | omega | (rcases e with e | e <;> omega)
    · exact ⟨2, by omega, rfl, rfl, fun h => absurd h (by decide), v_J_code hJ, by show ns 3 ≤ ns 3 + 1; omega⟩
    · skip
      exfalso; first | omega | (rcases e with e | e <;> omega)
  · have cp9 := cp
    rcases hM with ⟨m1, rfl, rfl⟩ | ⟨m1, mf9, rfl, rfl⟩ | ⟨m1, mf9, rfl, rfl⟩
    · obtain ⟨cq, cp9⟩ := cp9
      exfalso; first | omega | (rcases e with e | e <;> omega)
    · obtain ⟨cq, cp9⟩ := cp9
      exfalso; first | omega | (rcases e with e | e <;> omega)
    · skip
      obtain ⟨cl, cf, rfl⟩ := cp
      exact ⟨0, Or.inl rfl, rfl, rfl, fun _ => (by rw [c3, show ms 5 + 1 - 1 = cn by omega]), v_J_case hJ cl (by omega), by show ns 3 ≤ ns 3 + 1; omega⟩
theorem j_worst {nf : Nat → Int → Int} {ns : Nat → Int} {da : Int → Int → Int} {be : Int → Int} {ui ul : Nat → Int → Int} {cn : Int} {ss : Nat → Nat} {mf sd : Nat → Int} {pr : Nat → Int → Int} {mi ml : Nat → Int → Int} {mz : Int → Int} {ms : Nat → Int} {x y : Int} {r : Int32} {w : vS × (Int → Int)} {r2 : Int32} {u : vM} (hJ : v_J nf ns da ui ul cn ss mf sd pr mi ml mz ms) (hn : ns 3 < 512) (hC : (fun (r : Int32) (w : vS × (Int → Int)) => (r = iI 1 ∧ ¬ ((0 ≤ x ∧ x ≤ ns 1 - 1) ∧ (0 ≤ y ∧ y ≤ 3)) ∧ w.1 = (nf, ns, da, be, ui, ul, cn, ss, mf, sd, pr)) ∨ (r = iI 0 ∧ ∃ (r32 : Int32) (u : (Int → Int) × (Nat → Int) × (Nat → Int) × (Nat → Int → Int)), (fun (r : Int32) (u : (Int → Int) × (Nat → Int) × (Nat → Int) × (Nat → Int → Int)) => ((0 ≤ x ∧ x ≤ ns 1 - 1) ∧ (0 ≤ y ∧ y ≤ 3)) ∧ v_K nf ns da cn ss u.2.1 u.2.2.1 u.2.2.2 ∧ (((∃ c : Nat, (c : Int) < cn ∧ ¬ m_has nf ns da (ss (c + 1))) ∧ r = iI (-1000000)) ∨ ((∀ c : Nat, (c : Int) < cn → m_has nf ns da (ss (c + 1))) ∧ r = iI (m_wv (m_dr nf ns da (fun c => ss (c + 1)) x) cn.toNat y)))) r32 u ∧ w.1 = (nf, ns, da, u.1, ui, ul, cn, ss, u.2.1, u.2.2.1, u.2.2.2) ∧ lI (w.2 0) = r32.toInt64)) r w) (hM : (fun (r : Int32) (u : (Nat → Int → Int) × (Nat → Int → Int) × (Int → Int) × (Nat → Int)) => (¬ ((0 ≤ x ∧ x ≤ ms 3 - 1) ∧ (0 ≤ y ∧ y ≤ 3)) ∧ r = iI 0 ∧ u = (mi, ml, mz, nw ms 0 (1))) ∨ (((0 ≤ x ∧ x ≤ ms 3 - 1) ∧ (0 ≤ y ∧ y ≤ 3)) ∧ ∃ (f : Int → Int) (q6 : Int), u = (nw mi 14 f, ml, mz, nw (nw ms 0 (0)) 6 (q6)) ∧ (((∃ c : Nat, (c : Int) < ms 5 ∧ ¬ m_has nf ns da ((fun c => ss (c + 1)) c)) ∧ r = iI (-1000000)) ∨ ((∀ c : Nat, (c : Int) < ms 5 → m_has nf ns da ((fun c => ss (c + 1)) c)) ∧ r = iI (m_wv (m_dr nf ns da (fun c => ss (c + 1)) x) (ms 5).toNat y))))) r2 u) : ∃ k : Int, (k = 0 ∨ k = 1 ∨ k = 2) ∧ r = iI k ∧ u.2.2.2 0 = k ∧ (k = 0 → lI (w.2 0) = r2.toInt64) ∧ vJt w.1 u ∧ w.1.2.1 3 ≤ ns 3 + 1 := by
  obtain ⟨w1, w2⟩ := w
  dsimp only at hC hM
  obtain ⟨hN, hc, hS, hK, hU, hR⟩ := id hJ
  obtain ⟨r_R, r5, r6, r7, r8, r9⟩ := id hR
  obtain ⟨r_zo, r_le, r_fa, r_wi, r_ai, r_wa, r_vo, r_lk, r_fn⟩ := id r_R
  obtain ⟨o_zc, o_lc, o_fc, o_ve, -⟩ := id hN.1
  rw [r5] at hM
  rcases hC with ⟨rfl, c1, rfl⟩ | ⟨rfl, r32, u0, cp, rfl, c3⟩
  · skip
    rcases hM with ⟨m1, rfl, rfl⟩ | ⟨m1, f, q6, rfl, mv⟩
    · exact ⟨1, by omega, rfl, rfl, fun h => absurd h (by decide), v_J_code hJ, by show ns 3 ≤ ns 3 + 1; omega⟩
    · skip
      exfalso; first | omega | (rcases e with e | e <;> omega)
  · have cp9 := cp
    rcases hM with ⟨m1, rfl, rfl⟩ | ⟨m1, f, q6, rfl, mv⟩
    · obtain ⟨cq, cp9⟩ := cp9
      exfalso; first | omega | (rcases e with e | e <;> omega)
    · skip
      obtain ⟨cl, cK, cv⟩ := cp
      exact ⟨0, Or.inl rfl, rfl, rfl, fun _ => (by rcases cv with ⟨⟨c9, q9, k1⟩, rfl⟩ | ⟨k1, rfl⟩ <;> rcases mv with ⟨⟨c8, q8, k2⟩, rfl⟩ | ⟨k2, rfl⟩; exact c3; exact absurd (k2 c9 q9) k1; exact absurd (k1 c8 q8) k2; exact c3), v_J_made (f := f) (c := 0) (q := q6) ⟨hN, hc, hS, cK, hU, hR⟩, by show ns 3 ≤ ns 3 + 1; omega⟩
theorem j_put {nf : Nat → Int → Int} {ns : Nat → Int} {da : Int → Int → Int} {be : Int → Int} {ui ul : Nat → Int → Int} {cn : Int} {ss : Nat → Nat} {mf sd : Nat → Int} {pr : Nat → Int → Int} {mi ml : Nat → Int → Int} {mz : Int → Int} {ms : Nat → Int} {x y : Int} {r : Int32} {w : vS × (Int → Int)} {r2 : Int32} {u : vM} (hJ : v_J nf ns da ui ul cn ss mf sd pr mi ml mz ms) (hn : ns 3 < 512) (hC : (fun (r : Int32) (w : vS × (Int → Int)) => (r = iI 1 ∧ ¬ ((0 ≤ x ∧ x ≤ ns 0 - 1) ∧ (-1000000000 ≤ y ∧ y ≤ 1000000000) ∧ (0 ≤ ul 0 (x + 4) + y ∧ ul 0 (x + 4) + y ≤ 1000000000)) ∧ w.1 = (nf, ns, da, be, ui, ul, cn, ss, mf, sd, pr)) ∨ (r = iI 0 ∧ ∃ (r32 : Int32) (u : Unit), (fun (r : Int32) (_ : Unit) => ((0 ≤ x ∧ x ≤ ns 0 - 1) ∧ (-1000000000 ≤ y ∧ y ≤ 1000000000) ∧ (0 ≤ ul 0 (x + 4) + y ∧ ul 0 (x + 4) + y ≤ 1000000000)) ∧ r = iI ((ul 0 ((x) + 4)) + (y))) r32 u ∧ w.1 = (nf, ns, da, be, ui, (nw ul 0 (pu (ul 0) ((x) + 4) ((ul 0 ((x) + 4)) + (y)))), cn, ss, mf, sd, pr) ∧ lI (w.2 0) = r32.toInt64)) r w) (hM : (fun (r : Int32) (u : (Nat → Int → Int) × (Nat → Int → Int) × (Int → Int) × (Nat → Int)) => (¬ ((0 ≤ x ∧ x ≤ ms 2 - 1) ∧ (-1000000000 ≤ y ∧ y ≤ 1000000000) ∧ (0 ≤ ml 0 x + y ∧ ml 0 x + y ≤ 1000000000)) ∧ r = iI 0 ∧ u = (mi, ml, mz, nw ms 0 (1))) ∨ (((0 ≤ x ∧ x ≤ ms 2 - 1) ∧ (-1000000000 ≤ y ∧ y ≤ 1000000000) ∧ (0 ≤ ml 0 x + y ∧ ml 0 x + y ≤ 1000000000)) ∧ r = iI ((pu (ml 0) (x) ((ml 0 (x)) + (y))) (x)) ∧ u = (mi, nw ml 0 (pu (ml 0) (x) ((ml 0 (x)) + (y))), mz, nw ms 0 (0)))) r2 u) : ∃ k : Int, (k = 0 ∨ k = 1 ∨ k = 2) ∧ r = iI k ∧ u.2.2.2 0 = k ∧ (k = 0 → lI (w.2 0) = r2.toInt64) ∧ vJt w.1 u ∧ w.1.2.1 3 ≤ ns 3 + 1 := by
  obtain ⟨w1, w2⟩ := w
  dsimp only at hC hM
  obtain ⟨hN, hc, hS, hK, hU, hR⟩ := id hJ
  obtain ⟨r_R, r5, r6, r7, r8, r9⟩ := id hR
  obtain ⟨r_zo, r_le, r_fa, r_wi, r_ai, r_wa, r_vo, r_lk, r_fn⟩ := id r_R
  obtain ⟨o_zc, o_lc, o_fc, o_ve, -⟩ := id hN.1
  have e : ml 0 x = ul 0 (x + 4) ∨ ¬ (0 ≤ x ∧ x ≤ ns 0 - 1) := by
    by_cases hx9 : 0 ≤ x ∧ x ≤ ns 0 - 1
    · left
      have q := r6 (x + 4) (by omega) (by omega)
      unfold mH at q
      rw [if_neg (by omega), show x + 4 - 4 = x by omega] at q
      exact q
    · exact Or.inr hx9
  rcases hC with ⟨rfl, c1, rfl⟩ | ⟨rfl, r32, u0, cp, rfl, c3⟩
  · skip
    rcases hM with ⟨m1, rfl, rfl⟩ | ⟨m1, rfl, rfl⟩
    · exact ⟨1, by omega, rfl, rfl, fun h => absurd h (by decide), v_J_code hJ, by show ns 3 ≤ ns 3 + 1; omega⟩
    · skip
      exfalso; first | omega | (rcases e with e | e <;> omega)
  · have cp9 := cp
    rcases hM with ⟨m1, rfl, rfl⟩ | ⟨m1, rfl, rfl⟩
    · obtain ⟨cq, cp9⟩ := cp9
      exfalso; first | omega | (rcases e with e | e <;> omega)
    · skip
      obtain ⟨cl, rfl⟩ := cp
      have q9 := v_J_put hJ cl.1 cl.2.2
      exact ⟨0, Or.inl rfl, rfl, rfl, fun _ => (by rw [c3, pu_s, q9.2]), q9.1, by show ns 3 ≤ ns 3 + 1; omega⟩
theorem j_source {nf : Nat → Int → Int} {ns : Nat → Int} {da : Int → Int → Int} {be : Int → Int} {ui ul : Nat → Int → Int} {cn : Int} {ss : Nat → Nat} {mf sd : Nat → Int} {pr : Nat → Int → Int} {mi ml : Nat → Int → Int} {mz : Int → Int} {ms : Nat → Int} {x y : Int} {r : Int32} {w : vS × (Int → Int)} {r2 : Int32} {u : vM} (hJ : v_J nf ns da ui ul cn ss mf sd pr mi ml mz ms) (hn : ns 3 < 512) (hC : (fun (r : Int32) (w : vS × (Int → Int)) => (r = iI 1 ∧ ¬ ((0 ≤ x ∧ x ≤ ns 0 - 1) ∧ (0 ≤ y ∧ y ≤ 1000000)) ∧ w.1 = (nf, ns, da, be, ui, ul, cn, ss, mf, sd, pr)) ∨ (r = iI 0 ∧ ∃ (r32 : Int32) (u : Unit), (fun (r : Int32) (_ : Unit) => ((0 ≤ x ∧ x ≤ ns 0 - 1) ∧ (0 ≤ y ∧ y ≤ 1000000)) ∧ r = iI (ui 0 ((x) + 4))) r32 u ∧ w.1 = (nf, ns, da, be, (nw ui 0 (pu (ui 0) ((x) + 4) (y))), ul, cn, ss, mf, sd, pr) ∧ lI (w.2 0) = r32.toInt64)) r w) (hM : (fun (r : Int32) (u : (Nat → Int → Int) × (Nat → Int → Int) × (Int → Int) × (Nat → Int)) => (¬ ((0 ≤ x ∧ x ≤ ms 2 - 1) ∧ (0 ≤ y ∧ y ≤ 1000000)) ∧ r = iI 0 ∧ u = (mi, ml, mz, nw ms 0 (1))) ∨ (((0 ≤ x ∧ x ≤ ms 2 - 1) ∧ (0 ≤ y ∧ y ≤ 1000000)) ∧ r = iI (mi 3 (x)) ∧ u = (nw mi 3 (pu (mi 3) (x) (y)), ml, mz, nw ms 0 (0)))) r2 u) : ∃ k : Int, (k = 0 ∨ k = 1 ∨ k = 2) ∧ r = iI k ∧ u.2.2.2 0 = k ∧ (k = 0 → lI (w.2 0) = r2.toInt64) ∧ vJt w.1 u ∧ w.1.2.1 3 ≤ ns 3 + 1 := by
  obtain ⟨w1, w2⟩ := w
  dsimp only at hC hM
  obtain ⟨hN, hc, hS, hK, hU, hR⟩ := id hJ
  obtain ⟨r_R, r5, r6, r7, r8, r9⟩ := id hR
  obtain ⟨r_zo, r_le, r_fa, r_wi, r_ai, r_wa, r_vo, r_lk, r_fn⟩ := id r_R
  obtain ⟨o_zc, o_lc, o_fc, o_ve, -⟩ := id hN.1
  rcases hC with ⟨rfl, c1, rfl⟩ | ⟨rfl, r32, u0, cp, rfl, c3⟩
  · skip
    rcases hM with ⟨m1, rfl, rfl⟩ | ⟨m1, rfl, rfl⟩
    · exact ⟨1, by omega, rfl, rfl, fun h => absurd h (by decide), v_J_code hJ, by show ns 3 ≤ ns 3 + 1; omega⟩
    · skip
      exfalso; first | omega | (rcases e with e | e <;> omega)
  · have cp9 := cp
    rcases hM with ⟨m1, rfl, rfl⟩ | ⟨m1, rfl, rfl⟩
    · obtain ⟨cq, cp9⟩ := cp9
      exfalso; first | omega | (rcases e with e | e <;> omega)
    · skip
      obtain ⟨cl, rfl⟩ := cp
      have q9 := v_J_src hJ cl.1 cl.2
      exact ⟨0, Or.inl rfl, rfl, rfl, fun _ => (by rw [c3, q9.2]), q9.1, by show ns 3 ≤ ns 3 + 1; omega⟩
theorem j_steps {nf : Nat → Int → Int} {ns : Nat → Int} {da : Int → Int → Int} {be : Int → Int} {ui ul : Nat → Int → Int} {cn : Int} {ss : Nat → Nat} {mf sd : Nat → Int} {pr : Nat → Int → Int} {mi ml : Nat → Int → Int} {mz : Int → Int} {ms : Nat → Int} {x : Int} {r : Int32} {w : vS × (Int → Int)} {r2 : Int32} {u : vM} (hJ : v_J nf ns da ui ul cn ss mf sd pr mi ml mz ms) (hn : ns 3 < 512) (hC : (fun (r : Int32) (w : vS × (Int → Int)) => (r = iI 1 ∧ ¬ (1 ≤ x ∧ x ≤ 200) ∧ w.1 = (nf, ns, da, be, ui, ul, cn, ss, mf, sd, pr)) ∨ (r = iI 0 ∧ ∃ (r32 : Int32) (u : (Int → Int) × (Int → Int) × Int × (Nat → Int → Int) × (Nat → Int → Int)), (fun (r : Int32) (u : (Int → Int) × (Int → Int) × Int × (Nat → Int → Int) × (Nat → Int → Int)) => (1 ≤ x ∧ x ≤ 200) ∧ pn_P5 u.1 ∧ pn_Le (ns 0) (nf 0) (m_G nf da (ss 0)) u.2.2.1 u.1 ∧ ((u.2.2.1 = 0 ∧ r = iI 0 ∧ u.2.2.2.1 = ui ∧ u.2.2.2.2 = ul) ∨ (u.2.2.1 = 1 ∧ u.2.2.2.1 0 = ui 0 ∧ pn_Fl (u.2.2.2.1 1) ∧ s_B (u.2.2.2.2 0) ∧ s_ag (u.2.2.2.2 0) (s_it (s_nx nf (m_F nf ns (ss 0) u.1) (ui 0)) (s_ok nf (m_F nf ns (ss 0) u.1) (ui 0)) x.toNat (ul 0)).2 ∧ r = iI (((s_it (s_nx nf (m_F nf ns (ss 0) u.1) (ui 0)) (s_ok nf (m_F nf ns (ss 0) u.1) (ui 0)) x.toNat (ul 0)).1 : Nat) : Int)))) r32 u ∧ w.1 = (nf, ns, da, u.2.1, u.2.2.2.1, u.2.2.2.2, cn, ss, (nw mf 0 (ns 3)), (nw sd 0 u.2.2.1), (nw pr 0 u.1)) ∧ lI (w.2 0) = r32.toInt64)) r w) (hM : (fun (r : Int32) (u : (Nat → Int → Int) × (Nat → Int → Int) × (Int → Int) × (Nat → Int)) => (¬ (1 ≤ x ∧ x ≤ 200) ∧ r = iI 0 ∧ u = (mi, ml, mz, nw ms 0 (1))) ∨ ((1 ≤ x ∧ x ≤ 200) ∧ ∃ (f : Int → Int) (bo : Int) (mlx : Nat → Int → Int), m_s5 f ∧ pn_Le (ns 0) (nf 0) (m_G nf da (ss 0)) bo (mP (nw mi 14 f)) ∧ u = (nw mi 14 f, mlx, mz, nw (nw ms 0 (0)) 6 ((((ss 0) : Nat) : Int))) ∧ ((bo = 0 ∧ mlx = ml ∧ r = iI 0) ∨ (bo = 1 ∧ s_ag (mH mlx) (s_it (s_nx nf (m_F nf ns (ss 0) (mP (nw mi 14 f))) (ui 0)) (s_ok nf (m_F nf ns (ss 0) (mP (nw mi 14 f))) (ui 0)) x.toNat (ul 0)).2 ∧ r = iI (((s_it (s_nx nf (m_F nf ns (ss 0) (mP (nw mi 14 f))) (ui 0)) (s_ok nf (m_F nf ns (ss 0) (mP (nw mi 14 f))) (ui 0)) x.toNat (ul 0)).1 : Nat) : Int))))) r2 u) : ∃ k : Int, (k = 0 ∨ k = 1 ∨ k = 2) ∧ r = iI k ∧ u.2.2.2 0 = k ∧ (k = 0 → lI (w.2 0) = r2.toInt64) ∧ vJt w.1 u ∧ w.1.2.1 3 ≤ ns 3 + 1 := by
  obtain ⟨w1, w2⟩ := w
  dsimp only at hC hM
  obtain ⟨hN, hc, hS, hK, hU, hR⟩ := id hJ
  obtain ⟨r_R, r5, r6, r7, r8, r9⟩ := id hR
  obtain ⟨r_zo, r_le, r_fa, r_wi, r_ai, r_wa, r_vo, r_lk, r_fn⟩ := id r_R
  obtain ⟨o_zc, o_lc, o_fc, o_ve, -⟩ := id hN.1
  rcases hC with ⟨rfl, c1, rfl⟩ | ⟨rfl, r32, u0, cp, rfl, c3⟩
  · skip
    rcases hM with ⟨m1, rfl, rfl⟩ | ⟨m1, f, bo, mlx, hf5, hLe, rfl, mv⟩
    · exact ⟨1, by omega, rfl, rfl, fun h => absurd h (by decide), v_J_code hJ, by show ns 3 ≤ ns 3 + 1; omega⟩
    · skip
      exfalso; first | omega | (rcases e with e | e <;> omega)
  · have cp9 := cp
    rcases hM with ⟨m1, rfl, rfl⟩ | ⟨m1, f, bo, mlx, hf5, hLe, rfl, mv⟩
    · obtain ⟨cq, cp9⟩ := cp9
      exfalso; first | omega | (rcases e with e | e <;> omega)
    · skip
      obtain ⟨P1, b1, sv, ui1, ul1⟩ := u0
      obtain ⟨cl, h5, cLe, cv⟩ := cp
      dsimp only at h5 cLe cv
      obtain ⟨eb, eP⟩ := pn_Le_eq cLe hLe
      rcases cv with ⟨rfl, rfl, rfl, rfl⟩ | ⟨k1, e0, cFl, cB, cag, rfl⟩
      · rcases mv with ⟨k2, rfl, rfl⟩ | ⟨k2, mag, rfl⟩
        · exact ⟨0, Or.inl rfl, rfl, rfl, fun _ => c3, v_J_made (v_J_set (k := 0) hJ hc.1 h5 cLe), by show ns 3 ≤ ns 3 + 1; omega⟩
        · exfalso; omega
      · rcases mv with ⟨k2, rfl, rfl⟩ | ⟨k2, mag, rfl⟩
        · exfalso; omega
        · have hF : ∀ d, 0 ≤ d → d < 24 → m_F nf ns (ss 0) P1 d = m_F nf ns (ss 0) (mP (nw mi 14 f)) d := fun d a9 b9 => m_F_cg hN.1 hN.2.2.2.2.1 a9 (eP k1)
          rw [← s_nx_F hF, ← s_ok_F hF] at mag ⊢
          exact ⟨0, Or.inl rfl, rfl, rfl, fun _ => c3, v_J_step (v_J_made (v_J_set (k := 0) hJ hc.1 h5 cLe)) e0 cFl cB (mag.tr cag.sm), by show ns 3 ≤ ns 3 + 1; omega⟩
theorem j_gone {nf : Nat → Int → Int} {ns : Nat → Int} {da : Int → Int → Int} {be : Int → Int} {ui ul : Nat → Int → Int} {cn : Int} {ss : Nat → Nat} {mf sd : Nat → Int} {pr : Nat → Int → Int} {mi ml : Nat → Int → Int} {mz : Int → Int} {ms : Nat → Int} {x : Int} {r : Int32} {w : vS × (Int → Int)} {r2 : Int64} {u : vM} (hJ : v_J nf ns da ui ul cn ss mf sd pr mi ml mz ms) (hn : ns 3 < 512) (hC : (fun (r : Int32) (w : vS × (Int → Int)) => (r = iI 1 ∧ ¬ (-4 ≤ x ∧ x ≤ -1) ∧ w.1 = (nf, ns, da, be, ui, ul, cn, ss, mf, sd, pr)) ∨ (r = iI 0 ∧ ∃ (r32 : Int64) (u : Unit), (fun (r : Int64) (_ : Unit) => (-4 ≤ x ∧ x ≤ -1) ∧ r = lI (ul 0 ((x) + 4))) r32 u ∧ w.1 = (nf, ns, da, be, ui, ul, cn, ss, mf, sd, pr) ∧ lI (w.2 0) = r32)) r w) (hM : (fun (r : Int64) (u : (Nat → Int → Int) × (Nat → Int → Int) × (Int → Int) × (Nat → Int)) => (¬ (-4 ≤ x ∧ x ≤ -1) ∧ r = lI 0 ∧ u = (mi, ml, mz, nw ms 0 (1))) ∨ ((-4 ≤ x ∧ x ≤ -1) ∧ r = lI (ml 1 (x + 4)) ∧ u = (mi, ml, mz, nw ms 0 (0)))) r2 u) : ∃ k : Int, (k = 0 ∨ k = 1 ∨ k = 2) ∧ r = iI k ∧ u.2.2.2 0 = k ∧ (k = 0 → lI (w.2 0) = r2) ∧ vJt w.1 u ∧ w.1.2.1 3 ≤ ns 3 + 1 := by
  obtain ⟨w1, w2⟩ := w
  dsimp only at hC hM
  obtain ⟨hN, hc, hS, hK, hU, hR⟩ := id hJ
  obtain ⟨r_R, r5, r6, r7, r8, r9⟩ := id hR
  obtain ⟨r_zo, r_le, r_fa, r_wi, r_ai, r_wa, r_vo, r_lk, r_fn⟩ := id r_R
  obtain ⟨o_zc, o_lc, o_fc, o_ve, -⟩ := id hN.1
  rcases hC with ⟨rfl, c1, rfl⟩ | ⟨rfl, r32, u0, cp, rfl, c3⟩
  · skip
    rcases hM with ⟨m1, rfl, rfl⟩ | ⟨m1, rfl, rfl⟩
    · exact ⟨1, by omega, rfl, rfl, fun h => absurd h (by decide), v_J_code hJ, by show ns 3 ≤ ns 3 + 1; omega⟩
    · skip
      exfalso; first | omega | (rcases e with e | e <;> omega)
  · have cp9 := cp
    rcases hM with ⟨m1, rfl, rfl⟩ | ⟨m1, rfl, rfl⟩
    · obtain ⟨cq, cp9⟩ := cp9
      exfalso; first | omega | (rcases e with e | e <;> omega)
    · skip
      obtain ⟨cl, rfl⟩ := cp
      have q := r6 (x + 4) (by omega) (by omega)
      unfold mH at q
      rw [if_pos (by omega)] at q
      exact ⟨0, Or.inl rfl, rfl, rfl, fun _ => (by rw [c3, q]), v_J_code hJ, by show ns 3 ≤ ns 3 + 1; omega⟩
