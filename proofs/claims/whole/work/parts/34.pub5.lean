abbrev w_P_gain : List Cond := .code y_P_gain b_P_gain 2 (some .int) :: pn_W
set_option maxHeartbeats 4000000 in
set_option maxRecDepth 100000 in
theorem c_P_gain (l : Launch) (hst : l.stackTraces = false) {D : va_G} {a : Nat → Nat} {cI cL cD cS : ClassId} {nf : Nat → Int → Int} {ns : Nat → Int} {da : Int → Int → Int} {be : Int → Int} {ui ul : Nat → Int → Int} {cn : Int} {ss : Nat → Nat} {mf sd : Nat → Int} {pr : Nat → Int → Int} (sz : Nat) (x : Int) (hOk : pn_Ok nf ns da) (hM : pn_Mono (ns 0) (m_G nf da (ss 0))) (hss : ss 0 < 2 ^ 20) (hsd : sd 0 = 0 ∨ sd 0 = 1) (hmf : -1 ≤ mf 0 ∧ mf 0 ≤ 512) (hC : mf 0 = ns 3 → pn_P5 (pr 0) ∧ pn_Le (ns 0) (nf 0) (m_G nf da (ss 0)) (sd 0) (pr 0)) (gx : i3 x) : vx_Met l y_P_gain w_P_gain ({ frames := 7, cells := 1, slots := 6, locals := 188 }) (va_Pc [.ref (a 0), .int (iI (x))] (fun U => U.heap.size = sz ∧ va_P D pn_cl (cw a cI cL cD cS nf ns da be ui ul cn ss mf sd pr) U.heap ∧ va_D (fun _ => True) (cw a cI cL cD cS nf ns da be ui ul cn ss mf sd pr) ∧ pn_E D cI cL cD cS U ∧ pn_X (va_A (cw a cI cL cD cS nf ns da be ui ul cn ss mf sd pr) sz) U)) (va_Qi (fun (r : Int32) (u : (Int → Int) × (Int → Int) × Int) => (0 ≤ x ∧ x ≤ ns 0 - 1) ∧ pn_P5 u.1 ∧ pn_Le (ns 0) (nf 0) (m_G nf da (ss 0)) u.2.2 u.1 ∧ ((u.2.2 = 1 ∧ r = iI (m_gain nf da (ss 0) u.1 (x + 4))) ∨ (u.2.2 = 0 ∧ r = iI (-1000000)))) (fun u t => va_P D pn_cl ((fun u : (Int → Int) × (Int → Int) × Int => cw a cI cL cD cS nf ns da u.2.1 ui ul cn ss (nw mf 0 (ns 3)) (nw sd 0 u.2.2) (nw pr 0 u.1)) u) t.heap ∧ va_D (va_A (cw a cI cL cD cS nf ns da be ui ul cn ss mf sd pr) sz) ((fun u : (Int → Int) × (Int → Int) × Int => cw a cI cL cD cS nf ns da u.2.1 ui ul cn ss (nw mf 0 (ns 3)) (nw sd 0 u.2.2) (nw pr 0 u.1)) u)) (va_A (cw a cI cL cD cS nf ns da be ui ul cn ss mf sd pr) sz)) (vx_X (fun _ : Unit => True) (fun E _ t => (E = "java/lang/IllegalArgumentException" ∧ ¬ (0 ≤ x ∧ x ≤ ns 0 - 1)) ∧ va_P D pn_cl (cw a cI cL cD cS nf ns da be ui ul cn ss mf sd pr) t.heap) (va_A (cw a cI cL cD cS nf ns da be ui ul cn ss mf sd pr) sz)) 1 6 (va_A (cw a cI cL cD cS nf ns da be ui ul cn ss mf sd pr) sz) := by
  refine vx_ofW (cc := b_P_gain) (maxL := 2) (ret := (some .int)) (by decide) rfl ?_
  intro p e s m args below meth c s₁ B hml htab hv
  obtain ⟨rfl, hsz, hP, hD0, hE, hX⟩ := hv
  have hx := B.exec
  have hb := B.bytes
  have hr := B.returns
  have hts := atoms_spec (ws := w_P_gain) B.pre
  have ht : ∀ w ∈ pn_W, w.before _ s = true := fun w h => hts w (List.mem_cons_of_mem _ h)
  have hown : s.vm.findClass R_P = some m.cls := findClass_of_methodNamed B.named
  have hlocks := B.notSynchronized
  have hK := hE.1
  subst hsz
  have hD := hD0.self (sz := s.heap.size)
  generalize hAe : va_A (cw a cI cL cD cS nf ns da be ui ul cn ss mf sd pr) s.heap.size = A at hD hX ⊢
  have hA : ∀ q : Nat, s.heap.size ≤ q → A q := fun q h => by rw [← hAe]; exact Or.inr h
  have hS : va_S A s.heap s.heap [] := va_S.rf
  have hl := lv_entry ([.ref (a 0), .int (iI (x))]) (n := 2) (Nat.le_of_ble_eq_true rfl)
  rw [lg_entry_eq]
  generalize (lg_sl ([.ref (a 0), .int (iI (x))]) ++ List.replicate (2 - (lg_sl ([.ref (a 0), .int (iI (x))])).length) Slot.unset).toArray = ls at hl ⊢
  have hl : lv_has ls 2 [(0, .ref (a 0)), (1, .int (iI (x)))] := hl
  obtain ⟨o_zc, o_lc, o_fc, o_ve, o_wi, o_wa, o_vo, o_fr, o_to, o_he, o_ar, o_ki, o_st, o_ff, o_sl, o_dc, o_da⟩ := id hOk
  obtain ⟨gx1, gx2⟩ := gx
  refine lv_aload_n hx hb d_P_gain_0 rfl (lv_at hl 0 rfl) ?_
  refine lv_iload_n hx hb d_P_gain_1 rfl (lv_at hl 1 rfl) ?_
  refine pr_pi (va_runV (As := [.int (iI (x))]) (rest := []) ⟨hx, hb, hml, hown, hts⟩ (c_P_isZone l (x) hOk (i3_of (by omega) (by omega))) (cwV 1 hts (pn_gV m_353 m_355 m_2 m_33 m_356) rfl rfl rfl (by decide +kernel) ⟨Nat.le_of_ble_eq_true rfl, Nat.le_of_ble_eq_true rfl⟩) (pn_preV (q0 := 0) (ci := 0) (q := (R_P, T_P, 6)) hP hE rfl rfl) rfl rfl hl.1 rfl (lv_room (Nat.le_of_ble_eq_true rfl)) d_P_gain_2 ⟨Nat.le_of_ble_eq_true rfl, Nat.le_of_ble_eq_true rfl⟩) ?_
  by_cases hL5 : (0 ≤ x ∧ x ≤ ns 0 - 1)
  · refine pr_ire (B := 1) (b2_t hL5) ?_
    refine pr_pv (va_runS (As := [.int (iI 1)]) (rest := []) ⟨hx, hb, hml, hown, hts⟩ (c_P_demandLegal l) (cwS 1 hts (pn_gS m_231 m_232 m_33 m_233) rfl rfl rfl (by decide +kernel) ⟨Nat.le_of_ble_eq_true rfl, Nat.le_of_ble_eq_true rfl⟩) pn_pre0 rfl rfl hl.1 rfl (lv_room (Nat.le_of_ble_eq_true rfl)) d_P_gain_5 ⟨Nat.le_of_ble_eq_true rfl, Nat.le_of_ble_eq_true rfl⟩) ?_
    refine lv_aload_n hx hb d_P_gain_8 rfl (lv_at hl 0 rfl) ?_
    refine va_get (D := D) (ci := 0) (v := .ref (a 27)) (C := R_P) (T := T_P) (N := 6) hx hb hts (in_P _) hown hK hP 0 rfl rfl 1 (by decide) (ht _ m_197) (fun _ h9 => h9) rfl d_P_gain_9 ?_
    refine lv_aload_n hx hb d_P_gain_12 rfl (lv_at hl 0 rfl) ?_
    refine va_get (D := D) (ci := 0) (v := .ref (a 36)) (C := R_P) (T := T_P) (N := 6) hx hb hts (in_P _) hown hK hP 0 rfl rfl 3 (by decide) (ht _ m_199) (fun _ h9 => h9) rfl d_P_gain_13 ?_
    refine pr_ci (va_runV (As := [.ref (a 36)]) (rest := []) ⟨hx, hb, hml, hown, hts⟩ (c_S_settles l (be := be) (mf := mf) (sd := sd) (pr := pr) s.heap.size 0 hOk (by decide) hM hss hsd hmf hC) (cwV 1 hts (pn_gV m_420 m_421 m_422 m_35 m_423) rfl rfl rfl (by decide +kernel) ⟨Nat.le_of_ble_eq_true rfl, Nat.le_of_ble_eq_true rfl⟩) (pn_preW (q0 := 27) (ci := 2) (q := (R_S, T_S, 2)) hP hD hE rfl rfl) rfl rfl hl.1 rfl (lv_room (Nat.le_of_ble_eq_true rfl)) d_P_gain_16 ⟨Nat.le_of_ble_eq_true rfl, Nat.le_of_ble_eq_true rfl⟩) hD hS hA (fun r u H locs hw hP hD hS => ?_)
    obtain ⟨P1, b1, m1, s1⟩ := u
    obtain ⟨rfl, rfl, h51, hLe⟩ := hw
    try dsimp only at hP hD h51 hLe
    have hPr1 : pn_Pr P1 := h51.pr
    rcases hLe with ⟨rfl, hSt, hBe⟩ | ⟨rfl, hNo⟩
    · refine pr_ire (B := 1) rfl ?_
      have hP : va_P D pn_cl (cw a cI cL cD cS nf ns da b1 ui ul cn ss (nw mf 0 (ns 3)) (nw sd 0 1) (nw pr 0 P1)) H := hP
      have hD : va_D A (cw a cI cL cD cS nf ns da b1 ui ul cn ss (nw mf 0 (ns 3)) (nw sd 0 1) (nw pr 0 P1)) := hD
      refine pr_if_eq (tgt := 37) hx hb (i3_of (by decide) (by decide)) d_P_gain_19 (by decide) (fun c_1 => ?_) (fun c_1 => ?_)
      · skip
        exact absurd c_1 (by decide)
      · skip
        refine lv_aload_n hx hb d_P_gain_22 rfl (lv_at hl 0 rfl) ?_
        refine va_get (D := D) (ci := 0) (v := .ref (a 1)) (C := R_P) (T := T_P) (N := 6) hx hb hts (in_P _) hown hK hP 0 rfl rfl 0 (by decide) (ht _ m_196) (fun _ h9 => h9) rfl d_P_gain_23 ?_
        refine lv_iload_n hx hb d_P_gain_26 rfl (lv_at hl 1 rfl) ?_
        refine pr_ire (B := ((x.toNat : Nat) : Int)) (Int.toNat_of_nonneg (by omega)).symm ?_
        refine lv_aload_n hx hb d_P_gain_27 rfl (lv_at hl 0 rfl) ?_
        refine va_get (D := D) (ci := 0) (v := .ref (a 36)) (C := R_P) (T := T_P) (N := 6) hx hb hts (in_P _) hown hK hP 0 rfl rfl 3 (by decide) (ht _ m_199) (fun _ h9 => h9) rfl d_P_gain_28 ?_
        refine pr_pi (va_runV (As := [.int (iI (((x.toNat : Nat) : Int))), .ref (a 36)]) (rest := []) ⟨hx, hb, hml, hown, hts⟩ (c_N_gainOf l 0 (x.toNat) hOk (by decide) hPr1 hss (by omega)) (cwV 2 hts (pn_gV m_500 m_449 m_450 m_34 m_451) rfl rfl rfl (by decide +kernel) ⟨Nat.le_of_ble_eq_true rfl, Nat.le_of_ble_eq_true rfl⟩) (pn_preV (q0 := 1) (ci := 1) (q := (R_N, T_N, 17)) hP hE rfl rfl) rfl rfl hl.1 rfl (lv_room (Nat.le_of_ble_eq_true rfl)) d_P_gain_31 ⟨Nat.le_of_ble_eq_true rfl, Nat.le_of_ble_eq_true rfl⟩) ?_
        refine pr_ire (B := m_gain nf da (ss 0) P1 (x + 4)) (by show m_gain nf da (ss 0) P1 _ = m_gain nf da (ss 0) P1 _; congr 1; omega) ?_
        refine lv_goto (tgt := 39) hx hb d_P_gain_34 (by decide) ?_
        refine vx_ret ?_
        refine W.widen (k := 1) (n := 6) (by decide) (by decide) ?_
        exact W.iret (v := iI (m_gain nf da (ss 0) P1 (x + 4))) hx hb hr (fun t ht hW => ⟨⟨iI (m_gain nf da (ss 0) P1 (x + 4)), (P1, b1, 1), rfl, ⟨by omega, h51, Or.inl ⟨rfl, hSt, hBe⟩, Or.inl ⟨rfl, rfl⟩⟩, by rw [ht]; exact hP, hD⟩, hS.F ht⟩) hS.2.2 d_P_gain_39
    · refine pr_ire (B := 0) rfl ?_
      have hP : va_P D pn_cl (cw a cI cL cD cS nf ns da b1 ui ul cn ss (nw mf 0 (ns 3)) (nw sd 0 0) (nw pr 0 P1)) H := hP
      have hD : va_D A (cw a cI cL cD cS nf ns da b1 ui ul cn ss (nw mf 0 (ns 3)) (nw sd 0 0) (nw pr 0 P1)) := hD
      refine pr_if_eq (tgt := 37) hx hb (i3_of (by decide) (by decide)) d_P_gain_19 (by decide) (fun c_2 => ?_) (fun c_2 => ?_)
      · skip
        refine lv_ldc (v := iI (-1000000)) hx hb hown (ht (.constant _ 124 (iI (-1000000))) m_475) d_P_gain_37 ?_
        refine vx_ret ?_
        refine W.widen (k := 1) (n := 6) (by decide) (by decide) ?_
        exact W.iret (v := iI (-1000000)) hx hb hr (fun t ht hW => ⟨⟨iI (-1000000), (P1, b1, 0), rfl, ⟨by omega, h51, Or.inr ⟨rfl, hNo⟩, Or.inr ⟨rfl, rfl⟩⟩, by rw [ht]; exact hP, hD⟩, hS.F ht⟩) hS.2.2 d_P_gain_39
      · skip
        exact absurd c_2 (by decide)
  · refine pr_ire (B := 0) (b2_f hL5) ?_
    exact px_throw (cls := "java/lang/IllegalArgumentException") (vx_runS (As := [.int (iI 0)]) (rest := []) ⟨hx, hb, hml, hown, hts⟩ (x_P_demandLegal l hst s.heap.size) (cwS 1 hts (pn_gS m_231 m_232 m_33 m_233) rfl rfl rfl (by decide +kernel) ⟨Nat.le_of_ble_eq_true rfl, Nat.le_of_ble_eq_true rfl⟩) (pn_preX hX hS hA) rfl rfl hl.1 rfl (lv_room (Nat.le_of_ble_eq_true rfl)) d_P_gain_5 ⟨Nat.le_of_ble_eq_true rfl, Nat.le_of_ble_eq_true rfl⟩) hS hA (fun x hx9 => (htab x hx9).elim) hlocks (by decide) (by decide) (fun q h => h) (fun t H1 locs1 hh hk hS1 => ⟨(), trivial, ⟨⟨rfl, by omega⟩, by rw [hh]; exact hP.kept (fun k9 q9 h9 => hk q9.1 ((hP k9 q9 h9).lt))⟩, hS1.F hh⟩)
abbrev w_P_blows : List Cond := .code y_P_blows b_P_blows 2 (some .int) :: pn_W
set_option maxHeartbeats 4000000 in
set_option maxRecDepth 100000 in
theorem c_P_blows (l : Launch) (hst : l.stackTraces = false) {D : va_G} {a : Nat → Nat} {cI cL cD cS : ClassId} {nf : Nat → Int → Int} {ns : Nat → Int} {da : Int → Int → Int} {be : Int → Int} {ui ul : Nat → Int → Int} {cn : Int} {ss : Nat → Nat} {mf sd : Nat → Int} {pr : Nat → Int → Int} (sz : Nat) (x : Int) (hOk : pn_Ok nf ns da) (hM : pn_Mono (ns 0) (m_G nf da (ss 0))) (hss : ss 0 < 2 ^ 20) (hsd : sd 0 = 0 ∨ sd 0 = 1) (hmf : -1 ≤ mf 0 ∧ mf 0 ≤ 512) (hC : mf 0 = ns 3 → pn_P5 (pr 0) ∧ pn_Le (ns 0) (nf 0) (m_G nf da (ss 0)) (sd 0) (pr 0)) (gx : i3 x) : vx_Met l y_P_blows w_P_blows ({ frames := 7, cells := 1, slots := 6, locals := 188 }) (va_Pc [.ref (a 0), .int (iI (x))] (fun U => U.heap.size = sz ∧ va_P D pn_cl (cw a cI cL cD cS nf ns da be ui ul cn ss mf sd pr) U.heap ∧ va_D (fun _ => True) (cw a cI cL cD cS nf ns da be ui ul cn ss mf sd pr) ∧ pn_E D cI cL cD cS U ∧ pn_X (va_A (cw a cI cL cD cS nf ns da be ui ul cn ss mf sd pr) sz) U)) (va_Qi (fun (r : Int32) (u : (Int → Int) × (Int → Int) × Int) => (0 ≤ x ∧ x ≤ ns 2 - 1) ∧ pn_P5 u.1 ∧ pn_Le (ns 0) (nf 0) (m_G nf da (ss 0)) u.2.2 u.1 ∧ ((u.2.2 = 1 ∧ r = iI (m_flow nf (ss 0) u.1 (20 + x))) ∨ (u.2.2 = 0 ∧ r = iI (-1000000)))) (fun u t => va_P D pn_cl ((fun u : (Int → Int) × (Int → Int) × Int => cw a cI cL cD cS nf ns da u.2.1 ui ul cn ss (nw mf 0 (ns 3)) (nw sd 0 u.2.2) (nw pr 0 u.1)) u) t.heap ∧ va_D (va_A (cw a cI cL cD cS nf ns da be ui ul cn ss mf sd pr) sz) ((fun u : (Int → Int) × (Int → Int) × Int => cw a cI cL cD cS nf ns da u.2.1 ui ul cn ss (nw mf 0 (ns 3)) (nw sd 0 u.2.2) (nw pr 0 u.1)) u)) (va_A (cw a cI cL cD cS nf ns da be ui ul cn ss mf sd pr) sz)) (vx_X (fun _ : Unit => True) (fun E _ t => (E = "java/lang/IllegalArgumentException" ∧ ¬ (0 ≤ x ∧ x ≤ ns 2 - 1)) ∧ va_P D pn_cl (cw a cI cL cD cS nf ns da be ui ul cn ss mf sd pr) t.heap) (va_A (cw a cI cL cD cS nf ns da be ui ul cn ss mf sd pr) sz)) 1 6 (va_A (cw a cI cL cD cS nf ns da be ui ul cn ss mf sd pr) sz) := by
  refine vx_ofW (cc := b_P_blows) (maxL := 2) (ret := (some .int)) (by decide) rfl ?_
  intro p e s m args below meth c s₁ B hml htab hv
  obtain ⟨rfl, hsz, hP, hD0, hE, hX⟩ := hv
  have hx := B.exec
  have hb := B.bytes
  have hr := B.returns
  have hts := atoms_spec (ws := w_P_blows) B.pre
  have ht : ∀ w ∈ pn_W, w.before _ s = true := fun w h => hts w (List.mem_cons_of_mem _ h)
  have hown : s.vm.findClass R_P = some m.cls := findClass_of_methodNamed B.named
  have hlocks := B.notSynchronized
  have hK := hE.1
  subst hsz
  have hD := hD0.self (sz := s.heap.size)
  generalize hAe : va_A (cw a cI cL cD cS nf ns da be ui ul cn ss mf sd pr) s.heap.size = A at hD hX ⊢
  have hA : ∀ q : Nat, s.heap.size ≤ q → A q := fun q h => by rw [← hAe]; exact Or.inr h
  have hS : va_S A s.heap s.heap [] := va_S.rf
  have hl := lv_entry ([.ref (a 0), .int (iI (x))]) (n := 2) (Nat.le_of_ble_eq_true rfl)
  rw [lg_entry_eq]
  generalize (lg_sl ([.ref (a 0), .int (iI (x))]) ++ List.replicate (2 - (lg_sl ([.ref (a 0), .int (iI (x))])).length) Slot.unset).toArray = ls at hl ⊢
  have hl : lv_has ls 2 [(0, .ref (a 0)), (1, .int (iI (x)))] := hl
  obtain ⟨o_zc, o_lc, o_fc, o_ve, o_wi, o_wa, o_vo, o_fr, o_to, o_he, o_ar, o_ki, o_st, o_ff, o_sl, o_dc, o_da⟩ := id hOk
  obtain ⟨gx1, gx2⟩ := gx
  refine lv_iload_n hx hb d_P_blows_0 rfl (lv_at hl 1 rfl) ?_
  refine lv_iconst (v := iI (0)) hx hb d_P_blows_1 rfl ?_
  refine lv_aload_n hx hb d_P_blows_2 rfl (lv_at hl 0 rfl) ?_
  refine va_get (D := D) (ci := 0) (v := .ref (a 1)) (C := R_P) (T := T_P) (N := 6) hx hb hts (in_P _) hown hK hP 0 rfl rfl 0 (by decide) (ht _ m_196) (fun _ h9 => h9) rfl d_P_blows_3 ?_
  refine va_get (D := D) (ci := 1) (v := .int (iI (ns 2))) (C := R_N) (T := T_N) (N := 17) hx hb hts (in_N _) hown hK hP 1 rfl rfl 15 (by decide) (ht _ m_88) (fun _ h9 => h9) rfl d_P_blows_6 ?_
  refine lv_iconst (v := iI (1)) hx hb d_P_blows_9 rfl ?_
  refine pr_isub hx hb d_P_blows_10 ?_
  refine pr_pi (va_runS (As := [.int (iI (x)), .int (iI (0)), .int (iI ((ns 2) - (1)))]) (rest := []) ⟨hx, hb, hml, hown, hts⟩ (c_P_isWithin l (x) (0) ((ns 2) - (1)) (i3_of (by omega) (by omega)) (i3_of (by decide) (by decide)) (i3_of (by omega) (by omega))) (cwS 3 hts (pn_gS m_227 m_228 m_33 m_229) rfl rfl rfl (by decide +kernel) ⟨Nat.le_of_ble_eq_true rfl, Nat.le_of_ble_eq_true rfl⟩) pn_pre0 rfl rfl hl.1 rfl (lv_room (Nat.le_of_ble_eq_true rfl)) d_P_blows_11 ⟨Nat.le_of_ble_eq_true rfl, Nat.le_of_ble_eq_true rfl⟩) ?_
  by_cases hL14 : (0 ≤ x ∧ x ≤ (ns 2) - (1))
  · refine pr_ire (B := 1) (b2_t hL14) ?_
    refine pr_pv (va_runS (As := [.int (iI 1)]) (rest := []) ⟨hx, hb, hml, hown, hts⟩ (c_P_demandLegal l) (cwS 1 hts (pn_gS m_231 m_232 m_33 m_233) rfl rfl rfl (by decide +kernel) ⟨Nat.le_of_ble_eq_true rfl, Nat.le_of_ble_eq_true rfl⟩) pn_pre0 rfl rfl hl.1 rfl (lv_room (Nat.le_of_ble_eq_true rfl)) d_P_blows_14 ⟨Nat.le_of_ble_eq_true rfl, Nat.le_of_ble_eq_true rfl⟩) ?_
    refine lv_aload_n hx hb d_P_blows_17 rfl (lv_at hl 0 rfl) ?_
    refine va_get (D := D) (ci := 0) (v := .ref (a 27)) (C := R_P) (T := T_P) (N := 6) hx hb hts (in_P _) hown hK hP 0 rfl rfl 1 (by decide) (ht _ m_197) (fun _ h9 => h9) rfl d_P_blows_18 ?_
    refine lv_aload_n hx hb d_P_blows_21 rfl (lv_at hl 0 rfl) ?_
    refine va_get (D := D) (ci := 0) (v := .ref (a 36)) (C := R_P) (T := T_P) (N := 6) hx hb hts (in_P _) hown hK hP 0 rfl rfl 3 (by decide) (ht _ m_199) (fun _ h9 => h9) rfl d_P_blows_22 ?_
    refine pr_ci (va_runV (As := [.ref (a 36)]) (rest := []) ⟨hx, hb, hml, hown, hts⟩ (c_S_settles l (be := be) (mf := mf) (sd := sd) (pr := pr) s.heap.size 0 hOk (by decide) hM hss hsd hmf hC) (cwV 1 hts (pn_gV m_420 m_421 m_422 m_35 m_423) rfl rfl rfl (by decide +kernel) ⟨Nat.le_of_ble_eq_true rfl, Nat.le_of_ble_eq_true rfl⟩) (pn_preW (q0 := 27) (ci := 2) (q := (R_S, T_S, 2)) hP hD hE rfl rfl) rfl rfl hl.1 rfl (lv_room (Nat.le_of_ble_eq_true rfl)) d_P_blows_25 ⟨Nat.le_of_ble_eq_true rfl, Nat.le_of_ble_eq_true rfl⟩) hD hS hA (fun r u H locs hw hP hD hS => ?_)
    obtain ⟨P1, b1, m1, s1⟩ := u
    obtain ⟨rfl, rfl, h51, hLe⟩ := hw
    try dsimp only at hP hD h51 hLe
    have hPr1 : pn_Pr P1 := h51.pr
    rcases hLe with ⟨rfl, hSt, hBe⟩ | ⟨rfl, hNo⟩
    · refine pr_ire (B := 1) rfl ?_
      have hP : va_P D pn_cl (cw a cI cL cD cS nf ns da b1 ui ul cn ss (nw mf 0 (ns 3)) (nw sd 0 1) (nw pr 0 P1)) H := hP
      have hD : va_D A (cw a cI cL cD cS nf ns da b1 ui ul cn ss (nw mf 0 (ns 3)) (nw sd 0 1) (nw pr 0 P1)) := hD
      refine pr_if_eq (tgt := 49) hx hb (i3_of (by decide) (by decide)) d_P_blows_28 (by decide) (fun c_1 => ?_) (fun c_1 => ?_)
      · skip
        exact absurd c_1 (by decide)
      · skip
        refine lv_aload_n hx hb d_P_blows_31 rfl (lv_at hl 0 rfl) ?_
        refine va_get (D := D) (ci := 0) (v := .ref (a 1)) (C := R_P) (T := T_P) (N := 6) hx hb hts (in_P _) hown hK hP 0 rfl rfl 0 (by decide) (ht _ m_196) (fun _ h9 => h9) rfl d_P_blows_32 ?_
        refine lv_iload_n hx hb d_P_blows_35 rfl (lv_at hl 1 rfl) ?_
        refine pr_pi (va_runS (As := [.int (iI (x))]) (rest := [.ref (a 1)]) ⟨hx, hb, hml, hown, hts⟩ (c_P_ductOfFan l (x)) (cwS 1 hts (pn_gS m_492 m_411 m_33 m_412) rfl rfl rfl (by decide +kernel) ⟨Nat.le_of_ble_eq_true rfl, Nat.le_of_ble_eq_true rfl⟩) pn_pre0 rfl rfl hl.1 rfl (lv_room (Nat.le_of_ble_eq_true rfl)) d_P_blows_36 ⟨Nat.le_of_ble_eq_true rfl, Nat.le_of_ble_eq_true rfl⟩) ?_
        refine lv_aload_n hx hb d_P_blows_39 rfl (lv_at hl 0 rfl) ?_
        refine va_get (D := D) (ci := 0) (v := .ref (a 36)) (C := R_P) (T := T_P) (N := 6) hx hb hts (in_P _) hown hK hP 0 rfl rfl 3 (by decide) (ht _ m_199) (fun _ h9 => h9) rfl d_P_blows_40 ?_
        refine pr_pi (va_runV (As := [.int (iI (20 + (x))), .ref (a 36)]) (rest := []) ⟨hx, hb, hml, hown, hts⟩ (c_N_flowOf l 0 (20 + (x)) hOk (by decide) hPr1 hss ⟨by omega, by omega⟩) (cwV 2 hts (pn_gV m_484 m_453 m_454 m_34 m_455) rfl rfl rfl (by decide +kernel) ⟨Nat.le_of_ble_eq_true rfl, Nat.le_of_ble_eq_true rfl⟩) (pn_preV (q0 := 1) (ci := 1) (q := (R_N, T_N, 17)) hP hE rfl rfl) rfl rfl hl.1 rfl (lv_room (Nat.le_of_ble_eq_true rfl)) d_P_blows_43 ⟨Nat.le_of_ble_eq_true rfl, Nat.le_of_ble_eq_true rfl⟩) ?_
        refine pr_ire (B := m_flow nf (ss 0) P1 (20 + x)) rfl ?_
        refine lv_goto (tgt := 51) hx hb d_P_blows_46 (by decide) ?_
        refine vx_ret ?_
        refine W.widen (k := 1) (n := 6) (by decide) (by decide) ?_
        exact W.iret (v := iI (m_flow nf (ss 0) P1 (20 + x))) hx hb hr (fun t ht hW => ⟨⟨iI (m_flow nf (ss 0) P1 (20 + x)), (P1, b1, 1), rfl, ⟨by omega, h51, Or.inl ⟨rfl, hSt, hBe⟩, Or.inl ⟨rfl, rfl⟩⟩, by rw [ht]; exact hP, hD⟩, hS.F ht⟩) hS.2.2 d_P_blows_51
    · refine pr_ire (B := 0) rfl ?_
      have hP : va_P D pn_cl (cw a cI cL cD cS nf ns da b1 ui ul cn ss (nw mf 0 (ns 3)) (nw sd 0 0) (nw pr 0 P1)) H := hP
      have hD : va_D A (cw a cI cL cD cS nf ns da b1 ui ul cn ss (nw mf 0 (ns 3)) (nw sd 0 0) (nw pr 0 P1)) := hD
      refine pr_if_eq (tgt := 49) hx hb (i3_of (by decide) (by decide)) d_P_blows_28 (by decide) (fun c_2 => ?_) (fun c_2 => ?_)
      · skip
        refine lv_ldc (v := iI (-1000000)) hx hb hown (ht (.constant _ 124 (iI (-1000000))) m_475) d_P_blows_49 ?_
        refine vx_ret ?_
        refine W.widen (k := 1) (n := 6) (by decide) (by decide) ?_
        exact W.iret (v := iI (-1000000)) hx hb hr (fun t ht hW => ⟨⟨iI (-1000000), (P1, b1, 0), rfl, ⟨by omega, h51, Or.inr ⟨rfl, hNo⟩, Or.inr ⟨rfl, rfl⟩⟩, by rw [ht]; exact hP, hD⟩, hS.F ht⟩) hS.2.2 d_P_blows_51
      · skip
        exact absurd c_2 (by decide)
  · refine pr_ire (B := 0) (b2_f hL14) ?_
    exact px_throw (cls := "java/lang/IllegalArgumentException") (vx_runS (As := [.int (iI 0)]) (rest := []) ⟨hx, hb, hml, hown, hts⟩ (x_P_demandLegal l hst s.heap.size) (cwS 1 hts (pn_gS m_231 m_232 m_33 m_233) rfl rfl rfl (by decide +kernel) ⟨Nat.le_of_ble_eq_true rfl, Nat.le_of_ble_eq_true rfl⟩) (pn_preX hX hS hA) rfl rfl hl.1 rfl (lv_room (Nat.le_of_ble_eq_true rfl)) d_P_blows_14 ⟨Nat.le_of_ble_eq_true rfl, Nat.le_of_ble_eq_true rfl⟩) hS hA (fun x hx9 => (htab x hx9).elim) hlocks (by decide) (by decide) (fun q h => h) (fun t H1 locs1 hh hk hS1 => ⟨(), trivial, ⟨⟨rfl, by omega⟩, by rw [hh]; exact hP.kept (fun k9 q9 h9 => hk q9.1 ((hP k9 q9 h9).lt))⟩, hS1.F hh⟩)
abbrev w_P_told : List Cond := .code y_P_told b_P_told 3 (some .int) :: pn_W
set_option maxHeartbeats 4000000 in
set_option maxRecDepth 100000 in
theorem c_P_told (l : Launch) (hst : l.stackTraces = false) {D : va_G} {a : Nat → Nat} {cI cL cD cS : ClassId} {nf : Nat → Int → Int} {ns : Nat → Int} {da : Int → Int → Int} {be : Int → Int} {ui ul : Nat → Int → Int} {cn : Int} {ss : Nat → Nat} {mf sd : Nat → Int} {pr : Nat → Int → Int} (sz : Nat) (x y : Int) (hOk : pn_Ok nf ns da) (hM : pn_Mono (ns 0) (m_G nf da (ss 0))) (hss : ss 0 < 2 ^ 20) (hsd : sd 0 = 0 ∨ sd 0 = 1) (hmf : -1 ≤ mf 0 ∧ mf 0 ≤ 512) (hC : mf 0 = ns 3 → pn_P5 (pr 0) ∧ pn_Le (ns 0) (nf 0) (m_G nf da (ss 0)) (sd 0) (pr 0)) (gx : i3 x) (gy : i3 y) : vx_Met l y_P_told w_P_told ({ frames := 7, cells := 1, slots := 6, locals := 188 }) (va_Pc [.ref (a 0), .int (iI (x)), .int (iI (y))] (fun U => U.heap.size = sz ∧ va_P D pn_cl (cw a cI cL cD cS nf ns da be ui ul cn ss mf sd pr) U.heap ∧ va_D (fun _ => True) (cw a cI cL cD cS nf ns da be ui ul cn ss mf sd pr) ∧ pn_E D cI cL cD cS U ∧ pn_X (va_A (cw a cI cL cD cS nf ns da be ui ul cn ss mf sd pr) sz) U)) (va_Qi (fun (r : Int32) (u : (Int → Int) × (Int → Int) × Int) => ((0 ≤ x ∧ x ≤ ns 1 - 1) ∧ (0 ≤ y ∧ y ≤ 1)) ∧ pn_P5 u.1 ∧ pn_Le (ns 0) (nf 0) (m_G nf da (ss 0)) u.2.2 u.1 ∧ ((u.2.2 = 1 ∧ r = iI (if y = 0 then m_drive nf u.1 x else m_flow nf (ss 0) u.1 x)) ∨ (u.2.2 = 0 ∧ r = iI (-1000000)))) (fun u t => va_P D pn_cl ((fun u : (Int → Int) × (Int → Int) × Int => cw a cI cL cD cS nf ns da u.2.1 ui ul cn ss (nw mf 0 (ns 3)) (nw sd 0 u.2.2) (nw pr 0 u.1)) u) t.heap ∧ va_D (va_A (cw a cI cL cD cS nf ns da be ui ul cn ss mf sd pr) sz) ((fun u : (Int → Int) × (Int → Int) × Int => cw a cI cL cD cS nf ns da u.2.1 ui ul cn ss (nw mf 0 (ns 3)) (nw sd 0 u.2.2) (nw pr 0 u.1)) u)) (va_A (cw a cI cL cD cS nf ns da be ui ul cn ss mf sd pr) sz)) (vx_X (fun _ : Unit => True) (fun E _ t => (E = "java/lang/IllegalArgumentException" ∧ ¬ ((0 ≤ x ∧ x ≤ ns 1 - 1) ∧ (0 ≤ y ∧ y ≤ 1))) ∧ va_P D pn_cl (cw a cI cL cD cS nf ns da be ui ul cn ss mf sd pr) t.heap) (va_A (cw a cI cL cD cS nf ns da be ui ul cn ss mf sd pr) sz)) 1 6 (va_A (cw a cI cL cD cS nf ns da be ui ul cn ss mf sd pr) sz) := by
  refine vx_ofW (cc := b_P_told) (maxL := 3) (ret := (some .int)) (by decide) rfl ?_
  intro p e s m args below meth c s₁ B hml htab hv
  obtain ⟨rfl, hsz, hP, hD0, hE, hX⟩ := hv
  have hx := B.exec
  have hb := B.bytes
  have hr := B.returns
  have hts := atoms_spec (ws := w_P_told) B.pre
  have ht : ∀ w ∈ pn_W, w.before _ s = true := fun w h => hts w (List.mem_cons_of_mem _ h)
  have hown : s.vm.findClass R_P = some m.cls := findClass_of_methodNamed B.named
  have hlocks := B.notSynchronized
  have hK := hE.1
  subst hsz
  have hD := hD0.self (sz := s.heap.size)
  generalize hAe : va_A (cw a cI cL cD cS nf ns da be ui ul cn ss mf sd pr) s.heap.size = A at hD hX ⊢
  have hA : ∀ q : Nat, s.heap.size ≤ q → A q := fun q h => by rw [← hAe]; exact Or.inr h
  have hS : va_S A s.heap s.heap [] := va_S.rf
  have hl := lv_entry ([.ref (a 0), .int (iI (x)), .int (iI (y))]) (n := 3) (Nat.le_of_ble_eq_true rfl)
  rw [lg_entry_eq]
  generalize (lg_sl ([.ref (a 0), .int (iI (x)), .int (iI (y))]) ++ List.replicate (3 - (lg_sl ([.ref (a 0), .int (iI (x)), .int (iI (y))])).length) Slot.unset).toArray = ls at hl ⊢
  have hl : lv_has ls 3 [(0, .ref (a 0)), (1, .int (iI (x))), (2, .int (iI (y)))] := hl
  obtain ⟨o_zc, o_lc, o_fc, o_ve, o_wi, o_wa, o_vo, o_fr, o_to, o_he, o_ar, o_ki, o_st, o_ff, o_sl, o_dc, o_da⟩ := id hOk
  obtain ⟨gx1, gx2⟩ := gx
  obtain ⟨gy1, gy2⟩ := gy
  refine lv_aload_n hx hb d_P_told_0 rfl (lv_at hl 0 rfl) ?_
  refine lv_iload_n hx hb d_P_told_1 rfl (lv_at hl 1 rfl) ?_
  refine pr_pi (va_runV (As := [.int (iI (x))]) (rest := []) ⟨hx, hb, hml, hown, hts⟩ (c_P_isLeak l (x) hOk (i3_of (by omega) (by omega))) (cwV 1 hts (pn_gV m_395 m_397 m_7 m_33 m_398) rfl rfl rfl (by decide +kernel) ⟨Nat.le_of_ble_eq_true rfl, Nat.le_of_ble_eq_true rfl⟩) (pn_preV (q0 := 0) (ci := 0) (q := (R_P, T_P, 6)) hP hE rfl rfl) rfl rfl hl.1 rfl (lv_room (Nat.le_of_ble_eq_true rfl)) d_P_told_2 ⟨Nat.le_of_ble_eq_true rfl, Nat.le_of_ble_eq_true rfl⟩) ?_
  refine pr_if_eq (tgt := 21) hx hb (i3_b2 _) d_P_told_5 (by decide) (fun c_1 => ?_) (fun c_1 => ?_)
  · replace c_1 := b2_0 c_1
    refine lv_iconst (v := iI (0)) hx hb d_P_told_21 rfl ?_
    exact px_throw (cls := "java/lang/IllegalArgumentException") (vx_runS (As := [.int (iI 0)]) (rest := []) ⟨hx, hb, hml, hown, hts⟩ (x_P_demandLegal l hst s.heap.size) (cwS 1 hts (pn_gS m_231 m_232 m_33 m_233) rfl rfl rfl (by decide +kernel) ⟨Nat.le_of_ble_eq_true rfl, Nat.le_of_ble_eq_true rfl⟩) (pn_preX hX hS hA) rfl rfl hl.1 rfl (lv_room (Nat.le_of_ble_eq_true rfl)) d_P_told_22 ⟨Nat.le_of_ble_eq_true rfl, Nat.le_of_ble_eq_true rfl⟩) hS hA (fun x hx9 => (htab x hx9).elim) hlocks (by decide) (by decide) (fun q h => h) (fun t H1 locs1 hh hk hS1 => ⟨(), trivial, ⟨⟨rfl, by omega⟩, by rw [hh]; exact hP.kept (fun k9 q9 h9 => hk q9.1 ((hP k9 q9 h9).lt))⟩, hS1.F hh⟩)
  · replace c_1 := b2_n1 c_1
    refine lv_iload_n hx hb d_P_told_8 rfl (lv_at hl 2 rfl) ?_
    refine lv_iconst (v := iI (0)) hx hb d_P_told_9 rfl ?_
    refine lv_iconst (v := iI (1)) hx hb d_P_told_10 rfl ?_
    refine pr_pi (va_runS (As := [.int (iI (y)), .int (iI (0)), .int (iI (1))]) (rest := []) ⟨hx, hb, hml, hown, hts⟩ (c_P_isWithin l (y) (0) (1) (i3_of (by omega) (by omega)) (i3_of (by decide) (by decide)) (i3_of (by decide) (by decide))) (cwS 3 hts (pn_gS m_227 m_228 m_33 m_229) rfl rfl rfl (by decide +kernel) ⟨Nat.le_of_ble_eq_true rfl, Nat.le_of_ble_eq_true rfl⟩) pn_pre0 rfl rfl hl.1 rfl (lv_room (Nat.le_of_ble_eq_true rfl)) d_P_told_11 ⟨Nat.le_of_ble_eq_true rfl, Nat.le_of_ble_eq_true rfl⟩) ?_
    refine pr_if_eq (tgt := 21) hx hb (i3_b2 _) d_P_told_14 (by decide) (fun c_2 => ?_) (fun c_2 => ?_)
    · replace c_2 := b2_0 c_2
      refine lv_iconst (v := iI (0)) hx hb d_P_told_21 rfl ?_
      exact px_throw (cls := "java/lang/IllegalArgumentException") (vx_runS (As := [.int (iI 0)]) (rest := []) ⟨hx, hb, hml, hown, hts⟩ (x_P_demandLegal l hst s.heap.size) (cwS 1 hts (pn_gS m_231 m_232 m_33 m_233) rfl rfl rfl (by decide +kernel) ⟨Nat.le_of_ble_eq_true rfl, Nat.le_of_ble_eq_true rfl⟩) (pn_preX hX hS hA) rfl rfl hl.1 rfl (lv_room (Nat.le_of_ble_eq_true rfl)) d_P_told_22 ⟨Nat.le_of_ble_eq_true rfl, Nat.le_of_ble_eq_true rfl⟩) hS hA (fun x hx9 => (htab x hx9).elim) hlocks (by decide) (by decide) (fun q h => h) (fun t H1 locs1 hh hk hS1 => ⟨(), trivial, ⟨⟨rfl, by omega⟩, by rw [hh]; exact hP.kept (fun k9 q9 h9 => hk q9.1 ((hP k9 q9 h9).lt))⟩, hS1.F hh⟩)
    · replace c_2 := b2_n1 c_2
      refine lv_iconst (v := iI (1)) hx hb d_P_told_17 rfl ?_
      refine lv_goto (tgt := 22) hx hb d_P_told_18 (by decide) ?_
      refine pr_pv (va_runS (As := [.int (iI 1)]) (rest := []) ⟨hx, hb, hml, hown, hts⟩ (c_P_demandLegal l) (cwS 1 hts (pn_gS m_231 m_232 m_33 m_233) rfl rfl rfl (by decide +kernel) ⟨Nat.le_of_ble_eq_true rfl, Nat.le_of_ble_eq_true rfl⟩) pn_pre0 rfl rfl hl.1 rfl (lv_room (Nat.le_of_ble_eq_true rfl)) d_P_told_22 ⟨Nat.le_of_ble_eq_true rfl, Nat.le_of_ble_eq_true rfl⟩) ?_
      refine lv_aload_n hx hb d_P_told_25 rfl (lv_at hl 0 rfl) ?_
      refine va_get (D := D) (ci := 0) (v := .ref (a 27)) (C := R_P) (T := T_P) (N := 6) hx hb hts (in_P _) hown hK hP 0 rfl rfl 1 (by decide) (ht _ m_197) (fun _ h9 => h9) rfl d_P_told_26 ?_
      refine lv_aload_n hx hb d_P_told_29 rfl (lv_at hl 0 rfl) ?_
      refine va_get (D := D) (ci := 0) (v := .ref (a 36)) (C := R_P) (T := T_P) (N := 6) hx hb hts (in_P _) hown hK hP 0 rfl rfl 3 (by decide) (ht _ m_199) (fun _ h9 => h9) rfl d_P_told_30 ?_
      refine pr_ci (va_runV (As := [.ref (a 36)]) (rest := []) ⟨hx, hb, hml, hown, hts⟩ (c_S_settles l (be := be) (mf := mf) (sd := sd) (pr := pr) s.heap.size 0 hOk (by decide) hM hss hsd hmf hC) (cwV 1 hts (pn_gV m_420 m_421 m_422 m_35 m_423) rfl rfl rfl (by decide +kernel) ⟨Nat.le_of_ble_eq_true rfl, Nat.le_of_ble_eq_true rfl⟩) (pn_preW (q0 := 27) (ci := 2) (q := (R_S, T_S, 2)) hP hD hE rfl rfl) rfl rfl hl.1 rfl (lv_room (Nat.le_of_ble_eq_true rfl)) d_P_told_33 ⟨Nat.le_of_ble_eq_true rfl, Nat.le_of_ble_eq_true rfl⟩) hD hS hA (fun r u H locs hw hP hD hS => ?_)
      obtain ⟨P1, b1, m1, s1⟩ := u
      obtain ⟨rfl, rfl, h51, hLe⟩ := hw
      try dsimp only at hP hD h51 hLe
      have hPr1 : pn_Pr P1 := h51.pr
      rcases hLe with ⟨rfl, hSt, hBe⟩ | ⟨rfl, hNo⟩
      · refine pr_ire (B := 1) rfl ?_
        have hP : va_P D pn_cl (cw a cI cL cD cS nf ns da b1 ui ul cn ss (nw mf 0 (ns 3)) (nw sd 0 1) (nw pr 0 P1)) H := hP
        have hD : va_D A (cw a cI cL cD cS nf ns da b1 ui ul cn ss (nw mf 0 (ns 3)) (nw sd 0 1) (nw pr 0 P1)) := hD
        refine pr_if_ne (tgt := 42) hx hb (i3_of (by decide) (by decide)) d_P_told_36 (by decide) (fun c_3 => ?_) (fun c_3 => ?_)
        · skip
          refine lv_iload_n hx hb d_P_told_42 rfl (lv_at hl 2 rfl) ?_
          refine pr_if_ne (tgt := 64) hx hb (i3_of (by omega) (by omega)) d_P_told_43 (by decide) (fun c_4 => ?_) (fun c_4 => ?_)
          · skip
            refine lv_aload_n hx hb d_P_told_64 rfl (lv_at hl 0 rfl) ?_
            refine va_get (D := D) (ci := 0) (v := .ref (a 1)) (C := R_P) (T := T_P) (N := 6) hx hb hts (in_P _) hown hK hP 0 rfl rfl 0 (by decide) (ht _ m_196) (fun _ h9 => h9) rfl d_P_told_65 ?_
            refine lv_iload_n hx hb d_P_told_68 rfl (lv_at hl 1 rfl) ?_
            refine lv_aload_n hx hb d_P_told_69 rfl (lv_at hl 0 rfl) ?_
            refine va_get (D := D) (ci := 0) (v := .ref (a 36)) (C := R_P) (T := T_P) (N := 6) hx hb hts (in_P _) hown hK hP 0 rfl rfl 3 (by decide) (ht _ m_199) (fun _ h9 => h9) rfl d_P_told_70 ?_
            refine pr_pi (va_runV (As := [.int (iI (x)), .ref (a 36)]) (rest := []) ⟨hx, hb, hml, hown, hts⟩ (c_N_flowOf l 0 (x) hOk (by decide) hPr1 hss ⟨by omega, by omega⟩) (cwV 2 hts (pn_gV m_484 m_453 m_454 m_34 m_455) rfl rfl rfl (by decide +kernel) ⟨Nat.le_of_ble_eq_true rfl, Nat.le_of_ble_eq_true rfl⟩) (pn_preV (q0 := 1) (ci := 1) (q := (R_N, T_N, 17)) hP hE rfl rfl) rfl rfl hl.1 rfl (lv_room (Nat.le_of_ble_eq_true rfl)) d_P_told_73 ⟨Nat.le_of_ble_eq_true rfl, Nat.le_of_ble_eq_true rfl⟩) ?_
            refine pr_ire (B := if y = 0 then m_drive nf P1 x else m_flow nf (ss 0) P1 x) (by rw [if_neg (by omega)]; rfl) ?_
            refine vx_ret ?_
            refine W.widen (k := 1) (n := 6) (by decide) (by decide) ?_
            exact W.iret (v := iI (if y = 0 then m_drive nf P1 x else m_flow nf (ss 0) P1 x)) hx hb hr (fun t ht hW => ⟨⟨iI (if y = 0 then m_drive nf P1 x else m_flow nf (ss 0) P1 x), (P1, b1, 1), rfl, ⟨by omega, h51, Or.inl ⟨rfl, hSt, hBe⟩, Or.inl ⟨rfl, rfl⟩⟩, by rw [ht]; exact hP, hD⟩, hS.F ht⟩) hS.2.2 d_P_told_76
          · skip
            refine lv_aload_n hx hb d_P_told_46 rfl (lv_at hl 0 rfl) ?_
            refine va_get (D := D) (ci := 0) (v := .ref (a 1)) (C := R_P) (T := T_P) (N := 6) hx hb hts (in_P _) hown hK hP 0 rfl rfl 0 (by decide) (ht _ m_196) (fun _ h9 => h9) rfl d_P_told_47 ?_
            refine lv_iload_n hx hb d_P_told_50 rfl (lv_at hl 1 rfl) ?_
            refine lv_aload_n hx hb d_P_told_51 rfl (lv_at hl 0 rfl) ?_
            refine va_get (D := D) (ci := 0) (v := .ref (a 36)) (C := R_P) (T := T_P) (N := 6) hx hb hts (in_P _) hown hK hP 0 rfl rfl 3 (by decide) (ht _ m_199) (fun _ h9 => h9) rfl d_P_told_52 ?_
            refine va_get (D := D) (ci := 3) (v := .ref (a 37)) (C := R_T) (T := T_T) (N := 4) hx hb hts (in_T _) hown hK hP (36 + 2 * 0) (cw_so 0 (by decide)) rfl 0 (by decide) (ht _ m_176) (fun _ h9 => h9) rfl d_P_told_55 ?_
            refine pr_pi (va_runV (As := [.int (iI (x)), .ref (a 37)]) (rest := []) ⟨hx, hb, hml, hown, hts⟩ (c_N_driveOf l 0 (x) hOk (by decide) ⟨by omega, by omega⟩) (cwV 2 hts (pn_gV m_483 m_463 m_464 m_34 m_465) rfl rfl rfl (by decide +kernel) ⟨Nat.le_of_ble_eq_true rfl, Nat.le_of_ble_eq_true rfl⟩) (pn_preV (q0 := 1) (ci := 1) (q := (R_N, T_N, 17)) hP hE rfl rfl) rfl rfl hl.1 rfl (lv_room (Nat.le_of_ble_eq_true rfl)) d_P_told_58 ⟨Nat.le_of_ble_eq_true rfl, Nat.le_of_ble_eq_true rfl⟩) ?_
            refine pr_ire (B := if y = 0 then m_drive nf P1 x else m_flow nf (ss 0) P1 x) (by rw [if_pos (by omega)]; rfl) ?_
            refine lv_goto (tgt := 76) hx hb d_P_told_61 (by decide) ?_
            refine vx_ret ?_
            refine W.widen (k := 1) (n := 6) (by decide) (by decide) ?_
            exact W.iret (v := iI (if y = 0 then m_drive nf P1 x else m_flow nf (ss 0) P1 x)) hx hb hr (fun t ht hW => ⟨⟨iI (if y = 0 then m_drive nf P1 x else m_flow nf (ss 0) P1 x), (P1, b1, 1), rfl, ⟨by omega, h51, Or.inl ⟨rfl, hSt, hBe⟩, Or.inl ⟨rfl, rfl⟩⟩, by rw [ht]; exact hP, hD⟩, hS.F ht⟩) hS.2.2 d_P_told_76
        · skip
          exact absurd c_3 (by decide)
      · refine pr_ire (B := 0) rfl ?_
        have hP : va_P D pn_cl (cw a cI cL cD cS nf ns da b1 ui ul cn ss (nw mf 0 (ns 3)) (nw sd 0 0) (nw pr 0 P1)) H := hP
        have hD : va_D A (cw a cI cL cD cS nf ns da b1 ui ul cn ss (nw mf 0 (ns 3)) (nw sd 0 0) (nw pr 0 P1)) := hD
        refine pr_if_ne (tgt := 42) hx hb (i3_of (by decide) (by decide)) d_P_told_36 (by decide) (fun c_5 => ?_) (fun c_5 => ?_)
        · skip
          exact absurd c_5 (by decide)
        · skip
          refine lv_ldc (v := iI (-1000000)) hx hb hown (ht (.constant _ 124 (iI (-1000000))) m_475) d_P_told_39 ?_
          refine vx_ret ?_
          refine W.widen (k := 1) (n := 6) (by decide) (by decide) ?_
          exact W.iret (v := iI (-1000000)) hx hb hr (fun t ht hW => ⟨⟨iI (-1000000), (P1, b1, 0), rfl, ⟨by omega, h51, Or.inr ⟨rfl, hNo⟩, Or.inr ⟨rfl, rfl⟩⟩, by rw [ht]; exact hP, hD⟩, hS.F ht⟩) hS.2.2 d_P_told_41
abbrev w_P_pressure : List Cond := .code y_P_pressure b_P_pressure 2 (some .int) :: pn_W
set_option maxHeartbeats 4000000 in
set_option maxRecDepth 100000 in
theorem c_P_pressure (l : Launch) (hst : l.stackTraces = false) {D : va_G} {a : Nat → Nat} {cI cL cD cS : ClassId} {nf : Nat → Int → Int} {ns : Nat → Int} {da : Int → Int → Int} {be : Int → Int} {ui ul : Nat → Int → Int} {cn : Int} {ss : Nat → Nat} {mf sd : Nat → Int} {pr : Nat → Int → Int} (sz : Nat) (x : Int) (hOk : pn_Ok nf ns da) (hM : pn_Mono (ns 0) (m_G nf da (ss 0))) (hss : ss 0 < 2 ^ 20) (hsd : sd 0 = 0 ∨ sd 0 = 1) (hmf : -1 ≤ mf 0 ∧ mf 0 ≤ 512) (hC : mf 0 = ns 3 → pn_P5 (pr 0) ∧ pn_Le (ns 0) (nf 0) (m_G nf da (ss 0)) (sd 0) (pr 0)) (gx : i3 x) : vx_Met l y_P_pressure w_P_pressure ({ frames := 7, cells := 1, slots := 6, locals := 188 }) (va_Pc [.ref (a 0), .int (iI (x))] (fun U => U.heap.size = sz ∧ va_P D pn_cl (cw a cI cL cD cS nf ns da be ui ul cn ss mf sd pr) U.heap ∧ va_D (fun _ => True) (cw a cI cL cD cS nf ns da be ui ul cn ss mf sd pr) ∧ pn_E D cI cL cD cS U ∧ pn_X (va_A (cw a cI cL cD cS nf ns da be ui ul cn ss mf sd pr) sz) U)) (va_Qi (fun (r : Int32) (u : (Int → Int) × (Int → Int) × Int × Int) => (-4 ≤ x ∧ x ≤ ns 0 - 1) ∧ ((x < 0 ∧ r = iI (nf 0 (x + 4)) ∧ u.1 = pr 0 ∧ u.2.2.1 = mf 0 ∧ u.2.2.2 = sd 0) ∨ (0 ≤ x ∧ u.2.2.1 = ns 3 ∧ pn_P5 u.1 ∧ pn_Le (ns 0) (nf 0) (m_G nf da (ss 0)) u.2.2.2 u.1 ∧ ((u.2.2.2 = 1 ∧ r = iI (u.1 (x + 4))) ∨ (u.2.2.2 = 0 ∧ r = iI (-1000000)))))) (fun u t => va_P D pn_cl ((fun u : (Int → Int) × (Int → Int) × Int × Int => cw a cI cL cD cS nf ns da u.2.1 ui ul cn ss (nw mf 0 u.2.2.1) (nw sd 0 u.2.2.2) (nw pr 0 u.1)) u) t.heap ∧ va_D (va_A (cw a cI cL cD cS nf ns da be ui ul cn ss mf sd pr) sz) ((fun u : (Int → Int) × (Int → Int) × Int × Int => cw a cI cL cD cS nf ns da u.2.1 ui ul cn ss (nw mf 0 u.2.2.1) (nw sd 0 u.2.2.2) (nw pr 0 u.1)) u)) (va_A (cw a cI cL cD cS nf ns da be ui ul cn ss mf sd pr) sz)) (vx_X (fun _ : Unit => True) (fun E _ t => (E = "java/lang/IllegalArgumentException" ∧ ¬ (-4 ≤ x ∧ x ≤ ns 0 - 1)) ∧ va_P D pn_cl (cw a cI cL cD cS nf ns da be ui ul cn ss mf sd pr) t.heap) (va_A (cw a cI cL cD cS nf ns da be ui ul cn ss mf sd pr) sz)) 1 6 (va_A (cw a cI cL cD cS nf ns da be ui ul cn ss mf sd pr) sz) := by
  refine vx_ofW (cc := b_P_pressure) (maxL := 2) (ret := (some .int)) (by decide) rfl ?_
  intro p e s m args below meth c s₁ B hml htab hv
  obtain ⟨rfl, hsz, hP, hD0, hE, hX⟩ := hv
  have hx := B.exec
  have hb := B.bytes
  have hr := B.returns
  have hts := atoms_spec (ws := w_P_pressure) B.pre
  have ht : ∀ w ∈ pn_W, w.before _ s = true := fun w h => hts w (List.mem_cons_of_mem _ h)
  have hown : s.vm.findClass R_P = some m.cls := findClass_of_methodNamed B.named
  have hlocks := B.notSynchronized
  have hK := hE.1
  subst hsz
  have hD := hD0.self (sz := s.heap.size)
  generalize hAe : va_A (cw a cI cL cD cS nf ns da be ui ul cn ss mf sd pr) s.heap.size = A at hD hX ⊢
  have hA : ∀ q : Nat, s.heap.size ≤ q → A q := fun q h => by rw [← hAe]; exact Or.inr h
  have hS : va_S A s.heap s.heap [] := va_S.rf
  have hl := lv_entry ([.ref (a 0), .int (iI (x))]) (n := 2) (Nat.le_of_ble_eq_true rfl)
  rw [lg_entry_eq]
  generalize (lg_sl ([.ref (a 0), .int (iI (x))]) ++ List.replicate (2 - (lg_sl ([.ref (a 0), .int (iI (x))])).length) Slot.unset).toArray = ls at hl ⊢
  have hl : lv_has ls 2 [(0, .ref (a 0)), (1, .int (iI (x)))] := hl
  obtain ⟨o_zc, o_lc, o_fc, o_ve, o_wi, o_wa, o_vo, o_fr, o_to, o_he, o_ar, o_ki, o_st, o_ff, o_sl, o_dc, o_da⟩ := id hOk
  obtain ⟨gx1, gx2⟩ := gx
  refine lv_aload_n hx hb d_P_pressure_0 rfl (lv_at hl 0 rfl) ?_
  refine lv_iload_n hx hb d_P_pressure_1 rfl (lv_at hl 1 rfl) ?_
  refine pr_pi (va_runV (As := [.int (iI (x))]) (rest := []) ⟨hx, hb, hml, hown, hts⟩ (c_P_isPlace l (x) hOk (i3_of (by omega) (by omega))) (cwV 1 hts (pn_gV m_349 m_351 m_1 m_33 m_352) rfl rfl rfl (by decide +kernel) ⟨Nat.le_of_ble_eq_true rfl, Nat.le_of_ble_eq_true rfl⟩) (pn_preV (q0 := 0) (ci := 0) (q := (R_P, T_P, 6)) hP hE rfl rfl) rfl rfl hl.1 rfl (lv_room (Nat.le_of_ble_eq_true rfl)) d_P_pressure_2 ⟨Nat.le_of_ble_eq_true rfl, Nat.le_of_ble_eq_true rfl⟩) ?_
  by_cases hL5 : (-4 ≤ x ∧ x ≤ ns 0 - 1)
  · refine pr_ire (B := 1) (b2_t hL5) ?_
    refine pr_pv (va_runS (As := [.int (iI 1)]) (rest := []) ⟨hx, hb, hml, hown, hts⟩ (c_P_demandLegal l) (cwS 1 hts (pn_gS m_231 m_232 m_33 m_233) rfl rfl rfl (by decide +kernel) ⟨Nat.le_of_ble_eq_true rfl, Nat.le_of_ble_eq_true rfl⟩) pn_pre0 rfl rfl hl.1 rfl (lv_room (Nat.le_of_ble_eq_true rfl)) d_P_pressure_5 ⟨Nat.le_of_ble_eq_true rfl, Nat.le_of_ble_eq_true rfl⟩) ?_
    refine lv_iload_n hx hb d_P_pressure_8 rfl (lv_at hl 1 rfl) ?_
    refine pr_pi (va_runS (As := [.int (iI (x))]) (rest := []) ⟨hx, hb, hml, hown, hts⟩ (c_P_isSide l (x) (i3_of (by omega) (by omega))) (cwS 1 hts (pn_gS m_334 m_335 m_33 m_336) rfl rfl rfl (by decide +kernel) ⟨Nat.le_of_ble_eq_true rfl, Nat.le_of_ble_eq_true rfl⟩) pn_pre0 rfl rfl hl.1 rfl (lv_room (Nat.le_of_ble_eq_true rfl)) d_P_pressure_9 ⟨Nat.le_of_ble_eq_true rfl, Nat.le_of_ble_eq_true rfl⟩) ?_
    refine pr_if_eq (tgt := 28) hx hb (i3_b2 _) d_P_pressure_12 (by decide) (fun c_1 => ?_) (fun c_1 => ?_)
    · replace c_1 := b2_0 c_1
      refine lv_aload_n hx hb d_P_pressure_28 rfl (lv_at hl 0 rfl) ?_
      refine va_get (D := D) (ci := 0) (v := .ref (a 27)) (C := R_P) (T := T_P) (N := 6) hx hb hts (in_P _) hown hK hP 0 rfl rfl 1 (by decide) (ht _ m_197) (fun _ h9 => h9) rfl d_P_pressure_29 ?_
      refine lv_aload_n hx hb d_P_pressure_32 rfl (lv_at hl 0 rfl) ?_
      refine va_get (D := D) (ci := 0) (v := .ref (a 36)) (C := R_P) (T := T_P) (N := 6) hx hb hts (in_P _) hown hK hP 0 rfl rfl 3 (by decide) (ht _ m_199) (fun _ h9 => h9) rfl d_P_pressure_33 ?_
      refine pr_ci (va_runV (As := [.ref (a 36)]) (rest := []) ⟨hx, hb, hml, hown, hts⟩ (c_S_settles l (be := be) (mf := mf) (sd := sd) (pr := pr) s.heap.size 0 hOk (by decide) hM hss hsd hmf hC) (cwV 1 hts (pn_gV m_420 m_421 m_422 m_35 m_423) rfl rfl rfl (by decide +kernel) ⟨Nat.le_of_ble_eq_true rfl, Nat.le_of_ble_eq_true rfl⟩) (pn_preW (q0 := 27) (ci := 2) (q := (R_S, T_S, 2)) hP hD hE rfl rfl) rfl rfl hl.1 rfl (lv_room (Nat.le_of_ble_eq_true rfl)) d_P_pressure_36 ⟨Nat.le_of_ble_eq_true rfl, Nat.le_of_ble_eq_true rfl⟩) hD hS hA (fun r u H locs hw hP hD hS => ?_)
      obtain ⟨P1, b1, m1, s1⟩ := u
      obtain ⟨rfl, rfl, h51, hLe⟩ := hw
      try dsimp only at hP hD h51 hLe
      have hPr1 : pn_Pr P1 := h51.pr
      rcases hLe with ⟨rfl, hSt, hBe⟩ | ⟨rfl, hNo⟩
      · refine pr_ire (B := 1) rfl ?_
        have hP : va_P D pn_cl (cw a cI cL cD cS nf ns da b1 ui ul cn ss (nw mf 0 (ns 3)) (nw sd 0 1) (nw pr 0 P1)) H := hP
        have hD : va_D A (cw a cI cL cD cS nf ns da b1 ui ul cn ss (nw mf 0 (ns 3)) (nw sd 0 1) (nw pr 0 P1)) := hD
        refine pr_if_eq (tgt := 57) hx hb (i3_of (by decide) (by decide)) d_P_pressure_39 (by decide) (fun c_2 => ?_) (fun c_2 => ?_)
        · skip
          exact absurd c_2 (by decide)
        · skip
          refine lv_aload_n hx hb d_P_pressure_42 rfl (lv_at hl 0 rfl) ?_
          refine va_get (D := D) (ci := 0) (v := .ref (a 36)) (C := R_P) (T := T_P) (N := 6) hx hb hts (in_P _) hown hK hP 0 rfl rfl 3 (by decide) (ht _ m_199) (fun _ h9 => h9) rfl d_P_pressure_43 ?_
          refine va_get (D := D) (ci := 3) (v := .ref (a 37)) (C := R_T) (T := T_T) (N := 4) hx hb hts (in_T _) hown hK hP (36 + 2 * 0) (cw_so 0 (by decide)) rfl 0 (by decide) (ht _ m_176) (fun _ h9 => h9) rfl d_P_pressure_46 ?_
          refine lv_iload_n hx hb d_P_pressure_49 rfl (lv_at hl 1 rfl) ?_
          refine pr_pi (va_runS (As := [.int (iI (x))]) (rest := [.ref (a 37)]) ⟨hx, hb, hml, hown, hts⟩ (c_P_rowOf l (x)) (cwS 1 hts (pn_gS m_337 m_325 m_33 m_326) rfl rfl rfl (by decide +kernel) ⟨Nat.le_of_ble_eq_true rfl, Nat.le_of_ble_eq_true rfl⟩) pn_pre0 rfl rfl hl.1 rfl (lv_room (Nat.le_of_ble_eq_true rfl)) d_P_pressure_50 ⟨Nat.le_of_ble_eq_true rfl, Nat.le_of_ble_eq_true rfl⟩) ?_
          refine pr_iald hx hb hK hP 37 0 rfl rfl (by decide) (by omega) (by omega) d_P_pressure_53 ?_
          refine pr_ire (B := P1 (x + 4)) rfl ?_
          refine lv_goto (tgt := 59) hx hb d_P_pressure_54 (by decide) ?_
          refine vx_ret ?_
          refine W.widen (k := 1) (n := 6) (by decide) (by decide) ?_
          exact W.iret (v := iI (P1 (x + 4))) hx hb hr (fun t ht hW => ⟨⟨iI (P1 (x + 4)), (P1, b1, ns 3, 1), rfl, ⟨by omega, Or.inr ⟨by omega, rfl, h51, Or.inl ⟨rfl, hSt, hBe⟩, Or.inl ⟨rfl, rfl⟩⟩⟩, by rw [ht]; exact hP, hD⟩, hS.F ht⟩) hS.2.2 d_P_pressure_59
      · refine pr_ire (B := 0) rfl ?_
        have hP : va_P D pn_cl (cw a cI cL cD cS nf ns da b1 ui ul cn ss (nw mf 0 (ns 3)) (nw sd 0 0) (nw pr 0 P1)) H := hP
        have hD : va_D A (cw a cI cL cD cS nf ns da b1 ui ul cn ss (nw mf 0 (ns 3)) (nw sd 0 0) (nw pr 0 P1)) := hD
        refine pr_if_eq (tgt := 57) hx hb (i3_of (by decide) (by decide)) d_P_pressure_39 (by decide) (fun c_3 => ?_) (fun c_3 => ?_)
        · skip
          refine lv_ldc (v := iI (-1000000)) hx hb hown (ht (.constant _ 124 (iI (-1000000))) m_475) d_P_pressure_57 ?_
          refine vx_ret ?_
          refine W.widen (k := 1) (n := 6) (by decide) (by decide) ?_
          exact W.iret (v := iI (-1000000)) hx hb hr (fun t ht hW => ⟨⟨iI (-1000000), (P1, b1, ns 3, 0), rfl, ⟨by omega, Or.inr ⟨by omega, rfl, h51, Or.inr ⟨rfl, hNo⟩, Or.inr ⟨rfl, rfl⟩⟩⟩, by rw [ht]; exact hP, hD⟩, hS.F ht⟩) hS.2.2 d_P_pressure_59
        · skip
          exact absurd c_3 (by decide)
    · replace c_1 := b2_n1 c_1
      refine lv_aload_n hx hb d_P_pressure_15 rfl (lv_at hl 0 rfl) ?_
      refine va_get (D := D) (ci := 0) (v := .ref (a 1)) (C := R_P) (T := T_P) (N := 6) hx hb hts (in_P _) hown hK hP 0 rfl rfl 0 (by decide) (ht _ m_196) (fun _ h9 => h9) rfl d_P_pressure_16 ?_
      refine va_get (D := D) (ci := 1) (v := .ref (a 2)) (C := R_N) (T := T_N) (N := 17) hx hb hts (in_N _) hown hK hP 1 rfl rfl 0 (by decide) (ht _ m_65) (fun _ h9 => h9) rfl d_P_pressure_19 ?_
      refine lv_iload_n hx hb d_P_pressure_22 rfl (lv_at hl 1 rfl) ?_
      refine pr_pi (va_runS (As := [.int (iI (x))]) (rest := [.ref (a 2)]) ⟨hx, hb, hml, hown, hts⟩ (c_P_rowOf l (x)) (cwS 1 hts (pn_gS m_337 m_325 m_33 m_326) rfl rfl rfl (by decide +kernel) ⟨Nat.le_of_ble_eq_true rfl, Nat.le_of_ble_eq_true rfl⟩) pn_pre0 rfl rfl hl.1 rfl (lv_room (Nat.le_of_ble_eq_true rfl)) d_P_pressure_23 ⟨Nat.le_of_ble_eq_true rfl, Nat.le_of_ble_eq_true rfl⟩) ?_
      refine pr_iald hx hb hK hP 2 0 rfl rfl (by decide) (by omega) (by omega) d_P_pressure_26 ?_
      have hP : va_P D pn_cl (cw a cI cL cD cS nf ns da be ui ul cn ss (nw mf 0 (mf 0)) (nw sd 0 (sd 0)) (nw pr 0 (pr 0))) s.heap := by rw [nw_self, nw_self, nw_self]; exact hP
      have hD : va_D A (cw a cI cL cD cS nf ns da be ui ul cn ss (nw mf 0 (mf 0)) (nw sd 0 (sd 0)) (nw pr 0 (pr 0))) := by rw [nw_self, nw_self, nw_self]; exact hD
      refine vx_ret ?_
      refine W.widen (k := 1) (n := 6) (by decide) (by decide) ?_
      exact W.iret (v := iI (nf 0 ((x) + 4))) hx hb hr (fun t ht hW => ⟨⟨iI (nf 0 ((x) + 4)), (pr 0, be, mf 0, sd 0), rfl, ⟨by omega, Or.inl ⟨by omega, rfl, rfl, rfl, rfl⟩⟩, by rw [ht]; exact hP, hD⟩, hS.F ht⟩) hS.2.2 d_P_pressure_27
  · refine pr_ire (B := 0) (b2_f hL5) ?_
    exact px_throw (cls := "java/lang/IllegalArgumentException") (vx_runS (As := [.int (iI 0)]) (rest := []) ⟨hx, hb, hml, hown, hts⟩ (x_P_demandLegal l hst s.heap.size) (cwS 1 hts (pn_gS m_231 m_232 m_33 m_233) rfl rfl rfl (by decide +kernel) ⟨Nat.le_of_ble_eq_true rfl, Nat.le_of_ble_eq_true rfl⟩) (pn_preX hX hS hA) rfl rfl hl.1 rfl (lv_room (Nat.le_of_ble_eq_true rfl)) d_P_pressure_5 ⟨Nat.le_of_ble_eq_true rfl, Nat.le_of_ble_eq_true rfl⟩) hS hA (fun x hx9 => (htab x hx9).elim) hlocks (by decide) (by decide) (fun q h => h) (fun t H1 locs1 hh hk hS1 => ⟨(), trivial, ⟨⟨rfl, by omega⟩, by rw [hh]; exact hP.kept (fun k9 q9 h9 => hk q9.1 ((hP k9 q9 h9).lt))⟩, hS1.F hh⟩)
