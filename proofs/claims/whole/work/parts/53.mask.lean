/-! the reference's answers of the state -/
abbrev w_M_pressure : List Cond := .code y_M_pressure b_M_pressure 2 (some .int) :: pn_W
set_option maxHeartbeats 4000000 in
set_option maxRecDepth 100000 in
theorem c_M_pressure (l : Launch) {D : va_G} {b : Nat → Nat} {cI cL cZ : ClassId} {mi ml : Nat → Int → Int} {mz : Int → Int} {ms : Nat → Int} (sz : Nat) (nf : Nat → Int → Int) (ns : Nat → Int) (da : Int → Int → Int) (S : Nat) (x : Int) (hOk : pn_Ok nf ns da) (hR : mn_R nf ns mi ms) (hN : mn_Ok ms) (hSb : S < 2 ^ 20) (hSm : pn_Sm nf ns da) (hM : pn_Mono (ns 0) (m_G nf da S)) (hSo : S < 2 ^ (ns 1).toNat) (hz : ∀ t : Nat, t < 20 → mz (t : Int) = b2 (S.testBit t = true)) (gx : i3 x) : Met l y_M_pressure w_M_pressure ({ frames := 7, cells := 0, slots := 0, locals := 161 }) (va_Pc [.ref (b 0), .int (iI (x))] (fun U => U.heap.size = sz ∧ va_P D pn_cl (mw b cI cL cZ mi ml mz ms) U.heap ∧ va_D (fun _ => True) (mw b cI cL cZ mi ml mz ms) ∧ mn_E D cI cL cZ U)) (va_Qi (fun (r : Int32) (u : (Nat → Int → Int) × (Nat → Int → Int) × (Int → Int) × (Nat → Int)) => (¬ (-4 ≤ x ∧ x ≤ ms 2 - 1) ∧ r = iI 0 ∧ u = (mi, ml, mz, nw ms 0 (1))) ∨ ((-4 ≤ x ∧ x ≤ ms 2 - 1) ∧ x < 0 ∧ r = iI (mi 0 (x + 4)) ∧ u = (mi, ml, mz, nw ms 0 (0))) ∨ ((-4 ≤ x ∧ x ≤ ms 2 - 1) ∧ 0 ≤ x ∧ ∃ (f : Int → Int) (bo : Int), m_s5 f ∧ pn_Le (ns 0) (nf 0) (m_G nf da S) bo (mP (nw mi 14 f)) ∧ u = (nw mi 14 f, ml, mz, nw (nw ms 0 (0)) 6 (((S : Nat) : Int))) ∧ ((bo = 1 ∧ r = iI (f x)) ∨ (bo = 0 ∧ r = iI (-1000000))))) (fun u t => va_P D pn_cl ((fun u : (Nat → Int → Int) × (Nat → Int → Int) × (Int → Int) × (Nat → Int) => mw b cI cL cZ u.1 u.2.1 u.2.2.1 u.2.2.2) u) t.heap ∧ va_D (va_A (mw b cI cL cZ mi ml mz ms) sz) ((fun u : (Nat → Int → Int) × (Nat → Int → Int) × (Int → Int) × (Nat → Int) => mw b cI cL cZ u.1 u.2.1 u.2.2.1 u.2.2.2) u)) (va_A (mw b cI cL cZ mi ml mz ms) sz)) 0 0 (va_A (mw b cI cL cZ mi ml mz ms) sz) := by
  refine Met.ofW (cc := b_M_pressure) (maxL := 2) (ret := (some .int)) (by decide) rfl ?_
  intro p e s m args below meth c s₁ B hml hv
  obtain ⟨rfl, hsz, hP, hD0, hE⟩ := hv
  have hx := B.exec
  have hb := B.bytes
  have hr := B.returns
  have hts := atoms_spec (ws := w_M_pressure) B.pre
  have ht : ∀ w ∈ pn_W, w.before _ s = true := fun w h => hts w (List.mem_cons_of_mem _ h)
  have hown : s.vm.findClass R_M = some m.cls := findClass_of_methodNamed B.named
  have hlocks := B.notSynchronized
  have hK := hE
  subst hsz
  have hD := hD0.self (sz := s.heap.size)
  generalize hAe : va_A (mw b cI cL cZ mi ml mz ms) s.heap.size = A at hD ⊢
  have hA : ∀ q : Nat, s.heap.size ≤ q → A q := fun q h => by rw [← hAe]; exact Or.inr h
  have hS : va_S A s.heap s.heap [] := va_S.rf
  have hl := lv_entry ([.ref (b 0), .int (iI (x))]) (n := 2) (Nat.le_of_ble_eq_true rfl)
  rw [lg_entry_eq]
  generalize (lg_sl ([.ref (b 0), .int (iI (x))]) ++ List.replicate (2 - (lg_sl ([.ref (b 0), .int (iI (x))])).length) Slot.unset).toArray = ls at hl ⊢
  have hl : lv_has ls 2 [(0, .ref (b 0)), (1, .int (iI (x)))] := hl
  obtain ⟨o_zc, o_lc, o_fc, o_ve, o_wi, o_wa, o_vo, o_fr, o_to, o_he, o_ar, o_ki, o_st, o_ff, o_sl, o_dc, o_da⟩ := id hOk
  obtain ⟨r_zo, r_le, r_fa, r_wi, r_ai, r_wa, r_vo, r_lk, r_fn⟩ := id hR
  obtain ⟨n_zo, n_le, n_fa, n_ca⟩ := id hN
  obtain ⟨gx1, gx2⟩ := gx
  refine lv_aload_n hx hb d_M_pressure_0 rfl (lv_at hl 0 rfl) ?_
  refine lv_aload_n hx hb d_M_pressure_1 rfl (lv_at hl 0 rfl) ?_
  refine lv_iload_n hx hb d_M_pressure_2 rfl (lv_at hl 1 rfl) ?_
  refine pr_pi (va_runV (As := [.int (iI (x))]) (rest := [.ref (b 0)]) ⟨hx, hb, hml, hown, hts⟩ (c_M_isPlace l (x) hN (i3_of (by omega) (by omega))) (cwV 1 hts (pn_gV m_697 m_699 m_16 m_38 m_700) rfl rfl rfl (by decide +kernel) ⟨Nat.le_of_ble_eq_true rfl, Nat.le_of_ble_eq_true rfl⟩) (mn_preV (q0 := 0) (ci := 5) (q := (R_M, T_M, 27)) hP hE rfl rfl) rfl rfl hl.1 rfl (lv_room (Nat.le_of_ble_eq_true rfl)) d_M_pressure_3 ⟨Nat.le_of_ble_eq_true rfl, Nat.le_of_ble_eq_true rfl⟩) ?_
  refine pr_if_eq (tgt := 13) hx hb (i3_b2 _) d_M_pressure_6 (by decide) (fun c_1 => ?_) (fun c_1 => ?_)
  · replace c_1 := b2_0 c_1
    refine lv_iconst (v := iI (1)) hx hb d_M_pressure_13 rfl ?_
    refine va_put (D := D) (ci := 5) (v := .int (iI (1))) (ty := .int) (C := R_M) (T := T_M) (N := 27) hx hb hts (in_M _) ty_M ty_M_ok nm_M hown hK hP hD hS 0 rfl rfl 0 (by decide) (ht _ m_590) (fun _ h9 => h9) rfl (by decide +kernel) rfl rfl (Nat.le_of_ble_eq_true rfl) d_M_pressure_14 (fun H locs hP hD hS => ?_)
    have hP : va_P D pn_cl (mw b cI cL cZ mi ml mz (nw ms 0 (1))) H := hP
    have hD : va_D A (mw b cI cL cZ mi ml mz (nw ms 0 (1))) := hD
    refine lv_aload_n hx hb d_M_pressure_17 rfl (lv_at hl 0 rfl) ?_
    refine va_get (D := D) (ci := 5) (v := .int (iI ((1)))) (C := R_M) (T := T_M) (N := 27) hx hb hts (in_M _) hown hK hP 0 rfl rfl 0 (by decide) (ht _ m_590) (fun _ h9 => h9) rfl d_M_pressure_18 ?_
    refine pr_ire (B := 1) rfl ?_
    refine pr_if_le (tgt := 26) hx hb (i3_of (by decide) (by decide)) d_M_pressure_21 (by decide) (fun c_2 => ?_) (fun c_2 => ?_)
    · skip
      exact absurd c_2 (by decide)
    · skip
      refine lv_iconst (v := iI (0)) hx hb d_M_pressure_24 rfl ?_
      exact W.iret (v := iI (0)) hx hb hr (fun t ht hW => ⟨⟨iI (0), (mi, ml, mz, nw ms 0 (1)), rfl, Or.inl (⟨by omega, rfl, rfl⟩), by rw [ht]; exact hP, hD⟩, hS.F ht⟩) hS.2.2 d_M_pressure_25
  · replace c_1 := b2_n1 c_1
    refine lv_iconst (v := iI (0)) hx hb d_M_pressure_9 rfl ?_
    refine lv_goto (tgt := 14) hx hb d_M_pressure_10 (by decide) ?_
    refine va_put (D := D) (ci := 5) (v := .int (iI (0))) (ty := .int) (C := R_M) (T := T_M) (N := 27) hx hb hts (in_M _) ty_M ty_M_ok nm_M hown hK hP hD hS 0 rfl rfl 0 (by decide) (ht _ m_590) (fun _ h9 => h9) rfl (by decide +kernel) rfl rfl (Nat.le_of_ble_eq_true rfl) d_M_pressure_14 (fun H locs hP hD hS => ?_)
    have hP : va_P D pn_cl (mw b cI cL cZ mi ml mz (nw ms 0 (0))) H := hP
    have hD : va_D A (mw b cI cL cZ mi ml mz (nw ms 0 (0))) := hD
    refine lv_aload_n hx hb d_M_pressure_17 rfl (lv_at hl 0 rfl) ?_
    refine va_get (D := D) (ci := 5) (v := .int (iI ((0)))) (C := R_M) (T := T_M) (N := 27) hx hb hts (in_M _) hown hK hP 0 rfl rfl 0 (by decide) (ht _ m_590) (fun _ h9 => h9) rfl d_M_pressure_18 ?_
    refine pr_ire (B := 0) rfl ?_
    refine pr_if_le (tgt := 26) hx hb (i3_of (by decide) (by decide)) d_M_pressure_21 (by decide) (fun c_3 => ?_) (fun c_3 => ?_)
    · skip
      refine lv_iload_n hx hb d_M_pressure_26 rfl (lv_at hl 1 rfl) ?_
      refine pr_if_ge (tgt := 41) hx hb (i3_of (by omega) (by omega)) d_M_pressure_27 (by decide) (fun c_4 => ?_) (fun c_4 => ?_)
      · skip
        refine lv_aload_n hx hb d_M_pressure_41 rfl (lv_at hl 0 rfl) ?_
        refine pr_ci (va_runV (As := []) (rest := []) ⟨hx, hb, hml, hown, hts⟩ (c_M_makeNow l (mi := mi) (ms := nw ms 0 (0)) H.size nf ns da S hOk hR hSb hSm hM hSo hz) (cwV 0 hts (pn_gV m_727 m_729 m_19 m_38 m_730) rfl rfl rfl (by decide +kernel) ⟨Nat.le_of_ble_eq_true rfl, Nat.le_of_ble_eq_true rfl⟩) (mn_preW (q0 := 0) (ci := 5) (q := (R_M, T_M, 27)) hP hD hE rfl rfl) rfl rfl hl.1 rfl (lv_room (Nat.le_of_ble_eq_true rfl)) d_M_pressure_42 ⟨Nat.le_of_ble_eq_true rfl, Nat.le_of_ble_eq_true rfl⟩) hD hS hA (fun r u H locs hw hP hD hS => ?_)
        obtain ⟨f, bo⟩ := u
        obtain ⟨rfl, hf5, hLe⟩ := hw
        try dsimp only at hP hD hf5 hLe
        have hP : va_P D pn_cl (mw b cI cL cZ (nw mi 14 f) ml mz (nw (nw ms 0 (0)) 6 (((S : Nat) : Int)))) H := hP
        have hD : va_D A (mw b cI cL cZ (nw mi 14 f) ml mz (nw (nw ms 0 (0)) 6 (((S : Nat) : Int)))) := hD
        have hbo := pn_Le_01 hLe
        refine pr_if_eq (tgt := 57) hx hb (i3_of (by omega) (by omega)) d_M_pressure_45 (by decide) (fun c_5 => ?_) (fun c_5 => ?_)
        · skip
          refine lv_ldc (v := iI (-1000000)) hx hb hown (ht (.constant _ 159 (iI (-1000000))) m_768) d_M_pressure_57 ?_
          exact W.iret (v := iI (-1000000)) hx hb hr (fun t ht hW => ⟨⟨iI (-1000000), (nw mi 14 f, ml, mz, nw (nw ms 0 (0)) 6 (((S : Nat) : Int))), rfl, Or.inr (Or.inr (⟨by omega, by omega, f, bo, hf5, hLe, rfl, Or.inr ⟨by omega, rfl⟩⟩)), by rw [ht]; exact hP, hD⟩, hS.F ht⟩) hS.2.2 d_M_pressure_59
        · skip
          refine lv_aload_n hx hb d_M_pressure_48 rfl (lv_at hl 0 rfl) ?_
          refine va_get (D := D) (ci := 5) (v := .ref (b 18)) (C := R_M) (T := T_M) (N := 27) hx hb hts (in_M _) hown hK hP 0 rfl rfl 23 (by decide) (ht _ m_613) (fun _ h9 => h9) rfl d_M_pressure_49 ?_
          refine lv_iload_n hx hb d_M_pressure_52 rfl (lv_at hl 1 rfl) ?_
          refine pr_iald hx hb hK hP 18 0 rfl rfl (by decide) (by omega) (by omega) d_M_pressure_53 ?_
          refine lv_goto (tgt := 59) hx hb d_M_pressure_54 (by decide) ?_
          exact W.iret (v := iI (f (x))) hx hb hr (fun t ht hW => ⟨⟨iI (f (x)), (nw mi 14 f, ml, mz, nw (nw ms 0 (0)) 6 (((S : Nat) : Int))), rfl, Or.inr (Or.inr (⟨by omega, by omega, f, bo, hf5, hLe, rfl, Or.inl ⟨by omega, rfl⟩⟩)), by rw [ht]; exact hP, hD⟩, hS.F ht⟩) hS.2.2 d_M_pressure_59
      · skip
        refine lv_aload_n hx hb d_M_pressure_30 rfl (lv_at hl 0 rfl) ?_
        refine va_get (D := D) (ci := 5) (v := .ref (b 1)) (C := R_M) (T := T_M) (N := 27) hx hb hts (in_M _) hown hK hP 0 rfl rfl 1 (by decide) (ht _ m_591) (fun _ h9 => h9) rfl d_M_pressure_31 ?_
        refine lv_iload_n hx hb d_M_pressure_34 rfl (lv_at hl 1 rfl) ?_
        refine lv_iconst (v := iI (4)) hx hb d_M_pressure_35 rfl ?_
        refine pr_iadd hx hb d_M_pressure_36 ?_
        refine pr_iald hx hb hK hP 1 0 rfl rfl (by decide) (by omega) (by omega) d_M_pressure_37 ?_
        refine lv_goto (tgt := 59) hx hb d_M_pressure_38 (by decide) ?_
        exact W.iret (v := iI (mi 0 (x + 4))) hx hb hr (fun t ht hW => ⟨⟨iI (mi 0 (x + 4)), (mi, ml, mz, nw ms 0 (0)), rfl, Or.inr (Or.inl (⟨by omega, by omega, rfl, rfl⟩)), by rw [ht]; exact hP, hD⟩, hS.F ht⟩) hS.2.2 d_M_pressure_59
    · skip
      exact absurd c_3 (by decide)
abbrev w_M_told : List Cond := .code y_M_told b_M_told 3 (some .int) :: pn_W
set_option maxHeartbeats 4000000 in
set_option maxRecDepth 100000 in
theorem c_M_told (l : Launch) {D : va_G} {b : Nat → Nat} {cI cL cZ : ClassId} {mi ml : Nat → Int → Int} {mz : Int → Int} {ms : Nat → Int} (sz : Nat) (nf : Nat → Int → Int) (ns : Nat → Int) (da : Int → Int → Int) (S : Nat) (x y : Int) (hOk : pn_Ok nf ns da) (hR : mn_R nf ns mi ms) (hN : mn_Ok ms) (hSb : S < 2 ^ 20) (hSm : pn_Sm nf ns da) (hM : pn_Mono (ns 0) (m_G nf da S)) (hSo : S < 2 ^ (ns 1).toNat) (hz : ∀ t : Nat, t < 20 → mz (t : Int) = b2 (S.testBit t = true)) (gx : i3 x) (gy : i3 y) : Met l y_M_told w_M_told ({ frames := 7, cells := 0, slots := 0, locals := 161 }) (va_Pc [.ref (b 0), .int (iI (x)), .int (iI (y))] (fun U => U.heap.size = sz ∧ va_P D pn_cl (mw b cI cL cZ mi ml mz ms) U.heap ∧ va_D (fun _ => True) (mw b cI cL cZ mi ml mz ms) ∧ mn_E D cI cL cZ U)) (va_Qi (fun (r : Int32) (u : (Nat → Int → Int) × (Nat → Int → Int) × (Int → Int) × (Nat → Int)) => (¬ ((0 ≤ x ∧ x ≤ ms 3 - 1) ∧ (0 ≤ y ∧ y ≤ 1)) ∧ r = iI 0 ∧ u = (mi, ml, mz, nw ms 0 (1))) ∨ (((0 ≤ x ∧ x ≤ ms 3 - 1) ∧ (0 ≤ y ∧ y ≤ 1)) ∧ ∃ (f : Int → Int) (bo : Int), m_s5 f ∧ pn_Le (ns 0) (nf 0) (m_G nf da S) bo (mP (nw mi 14 f)) ∧ u = (nw mi 14 f, ml, mz, nw (nw ms 0 (0)) 6 (((S : Nat) : Int))) ∧ ((bo = 1 ∧ r = iI (if y = 0 then m_drive nf (mP (nw mi 14 f)) x else m_flow nf S (mP (nw mi 14 f)) x)) ∨ (bo = 0 ∧ r = iI (-1000000))))) (fun u t => va_P D pn_cl ((fun u : (Nat → Int → Int) × (Nat → Int → Int) × (Int → Int) × (Nat → Int) => mw b cI cL cZ u.1 u.2.1 u.2.2.1 u.2.2.2) u) t.heap ∧ va_D (va_A (mw b cI cL cZ mi ml mz ms) sz) ((fun u : (Nat → Int → Int) × (Nat → Int → Int) × (Int → Int) × (Nat → Int) => mw b cI cL cZ u.1 u.2.1 u.2.2.1 u.2.2.2) u)) (va_A (mw b cI cL cZ mi ml mz ms) sz)) 0 0 (va_A (mw b cI cL cZ mi ml mz ms) sz) := by
  refine Met.ofW (cc := b_M_told) (maxL := 3) (ret := (some .int)) (by decide) rfl ?_
  intro p e s m args below meth c s₁ B hml hv
  obtain ⟨rfl, hsz, hP, hD0, hE⟩ := hv
  have hx := B.exec
  have hb := B.bytes
  have hr := B.returns
  have hts := atoms_spec (ws := w_M_told) B.pre
  have ht : ∀ w ∈ pn_W, w.before _ s = true := fun w h => hts w (List.mem_cons_of_mem _ h)
  have hown : s.vm.findClass R_M = some m.cls := findClass_of_methodNamed B.named
  have hlocks := B.notSynchronized
  have hK := hE
  subst hsz
  have hD := hD0.self (sz := s.heap.size)
  generalize hAe : va_A (mw b cI cL cZ mi ml mz ms) s.heap.size = A at hD ⊢
  have hA : ∀ q : Nat, s.heap.size ≤ q → A q := fun q h => by rw [← hAe]; exact Or.inr h
  have hS : va_S A s.heap s.heap [] := va_S.rf
  have hl := lv_entry ([.ref (b 0), .int (iI (x)), .int (iI (y))]) (n := 3) (Nat.le_of_ble_eq_true rfl)
  rw [lg_entry_eq]
  generalize (lg_sl ([.ref (b 0), .int (iI (x)), .int (iI (y))]) ++ List.replicate (3 - (lg_sl ([.ref (b 0), .int (iI (x)), .int (iI (y))])).length) Slot.unset).toArray = ls at hl ⊢
  have hl : lv_has ls 3 [(0, .ref (b 0)), (1, .int (iI (x))), (2, .int (iI (y)))] := hl
  obtain ⟨o_zc, o_lc, o_fc, o_ve, o_wi, o_wa, o_vo, o_fr, o_to, o_he, o_ar, o_ki, o_st, o_ff, o_sl, o_dc, o_da⟩ := id hOk
  obtain ⟨r_zo, r_le, r_fa, r_wi, r_ai, r_wa, r_vo, r_lk, r_fn⟩ := id hR
  obtain ⟨n_zo, n_le, n_fa, n_ca⟩ := id hN
  obtain ⟨gx1, gx2⟩ := gx
  obtain ⟨gy1, gy2⟩ := gy
  refine lv_aload_n hx hb d_M_told_0 rfl (lv_at hl 0 rfl) ?_
  refine lv_iload_n hx hb d_M_told_1 rfl (lv_at hl 1 rfl) ?_
  refine pr_i2l hx hb (i3_of (by omega) (by omega)) d_M_told_2 ?_
  refine lv_lconst (v := lI 0) hx hb d_M_told_3 (by decide) ?_
  refine lv_aload_n hx hb d_M_told_4 rfl (lv_at hl 0 rfl) ?_
  refine va_get (D := D) (ci := 5) (v := .int (iI (ms 3))) (C := R_M) (T := T_M) (N := 27) hx hb hts (in_M _) hown hK hP 0 rfl rfl 8 (by decide) (ht _ m_598) (fun _ h9 => h9) rfl d_M_told_5 ?_
  refine lv_iconst (v := iI (1)) hx hb d_M_told_8 rfl ?_
  refine pr_isub hx hb d_M_told_9 ?_
  refine pr_i2l hx hb (i3_of (by omega) (by omega)) d_M_told_10 ?_
  refine pr_pi (va_runS (As := [.long (lI (x)), .long (lI (0)), .long (lI ((ms 3) - (1)))]) (rest := [.ref (b 0)]) ⟨hx, hb, hml, hown, hts⟩ (c_M_in l (x) (0) ((ms 3) - (1)) (i6_of (by omega) (by omega)) (i6_of (by decide) (by decide)) (i6_of (by omega) (by omega))) (cwS 3 hts (pn_gS m_683 m_684 m_38 m_685) rfl rfl rfl (by decide +kernel) ⟨Nat.le_of_ble_eq_true rfl, Nat.le_of_ble_eq_true rfl⟩) pn_pre0 rfl rfl hl.1 rfl (lv_room (Nat.le_of_ble_eq_true rfl)) d_M_told_11 ⟨Nat.le_of_ble_eq_true rfl, Nat.le_of_ble_eq_true rfl⟩) ?_
  refine pr_if_eq (tgt := 31) hx hb (i3_b2 _) d_M_told_14 (by decide) (fun c_1 => ?_) (fun c_1 => ?_)
  · replace c_1 := b2_0 c_1
    refine lv_iconst (v := iI (1)) hx hb d_M_told_31 rfl ?_
    refine va_put (D := D) (ci := 5) (v := .int (iI (1))) (ty := .int) (C := R_M) (T := T_M) (N := 27) hx hb hts (in_M _) ty_M ty_M_ok nm_M hown hK hP hD hS 0 rfl rfl 0 (by decide) (ht _ m_590) (fun _ h9 => h9) rfl (by decide +kernel) rfl rfl (Nat.le_of_ble_eq_true rfl) d_M_told_32 (fun H locs hP hD hS => ?_)
    have hP : va_P D pn_cl (mw b cI cL cZ mi ml mz (nw ms 0 (1))) H := hP
    have hD : va_D A (mw b cI cL cZ mi ml mz (nw ms 0 (1))) := hD
    refine lv_aload_n hx hb d_M_told_35 rfl (lv_at hl 0 rfl) ?_
    refine va_get (D := D) (ci := 5) (v := .int (iI ((1)))) (C := R_M) (T := T_M) (N := 27) hx hb hts (in_M _) hown hK hP 0 rfl rfl 0 (by decide) (ht _ m_590) (fun _ h9 => h9) rfl d_M_told_36 ?_
    refine pr_ire (B := 1) rfl ?_
    refine pr_if_le (tgt := 44) hx hb (i3_of (by decide) (by decide)) d_M_told_39 (by decide) (fun c_2 => ?_) (fun c_2 => ?_)
    · skip
      exact absurd c_2 (by decide)
    · skip
      refine lv_iconst (v := iI (0)) hx hb d_M_told_42 rfl ?_
      exact W.iret (v := iI (0)) hx hb hr (fun t ht hW => ⟨⟨iI (0), (mi, ml, mz, nw ms 0 (1)), rfl, Or.inl (⟨by omega, rfl, rfl⟩), by rw [ht]; exact hP, hD⟩, hS.F ht⟩) hS.2.2 d_M_told_43
  · replace c_1 := b2_n1 c_1
    refine lv_iload_n hx hb d_M_told_17 rfl (lv_at hl 2 rfl) ?_
    refine pr_i2l hx hb (i3_of (by omega) (by omega)) d_M_told_18 ?_
    refine lv_lconst (v := lI 0) hx hb d_M_told_19 (by decide) ?_
    refine lv_lconst (v := lI 1) hx hb d_M_told_20 (by decide) ?_
    refine pr_pi (va_runS (As := [.long (lI (y)), .long (lI (0)), .long (lI (1))]) (rest := [.ref (b 0)]) ⟨hx, hb, hml, hown, hts⟩ (c_M_in l (y) (0) (1) (i6_of (by omega) (by omega)) (i6_of (by decide) (by decide)) (i6_of (by decide) (by decide))) (cwS 3 hts (pn_gS m_683 m_684 m_38 m_685) rfl rfl rfl (by decide +kernel) ⟨Nat.le_of_ble_eq_true rfl, Nat.le_of_ble_eq_true rfl⟩) pn_pre0 rfl rfl hl.1 rfl (lv_room (Nat.le_of_ble_eq_true rfl)) d_M_told_21 ⟨Nat.le_of_ble_eq_true rfl, Nat.le_of_ble_eq_true rfl⟩) ?_
    refine pr_if_eq (tgt := 31) hx hb (i3_b2 _) d_M_told_24 (by decide) (fun c_3 => ?_) (fun c_3 => ?_)
    · replace c_3 := b2_0 c_3
      refine lv_iconst (v := iI (1)) hx hb d_M_told_31 rfl ?_
      refine va_put (D := D) (ci := 5) (v := .int (iI (1))) (ty := .int) (C := R_M) (T := T_M) (N := 27) hx hb hts (in_M _) ty_M ty_M_ok nm_M hown hK hP hD hS 0 rfl rfl 0 (by decide) (ht _ m_590) (fun _ h9 => h9) rfl (by decide +kernel) rfl rfl (Nat.le_of_ble_eq_true rfl) d_M_told_32 (fun H locs hP hD hS => ?_)
      have hP : va_P D pn_cl (mw b cI cL cZ mi ml mz (nw ms 0 (1))) H := hP
      have hD : va_D A (mw b cI cL cZ mi ml mz (nw ms 0 (1))) := hD
      refine lv_aload_n hx hb d_M_told_35 rfl (lv_at hl 0 rfl) ?_
      refine va_get (D := D) (ci := 5) (v := .int (iI ((1)))) (C := R_M) (T := T_M) (N := 27) hx hb hts (in_M _) hown hK hP 0 rfl rfl 0 (by decide) (ht _ m_590) (fun _ h9 => h9) rfl d_M_told_36 ?_
      refine pr_ire (B := 1) rfl ?_
      refine pr_if_le (tgt := 44) hx hb (i3_of (by decide) (by decide)) d_M_told_39 (by decide) (fun c_4 => ?_) (fun c_4 => ?_)
      · skip
        exact absurd c_4 (by decide)
      · skip
        refine lv_iconst (v := iI (0)) hx hb d_M_told_42 rfl ?_
        exact W.iret (v := iI (0)) hx hb hr (fun t ht hW => ⟨⟨iI (0), (mi, ml, mz, nw ms 0 (1)), rfl, Or.inl (⟨by omega, rfl, rfl⟩), by rw [ht]; exact hP, hD⟩, hS.F ht⟩) hS.2.2 d_M_told_43
    · replace c_3 := b2_n1 c_3
      refine lv_iconst (v := iI (0)) hx hb d_M_told_27 rfl ?_
      refine lv_goto (tgt := 32) hx hb d_M_told_28 (by decide) ?_
      refine va_put (D := D) (ci := 5) (v := .int (iI (0))) (ty := .int) (C := R_M) (T := T_M) (N := 27) hx hb hts (in_M _) ty_M ty_M_ok nm_M hown hK hP hD hS 0 rfl rfl 0 (by decide) (ht _ m_590) (fun _ h9 => h9) rfl (by decide +kernel) rfl rfl (Nat.le_of_ble_eq_true rfl) d_M_told_32 (fun H locs hP hD hS => ?_)
      have hP : va_P D pn_cl (mw b cI cL cZ mi ml mz (nw ms 0 (0))) H := hP
      have hD : va_D A (mw b cI cL cZ mi ml mz (nw ms 0 (0))) := hD
      refine lv_aload_n hx hb d_M_told_35 rfl (lv_at hl 0 rfl) ?_
      refine va_get (D := D) (ci := 5) (v := .int (iI ((0)))) (C := R_M) (T := T_M) (N := 27) hx hb hts (in_M _) hown hK hP 0 rfl rfl 0 (by decide) (ht _ m_590) (fun _ h9 => h9) rfl d_M_told_36 ?_
      refine pr_ire (B := 0) rfl ?_
      refine pr_if_le (tgt := 44) hx hb (i3_of (by decide) (by decide)) d_M_told_39 (by decide) (fun c_5 => ?_) (fun c_5 => ?_)
      · skip
        refine lv_aload_n hx hb d_M_told_44 rfl (lv_at hl 0 rfl) ?_
        refine pr_ci (va_runV (As := []) (rest := []) ⟨hx, hb, hml, hown, hts⟩ (c_M_makeNow l (mi := mi) (ms := nw ms 0 (0)) H.size nf ns da S hOk hR hSb hSm hM hSo hz) (cwV 0 hts (pn_gV m_727 m_729 m_19 m_38 m_730) rfl rfl rfl (by decide +kernel) ⟨Nat.le_of_ble_eq_true rfl, Nat.le_of_ble_eq_true rfl⟩) (mn_preW (q0 := 0) (ci := 5) (q := (R_M, T_M, 27)) hP hD hE rfl rfl) rfl rfl hl.1 rfl (lv_room (Nat.le_of_ble_eq_true rfl)) d_M_told_45 ⟨Nat.le_of_ble_eq_true rfl, Nat.le_of_ble_eq_true rfl⟩) hD hS hA (fun r u H locs hw hP hD hS => ?_)
        obtain ⟨f, bo⟩ := u
        obtain ⟨rfl, hf5, hLe⟩ := hw
        try dsimp only at hP hD hf5 hLe
        have hP : va_P D pn_cl (mw b cI cL cZ (nw mi 14 f) ml mz (nw (nw ms 0 (0)) 6 (((S : Nat) : Int)))) H := hP
        have hD : va_D A (mw b cI cL cZ (nw mi 14 f) ml mz (nw (nw ms 0 (0)) 6 (((S : Nat) : Int)))) := hD
        have hbo := pn_Le_01 hLe
        refine pr_if_ne (tgt := 56) hx hb (i3_of (by omega) (by omega)) d_M_told_48 (by decide) (fun c_6 => ?_) (fun c_6 => ?_)
        · skip
          refine lv_iload_n hx hb d_M_told_56 rfl (lv_at hl 2 rfl) ?_
          refine pr_if_ne (tgt := 68) hx hb (i3_of (by omega) (by omega)) d_M_told_57 (by decide) (fun c_7 => ?_) (fun c_7 => ?_)
          · skip
            refine lv_aload_n hx hb d_M_told_68 rfl (lv_at hl 0 rfl) ?_
            refine lv_iload_n hx hb d_M_told_69 rfl (lv_at hl 1 rfl) ?_
            refine pr_pl (va_runV (As := [.int (iI (x))]) (rest := []) ⟨hx, hb, hml, hown, hts⟩ (c_M_flowOf l nf ns da (mi := nw mi 14 f) (ms := nw (nw ms 0 (0)) 6 (((S : Nat) : Int))) S (x) hOk hR rfl hSb (mP_pr hOk hR hf5) ⟨by omega, by omega⟩) (cwV 1 hts (pn_gV m_743 m_745 m_23 m_38 m_746) rfl rfl rfl (by decide +kernel) ⟨Nat.le_of_ble_eq_true rfl, Nat.le_of_ble_eq_true rfl⟩) (mn_preV (q0 := 0) (ci := 5) (q := (R_M, T_M, 27)) hP hE rfl rfl) rfl rfl hl.1 rfl (lv_room (Nat.le_of_ble_eq_true rfl)) d_M_told_70 ⟨Nat.le_of_ble_eq_true rfl, Nat.le_of_ble_eq_true rfl⟩) ?_
            refine pr_l2i hx hb d_M_told_73 ?_
            exact W.iret (v := iI (m_flow nf S (mP (nw mi 14 f)) (x))) hx hb hr (fun t ht hW => ⟨⟨iI (m_flow nf S (mP (nw mi 14 f)) (x)), (nw mi 14 f, ml, mz, nw (nw ms 0 (0)) 6 (((S : Nat) : Int))), rfl, Or.inr (⟨by omega, f, bo, hf5, hLe, rfl, Or.inl ⟨by omega, (by first | rw [if_pos (by omega)] | rw [if_neg (by omega)])⟩⟩), by rw [ht]; exact hP, hD⟩, hS.F ht⟩) hS.2.2 d_M_told_74
          · skip
            refine lv_aload_n hx hb d_M_told_60 rfl (lv_at hl 0 rfl) ?_
            refine lv_iload_n hx hb d_M_told_61 rfl (lv_at hl 1 rfl) ?_
            refine pr_pi (va_runV (As := [.int (iI (x))]) (rest := []) ⟨hx, hb, hml, hown, hts⟩ (c_M_driveOf l nf ns da (mi := nw mi 14 f) (ms := nw (nw ms 0 (0)) 6 (((S : Nat) : Int))) (x) hOk hR ⟨by omega, by omega⟩) (cwV 1 hts (pn_gV m_747 m_749 m_24 m_38 m_750) rfl rfl rfl (by decide +kernel) ⟨Nat.le_of_ble_eq_true rfl, Nat.le_of_ble_eq_true rfl⟩) (mn_preV (q0 := 0) (ci := 5) (q := (R_M, T_M, 27)) hP hE rfl rfl) rfl rfl hl.1 rfl (lv_room (Nat.le_of_ble_eq_true rfl)) d_M_told_62 ⟨Nat.le_of_ble_eq_true rfl, Nat.le_of_ble_eq_true rfl⟩) ?_
            refine lv_goto (tgt := 74) hx hb d_M_told_65 (by decide) ?_
            exact W.iret (v := iI (m_drive nf (mP (nw mi 14 f)) (x))) hx hb hr (fun t ht hW => ⟨⟨iI (m_drive nf (mP (nw mi 14 f)) (x)), (nw mi 14 f, ml, mz, nw (nw ms 0 (0)) 6 (((S : Nat) : Int))), rfl, Or.inr (⟨by omega, f, bo, hf5, hLe, rfl, Or.inl ⟨by omega, (by first | rw [if_pos (by omega)] | rw [if_neg (by omega)])⟩⟩), by rw [ht]; exact hP, hD⟩, hS.F ht⟩) hS.2.2 d_M_told_74
        · skip
          refine lv_ldc (v := iI (-1000000)) hx hb hown (ht (.constant _ 159 (iI (-1000000))) m_768) d_M_told_51 ?_
          refine lv_goto (tgt := 74) hx hb d_M_told_53 (by decide) ?_
          exact W.iret (v := iI (-1000000)) hx hb hr (fun t ht hW => ⟨⟨iI (-1000000), (nw mi 14 f, ml, mz, nw (nw ms 0 (0)) 6 (((S : Nat) : Int))), rfl, Or.inr (⟨by omega, f, bo, hf5, hLe, rfl, Or.inr ⟨by omega, rfl⟩⟩), by rw [ht]; exact hP, hD⟩, hS.F ht⟩) hS.2.2 d_M_told_74
      · skip
        exact absurd c_5 (by decide)
abbrev w_M_blows : List Cond := .code y_M_blows b_M_blows 2 (some .int) :: pn_W
set_option maxHeartbeats 4000000 in
set_option maxRecDepth 100000 in
theorem c_M_blows (l : Launch) {D : va_G} {b : Nat → Nat} {cI cL cZ : ClassId} {mi ml : Nat → Int → Int} {mz : Int → Int} {ms : Nat → Int} (sz : Nat) (nf : Nat → Int → Int) (ns : Nat → Int) (da : Int → Int → Int) (S : Nat) (x : Int) (hOk : pn_Ok nf ns da) (hR : mn_R nf ns mi ms) (hN : mn_Ok ms) (hSb : S < 2 ^ 20) (hSm : pn_Sm nf ns da) (hM : pn_Mono (ns 0) (m_G nf da S)) (hSo : S < 2 ^ (ns 1).toNat) (hz : ∀ t : Nat, t < 20 → mz (t : Int) = b2 (S.testBit t = true)) (gx : i3 x) : Met l y_M_blows w_M_blows ({ frames := 7, cells := 0, slots := 0, locals := 161 }) (va_Pc [.ref (b 0), .int (iI (x))] (fun U => U.heap.size = sz ∧ va_P D pn_cl (mw b cI cL cZ mi ml mz ms) U.heap ∧ va_D (fun _ => True) (mw b cI cL cZ mi ml mz ms) ∧ mn_E D cI cL cZ U)) (va_Qi (fun (r : Int32) (u : (Nat → Int → Int) × (Nat → Int → Int) × (Int → Int) × (Nat → Int)) => (¬ (0 ≤ x ∧ x ≤ ms 4 - 1) ∧ r = iI 0 ∧ u = (mi, ml, mz, nw ms 0 (1))) ∨ ((0 ≤ x ∧ x ≤ ms 4 - 1) ∧ ∃ (f : Int → Int) (bo : Int), m_s5 f ∧ pn_Le (ns 0) (nf 0) (m_G nf da S) bo (mP (nw mi 14 f)) ∧ u = (nw mi 14 f, ml, mz, nw (nw ms 0 (0)) 6 (((S : Nat) : Int))) ∧ ((bo = 1 ∧ r = iI (m_flow nf S (mP (nw mi 14 f)) (20 + x))) ∨ (bo = 0 ∧ r = iI (-1000000))))) (fun u t => va_P D pn_cl ((fun u : (Nat → Int → Int) × (Nat → Int → Int) × (Int → Int) × (Nat → Int) => mw b cI cL cZ u.1 u.2.1 u.2.2.1 u.2.2.2) u) t.heap ∧ va_D (va_A (mw b cI cL cZ mi ml mz ms) sz) ((fun u : (Nat → Int → Int) × (Nat → Int → Int) × (Int → Int) × (Nat → Int) => mw b cI cL cZ u.1 u.2.1 u.2.2.1 u.2.2.2) u)) (va_A (mw b cI cL cZ mi ml mz ms) sz)) 0 0 (va_A (mw b cI cL cZ mi ml mz ms) sz) := by
  refine Met.ofW (cc := b_M_blows) (maxL := 2) (ret := (some .int)) (by decide) rfl ?_
  intro p e s m args below meth c s₁ B hml hv
  obtain ⟨rfl, hsz, hP, hD0, hE⟩ := hv
  have hx := B.exec
  have hb := B.bytes
  have hr := B.returns
  have hts := atoms_spec (ws := w_M_blows) B.pre
  have ht : ∀ w ∈ pn_W, w.before _ s = true := fun w h => hts w (List.mem_cons_of_mem _ h)
  have hown : s.vm.findClass R_M = some m.cls := findClass_of_methodNamed B.named
  have hlocks := B.notSynchronized
  have hK := hE
  subst hsz
  have hD := hD0.self (sz := s.heap.size)
  generalize hAe : va_A (mw b cI cL cZ mi ml mz ms) s.heap.size = A at hD ⊢
  have hA : ∀ q : Nat, s.heap.size ≤ q → A q := fun q h => by rw [← hAe]; exact Or.inr h
  have hS : va_S A s.heap s.heap [] := va_S.rf
  have hl := lv_entry ([.ref (b 0), .int (iI (x))]) (n := 2) (Nat.le_of_ble_eq_true rfl)
  rw [lg_entry_eq]
  generalize (lg_sl ([.ref (b 0), .int (iI (x))]) ++ List.replicate (2 - (lg_sl ([.ref (b 0), .int (iI (x))])).length) Slot.unset).toArray = ls at hl ⊢
  have hl : lv_has ls 2 [(0, .ref (b 0)), (1, .int (iI (x)))] := hl
  obtain ⟨o_zc, o_lc, o_fc, o_ve, o_wi, o_wa, o_vo, o_fr, o_to, o_he, o_ar, o_ki, o_st, o_ff, o_sl, o_dc, o_da⟩ := id hOk
  obtain ⟨r_zo, r_le, r_fa, r_wi, r_ai, r_wa, r_vo, r_lk, r_fn⟩ := id hR
  obtain ⟨n_zo, n_le, n_fa, n_ca⟩ := id hN
  obtain ⟨gx1, gx2⟩ := gx
  refine lv_aload_n hx hb d_M_blows_0 rfl (lv_at hl 0 rfl) ?_
  refine lv_iload_n hx hb d_M_blows_1 rfl (lv_at hl 1 rfl) ?_
  refine pr_i2l hx hb (i3_of (by omega) (by omega)) d_M_blows_2 ?_
  refine lv_lconst (v := lI 0) hx hb d_M_blows_3 (by decide) ?_
  refine lv_aload_n hx hb d_M_blows_4 rfl (lv_at hl 0 rfl) ?_
  refine va_get (D := D) (ci := 5) (v := .int (iI (ms 4))) (C := R_M) (T := T_M) (N := 27) hx hb hts (in_M _) hown hK hP 0 rfl rfl 15 (by decide) (ht _ m_605) (fun _ h9 => h9) rfl d_M_blows_5 ?_
  refine lv_iconst (v := iI (1)) hx hb d_M_blows_8 rfl ?_
  refine pr_isub hx hb d_M_blows_9 ?_
  refine pr_i2l hx hb (i3_of (by omega) (by omega)) d_M_blows_10 ?_
  refine pr_pi (va_runS (As := [.long (lI (x)), .long (lI (0)), .long (lI ((ms 4) - (1)))]) (rest := [.ref (b 0)]) ⟨hx, hb, hml, hown, hts⟩ (c_M_in l (x) (0) ((ms 4) - (1)) (i6_of (by omega) (by omega)) (i6_of (by decide) (by decide)) (i6_of (by omega) (by omega))) (cwS 3 hts (pn_gS m_683 m_684 m_38 m_685) rfl rfl rfl (by decide +kernel) ⟨Nat.le_of_ble_eq_true rfl, Nat.le_of_ble_eq_true rfl⟩) pn_pre0 rfl rfl hl.1 rfl (lv_room (Nat.le_of_ble_eq_true rfl)) d_M_blows_11 ⟨Nat.le_of_ble_eq_true rfl, Nat.le_of_ble_eq_true rfl⟩) ?_
  refine pr_if_eq (tgt := 21) hx hb (i3_b2 _) d_M_blows_14 (by decide) (fun c_1 => ?_) (fun c_1 => ?_)
  · replace c_1 := b2_0 c_1
    refine lv_iconst (v := iI (1)) hx hb d_M_blows_21 rfl ?_
    refine va_put (D := D) (ci := 5) (v := .int (iI (1))) (ty := .int) (C := R_M) (T := T_M) (N := 27) hx hb hts (in_M _) ty_M ty_M_ok nm_M hown hK hP hD hS 0 rfl rfl 0 (by decide) (ht _ m_590) (fun _ h9 => h9) rfl (by decide +kernel) rfl rfl (Nat.le_of_ble_eq_true rfl) d_M_blows_22 (fun H locs hP hD hS => ?_)
    have hP : va_P D pn_cl (mw b cI cL cZ mi ml mz (nw ms 0 (1))) H := hP
    have hD : va_D A (mw b cI cL cZ mi ml mz (nw ms 0 (1))) := hD
    refine lv_aload_n hx hb d_M_blows_25 rfl (lv_at hl 0 rfl) ?_
    refine va_get (D := D) (ci := 5) (v := .int (iI ((1)))) (C := R_M) (T := T_M) (N := 27) hx hb hts (in_M _) hown hK hP 0 rfl rfl 0 (by decide) (ht _ m_590) (fun _ h9 => h9) rfl d_M_blows_26 ?_
    refine pr_ire (B := 1) rfl ?_
    refine pr_if_le (tgt := 34) hx hb (i3_of (by decide) (by decide)) d_M_blows_29 (by decide) (fun c_2 => ?_) (fun c_2 => ?_)
    · skip
      exact absurd c_2 (by decide)
    · skip
      refine lv_iconst (v := iI (0)) hx hb d_M_blows_32 rfl ?_
      exact W.iret (v := iI (0)) hx hb hr (fun t ht hW => ⟨⟨iI (0), (mi, ml, mz, nw ms 0 (1)), rfl, Or.inl (⟨by omega, rfl, rfl⟩), by rw [ht]; exact hP, hD⟩, hS.F ht⟩) hS.2.2 d_M_blows_33
  · replace c_1 := b2_n1 c_1
    refine lv_iconst (v := iI (0)) hx hb d_M_blows_17 rfl ?_
    refine lv_goto (tgt := 22) hx hb d_M_blows_18 (by decide) ?_
    refine va_put (D := D) (ci := 5) (v := .int (iI (0))) (ty := .int) (C := R_M) (T := T_M) (N := 27) hx hb hts (in_M _) ty_M ty_M_ok nm_M hown hK hP hD hS 0 rfl rfl 0 (by decide) (ht _ m_590) (fun _ h9 => h9) rfl (by decide +kernel) rfl rfl (Nat.le_of_ble_eq_true rfl) d_M_blows_22 (fun H locs hP hD hS => ?_)
    have hP : va_P D pn_cl (mw b cI cL cZ mi ml mz (nw ms 0 (0))) H := hP
    have hD : va_D A (mw b cI cL cZ mi ml mz (nw ms 0 (0))) := hD
    refine lv_aload_n hx hb d_M_blows_25 rfl (lv_at hl 0 rfl) ?_
    refine va_get (D := D) (ci := 5) (v := .int (iI ((0)))) (C := R_M) (T := T_M) (N := 27) hx hb hts (in_M _) hown hK hP 0 rfl rfl 0 (by decide) (ht _ m_590) (fun _ h9 => h9) rfl d_M_blows_26 ?_
    refine pr_ire (B := 0) rfl ?_
    refine pr_if_le (tgt := 34) hx hb (i3_of (by decide) (by decide)) d_M_blows_29 (by decide) (fun c_3 => ?_) (fun c_3 => ?_)
    · skip
      refine lv_aload_n hx hb d_M_blows_34 rfl (lv_at hl 0 rfl) ?_
      refine pr_ci (va_runV (As := []) (rest := []) ⟨hx, hb, hml, hown, hts⟩ (c_M_makeNow l (mi := mi) (ms := nw ms 0 (0)) H.size nf ns da S hOk hR hSb hSm hM hSo hz) (cwV 0 hts (pn_gV m_727 m_729 m_19 m_38 m_730) rfl rfl rfl (by decide +kernel) ⟨Nat.le_of_ble_eq_true rfl, Nat.le_of_ble_eq_true rfl⟩) (mn_preW (q0 := 0) (ci := 5) (q := (R_M, T_M, 27)) hP hD hE rfl rfl) rfl rfl hl.1 rfl (lv_room (Nat.le_of_ble_eq_true rfl)) d_M_blows_35 ⟨Nat.le_of_ble_eq_true rfl, Nat.le_of_ble_eq_true rfl⟩) hD hS hA (fun r u H locs hw hP hD hS => ?_)
      obtain ⟨f, bo⟩ := u
      obtain ⟨rfl, hf5, hLe⟩ := hw
      try dsimp only at hP hD hf5 hLe
      have hP : va_P D pn_cl (mw b cI cL cZ (nw mi 14 f) ml mz (nw (nw ms 0 (0)) 6 (((S : Nat) : Int)))) H := hP
      have hD : va_D A (mw b cI cL cZ (nw mi 14 f) ml mz (nw (nw ms 0 (0)) 6 (((S : Nat) : Int)))) := hD
      have hbo := pn_Le_01 hLe
      refine pr_if_eq (tgt := 50) hx hb (i3_of (by omega) (by omega)) d_M_blows_38 (by decide) (fun c_4 => ?_) (fun c_4 => ?_)
      · skip
        refine lv_ldc (v := iI (-1000000)) hx hb hown (ht (.constant _ 159 (iI (-1000000))) m_768) d_M_blows_50 ?_
        exact W.iret (v := iI (-1000000)) hx hb hr (fun t ht hW => ⟨⟨iI (-1000000), (nw mi 14 f, ml, mz, nw (nw ms 0 (0)) 6 (((S : Nat) : Int))), rfl, Or.inr (⟨by omega, f, bo, hf5, hLe, rfl, Or.inr ⟨by omega, rfl⟩⟩), by rw [ht]; exact hP, hD⟩, hS.F ht⟩) hS.2.2 d_M_blows_52
      · skip
        refine lv_aload_n hx hb d_M_blows_41 rfl (lv_at hl 0 rfl) ?_
        refine lv_iload_n hx hb d_M_blows_42 rfl (lv_at hl 1 rfl) ?_
        refine pr_pl (va_runV (As := [.int (iI (x))]) (rest := []) ⟨hx, hb, hml, hown, hts⟩ (c_M_blown l nf ns da (mi := nw mi 14 f) (ms := nw (nw ms 0 (0)) 6 (((S : Nat) : Int))) S (x) hOk hR (mP_pr hOk hR hf5) ⟨by omega, by omega⟩) (cwV 1 hts (pn_gV m_760 m_762 m_26 m_38 m_763) rfl rfl rfl (by decide +kernel) ⟨Nat.le_of_ble_eq_true rfl, Nat.le_of_ble_eq_true rfl⟩) (mn_preV (q0 := 0) (ci := 5) (q := (R_M, T_M, 27)) hP hE rfl rfl) rfl rfl hl.1 rfl (lv_room (Nat.le_of_ble_eq_true rfl)) d_M_blows_43 ⟨Nat.le_of_ble_eq_true rfl, Nat.le_of_ble_eq_true rfl⟩) ?_
        refine pr_l2i hx hb d_M_blows_46 ?_
        refine lv_goto (tgt := 52) hx hb d_M_blows_47 (by decide) ?_
        exact W.iret (v := iI (m_flow nf S (mP (nw mi 14 f)) (20 + (x)))) hx hb hr (fun t ht hW => ⟨⟨iI (m_flow nf S (mP (nw mi 14 f)) (20 + (x))), (nw mi 14 f, ml, mz, nw (nw ms 0 (0)) 6 (((S : Nat) : Int))), rfl, Or.inr (⟨by omega, f, bo, hf5, hLe, rfl, Or.inl ⟨by omega, rfl⟩⟩), by rw [ht]; exact hP, hD⟩, hS.F ht⟩) hS.2.2 d_M_blows_52
    · skip
      exact absurd c_3 (by decide)
abbrev w_M_gain : List Cond := .code y_M_gain b_M_gain 2 (some .int) :: pn_W
set_option maxHeartbeats 4000000 in
set_option maxRecDepth 100000 in
theorem c_M_gain (l : Launch) {D : va_G} {b : Nat → Nat} {cI cL cZ : ClassId} {mi ml : Nat → Int → Int} {mz : Int → Int} {ms : Nat → Int} (sz : Nat) (nf : Nat → Int → Int) (ns : Nat → Int) (da : Int → Int → Int) (S : Nat) (x : Int) (hOk : pn_Ok nf ns da) (hR : mn_R nf ns mi ms) (hN : mn_Ok ms) (hSb : S < 2 ^ 20) (hSm : pn_Sm nf ns da) (hM : pn_Mono (ns 0) (m_G nf da S)) (hSo : S < 2 ^ (ns 1).toNat) (hz : ∀ t : Nat, t < 20 → mz (t : Int) = b2 (S.testBit t = true)) (gx : i3 x) : Met l y_M_gain w_M_gain ({ frames := 7, cells := 0, slots := 0, locals := 161 }) (va_Pc [.ref (b 0), .int (iI (x))] (fun U => U.heap.size = sz ∧ va_P D pn_cl (mw b cI cL cZ mi ml mz ms) U.heap ∧ va_D (fun _ => True) (mw b cI cL cZ mi ml mz ms) ∧ mn_E D cI cL cZ U)) (va_Qi (fun (r : Int32) (u : (Nat → Int → Int) × (Nat → Int → Int) × (Int → Int) × (Nat → Int)) => (¬ (0 ≤ x ∧ x ≤ ms 2 - 1) ∧ r = iI 0 ∧ u = (mi, ml, mz, nw ms 0 (1))) ∨ ((0 ≤ x ∧ x ≤ ms 2 - 1) ∧ ∃ (f : Int → Int) (bo : Int), m_s5 f ∧ pn_Le (ns 0) (nf 0) (m_G nf da S) bo (mP (nw mi 14 f)) ∧ u = (nw mi 14 f, ml, mz, nw (nw ms 0 (0)) 6 (((S : Nat) : Int))) ∧ ((bo = 1 ∧ r = iI (m_gain nf da S (mP (nw mi 14 f)) (x + 4))) ∨ (bo = 0 ∧ r = iI (-1000000))))) (fun u t => va_P D pn_cl ((fun u : (Nat → Int → Int) × (Nat → Int → Int) × (Int → Int) × (Nat → Int) => mw b cI cL cZ u.1 u.2.1 u.2.2.1 u.2.2.2) u) t.heap ∧ va_D (va_A (mw b cI cL cZ mi ml mz ms) sz) ((fun u : (Nat → Int → Int) × (Nat → Int → Int) × (Int → Int) × (Nat → Int) => mw b cI cL cZ u.1 u.2.1 u.2.2.1 u.2.2.2) u)) (va_A (mw b cI cL cZ mi ml mz ms) sz)) 0 0 (va_A (mw b cI cL cZ mi ml mz ms) sz) := by
  refine Met.ofW (cc := b_M_gain) (maxL := 2) (ret := (some .int)) (by decide) rfl ?_
  intro p e s m args below meth c s₁ B hml hv
  obtain ⟨rfl, hsz, hP, hD0, hE⟩ := hv
  have hx := B.exec
  have hb := B.bytes
  have hr := B.returns
  have hts := atoms_spec (ws := w_M_gain) B.pre
  have ht : ∀ w ∈ pn_W, w.before _ s = true := fun w h => hts w (List.mem_cons_of_mem _ h)
  have hown : s.vm.findClass R_M = some m.cls := findClass_of_methodNamed B.named
  have hlocks := B.notSynchronized
  have hK := hE
  subst hsz
  have hD := hD0.self (sz := s.heap.size)
  generalize hAe : va_A (mw b cI cL cZ mi ml mz ms) s.heap.size = A at hD ⊢
  have hA : ∀ q : Nat, s.heap.size ≤ q → A q := fun q h => by rw [← hAe]; exact Or.inr h
  have hS : va_S A s.heap s.heap [] := va_S.rf
  have hl := lv_entry ([.ref (b 0), .int (iI (x))]) (n := 2) (Nat.le_of_ble_eq_true rfl)
  rw [lg_entry_eq]
  generalize (lg_sl ([.ref (b 0), .int (iI (x))]) ++ List.replicate (2 - (lg_sl ([.ref (b 0), .int (iI (x))])).length) Slot.unset).toArray = ls at hl ⊢
  have hl : lv_has ls 2 [(0, .ref (b 0)), (1, .int (iI (x)))] := hl
  obtain ⟨o_zc, o_lc, o_fc, o_ve, o_wi, o_wa, o_vo, o_fr, o_to, o_he, o_ar, o_ki, o_st, o_ff, o_sl, o_dc, o_da⟩ := id hOk
  obtain ⟨r_zo, r_le, r_fa, r_wi, r_ai, r_wa, r_vo, r_lk, r_fn⟩ := id hR
  obtain ⟨n_zo, n_le, n_fa, n_ca⟩ := id hN
  obtain ⟨gx1, gx2⟩ := gx
  refine lv_aload_n hx hb d_M_gain_0 rfl (lv_at hl 0 rfl) ?_
  refine lv_aload_n hx hb d_M_gain_1 rfl (lv_at hl 0 rfl) ?_
  refine lv_iload_n hx hb d_M_gain_2 rfl (lv_at hl 1 rfl) ?_
  refine pr_pi (va_runV (As := [.int (iI (x))]) (rest := [.ref (b 0)]) ⟨hx, hb, hml, hown, hts⟩ (c_M_isZone l (x) hN (i3_of (by omega) (by omega))) (cwV 1 hts (pn_gV m_781 m_783 m_28 m_38 m_784) rfl rfl rfl (by decide +kernel) ⟨Nat.le_of_ble_eq_true rfl, Nat.le_of_ble_eq_true rfl⟩) (mn_preV (q0 := 0) (ci := 5) (q := (R_M, T_M, 27)) hP hE rfl rfl) rfl rfl hl.1 rfl (lv_room (Nat.le_of_ble_eq_true rfl)) d_M_gain_3 ⟨Nat.le_of_ble_eq_true rfl, Nat.le_of_ble_eq_true rfl⟩) ?_
  refine pr_if_eq (tgt := 13) hx hb (i3_b2 _) d_M_gain_6 (by decide) (fun c_1 => ?_) (fun c_1 => ?_)
  · replace c_1 := b2_0 c_1
    refine lv_iconst (v := iI (1)) hx hb d_M_gain_13 rfl ?_
    refine va_put (D := D) (ci := 5) (v := .int (iI (1))) (ty := .int) (C := R_M) (T := T_M) (N := 27) hx hb hts (in_M _) ty_M ty_M_ok nm_M hown hK hP hD hS 0 rfl rfl 0 (by decide) (ht _ m_590) (fun _ h9 => h9) rfl (by decide +kernel) rfl rfl (Nat.le_of_ble_eq_true rfl) d_M_gain_14 (fun H locs hP hD hS => ?_)
    have hP : va_P D pn_cl (mw b cI cL cZ mi ml mz (nw ms 0 (1))) H := hP
    have hD : va_D A (mw b cI cL cZ mi ml mz (nw ms 0 (1))) := hD
    refine lv_aload_n hx hb d_M_gain_17 rfl (lv_at hl 0 rfl) ?_
    refine va_get (D := D) (ci := 5) (v := .int (iI ((1)))) (C := R_M) (T := T_M) (N := 27) hx hb hts (in_M _) hown hK hP 0 rfl rfl 0 (by decide) (ht _ m_590) (fun _ h9 => h9) rfl d_M_gain_18 ?_
    refine pr_ire (B := 1) rfl ?_
    refine pr_if_le (tgt := 26) hx hb (i3_of (by decide) (by decide)) d_M_gain_21 (by decide) (fun c_2 => ?_) (fun c_2 => ?_)
    · skip
      exact absurd c_2 (by decide)
    · skip
      refine lv_iconst (v := iI (0)) hx hb d_M_gain_24 rfl ?_
      exact W.iret (v := iI (0)) hx hb hr (fun t ht hW => ⟨⟨iI (0), (mi, ml, mz, nw ms 0 (1)), rfl, Or.inl (⟨by omega, rfl, rfl⟩), by rw [ht]; exact hP, hD⟩, hS.F ht⟩) hS.2.2 d_M_gain_25
  · replace c_1 := b2_n1 c_1
    refine lv_iconst (v := iI (0)) hx hb d_M_gain_9 rfl ?_
    refine lv_goto (tgt := 14) hx hb d_M_gain_10 (by decide) ?_
    refine va_put (D := D) (ci := 5) (v := .int (iI (0))) (ty := .int) (C := R_M) (T := T_M) (N := 27) hx hb hts (in_M _) ty_M ty_M_ok nm_M hown hK hP hD hS 0 rfl rfl 0 (by decide) (ht _ m_590) (fun _ h9 => h9) rfl (by decide +kernel) rfl rfl (Nat.le_of_ble_eq_true rfl) d_M_gain_14 (fun H locs hP hD hS => ?_)
    have hP : va_P D pn_cl (mw b cI cL cZ mi ml mz (nw ms 0 (0))) H := hP
    have hD : va_D A (mw b cI cL cZ mi ml mz (nw ms 0 (0))) := hD
    refine lv_aload_n hx hb d_M_gain_17 rfl (lv_at hl 0 rfl) ?_
    refine va_get (D := D) (ci := 5) (v := .int (iI ((0)))) (C := R_M) (T := T_M) (N := 27) hx hb hts (in_M _) hown hK hP 0 rfl rfl 0 (by decide) (ht _ m_590) (fun _ h9 => h9) rfl d_M_gain_18 ?_
    refine pr_ire (B := 0) rfl ?_
    refine pr_if_le (tgt := 26) hx hb (i3_of (by decide) (by decide)) d_M_gain_21 (by decide) (fun c_3 => ?_) (fun c_3 => ?_)
    · skip
      refine lv_aload_n hx hb d_M_gain_26 rfl (lv_at hl 0 rfl) ?_
      refine pr_ci (va_runV (As := []) (rest := []) ⟨hx, hb, hml, hown, hts⟩ (c_M_makeNow l (mi := mi) (ms := nw ms 0 (0)) H.size nf ns da S hOk hR hSb hSm hM hSo hz) (cwV 0 hts (pn_gV m_727 m_729 m_19 m_38 m_730) rfl rfl rfl (by decide +kernel) ⟨Nat.le_of_ble_eq_true rfl, Nat.le_of_ble_eq_true rfl⟩) (mn_preW (q0 := 0) (ci := 5) (q := (R_M, T_M, 27)) hP hD hE rfl rfl) rfl rfl hl.1 rfl (lv_room (Nat.le_of_ble_eq_true rfl)) d_M_gain_27 ⟨Nat.le_of_ble_eq_true rfl, Nat.le_of_ble_eq_true rfl⟩) hD hS hA (fun r u H locs hw hP hD hS => ?_)
      obtain ⟨f, bo⟩ := u
      obtain ⟨rfl, hf5, hLe⟩ := hw
      try dsimp only at hP hD hf5 hLe
      have hP : va_P D pn_cl (mw b cI cL cZ (nw mi 14 f) ml mz (nw (nw ms 0 (0)) 6 (((S : Nat) : Int)))) H := hP
      have hD : va_D A (mw b cI cL cZ (nw mi 14 f) ml mz (nw (nw ms 0 (0)) 6 (((S : Nat) : Int)))) := hD
      have hbo := pn_Le_01 hLe
      refine pr_if_eq (tgt := 42) hx hb (i3_of (by omega) (by omega)) d_M_gain_30 (by decide) (fun c_4 => ?_) (fun c_4 => ?_)
      · skip
        refine lv_ldc (v := iI (-1000000)) hx hb hown (ht (.constant _ 159 (iI (-1000000))) m_768) d_M_gain_42 ?_
        exact W.iret (v := iI (-1000000)) hx hb hr (fun t ht hW => ⟨⟨iI (-1000000), (nw mi 14 f, ml, mz, nw (nw ms 0 (0)) 6 (((S : Nat) : Int))), rfl, Or.inr (⟨by omega, f, bo, hf5, hLe, rfl, Or.inr ⟨by omega, rfl⟩⟩), by rw [ht]; exact hP, hD⟩, hS.F ht⟩) hS.2.2 d_M_gain_44
      · skip
        refine lv_aload_n hx hb d_M_gain_33 rfl (lv_at hl 0 rfl) ?_
        refine lv_iload_n hx hb d_M_gain_34 rfl (lv_at hl 1 rfl) ?_
        refine pr_pl (va_runV (As := [.int (iI (x))]) (rest := []) ⟨hx, hb, hml, hown, hts⟩ (c_M_gainOf l nf ns da (mi := nw mi 14 f) (ms := nw (nw ms 0 (0)) 6 (((S : Nat) : Int))) S (x) hOk hR rfl hSb (mP_pr hOk hR hf5) hSm ⟨by omega, by omega⟩) (cwV 1 hts (pn_gV m_739 m_741 m_22 m_38 m_742) rfl rfl rfl (by decide +kernel) ⟨Nat.le_of_ble_eq_true rfl, Nat.le_of_ble_eq_true rfl⟩) (mn_preV (q0 := 0) (ci := 5) (q := (R_M, T_M, 27)) hP hE rfl rfl) rfl rfl hl.1 rfl (lv_room (Nat.le_of_ble_eq_true rfl)) d_M_gain_35 ⟨Nat.le_of_ble_eq_true rfl, Nat.le_of_ble_eq_true rfl⟩) ?_
        refine pr_l2i hx hb d_M_gain_38 ?_
        refine lv_goto (tgt := 44) hx hb d_M_gain_39 (by decide) ?_
        exact W.iret (v := iI (m_gain nf da S (mP (nw mi 14 f)) ((x) + 4))) hx hb hr (fun t ht hW => ⟨⟨iI (m_gain nf da S (mP (nw mi 14 f)) ((x) + 4)), (nw mi 14 f, ml, mz, nw (nw ms 0 (0)) 6 (((S : Nat) : Int))), rfl, Or.inr (⟨by omega, f, bo, hf5, hLe, rfl, Or.inl ⟨by omega, rfl⟩⟩), by rw [ht]; exact hP, hD⟩, hS.F ht⟩) hS.2.2 d_M_gain_44
    · skip
      exact absurd c_3 (by decide)
