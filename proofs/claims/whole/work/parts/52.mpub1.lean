/-! the reference's calls -/
abbrev w_M_zone : List Cond := .code y_M_zone b_M_zone 3 (some .int) :: pn_W
set_option maxHeartbeats 4000000 in
set_option maxRecDepth 100000 in
theorem c_M_zone (l : Launch) {D : va_G} {b : Nat → Nat} {cI cL cZ : ClassId} {mi ml : Nat → Int → Int} {mz : Int → Int} {ms : Nat → Int} (sz : Nat) (nf : Nat → Int → Int) (ns : Nat → Int) (da : Int → Int → Int) (x y : Int) (hOk : pn_Ok nf ns da) (hR : mn_R nf ns mi ms) (hN : mn_Ok ms) (gx : i3 x) (gy : i3 y) : Met l y_M_zone w_M_zone ({ frames := 1, cells := 0, slots := 0, locals := 25 }) (va_Pc [.ref (b 0), .int (iI (x)), .int (iI (y))] (fun U => U.heap.size = sz ∧ va_P D pn_cl (mw b cI cL cZ mi ml mz ms) U.heap ∧ va_D (fun _ => True) (mw b cI cL cZ mi ml mz ms) ∧ mn_E D cI cL cZ U)) (va_Qi (fun (r : Int32) (u : (Nat → Int → Int) × (Nat → Int → Int) × (Int → Int) × (Nat → Int)) => (¬ ((-1000 ≤ x ∧ x ≤ 1000) ∧ (1 ≤ y ∧ y ≤ 100000)) ∧ r = iI 0 ∧ u = (mi, ml, mz, nw ms 0 (1))) ∨ (((-1000 ≤ x ∧ x ≤ 1000) ∧ (1 ≤ y ∧ y ≤ 100000)) ∧ (8 ≤ ms 2) ∧ r = iI 0 ∧ u = (mi, ml, mz, nw ms 0 (2))) ∨ (((-1000 ≤ x ∧ x ≤ 1000) ∧ (1 ≤ y ∧ y ≤ 100000)) ∧ ¬ (8 ≤ ms 2) ∧ r = iI ((((ms 2) + (1))) - (1)) ∧ u = (nw (nw mi 1 (pu (mi 1) (ms 2) (x))) 2 (pu (mi 2) (ms 2) (y)), ml, mz, nw (nw ms 0 (0)) 2 ((ms 2) + (1))))) (fun u t => va_P D pn_cl ((fun u : (Nat → Int → Int) × (Nat → Int → Int) × (Int → Int) × (Nat → Int) => mw b cI cL cZ u.1 u.2.1 u.2.2.1 u.2.2.2) u) t.heap ∧ va_D (va_A (mw b cI cL cZ mi ml mz ms) sz) ((fun u : (Nat → Int → Int) × (Nat → Int → Int) × (Int → Int) × (Nat → Int) => mw b cI cL cZ u.1 u.2.1 u.2.2.1 u.2.2.2) u)) (va_A (mw b cI cL cZ mi ml mz ms) sz)) 0 0 (va_A (mw b cI cL cZ mi ml mz ms) sz) := by
  refine Met.ofW (cc := b_M_zone) (maxL := 3) (ret := (some .int)) (by decide) rfl ?_
  intro p e s m args below meth c s₁ B hml hv
  obtain ⟨rfl, hsz, hP, hD0, hE⟩ := hv
  have hx := B.exec
  have hb := B.bytes
  have hr := B.returns
  have hts := atoms_spec (ws := w_M_zone) B.pre
  have ht : ∀ w ∈ pn_W, w.before _ s = true := fun w h => hts w (List.mem_cons_of_mem _ h)
  have hown : s.vm.findClass R_M = some m.cls := findClass_of_methodNamed B.named
  have hlocks := B.notSynchronized
  have hK := hE
  subst hsz
  have hD := hD0.self (sz := s.heap.size)
  generalize hAe : va_A (mw b cI cL cZ mi ml mz ms) s.heap.size = A at hD ⊢
  have hA : ∀ q : Nat, s.heap.size ≤ q → A q := fun q h => by rw [← hAe]; exact Or.inr h
  have hS : va_S A s.heap s.heap [] := va_S.rf
  have hl := lv_entry ([.ref (b 0), .int (iI (x)), .int (iI (y))]) (n := 3) (Nat.le_of_ble_eq_true rfl)
  rw [lg_entry_eq]
  generalize (lg_sl ([.ref (b 0), .int (iI (x)), .int (iI (y))]) ++ List.replicate (3 - (lg_sl ([.ref (b 0), .int (iI (x)), .int (iI (y))])).length) Slot.unset).toArray = ls at hl ⊢
  have hl : lv_has ls 3 [(0, .ref (b 0)), (1, .int (iI (x))), (2, .int (iI (y)))] := hl
  obtain ⟨o_zc, o_lc, o_fc, o_ve, o_wi, o_wa, o_vo, o_fr, o_to, o_he, o_ar, o_ki, o_st, o_ff, o_sl, o_dc, o_da⟩ := id hOk
  obtain ⟨r_zo, r_le, r_fa, r_wi, r_ai, r_wa, r_vo, r_lk, r_fn⟩ := id hR
  obtain ⟨n_zo, n_le, n_fa, n_ca⟩ := id hN
  obtain ⟨gx1, gx2⟩ := gx
  obtain ⟨gy1, gy2⟩ := gy
  refine lv_aload_n hx hb d_M_zone_0 rfl (lv_at hl 0 rfl) ?_
  refine lv_iload_n hx hb d_M_zone_1 rfl (lv_at hl 1 rfl) ?_
  refine pr_i2l hx hb (i3_of (by omega) (by omega)) d_M_zone_2 ?_
  refine lv_ldc2 (v := lI (-1000)) hx hb hown (ht (.constantLong _ 85 (lI (-1000))) m_681) d_M_zone_3 ?_
  refine lv_ldc2 (v := lI (1000)) hx hb hown (ht (.constantLong _ 87 (lI (1000))) m_682) d_M_zone_6 ?_
  refine pr_pi (va_runS (As := [.long (lI (x)), .long (lI (-1000)), .long (lI (1000))]) (rest := [.ref (b 0)]) ⟨hx, hb, hml, hown, hts⟩ (c_M_in l (x) (-1000) (1000) (i6_of (by omega) (by omega)) (i6_of (by decide) (by decide)) (i6_of (by decide) (by decide))) (cwS 3 hts (pn_gS m_683 m_684 m_38 m_685) rfl rfl rfl (by decide +kernel) ⟨Nat.le_of_ble_eq_true rfl, Nat.le_of_ble_eq_true rfl⟩) pn_pre0 rfl rfl hl.1 rfl (lv_room (Nat.le_of_ble_eq_true rfl)) d_M_zone_9 ⟨Nat.le_of_ble_eq_true rfl, Nat.le_of_ble_eq_true rfl⟩) ?_
  refine pr_if_eq (tgt := 27) hx hb (i3_b2 _) d_M_zone_12 (by decide) (fun c_1 => ?_) (fun c_1 => ?_)
  · replace c_1 := b2_0 c_1
    refine lv_iconst (v := iI (1)) hx hb d_M_zone_27 rfl ?_
    refine lv_goto (tgt := 45) hx hb d_M_zone_28 (by decide) ?_
    refine va_put (D := D) (ci := 5) (v := .int (iI (1))) (ty := .int) (C := R_M) (T := T_M) (N := 27) hx hb hts (in_M _) ty_M ty_M_ok nm_M hown hK hP hD hS 0 rfl rfl 0 (by decide) (ht _ m_590) (fun _ h9 => h9) rfl (by decide +kernel) rfl rfl (Nat.le_of_ble_eq_true rfl) d_M_zone_45 (fun H locs hP hD hS => ?_)
    have hP : va_P D pn_cl (mw b cI cL cZ mi ml mz (nw ms 0 (1))) H := hP
    have hD : va_D A (mw b cI cL cZ mi ml mz (nw ms 0 (1))) := hD
    refine lv_aload_n hx hb d_M_zone_48 rfl (lv_at hl 0 rfl) ?_
    refine va_get (D := D) (ci := 5) (v := .int (iI ((1)))) (C := R_M) (T := T_M) (N := 27) hx hb hts (in_M _) hown hK hP 0 rfl rfl 0 (by decide) (ht _ m_590) (fun _ h9 => h9) rfl d_M_zone_49 ?_
    refine pr_ire (B := 1) rfl ?_
    refine pr_if_le (tgt := 57) hx hb (i3_of (by decide) (by decide)) d_M_zone_52 (by decide) (fun c_2 => ?_) (fun c_2 => ?_)
    · skip
      exact absurd c_2 (by decide)
    · skip
      refine lv_iconst (v := iI (0)) hx hb d_M_zone_55 rfl ?_
      exact W.iret (v := iI (0)) hx hb hr (fun t ht hW => ⟨⟨iI (0), (mi, ml, mz, nw ms 0 (1)), rfl, Or.inl (⟨by omega, rfl, rfl⟩), by rw [ht]; exact hP, hD⟩, hS.F ht⟩) hS.2.2 d_M_zone_56
  · replace c_1 := b2_n1 c_1
    refine lv_iload_n hx hb d_M_zone_15 rfl (lv_at hl 2 rfl) ?_
    refine pr_i2l hx hb (i3_of (by omega) (by omega)) d_M_zone_16 ?_
    refine lv_lconst (v := lI 1) hx hb d_M_zone_17 (by decide) ?_
    refine lv_ldc2 (v := lI (100000)) hx hb hown (ht (.constantLong _ 89 (lI (100000))) m_686) d_M_zone_18 ?_
    refine pr_pi (va_runS (As := [.long (lI (y)), .long (lI (1)), .long (lI (100000))]) (rest := [.ref (b 0)]) ⟨hx, hb, hml, hown, hts⟩ (c_M_in l (y) (1) (100000) (i6_of (by omega) (by omega)) (i6_of (by decide) (by decide)) (i6_of (by decide) (by decide))) (cwS 3 hts (pn_gS m_683 m_684 m_38 m_685) rfl rfl rfl (by decide +kernel) ⟨Nat.le_of_ble_eq_true rfl, Nat.le_of_ble_eq_true rfl⟩) pn_pre0 rfl rfl hl.1 rfl (lv_room (Nat.le_of_ble_eq_true rfl)) d_M_zone_21 ⟨Nat.le_of_ble_eq_true rfl, Nat.le_of_ble_eq_true rfl⟩) ?_
    refine pr_if_ne (tgt := 31) hx hb (i3_b2 _) d_M_zone_24 (by decide) (fun c_3 => ?_) (fun c_3 => ?_)
    · replace c_3 := b2_n1 c_3
      refine lv_aload_n hx hb d_M_zone_31 rfl (lv_at hl 0 rfl) ?_
      refine va_get (D := D) (ci := 5) (v := .int (iI (ms 2))) (C := R_M) (T := T_M) (N := 27) hx hb hts (in_M _) hown hK hP 0 rfl rfl 3 (by decide) (ht _ m_593) (fun _ h9 => h9) rfl d_M_zone_32 ?_
      refine lv_bipush (v := iI (8)) hx hb d_M_zone_35 (by decide) ?_
      refine pr_icmp_ne (tgt := 44) hx hb (i3_of (by omega) (by omega)) (i3_of (by decide) (by decide)) d_M_zone_37 (by decide) (fun c_4 => ?_) (fun c_4 => ?_)
      · skip
        refine lv_iconst (v := iI (0)) hx hb d_M_zone_44 rfl ?_
        refine va_put (D := D) (ci := 5) (v := .int (iI (0))) (ty := .int) (C := R_M) (T := T_M) (N := 27) hx hb hts (in_M _) ty_M ty_M_ok nm_M hown hK hP hD hS 0 rfl rfl 0 (by decide) (ht _ m_590) (fun _ h9 => h9) rfl (by decide +kernel) rfl rfl (Nat.le_of_ble_eq_true rfl) d_M_zone_45 (fun H locs hP hD hS => ?_)
        have hP : va_P D pn_cl (mw b cI cL cZ mi ml mz (nw ms 0 (0))) H := hP
        have hD : va_D A (mw b cI cL cZ mi ml mz (nw ms 0 (0))) := hD
        refine lv_aload_n hx hb d_M_zone_48 rfl (lv_at hl 0 rfl) ?_
        refine va_get (D := D) (ci := 5) (v := .int (iI ((0)))) (C := R_M) (T := T_M) (N := 27) hx hb hts (in_M _) hown hK hP 0 rfl rfl 0 (by decide) (ht _ m_590) (fun _ h9 => h9) rfl d_M_zone_49 ?_
        refine pr_ire (B := 0) rfl ?_
        refine pr_if_le (tgt := 57) hx hb (i3_of (by decide) (by decide)) d_M_zone_52 (by decide) (fun c_5 => ?_) (fun c_5 => ?_)
        · skip
          refine lv_aload_n hx hb d_M_zone_57 rfl (lv_at hl 0 rfl) ?_
          refine va_get (D := D) (ci := 5) (v := .ref (b 2)) (C := R_M) (T := T_M) (N := 27) hx hb hts (in_M _) hown hK hP 0 rfl rfl 4 (by decide) (ht _ m_594) (fun _ h9 => h9) rfl d_M_zone_58 ?_
          refine lv_aload_n hx hb d_M_zone_61 rfl (lv_at hl 0 rfl) ?_
          refine va_get (D := D) (ci := 5) (v := .int (iI (ms 2))) (C := R_M) (T := T_M) (N := 27) hx hb hts (in_M _) hown hK hP 0 rfl rfl 3 (by decide) (ht _ m_593) (fun _ h9 => h9) rfl d_M_zone_62 ?_
          refine lv_iload_n hx hb d_M_zone_65 rfl (lv_at hl 1 rfl) ?_
          refine pr_iast (ws' := mw b cI cL cZ (nw mi 1 (pu (mi 1) (ms 2) (x))) ml mz (nw ms 0 (0))) hx hb hK hP hD hS 2 0 rfl rfl (by decide) (by omega) (by omega) rfl d_M_zone_66 (fun H locs hP hD hS => ?_)
          refine lv_aload_n hx hb d_M_zone_67 rfl (lv_at hl 0 rfl) ?_
          refine va_get (D := D) (ci := 5) (v := .ref (b 3)) (C := R_M) (T := T_M) (N := 27) hx hb hts (in_M _) hown hK hP 0 rfl rfl 5 (by decide) (ht _ m_595) (fun _ h9 => h9) rfl d_M_zone_68 ?_
          refine lv_aload_n hx hb d_M_zone_71 rfl (lv_at hl 0 rfl) ?_
          refine va_get (D := D) (ci := 5) (v := .int (iI (ms 2))) (C := R_M) (T := T_M) (N := 27) hx hb hts (in_M _) hown hK hP 0 rfl rfl 3 (by decide) (ht _ m_593) (fun _ h9 => h9) rfl d_M_zone_72 ?_
          refine lv_iload_n hx hb d_M_zone_75 rfl (lv_at hl 2 rfl) ?_
          refine pr_iast (ws' := mw b cI cL cZ (nw (nw mi 1 (pu (mi 1) (ms 2) (x))) 2 (pu (mi 2) (ms 2) (y))) ml mz (nw ms 0 (0))) hx hb hK hP hD hS 3 0 rfl rfl (by decide) (by omega) (by omega) rfl d_M_zone_76 (fun H locs hP hD hS => ?_)
          refine lv_aload_n hx hb d_M_zone_77 rfl (lv_at hl 0 rfl) ?_
          refine lv_dup hx hb d_M_zone_78 rfl ?_
          refine va_get (D := D) (ci := 5) (v := .int (iI (ms 2))) (C := R_M) (T := T_M) (N := 27) hx hb hts (in_M _) hown hK hP 0 rfl rfl 3 (by decide) (ht _ m_593) (fun _ h9 => h9) rfl d_M_zone_79 ?_
          refine lv_iconst (v := iI (1)) hx hb d_M_zone_82 rfl ?_
          refine pr_iadd hx hb d_M_zone_83 ?_
          refine va_put (D := D) (ci := 5) (v := .int (iI ((ms 2) + (1)))) (ty := .int) (C := R_M) (T := T_M) (N := 27) hx hb hts (in_M _) ty_M ty_M_ok nm_M hown hK hP hD hS 0 rfl rfl 3 (by decide) (ht _ m_593) (fun _ h9 => h9) rfl (by decide +kernel) rfl rfl (Nat.le_of_ble_eq_true rfl) d_M_zone_84 (fun H locs hP hD hS => ?_)
          have hP : va_P D pn_cl (mw b cI cL cZ (nw (nw mi 1 (pu (mi 1) (ms 2) (x))) 2 (pu (mi 2) (ms 2) (y))) ml mz (nw (nw ms 0 (0)) 2 ((ms 2) + (1)))) H := hP
          have hD : va_D A (mw b cI cL cZ (nw (nw mi 1 (pu (mi 1) (ms 2) (x))) 2 (pu (mi 2) (ms 2) (y))) ml mz (nw (nw ms 0 (0)) 2 ((ms 2) + (1)))) := hD
          refine lv_aload_n hx hb d_M_zone_87 rfl (lv_at hl 0 rfl) ?_
          refine va_get (D := D) (ci := 5) (v := .int (iI (((ms 2) + (1))))) (C := R_M) (T := T_M) (N := 27) hx hb hts (in_M _) hown hK hP 0 rfl rfl 3 (by decide) (ht _ m_593) (fun _ h9 => h9) rfl d_M_zone_88 ?_
          refine lv_iconst (v := iI (1)) hx hb d_M_zone_91 rfl ?_
          refine pr_isub hx hb d_M_zone_92 ?_
          exact W.iret (v := iI ((((ms 2) + (1))) - (1))) hx hb hr (fun t ht hW => ⟨⟨iI ((((ms 2) + (1))) - (1)), (nw (nw mi 1 (pu (mi 1) (ms 2) (x))) 2 (pu (mi 2) (ms 2) (y)), ml, mz, nw (nw ms 0 (0)) 2 ((ms 2) + (1))), rfl, Or.inr (Or.inr (⟨by omega, by omega, rfl, rfl⟩)), by rw [ht]; exact hP, hD⟩, hS.F ht⟩) hS.2.2 d_M_zone_93
        · skip
          exact absurd c_5 (by decide)
      · skip
        refine lv_iconst (v := iI (2)) hx hb d_M_zone_40 rfl ?_
        refine lv_goto (tgt := 45) hx hb d_M_zone_41 (by decide) ?_
        refine va_put (D := D) (ci := 5) (v := .int (iI (2))) (ty := .int) (C := R_M) (T := T_M) (N := 27) hx hb hts (in_M _) ty_M ty_M_ok nm_M hown hK hP hD hS 0 rfl rfl 0 (by decide) (ht _ m_590) (fun _ h9 => h9) rfl (by decide +kernel) rfl rfl (Nat.le_of_ble_eq_true rfl) d_M_zone_45 (fun H locs hP hD hS => ?_)
        have hP : va_P D pn_cl (mw b cI cL cZ mi ml mz (nw ms 0 (2))) H := hP
        have hD : va_D A (mw b cI cL cZ mi ml mz (nw ms 0 (2))) := hD
        refine lv_aload_n hx hb d_M_zone_48 rfl (lv_at hl 0 rfl) ?_
        refine va_get (D := D) (ci := 5) (v := .int (iI ((2)))) (C := R_M) (T := T_M) (N := 27) hx hb hts (in_M _) hown hK hP 0 rfl rfl 0 (by decide) (ht _ m_590) (fun _ h9 => h9) rfl d_M_zone_49 ?_
        refine pr_ire (B := 2) rfl ?_
        refine pr_if_le (tgt := 57) hx hb (i3_of (by decide) (by decide)) d_M_zone_52 (by decide) (fun c_6 => ?_) (fun c_6 => ?_)
        · skip
          exact absurd c_6 (by decide)
        · skip
          refine lv_iconst (v := iI (0)) hx hb d_M_zone_55 rfl ?_
          exact W.iret (v := iI (0)) hx hb hr (fun t ht hW => ⟨⟨iI (0), (mi, ml, mz, nw ms 0 (2)), rfl, Or.inr (Or.inl (⟨by omega, by omega, rfl, rfl⟩)), by rw [ht]; exact hP, hD⟩, hS.F ht⟩) hS.2.2 d_M_zone_56
    · replace c_3 := b2_0 c_3
      refine lv_iconst (v := iI (1)) hx hb d_M_zone_27 rfl ?_
      refine lv_goto (tgt := 45) hx hb d_M_zone_28 (by decide) ?_
      refine va_put (D := D) (ci := 5) (v := .int (iI (1))) (ty := .int) (C := R_M) (T := T_M) (N := 27) hx hb hts (in_M _) ty_M ty_M_ok nm_M hown hK hP hD hS 0 rfl rfl 0 (by decide) (ht _ m_590) (fun _ h9 => h9) rfl (by decide +kernel) rfl rfl (Nat.le_of_ble_eq_true rfl) d_M_zone_45 (fun H locs hP hD hS => ?_)
      have hP : va_P D pn_cl (mw b cI cL cZ mi ml mz (nw ms 0 (1))) H := hP
      have hD : va_D A (mw b cI cL cZ mi ml mz (nw ms 0 (1))) := hD
      refine lv_aload_n hx hb d_M_zone_48 rfl (lv_at hl 0 rfl) ?_
      refine va_get (D := D) (ci := 5) (v := .int (iI ((1)))) (C := R_M) (T := T_M) (N := 27) hx hb hts (in_M _) hown hK hP 0 rfl rfl 0 (by decide) (ht _ m_590) (fun _ h9 => h9) rfl d_M_zone_49 ?_
      refine pr_ire (B := 1) rfl ?_
      refine pr_if_le (tgt := 57) hx hb (i3_of (by decide) (by decide)) d_M_zone_52 (by decide) (fun c_7 => ?_) (fun c_7 => ?_)
      · skip
        exact absurd c_7 (by decide)
      · skip
        refine lv_iconst (v := iI (0)) hx hb d_M_zone_55 rfl ?_
        exact W.iret (v := iI (0)) hx hb hr (fun t ht hW => ⟨⟨iI (0), (mi, ml, mz, nw ms 0 (1)), rfl, Or.inl (⟨by omega, rfl, rfl⟩), by rw [ht]; exact hP, hD⟩, hS.F ht⟩) hS.2.2 d_M_zone_56
abbrev w_M_wind : List Cond := .code y_M_wind b_M_wind 4 (some .int) :: pn_W
set_option maxHeartbeats 4000000 in
set_option maxRecDepth 100000 in
theorem c_M_wind (l : Launch) {D : va_G} {b : Nat → Nat} {cI cL cZ : ClassId} {mi ml : Nat → Int → Int} {mz : Int → Int} {ms : Nat → Int} (sz : Nat) (nf : Nat → Int → Int) (ns : Nat → Int) (da : Int → Int → Int) (x y : Int) (hOk : pn_Ok nf ns da) (hR : mn_R nf ns mi ms) (hN : mn_Ok ms) (gx : i3 x) (gy : i3 y) : Met l y_M_wind w_M_wind ({ frames := 1, cells := 0, slots := 0, locals := 25 }) (va_Pc [.ref (b 0), .int (iI (x)), .int (iI (y))] (fun U => U.heap.size = sz ∧ va_P D pn_cl (mw b cI cL cZ mi ml mz ms) U.heap ∧ va_D (fun _ => True) (mw b cI cL cZ mi ml mz ms) ∧ mn_E D cI cL cZ U)) (va_Qi (fun (r : Int32) (u : (Nat → Int → Int) × (Nat → Int → Int) × (Int → Int) × (Nat → Int)) => (¬ ((-4 ≤ x ∧ x ≤ -1) ∧ (-1000 ≤ y ∧ y ≤ 1000)) ∧ r = iI 0 ∧ u = (mi, ml, mz, nw ms 0 (1))) ∨ (((-4 ≤ x ∧ x ≤ -1) ∧ (-1000 ≤ y ∧ y ≤ 1000)) ∧ r = iI (mi 0 (x + 4)) ∧ u = (nw mi 0 (pu (mi 0) (x + 4) (y)), ml, mz, nw ms 0 (0)))) (fun u t => va_P D pn_cl ((fun u : (Nat → Int → Int) × (Nat → Int → Int) × (Int → Int) × (Nat → Int) => mw b cI cL cZ u.1 u.2.1 u.2.2.1 u.2.2.2) u) t.heap ∧ va_D (va_A (mw b cI cL cZ mi ml mz ms) sz) ((fun u : (Nat → Int → Int) × (Nat → Int → Int) × (Int → Int) × (Nat → Int) => mw b cI cL cZ u.1 u.2.1 u.2.2.1 u.2.2.2) u)) (va_A (mw b cI cL cZ mi ml mz ms) sz)) 0 0 (va_A (mw b cI cL cZ mi ml mz ms) sz) := by
  refine Met.ofW (cc := b_M_wind) (maxL := 4) (ret := (some .int)) (by decide) rfl ?_
  intro p e s m args below meth c s₁ B hml hv
  obtain ⟨rfl, hsz, hP, hD0, hE⟩ := hv
  have hx := B.exec
  have hb := B.bytes
  have hr := B.returns
  have hts := atoms_spec (ws := w_M_wind) B.pre
  have ht : ∀ w ∈ pn_W, w.before _ s = true := fun w h => hts w (List.mem_cons_of_mem _ h)
  have hown : s.vm.findClass R_M = some m.cls := findClass_of_methodNamed B.named
  have hlocks := B.notSynchronized
  have hK := hE
  subst hsz
  have hD := hD0.self (sz := s.heap.size)
  generalize hAe : va_A (mw b cI cL cZ mi ml mz ms) s.heap.size = A at hD ⊢
  have hA : ∀ q : Nat, s.heap.size ≤ q → A q := fun q h => by rw [← hAe]; exact Or.inr h
  have hS : va_S A s.heap s.heap [] := va_S.rf
  have hl := lv_entry ([.ref (b 0), .int (iI (x)), .int (iI (y))]) (n := 4) (Nat.le_of_ble_eq_true rfl)
  rw [lg_entry_eq]
  generalize (lg_sl ([.ref (b 0), .int (iI (x)), .int (iI (y))]) ++ List.replicate (4 - (lg_sl ([.ref (b 0), .int (iI (x)), .int (iI (y))])).length) Slot.unset).toArray = ls at hl ⊢
  have hl : lv_has ls 4 [(0, .ref (b 0)), (1, .int (iI (x))), (2, .int (iI (y)))] := hl
  obtain ⟨o_zc, o_lc, o_fc, o_ve, o_wi, o_wa, o_vo, o_fr, o_to, o_he, o_ar, o_ki, o_st, o_ff, o_sl, o_dc, o_da⟩ := id hOk
  obtain ⟨r_zo, r_le, r_fa, r_wi, r_ai, r_wa, r_vo, r_lk, r_fn⟩ := id hR
  obtain ⟨n_zo, n_le, n_fa, n_ca⟩ := id hN
  obtain ⟨gx1, gx2⟩ := gx
  obtain ⟨gy1, gy2⟩ := gy
  refine lv_aload_n hx hb d_M_wind_0 rfl (lv_at hl 0 rfl) ?_
  refine lv_iload_n hx hb d_M_wind_1 rfl (lv_at hl 1 rfl) ?_
  refine pr_i2l hx hb (i3_of (by omega) (by omega)) d_M_wind_2 ?_
  refine lv_ldc2 (v := lI (-4)) hx hb hown (ht (.constantLong _ 83 (lI (-4))) m_691) d_M_wind_3 ?_
  refine lv_ldc2 (v := lI (-1)) hx hb hown (ht (.constantLong _ 91 (lI (-1))) m_692) d_M_wind_6 ?_
  refine pr_pi (va_runS (As := [.long (lI (x)), .long (lI (-4)), .long (lI (-1))]) (rest := [.ref (b 0)]) ⟨hx, hb, hml, hown, hts⟩ (c_M_in l (x) (-4) (-1) (i6_of (by omega) (by omega)) (i6_of (by decide) (by decide)) (i6_of (by decide) (by decide))) (cwS 3 hts (pn_gS m_683 m_684 m_38 m_685) rfl rfl rfl (by decide +kernel) ⟨Nat.le_of_ble_eq_true rfl, Nat.le_of_ble_eq_true rfl⟩) pn_pre0 rfl rfl hl.1 rfl (lv_room (Nat.le_of_ble_eq_true rfl)) d_M_wind_9 ⟨Nat.le_of_ble_eq_true rfl, Nat.le_of_ble_eq_true rfl⟩) ?_
  refine pr_if_eq (tgt := 33) hx hb (i3_b2 _) d_M_wind_12 (by decide) (fun c_1 => ?_) (fun c_1 => ?_)
  · replace c_1 := b2_0 c_1
    refine lv_iconst (v := iI (1)) hx hb d_M_wind_33 rfl ?_
    refine va_put (D := D) (ci := 5) (v := .int (iI (1))) (ty := .int) (C := R_M) (T := T_M) (N := 27) hx hb hts (in_M _) ty_M ty_M_ok nm_M hown hK hP hD hS 0 rfl rfl 0 (by decide) (ht _ m_590) (fun _ h9 => h9) rfl (by decide +kernel) rfl rfl (Nat.le_of_ble_eq_true rfl) d_M_wind_34 (fun H locs hP hD hS => ?_)
    have hP : va_P D pn_cl (mw b cI cL cZ mi ml mz (nw ms 0 (1))) H := hP
    have hD : va_D A (mw b cI cL cZ mi ml mz (nw ms 0 (1))) := hD
    refine lv_aload_n hx hb d_M_wind_37 rfl (lv_at hl 0 rfl) ?_
    refine va_get (D := D) (ci := 5) (v := .int (iI ((1)))) (C := R_M) (T := T_M) (N := 27) hx hb hts (in_M _) hown hK hP 0 rfl rfl 0 (by decide) (ht _ m_590) (fun _ h9 => h9) rfl d_M_wind_38 ?_
    refine pr_ire (B := 1) rfl ?_
    refine pr_if_le (tgt := 46) hx hb (i3_of (by decide) (by decide)) d_M_wind_41 (by decide) (fun c_2 => ?_) (fun c_2 => ?_)
    · skip
      exact absurd c_2 (by decide)
    · skip
      refine lv_iconst (v := iI (0)) hx hb d_M_wind_44 rfl ?_
      exact W.iret (v := iI (0)) hx hb hr (fun t ht hW => ⟨⟨iI (0), (mi, ml, mz, nw ms 0 (1)), rfl, Or.inl (⟨by omega, rfl, rfl⟩), by rw [ht]; exact hP, hD⟩, hS.F ht⟩) hS.2.2 d_M_wind_45
  · replace c_1 := b2_n1 c_1
    refine lv_iload_n hx hb d_M_wind_15 rfl (lv_at hl 2 rfl) ?_
    refine pr_i2l hx hb (i3_of (by omega) (by omega)) d_M_wind_16 ?_
    refine lv_ldc2 (v := lI (-1000)) hx hb hown (ht (.constantLong _ 85 (lI (-1000))) m_681) d_M_wind_17 ?_
    refine lv_ldc2 (v := lI (1000)) hx hb hown (ht (.constantLong _ 87 (lI (1000))) m_682) d_M_wind_20 ?_
    refine pr_pi (va_runS (As := [.long (lI (y)), .long (lI (-1000)), .long (lI (1000))]) (rest := [.ref (b 0)]) ⟨hx, hb, hml, hown, hts⟩ (c_M_in l (y) (-1000) (1000) (i6_of (by omega) (by omega)) (i6_of (by decide) (by decide)) (i6_of (by decide) (by decide))) (cwS 3 hts (pn_gS m_683 m_684 m_38 m_685) rfl rfl rfl (by decide +kernel) ⟨Nat.le_of_ble_eq_true rfl, Nat.le_of_ble_eq_true rfl⟩) pn_pre0 rfl rfl hl.1 rfl (lv_room (Nat.le_of_ble_eq_true rfl)) d_M_wind_23 ⟨Nat.le_of_ble_eq_true rfl, Nat.le_of_ble_eq_true rfl⟩) ?_
    refine pr_if_eq (tgt := 33) hx hb (i3_b2 _) d_M_wind_26 (by decide) (fun c_3 => ?_) (fun c_3 => ?_)
    · replace c_3 := b2_0 c_3
      refine lv_iconst (v := iI (1)) hx hb d_M_wind_33 rfl ?_
      refine va_put (D := D) (ci := 5) (v := .int (iI (1))) (ty := .int) (C := R_M) (T := T_M) (N := 27) hx hb hts (in_M _) ty_M ty_M_ok nm_M hown hK hP hD hS 0 rfl rfl 0 (by decide) (ht _ m_590) (fun _ h9 => h9) rfl (by decide +kernel) rfl rfl (Nat.le_of_ble_eq_true rfl) d_M_wind_34 (fun H locs hP hD hS => ?_)
      have hP : va_P D pn_cl (mw b cI cL cZ mi ml mz (nw ms 0 (1))) H := hP
      have hD : va_D A (mw b cI cL cZ mi ml mz (nw ms 0 (1))) := hD
      refine lv_aload_n hx hb d_M_wind_37 rfl (lv_at hl 0 rfl) ?_
      refine va_get (D := D) (ci := 5) (v := .int (iI ((1)))) (C := R_M) (T := T_M) (N := 27) hx hb hts (in_M _) hown hK hP 0 rfl rfl 0 (by decide) (ht _ m_590) (fun _ h9 => h9) rfl d_M_wind_38 ?_
      refine pr_ire (B := 1) rfl ?_
      refine pr_if_le (tgt := 46) hx hb (i3_of (by decide) (by decide)) d_M_wind_41 (by decide) (fun c_4 => ?_) (fun c_4 => ?_)
      · skip
        exact absurd c_4 (by decide)
      · skip
        refine lv_iconst (v := iI (0)) hx hb d_M_wind_44 rfl ?_
        exact W.iret (v := iI (0)) hx hb hr (fun t ht hW => ⟨⟨iI (0), (mi, ml, mz, nw ms 0 (1)), rfl, Or.inl (⟨by omega, rfl, rfl⟩), by rw [ht]; exact hP, hD⟩, hS.F ht⟩) hS.2.2 d_M_wind_45
    · replace c_3 := b2_n1 c_3
      refine lv_iconst (v := iI (0)) hx hb d_M_wind_29 rfl ?_
      refine lv_goto (tgt := 34) hx hb d_M_wind_30 (by decide) ?_
      refine va_put (D := D) (ci := 5) (v := .int (iI (0))) (ty := .int) (C := R_M) (T := T_M) (N := 27) hx hb hts (in_M _) ty_M ty_M_ok nm_M hown hK hP hD hS 0 rfl rfl 0 (by decide) (ht _ m_590) (fun _ h9 => h9) rfl (by decide +kernel) rfl rfl (Nat.le_of_ble_eq_true rfl) d_M_wind_34 (fun H locs hP hD hS => ?_)
      have hP : va_P D pn_cl (mw b cI cL cZ mi ml mz (nw ms 0 (0))) H := hP
      have hD : va_D A (mw b cI cL cZ mi ml mz (nw ms 0 (0))) := hD
      refine lv_aload_n hx hb d_M_wind_37 rfl (lv_at hl 0 rfl) ?_
      refine va_get (D := D) (ci := 5) (v := .int (iI ((0)))) (C := R_M) (T := T_M) (N := 27) hx hb hts (in_M _) hown hK hP 0 rfl rfl 0 (by decide) (ht _ m_590) (fun _ h9 => h9) rfl d_M_wind_38 ?_
      refine pr_ire (B := 0) rfl ?_
      refine pr_if_le (tgt := 46) hx hb (i3_of (by decide) (by decide)) d_M_wind_41 (by decide) (fun c_5 => ?_) (fun c_5 => ?_)
      · skip
        refine lv_aload_n hx hb d_M_wind_46 rfl (lv_at hl 0 rfl) ?_
        refine va_get (D := D) (ci := 5) (v := .ref (b 1)) (C := R_M) (T := T_M) (N := 27) hx hb hts (in_M _) hown hK hP 0 rfl rfl 1 (by decide) (ht _ m_591) (fun _ h9 => h9) rfl d_M_wind_47 ?_
        refine lv_iload_n hx hb d_M_wind_50 rfl (lv_at hl 1 rfl) ?_
        refine lv_iconst (v := iI (4)) hx hb d_M_wind_51 rfl ?_
        refine pr_iadd hx hb d_M_wind_52 ?_
        refine pr_iald hx hb hK hP 1 0 rfl rfl (by decide) (by omega) (by omega) d_M_wind_53 ?_
        refine lv_istore_n (lv' := [(3, .int (iI (mi 0 (x + 4)))), (0, .ref (b 0)), (1, .int (iI (x))), (2, .int (iI (y)))]) hx hb d_M_wind_54 rfl hl (by decide) rfl (fun ls hl => ?_)
        refine lv_aload_n hx hb d_M_wind_55 rfl (lv_at hl 1 rfl) ?_
        refine va_get (D := D) (ci := 5) (v := .ref (b 1)) (C := R_M) (T := T_M) (N := 27) hx hb hts (in_M _) hown hK hP 0 rfl rfl 1 (by decide) (ht _ m_591) (fun _ h9 => h9) rfl d_M_wind_56 ?_
        refine lv_iload_n hx hb d_M_wind_59 rfl (lv_at hl 2 rfl) ?_
        refine lv_iconst (v := iI (4)) hx hb d_M_wind_60 rfl ?_
        refine pr_iadd hx hb d_M_wind_61 ?_
        refine lv_iload_n hx hb d_M_wind_62 rfl (lv_at hl 3 rfl) ?_
        refine pr_iast (ws' := mw b cI cL cZ (nw mi 0 (pu (mi 0) (x + 4) (y))) ml mz (nw ms 0 (0))) hx hb hK hP hD hS 1 0 rfl rfl (by decide) (by omega) (by omega) rfl d_M_wind_63 (fun H locs hP hD hS => ?_)
        refine lv_iload_n hx hb d_M_wind_64 rfl (lv_at hl 0 rfl) ?_
        exact W.iret (v := iI (mi 0 (x + 4))) hx hb hr (fun t ht hW => ⟨⟨iI (mi 0 (x + 4)), (nw mi 0 (pu (mi 0) (x + 4) (y)), ml, mz, nw ms 0 (0)), rfl, Or.inr (⟨by omega, rfl, rfl⟩), by rw [ht]; exact hP, hD⟩, hS.F ht⟩) hS.2.2 d_M_wind_65
      · skip
        exact absurd c_5 (by decide)
abbrev w_M_warmth : List Cond := .code y_M_warmth b_M_warmth 4 (some .int) :: pn_W
set_option maxHeartbeats 4000000 in
set_option maxRecDepth 100000 in
theorem c_M_warmth (l : Launch) {D : va_G} {b : Nat → Nat} {cI cL cZ : ClassId} {mi ml : Nat → Int → Int} {mz : Int → Int} {ms : Nat → Int} (sz : Nat) (nf : Nat → Int → Int) (ns : Nat → Int) (da : Int → Int → Int) (x y : Int) (hOk : pn_Ok nf ns da) (hR : mn_R nf ns mi ms) (hN : mn_Ok ms) (gx : i3 x) (gy : i3 y) : Met l y_M_warmth w_M_warmth ({ frames := 2, cells := 0, slots := 0, locals := 46 }) (va_Pc [.ref (b 0), .int (iI (x)), .int (iI (y))] (fun U => U.heap.size = sz ∧ va_P D pn_cl (mw b cI cL cZ mi ml mz ms) U.heap ∧ va_D (fun _ => True) (mw b cI cL cZ mi ml mz ms) ∧ mn_E D cI cL cZ U)) (va_Qi (fun (r : Int32) (u : (Nat → Int → Int) × (Nat → Int → Int) × (Int → Int) × (Nat → Int)) => (¬ ((-4 ≤ x ∧ x ≤ ms 2 - 1) ∧ (-1000 ≤ y ∧ y ≤ 1000)) ∧ r = iI 0 ∧ u = (mi, ml, mz, nw ms 0 (1))) ∨ (((-4 ≤ x ∧ x ≤ ms 2 - 1) ∧ (-1000 ≤ y ∧ y ≤ 1000)) ∧ (0 ≤ x) ∧ r = iI (nf 1 ((x) + 4)) ∧ u = (nw mi 1 (pu (mi 1) (x) (y)), ml, mz, nw ms 0 (0))) ∨ (((-4 ≤ x ∧ x ≤ ms 2 - 1) ∧ (-1000 ≤ y ∧ y ≤ 1000)) ∧ (x < 0) ∧ r = iI (nf 1 ((x) + 4)) ∧ u = (mi, ml, mz, nw (nw ms 0 (0)) 1 (y)))) (fun u t => va_P D pn_cl ((fun u : (Nat → Int → Int) × (Nat → Int → Int) × (Int → Int) × (Nat → Int) => mw b cI cL cZ u.1 u.2.1 u.2.2.1 u.2.2.2) u) t.heap ∧ va_D (va_A (mw b cI cL cZ mi ml mz ms) sz) ((fun u : (Nat → Int → Int) × (Nat → Int → Int) × (Int → Int) × (Nat → Int) => mw b cI cL cZ u.1 u.2.1 u.2.2.1 u.2.2.2) u)) (va_A (mw b cI cL cZ mi ml mz ms) sz)) 0 0 (va_A (mw b cI cL cZ mi ml mz ms) sz) := by
  refine Met.ofW (cc := b_M_warmth) (maxL := 4) (ret := (some .int)) (by decide) rfl ?_
  intro p e s m args below meth c s₁ B hml hv
  obtain ⟨rfl, hsz, hP, hD0, hE⟩ := hv
  have hx := B.exec
  have hb := B.bytes
  have hr := B.returns
  have hts := atoms_spec (ws := w_M_warmth) B.pre
  have ht : ∀ w ∈ pn_W, w.before _ s = true := fun w h => hts w (List.mem_cons_of_mem _ h)
  have hown : s.vm.findClass R_M = some m.cls := findClass_of_methodNamed B.named
  have hlocks := B.notSynchronized
  have hK := hE
  subst hsz
  have hD := hD0.self (sz := s.heap.size)
  generalize hAe : va_A (mw b cI cL cZ mi ml mz ms) s.heap.size = A at hD ⊢
  have hA : ∀ q : Nat, s.heap.size ≤ q → A q := fun q h => by rw [← hAe]; exact Or.inr h
  have hS : va_S A s.heap s.heap [] := va_S.rf
  have hl := lv_entry ([.ref (b 0), .int (iI (x)), .int (iI (y))]) (n := 4) (Nat.le_of_ble_eq_true rfl)
  rw [lg_entry_eq]
  generalize (lg_sl ([.ref (b 0), .int (iI (x)), .int (iI (y))]) ++ List.replicate (4 - (lg_sl ([.ref (b 0), .int (iI (x)), .int (iI (y))])).length) Slot.unset).toArray = ls at hl ⊢
  have hl : lv_has ls 4 [(0, .ref (b 0)), (1, .int (iI (x))), (2, .int (iI (y)))] := hl
  obtain ⟨o_zc, o_lc, o_fc, o_ve, o_wi, o_wa, o_vo, o_fr, o_to, o_he, o_ar, o_ki, o_st, o_ff, o_sl, o_dc, o_da⟩ := id hOk
  obtain ⟨r_zo, r_le, r_fa, r_wi, r_ai, r_wa, r_vo, r_lk, r_fn⟩ := id hR
  obtain ⟨n_zo, n_le, n_fa, n_ca⟩ := id hN
  obtain ⟨gx1, gx2⟩ := gx
  obtain ⟨gy1, gy2⟩ := gy
  refine lv_aload_n hx hb d_M_warmth_0 rfl (lv_at hl 0 rfl) ?_
  refine lv_aload_n hx hb d_M_warmth_1 rfl (lv_at hl 0 rfl) ?_
  refine lv_iload_n hx hb d_M_warmth_2 rfl (lv_at hl 1 rfl) ?_
  refine pr_pi (va_runV (As := [.int (iI (x))]) (rest := [.ref (b 0)]) ⟨hx, hb, hml, hown, hts⟩ (c_M_isPlace l (x) hN (i3_of (by omega) (by omega))) (cwV 1 hts (pn_gV m_697 m_699 m_16 m_38 m_700) rfl rfl rfl (by decide +kernel) ⟨Nat.le_of_ble_eq_true rfl, Nat.le_of_ble_eq_true rfl⟩) (mn_preV (q0 := 0) (ci := 5) (q := (R_M, T_M, 27)) hP hE rfl rfl) rfl rfl hl.1 rfl (lv_room (Nat.le_of_ble_eq_true rfl)) d_M_warmth_3 ⟨Nat.le_of_ble_eq_true rfl, Nat.le_of_ble_eq_true rfl⟩) ?_
  refine pr_if_eq (tgt := 27) hx hb (i3_b2 _) d_M_warmth_6 (by decide) (fun c_1 => ?_) (fun c_1 => ?_)
  · replace c_1 := b2_0 c_1
    refine lv_iconst (v := iI (1)) hx hb d_M_warmth_27 rfl ?_
    refine va_put (D := D) (ci := 5) (v := .int (iI (1))) (ty := .int) (C := R_M) (T := T_M) (N := 27) hx hb hts (in_M _) ty_M ty_M_ok nm_M hown hK hP hD hS 0 rfl rfl 0 (by decide) (ht _ m_590) (fun _ h9 => h9) rfl (by decide +kernel) rfl rfl (Nat.le_of_ble_eq_true rfl) d_M_warmth_28 (fun H locs hP hD hS => ?_)
    have hP : va_P D pn_cl (mw b cI cL cZ mi ml mz (nw ms 0 (1))) H := hP
    have hD : va_D A (mw b cI cL cZ mi ml mz (nw ms 0 (1))) := hD
    refine lv_aload_n hx hb d_M_warmth_31 rfl (lv_at hl 0 rfl) ?_
    refine va_get (D := D) (ci := 5) (v := .int (iI ((1)))) (C := R_M) (T := T_M) (N := 27) hx hb hts (in_M _) hown hK hP 0 rfl rfl 0 (by decide) (ht _ m_590) (fun _ h9 => h9) rfl d_M_warmth_32 ?_
    refine pr_ire (B := 1) rfl ?_
    refine pr_if_le (tgt := 40) hx hb (i3_of (by decide) (by decide)) d_M_warmth_35 (by decide) (fun c_2 => ?_) (fun c_2 => ?_)
    · skip
      exact absurd c_2 (by decide)
    · skip
      refine lv_iconst (v := iI (0)) hx hb d_M_warmth_38 rfl ?_
      exact W.iret (v := iI (0)) hx hb hr (fun t ht hW => ⟨⟨iI (0), (mi, ml, mz, nw ms 0 (1)), rfl, Or.inl (⟨by omega, rfl, rfl⟩), by rw [ht]; exact hP, hD⟩, hS.F ht⟩) hS.2.2 d_M_warmth_39
  · replace c_1 := b2_n1 c_1
    refine lv_iload_n hx hb d_M_warmth_9 rfl (lv_at hl 2 rfl) ?_
    refine pr_i2l hx hb (i3_of (by omega) (by omega)) d_M_warmth_10 ?_
    refine lv_ldc2 (v := lI (-1000)) hx hb hown (ht (.constantLong _ 85 (lI (-1000))) m_681) d_M_warmth_11 ?_
    refine lv_ldc2 (v := lI (1000)) hx hb hown (ht (.constantLong _ 87 (lI (1000))) m_682) d_M_warmth_14 ?_
    refine pr_pi (va_runS (As := [.long (lI (y)), .long (lI (-1000)), .long (lI (1000))]) (rest := [.ref (b 0)]) ⟨hx, hb, hml, hown, hts⟩ (c_M_in l (y) (-1000) (1000) (i6_of (by omega) (by omega)) (i6_of (by decide) (by decide)) (i6_of (by decide) (by decide))) (cwS 3 hts (pn_gS m_683 m_684 m_38 m_685) rfl rfl rfl (by decide +kernel) ⟨Nat.le_of_ble_eq_true rfl, Nat.le_of_ble_eq_true rfl⟩) pn_pre0 rfl rfl hl.1 rfl (lv_room (Nat.le_of_ble_eq_true rfl)) d_M_warmth_17 ⟨Nat.le_of_ble_eq_true rfl, Nat.le_of_ble_eq_true rfl⟩) ?_
    refine pr_if_eq (tgt := 27) hx hb (i3_b2 _) d_M_warmth_20 (by decide) (fun c_3 => ?_) (fun c_3 => ?_)
    · replace c_3 := b2_0 c_3
      refine lv_iconst (v := iI (1)) hx hb d_M_warmth_27 rfl ?_
      refine va_put (D := D) (ci := 5) (v := .int (iI (1))) (ty := .int) (C := R_M) (T := T_M) (N := 27) hx hb hts (in_M _) ty_M ty_M_ok nm_M hown hK hP hD hS 0 rfl rfl 0 (by decide) (ht _ m_590) (fun _ h9 => h9) rfl (by decide +kernel) rfl rfl (Nat.le_of_ble_eq_true rfl) d_M_warmth_28 (fun H locs hP hD hS => ?_)
      have hP : va_P D pn_cl (mw b cI cL cZ mi ml mz (nw ms 0 (1))) H := hP
      have hD : va_D A (mw b cI cL cZ mi ml mz (nw ms 0 (1))) := hD
      refine lv_aload_n hx hb d_M_warmth_31 rfl (lv_at hl 0 rfl) ?_
      refine va_get (D := D) (ci := 5) (v := .int (iI ((1)))) (C := R_M) (T := T_M) (N := 27) hx hb hts (in_M _) hown hK hP 0 rfl rfl 0 (by decide) (ht _ m_590) (fun _ h9 => h9) rfl d_M_warmth_32 ?_
      refine pr_ire (B := 1) rfl ?_
      refine pr_if_le (tgt := 40) hx hb (i3_of (by decide) (by decide)) d_M_warmth_35 (by decide) (fun c_4 => ?_) (fun c_4 => ?_)
      · skip
        exact absurd c_4 (by decide)
      · skip
        refine lv_iconst (v := iI (0)) hx hb d_M_warmth_38 rfl ?_
        exact W.iret (v := iI (0)) hx hb hr (fun t ht hW => ⟨⟨iI (0), (mi, ml, mz, nw ms 0 (1)), rfl, Or.inl (⟨by omega, rfl, rfl⟩), by rw [ht]; exact hP, hD⟩, hS.F ht⟩) hS.2.2 d_M_warmth_39
    · replace c_3 := b2_n1 c_3
      refine lv_iconst (v := iI (0)) hx hb d_M_warmth_23 rfl ?_
      refine lv_goto (tgt := 28) hx hb d_M_warmth_24 (by decide) ?_
      refine va_put (D := D) (ci := 5) (v := .int (iI (0))) (ty := .int) (C := R_M) (T := T_M) (N := 27) hx hb hts (in_M _) ty_M ty_M_ok nm_M hown hK hP hD hS 0 rfl rfl 0 (by decide) (ht _ m_590) (fun _ h9 => h9) rfl (by decide +kernel) rfl rfl (Nat.le_of_ble_eq_true rfl) d_M_warmth_28 (fun H locs hP hD hS => ?_)
      have hP : va_P D pn_cl (mw b cI cL cZ mi ml mz (nw ms 0 (0))) H := hP
      have hD : va_D A (mw b cI cL cZ mi ml mz (nw ms 0 (0))) := hD
      refine lv_aload_n hx hb d_M_warmth_31 rfl (lv_at hl 0 rfl) ?_
      refine va_get (D := D) (ci := 5) (v := .int (iI ((0)))) (C := R_M) (T := T_M) (N := 27) hx hb hts (in_M _) hown hK hP 0 rfl rfl 0 (by decide) (ht _ m_590) (fun _ h9 => h9) rfl d_M_warmth_32 ?_
      refine pr_ire (B := 0) rfl ?_
      refine pr_if_le (tgt := 40) hx hb (i3_of (by decide) (by decide)) d_M_warmth_35 (by decide) (fun c_5 => ?_) (fun c_5 => ?_)
      · skip
        refine lv_aload_n hx hb d_M_warmth_40 rfl (lv_at hl 0 rfl) ?_
        refine lv_iload_n hx hb d_M_warmth_41 rfl (lv_at hl 1 rfl) ?_
        refine pr_pi (va_runV (As := [.int (iI (x))]) (rest := []) ⟨hx, hb, hml, hown, hts⟩ (c_M_warmthOf l nf ns da (mi := mi) (ms := nw ms 0 (0)) (x) hOk hR ⟨by omega, by omega⟩) (cwV 1 hts (pn_gV m_701 m_703 m_17 m_38 m_704) rfl rfl rfl (by decide +kernel) ⟨Nat.le_of_ble_eq_true rfl, Nat.le_of_ble_eq_true rfl⟩) (mn_preV (q0 := 0) (ci := 5) (q := (R_M, T_M, 27)) hP hE rfl rfl) rfl rfl hl.1 rfl (lv_room (Nat.le_of_ble_eq_true rfl)) d_M_warmth_42 ⟨Nat.le_of_ble_eq_true rfl, Nat.le_of_ble_eq_true rfl⟩) ?_
        refine lv_istore_n (lv' := [(3, .int (iI (nf 1 ((x) + 4)))), (0, .ref (b 0)), (1, .int (iI (x))), (2, .int (iI (y)))]) hx hb d_M_warmth_45 rfl hl (by decide) rfl (fun ls hl => ?_)
        refine lv_iload_n hx hb d_M_warmth_46 rfl (lv_at hl 2 rfl) ?_
        refine pr_if_ge (tgt := 58) hx hb (i3_of (by omega) (by omega)) d_M_warmth_47 (by decide) (fun c_6 => ?_) (fun c_6 => ?_)
        · skip
          refine lv_aload_n hx hb d_M_warmth_58 rfl (lv_at hl 1 rfl) ?_
          refine va_get (D := D) (ci := 5) (v := .ref (b 2)) (C := R_M) (T := T_M) (N := 27) hx hb hts (in_M _) hown hK hP 0 rfl rfl 4 (by decide) (ht _ m_594) (fun _ h9 => h9) rfl d_M_warmth_59 ?_
          refine lv_iload_n hx hb d_M_warmth_62 rfl (lv_at hl 2 rfl) ?_
          refine lv_iload_n hx hb d_M_warmth_63 rfl (lv_at hl 3 rfl) ?_
          refine pr_iast (ws' := mw b cI cL cZ (nw mi 1 (pu (mi 1) (x) (y))) ml mz (nw ms 0 (0))) hx hb hK hP hD hS 2 0 rfl rfl (by decide) (by omega) (by omega) rfl d_M_warmth_64 (fun H locs hP hD hS => ?_)
          refine lv_iload_n hx hb d_M_warmth_65 rfl (lv_at hl 0 rfl) ?_
          exact W.iret (v := iI (nf 1 ((x) + 4))) hx hb hr (fun t ht hW => ⟨⟨iI (nf 1 ((x) + 4)), (nw mi 1 (pu (mi 1) (x) (y)), ml, mz, nw ms 0 (0)), rfl, Or.inr (Or.inl (⟨by omega, by omega, rfl, rfl⟩)), by rw [ht]; exact hP, hD⟩, hS.F ht⟩) hS.2.2 d_M_warmth_66
        · skip
          refine lv_aload_n hx hb d_M_warmth_50 rfl (lv_at hl 1 rfl) ?_
          refine lv_iload_n hx hb d_M_warmth_51 rfl (lv_at hl 3 rfl) ?_
          refine va_put (D := D) (ci := 5) (v := .int (iI (y))) (ty := .int) (C := R_M) (T := T_M) (N := 27) hx hb hts (in_M _) ty_M ty_M_ok nm_M hown hK hP hD hS 0 rfl rfl 2 (by decide) (ht _ m_592) (fun _ h9 => h9) rfl (by decide +kernel) rfl rfl (Nat.le_of_ble_eq_true rfl) d_M_warmth_52 (fun H locs hP hD hS => ?_)
          have hP : va_P D pn_cl (mw b cI cL cZ mi ml mz (nw (nw ms 0 (0)) 1 (y))) H := hP
          have hD : va_D A (mw b cI cL cZ mi ml mz (nw (nw ms 0 (0)) 1 (y))) := hD
          refine lv_goto (tgt := 65) hx hb d_M_warmth_55 (by decide) ?_
          refine lv_iload_n hx hb d_M_warmth_65 rfl (lv_at hl 0 rfl) ?_
          exact W.iret (v := iI (nf 1 ((x) + 4))) hx hb hr (fun t ht hW => ⟨⟨iI (nf 1 ((x) + 4)), (mi, ml, mz, nw (nw ms 0 (0)) 1 (y)), rfl, Or.inr (Or.inr (⟨by omega, by omega, rfl, rfl⟩)), by rw [ht]; exact hP, hD⟩, hS.F ht⟩) hS.2.2 d_M_warmth_66
      · skip
        exact absurd c_5 (by decide)
abbrev w_M_leak : List Cond := .code y_M_leak b_M_leak 6 (some .int) :: pn_W
set_option maxHeartbeats 4000000 in
set_option maxRecDepth 100000 in
theorem c_M_leak (l : Launch) {D : va_G} {b : Nat → Nat} {cI cL cZ : ClassId} {mi ml : Nat → Int → Int} {mz : Int → Int} {ms : Nat → Int} (sz : Nat) (nf : Nat → Int → Int) (ns : Nat → Int) (da : Int → Int → Int) (x y z xa xb : Int) (hOk : pn_Ok nf ns da) (hR : mn_R nf ns mi ms) (hN : mn_Ok ms) (gx : i3 x) (gy : i3 y) (gz : i3 z) (gxa : i3 xa) (gxb : i3 xb) : Met l y_M_leak w_M_leak ({ frames := 3, cells := 0, slots := 0, locals := 68 }) (va_Pc [.ref (b 0), .int (iI (x)), .int (iI (y)), .int (iI (z)), .int (iI (xa)), .int (iI (xb))] (fun U => U.heap.size = sz ∧ va_P D pn_cl (mw b cI cL cZ mi ml mz ms) U.heap ∧ va_D (fun _ => True) (mw b cI cL cZ mi ml mz ms) ∧ mn_E D cI cL cZ U)) (va_Qi (fun (r : Int32) (u : (Nat → Int → Int) × (Nat → Int → Int) × (Int → Int) × (Nat → Int)) => (¬ (((-4 ≤ x ∧ x ≤ ms 2 - 1) ∧ (-4 ≤ y ∧ y ≤ ms 2 - 1) ∧ x ≠ y ∧ (0 ≤ x ∨ 0 ≤ y)) ∧ (0 ≤ z ∧ z ≤ 100) ∧ (1 ≤ xa ∧ xa ≤ 1000) ∧ (0 ≤ xb ∧ xb ≤ 1)) ∧ r = iI 0 ∧ u = (mi, ml, mz, nw ms 0 (1))) ∨ ((((-4 ≤ x ∧ x ≤ ms 2 - 1) ∧ (-4 ≤ y ∧ y ≤ ms 2 - 1) ∧ x ≠ y ∧ (0 ≤ x ∨ 0 ≤ y)) ∧ (0 ≤ z ∧ z ≤ 100) ∧ (1 ≤ xa ∧ xa ≤ 1000) ∧ (0 ≤ xb ∧ xb ≤ 1)) ∧ (20 ≤ ms 3) ∧ r = iI 0 ∧ u = (mi, ml, mz, nw ms 0 (2))) ∨ ((((-4 ≤ x ∧ x ≤ ms 2 - 1) ∧ (-4 ≤ y ∧ y ≤ ms 2 - 1) ∧ x ≠ y ∧ (0 ≤ x ∨ 0 ≤ y)) ∧ (0 ≤ z ∧ z ≤ 100) ∧ (1 ≤ xa ∧ xa ≤ 1000) ∧ (0 ≤ xb ∧ xb ≤ 1)) ∧ ¬ (20 ≤ ms 3) ∧ r = iI ((((ms 3) + (1))) - (1)) ∧ u = (nw (nw (nw (nw (nw mi 4 (pu (mi 4) (ms 3) (x))) 5 (pu (mi 5) (ms 3) (y))) 6 (pu (mi 6) (ms 3) (z))) 7 (pu (mi 7) (ms 3) (xa))) 8 (pu (mi 8) (ms 3) (xb)), ml, mz, nw (nw ms 0 (0)) 3 ((ms 3) + (1))))) (fun u t => va_P D pn_cl ((fun u : (Nat → Int → Int) × (Nat → Int → Int) × (Int → Int) × (Nat → Int) => mw b cI cL cZ u.1 u.2.1 u.2.2.1 u.2.2.2) u) t.heap ∧ va_D (va_A (mw b cI cL cZ mi ml mz ms) sz) ((fun u : (Nat → Int → Int) × (Nat → Int → Int) × (Int → Int) × (Nat → Int) => mw b cI cL cZ u.1 u.2.1 u.2.2.1 u.2.2.2) u)) (va_A (mw b cI cL cZ mi ml mz ms) sz)) 0 0 (va_A (mw b cI cL cZ mi ml mz ms) sz) := by
  refine Met.ofW (cc := b_M_leak) (maxL := 6) (ret := (some .int)) (by decide) rfl ?_
  intro p e s m args below meth c s₁ B hml hv
  obtain ⟨rfl, hsz, hP, hD0, hE⟩ := hv
  have hx := B.exec
  have hb := B.bytes
  have hr := B.returns
  have hts := atoms_spec (ws := w_M_leak) B.pre
  have ht : ∀ w ∈ pn_W, w.before _ s = true := fun w h => hts w (List.mem_cons_of_mem _ h)
  have hown : s.vm.findClass R_M = some m.cls := findClass_of_methodNamed B.named
  have hlocks := B.notSynchronized
  have hK := hE
  subst hsz
  have hD := hD0.self (sz := s.heap.size)
  generalize hAe : va_A (mw b cI cL cZ mi ml mz ms) s.heap.size = A at hD ⊢
  have hA : ∀ q : Nat, s.heap.size ≤ q → A q := fun q h => by rw [← hAe]; exact Or.inr h
  have hS : va_S A s.heap s.heap [] := va_S.rf
  have hl := lv_entry ([.ref (b 0), .int (iI (x)), .int (iI (y)), .int (iI (z)), .int (iI (xa)), .int (iI (xb))]) (n := 6) (Nat.le_of_ble_eq_true rfl)
  rw [lg_entry_eq]
  generalize (lg_sl ([.ref (b 0), .int (iI (x)), .int (iI (y)), .int (iI (z)), .int (iI (xa)), .int (iI (xb))]) ++ List.replicate (6 - (lg_sl ([.ref (b 0), .int (iI (x)), .int (iI (y)), .int (iI (z)), .int (iI (xa)), .int (iI (xb))])).length) Slot.unset).toArray = ls at hl ⊢
  have hl : lv_has ls 6 [(0, .ref (b 0)), (1, .int (iI (x))), (2, .int (iI (y))), (3, .int (iI (z))), (4, .int (iI (xa))), (5, .int (iI (xb)))] := hl
  obtain ⟨o_zc, o_lc, o_fc, o_ve, o_wi, o_wa, o_vo, o_fr, o_to, o_he, o_ar, o_ki, o_st, o_ff, o_sl, o_dc, o_da⟩ := id hOk
  obtain ⟨r_zo, r_le, r_fa, r_wi, r_ai, r_wa, r_vo, r_lk, r_fn⟩ := id hR
  obtain ⟨n_zo, n_le, n_fa, n_ca⟩ := id hN
  obtain ⟨gx1, gx2⟩ := gx
  obtain ⟨gy1, gy2⟩ := gy
  obtain ⟨gz1, gz2⟩ := gz
  obtain ⟨gxa1, gxa2⟩ := gxa
  obtain ⟨gxb1, gxb2⟩ := gxb
  refine lv_aload_n hx hb d_M_leak_0 rfl (lv_at hl 0 rfl) ?_
  refine lv_aload_n hx hb d_M_leak_1 rfl (lv_at hl 0 rfl) ?_
  refine lv_iload_n hx hb d_M_leak_2 rfl (lv_at hl 1 rfl) ?_
  refine lv_iload_n hx hb d_M_leak_3 rfl (lv_at hl 2 rfl) ?_
  refine pr_pi (va_runV (As := [.int (iI (x)), .int (iI (y))]) (rest := [.ref (b 0)]) ⟨hx, hb, hml, hown, hts⟩ (c_M_isPair l (x) (y) hN (i3_of (by omega) (by omega)) (i3_of (by omega) (by omega))) (cwV 2 hts (pn_gV m_709 m_711 m_18 m_38 m_712) rfl rfl rfl (by decide +kernel) ⟨Nat.le_of_ble_eq_true rfl, Nat.le_of_ble_eq_true rfl⟩) (mn_preV (q0 := 0) (ci := 5) (q := (R_M, T_M, 27)) hP hE rfl rfl) rfl rfl hl.1 rfl (lv_room (Nat.le_of_ble_eq_true rfl)) d_M_leak_4 ⟨Nat.le_of_ble_eq_true rfl, Nat.le_of_ble_eq_true rfl⟩) ?_
  refine pr_if_eq (tgt := 46) hx hb (i3_b2 _) d_M_leak_7 (by decide) (fun c_1 => ?_) (fun c_1 => ?_)
  · replace c_1 := b2_0 c_1
    refine lv_iconst (v := iI (1)) hx hb d_M_leak_46 rfl ?_
    refine lv_goto (tgt := 64) hx hb d_M_leak_47 (by decide) ?_
    refine va_put (D := D) (ci := 5) (v := .int (iI (1))) (ty := .int) (C := R_M) (T := T_M) (N := 27) hx hb hts (in_M _) ty_M ty_M_ok nm_M hown hK hP hD hS 0 rfl rfl 0 (by decide) (ht _ m_590) (fun _ h9 => h9) rfl (by decide +kernel) rfl rfl (Nat.le_of_ble_eq_true rfl) d_M_leak_64 (fun H locs hP hD hS => ?_)
    have hP : va_P D pn_cl (mw b cI cL cZ mi ml mz (nw ms 0 (1))) H := hP
    have hD : va_D A (mw b cI cL cZ mi ml mz (nw ms 0 (1))) := hD
    refine lv_aload_n hx hb d_M_leak_67 rfl (lv_at hl 0 rfl) ?_
    refine va_get (D := D) (ci := 5) (v := .int (iI ((1)))) (C := R_M) (T := T_M) (N := 27) hx hb hts (in_M _) hown hK hP 0 rfl rfl 0 (by decide) (ht _ m_590) (fun _ h9 => h9) rfl d_M_leak_68 ?_
    refine pr_ire (B := 1) rfl ?_
    refine pr_if_le (tgt := 76) hx hb (i3_of (by decide) (by decide)) d_M_leak_71 (by decide) (fun c_2 => ?_) (fun c_2 => ?_)
    · skip
      exact absurd c_2 (by decide)
    · skip
      refine lv_iconst (v := iI (0)) hx hb d_M_leak_74 rfl ?_
      exact W.iret (v := iI (0)) hx hb hr (fun t ht hW => ⟨⟨iI (0), (mi, ml, mz, nw ms 0 (1)), rfl, Or.inl (⟨by omega, rfl, rfl⟩), by rw [ht]; exact hP, hD⟩, hS.F ht⟩) hS.2.2 d_M_leak_75
  · replace c_1 := b2_n1 c_1
    refine lv_iload_n hx hb d_M_leak_10 rfl (lv_at hl 3 rfl) ?_
    refine pr_i2l hx hb (i3_of (by omega) (by omega)) d_M_leak_11 ?_
    refine lv_lconst (v := lI 0) hx hb d_M_leak_12 (by decide) ?_
    refine lv_ldc2 (v := lI (100)) hx hb hown (ht (.constantLong _ 108 (lI (100))) m_713) d_M_leak_13 ?_
    refine pr_pi (va_runS (As := [.long (lI (z)), .long (lI (0)), .long (lI (100))]) (rest := [.ref (b 0)]) ⟨hx, hb, hml, hown, hts⟩ (c_M_in l (z) (0) (100) (i6_of (by omega) (by omega)) (i6_of (by decide) (by decide)) (i6_of (by decide) (by decide))) (cwS 3 hts (pn_gS m_683 m_684 m_38 m_685) rfl rfl rfl (by decide +kernel) ⟨Nat.le_of_ble_eq_true rfl, Nat.le_of_ble_eq_true rfl⟩) pn_pre0 rfl rfl hl.1 rfl (lv_room (Nat.le_of_ble_eq_true rfl)) d_M_leak_16 ⟨Nat.le_of_ble_eq_true rfl, Nat.le_of_ble_eq_true rfl⟩) ?_
    refine pr_if_eq (tgt := 46) hx hb (i3_b2 _) d_M_leak_19 (by decide) (fun c_3 => ?_) (fun c_3 => ?_)
    · replace c_3 := b2_0 c_3
      refine lv_iconst (v := iI (1)) hx hb d_M_leak_46 rfl ?_
      refine lv_goto (tgt := 64) hx hb d_M_leak_47 (by decide) ?_
      refine va_put (D := D) (ci := 5) (v := .int (iI (1))) (ty := .int) (C := R_M) (T := T_M) (N := 27) hx hb hts (in_M _) ty_M ty_M_ok nm_M hown hK hP hD hS 0 rfl rfl 0 (by decide) (ht _ m_590) (fun _ h9 => h9) rfl (by decide +kernel) rfl rfl (Nat.le_of_ble_eq_true rfl) d_M_leak_64 (fun H locs hP hD hS => ?_)
      have hP : va_P D pn_cl (mw b cI cL cZ mi ml mz (nw ms 0 (1))) H := hP
      have hD : va_D A (mw b cI cL cZ mi ml mz (nw ms 0 (1))) := hD
      refine lv_aload_n hx hb d_M_leak_67 rfl (lv_at hl 0 rfl) ?_
      refine va_get (D := D) (ci := 5) (v := .int (iI ((1)))) (C := R_M) (T := T_M) (N := 27) hx hb hts (in_M _) hown hK hP 0 rfl rfl 0 (by decide) (ht _ m_590) (fun _ h9 => h9) rfl d_M_leak_68 ?_
      refine pr_ire (B := 1) rfl ?_
      refine pr_if_le (tgt := 76) hx hb (i3_of (by decide) (by decide)) d_M_leak_71 (by decide) (fun c_4 => ?_) (fun c_4 => ?_)
      · skip
        exact absurd c_4 (by decide)
      · skip
        refine lv_iconst (v := iI (0)) hx hb d_M_leak_74 rfl ?_
        exact W.iret (v := iI (0)) hx hb hr (fun t ht hW => ⟨⟨iI (0), (mi, ml, mz, nw ms 0 (1)), rfl, Or.inl (⟨by omega, rfl, rfl⟩), by rw [ht]; exact hP, hD⟩, hS.F ht⟩) hS.2.2 d_M_leak_75
    · replace c_3 := b2_n1 c_3
      refine lv_iload hx hb d_M_leak_22 (lv_at hl 4 rfl) ?_
      refine pr_i2l hx hb (i3_of (by omega) (by omega)) d_M_leak_24 ?_
      refine lv_lconst (v := lI 1) hx hb d_M_leak_25 (by decide) ?_
      refine lv_ldc2 (v := lI (1000)) hx hb hown (ht (.constantLong _ 87 (lI (1000))) m_682) d_M_leak_26 ?_
      refine pr_pi (va_runS (As := [.long (lI (xa)), .long (lI (1)), .long (lI (1000))]) (rest := [.ref (b 0)]) ⟨hx, hb, hml, hown, hts⟩ (c_M_in l (xa) (1) (1000) (i6_of (by omega) (by omega)) (i6_of (by decide) (by decide)) (i6_of (by decide) (by decide))) (cwS 3 hts (pn_gS m_683 m_684 m_38 m_685) rfl rfl rfl (by decide +kernel) ⟨Nat.le_of_ble_eq_true rfl, Nat.le_of_ble_eq_true rfl⟩) pn_pre0 rfl rfl hl.1 rfl (lv_room (Nat.le_of_ble_eq_true rfl)) d_M_leak_29 ⟨Nat.le_of_ble_eq_true rfl, Nat.le_of_ble_eq_true rfl⟩) ?_
      refine pr_if_eq (tgt := 46) hx hb (i3_b2 _) d_M_leak_32 (by decide) (fun c_5 => ?_) (fun c_5 => ?_)
      · replace c_5 := b2_0 c_5
        refine lv_iconst (v := iI (1)) hx hb d_M_leak_46 rfl ?_
        refine lv_goto (tgt := 64) hx hb d_M_leak_47 (by decide) ?_
        refine va_put (D := D) (ci := 5) (v := .int (iI (1))) (ty := .int) (C := R_M) (T := T_M) (N := 27) hx hb hts (in_M _) ty_M ty_M_ok nm_M hown hK hP hD hS 0 rfl rfl 0 (by decide) (ht _ m_590) (fun _ h9 => h9) rfl (by decide +kernel) rfl rfl (Nat.le_of_ble_eq_true rfl) d_M_leak_64 (fun H locs hP hD hS => ?_)
        have hP : va_P D pn_cl (mw b cI cL cZ mi ml mz (nw ms 0 (1))) H := hP
        have hD : va_D A (mw b cI cL cZ mi ml mz (nw ms 0 (1))) := hD
        refine lv_aload_n hx hb d_M_leak_67 rfl (lv_at hl 0 rfl) ?_
        refine va_get (D := D) (ci := 5) (v := .int (iI ((1)))) (C := R_M) (T := T_M) (N := 27) hx hb hts (in_M _) hown hK hP 0 rfl rfl 0 (by decide) (ht _ m_590) (fun _ h9 => h9) rfl d_M_leak_68 ?_
        refine pr_ire (B := 1) rfl ?_
        refine pr_if_le (tgt := 76) hx hb (i3_of (by decide) (by decide)) d_M_leak_71 (by decide) (fun c_6 => ?_) (fun c_6 => ?_)
        · skip
          exact absurd c_6 (by decide)
        · skip
          refine lv_iconst (v := iI (0)) hx hb d_M_leak_74 rfl ?_
          exact W.iret (v := iI (0)) hx hb hr (fun t ht hW => ⟨⟨iI (0), (mi, ml, mz, nw ms 0 (1)), rfl, Or.inl (⟨by omega, rfl, rfl⟩), by rw [ht]; exact hP, hD⟩, hS.F ht⟩) hS.2.2 d_M_leak_75
      · replace c_5 := b2_n1 c_5
        refine lv_iload hx hb d_M_leak_35 (lv_at hl 5 rfl) ?_
        refine pr_i2l hx hb (i3_of (by omega) (by omega)) d_M_leak_37 ?_
        refine lv_lconst (v := lI 0) hx hb d_M_leak_38 (by decide) ?_
        refine lv_lconst (v := lI 1) hx hb d_M_leak_39 (by decide) ?_
        refine pr_pi (va_runS (As := [.long (lI (xb)), .long (lI (0)), .long (lI (1))]) (rest := [.ref (b 0)]) ⟨hx, hb, hml, hown, hts⟩ (c_M_in l (xb) (0) (1) (i6_of (by omega) (by omega)) (i6_of (by decide) (by decide)) (i6_of (by decide) (by decide))) (cwS 3 hts (pn_gS m_683 m_684 m_38 m_685) rfl rfl rfl (by decide +kernel) ⟨Nat.le_of_ble_eq_true rfl, Nat.le_of_ble_eq_true rfl⟩) pn_pre0 rfl rfl hl.1 rfl (lv_room (Nat.le_of_ble_eq_true rfl)) d_M_leak_40 ⟨Nat.le_of_ble_eq_true rfl, Nat.le_of_ble_eq_true rfl⟩) ?_
        refine pr_if_ne (tgt := 50) hx hb (i3_b2 _) d_M_leak_43 (by decide) (fun c_7 => ?_) (fun c_7 => ?_)
        · replace c_7 := b2_n1 c_7
          refine lv_aload_n hx hb d_M_leak_50 rfl (lv_at hl 0 rfl) ?_
          refine va_get (D := D) (ci := 5) (v := .int (iI (ms 3))) (C := R_M) (T := T_M) (N := 27) hx hb hts (in_M _) hown hK hP 0 rfl rfl 8 (by decide) (ht _ m_598) (fun _ h9 => h9) rfl d_M_leak_51 ?_
          refine lv_bipush (v := iI (20)) hx hb d_M_leak_54 (by decide) ?_
          refine pr_icmp_ne (tgt := 63) hx hb (i3_of (by omega) (by omega)) (i3_of (by decide) (by decide)) d_M_leak_56 (by decide) (fun c_8 => ?_) (fun c_8 => ?_)
          · skip
            refine lv_iconst (v := iI (0)) hx hb d_M_leak_63 rfl ?_
            refine va_put (D := D) (ci := 5) (v := .int (iI (0))) (ty := .int) (C := R_M) (T := T_M) (N := 27) hx hb hts (in_M _) ty_M ty_M_ok nm_M hown hK hP hD hS 0 rfl rfl 0 (by decide) (ht _ m_590) (fun _ h9 => h9) rfl (by decide +kernel) rfl rfl (Nat.le_of_ble_eq_true rfl) d_M_leak_64 (fun H locs hP hD hS => ?_)
            have hP : va_P D pn_cl (mw b cI cL cZ mi ml mz (nw ms 0 (0))) H := hP
            have hD : va_D A (mw b cI cL cZ mi ml mz (nw ms 0 (0))) := hD
            refine lv_aload_n hx hb d_M_leak_67 rfl (lv_at hl 0 rfl) ?_
            refine va_get (D := D) (ci := 5) (v := .int (iI ((0)))) (C := R_M) (T := T_M) (N := 27) hx hb hts (in_M _) hown hK hP 0 rfl rfl 0 (by decide) (ht _ m_590) (fun _ h9 => h9) rfl d_M_leak_68 ?_
            refine pr_ire (B := 0) rfl ?_
            refine pr_if_le (tgt := 76) hx hb (i3_of (by decide) (by decide)) d_M_leak_71 (by decide) (fun c_9 => ?_) (fun c_9 => ?_)
            · skip
              refine lv_aload_n hx hb d_M_leak_76 rfl (lv_at hl 0 rfl) ?_
              refine va_get (D := D) (ci := 5) (v := .ref (b 6)) (C := R_M) (T := T_M) (N := 27) hx hb hts (in_M _) hown hK hP 0 rfl rfl 9 (by decide) (ht _ m_599) (fun _ h9 => h9) rfl d_M_leak_77 ?_
              refine lv_aload_n hx hb d_M_leak_80 rfl (lv_at hl 0 rfl) ?_
              refine va_get (D := D) (ci := 5) (v := .int (iI (ms 3))) (C := R_M) (T := T_M) (N := 27) hx hb hts (in_M _) hown hK hP 0 rfl rfl 8 (by decide) (ht _ m_598) (fun _ h9 => h9) rfl d_M_leak_81 ?_
              refine lv_iload_n hx hb d_M_leak_84 rfl (lv_at hl 1 rfl) ?_
              refine pr_iast (ws' := mw b cI cL cZ (nw mi 4 (pu (mi 4) (ms 3) (x))) ml mz (nw ms 0 (0))) hx hb hK hP hD hS 6 0 rfl rfl (by decide) (by omega) (by omega) rfl d_M_leak_85 (fun H locs hP hD hS => ?_)
              refine lv_aload_n hx hb d_M_leak_86 rfl (lv_at hl 0 rfl) ?_
              refine va_get (D := D) (ci := 5) (v := .ref (b 7)) (C := R_M) (T := T_M) (N := 27) hx hb hts (in_M _) hown hK hP 0 rfl rfl 10 (by decide) (ht _ m_600) (fun _ h9 => h9) rfl d_M_leak_87 ?_
              refine lv_aload_n hx hb d_M_leak_90 rfl (lv_at hl 0 rfl) ?_
              refine va_get (D := D) (ci := 5) (v := .int (iI (ms 3))) (C := R_M) (T := T_M) (N := 27) hx hb hts (in_M _) hown hK hP 0 rfl rfl 8 (by decide) (ht _ m_598) (fun _ h9 => h9) rfl d_M_leak_91 ?_
              refine lv_iload_n hx hb d_M_leak_94 rfl (lv_at hl 2 rfl) ?_
              refine pr_iast (ws' := mw b cI cL cZ (nw (nw mi 4 (pu (mi 4) (ms 3) (x))) 5 (pu (mi 5) (ms 3) (y))) ml mz (nw ms 0 (0))) hx hb hK hP hD hS 7 0 rfl rfl (by decide) (by omega) (by omega) rfl d_M_leak_95 (fun H locs hP hD hS => ?_)
              refine lv_aload_n hx hb d_M_leak_96 rfl (lv_at hl 0 rfl) ?_
              refine va_get (D := D) (ci := 5) (v := .ref (b 8)) (C := R_M) (T := T_M) (N := 27) hx hb hts (in_M _) hown hK hP 0 rfl rfl 11 (by decide) (ht _ m_601) (fun _ h9 => h9) rfl d_M_leak_97 ?_
              refine lv_aload_n hx hb d_M_leak_100 rfl (lv_at hl 0 rfl) ?_
              refine va_get (D := D) (ci := 5) (v := .int (iI (ms 3))) (C := R_M) (T := T_M) (N := 27) hx hb hts (in_M _) hown hK hP 0 rfl rfl 8 (by decide) (ht _ m_598) (fun _ h9 => h9) rfl d_M_leak_101 ?_
              refine lv_iload_n hx hb d_M_leak_104 rfl (lv_at hl 3 rfl) ?_
              refine pr_iast (ws' := mw b cI cL cZ (nw (nw (nw mi 4 (pu (mi 4) (ms 3) (x))) 5 (pu (mi 5) (ms 3) (y))) 6 (pu (mi 6) (ms 3) (z))) ml mz (nw ms 0 (0))) hx hb hK hP hD hS 8 0 rfl rfl (by decide) (by omega) (by omega) rfl d_M_leak_105 (fun H locs hP hD hS => ?_)
              refine lv_aload_n hx hb d_M_leak_106 rfl (lv_at hl 0 rfl) ?_
              refine va_get (D := D) (ci := 5) (v := .ref (b 9)) (C := R_M) (T := T_M) (N := 27) hx hb hts (in_M _) hown hK hP 0 rfl rfl 12 (by decide) (ht _ m_602) (fun _ h9 => h9) rfl d_M_leak_107 ?_
              refine lv_aload_n hx hb d_M_leak_110 rfl (lv_at hl 0 rfl) ?_
              refine va_get (D := D) (ci := 5) (v := .int (iI (ms 3))) (C := R_M) (T := T_M) (N := 27) hx hb hts (in_M _) hown hK hP 0 rfl rfl 8 (by decide) (ht _ m_598) (fun _ h9 => h9) rfl d_M_leak_111 ?_
              refine lv_iload hx hb d_M_leak_114 (lv_at hl 4 rfl) ?_
              refine pr_iast (ws' := mw b cI cL cZ (nw (nw (nw (nw mi 4 (pu (mi 4) (ms 3) (x))) 5 (pu (mi 5) (ms 3) (y))) 6 (pu (mi 6) (ms 3) (z))) 7 (pu (mi 7) (ms 3) (xa))) ml mz (nw ms 0 (0))) hx hb hK hP hD hS 9 0 rfl rfl (by decide) (by omega) (by omega) rfl d_M_leak_116 (fun H locs hP hD hS => ?_)
              refine lv_aload_n hx hb d_M_leak_117 rfl (lv_at hl 0 rfl) ?_
              refine va_get (D := D) (ci := 5) (v := .ref (b 10)) (C := R_M) (T := T_M) (N := 27) hx hb hts (in_M _) hown hK hP 0 rfl rfl 13 (by decide) (ht _ m_603) (fun _ h9 => h9) rfl d_M_leak_118 ?_
              refine lv_aload_n hx hb d_M_leak_121 rfl (lv_at hl 0 rfl) ?_
              refine va_get (D := D) (ci := 5) (v := .int (iI (ms 3))) (C := R_M) (T := T_M) (N := 27) hx hb hts (in_M _) hown hK hP 0 rfl rfl 8 (by decide) (ht _ m_598) (fun _ h9 => h9) rfl d_M_leak_122 ?_
              refine lv_iload hx hb d_M_leak_125 (lv_at hl 5 rfl) ?_
              refine pr_iast (ws' := mw b cI cL cZ (nw (nw (nw (nw (nw mi 4 (pu (mi 4) (ms 3) (x))) 5 (pu (mi 5) (ms 3) (y))) 6 (pu (mi 6) (ms 3) (z))) 7 (pu (mi 7) (ms 3) (xa))) 8 (pu (mi 8) (ms 3) (xb))) ml mz (nw ms 0 (0))) hx hb hK hP hD hS 10 0 rfl rfl (by decide) (by omega) (by omega) rfl d_M_leak_127 (fun H locs hP hD hS => ?_)
              refine lv_aload_n hx hb d_M_leak_128 rfl (lv_at hl 0 rfl) ?_
              refine lv_dup hx hb d_M_leak_129 rfl ?_
              refine va_get (D := D) (ci := 5) (v := .int (iI (ms 3))) (C := R_M) (T := T_M) (N := 27) hx hb hts (in_M _) hown hK hP 0 rfl rfl 8 (by decide) (ht _ m_598) (fun _ h9 => h9) rfl d_M_leak_130 ?_
              refine lv_iconst (v := iI (1)) hx hb d_M_leak_133 rfl ?_
              refine pr_iadd hx hb d_M_leak_134 ?_
              refine va_put (D := D) (ci := 5) (v := .int (iI ((ms 3) + (1)))) (ty := .int) (C := R_M) (T := T_M) (N := 27) hx hb hts (in_M _) ty_M ty_M_ok nm_M hown hK hP hD hS 0 rfl rfl 8 (by decide) (ht _ m_598) (fun _ h9 => h9) rfl (by decide +kernel) rfl rfl (Nat.le_of_ble_eq_true rfl) d_M_leak_135 (fun H locs hP hD hS => ?_)
              have hP : va_P D pn_cl (mw b cI cL cZ (nw (nw (nw (nw (nw mi 4 (pu (mi 4) (ms 3) (x))) 5 (pu (mi 5) (ms 3) (y))) 6 (pu (mi 6) (ms 3) (z))) 7 (pu (mi 7) (ms 3) (xa))) 8 (pu (mi 8) (ms 3) (xb))) ml mz (nw (nw ms 0 (0)) 3 ((ms 3) + (1)))) H := hP
              have hD : va_D A (mw b cI cL cZ (nw (nw (nw (nw (nw mi 4 (pu (mi 4) (ms 3) (x))) 5 (pu (mi 5) (ms 3) (y))) 6 (pu (mi 6) (ms 3) (z))) 7 (pu (mi 7) (ms 3) (xa))) 8 (pu (mi 8) (ms 3) (xb))) ml mz (nw (nw ms 0 (0)) 3 ((ms 3) + (1)))) := hD
              refine lv_aload_n hx hb d_M_leak_138 rfl (lv_at hl 0 rfl) ?_
              refine va_get (D := D) (ci := 5) (v := .int (iI (((ms 3) + (1))))) (C := R_M) (T := T_M) (N := 27) hx hb hts (in_M _) hown hK hP 0 rfl rfl 8 (by decide) (ht _ m_598) (fun _ h9 => h9) rfl d_M_leak_139 ?_
              refine lv_iconst (v := iI (1)) hx hb d_M_leak_142 rfl ?_
              refine pr_isub hx hb d_M_leak_143 ?_
              exact W.iret (v := iI ((((ms 3) + (1))) - (1))) hx hb hr (fun t ht hW => ⟨⟨iI ((((ms 3) + (1))) - (1)), (nw (nw (nw (nw (nw mi 4 (pu (mi 4) (ms 3) (x))) 5 (pu (mi 5) (ms 3) (y))) 6 (pu (mi 6) (ms 3) (z))) 7 (pu (mi 7) (ms 3) (xa))) 8 (pu (mi 8) (ms 3) (xb)), ml, mz, nw (nw ms 0 (0)) 3 ((ms 3) + (1))), rfl, Or.inr (Or.inr (⟨by omega, by omega, rfl, rfl⟩)), by rw [ht]; exact hP, hD⟩, hS.F ht⟩) hS.2.2 d_M_leak_144
            · skip
              exact absurd c_9 (by decide)
          · skip
            refine lv_iconst (v := iI (2)) hx hb d_M_leak_59 rfl ?_
            refine lv_goto (tgt := 64) hx hb d_M_leak_60 (by decide) ?_
            refine va_put (D := D) (ci := 5) (v := .int (iI (2))) (ty := .int) (C := R_M) (T := T_M) (N := 27) hx hb hts (in_M _) ty_M ty_M_ok nm_M hown hK hP hD hS 0 rfl rfl 0 (by decide) (ht _ m_590) (fun _ h9 => h9) rfl (by decide +kernel) rfl rfl (Nat.le_of_ble_eq_true rfl) d_M_leak_64 (fun H locs hP hD hS => ?_)
            have hP : va_P D pn_cl (mw b cI cL cZ mi ml mz (nw ms 0 (2))) H := hP
            have hD : va_D A (mw b cI cL cZ mi ml mz (nw ms 0 (2))) := hD
            refine lv_aload_n hx hb d_M_leak_67 rfl (lv_at hl 0 rfl) ?_
            refine va_get (D := D) (ci := 5) (v := .int (iI ((2)))) (C := R_M) (T := T_M) (N := 27) hx hb hts (in_M _) hown hK hP 0 rfl rfl 0 (by decide) (ht _ m_590) (fun _ h9 => h9) rfl d_M_leak_68 ?_
            refine pr_ire (B := 2) rfl ?_
            refine pr_if_le (tgt := 76) hx hb (i3_of (by decide) (by decide)) d_M_leak_71 (by decide) (fun c_10 => ?_) (fun c_10 => ?_)
            · skip
              exact absurd c_10 (by decide)
            · skip
              refine lv_iconst (v := iI (0)) hx hb d_M_leak_74 rfl ?_
              exact W.iret (v := iI (0)) hx hb hr (fun t ht hW => ⟨⟨iI (0), (mi, ml, mz, nw ms 0 (2)), rfl, Or.inr (Or.inl (⟨by omega, by omega, rfl, rfl⟩)), by rw [ht]; exact hP, hD⟩, hS.F ht⟩) hS.2.2 d_M_leak_75
        · replace c_7 := b2_0 c_7
          refine lv_iconst (v := iI (1)) hx hb d_M_leak_46 rfl ?_
          refine lv_goto (tgt := 64) hx hb d_M_leak_47 (by decide) ?_
          refine va_put (D := D) (ci := 5) (v := .int (iI (1))) (ty := .int) (C := R_M) (T := T_M) (N := 27) hx hb hts (in_M _) ty_M ty_M_ok nm_M hown hK hP hD hS 0 rfl rfl 0 (by decide) (ht _ m_590) (fun _ h9 => h9) rfl (by decide +kernel) rfl rfl (Nat.le_of_ble_eq_true rfl) d_M_leak_64 (fun H locs hP hD hS => ?_)
          have hP : va_P D pn_cl (mw b cI cL cZ mi ml mz (nw ms 0 (1))) H := hP
          have hD : va_D A (mw b cI cL cZ mi ml mz (nw ms 0 (1))) := hD
          refine lv_aload_n hx hb d_M_leak_67 rfl (lv_at hl 0 rfl) ?_
          refine va_get (D := D) (ci := 5) (v := .int (iI ((1)))) (C := R_M) (T := T_M) (N := 27) hx hb hts (in_M _) hown hK hP 0 rfl rfl 0 (by decide) (ht _ m_590) (fun _ h9 => h9) rfl d_M_leak_68 ?_
          refine pr_ire (B := 1) rfl ?_
          refine pr_if_le (tgt := 76) hx hb (i3_of (by decide) (by decide)) d_M_leak_71 (by decide) (fun c_11 => ?_) (fun c_11 => ?_)
          · skip
            exact absurd c_11 (by decide)
          · skip
            refine lv_iconst (v := iI (0)) hx hb d_M_leak_74 rfl ?_
            exact W.iret (v := iI (0)) hx hb hr (fun t ht hW => ⟨⟨iI (0), (mi, ml, mz, nw ms 0 (1)), rfl, Or.inl (⟨by omega, rfl, rfl⟩), by rw [ht]; exact hP, hD⟩, hS.F ht⟩) hS.2.2 d_M_leak_75
abbrev w_M_fan : List Cond := .code y_M_fan b_M_fan 5 (some .int) :: pn_W
set_option maxHeartbeats 4000000 in
set_option maxRecDepth 100000 in
theorem c_M_fan (l : Launch) {D : va_G} {b : Nat → Nat} {cI cL cZ : ClassId} {mi ml : Nat → Int → Int} {mz : Int → Int} {ms : Nat → Int} (sz : Nat) (nf : Nat → Int → Int) (ns : Nat → Int) (da : Int → Int → Int) (x y z xa : Int) (hOk : pn_Ok nf ns da) (hR : mn_R nf ns mi ms) (hN : mn_Ok ms) (gx : i3 x) (gy : i3 y) (gz : i3 z) (gxa : i3 xa) : Met l y_M_fan w_M_fan ({ frames := 3, cells := 0, slots := 0, locals := 68 }) (va_Pc [.ref (b 0), .int (iI (x)), .int (iI (y)), .int (iI (z)), .int (iI (xa))] (fun U => U.heap.size = sz ∧ va_P D pn_cl (mw b cI cL cZ mi ml mz ms) U.heap ∧ va_D (fun _ => True) (mw b cI cL cZ mi ml mz ms) ∧ mn_E D cI cL cZ U)) (va_Qi (fun (r : Int32) (u : (Nat → Int → Int) × (Nat → Int → Int) × (Int → Int) × (Nat → Int)) => (¬ (((-4 ≤ x ∧ x ≤ ms 2 - 1) ∧ (-4 ≤ y ∧ y ≤ ms 2 - 1) ∧ x ≠ y ∧ (0 ≤ x ∨ 0 ≤ y)) ∧ (0 ≤ z ∧ z ≤ 10000) ∧ (0 ≤ xa ∧ xa ≤ 100)) ∧ r = iI 0 ∧ u = (mi, ml, mz, nw ms 0 (1))) ∨ ((((-4 ≤ x ∧ x ≤ ms 2 - 1) ∧ (-4 ≤ y ∧ y ≤ ms 2 - 1) ∧ x ≠ y ∧ (0 ≤ x ∨ 0 ≤ y)) ∧ (0 ≤ z ∧ z ≤ 10000) ∧ (0 ≤ xa ∧ xa ≤ 100)) ∧ (4 ≤ ms 4) ∧ r = iI 0 ∧ u = (mi, ml, mz, nw ms 0 (2))) ∨ ((((-4 ≤ x ∧ x ≤ ms 2 - 1) ∧ (-4 ≤ y ∧ y ≤ ms 2 - 1) ∧ x ≠ y ∧ (0 ≤ x ∨ 0 ≤ y)) ∧ (0 ≤ z ∧ z ≤ 10000) ∧ (0 ≤ xa ∧ xa ≤ 100)) ∧ ¬ (4 ≤ ms 4) ∧ r = iI ((((ms 4) + (1))) - (1)) ∧ u = (nw (nw (nw (nw mi 9 (pu (mi 9) (ms 4) (x))) 10 (pu (mi 10) (ms 4) (y))) 11 (pu (mi 11) (ms 4) (z))) 12 (pu (mi 12) (ms 4) (xa)), ml, mz, nw (nw ms 0 (0)) 4 ((ms 4) + (1))))) (fun u t => va_P D pn_cl ((fun u : (Nat → Int → Int) × (Nat → Int → Int) × (Int → Int) × (Nat → Int) => mw b cI cL cZ u.1 u.2.1 u.2.2.1 u.2.2.2) u) t.heap ∧ va_D (va_A (mw b cI cL cZ mi ml mz ms) sz) ((fun u : (Nat → Int → Int) × (Nat → Int → Int) × (Int → Int) × (Nat → Int) => mw b cI cL cZ u.1 u.2.1 u.2.2.1 u.2.2.2) u)) (va_A (mw b cI cL cZ mi ml mz ms) sz)) 0 0 (va_A (mw b cI cL cZ mi ml mz ms) sz) := by
  refine Met.ofW (cc := b_M_fan) (maxL := 5) (ret := (some .int)) (by decide) rfl ?_
  intro p e s m args below meth c s₁ B hml hv
  obtain ⟨rfl, hsz, hP, hD0, hE⟩ := hv
  have hx := B.exec
  have hb := B.bytes
  have hr := B.returns
  have hts := atoms_spec (ws := w_M_fan) B.pre
  have ht : ∀ w ∈ pn_W, w.before _ s = true := fun w h => hts w (List.mem_cons_of_mem _ h)
  have hown : s.vm.findClass R_M = some m.cls := findClass_of_methodNamed B.named
  have hlocks := B.notSynchronized
  have hK := hE
  subst hsz
  have hD := hD0.self (sz := s.heap.size)
  generalize hAe : va_A (mw b cI cL cZ mi ml mz ms) s.heap.size = A at hD ⊢
  have hA : ∀ q : Nat, s.heap.size ≤ q → A q := fun q h => by rw [← hAe]; exact Or.inr h
  have hS : va_S A s.heap s.heap [] := va_S.rf
  have hl := lv_entry ([.ref (b 0), .int (iI (x)), .int (iI (y)), .int (iI (z)), .int (iI (xa))]) (n := 5) (Nat.le_of_ble_eq_true rfl)
  rw [lg_entry_eq]
  generalize (lg_sl ([.ref (b 0), .int (iI (x)), .int (iI (y)), .int (iI (z)), .int (iI (xa))]) ++ List.replicate (5 - (lg_sl ([.ref (b 0), .int (iI (x)), .int (iI (y)), .int (iI (z)), .int (iI (xa))])).length) Slot.unset).toArray = ls at hl ⊢
  have hl : lv_has ls 5 [(0, .ref (b 0)), (1, .int (iI (x))), (2, .int (iI (y))), (3, .int (iI (z))), (4, .int (iI (xa)))] := hl
  obtain ⟨o_zc, o_lc, o_fc, o_ve, o_wi, o_wa, o_vo, o_fr, o_to, o_he, o_ar, o_ki, o_st, o_ff, o_sl, o_dc, o_da⟩ := id hOk
  obtain ⟨r_zo, r_le, r_fa, r_wi, r_ai, r_wa, r_vo, r_lk, r_fn⟩ := id hR
  obtain ⟨n_zo, n_le, n_fa, n_ca⟩ := id hN
  obtain ⟨gx1, gx2⟩ := gx
  obtain ⟨gy1, gy2⟩ := gy
  obtain ⟨gz1, gz2⟩ := gz
  obtain ⟨gxa1, gxa2⟩ := gxa
  refine lv_aload_n hx hb d_M_fan_0 rfl (lv_at hl 0 rfl) ?_
  refine lv_aload_n hx hb d_M_fan_1 rfl (lv_at hl 0 rfl) ?_
  refine lv_iload_n hx hb d_M_fan_2 rfl (lv_at hl 1 rfl) ?_
  refine lv_iload_n hx hb d_M_fan_3 rfl (lv_at hl 2 rfl) ?_
  refine pr_pi (va_runV (As := [.int (iI (x)), .int (iI (y))]) (rest := [.ref (b 0)]) ⟨hx, hb, hml, hown, hts⟩ (c_M_isPair l (x) (y) hN (i3_of (by omega) (by omega)) (i3_of (by omega) (by omega))) (cwV 2 hts (pn_gV m_709 m_711 m_18 m_38 m_712) rfl rfl rfl (by decide +kernel) ⟨Nat.le_of_ble_eq_true rfl, Nat.le_of_ble_eq_true rfl⟩) (mn_preV (q0 := 0) (ci := 5) (q := (R_M, T_M, 27)) hP hE rfl rfl) rfl rfl hl.1 rfl (lv_room (Nat.le_of_ble_eq_true rfl)) d_M_fan_4 ⟨Nat.le_of_ble_eq_true rfl, Nat.le_of_ble_eq_true rfl⟩) ?_
  refine pr_if_eq (tgt := 35) hx hb (i3_b2 _) d_M_fan_7 (by decide) (fun c_1 => ?_) (fun c_1 => ?_)
  · replace c_1 := b2_0 c_1
    refine lv_iconst (v := iI (1)) hx hb d_M_fan_35 rfl ?_
    refine lv_goto (tgt := 52) hx hb d_M_fan_36 (by decide) ?_
    refine va_put (D := D) (ci := 5) (v := .int (iI (1))) (ty := .int) (C := R_M) (T := T_M) (N := 27) hx hb hts (in_M _) ty_M ty_M_ok nm_M hown hK hP hD hS 0 rfl rfl 0 (by decide) (ht _ m_590) (fun _ h9 => h9) rfl (by decide +kernel) rfl rfl (Nat.le_of_ble_eq_true rfl) d_M_fan_52 (fun H locs hP hD hS => ?_)
    have hP : va_P D pn_cl (mw b cI cL cZ mi ml mz (nw ms 0 (1))) H := hP
    have hD : va_D A (mw b cI cL cZ mi ml mz (nw ms 0 (1))) := hD
    refine lv_aload_n hx hb d_M_fan_55 rfl (lv_at hl 0 rfl) ?_
    refine va_get (D := D) (ci := 5) (v := .int (iI ((1)))) (C := R_M) (T := T_M) (N := 27) hx hb hts (in_M _) hown hK hP 0 rfl rfl 0 (by decide) (ht _ m_590) (fun _ h9 => h9) rfl d_M_fan_56 ?_
    refine pr_ire (B := 1) rfl ?_
    refine pr_if_le (tgt := 64) hx hb (i3_of (by decide) (by decide)) d_M_fan_59 (by decide) (fun c_2 => ?_) (fun c_2 => ?_)
    · skip
      exact absurd c_2 (by decide)
    · skip
      refine lv_iconst (v := iI (0)) hx hb d_M_fan_62 rfl ?_
      exact W.iret (v := iI (0)) hx hb hr (fun t ht hW => ⟨⟨iI (0), (mi, ml, mz, nw ms 0 (1)), rfl, Or.inl (⟨by omega, rfl, rfl⟩), by rw [ht]; exact hP, hD⟩, hS.F ht⟩) hS.2.2 d_M_fan_63
  · replace c_1 := b2_n1 c_1
    refine lv_iload_n hx hb d_M_fan_10 rfl (lv_at hl 3 rfl) ?_
    refine pr_i2l hx hb (i3_of (by omega) (by omega)) d_M_fan_11 ?_
    refine lv_lconst (v := lI 0) hx hb d_M_fan_12 (by decide) ?_
    refine lv_ldc2 (v := lI (10000)) hx hb hown (ht (.constantLong _ 113 (lI (10000))) m_722) d_M_fan_13 ?_
    refine pr_pi (va_runS (As := [.long (lI (z)), .long (lI (0)), .long (lI (10000))]) (rest := [.ref (b 0)]) ⟨hx, hb, hml, hown, hts⟩ (c_M_in l (z) (0) (10000) (i6_of (by omega) (by omega)) (i6_of (by decide) (by decide)) (i6_of (by decide) (by decide))) (cwS 3 hts (pn_gS m_683 m_684 m_38 m_685) rfl rfl rfl (by decide +kernel) ⟨Nat.le_of_ble_eq_true rfl, Nat.le_of_ble_eq_true rfl⟩) pn_pre0 rfl rfl hl.1 rfl (lv_room (Nat.le_of_ble_eq_true rfl)) d_M_fan_16 ⟨Nat.le_of_ble_eq_true rfl, Nat.le_of_ble_eq_true rfl⟩) ?_
    refine pr_if_eq (tgt := 35) hx hb (i3_b2 _) d_M_fan_19 (by decide) (fun c_3 => ?_) (fun c_3 => ?_)
    · replace c_3 := b2_0 c_3
      refine lv_iconst (v := iI (1)) hx hb d_M_fan_35 rfl ?_
      refine lv_goto (tgt := 52) hx hb d_M_fan_36 (by decide) ?_
      refine va_put (D := D) (ci := 5) (v := .int (iI (1))) (ty := .int) (C := R_M) (T := T_M) (N := 27) hx hb hts (in_M _) ty_M ty_M_ok nm_M hown hK hP hD hS 0 rfl rfl 0 (by decide) (ht _ m_590) (fun _ h9 => h9) rfl (by decide +kernel) rfl rfl (Nat.le_of_ble_eq_true rfl) d_M_fan_52 (fun H locs hP hD hS => ?_)
      have hP : va_P D pn_cl (mw b cI cL cZ mi ml mz (nw ms 0 (1))) H := hP
      have hD : va_D A (mw b cI cL cZ mi ml mz (nw ms 0 (1))) := hD
      refine lv_aload_n hx hb d_M_fan_55 rfl (lv_at hl 0 rfl) ?_
      refine va_get (D := D) (ci := 5) (v := .int (iI ((1)))) (C := R_M) (T := T_M) (N := 27) hx hb hts (in_M _) hown hK hP 0 rfl rfl 0 (by decide) (ht _ m_590) (fun _ h9 => h9) rfl d_M_fan_56 ?_
      refine pr_ire (B := 1) rfl ?_
      refine pr_if_le (tgt := 64) hx hb (i3_of (by decide) (by decide)) d_M_fan_59 (by decide) (fun c_4 => ?_) (fun c_4 => ?_)
      · skip
        exact absurd c_4 (by decide)
      · skip
        refine lv_iconst (v := iI (0)) hx hb d_M_fan_62 rfl ?_
        exact W.iret (v := iI (0)) hx hb hr (fun t ht hW => ⟨⟨iI (0), (mi, ml, mz, nw ms 0 (1)), rfl, Or.inl (⟨by omega, rfl, rfl⟩), by rw [ht]; exact hP, hD⟩, hS.F ht⟩) hS.2.2 d_M_fan_63
    · replace c_3 := b2_n1 c_3
      refine lv_iload hx hb d_M_fan_22 (lv_at hl 4 rfl) ?_
      refine pr_i2l hx hb (i3_of (by omega) (by omega)) d_M_fan_24 ?_
      refine lv_lconst (v := lI 0) hx hb d_M_fan_25 (by decide) ?_
      refine lv_ldc2 (v := lI (100)) hx hb hown (ht (.constantLong _ 108 (lI (100))) m_713) d_M_fan_26 ?_
      refine pr_pi (va_runS (As := [.long (lI (xa)), .long (lI (0)), .long (lI (100))]) (rest := [.ref (b 0)]) ⟨hx, hb, hml, hown, hts⟩ (c_M_in l (xa) (0) (100) (i6_of (by omega) (by omega)) (i6_of (by decide) (by decide)) (i6_of (by decide) (by decide))) (cwS 3 hts (pn_gS m_683 m_684 m_38 m_685) rfl rfl rfl (by decide +kernel) ⟨Nat.le_of_ble_eq_true rfl, Nat.le_of_ble_eq_true rfl⟩) pn_pre0 rfl rfl hl.1 rfl (lv_room (Nat.le_of_ble_eq_true rfl)) d_M_fan_29 ⟨Nat.le_of_ble_eq_true rfl, Nat.le_of_ble_eq_true rfl⟩) ?_
      refine pr_if_ne (tgt := 39) hx hb (i3_b2 _) d_M_fan_32 (by decide) (fun c_5 => ?_) (fun c_5 => ?_)
      · replace c_5 := b2_n1 c_5
        refine lv_aload_n hx hb d_M_fan_39 rfl (lv_at hl 0 rfl) ?_
        refine va_get (D := D) (ci := 5) (v := .int (iI (ms 4))) (C := R_M) (T := T_M) (N := 27) hx hb hts (in_M _) hown hK hP 0 rfl rfl 15 (by decide) (ht _ m_605) (fun _ h9 => h9) rfl d_M_fan_40 ?_
        refine lv_iconst (v := iI (4)) hx hb d_M_fan_43 rfl ?_
        refine pr_icmp_ne (tgt := 51) hx hb (i3_of (by omega) (by omega)) (i3_of (by decide) (by decide)) d_M_fan_44 (by decide) (fun c_6 => ?_) (fun c_6 => ?_)
        · skip
          refine lv_iconst (v := iI (0)) hx hb d_M_fan_51 rfl ?_
          refine va_put (D := D) (ci := 5) (v := .int (iI (0))) (ty := .int) (C := R_M) (T := T_M) (N := 27) hx hb hts (in_M _) ty_M ty_M_ok nm_M hown hK hP hD hS 0 rfl rfl 0 (by decide) (ht _ m_590) (fun _ h9 => h9) rfl (by decide +kernel) rfl rfl (Nat.le_of_ble_eq_true rfl) d_M_fan_52 (fun H locs hP hD hS => ?_)
          have hP : va_P D pn_cl (mw b cI cL cZ mi ml mz (nw ms 0 (0))) H := hP
          have hD : va_D A (mw b cI cL cZ mi ml mz (nw ms 0 (0))) := hD
          refine lv_aload_n hx hb d_M_fan_55 rfl (lv_at hl 0 rfl) ?_
          refine va_get (D := D) (ci := 5) (v := .int (iI ((0)))) (C := R_M) (T := T_M) (N := 27) hx hb hts (in_M _) hown hK hP 0 rfl rfl 0 (by decide) (ht _ m_590) (fun _ h9 => h9) rfl d_M_fan_56 ?_
          refine pr_ire (B := 0) rfl ?_
          refine pr_if_le (tgt := 64) hx hb (i3_of (by decide) (by decide)) d_M_fan_59 (by decide) (fun c_7 => ?_) (fun c_7 => ?_)
          · skip
            refine lv_aload_n hx hb d_M_fan_64 rfl (lv_at hl 0 rfl) ?_
            refine va_get (D := D) (ci := 5) (v := .ref (b 12)) (C := R_M) (T := T_M) (N := 27) hx hb hts (in_M _) hown hK hP 0 rfl rfl 16 (by decide) (ht _ m_606) (fun _ h9 => h9) rfl d_M_fan_65 ?_
            refine lv_aload_n hx hb d_M_fan_68 rfl (lv_at hl 0 rfl) ?_
            refine va_get (D := D) (ci := 5) (v := .int (iI (ms 4))) (C := R_M) (T := T_M) (N := 27) hx hb hts (in_M _) hown hK hP 0 rfl rfl 15 (by decide) (ht _ m_605) (fun _ h9 => h9) rfl d_M_fan_69 ?_
            refine lv_iload_n hx hb d_M_fan_72 rfl (lv_at hl 1 rfl) ?_
            refine pr_iast (ws' := mw b cI cL cZ (nw mi 9 (pu (mi 9) (ms 4) (x))) ml mz (nw ms 0 (0))) hx hb hK hP hD hS 12 0 rfl rfl (by decide) (by omega) (by omega) rfl d_M_fan_73 (fun H locs hP hD hS => ?_)
            refine lv_aload_n hx hb d_M_fan_74 rfl (lv_at hl 0 rfl) ?_
            refine va_get (D := D) (ci := 5) (v := .ref (b 13)) (C := R_M) (T := T_M) (N := 27) hx hb hts (in_M _) hown hK hP 0 rfl rfl 17 (by decide) (ht _ m_607) (fun _ h9 => h9) rfl d_M_fan_75 ?_
            refine lv_aload_n hx hb d_M_fan_78 rfl (lv_at hl 0 rfl) ?_
            refine va_get (D := D) (ci := 5) (v := .int (iI (ms 4))) (C := R_M) (T := T_M) (N := 27) hx hb hts (in_M _) hown hK hP 0 rfl rfl 15 (by decide) (ht _ m_605) (fun _ h9 => h9) rfl d_M_fan_79 ?_
            refine lv_iload_n hx hb d_M_fan_82 rfl (lv_at hl 2 rfl) ?_
            refine pr_iast (ws' := mw b cI cL cZ (nw (nw mi 9 (pu (mi 9) (ms 4) (x))) 10 (pu (mi 10) (ms 4) (y))) ml mz (nw ms 0 (0))) hx hb hK hP hD hS 13 0 rfl rfl (by decide) (by omega) (by omega) rfl d_M_fan_83 (fun H locs hP hD hS => ?_)
            refine lv_aload_n hx hb d_M_fan_84 rfl (lv_at hl 0 rfl) ?_
            refine va_get (D := D) (ci := 5) (v := .ref (b 14)) (C := R_M) (T := T_M) (N := 27) hx hb hts (in_M _) hown hK hP 0 rfl rfl 18 (by decide) (ht _ m_608) (fun _ h9 => h9) rfl d_M_fan_85 ?_
            refine lv_aload_n hx hb d_M_fan_88 rfl (lv_at hl 0 rfl) ?_
            refine va_get (D := D) (ci := 5) (v := .int (iI (ms 4))) (C := R_M) (T := T_M) (N := 27) hx hb hts (in_M _) hown hK hP 0 rfl rfl 15 (by decide) (ht _ m_605) (fun _ h9 => h9) rfl d_M_fan_89 ?_
            refine lv_iload_n hx hb d_M_fan_92 rfl (lv_at hl 3 rfl) ?_
            refine pr_iast (ws' := mw b cI cL cZ (nw (nw (nw mi 9 (pu (mi 9) (ms 4) (x))) 10 (pu (mi 10) (ms 4) (y))) 11 (pu (mi 11) (ms 4) (z))) ml mz (nw ms 0 (0))) hx hb hK hP hD hS 14 0 rfl rfl (by decide) (by omega) (by omega) rfl d_M_fan_93 (fun H locs hP hD hS => ?_)
            refine lv_aload_n hx hb d_M_fan_94 rfl (lv_at hl 0 rfl) ?_
            refine va_get (D := D) (ci := 5) (v := .ref (b 15)) (C := R_M) (T := T_M) (N := 27) hx hb hts (in_M _) hown hK hP 0 rfl rfl 19 (by decide) (ht _ m_609) (fun _ h9 => h9) rfl d_M_fan_95 ?_
            refine lv_aload_n hx hb d_M_fan_98 rfl (lv_at hl 0 rfl) ?_
            refine va_get (D := D) (ci := 5) (v := .int (iI (ms 4))) (C := R_M) (T := T_M) (N := 27) hx hb hts (in_M _) hown hK hP 0 rfl rfl 15 (by decide) (ht _ m_605) (fun _ h9 => h9) rfl d_M_fan_99 ?_
            refine lv_iload hx hb d_M_fan_102 (lv_at hl 4 rfl) ?_
            refine pr_iast (ws' := mw b cI cL cZ (nw (nw (nw (nw mi 9 (pu (mi 9) (ms 4) (x))) 10 (pu (mi 10) (ms 4) (y))) 11 (pu (mi 11) (ms 4) (z))) 12 (pu (mi 12) (ms 4) (xa))) ml mz (nw ms 0 (0))) hx hb hK hP hD hS 15 0 rfl rfl (by decide) (by omega) (by omega) rfl d_M_fan_104 (fun H locs hP hD hS => ?_)
            refine lv_aload_n hx hb d_M_fan_105 rfl (lv_at hl 0 rfl) ?_
            refine lv_dup hx hb d_M_fan_106 rfl ?_
            refine va_get (D := D) (ci := 5) (v := .int (iI (ms 4))) (C := R_M) (T := T_M) (N := 27) hx hb hts (in_M _) hown hK hP 0 rfl rfl 15 (by decide) (ht _ m_605) (fun _ h9 => h9) rfl d_M_fan_107 ?_
            refine lv_iconst (v := iI (1)) hx hb d_M_fan_110 rfl ?_
            refine pr_iadd hx hb d_M_fan_111 ?_
            refine va_put (D := D) (ci := 5) (v := .int (iI ((ms 4) + (1)))) (ty := .int) (C := R_M) (T := T_M) (N := 27) hx hb hts (in_M _) ty_M ty_M_ok nm_M hown hK hP hD hS 0 rfl rfl 15 (by decide) (ht _ m_605) (fun _ h9 => h9) rfl (by decide +kernel) rfl rfl (Nat.le_of_ble_eq_true rfl) d_M_fan_112 (fun H locs hP hD hS => ?_)
            have hP : va_P D pn_cl (mw b cI cL cZ (nw (nw (nw (nw mi 9 (pu (mi 9) (ms 4) (x))) 10 (pu (mi 10) (ms 4) (y))) 11 (pu (mi 11) (ms 4) (z))) 12 (pu (mi 12) (ms 4) (xa))) ml mz (nw (nw ms 0 (0)) 4 ((ms 4) + (1)))) H := hP
            have hD : va_D A (mw b cI cL cZ (nw (nw (nw (nw mi 9 (pu (mi 9) (ms 4) (x))) 10 (pu (mi 10) (ms 4) (y))) 11 (pu (mi 11) (ms 4) (z))) 12 (pu (mi 12) (ms 4) (xa))) ml mz (nw (nw ms 0 (0)) 4 ((ms 4) + (1)))) := hD
            refine lv_aload_n hx hb d_M_fan_115 rfl (lv_at hl 0 rfl) ?_
            refine va_get (D := D) (ci := 5) (v := .int (iI (((ms 4) + (1))))) (C := R_M) (T := T_M) (N := 27) hx hb hts (in_M _) hown hK hP 0 rfl rfl 15 (by decide) (ht _ m_605) (fun _ h9 => h9) rfl d_M_fan_116 ?_
            refine lv_iconst (v := iI (1)) hx hb d_M_fan_119 rfl ?_
            refine pr_isub hx hb d_M_fan_120 ?_
            exact W.iret (v := iI ((((ms 4) + (1))) - (1))) hx hb hr (fun t ht hW => ⟨⟨iI ((((ms 4) + (1))) - (1)), (nw (nw (nw (nw mi 9 (pu (mi 9) (ms 4) (x))) 10 (pu (mi 10) (ms 4) (y))) 11 (pu (mi 11) (ms 4) (z))) 12 (pu (mi 12) (ms 4) (xa)), ml, mz, nw (nw ms 0 (0)) 4 ((ms 4) + (1))), rfl, Or.inr (Or.inr (⟨by omega, by omega, rfl, rfl⟩)), by rw [ht]; exact hP, hD⟩, hS.F ht⟩) hS.2.2 d_M_fan_121
          · skip
            exact absurd c_7 (by decide)
        · skip
          refine lv_iconst (v := iI (2)) hx hb d_M_fan_47 rfl ?_
          refine lv_goto (tgt := 52) hx hb d_M_fan_48 (by decide) ?_
          refine va_put (D := D) (ci := 5) (v := .int (iI (2))) (ty := .int) (C := R_M) (T := T_M) (N := 27) hx hb hts (in_M _) ty_M ty_M_ok nm_M hown hK hP hD hS 0 rfl rfl 0 (by decide) (ht _ m_590) (fun _ h9 => h9) rfl (by decide +kernel) rfl rfl (Nat.le_of_ble_eq_true rfl) d_M_fan_52 (fun H locs hP hD hS => ?_)
          have hP : va_P D pn_cl (mw b cI cL cZ mi ml mz (nw ms 0 (2))) H := hP
          have hD : va_D A (mw b cI cL cZ mi ml mz (nw ms 0 (2))) := hD
          refine lv_aload_n hx hb d_M_fan_55 rfl (lv_at hl 0 rfl) ?_
          refine va_get (D := D) (ci := 5) (v := .int (iI ((2)))) (C := R_M) (T := T_M) (N := 27) hx hb hts (in_M _) hown hK hP 0 rfl rfl 0 (by decide) (ht _ m_590) (fun _ h9 => h9) rfl d_M_fan_56 ?_
          refine pr_ire (B := 2) rfl ?_
          refine pr_if_le (tgt := 64) hx hb (i3_of (by decide) (by decide)) d_M_fan_59 (by decide) (fun c_8 => ?_) (fun c_8 => ?_)
          · skip
            exact absurd c_8 (by decide)
          · skip
            refine lv_iconst (v := iI (0)) hx hb d_M_fan_62 rfl ?_
            exact W.iret (v := iI (0)) hx hb hr (fun t ht hW => ⟨⟨iI (0), (mi, ml, mz, nw ms 0 (2)), rfl, Or.inr (Or.inl (⟨by omega, by omega, rfl, rfl⟩)), by rw [ht]; exact hP, hD⟩, hS.F ht⟩) hS.2.2 d_M_fan_63
      · replace c_5 := b2_0 c_5
        refine lv_iconst (v := iI (1)) hx hb d_M_fan_35 rfl ?_
        refine lv_goto (tgt := 52) hx hb d_M_fan_36 (by decide) ?_
        refine va_put (D := D) (ci := 5) (v := .int (iI (1))) (ty := .int) (C := R_M) (T := T_M) (N := 27) hx hb hts (in_M _) ty_M ty_M_ok nm_M hown hK hP hD hS 0 rfl rfl 0 (by decide) (ht _ m_590) (fun _ h9 => h9) rfl (by decide +kernel) rfl rfl (Nat.le_of_ble_eq_true rfl) d_M_fan_52 (fun H locs hP hD hS => ?_)
        have hP : va_P D pn_cl (mw b cI cL cZ mi ml mz (nw ms 0 (1))) H := hP
        have hD : va_D A (mw b cI cL cZ mi ml mz (nw ms 0 (1))) := hD
        refine lv_aload_n hx hb d_M_fan_55 rfl (lv_at hl 0 rfl) ?_
        refine va_get (D := D) (ci := 5) (v := .int (iI ((1)))) (C := R_M) (T := T_M) (N := 27) hx hb hts (in_M _) hown hK hP 0 rfl rfl 0 (by decide) (ht _ m_590) (fun _ h9 => h9) rfl d_M_fan_56 ?_
        refine pr_ire (B := 1) rfl ?_
        refine pr_if_le (tgt := 64) hx hb (i3_of (by decide) (by decide)) d_M_fan_59 (by decide) (fun c_9 => ?_) (fun c_9 => ?_)
        · skip
          exact absurd c_9 (by decide)
        · skip
          refine lv_iconst (v := iI (0)) hx hb d_M_fan_62 rfl ?_
          exact W.iret (v := iI (0)) hx hb hr (fun t ht hW => ⟨⟨iI (0), (mi, ml, mz, nw ms 0 (1)), rfl, Or.inl (⟨by omega, rfl, rfl⟩), by rw [ht]; exact hP, hD⟩, hS.F ht⟩) hS.2.2 d_M_fan_63
abbrev w_M_shut : List Cond := .code y_M_shut b_M_shut 4 (some .boolean) :: pn_W
set_option maxHeartbeats 4000000 in
set_option maxRecDepth 100000 in
theorem c_M_shut (l : Launch) {D : va_G} {b : Nat → Nat} {cI cL cZ : ClassId} {mi ml : Nat → Int → Int} {mz : Int → Int} {ms : Nat → Int} (sz : Nat) (nf : Nat → Int → Int) (ns : Nat → Int) (da : Int → Int → Int) (x z : Int) (hOk : pn_Ok nf ns da) (hR : mn_R nf ns mi ms) (hN : mn_Ok ms) (hz01 : z = 0 ∨ z = 1) (hmz : ∀ j, 0 ≤ j → j < 20 → mz j = 0 ∨ mz j = 1) (gx : i3 x) : Met l y_M_shut w_M_shut ({ frames := 1, cells := 0, slots := 0, locals := 25 }) (va_Pc [.ref (b 0), .int (iI (x)), .int (iI (z))] (fun U => U.heap.size = sz ∧ va_P D pn_cl (mw b cI cL cZ mi ml mz ms) U.heap ∧ va_D (fun _ => True) (mw b cI cL cZ mi ml mz ms) ∧ mn_E D cI cL cZ U)) (va_Qi (fun (r : Int32) (u : (Nat → Int → Int) × (Nat → Int → Int) × (Int → Int) × (Nat → Int)) => (¬ (0 ≤ x ∧ x ≤ ms 3 - 1) ∧ r = iI 0 ∧ u = (mi, ml, mz, nw ms 0 (1))) ∨ ((0 ≤ x ∧ x ≤ ms 3 - 1) ∧ r = iI (mz (x)) ∧ u = (mi, ml, pu (mz) (x) (z), nw ms 0 (0)))) (fun u t => va_P D pn_cl ((fun u : (Nat → Int → Int) × (Nat → Int → Int) × (Int → Int) × (Nat → Int) => mw b cI cL cZ u.1 u.2.1 u.2.2.1 u.2.2.2) u) t.heap ∧ va_D (va_A (mw b cI cL cZ mi ml mz ms) sz) ((fun u : (Nat → Int → Int) × (Nat → Int → Int) × (Int → Int) × (Nat → Int) => mw b cI cL cZ u.1 u.2.1 u.2.2.1 u.2.2.2) u)) (va_A (mw b cI cL cZ mi ml mz ms) sz)) 0 0 (va_A (mw b cI cL cZ mi ml mz ms) sz) := by
  refine Met.ofW (cc := b_M_shut) (maxL := 4) (ret := (some .boolean)) (by decide) rfl ?_
  intro p e s m args below meth c s₁ B hml hv
  obtain ⟨rfl, hsz, hP, hD0, hE⟩ := hv
  have hx := B.exec
  have hb := B.bytes
  have hr := B.returns
  have hts := atoms_spec (ws := w_M_shut) B.pre
  have ht : ∀ w ∈ pn_W, w.before _ s = true := fun w h => hts w (List.mem_cons_of_mem _ h)
  have hown : s.vm.findClass R_M = some m.cls := findClass_of_methodNamed B.named
  have hlocks := B.notSynchronized
  have hK := hE
  subst hsz
  have hD := hD0.self (sz := s.heap.size)
  generalize hAe : va_A (mw b cI cL cZ mi ml mz ms) s.heap.size = A at hD ⊢
  have hA : ∀ q : Nat, s.heap.size ≤ q → A q := fun q h => by rw [← hAe]; exact Or.inr h
  have hS : va_S A s.heap s.heap [] := va_S.rf
  have hl := lv_entry ([.ref (b 0), .int (iI (x)), .int (iI (z))]) (n := 4) (Nat.le_of_ble_eq_true rfl)
  rw [lg_entry_eq]
  generalize (lg_sl ([.ref (b 0), .int (iI (x)), .int (iI (z))]) ++ List.replicate (4 - (lg_sl ([.ref (b 0), .int (iI (x)), .int (iI (z))])).length) Slot.unset).toArray = ls at hl ⊢
  have hl : lv_has ls 4 [(0, .ref (b 0)), (1, .int (iI (x))), (2, .int (iI (z)))] := hl
  obtain ⟨o_zc, o_lc, o_fc, o_ve, o_wi, o_wa, o_vo, o_fr, o_to, o_he, o_ar, o_ki, o_st, o_ff, o_sl, o_dc, o_da⟩ := id hOk
  obtain ⟨r_zo, r_le, r_fa, r_wi, r_ai, r_wa, r_vo, r_lk, r_fn⟩ := id hR
  obtain ⟨n_zo, n_le, n_fa, n_ca⟩ := id hN
  obtain ⟨gx1, gx2⟩ := gx
  refine lv_aload_n hx hb d_M_shut_0 rfl (lv_at hl 0 rfl) ?_
  refine lv_iload_n hx hb d_M_shut_1 rfl (lv_at hl 1 rfl) ?_
  refine pr_i2l hx hb (i3_of (by omega) (by omega)) d_M_shut_2 ?_
  refine lv_lconst (v := lI 0) hx hb d_M_shut_3 (by decide) ?_
  refine lv_aload_n hx hb d_M_shut_4 rfl (lv_at hl 0 rfl) ?_
  refine va_get (D := D) (ci := 5) (v := .int (iI (ms 3))) (C := R_M) (T := T_M) (N := 27) hx hb hts (in_M _) hown hK hP 0 rfl rfl 8 (by decide) (ht _ m_598) (fun _ h9 => h9) rfl d_M_shut_5 ?_
  refine lv_iconst (v := iI (1)) hx hb d_M_shut_8 rfl ?_
  refine pr_isub hx hb d_M_shut_9 ?_
  refine pr_i2l hx hb (i3_of (by omega) (by omega)) d_M_shut_10 ?_
  refine pr_pi (va_runS (As := [.long (lI (x)), .long (lI (0)), .long (lI ((ms 3) - (1)))]) (rest := [.ref (b 0)]) ⟨hx, hb, hml, hown, hts⟩ (c_M_in l (x) (0) ((ms 3) - (1)) (i6_of (by omega) (by omega)) (i6_of (by decide) (by decide)) (i6_of (by omega) (by omega))) (cwS 3 hts (pn_gS m_683 m_684 m_38 m_685) rfl rfl rfl (by decide +kernel) ⟨Nat.le_of_ble_eq_true rfl, Nat.le_of_ble_eq_true rfl⟩) pn_pre0 rfl rfl hl.1 rfl (lv_room (Nat.le_of_ble_eq_true rfl)) d_M_shut_11 ⟨Nat.le_of_ble_eq_true rfl, Nat.le_of_ble_eq_true rfl⟩) ?_
  refine pr_if_eq (tgt := 21) hx hb (i3_b2 _) d_M_shut_14 (by decide) (fun c_1 => ?_) (fun c_1 => ?_)
  · replace c_1 := b2_0 c_1
    refine lv_iconst (v := iI (1)) hx hb d_M_shut_21 rfl ?_
    refine va_put (D := D) (ci := 5) (v := .int (iI (1))) (ty := .int) (C := R_M) (T := T_M) (N := 27) hx hb hts (in_M _) ty_M ty_M_ok nm_M hown hK hP hD hS 0 rfl rfl 0 (by decide) (ht _ m_590) (fun _ h9 => h9) rfl (by decide +kernel) rfl rfl (Nat.le_of_ble_eq_true rfl) d_M_shut_22 (fun H locs hP hD hS => ?_)
    have hP : va_P D pn_cl (mw b cI cL cZ mi ml mz (nw ms 0 (1))) H := hP
    have hD : va_D A (mw b cI cL cZ mi ml mz (nw ms 0 (1))) := hD
    refine lv_aload_n hx hb d_M_shut_25 rfl (lv_at hl 0 rfl) ?_
    refine va_get (D := D) (ci := 5) (v := .int (iI ((1)))) (C := R_M) (T := T_M) (N := 27) hx hb hts (in_M _) hown hK hP 0 rfl rfl 0 (by decide) (ht _ m_590) (fun _ h9 => h9) rfl d_M_shut_26 ?_
    refine pr_ire (B := 1) rfl ?_
    refine pr_if_le (tgt := 34) hx hb (i3_of (by decide) (by decide)) d_M_shut_29 (by decide) (fun c_2 => ?_) (fun c_2 => ?_)
    · skip
      exact absurd c_2 (by decide)
    · skip
      refine lv_iconst (v := iI (0)) hx hb d_M_shut_32 rfl ?_
      exact W.zret (v := iI (0)) hx hb hr (by decide) (fun t ht hW => ⟨⟨iI (0), (mi, ml, mz, nw ms 0 (1)), rfl, Or.inl (⟨by omega, rfl, rfl⟩), by rw [ht]; exact hP, hD⟩, hS.F ht⟩) hS.2.2 d_M_shut_33
  · replace c_1 := b2_n1 c_1
    refine lv_iconst (v := iI (0)) hx hb d_M_shut_17 rfl ?_
    refine lv_goto (tgt := 22) hx hb d_M_shut_18 (by decide) ?_
    refine va_put (D := D) (ci := 5) (v := .int (iI (0))) (ty := .int) (C := R_M) (T := T_M) (N := 27) hx hb hts (in_M _) ty_M ty_M_ok nm_M hown hK hP hD hS 0 rfl rfl 0 (by decide) (ht _ m_590) (fun _ h9 => h9) rfl (by decide +kernel) rfl rfl (Nat.le_of_ble_eq_true rfl) d_M_shut_22 (fun H locs hP hD hS => ?_)
    have hP : va_P D pn_cl (mw b cI cL cZ mi ml mz (nw ms 0 (0))) H := hP
    have hD : va_D A (mw b cI cL cZ mi ml mz (nw ms 0 (0))) := hD
    refine lv_aload_n hx hb d_M_shut_25 rfl (lv_at hl 0 rfl) ?_
    refine va_get (D := D) (ci := 5) (v := .int (iI ((0)))) (C := R_M) (T := T_M) (N := 27) hx hb hts (in_M _) hown hK hP 0 rfl rfl 0 (by decide) (ht _ m_590) (fun _ h9 => h9) rfl d_M_shut_26 ?_
    refine pr_ire (B := 0) rfl ?_
    refine pr_if_le (tgt := 34) hx hb (i3_of (by decide) (by decide)) d_M_shut_29 (by decide) (fun c_3 => ?_) (fun c_3 => ?_)
    · skip
      refine lv_aload_n hx hb d_M_shut_34 rfl (lv_at hl 0 rfl) ?_
      refine va_get (D := D) (ci := 5) (v := .ref (b 11)) (C := R_M) (T := T_M) (N := 27) hx hb hts (in_M _) hown hK hP 0 rfl rfl 14 (by decide) (ht _ m_604) (fun _ h9 => h9) rfl d_M_shut_35 ?_
      refine lv_iload_n hx hb d_M_shut_38 rfl (lv_at hl 1 rfl) ?_
      refine pr_zald hx hb hK hP 11 2 rfl rfl (by decide) (by omega) (by omega) d_M_shut_39 ?_
      refine lv_istore_n (lv' := [(3, .int (iI (mz (x)))), (0, .ref (b 0)), (1, .int (iI (x))), (2, .int (iI (z)))]) hx hb d_M_shut_40 rfl hl (by decide) rfl (fun ls hl => ?_)
      refine lv_aload_n hx hb d_M_shut_41 rfl (lv_at hl 1 rfl) ?_
      refine va_get (D := D) (ci := 5) (v := .ref (b 11)) (C := R_M) (T := T_M) (N := 27) hx hb hts (in_M _) hown hK hP 0 rfl rfl 14 (by decide) (ht _ m_604) (fun _ h9 => h9) rfl d_M_shut_42 ?_
      refine lv_iload_n hx hb d_M_shut_45 rfl (lv_at hl 2 rfl) ?_
      refine lv_iload_n hx hb d_M_shut_46 rfl (lv_at hl 3 rfl) ?_
      refine pr_zast (ws' := mw b cI cL cZ mi ml (pu (mz) (x) (z)) (nw ms 0 (0))) hx hb hK hP hD hS 11 2 rfl rfl (by omega) (by decide) (by omega) (by omega) rfl d_M_shut_47 (fun H locs hP hD hS => ?_)
      refine lv_iload_n hx hb d_M_shut_48 rfl (lv_at hl 0 rfl) ?_
      exact W.zret (v := iI (mz (x))) hx hb hr (by rcases hmz x (by omega) (by omega) with h | h <;> rw [h] <;> decide) (fun t ht hW => ⟨⟨iI (mz (x)), (mi, ml, pu (mz) (x) (z), nw ms 0 (0)), rfl, Or.inr (⟨by omega, rfl, rfl⟩), by rw [ht]; exact hP, hD⟩, hS.F ht⟩) hS.2.2 d_M_shut_49
    · skip
      exact absurd c_3 (by decide)
abbrev w_M_caseOf : List Cond := .code y_M_caseOf b_M_caseOf 2 (some .int) :: pn_W
set_option maxHeartbeats 4000000 in
set_option maxRecDepth 100000 in
theorem c_M_caseOf (l : Launch) {D : va_G} {b : Nat → Nat} {cI cL cZ : ClassId} {mi ml : Nat → Int → Int} {mz : Int → Int} {ms : Nat → Int} (sz : Nat) (nf : Nat → Int → Int) (ns : Nat → Int) (da : Int → Int → Int) (x : Int) (hOk : pn_Ok nf ns da) (hR : mn_R nf ns mi ms) (hN : mn_Ok ms) (gx : i3 x) : Met l y_M_caseOf w_M_caseOf ({ frames := 0, cells := 0, slots := 0, locals := 0 }) (va_Pc [.ref (b 0), .int (iI (x))] (fun U => U.heap.size = sz ∧ va_P D pn_cl (mw b cI cL cZ mi ml mz ms) U.heap ∧ va_D (fun _ => True) (mw b cI cL cZ mi ml mz ms) ∧ mn_E D cI cL cZ U)) (va_Qi (fun (r : Int32) (u : (Nat → Int → Int) × (Nat → Int → Int) × (Int → Int) × (Nat → Int)) => (¬ (0 ≤ x ∧ x < ((2 ^ (ms 3).toNat : Nat) : Int)) ∧ r = iI 0 ∧ u = (mi, ml, mz, nw ms 0 (1))) ∨ ((0 ≤ x ∧ x < ((2 ^ (ms 3).toNat : Nat) : Int)) ∧ (8 ≤ ms 5) ∧ r = iI 0 ∧ u = (mi, ml, mz, nw ms 0 (2))) ∨ ((0 ≤ x ∧ x < ((2 ^ (ms 3).toNat : Nat) : Int)) ∧ ¬ (8 ≤ ms 5) ∧ r = iI ((((ms 5) + (1))) - (1)) ∧ u = (nw mi 13 (pu (mi 13) (ms 5) (x)), ml, mz, nw (nw ms 0 (0)) 5 ((ms 5) + (1))))) (fun u t => va_P D pn_cl ((fun u : (Nat → Int → Int) × (Nat → Int → Int) × (Int → Int) × (Nat → Int) => mw b cI cL cZ u.1 u.2.1 u.2.2.1 u.2.2.2) u) t.heap ∧ va_D (va_A (mw b cI cL cZ mi ml mz ms) sz) ((fun u : (Nat → Int → Int) × (Nat → Int → Int) × (Int → Int) × (Nat → Int) => mw b cI cL cZ u.1 u.2.1 u.2.2.1 u.2.2.2) u)) (va_A (mw b cI cL cZ mi ml mz ms) sz)) 0 0 (va_A (mw b cI cL cZ mi ml mz ms) sz) := by
  refine Met.ofW (cc := b_M_caseOf) (maxL := 2) (ret := (some .int)) (by decide) rfl ?_
  intro p e s m args below meth c s₁ B hml hv
  obtain ⟨rfl, hsz, hP, hD0, hE⟩ := hv
  have hx := B.exec
  have hb := B.bytes
  have hr := B.returns
  have hts := atoms_spec (ws := w_M_caseOf) B.pre
  have ht : ∀ w ∈ pn_W, w.before _ s = true := fun w h => hts w (List.mem_cons_of_mem _ h)
  have hown : s.vm.findClass R_M = some m.cls := findClass_of_methodNamed B.named
  have hlocks := B.notSynchronized
  have hK := hE
  subst hsz
  have hD := hD0.self (sz := s.heap.size)
  generalize hAe : va_A (mw b cI cL cZ mi ml mz ms) s.heap.size = A at hD ⊢
  have hA : ∀ q : Nat, s.heap.size ≤ q → A q := fun q h => by rw [← hAe]; exact Or.inr h
  have hS : va_S A s.heap s.heap [] := va_S.rf
  have hl := lv_entry ([.ref (b 0), .int (iI (x))]) (n := 2) (Nat.le_of_ble_eq_true rfl)
  rw [lg_entry_eq]
  generalize (lg_sl ([.ref (b 0), .int (iI (x))]) ++ List.replicate (2 - (lg_sl ([.ref (b 0), .int (iI (x))])).length) Slot.unset).toArray = ls at hl ⊢
  have hl : lv_has ls 2 [(0, .ref (b 0)), (1, .int (iI (x)))] := hl
  obtain ⟨o_zc, o_lc, o_fc, o_ve, o_wi, o_wa, o_vo, o_fr, o_to, o_he, o_ar, o_ki, o_st, o_ff, o_sl, o_dc, o_da⟩ := id hOk
  obtain ⟨r_zo, r_le, r_fa, r_wi, r_ai, r_wa, r_vo, r_lk, r_fn⟩ := id hR
  obtain ⟨n_zo, n_le, n_fa, n_ca⟩ := id hN
  obtain ⟨gx1, gx2⟩ := gx
  refine lv_aload_n hx hb d_M_caseOf_0 rfl (lv_at hl 0 rfl) ?_
  refine lv_iload_n hx hb d_M_caseOf_1 rfl (lv_at hl 1 rfl) ?_
  refine pr_if_lt (tgt := 14) hx hb (i3_of (by omega) (by omega)) d_M_caseOf_2 (by decide) (fun c_1 => ?_) (fun c_1 => ?_)
  · skip
    refine lv_iconst (v := iI (1)) hx hb d_M_caseOf_14 rfl ?_
    refine lv_goto (tgt := 32) hx hb d_M_caseOf_15 (by decide) ?_
    refine va_put (D := D) (ci := 5) (v := .int (iI (1))) (ty := .int) (C := R_M) (T := T_M) (N := 27) hx hb hts (in_M _) ty_M ty_M_ok nm_M hown hK hP hD hS 0 rfl rfl 0 (by decide) (ht _ m_590) (fun _ h9 => h9) rfl (by decide +kernel) rfl rfl (Nat.le_of_ble_eq_true rfl) d_M_caseOf_32 (fun H locs hP hD hS => ?_)
    have hP : va_P D pn_cl (mw b cI cL cZ mi ml mz (nw ms 0 (1))) H := hP
    have hD : va_D A (mw b cI cL cZ mi ml mz (nw ms 0 (1))) := hD
    refine lv_aload_n hx hb d_M_caseOf_35 rfl (lv_at hl 0 rfl) ?_
    refine va_get (D := D) (ci := 5) (v := .int (iI ((1)))) (C := R_M) (T := T_M) (N := 27) hx hb hts (in_M _) hown hK hP 0 rfl rfl 0 (by decide) (ht _ m_590) (fun _ h9 => h9) rfl d_M_caseOf_36 ?_
    refine pr_ire (B := 1) rfl ?_
    refine pr_if_le (tgt := 44) hx hb (i3_of (by decide) (by decide)) d_M_caseOf_39 (by decide) (fun c_2 => ?_) (fun c_2 => ?_)
    · skip
      exact absurd c_2 (by decide)
    · skip
      refine lv_iconst (v := iI (0)) hx hb d_M_caseOf_42 rfl ?_
      exact W.iret (v := iI (0)) hx hb hr (fun t ht hW => ⟨⟨iI (0), (mi, ml, mz, nw ms 0 (1)), rfl, Or.inl (⟨by omega, rfl, rfl⟩), by rw [ht]; exact hP, hD⟩, hS.F ht⟩) hS.2.2 d_M_caseOf_43
  · skip
    refine lv_iload_n hx hb d_M_caseOf_5 rfl (lv_at hl 1 rfl) ?_
    refine lv_aload_n hx hb d_M_caseOf_6 rfl (lv_at hl 0 rfl) ?_
    refine va_get (D := D) (ci := 5) (v := .int (iI (ms 3))) (C := R_M) (T := T_M) (N := 27) hx hb hts (in_M _) hown hK hP 0 rfl rfl 8 (by decide) (ht _ m_598) (fun _ h9 => h9) rfl d_M_caseOf_7 ?_
    refine pr_ire (B := (((ms 3).toNat : Nat) : Int)) (Int.toNat_of_nonneg n_le.1).symm ?_
    refine lv_ishr hx hb d_M_caseOf_10 ?_
    refine pr_ixe (B := ((x.toNat / 2 ^ (ms 3).toNat : Nat) : Int)) (by rw [← nb_shr (by omega) (by omega), Int.toNat_of_nonneg (by omega : 0 ≤ x)]) ?_
    have hdv : x.toNat / 2 ^ (ms 3).toNat ≤ x.toNat := Nat.div_le_self _ _
    have hdz : ((x.toNat / 2 ^ (ms 3).toNat : Nat) : Int) = 0 ↔ x < ((2 ^ (ms 3).toNat : Nat) : Int) := by rw [show ((x.toNat / 2 ^ (ms 3).toNat : Nat) : Int) = 0 ↔ x.toNat / 2 ^ (ms 3).toNat = 0 by omega, Nat.div_eq_zero_iff]; have := Nat.two_pow_pos (ms 3).toNat; omega
    generalize x.toNat / 2 ^ (ms 3).toNat = dv at hdv hdz ⊢
    refine pr_if_eq (tgt := 18) hx hb (i3_of (by omega) (by omega)) d_M_caseOf_11 (by decide) (fun c_3 => ?_) (fun c_3 => ?_)
    · skip
      refine lv_aload_n hx hb d_M_caseOf_18 rfl (lv_at hl 0 rfl) ?_
      refine va_get (D := D) (ci := 5) (v := .int (iI (ms 5))) (C := R_M) (T := T_M) (N := 27) hx hb hts (in_M _) hown hK hP 0 rfl rfl 20 (by decide) (ht _ m_610) (fun _ h9 => h9) rfl d_M_caseOf_19 ?_
      refine lv_bipush (v := iI (8)) hx hb d_M_caseOf_22 (by decide) ?_
      refine pr_icmp_ne (tgt := 31) hx hb (i3_of (by omega) (by omega)) (i3_of (by decide) (by decide)) d_M_caseOf_24 (by decide) (fun c_4 => ?_) (fun c_4 => ?_)
      · skip
        refine lv_iconst (v := iI (0)) hx hb d_M_caseOf_31 rfl ?_
        refine va_put (D := D) (ci := 5) (v := .int (iI (0))) (ty := .int) (C := R_M) (T := T_M) (N := 27) hx hb hts (in_M _) ty_M ty_M_ok nm_M hown hK hP hD hS 0 rfl rfl 0 (by decide) (ht _ m_590) (fun _ h9 => h9) rfl (by decide +kernel) rfl rfl (Nat.le_of_ble_eq_true rfl) d_M_caseOf_32 (fun H locs hP hD hS => ?_)
        have hP : va_P D pn_cl (mw b cI cL cZ mi ml mz (nw ms 0 (0))) H := hP
        have hD : va_D A (mw b cI cL cZ mi ml mz (nw ms 0 (0))) := hD
        refine lv_aload_n hx hb d_M_caseOf_35 rfl (lv_at hl 0 rfl) ?_
        refine va_get (D := D) (ci := 5) (v := .int (iI ((0)))) (C := R_M) (T := T_M) (N := 27) hx hb hts (in_M _) hown hK hP 0 rfl rfl 0 (by decide) (ht _ m_590) (fun _ h9 => h9) rfl d_M_caseOf_36 ?_
        refine pr_ire (B := 0) rfl ?_
        refine pr_if_le (tgt := 44) hx hb (i3_of (by decide) (by decide)) d_M_caseOf_39 (by decide) (fun c_5 => ?_) (fun c_5 => ?_)
        · skip
          refine lv_aload_n hx hb d_M_caseOf_44 rfl (lv_at hl 0 rfl) ?_
          refine va_get (D := D) (ci := 5) (v := .ref (b 16)) (C := R_M) (T := T_M) (N := 27) hx hb hts (in_M _) hown hK hP 0 rfl rfl 21 (by decide) (ht _ m_611) (fun _ h9 => h9) rfl d_M_caseOf_45 ?_
          refine lv_aload_n hx hb d_M_caseOf_48 rfl (lv_at hl 0 rfl) ?_
          refine va_get (D := D) (ci := 5) (v := .int (iI (ms 5))) (C := R_M) (T := T_M) (N := 27) hx hb hts (in_M _) hown hK hP 0 rfl rfl 20 (by decide) (ht _ m_610) (fun _ h9 => h9) rfl d_M_caseOf_49 ?_
          refine lv_iload_n hx hb d_M_caseOf_52 rfl (lv_at hl 1 rfl) ?_
          refine pr_iast (ws' := mw b cI cL cZ (nw mi 13 (pu (mi 13) (ms 5) (x))) ml mz (nw ms 0 (0))) hx hb hK hP hD hS 16 0 rfl rfl (by decide) (by omega) (by omega) rfl d_M_caseOf_53 (fun H locs hP hD hS => ?_)
          refine lv_aload_n hx hb d_M_caseOf_54 rfl (lv_at hl 0 rfl) ?_
          refine lv_dup hx hb d_M_caseOf_55 rfl ?_
          refine va_get (D := D) (ci := 5) (v := .int (iI (ms 5))) (C := R_M) (T := T_M) (N := 27) hx hb hts (in_M _) hown hK hP 0 rfl rfl 20 (by decide) (ht _ m_610) (fun _ h9 => h9) rfl d_M_caseOf_56 ?_
          refine lv_iconst (v := iI (1)) hx hb d_M_caseOf_59 rfl ?_
          refine pr_iadd hx hb d_M_caseOf_60 ?_
          refine va_put (D := D) (ci := 5) (v := .int (iI ((ms 5) + (1)))) (ty := .int) (C := R_M) (T := T_M) (N := 27) hx hb hts (in_M _) ty_M ty_M_ok nm_M hown hK hP hD hS 0 rfl rfl 20 (by decide) (ht _ m_610) (fun _ h9 => h9) rfl (by decide +kernel) rfl rfl (Nat.le_of_ble_eq_true rfl) d_M_caseOf_61 (fun H locs hP hD hS => ?_)
          have hP : va_P D pn_cl (mw b cI cL cZ (nw mi 13 (pu (mi 13) (ms 5) (x))) ml mz (nw (nw ms 0 (0)) 5 ((ms 5) + (1)))) H := hP
          have hD : va_D A (mw b cI cL cZ (nw mi 13 (pu (mi 13) (ms 5) (x))) ml mz (nw (nw ms 0 (0)) 5 ((ms 5) + (1)))) := hD
          refine lv_aload_n hx hb d_M_caseOf_64 rfl (lv_at hl 0 rfl) ?_
          refine va_get (D := D) (ci := 5) (v := .int (iI (((ms 5) + (1))))) (C := R_M) (T := T_M) (N := 27) hx hb hts (in_M _) hown hK hP 0 rfl rfl 20 (by decide) (ht _ m_610) (fun _ h9 => h9) rfl d_M_caseOf_65 ?_
          refine lv_iconst (v := iI (1)) hx hb d_M_caseOf_68 rfl ?_
          refine pr_isub hx hb d_M_caseOf_69 ?_
          exact W.iret (v := iI ((((ms 5) + (1))) - (1))) hx hb hr (fun t ht hW => ⟨⟨iI ((((ms 5) + (1))) - (1)), (nw mi 13 (pu (mi 13) (ms 5) (x)), ml, mz, nw (nw ms 0 (0)) 5 ((ms 5) + (1))), rfl, Or.inr (Or.inr (⟨by omega, by omega, rfl, rfl⟩)), by rw [ht]; exact hP, hD⟩, hS.F ht⟩) hS.2.2 d_M_caseOf_70
        · skip
          exact absurd c_5 (by decide)
      · skip
        refine lv_iconst (v := iI (2)) hx hb d_M_caseOf_27 rfl ?_
        refine lv_goto (tgt := 32) hx hb d_M_caseOf_28 (by decide) ?_
        refine va_put (D := D) (ci := 5) (v := .int (iI (2))) (ty := .int) (C := R_M) (T := T_M) (N := 27) hx hb hts (in_M _) ty_M ty_M_ok nm_M hown hK hP hD hS 0 rfl rfl 0 (by decide) (ht _ m_590) (fun _ h9 => h9) rfl (by decide +kernel) rfl rfl (Nat.le_of_ble_eq_true rfl) d_M_caseOf_32 (fun H locs hP hD hS => ?_)
        have hP : va_P D pn_cl (mw b cI cL cZ mi ml mz (nw ms 0 (2))) H := hP
        have hD : va_D A (mw b cI cL cZ mi ml mz (nw ms 0 (2))) := hD
        refine lv_aload_n hx hb d_M_caseOf_35 rfl (lv_at hl 0 rfl) ?_
        refine va_get (D := D) (ci := 5) (v := .int (iI ((2)))) (C := R_M) (T := T_M) (N := 27) hx hb hts (in_M _) hown hK hP 0 rfl rfl 0 (by decide) (ht _ m_590) (fun _ h9 => h9) rfl d_M_caseOf_36 ?_
        refine pr_ire (B := 2) rfl ?_
        refine pr_if_le (tgt := 44) hx hb (i3_of (by decide) (by decide)) d_M_caseOf_39 (by decide) (fun c_6 => ?_) (fun c_6 => ?_)
        · skip
          exact absurd c_6 (by decide)
        · skip
          refine lv_iconst (v := iI (0)) hx hb d_M_caseOf_42 rfl ?_
          exact W.iret (v := iI (0)) hx hb hr (fun t ht hW => ⟨⟨iI (0), (mi, ml, mz, nw ms 0 (2)), rfl, Or.inr (Or.inl (⟨by omega, by omega, rfl, rfl⟩)), by rw [ht]; exact hP, hD⟩, hS.F ht⟩) hS.2.2 d_M_caseOf_43
    · skip
      refine lv_iconst (v := iI (1)) hx hb d_M_caseOf_14 rfl ?_
      refine lv_goto (tgt := 32) hx hb d_M_caseOf_15 (by decide) ?_
      refine va_put (D := D) (ci := 5) (v := .int (iI (1))) (ty := .int) (C := R_M) (T := T_M) (N := 27) hx hb hts (in_M _) ty_M ty_M_ok nm_M hown hK hP hD hS 0 rfl rfl 0 (by decide) (ht _ m_590) (fun _ h9 => h9) rfl (by decide +kernel) rfl rfl (Nat.le_of_ble_eq_true rfl) d_M_caseOf_32 (fun H locs hP hD hS => ?_)
      have hP : va_P D pn_cl (mw b cI cL cZ mi ml mz (nw ms 0 (1))) H := hP
      have hD : va_D A (mw b cI cL cZ mi ml mz (nw ms 0 (1))) := hD
      refine lv_aload_n hx hb d_M_caseOf_35 rfl (lv_at hl 0 rfl) ?_
      refine va_get (D := D) (ci := 5) (v := .int (iI ((1)))) (C := R_M) (T := T_M) (N := 27) hx hb hts (in_M _) hown hK hP 0 rfl rfl 0 (by decide) (ht _ m_590) (fun _ h9 => h9) rfl d_M_caseOf_36 ?_
      refine pr_ire (B := 1) rfl ?_
      refine pr_if_le (tgt := 44) hx hb (i3_of (by decide) (by decide)) d_M_caseOf_39 (by decide) (fun c_7 => ?_) (fun c_7 => ?_)
      · skip
        exact absurd c_7 (by decide)
      · skip
        refine lv_iconst (v := iI (0)) hx hb d_M_caseOf_42 rfl ?_
        exact W.iret (v := iI (0)) hx hb hr (fun t ht hW => ⟨⟨iI (0), (mi, ml, mz, nw ms 0 (1)), rfl, Or.inl (⟨by omega, rfl, rfl⟩), by rw [ht]; exact hP, hD⟩, hS.F ht⟩) hS.2.2 d_M_caseOf_43
abbrev w_M_put : List Cond := .code y_M_put b_M_put 3 (some .int) :: pn_W
set_option maxHeartbeats 4000000 in
set_option maxRecDepth 100000 in
theorem c_M_put (l : Launch) {D : va_G} {b : Nat → Nat} {cI cL cZ : ClassId} {mi ml : Nat → Int → Int} {mz : Int → Int} {ms : Nat → Int} (sz : Nat) (nf : Nat → Int → Int) (ns : Nat → Int) (da : Int → Int → Int) (x y : Int) (hOk : pn_Ok nf ns da) (hR : mn_R nf ns mi ms) (hN : mn_Ok ms) (hh : ∀ j, 0 ≤ j → j < 8 → 0 ≤ ml 0 j ∧ ml 0 j ≤ 1000000000) (gx : i3 x) (gy : i3 y) : Met l y_M_put w_M_put ({ frames := 2, cells := 0, slots := 0, locals := 46 }) (va_Pc [.ref (b 0), .int (iI (x)), .int (iI (y))] (fun U => U.heap.size = sz ∧ va_P D pn_cl (mw b cI cL cZ mi ml mz ms) U.heap ∧ va_D (fun _ => True) (mw b cI cL cZ mi ml mz ms) ∧ mn_E D cI cL cZ U)) (va_Qi (fun (r : Int32) (u : (Nat → Int → Int) × (Nat → Int → Int) × (Int → Int) × (Nat → Int)) => (¬ ((0 ≤ x ∧ x ≤ ms 2 - 1) ∧ (-1000000000 ≤ y ∧ y ≤ 1000000000) ∧ (0 ≤ ml 0 x + y ∧ ml 0 x + y ≤ 1000000000)) ∧ r = iI 0 ∧ u = (mi, ml, mz, nw ms 0 (1))) ∨ (((0 ≤ x ∧ x ≤ ms 2 - 1) ∧ (-1000000000 ≤ y ∧ y ≤ 1000000000) ∧ (0 ≤ ml 0 x + y ∧ ml 0 x + y ≤ 1000000000)) ∧ r = iI ((pu (ml 0) (x) ((ml 0 (x)) + (y))) (x)) ∧ u = (mi, nw ml 0 (pu (ml 0) (x) ((ml 0 (x)) + (y))), mz, nw ms 0 (0)))) (fun u t => va_P D pn_cl ((fun u : (Nat → Int → Int) × (Nat → Int → Int) × (Int → Int) × (Nat → Int) => mw b cI cL cZ u.1 u.2.1 u.2.2.1 u.2.2.2) u) t.heap ∧ va_D (va_A (mw b cI cL cZ mi ml mz ms) sz) ((fun u : (Nat → Int → Int) × (Nat → Int → Int) × (Int → Int) × (Nat → Int) => mw b cI cL cZ u.1 u.2.1 u.2.2.1 u.2.2.2) u)) (va_A (mw b cI cL cZ mi ml mz ms) sz)) 0 0 (va_A (mw b cI cL cZ mi ml mz ms) sz) := by
  refine Met.ofW (cc := b_M_put) (maxL := 3) (ret := (some .int)) (by decide) rfl ?_
  intro p e s m args below meth c s₁ B hml hv
  obtain ⟨rfl, hsz, hP, hD0, hE⟩ := hv
  have hx := B.exec
  have hb := B.bytes
  have hr := B.returns
  have hts := atoms_spec (ws := w_M_put) B.pre
  have ht : ∀ w ∈ pn_W, w.before _ s = true := fun w h => hts w (List.mem_cons_of_mem _ h)
  have hown : s.vm.findClass R_M = some m.cls := findClass_of_methodNamed B.named
  have hlocks := B.notSynchronized
  have hK := hE
  subst hsz
  have hD := hD0.self (sz := s.heap.size)
  generalize hAe : va_A (mw b cI cL cZ mi ml mz ms) s.heap.size = A at hD ⊢
  have hA : ∀ q : Nat, s.heap.size ≤ q → A q := fun q h => by rw [← hAe]; exact Or.inr h
  have hS : va_S A s.heap s.heap [] := va_S.rf
  have hl := lv_entry ([.ref (b 0), .int (iI (x)), .int (iI (y))]) (n := 3) (Nat.le_of_ble_eq_true rfl)
  rw [lg_entry_eq]
  generalize (lg_sl ([.ref (b 0), .int (iI (x)), .int (iI (y))]) ++ List.replicate (3 - (lg_sl ([.ref (b 0), .int (iI (x)), .int (iI (y))])).length) Slot.unset).toArray = ls at hl ⊢
  have hl : lv_has ls 3 [(0, .ref (b 0)), (1, .int (iI (x))), (2, .int (iI (y)))] := hl
  obtain ⟨o_zc, o_lc, o_fc, o_ve, o_wi, o_wa, o_vo, o_fr, o_to, o_he, o_ar, o_ki, o_st, o_ff, o_sl, o_dc, o_da⟩ := id hOk
  obtain ⟨r_zo, r_le, r_fa, r_wi, r_ai, r_wa, r_vo, r_lk, r_fn⟩ := id hR
  obtain ⟨n_zo, n_le, n_fa, n_ca⟩ := id hN
  obtain ⟨gx1, gx2⟩ := gx
  obtain ⟨gy1, gy2⟩ := gy
  have hhx := hh x
  have hh0 := hh 0 (by omega) (by omega)
  refine lv_aload_n hx hb d_M_put_0 rfl (lv_at hl 0 rfl) ?_
  refine lv_aload_n hx hb d_M_put_1 rfl (lv_at hl 0 rfl) ?_
  refine lv_iload_n hx hb d_M_put_2 rfl (lv_at hl 1 rfl) ?_
  refine pr_pi (va_runV (As := [.int (iI (x))]) (rest := [.ref (b 0)]) ⟨hx, hb, hml, hown, hts⟩ (c_M_isZone l (x) hN (i3_of (by omega) (by omega))) (cwV 1 hts (pn_gV m_781 m_783 m_28 m_38 m_784) rfl rfl rfl (by decide +kernel) ⟨Nat.le_of_ble_eq_true rfl, Nat.le_of_ble_eq_true rfl⟩) (mn_preV (q0 := 0) (ci := 5) (q := (R_M, T_M, 27)) hP hE rfl rfl) rfl rfl hl.1 rfl (lv_room (Nat.le_of_ble_eq_true rfl)) d_M_put_3 ⟨Nat.le_of_ble_eq_true rfl, Nat.le_of_ble_eq_true rfl⟩) ?_
  refine pr_if_eq (tgt := 58) hx hb (i3_b2 _) d_M_put_6 (by decide) (fun c_1 => ?_) (fun c_1 => ?_)
  · replace c_1 := b2_0 c_1
    refine lv_iconst (v := iI (1)) hx hb d_M_put_58 rfl ?_
    refine va_put (D := D) (ci := 5) (v := .int (iI (1))) (ty := .int) (C := R_M) (T := T_M) (N := 27) hx hb hts (in_M _) ty_M ty_M_ok nm_M hown hK hP hD hS 0 rfl rfl 0 (by decide) (ht _ m_590) (fun _ h9 => h9) rfl (by decide +kernel) rfl rfl (Nat.le_of_ble_eq_true rfl) d_M_put_59 (fun H locs hP hD hS => ?_)
    have hP : va_P D pn_cl (mw b cI cL cZ mi ml mz (nw ms 0 (1))) H := hP
    have hD : va_D A (mw b cI cL cZ mi ml mz (nw ms 0 (1))) := hD
    refine lv_aload_n hx hb d_M_put_62 rfl (lv_at hl 0 rfl) ?_
    refine va_get (D := D) (ci := 5) (v := .int (iI ((1)))) (C := R_M) (T := T_M) (N := 27) hx hb hts (in_M _) hown hK hP 0 rfl rfl 0 (by decide) (ht _ m_590) (fun _ h9 => h9) rfl d_M_put_63 ?_
    refine pr_ire (B := 1) rfl ?_
    refine pr_if_le (tgt := 71) hx hb (i3_of (by decide) (by decide)) d_M_put_66 (by decide) (fun c_2 => ?_) (fun c_2 => ?_)
    · skip
      exact absurd c_2 (by decide)
    · skip
      refine lv_iconst (v := iI (0)) hx hb d_M_put_69 rfl ?_
      exact W.iret (v := iI (0)) hx hb hr (fun t ht hW => ⟨⟨iI (0), (mi, ml, mz, nw ms 0 (1)), rfl, Or.inl (⟨by omega, rfl, rfl⟩), by rw [ht]; exact hP, hD⟩, hS.F ht⟩) hS.2.2 d_M_put_70
  · replace c_1 := b2_n1 c_1
    refine lv_iload_n hx hb d_M_put_9 rfl (lv_at hl 2 rfl) ?_
    refine pr_i2l hx hb (i3_of (by omega) (by omega)) d_M_put_10 ?_
    refine lv_ldc2 (v := lI (-1000000000)) hx hb hown (ht (.constantLong _ 168 (lI (-1000000000))) m_798) d_M_put_11 ?_
    refine lv_ldc2 (v := lI (1000000000)) hx hb hown (ht (.constantLong _ 170 (lI (1000000000))) m_799) d_M_put_14 ?_
    refine pr_pi (va_runS (As := [.long (lI (y)), .long (lI (-1000000000)), .long (lI (1000000000))]) (rest := [.ref (b 0)]) ⟨hx, hb, hml, hown, hts⟩ (c_M_in l (y) (-1000000000) (1000000000) (i6_of (by omega) (by omega)) (i6_of (by decide) (by decide)) (i6_of (by decide) (by decide))) (cwS 3 hts (pn_gS m_683 m_684 m_38 m_685) rfl rfl rfl (by decide +kernel) ⟨Nat.le_of_ble_eq_true rfl, Nat.le_of_ble_eq_true rfl⟩) pn_pre0 rfl rfl hl.1 rfl (lv_room (Nat.le_of_ble_eq_true rfl)) d_M_put_17 ⟨Nat.le_of_ble_eq_true rfl, Nat.le_of_ble_eq_true rfl⟩) ?_
    refine pr_if_eq (tgt := 58) hx hb (i3_b2 _) d_M_put_20 (by decide) (fun c_3 => ?_) (fun c_3 => ?_)
    · replace c_3 := b2_0 c_3
      refine lv_iconst (v := iI (1)) hx hb d_M_put_58 rfl ?_
      refine va_put (D := D) (ci := 5) (v := .int (iI (1))) (ty := .int) (C := R_M) (T := T_M) (N := 27) hx hb hts (in_M _) ty_M ty_M_ok nm_M hown hK hP hD hS 0 rfl rfl 0 (by decide) (ht _ m_590) (fun _ h9 => h9) rfl (by decide +kernel) rfl rfl (Nat.le_of_ble_eq_true rfl) d_M_put_59 (fun H locs hP hD hS => ?_)
      have hP : va_P D pn_cl (mw b cI cL cZ mi ml mz (nw ms 0 (1))) H := hP
      have hD : va_D A (mw b cI cL cZ mi ml mz (nw ms 0 (1))) := hD
      refine lv_aload_n hx hb d_M_put_62 rfl (lv_at hl 0 rfl) ?_
      refine va_get (D := D) (ci := 5) (v := .int (iI ((1)))) (C := R_M) (T := T_M) (N := 27) hx hb hts (in_M _) hown hK hP 0 rfl rfl 0 (by decide) (ht _ m_590) (fun _ h9 => h9) rfl d_M_put_63 ?_
      refine pr_ire (B := 1) rfl ?_
      refine pr_if_le (tgt := 71) hx hb (i3_of (by decide) (by decide)) d_M_put_66 (by decide) (fun c_4 => ?_) (fun c_4 => ?_)
      · skip
        exact absurd c_4 (by decide)
      · skip
        refine lv_iconst (v := iI (0)) hx hb d_M_put_69 rfl ?_
        exact W.iret (v := iI (0)) hx hb hr (fun t ht hW => ⟨⟨iI (0), (mi, ml, mz, nw ms 0 (1)), rfl, Or.inl (⟨by omega, rfl, rfl⟩), by rw [ht]; exact hP, hD⟩, hS.F ht⟩) hS.2.2 d_M_put_70
    · replace c_3 := b2_n1 c_3
      refine lv_aload_n hx hb d_M_put_23 rfl (lv_at hl 0 rfl) ?_
      refine va_get (D := D) (ci := 5) (v := .ref (b 4)) (C := R_M) (T := T_M) (N := 27) hx hb hts (in_M _) hown hK hP 0 rfl rfl 6 (by decide) (ht _ m_596) (fun _ h9 => h9) rfl d_M_put_24 ?_
      refine lv_aload_n hx hb d_M_put_27 rfl (lv_at hl 0 rfl) ?_
      refine lv_iload_n hx hb d_M_put_28 rfl (lv_at hl 1 rfl) ?_
      refine pr_pi (va_runV (As := [.int (iI (x))]) (rest := [.ref (b 4), .ref (b 0)]) ⟨hx, hb, hml, hown, hts⟩ (c_M_isZone l (x) hN (i3_of (by omega) (by omega))) (cwV 1 hts (pn_gV m_781 m_783 m_28 m_38 m_784) rfl rfl rfl (by decide +kernel) ⟨Nat.le_of_ble_eq_true rfl, Nat.le_of_ble_eq_true rfl⟩) (mn_preV (q0 := 0) (ci := 5) (q := (R_M, T_M, 27)) hP hE rfl rfl) rfl rfl hl.1 rfl (lv_room (Nat.le_of_ble_eq_true rfl)) d_M_put_29 ⟨Nat.le_of_ble_eq_true rfl, Nat.le_of_ble_eq_true rfl⟩) ?_
      refine pr_if_eq (tgt := 39) hx hb (i3_b2 _) d_M_put_32 (by decide) (fun c_5 => ?_) (fun c_5 => ?_)
      · replace c_5 := b2_0 c_5
        refine lv_iconst (v := iI (0)) hx hb d_M_put_39 rfl ?_
        refine pr_lald hx hb hK hP 4 1 rfl rfl (by decide) (by omega) (by omega) d_M_put_40 ?_
        refine lv_iload_n hx hb d_M_put_41 rfl (lv_at hl 2 rfl) ?_
        refine pr_i2l hx hb (i3_of (by omega) (by omega)) d_M_put_42 ?_
        refine pr_ladd hx hb d_M_put_43 ?_
        refine lv_lconst (v := lI 0) hx hb d_M_put_44 (by decide) ?_
        refine lv_ldc2 (v := lI (1000000000)) hx hb hown (ht (.constantLong _ 170 (lI (1000000000))) m_799) d_M_put_45 ?_
        refine pr_pi (va_runS (As := [.long (lI ((ml 0 (0)) + (y))), .long (lI (0)), .long (lI (1000000000))]) (rest := [.ref (b 0)]) ⟨hx, hb, hml, hown, hts⟩ (c_M_in l ((ml 0 (0)) + (y)) (0) (1000000000) (i6_of (by omega) (by omega)) (i6_of (by decide) (by decide)) (i6_of (by decide) (by decide))) (cwS 3 hts (pn_gS m_683 m_684 m_38 m_685) rfl rfl rfl (by decide +kernel) ⟨Nat.le_of_ble_eq_true rfl, Nat.le_of_ble_eq_true rfl⟩) pn_pre0 rfl rfl hl.1 rfl (lv_room (Nat.le_of_ble_eq_true rfl)) d_M_put_48 ⟨Nat.le_of_ble_eq_true rfl, Nat.le_of_ble_eq_true rfl⟩) ?_
        refine pr_if_eq (tgt := 58) hx hb (i3_b2 _) d_M_put_51 (by decide) (fun c_6 => ?_) (fun c_6 => ?_)
        · replace c_6 := b2_0 c_6
          refine lv_iconst (v := iI (1)) hx hb d_M_put_58 rfl ?_
          refine va_put (D := D) (ci := 5) (v := .int (iI (1))) (ty := .int) (C := R_M) (T := T_M) (N := 27) hx hb hts (in_M _) ty_M ty_M_ok nm_M hown hK hP hD hS 0 rfl rfl 0 (by decide) (ht _ m_590) (fun _ h9 => h9) rfl (by decide +kernel) rfl rfl (Nat.le_of_ble_eq_true rfl) d_M_put_59 (fun H locs hP hD hS => ?_)
          have hP : va_P D pn_cl (mw b cI cL cZ mi ml mz (nw ms 0 (1))) H := hP
          have hD : va_D A (mw b cI cL cZ mi ml mz (nw ms 0 (1))) := hD
          refine lv_aload_n hx hb d_M_put_62 rfl (lv_at hl 0 rfl) ?_
          refine va_get (D := D) (ci := 5) (v := .int (iI ((1)))) (C := R_M) (T := T_M) (N := 27) hx hb hts (in_M _) hown hK hP 0 rfl rfl 0 (by decide) (ht _ m_590) (fun _ h9 => h9) rfl d_M_put_63 ?_
          refine pr_ire (B := 1) rfl ?_
          refine pr_if_le (tgt := 71) hx hb (i3_of (by decide) (by decide)) d_M_put_66 (by decide) (fun c_7 => ?_) (fun c_7 => ?_)
          · skip
            exact absurd c_7 (by decide)
          · skip
            refine lv_iconst (v := iI (0)) hx hb d_M_put_69 rfl ?_
            exact W.iret (v := iI (0)) hx hb hr (fun t ht hW => ⟨⟨iI (0), (mi, ml, mz, nw ms 0 (1)), rfl, Or.inl (⟨by omega, rfl, rfl⟩), by rw [ht]; exact hP, hD⟩, hS.F ht⟩) hS.2.2 d_M_put_70
        · replace c_6 := b2_n1 c_6
          refine lv_iconst (v := iI (0)) hx hb d_M_put_54 rfl ?_
          refine lv_goto (tgt := 59) hx hb d_M_put_55 (by decide) ?_
          refine va_put (D := D) (ci := 5) (v := .int (iI (0))) (ty := .int) (C := R_M) (T := T_M) (N := 27) hx hb hts (in_M _) ty_M ty_M_ok nm_M hown hK hP hD hS 0 rfl rfl 0 (by decide) (ht _ m_590) (fun _ h9 => h9) rfl (by decide +kernel) rfl rfl (Nat.le_of_ble_eq_true rfl) d_M_put_59 (fun H locs hP hD hS => ?_)
          have hP : va_P D pn_cl (mw b cI cL cZ mi ml mz (nw ms 0 (0))) H := hP
          have hD : va_D A (mw b cI cL cZ mi ml mz (nw ms 0 (0))) := hD
          refine lv_aload_n hx hb d_M_put_62 rfl (lv_at hl 0 rfl) ?_
          refine va_get (D := D) (ci := 5) (v := .int (iI ((0)))) (C := R_M) (T := T_M) (N := 27) hx hb hts (in_M _) hown hK hP 0 rfl rfl 0 (by decide) (ht _ m_590) (fun _ h9 => h9) rfl d_M_put_63 ?_
          refine pr_ire (B := 0) rfl ?_
          refine pr_if_le (tgt := 71) hx hb (i3_of (by decide) (by decide)) d_M_put_66 (by decide) (fun c_8 => ?_) (fun c_8 => ?_)
          · skip
            refine lv_aload_n hx hb d_M_put_71 rfl (lv_at hl 0 rfl) ?_
            refine va_get (D := D) (ci := 5) (v := .ref (b 4)) (C := R_M) (T := T_M) (N := 27) hx hb hts (in_M _) hown hK hP 0 rfl rfl 6 (by decide) (ht _ m_596) (fun _ h9 => h9) rfl d_M_put_72 ?_
            refine lv_iload_n hx hb d_M_put_75 rfl (lv_at hl 1 rfl) ?_
            refine lv_dup2_11 hx hb d_M_put_76 rfl rfl ?_
            refine pr_lald hx hb hK hP 4 1 rfl rfl (by decide) (by omega) (by omega) d_M_put_77 ?_
            refine lv_iload_n hx hb d_M_put_78 rfl (lv_at hl 2 rfl) ?_
            refine pr_i2l hx hb (i3_of (by omega) (by omega)) d_M_put_79 ?_
            refine pr_ladd hx hb d_M_put_80 ?_
            refine pr_last (ws' := mw b cI cL cZ mi (nw ml 0 (pu (ml 0) (x) ((ml 0 (x)) + (y)))) mz (nw ms 0 (0))) hx hb hK hP hD hS 4 1 rfl rfl (by decide) (by omega) (by omega) rfl d_M_put_81 (fun H locs hP hD hS => ?_)
            refine lv_aload_n hx hb d_M_put_82 rfl (lv_at hl 0 rfl) ?_
            refine va_get (D := D) (ci := 5) (v := .ref (b 4)) (C := R_M) (T := T_M) (N := 27) hx hb hts (in_M _) hown hK hP 0 rfl rfl 6 (by decide) (ht _ m_596) (fun _ h9 => h9) rfl d_M_put_83 ?_
            refine lv_iload_n hx hb d_M_put_86 rfl (lv_at hl 1 rfl) ?_
            refine pr_lald hx hb hK hP 4 1 rfl rfl (by decide) (by omega) (by omega) d_M_put_87 ?_
            refine pr_l2i hx hb d_M_put_88 ?_
            exact W.iret (v := iI ((pu (ml 0) (x) ((ml 0 (x)) + (y))) (x))) hx hb hr (fun t ht hW => ⟨⟨iI ((pu (ml 0) (x) ((ml 0 (x)) + (y))) (x)), (mi, nw ml 0 (pu (ml 0) (x) ((ml 0 (x)) + (y))), mz, nw ms 0 (0)), rfl, Or.inr (⟨by omega, rfl, rfl⟩), by rw [ht]; exact hP, hD⟩, hS.F ht⟩) hS.2.2 d_M_put_89
          · skip
            exact absurd c_8 (by decide)
      · replace c_5 := b2_n1 c_5
        refine lv_iload_n hx hb d_M_put_35 rfl (lv_at hl 1 rfl) ?_
        refine lv_goto (tgt := 40) hx hb d_M_put_36 (by decide) ?_
        refine pr_lald hx hb hK hP 4 1 rfl rfl (by decide) (by omega) (by omega) d_M_put_40 ?_
        refine lv_iload_n hx hb d_M_put_41 rfl (lv_at hl 2 rfl) ?_
        refine pr_i2l hx hb (i3_of (by omega) (by omega)) d_M_put_42 ?_
        refine pr_ladd hx hb d_M_put_43 ?_
        refine lv_lconst (v := lI 0) hx hb d_M_put_44 (by decide) ?_
        refine lv_ldc2 (v := lI (1000000000)) hx hb hown (ht (.constantLong _ 170 (lI (1000000000))) m_799) d_M_put_45 ?_
        refine pr_pi (va_runS (As := [.long (lI ((ml 0 (x)) + (y))), .long (lI (0)), .long (lI (1000000000))]) (rest := [.ref (b 0)]) ⟨hx, hb, hml, hown, hts⟩ (c_M_in l ((ml 0 (x)) + (y)) (0) (1000000000) (i6_of (by omega) (by omega)) (i6_of (by decide) (by decide)) (i6_of (by decide) (by decide))) (cwS 3 hts (pn_gS m_683 m_684 m_38 m_685) rfl rfl rfl (by decide +kernel) ⟨Nat.le_of_ble_eq_true rfl, Nat.le_of_ble_eq_true rfl⟩) pn_pre0 rfl rfl hl.1 rfl (lv_room (Nat.le_of_ble_eq_true rfl)) d_M_put_48 ⟨Nat.le_of_ble_eq_true rfl, Nat.le_of_ble_eq_true rfl⟩) ?_
        refine pr_if_eq (tgt := 58) hx hb (i3_b2 _) d_M_put_51 (by decide) (fun c_9 => ?_) (fun c_9 => ?_)
        · replace c_9 := b2_0 c_9
          refine lv_iconst (v := iI (1)) hx hb d_M_put_58 rfl ?_
          refine va_put (D := D) (ci := 5) (v := .int (iI (1))) (ty := .int) (C := R_M) (T := T_M) (N := 27) hx hb hts (in_M _) ty_M ty_M_ok nm_M hown hK hP hD hS 0 rfl rfl 0 (by decide) (ht _ m_590) (fun _ h9 => h9) rfl (by decide +kernel) rfl rfl (Nat.le_of_ble_eq_true rfl) d_M_put_59 (fun H locs hP hD hS => ?_)
          have hP : va_P D pn_cl (mw b cI cL cZ mi ml mz (nw ms 0 (1))) H := hP
          have hD : va_D A (mw b cI cL cZ mi ml mz (nw ms 0 (1))) := hD
          refine lv_aload_n hx hb d_M_put_62 rfl (lv_at hl 0 rfl) ?_
          refine va_get (D := D) (ci := 5) (v := .int (iI ((1)))) (C := R_M) (T := T_M) (N := 27) hx hb hts (in_M _) hown hK hP 0 rfl rfl 0 (by decide) (ht _ m_590) (fun _ h9 => h9) rfl d_M_put_63 ?_
          refine pr_ire (B := 1) rfl ?_
          refine pr_if_le (tgt := 71) hx hb (i3_of (by decide) (by decide)) d_M_put_66 (by decide) (fun c_10 => ?_) (fun c_10 => ?_)
          · skip
            exact absurd c_10 (by decide)
          · skip
            refine lv_iconst (v := iI (0)) hx hb d_M_put_69 rfl ?_
            exact W.iret (v := iI (0)) hx hb hr (fun t ht hW => ⟨⟨iI (0), (mi, ml, mz, nw ms 0 (1)), rfl, Or.inl (⟨by omega, rfl, rfl⟩), by rw [ht]; exact hP, hD⟩, hS.F ht⟩) hS.2.2 d_M_put_70
        · replace c_9 := b2_n1 c_9
          refine lv_iconst (v := iI (0)) hx hb d_M_put_54 rfl ?_
          refine lv_goto (tgt := 59) hx hb d_M_put_55 (by decide) ?_
          refine va_put (D := D) (ci := 5) (v := .int (iI (0))) (ty := .int) (C := R_M) (T := T_M) (N := 27) hx hb hts (in_M _) ty_M ty_M_ok nm_M hown hK hP hD hS 0 rfl rfl 0 (by decide) (ht _ m_590) (fun _ h9 => h9) rfl (by decide +kernel) rfl rfl (Nat.le_of_ble_eq_true rfl) d_M_put_59 (fun H locs hP hD hS => ?_)
          have hP : va_P D pn_cl (mw b cI cL cZ mi ml mz (nw ms 0 (0))) H := hP
          have hD : va_D A (mw b cI cL cZ mi ml mz (nw ms 0 (0))) := hD
          refine lv_aload_n hx hb d_M_put_62 rfl (lv_at hl 0 rfl) ?_
          refine va_get (D := D) (ci := 5) (v := .int (iI ((0)))) (C := R_M) (T := T_M) (N := 27) hx hb hts (in_M _) hown hK hP 0 rfl rfl 0 (by decide) (ht _ m_590) (fun _ h9 => h9) rfl d_M_put_63 ?_
          refine pr_ire (B := 0) rfl ?_
          refine pr_if_le (tgt := 71) hx hb (i3_of (by decide) (by decide)) d_M_put_66 (by decide) (fun c_11 => ?_) (fun c_11 => ?_)
          · skip
            refine lv_aload_n hx hb d_M_put_71 rfl (lv_at hl 0 rfl) ?_
            refine va_get (D := D) (ci := 5) (v := .ref (b 4)) (C := R_M) (T := T_M) (N := 27) hx hb hts (in_M _) hown hK hP 0 rfl rfl 6 (by decide) (ht _ m_596) (fun _ h9 => h9) rfl d_M_put_72 ?_
            refine lv_iload_n hx hb d_M_put_75 rfl (lv_at hl 1 rfl) ?_
            refine lv_dup2_11 hx hb d_M_put_76 rfl rfl ?_
            refine pr_lald hx hb hK hP 4 1 rfl rfl (by decide) (by omega) (by omega) d_M_put_77 ?_
            refine lv_iload_n hx hb d_M_put_78 rfl (lv_at hl 2 rfl) ?_
            refine pr_i2l hx hb (i3_of (by omega) (by omega)) d_M_put_79 ?_
            refine pr_ladd hx hb d_M_put_80 ?_
            refine pr_last (ws' := mw b cI cL cZ mi (nw ml 0 (pu (ml 0) (x) ((ml 0 (x)) + (y)))) mz (nw ms 0 (0))) hx hb hK hP hD hS 4 1 rfl rfl (by decide) (by omega) (by omega) rfl d_M_put_81 (fun H locs hP hD hS => ?_)
            refine lv_aload_n hx hb d_M_put_82 rfl (lv_at hl 0 rfl) ?_
            refine va_get (D := D) (ci := 5) (v := .ref (b 4)) (C := R_M) (T := T_M) (N := 27) hx hb hts (in_M _) hown hK hP 0 rfl rfl 6 (by decide) (ht _ m_596) (fun _ h9 => h9) rfl d_M_put_83 ?_
            refine lv_iload_n hx hb d_M_put_86 rfl (lv_at hl 1 rfl) ?_
            refine pr_lald hx hb hK hP 4 1 rfl rfl (by decide) (by omega) (by omega) d_M_put_87 ?_
            refine pr_l2i hx hb d_M_put_88 ?_
            exact W.iret (v := iI ((pu (ml 0) (x) ((ml 0 (x)) + (y))) (x))) hx hb hr (fun t ht hW => ⟨⟨iI ((pu (ml 0) (x) ((ml 0 (x)) + (y))) (x)), (mi, nw ml 0 (pu (ml 0) (x) ((ml 0 (x)) + (y))), mz, nw ms 0 (0)), rfl, Or.inr (⟨by omega, rfl, rfl⟩), by rw [ht]; exact hP, hD⟩, hS.F ht⟩) hS.2.2 d_M_put_89
          · skip
            exact absurd c_11 (by decide)
abbrev w_M_source : List Cond := .code y_M_source b_M_source 4 (some .int) :: pn_W
set_option maxHeartbeats 4000000 in
set_option maxRecDepth 100000 in
theorem c_M_source (l : Launch) {D : va_G} {b : Nat → Nat} {cI cL cZ : ClassId} {mi ml : Nat → Int → Int} {mz : Int → Int} {ms : Nat → Int} (sz : Nat) (nf : Nat → Int → Int) (ns : Nat → Int) (da : Int → Int → Int) (x y : Int) (hOk : pn_Ok nf ns da) (hR : mn_R nf ns mi ms) (hN : mn_Ok ms) (gx : i3 x) (gy : i3 y) : Met l y_M_source w_M_source ({ frames := 2, cells := 0, slots := 0, locals := 46 }) (va_Pc [.ref (b 0), .int (iI (x)), .int (iI (y))] (fun U => U.heap.size = sz ∧ va_P D pn_cl (mw b cI cL cZ mi ml mz ms) U.heap ∧ va_D (fun _ => True) (mw b cI cL cZ mi ml mz ms) ∧ mn_E D cI cL cZ U)) (va_Qi (fun (r : Int32) (u : (Nat → Int → Int) × (Nat → Int → Int) × (Int → Int) × (Nat → Int)) => (¬ ((0 ≤ x ∧ x ≤ ms 2 - 1) ∧ (0 ≤ y ∧ y ≤ 1000000)) ∧ r = iI 0 ∧ u = (mi, ml, mz, nw ms 0 (1))) ∨ (((0 ≤ x ∧ x ≤ ms 2 - 1) ∧ (0 ≤ y ∧ y ≤ 1000000)) ∧ r = iI (mi 3 (x)) ∧ u = (nw mi 3 (pu (mi 3) (x) (y)), ml, mz, nw ms 0 (0)))) (fun u t => va_P D pn_cl ((fun u : (Nat → Int → Int) × (Nat → Int → Int) × (Int → Int) × (Nat → Int) => mw b cI cL cZ u.1 u.2.1 u.2.2.1 u.2.2.2) u) t.heap ∧ va_D (va_A (mw b cI cL cZ mi ml mz ms) sz) ((fun u : (Nat → Int → Int) × (Nat → Int → Int) × (Int → Int) × (Nat → Int) => mw b cI cL cZ u.1 u.2.1 u.2.2.1 u.2.2.2) u)) (va_A (mw b cI cL cZ mi ml mz ms) sz)) 0 0 (va_A (mw b cI cL cZ mi ml mz ms) sz) := by
  refine Met.ofW (cc := b_M_source) (maxL := 4) (ret := (some .int)) (by decide) rfl ?_
  intro p e s m args below meth c s₁ B hml hv
  obtain ⟨rfl, hsz, hP, hD0, hE⟩ := hv
  have hx := B.exec
  have hb := B.bytes
  have hr := B.returns
  have hts := atoms_spec (ws := w_M_source) B.pre
  have ht : ∀ w ∈ pn_W, w.before _ s = true := fun w h => hts w (List.mem_cons_of_mem _ h)
  have hown : s.vm.findClass R_M = some m.cls := findClass_of_methodNamed B.named
  have hlocks := B.notSynchronized
  have hK := hE
  subst hsz
  have hD := hD0.self (sz := s.heap.size)
  generalize hAe : va_A (mw b cI cL cZ mi ml mz ms) s.heap.size = A at hD ⊢
  have hA : ∀ q : Nat, s.heap.size ≤ q → A q := fun q h => by rw [← hAe]; exact Or.inr h
  have hS : va_S A s.heap s.heap [] := va_S.rf
  have hl := lv_entry ([.ref (b 0), .int (iI (x)), .int (iI (y))]) (n := 4) (Nat.le_of_ble_eq_true rfl)
  rw [lg_entry_eq]
  generalize (lg_sl ([.ref (b 0), .int (iI (x)), .int (iI (y))]) ++ List.replicate (4 - (lg_sl ([.ref (b 0), .int (iI (x)), .int (iI (y))])).length) Slot.unset).toArray = ls at hl ⊢
  have hl : lv_has ls 4 [(0, .ref (b 0)), (1, .int (iI (x))), (2, .int (iI (y)))] := hl
  obtain ⟨o_zc, o_lc, o_fc, o_ve, o_wi, o_wa, o_vo, o_fr, o_to, o_he, o_ar, o_ki, o_st, o_ff, o_sl, o_dc, o_da⟩ := id hOk
  obtain ⟨r_zo, r_le, r_fa, r_wi, r_ai, r_wa, r_vo, r_lk, r_fn⟩ := id hR
  obtain ⟨n_zo, n_le, n_fa, n_ca⟩ := id hN
  obtain ⟨gx1, gx2⟩ := gx
  obtain ⟨gy1, gy2⟩ := gy
  refine lv_aload_n hx hb d_M_source_0 rfl (lv_at hl 0 rfl) ?_
  refine lv_aload_n hx hb d_M_source_1 rfl (lv_at hl 0 rfl) ?_
  refine lv_iload_n hx hb d_M_source_2 rfl (lv_at hl 1 rfl) ?_
  refine pr_pi (va_runV (As := [.int (iI (x))]) (rest := [.ref (b 0)]) ⟨hx, hb, hml, hown, hts⟩ (c_M_isZone l (x) hN (i3_of (by omega) (by omega))) (cwV 1 hts (pn_gV m_781 m_783 m_28 m_38 m_784) rfl rfl rfl (by decide +kernel) ⟨Nat.le_of_ble_eq_true rfl, Nat.le_of_ble_eq_true rfl⟩) (mn_preV (q0 := 0) (ci := 5) (q := (R_M, T_M, 27)) hP hE rfl rfl) rfl rfl hl.1 rfl (lv_room (Nat.le_of_ble_eq_true rfl)) d_M_source_3 ⟨Nat.le_of_ble_eq_true rfl, Nat.le_of_ble_eq_true rfl⟩) ?_
  refine pr_if_eq (tgt := 25) hx hb (i3_b2 _) d_M_source_6 (by decide) (fun c_1 => ?_) (fun c_1 => ?_)
  · replace c_1 := b2_0 c_1
    refine lv_iconst (v := iI (1)) hx hb d_M_source_25 rfl ?_
    refine va_put (D := D) (ci := 5) (v := .int (iI (1))) (ty := .int) (C := R_M) (T := T_M) (N := 27) hx hb hts (in_M _) ty_M ty_M_ok nm_M hown hK hP hD hS 0 rfl rfl 0 (by decide) (ht _ m_590) (fun _ h9 => h9) rfl (by decide +kernel) rfl rfl (Nat.le_of_ble_eq_true rfl) d_M_source_26 (fun H locs hP hD hS => ?_)
    have hP : va_P D pn_cl (mw b cI cL cZ mi ml mz (nw ms 0 (1))) H := hP
    have hD : va_D A (mw b cI cL cZ mi ml mz (nw ms 0 (1))) := hD
    refine lv_aload_n hx hb d_M_source_29 rfl (lv_at hl 0 rfl) ?_
    refine va_get (D := D) (ci := 5) (v := .int (iI ((1)))) (C := R_M) (T := T_M) (N := 27) hx hb hts (in_M _) hown hK hP 0 rfl rfl 0 (by decide) (ht _ m_590) (fun _ h9 => h9) rfl d_M_source_30 ?_
    refine pr_ire (B := 1) rfl ?_
    refine pr_if_le (tgt := 38) hx hb (i3_of (by decide) (by decide)) d_M_source_33 (by decide) (fun c_2 => ?_) (fun c_2 => ?_)
    · skip
      exact absurd c_2 (by decide)
    · skip
      refine lv_iconst (v := iI (0)) hx hb d_M_source_36 rfl ?_
      exact W.iret (v := iI (0)) hx hb hr (fun t ht hW => ⟨⟨iI (0), (mi, ml, mz, nw ms 0 (1)), rfl, Or.inl (⟨by omega, rfl, rfl⟩), by rw [ht]; exact hP, hD⟩, hS.F ht⟩) hS.2.2 d_M_source_37
  · replace c_1 := b2_n1 c_1
    refine lv_iload_n hx hb d_M_source_9 rfl (lv_at hl 2 rfl) ?_
    refine pr_i2l hx hb (i3_of (by omega) (by omega)) d_M_source_10 ?_
    refine lv_lconst (v := lI 0) hx hb d_M_source_11 (by decide) ?_
    refine lv_ldc2 (v := lI (1000000)) hx hb hown (ht (.constantLong _ 172 (lI (1000000))) m_804) d_M_source_12 ?_
    refine pr_pi (va_runS (As := [.long (lI (y)), .long (lI (0)), .long (lI (1000000))]) (rest := [.ref (b 0)]) ⟨hx, hb, hml, hown, hts⟩ (c_M_in l (y) (0) (1000000) (i6_of (by omega) (by omega)) (i6_of (by decide) (by decide)) (i6_of (by decide) (by decide))) (cwS 3 hts (pn_gS m_683 m_684 m_38 m_685) rfl rfl rfl (by decide +kernel) ⟨Nat.le_of_ble_eq_true rfl, Nat.le_of_ble_eq_true rfl⟩) pn_pre0 rfl rfl hl.1 rfl (lv_room (Nat.le_of_ble_eq_true rfl)) d_M_source_15 ⟨Nat.le_of_ble_eq_true rfl, Nat.le_of_ble_eq_true rfl⟩) ?_
    refine pr_if_eq (tgt := 25) hx hb (i3_b2 _) d_M_source_18 (by decide) (fun c_3 => ?_) (fun c_3 => ?_)
    · replace c_3 := b2_0 c_3
      refine lv_iconst (v := iI (1)) hx hb d_M_source_25 rfl ?_
      refine va_put (D := D) (ci := 5) (v := .int (iI (1))) (ty := .int) (C := R_M) (T := T_M) (N := 27) hx hb hts (in_M _) ty_M ty_M_ok nm_M hown hK hP hD hS 0 rfl rfl 0 (by decide) (ht _ m_590) (fun _ h9 => h9) rfl (by decide +kernel) rfl rfl (Nat.le_of_ble_eq_true rfl) d_M_source_26 (fun H locs hP hD hS => ?_)
      have hP : va_P D pn_cl (mw b cI cL cZ mi ml mz (nw ms 0 (1))) H := hP
      have hD : va_D A (mw b cI cL cZ mi ml mz (nw ms 0 (1))) := hD
      refine lv_aload_n hx hb d_M_source_29 rfl (lv_at hl 0 rfl) ?_
      refine va_get (D := D) (ci := 5) (v := .int (iI ((1)))) (C := R_M) (T := T_M) (N := 27) hx hb hts (in_M _) hown hK hP 0 rfl rfl 0 (by decide) (ht _ m_590) (fun _ h9 => h9) rfl d_M_source_30 ?_
      refine pr_ire (B := 1) rfl ?_
      refine pr_if_le (tgt := 38) hx hb (i3_of (by decide) (by decide)) d_M_source_33 (by decide) (fun c_4 => ?_) (fun c_4 => ?_)
      · skip
        exact absurd c_4 (by decide)
      · skip
        refine lv_iconst (v := iI (0)) hx hb d_M_source_36 rfl ?_
        exact W.iret (v := iI (0)) hx hb hr (fun t ht hW => ⟨⟨iI (0), (mi, ml, mz, nw ms 0 (1)), rfl, Or.inl (⟨by omega, rfl, rfl⟩), by rw [ht]; exact hP, hD⟩, hS.F ht⟩) hS.2.2 d_M_source_37
    · replace c_3 := b2_n1 c_3
      refine lv_iconst (v := iI (0)) hx hb d_M_source_21 rfl ?_
      refine lv_goto (tgt := 26) hx hb d_M_source_22 (by decide) ?_
      refine va_put (D := D) (ci := 5) (v := .int (iI (0))) (ty := .int) (C := R_M) (T := T_M) (N := 27) hx hb hts (in_M _) ty_M ty_M_ok nm_M hown hK hP hD hS 0 rfl rfl 0 (by decide) (ht _ m_590) (fun _ h9 => h9) rfl (by decide +kernel) rfl rfl (Nat.le_of_ble_eq_true rfl) d_M_source_26 (fun H locs hP hD hS => ?_)
      have hP : va_P D pn_cl (mw b cI cL cZ mi ml mz (nw ms 0 (0))) H := hP
      have hD : va_D A (mw b cI cL cZ mi ml mz (nw ms 0 (0))) := hD
      refine lv_aload_n hx hb d_M_source_29 rfl (lv_at hl 0 rfl) ?_
      refine va_get (D := D) (ci := 5) (v := .int (iI ((0)))) (C := R_M) (T := T_M) (N := 27) hx hb hts (in_M _) hown hK hP 0 rfl rfl 0 (by decide) (ht _ m_590) (fun _ h9 => h9) rfl d_M_source_30 ?_
      refine pr_ire (B := 0) rfl ?_
      refine pr_if_le (tgt := 38) hx hb (i3_of (by decide) (by decide)) d_M_source_33 (by decide) (fun c_5 => ?_) (fun c_5 => ?_)
      · skip
        refine lv_aload_n hx hb d_M_source_38 rfl (lv_at hl 0 rfl) ?_
        refine va_get (D := D) (ci := 5) (v := .ref (b 5)) (C := R_M) (T := T_M) (N := 27) hx hb hts (in_M _) hown hK hP 0 rfl rfl 7 (by decide) (ht _ m_597) (fun _ h9 => h9) rfl d_M_source_39 ?_
        refine lv_iload_n hx hb d_M_source_42 rfl (lv_at hl 1 rfl) ?_
        refine pr_iald hx hb hK hP 5 0 rfl rfl (by decide) (by omega) (by omega) d_M_source_43 ?_
        refine lv_istore_n (lv' := [(3, .int (iI (mi 3 (x)))), (0, .ref (b 0)), (1, .int (iI (x))), (2, .int (iI (y)))]) hx hb d_M_source_44 rfl hl (by decide) rfl (fun ls hl => ?_)
        refine lv_aload_n hx hb d_M_source_45 rfl (lv_at hl 1 rfl) ?_
        refine va_get (D := D) (ci := 5) (v := .ref (b 5)) (C := R_M) (T := T_M) (N := 27) hx hb hts (in_M _) hown hK hP 0 rfl rfl 7 (by decide) (ht _ m_597) (fun _ h9 => h9) rfl d_M_source_46 ?_
        refine lv_iload_n hx hb d_M_source_49 rfl (lv_at hl 2 rfl) ?_
        refine lv_iload_n hx hb d_M_source_50 rfl (lv_at hl 3 rfl) ?_
        refine pr_iast (ws' := mw b cI cL cZ (nw mi 3 (pu (mi 3) (x) (y))) ml mz (nw ms 0 (0))) hx hb hK hP hD hS 5 0 rfl rfl (by decide) (by omega) (by omega) rfl d_M_source_51 (fun H locs hP hD hS => ?_)
        refine lv_iload_n hx hb d_M_source_52 rfl (lv_at hl 0 rfl) ?_
        exact W.iret (v := iI (mi 3 (x))) hx hb hr (fun t ht hW => ⟨⟨iI (mi 3 (x)), (nw mi 3 (pu (mi 3) (x) (y)), ml, mz, nw ms 0 (0)), rfl, Or.inr (⟨by omega, rfl, rfl⟩), by rw [ht]; exact hP, hD⟩, hS.F ht⟩) hS.2.2 d_M_source_53
      · skip
        exact absurd c_5 (by decide)
abbrev w_M_gone : List Cond := .code y_M_gone b_M_gone 2 (some .long) :: pn_W
set_option maxHeartbeats 4000000 in
set_option maxRecDepth 100000 in
theorem c_M_gone (l : Launch) {D : va_G} {b : Nat → Nat} {cI cL cZ : ClassId} {mi ml : Nat → Int → Int} {mz : Int → Int} {ms : Nat → Int} (sz : Nat) (nf : Nat → Int → Int) (ns : Nat → Int) (da : Int → Int → Int) (x : Int) (hOk : pn_Ok nf ns da) (hR : mn_R nf ns mi ms) (hN : mn_Ok ms) (gx : i3 x) : Met l y_M_gone w_M_gone ({ frames := 1, cells := 0, slots := 0, locals := 25 }) (va_Pc [.ref (b 0), .int (iI (x))] (fun U => U.heap.size = sz ∧ va_P D pn_cl (mw b cI cL cZ mi ml mz ms) U.heap ∧ va_D (fun _ => True) (mw b cI cL cZ mi ml mz ms) ∧ mn_E D cI cL cZ U)) (va_Ql (fun (r : Int64) (u : (Nat → Int → Int) × (Nat → Int → Int) × (Int → Int) × (Nat → Int)) => (¬ (-4 ≤ x ∧ x ≤ -1) ∧ r = lI 0 ∧ u = (mi, ml, mz, nw ms 0 (1))) ∨ ((-4 ≤ x ∧ x ≤ -1) ∧ r = lI (ml 1 (x + 4)) ∧ u = (mi, ml, mz, nw ms 0 (0)))) (fun u t => va_P D pn_cl ((fun u : (Nat → Int → Int) × (Nat → Int → Int) × (Int → Int) × (Nat → Int) => mw b cI cL cZ u.1 u.2.1 u.2.2.1 u.2.2.2) u) t.heap ∧ va_D (va_A (mw b cI cL cZ mi ml mz ms) sz) ((fun u : (Nat → Int → Int) × (Nat → Int → Int) × (Int → Int) × (Nat → Int) => mw b cI cL cZ u.1 u.2.1 u.2.2.1 u.2.2.2) u)) (va_A (mw b cI cL cZ mi ml mz ms) sz)) 0 0 (va_A (mw b cI cL cZ mi ml mz ms) sz) := by
  refine Met.ofW (cc := b_M_gone) (maxL := 2) (ret := (some .long)) (by decide) rfl ?_
  intro p e s m args below meth c s₁ B hml hv
  obtain ⟨rfl, hsz, hP, hD0, hE⟩ := hv
  have hx := B.exec
  have hb := B.bytes
  have hr := B.returns
  have hts := atoms_spec (ws := w_M_gone) B.pre
  have ht : ∀ w ∈ pn_W, w.before _ s = true := fun w h => hts w (List.mem_cons_of_mem _ h)
  have hown : s.vm.findClass R_M = some m.cls := findClass_of_methodNamed B.named
  have hlocks := B.notSynchronized
  have hK := hE
  subst hsz
  have hD := hD0.self (sz := s.heap.size)
  generalize hAe : va_A (mw b cI cL cZ mi ml mz ms) s.heap.size = A at hD ⊢
  have hA : ∀ q : Nat, s.heap.size ≤ q → A q := fun q h => by rw [← hAe]; exact Or.inr h
  have hS : va_S A s.heap s.heap [] := va_S.rf
  have hl := lv_entry ([.ref (b 0), .int (iI (x))]) (n := 2) (Nat.le_of_ble_eq_true rfl)
  rw [lg_entry_eq]
  generalize (lg_sl ([.ref (b 0), .int (iI (x))]) ++ List.replicate (2 - (lg_sl ([.ref (b 0), .int (iI (x))])).length) Slot.unset).toArray = ls at hl ⊢
  have hl : lv_has ls 2 [(0, .ref (b 0)), (1, .int (iI (x)))] := hl
  obtain ⟨o_zc, o_lc, o_fc, o_ve, o_wi, o_wa, o_vo, o_fr, o_to, o_he, o_ar, o_ki, o_st, o_ff, o_sl, o_dc, o_da⟩ := id hOk
  obtain ⟨r_zo, r_le, r_fa, r_wi, r_ai, r_wa, r_vo, r_lk, r_fn⟩ := id hR
  obtain ⟨n_zo, n_le, n_fa, n_ca⟩ := id hN
  obtain ⟨gx1, gx2⟩ := gx
  refine lv_aload_n hx hb d_M_gone_0 rfl (lv_at hl 0 rfl) ?_
  refine lv_iload_n hx hb d_M_gone_1 rfl (lv_at hl 1 rfl) ?_
  refine pr_i2l hx hb (i3_of (by omega) (by omega)) d_M_gone_2 ?_
  refine lv_ldc2 (v := lI (-4)) hx hb hown (ht (.constantLong _ 83 (lI (-4))) m_691) d_M_gone_3 ?_
  refine lv_ldc2 (v := lI (-1)) hx hb hown (ht (.constantLong _ 91 (lI (-1))) m_692) d_M_gone_6 ?_
  refine pr_pi (va_runS (As := [.long (lI (x)), .long (lI (-4)), .long (lI (-1))]) (rest := [.ref (b 0)]) ⟨hx, hb, hml, hown, hts⟩ (c_M_in l (x) (-4) (-1) (i6_of (by omega) (by omega)) (i6_of (by decide) (by decide)) (i6_of (by decide) (by decide))) (cwS 3 hts (pn_gS m_683 m_684 m_38 m_685) rfl rfl rfl (by decide +kernel) ⟨Nat.le_of_ble_eq_true rfl, Nat.le_of_ble_eq_true rfl⟩) pn_pre0 rfl rfl hl.1 rfl (lv_room (Nat.le_of_ble_eq_true rfl)) d_M_gone_9 ⟨Nat.le_of_ble_eq_true rfl, Nat.le_of_ble_eq_true rfl⟩) ?_
  refine pr_if_eq (tgt := 19) hx hb (i3_b2 _) d_M_gone_12 (by decide) (fun c_1 => ?_) (fun c_1 => ?_)
  · replace c_1 := b2_0 c_1
    refine lv_iconst (v := iI (1)) hx hb d_M_gone_19 rfl ?_
    refine va_put (D := D) (ci := 5) (v := .int (iI (1))) (ty := .int) (C := R_M) (T := T_M) (N := 27) hx hb hts (in_M _) ty_M ty_M_ok nm_M hown hK hP hD hS 0 rfl rfl 0 (by decide) (ht _ m_590) (fun _ h9 => h9) rfl (by decide +kernel) rfl rfl (Nat.le_of_ble_eq_true rfl) d_M_gone_20 (fun H locs hP hD hS => ?_)
    have hP : va_P D pn_cl (mw b cI cL cZ mi ml mz (nw ms 0 (1))) H := hP
    have hD : va_D A (mw b cI cL cZ mi ml mz (nw ms 0 (1))) := hD
    refine lv_aload_n hx hb d_M_gone_23 rfl (lv_at hl 0 rfl) ?_
    refine va_get (D := D) (ci := 5) (v := .int (iI ((1)))) (C := R_M) (T := T_M) (N := 27) hx hb hts (in_M _) hown hK hP 0 rfl rfl 0 (by decide) (ht _ m_590) (fun _ h9 => h9) rfl d_M_gone_24 ?_
    refine pr_ire (B := 1) rfl ?_
    refine pr_if_le (tgt := 34) hx hb (i3_of (by decide) (by decide)) d_M_gone_27 (by decide) (fun c_2 => ?_) (fun c_2 => ?_)
    · skip
      exact absurd c_2 (by decide)
    · skip
      refine lv_lconst (v := lI 0) hx hb d_M_gone_30 (by decide) ?_
      refine lv_goto (tgt := 42) hx hb d_M_gone_31 (by decide) ?_
      exact W.lret (v := lI (0)) hx hb hr (fun t ht hW => ⟨⟨lI (0), (mi, ml, mz, nw ms 0 (1)), rfl, Or.inl (⟨by omega, rfl, rfl⟩), by rw [ht]; exact hP, hD⟩, hS.F ht⟩) hS.2.2 d_M_gone_42
  · replace c_1 := b2_n1 c_1
    refine lv_iconst (v := iI (0)) hx hb d_M_gone_15 rfl ?_
    refine lv_goto (tgt := 20) hx hb d_M_gone_16 (by decide) ?_
    refine va_put (D := D) (ci := 5) (v := .int (iI (0))) (ty := .int) (C := R_M) (T := T_M) (N := 27) hx hb hts (in_M _) ty_M ty_M_ok nm_M hown hK hP hD hS 0 rfl rfl 0 (by decide) (ht _ m_590) (fun _ h9 => h9) rfl (by decide +kernel) rfl rfl (Nat.le_of_ble_eq_true rfl) d_M_gone_20 (fun H locs hP hD hS => ?_)
    have hP : va_P D pn_cl (mw b cI cL cZ mi ml mz (nw ms 0 (0))) H := hP
    have hD : va_D A (mw b cI cL cZ mi ml mz (nw ms 0 (0))) := hD
    refine lv_aload_n hx hb d_M_gone_23 rfl (lv_at hl 0 rfl) ?_
    refine va_get (D := D) (ci := 5) (v := .int (iI ((0)))) (C := R_M) (T := T_M) (N := 27) hx hb hts (in_M _) hown hK hP 0 rfl rfl 0 (by decide) (ht _ m_590) (fun _ h9 => h9) rfl d_M_gone_24 ?_
    refine pr_ire (B := 0) rfl ?_
    refine pr_if_le (tgt := 34) hx hb (i3_of (by decide) (by decide)) d_M_gone_27 (by decide) (fun c_3 => ?_) (fun c_3 => ?_)
    · skip
      refine lv_aload_n hx hb d_M_gone_34 rfl (lv_at hl 0 rfl) ?_
      refine va_get (D := D) (ci := 5) (v := .ref (b 17)) (C := R_M) (T := T_M) (N := 27) hx hb hts (in_M _) hown hK hP 0 rfl rfl 22 (by decide) (ht _ m_612) (fun _ h9 => h9) rfl d_M_gone_35 ?_
      refine lv_iload_n hx hb d_M_gone_38 rfl (lv_at hl 1 rfl) ?_
      refine lv_iconst (v := iI (4)) hx hb d_M_gone_39 rfl ?_
      refine pr_iadd hx hb d_M_gone_40 ?_
      refine pr_lald hx hb hK hP 17 1 rfl rfl (by decide) (by omega) (by omega) d_M_gone_41 ?_
      exact W.lret (v := lI (ml 1 (x + 4))) hx hb hr (fun t ht hW => ⟨⟨lI (ml 1 (x + 4)), (mi, ml, mz, nw ms 0 (0)), rfl, Or.inr (⟨by omega, rfl, rfl⟩), by rw [ht]; exact hP, hD⟩, hS.F ht⟩) hS.2.2 d_M_gone_42
    · skip
      exact absurd c_3 (by decide)
