abbrev w_N_driveOf : List Cond := .code y_N_driveOf b_N_driveOf 3 (some .int) :: pn_W
set_option maxHeartbeats 4000000 in
set_option maxRecDepth 100000 in
theorem c_N_driveOf (l : Launch) {D : va_G} {a : Nat → Nat} {cI cL cD cS : ClassId} {nf : Nat → Int → Int} {ns : Nat → Int} {da : Int → Int → Int} {be : Int → Int} {ui ul : Nat → Int → Int} {cn : Int} {ss : Nat → Nat} {mf sd : Nat → Int} {pr : Nat → Int → Int} (k : Nat) (d : Int) (hOk : pn_Ok nf ns da) (hk : k < 9) (gd : 0 ≤ d ∧ d < 20) : Met l y_N_driveOf w_N_driveOf ({ frames := 0, cells := 0, slots := 0, locals := 0 }) (va_Pc [.ref (a 1), .int (iI (d)), .ref (a (37 + 2 * k))] (fun U => va_P D pn_cl (cw a cI cL cD cS nf ns da be ui ul cn ss mf sd pr) U.heap ∧ pn_E D cI cL cD cS U)) (vp_Si (fun r => r = iI (m_drive nf (pr k) d))) 0 0 (fun _ => False) := by
  refine Met.ofW (cc := b_N_driveOf) (maxL := 3) (ret := (some .int)) (by decide) rfl ?_
  intro p e s m args below meth c s₁ B hml hv
  obtain ⟨rfl, hP, hE⟩ := hv
  have hx := B.exec
  have hb := B.bytes
  have hr := B.returns
  have hts := atoms_spec (ws := w_N_driveOf) B.pre
  have ht : ∀ w ∈ pn_W, w.before _ s = true := fun w h => hts w (List.mem_cons_of_mem _ h)
  have hown : s.vm.findClass R_N = some m.cls := findClass_of_methodNamed B.named
  have hlocks := B.notSynchronized
  have hK := hE.1
  have hl := lv_entry ([.ref (a 1), .int (iI (d)), .ref (a (37 + 2 * k))]) (n := 3) (Nat.le_of_ble_eq_true rfl)
  rw [lg_entry_eq]
  generalize (lg_sl ([.ref (a 1), .int (iI (d)), .ref (a (37 + 2 * k))]) ++ List.replicate (3 - (lg_sl ([.ref (a 1), .int (iI (d)), .ref (a (37 + 2 * k))])).length) Slot.unset).toArray = ls at hl ⊢
  have hl : lv_has ls 3 [(0, .ref (a 1)), (1, .int (iI (d))), (2, .ref (a (37 + 2 * k)))] := hl
  obtain ⟨o_zc, o_lc, o_fc, o_ve, o_wi, o_wa, o_vo, o_fr, o_to, o_he, o_ar, o_ki, o_st, o_ff, o_sl, o_dc, o_da⟩ := id hOk
  have a1 := o_fr d (by omega) (by omega)
  have a2 := o_to d (by omega) (by omega)
  refine lv_aload_n hx hb d_N_driveOf_0 rfl (lv_at hl 2 rfl) ?_
  refine lv_aload_n hx hb d_N_driveOf_1 rfl (lv_at hl 0 rfl) ?_
  refine va_get (D := D) (ci := 1) (v := .ref (a 5)) (C := R_N) (T := T_N) (N := 17) hx hb hts (in_N _) hown hK hP 1 rfl rfl 3 (by decide) (ht _ m_69) (fun _ h9 => h9) rfl d_N_driveOf_2 ?_
  refine lv_iload_n hx hb d_N_driveOf_5 rfl (lv_at hl 1 rfl) ?_
  refine pr_iald hx hb hK hP 5 0 rfl rfl (by decide) (by omega) (by omega) d_N_driveOf_6 ?_
  refine pr_iald hx hb hK hP (37 + 2 * k) 0 (cw_sp k hk) rfl (by decide) (by omega) (by omega) d_N_driveOf_7 ?_
  refine lv_aload_n hx hb d_N_driveOf_8 rfl (lv_at hl 2 rfl) ?_
  refine lv_aload_n hx hb d_N_driveOf_9 rfl (lv_at hl 0 rfl) ?_
  refine va_get (D := D) (ci := 1) (v := .ref (a 6)) (C := R_N) (T := T_N) (N := 17) hx hb hts (in_N _) hown hK hP 1 rfl rfl 4 (by decide) (ht _ m_71) (fun _ h9 => h9) rfl d_N_driveOf_10 ?_
  refine lv_iload_n hx hb d_N_driveOf_13 rfl (lv_at hl 1 rfl) ?_
  refine pr_iald hx hb hK hP 6 0 rfl rfl (by decide) (by omega) (by omega) d_N_driveOf_14 ?_
  refine pr_iald hx hb hK hP (37 + 2 * k) 0 (cw_sp k hk) rfl (by decide) (by omega) (by omega) d_N_driveOf_15 ?_
  refine pr_isub hx hb d_N_driveOf_16 ?_
  refine lv_aload_n hx hb d_N_driveOf_17 rfl (lv_at hl 0 rfl) ?_
  refine va_get (D := D) (ci := 1) (v := .ref (a 10)) (C := R_N) (T := T_N) (N := 17) hx hb hts (in_N _) hown hK hP 1 rfl rfl 8 (by decide) (ht _ m_76) (fun _ h9 => h9) rfl d_N_driveOf_18 ?_
  refine lv_iload_n hx hb d_N_driveOf_21 rfl (lv_at hl 1 rfl) ?_
  refine pr_iald hx hb hK hP 10 0 rfl rfl (by decide) (by omega) (by omega) d_N_driveOf_22 ?_
  refine pr_iadd hx hb d_N_driveOf_23 ?_
  exact pr_ri hx hb hr hlocks d_N_driveOf_24 (by first | rfl | exact (b2_t (by omega)).symm | exact (b2_f (by omega)).symm)
abbrev w_N_isDuct : List Cond := .code y_N_isDuct b_N_isDuct 2 (some .boolean) :: pn_W
set_option maxHeartbeats 4000000 in
set_option maxRecDepth 100000 in
theorem c_N_isDuct (l : Launch) {D : va_G} {a : Nat → Nat} {cI cL cD cS : ClassId} {nf : Nat → Int → Int} {ns : Nat → Int} {da : Int → Int → Int} {be : Int → Int} {ui ul : Nat → Int → Int} {cn : Int} {ss : Nat → Nat} {mf sd : Nat → Int} {pr : Nat → Int → Int} (d : Int) (hOk : pn_Ok nf ns da) (gd : 0 ≤ d ∧ d < 24) : Met l y_N_isDuct w_N_isDuct ({ frames := 0, cells := 0, slots := 0, locals := 0 }) (va_Pc [.ref (a 1), .int (iI (d))] (fun U => va_P D pn_cl (cw a cI cL cD cS nf ns da be ui ul cn ss mf sd pr) U.heap ∧ pn_E D cI cL cD cS U)) (vp_Si (fun r => r = iI (b2 ((d < 20 ∧ d < ns 1) ∨ (20 ≤ d ∧ d - 20 < ns 2))))) 0 0 (fun _ => False) := by
  refine Met.ofW (cc := b_N_isDuct) (maxL := 2) (ret := (some .boolean)) (by decide) rfl ?_
  intro p e s m args below meth c s₁ B hml hv
  obtain ⟨rfl, hP, hE⟩ := hv
  have hx := B.exec
  have hb := B.bytes
  have hr := B.returns
  have hts := atoms_spec (ws := w_N_isDuct) B.pre
  have ht : ∀ w ∈ pn_W, w.before _ s = true := fun w h => hts w (List.mem_cons_of_mem _ h)
  have hown : s.vm.findClass R_N = some m.cls := findClass_of_methodNamed B.named
  have hlocks := B.notSynchronized
  have hK := hE.1
  have hl := lv_entry ([.ref (a 1), .int (iI (d))]) (n := 2) (Nat.le_of_ble_eq_true rfl)
  rw [lg_entry_eq]
  generalize (lg_sl ([.ref (a 1), .int (iI (d))]) ++ List.replicate (2 - (lg_sl ([.ref (a 1), .int (iI (d))])).length) Slot.unset).toArray = ls at hl ⊢
  have hl : lv_has ls 2 [(0, .ref (a 1)), (1, .int (iI (d)))] := hl
  obtain ⟨o_zc, o_lc, o_fc, o_ve, o_wi, o_wa, o_vo, o_fr, o_to, o_he, o_ar, o_ki, o_st, o_ff, o_sl, o_dc, o_da⟩ := id hOk
  refine lv_iload_n hx hb d_N_isDuct_0 rfl (lv_at hl 1 rfl) ?_
  refine lv_bipush (v := iI (20)) hx hb d_N_isDuct_1 (by decide) ?_
  refine pr_icmp_ge (tgt := 22) hx hb (i3_of (by omega) (by omega)) (i3_of (by decide) (by decide)) d_N_isDuct_3 (by decide) (fun c_1 => ?_) (fun c_1 => ?_)
  · skip
    refine lv_iload_n hx hb d_N_isDuct_22 rfl (lv_at hl 1 rfl) ?_
    refine lv_bipush (v := iI (20)) hx hb d_N_isDuct_23 (by decide) ?_
    refine pr_isub hx hb d_N_isDuct_25 ?_
    refine lv_aload_n hx hb d_N_isDuct_26 rfl (lv_at hl 0 rfl) ?_
    refine va_get (D := D) (ci := 1) (v := .int (iI (ns 2))) (C := R_N) (T := T_N) (N := 17) hx hb hts (in_N _) hown hK hP 1 rfl rfl 15 (by decide) (ht _ m_87) (fun _ h9 => h9) rfl d_N_isDuct_27 ?_
    refine pr_icmp_ge (tgt := 37) hx hb (i3_of (by omega) (by omega)) (i3_of (by omega) (by omega)) d_N_isDuct_30 (by decide) (fun c_2 => ?_) (fun c_2 => ?_)
    · skip
      refine lv_iconst (v := iI (0)) hx hb d_N_isDuct_37 rfl ?_
      exact pr_rz hx hb hr hlocks d_N_isDuct_38 (by first | exact Or.inl rfl | exact Or.inr rfl | exact b2_01 _) (by first | rfl | exact (b2_t (by omega)).symm | exact (b2_f (by omega)).symm)
    · skip
      refine lv_iconst (v := iI (1)) hx hb d_N_isDuct_33 rfl ?_
      refine lv_goto (tgt := 38) hx hb d_N_isDuct_34 (by decide) ?_
      exact pr_rz hx hb hr hlocks d_N_isDuct_38 (by first | exact Or.inl rfl | exact Or.inr rfl | exact b2_01 _) (by first | rfl | exact (b2_t (by omega)).symm | exact (b2_f (by omega)).symm)
  · skip
    refine lv_iload_n hx hb d_N_isDuct_6 rfl (lv_at hl 1 rfl) ?_
    refine lv_aload_n hx hb d_N_isDuct_7 rfl (lv_at hl 0 rfl) ?_
    refine va_get (D := D) (ci := 1) (v := .int (iI (ns 1))) (C := R_N) (T := T_N) (N := 17) hx hb hts (in_N _) hown hK hP 1 rfl rfl 14 (by decide) (ht _ m_85) (fun _ h9 => h9) rfl d_N_isDuct_8 ?_
    refine pr_icmp_ge (tgt := 18) hx hb (i3_of (by omega) (by omega)) (i3_of (by omega) (by omega)) d_N_isDuct_11 (by decide) (fun c_3 => ?_) (fun c_3 => ?_)
    · skip
      refine lv_iconst (v := iI (0)) hx hb d_N_isDuct_18 rfl ?_
      refine lv_goto (tgt := 38) hx hb d_N_isDuct_19 (by decide) ?_
      exact pr_rz hx hb hr hlocks d_N_isDuct_38 (by first | exact Or.inl rfl | exact Or.inr rfl | exact b2_01 _) (by first | rfl | exact (b2_t (by omega)).symm | exact (b2_f (by omega)).symm)
    · skip
      refine lv_iconst (v := iI (1)) hx hb d_N_isDuct_14 rfl ?_
      refine lv_goto (tgt := 38) hx hb d_N_isDuct_15 (by decide) ?_
      exact pr_rz hx hb hr hlocks d_N_isDuct_38 (by first | exact Or.inl rfl | exact Or.inr rfl | exact b2_01 _) (by first | rfl | exact (b2_t (by omega)).symm | exact (b2_f (by omega)).symm)
abbrev w_N_flowOf : List Cond := .code y_N_flowOf b_N_flowOf 7 (some .int) :: pn_W
set_option maxHeartbeats 4000000 in
set_option maxRecDepth 100000 in
theorem c_N_flowOf (l : Launch) {D : va_G} {a : Nat → Nat} {cI cL cD cS : ClassId} {nf : Nat → Int → Int} {ns : Nat → Int} {da : Int → Int → Int} {be : Int → Int} {ui ul : Nat → Int → Int} {cn : Int} {ss : Nat → Nat} {mf sd : Nat → Int} {pr : Nat → Int → Int} (k : Nat) (d : Int) (hOk : pn_Ok nf ns da) (hk : k < 9) (hPr : pn_Pr (pr k)) (hss : ss k < 2 ^ 20) (gd : 0 ≤ d ∧ d < 24) : Met l y_N_flowOf w_N_flowOf ({ frames := 1, cells := 0, slots := 0, locals := 30 }) (va_Pc [.ref (a 1), .int (iI (d)), .ref (a (36 + 2 * k))] (fun U => va_P D pn_cl (cw a cI cL cD cS nf ns da be ui ul cn ss mf sd pr) U.heap ∧ pn_E D cI cL cD cS U)) (vp_Si (fun r => r = iI (m_flow nf (ss k) (pr k) d))) 0 0 (fun _ => False) := by
  refine Met.ofW (cc := b_N_flowOf) (maxL := 7) (ret := (some .int)) (by decide) rfl ?_
  intro p e s m args below meth c s₁ B hml hv
  obtain ⟨rfl, hP, hE⟩ := hv
  have hx := B.exec
  have hb := B.bytes
  have hr := B.returns
  have hts := atoms_spec (ws := w_N_flowOf) B.pre
  have ht : ∀ w ∈ pn_W, w.before _ s = true := fun w h => hts w (List.mem_cons_of_mem _ h)
  have hown : s.vm.findClass R_N = some m.cls := findClass_of_methodNamed B.named
  have hlocks := B.notSynchronized
  have hK := hE.1
  have hl := lv_entry ([.ref (a 1), .int (iI (d)), .ref (a (36 + 2 * k))]) (n := 7) (Nat.le_of_ble_eq_true rfl)
  rw [lg_entry_eq]
  generalize (lg_sl ([.ref (a 1), .int (iI (d)), .ref (a (36 + 2 * k))]) ++ List.replicate (7 - (lg_sl ([.ref (a 1), .int (iI (d)), .ref (a (36 + 2 * k))])).length) Slot.unset).toArray = ls at hl ⊢
  have hl : lv_has ls 7 [(0, .ref (a 1)), (1, .int (iI (d))), (2, .ref (a (36 + 2 * k)))] := hl
  obtain ⟨o_zc, o_lc, o_fc, o_ve, o_wi, o_wa, o_vo, o_fr, o_to, o_he, o_ar, o_ki, o_st, o_ff, o_sl, o_dc, o_da⟩ := id hOk
  have a1 := o_fr d (by omega) (by omega)
  have a2 := o_to d (by omega) (by omega)
  have p1 := hPr (nf 3 d) a1.1 (by omega)
  have p2 := hPr (nf 4 d) a2.1 (by omega)
  refine lv_aload_n hx hb d_N_flowOf_0 rfl (lv_at hl 2 rfl) ?_
  refine va_get (D := D) (ci := 3) (v := .ref (a (37 + 2 * k))) (C := R_T) (T := T_T) (N := 4) hx hb hts (in_T _) hown hK hP (36 + 2 * k) (cw_so k hk) rfl 0 (by decide) (ht _ m_177) (fun _ h9 => h9) rfl d_N_flowOf_1 ?_
  refine lv_astore_n (lv' := [(3, .ref (a (37 + 2 * k))), (0, .ref (a 1)), (1, .int (iI (d))), (2, .ref (a (36 + 2 * k)))]) hx hb d_N_flowOf_4 rfl hl (by decide) rfl (fun ls hl => ?_)
  refine lv_iload_n hx hb d_N_flowOf_5 rfl (lv_at hl 2 rfl) ?_
  refine lv_bipush (v := iI (20)) hx hb d_N_flowOf_6 (by decide) ?_
  refine pr_icmp_lt (tgt := 75) hx hb (i3_of (by omega) (by omega)) (i3_of (by decide) (by decide)) d_N_flowOf_8 (by decide) (fun c_1 => ?_) (fun c_1 => ?_)
  · skip
    refine lv_aload_n hx hb d_N_flowOf_75 rfl (lv_at hl 3 rfl) ?_
    refine va_get (D := D) (ci := 3) (v := .int (iI ((ss k : Nat)))) (C := R_T) (T := T_T) (N := 4) hx hb hts (in_T _) hown hK hP (36 + 2 * k) (cw_so k hk) rfl 1 (by decide) (ht _ m_180) (fun _ h9 => h9) rfl d_N_flowOf_76 ?_
    refine lv_iload_n hx hb d_N_flowOf_79 rfl (lv_at hl 2 rfl) ?_
    refine pr_ire (B := ((d.toNat : Nat) : Int)) (Int.toNat_of_nonneg gd.1).symm ?_
    refine lv_ishr hx hb d_N_flowOf_80 ?_
    refine lv_iconst (v := iI 1) hx hb d_N_flowOf_81 rfl ?_
    refine lv_iand hx hb d_N_flowOf_82 ?_
    refine pr_ixe (B := b2 ((ss k).testBit (d.toNat) = true)) (nb_bit (by omega) (by omega)) ?_
    refine pr_if_eq (tgt := 88) hx hb (i3_b2 _) d_N_flowOf_83 (by decide) (fun c_2 => ?_) (fun c_2 => ?_)
    · replace c_2 := b2_0 c_2
      refine lv_aload_n hx hb d_N_flowOf_88 rfl (lv_at hl 1 rfl) ?_
      refine lv_iload_n hx hb d_N_flowOf_89 rfl (lv_at hl 2 rfl) ?_
      refine lv_aload_n hx hb d_N_flowOf_90 rfl (lv_at hl 0 rfl) ?_
      refine pr_pi (va_runV (As := [.int (iI (d)), .ref (a (37 + 2 * k))]) (rest := []) ⟨hx, hb, hml, hown, hts⟩ (c_N_driveOf l k (d) hOk hk ⟨by omega, by omega⟩) (cwV 2 hts (pn_gV m_462 m_463 m_464 m_34 m_465) rfl rfl rfl (by decide +kernel) ⟨Nat.le_of_ble_eq_true rfl, Nat.le_of_ble_eq_true rfl⟩) (pn_preV (q0 := 1) (ci := 1) (q := (R_N, T_N, 17)) hP hE rfl rfl) rfl rfl hl.1 rfl (lv_room (Nat.le_of_ble_eq_true rfl)) d_N_flowOf_91 ⟨Nat.le_of_ble_eq_true rfl, Nat.le_of_ble_eq_true rfl⟩) ?_
      have b2 := m_drive_b (j := d) hOk hPr gd.1 (by omega)
      have a5 := o_ki d gd.1 (by omega)
      have a6 := o_ar d gd.1 (by omega)
      refine lv_istore (lv' := [(4, .int (iI (m_drive nf (pr k) (d)))), (3, .ref (a (37 + 2 * k))), (0, .ref (a 1)), (1, .int (iI (d))), (2, .ref (a (36 + 2 * k)))]) hx hb d_N_flowOf_94 hl (by decide) rfl (fun ls hl => ?_)
      refine lv_aload_n hx hb d_N_flowOf_96 rfl (lv_at hl 2 rfl) ?_
      refine va_get (D := D) (ci := 1) (v := .ref (a 9)) (C := R_N) (T := T_N) (N := 17) hx hb hts (in_N _) hown hK hP 1 rfl rfl 7 (by decide) (ht _ m_75) (fun _ h9 => h9) rfl d_N_flowOf_97 ?_
      refine lv_iload_n hx hb d_N_flowOf_100 rfl (lv_at hl 3 rfl) ?_
      refine pr_iald hx hb hK hP 9 0 rfl rfl (by decide) (by omega) (by omega) d_N_flowOf_101 ?_
      refine lv_iconst (v := iI (1)) hx hb d_N_flowOf_102 rfl ?_
      refine pr_icmp_ne (tgt := 116) hx hb (i3_of (by omega) (by omega)) (i3_of (by decide) (by decide)) d_N_flowOf_103 (by decide) (fun c_3 => ?_) (fun c_3 => ?_)
      · skip
        refine lv_iload hx hb d_N_flowOf_116 (lv_at hl 0 rfl) ?_
        refine pr_if_ge (tgt := 137) hx hb (i3_of (by omega) (by omega)) d_N_flowOf_118 (by decide) (fun c_4 => ?_) (fun c_4 => ?_)
        · skip
          refine lv_aload_n hx hb d_N_flowOf_137 rfl (lv_at hl 2 rfl) ?_
          refine va_get (D := D) (ci := 1) (v := .ref (a 8)) (C := R_N) (T := T_N) (N := 17) hx hb hts (in_N _) hown hK hP 1 rfl rfl 6 (by decide) (ht _ m_74) (fun _ h9 => h9) rfl d_N_flowOf_138 ?_
          refine lv_iload_n hx hb d_N_flowOf_141 rfl (lv_at hl 3 rfl) ?_
          refine pr_iald hx hb hK hP 8 0 rfl rfl (by decide) (by omega) (by omega) d_N_flowOf_142 ?_
          refine lv_iload hx hb d_N_flowOf_143 (lv_at hl 0 rfl) ?_
          refine pr_pi (va_runS (As := [.int (iI (nf 6 (d))), .int (iI (m_drive nf (pr k) (d)))]) (rest := []) ⟨hx, hb, hml, hown, hts⟩ (c_N_rootFlow l (nf 6 (d)) (m_drive nf (pr k) (d)) ⟨by omega, by omega⟩ ⟨by omega, by omega⟩) (cwS 2 hts (pn_gS m_466 m_467 m_34 m_468) rfl rfl rfl (by decide +kernel) ⟨Nat.le_of_ble_eq_true rfl, Nat.le_of_ble_eq_true rfl⟩) pn_pre0 rfl rfl hl.1 rfl (lv_room (Nat.le_of_ble_eq_true rfl)) d_N_flowOf_145 ⟨Nat.le_of_ble_eq_true rfl, Nat.le_of_ble_eq_true rfl⟩) ?_
          exact pr_ri hx hb hr hlocks d_N_flowOf_148 (by first | exact (m_flow_fan (by omega)).symm | exact (m_flow_shut (by omega) (by assumption)).symm | exact (m_flow_one (by omega) (by assumption) (by assumption)).symm | exact (m_flow_neg (by omega) (by assumption) (by assumption) (by assumption)).symm | exact (m_flow_pos (by omega) (by assumption) (by assumption) (by assumption)).symm)
        · skip
          refine lv_aload_n hx hb d_N_flowOf_121 rfl (lv_at hl 2 rfl) ?_
          refine va_get (D := D) (ci := 1) (v := .ref (a 8)) (C := R_N) (T := T_N) (N := 17) hx hb hts (in_N _) hown hK hP 1 rfl rfl 6 (by decide) (ht _ m_74) (fun _ h9 => h9) rfl d_N_flowOf_122 ?_
          refine lv_iload_n hx hb d_N_flowOf_125 rfl (lv_at hl 3 rfl) ?_
          refine pr_iald hx hb hK hP 8 0 rfl rfl (by decide) (by omega) (by omega) d_N_flowOf_126 ?_
          refine lv_iload hx hb d_N_flowOf_127 (lv_at hl 0 rfl) ?_
          refine pr_ineg hx hb d_N_flowOf_129 ?_
          refine pr_pi (va_runS (As := [.int (iI (nf 6 (d))), .int (iI (-(m_drive nf (pr k) (d))))]) (rest := []) ⟨hx, hb, hml, hown, hts⟩ (c_N_rootFlow l (nf 6 (d)) (-(m_drive nf (pr k) (d))) ⟨by omega, by omega⟩ ⟨by omega, by omega⟩) (cwS 2 hts (pn_gS m_466 m_467 m_34 m_468) rfl rfl rfl (by decide +kernel) ⟨Nat.le_of_ble_eq_true rfl, Nat.le_of_ble_eq_true rfl⟩) pn_pre0 rfl rfl hl.1 rfl (lv_room (Nat.le_of_ble_eq_true rfl)) d_N_flowOf_130 ⟨Nat.le_of_ble_eq_true rfl, Nat.le_of_ble_eq_true rfl⟩) ?_
          refine pr_ineg hx hb d_N_flowOf_133 ?_
          refine lv_goto (tgt := 148) hx hb d_N_flowOf_134 (by decide) ?_
          exact pr_ri hx hb hr hlocks d_N_flowOf_148 (by first | exact (m_flow_fan (by omega)).symm | exact (m_flow_shut (by omega) (by assumption)).symm | exact (m_flow_one (by omega) (by assumption) (by assumption)).symm | exact (m_flow_neg (by omega) (by assumption) (by assumption) (by assumption)).symm | exact (m_flow_pos (by omega) (by assumption) (by assumption) (by assumption)).symm)
      · skip
        refine lv_aload_n hx hb d_N_flowOf_106 rfl (lv_at hl 2 rfl) ?_
        refine va_get (D := D) (ci := 1) (v := .ref (a 8)) (C := R_N) (T := T_N) (N := 17) hx hb hts (in_N _) hown hK hP 1 rfl rfl 6 (by decide) (ht _ m_74) (fun _ h9 => h9) rfl d_N_flowOf_107 ?_
        refine lv_iload_n hx hb d_N_flowOf_110 rfl (lv_at hl 3 rfl) ?_
        refine pr_iald hx hb hK hP 8 0 rfl rfl (by decide) (by omega) (by omega) d_N_flowOf_111 ?_
        refine lv_iload hx hb d_N_flowOf_112 (lv_at hl 0 rfl) ?_
        refine pr_imul hx hb d_N_flowOf_114 ?_
        exact pr_ri hx hb hr hlocks d_N_flowOf_115 (by first | exact (m_flow_fan (by omega)).symm | exact (m_flow_shut (by omega) (by assumption)).symm | exact (m_flow_one (by omega) (by assumption) (by assumption)).symm | exact (m_flow_neg (by omega) (by assumption) (by assumption) (by assumption)).symm | exact (m_flow_pos (by omega) (by assumption) (by assumption) (by assumption)).symm)
    · replace c_2 := b2_n1 c_2
      refine lv_iconst (v := iI (0)) hx hb d_N_flowOf_86 rfl ?_
      exact pr_ri hx hb hr hlocks d_N_flowOf_87 (by first | exact (m_flow_fan (by omega)).symm | exact (m_flow_shut (by omega) (by assumption)).symm | exact (m_flow_one (by omega) (by assumption) (by assumption)).symm | exact (m_flow_neg (by omega) (by assumption) (by assumption) (by assumption)).symm | exact (m_flow_pos (by omega) (by assumption) (by assumption) (by assumption)).symm)
  · skip
    have a3 := o_ff (d - 20) (by omega) (by omega)
    have a4 := o_sl (d - 20) (by omega) (by omega)
    have b1 := mul_b (x := nf 10 (d - 20)) (y := pr k (nf 4 d) - pr k (nf 3 d)) (X := 100) (Y := 25000) (by omega) (by omega) (by omega) (by omega)
    refine lv_iload_n hx hb d_N_flowOf_11 rfl (lv_at hl 2 rfl) ?_
    refine lv_bipush (v := iI (20)) hx hb d_N_flowOf_12 (by decide) ?_
    refine pr_isub hx hb d_N_flowOf_14 ?_
    refine lv_istore (lv' := [(4, .int (iI (d - 20))), (3, .ref (a (37 + 2 * k))), (0, .ref (a 1)), (1, .int (iI (d))), (2, .ref (a (36 + 2 * k)))]) hx hb d_N_flowOf_15 hl (by decide) rfl (fun ls hl => ?_)
    refine lv_aload_n hx hb d_N_flowOf_17 rfl (lv_at hl 1 rfl) ?_
    refine lv_aload_n hx hb d_N_flowOf_18 rfl (lv_at hl 2 rfl) ?_
    refine va_get (D := D) (ci := 1) (v := .ref (a 6)) (C := R_N) (T := T_N) (N := 17) hx hb hts (in_N _) hown hK hP 1 rfl rfl 4 (by decide) (ht _ m_71) (fun _ h9 => h9) rfl d_N_flowOf_19 ?_
    refine lv_iload_n hx hb d_N_flowOf_22 rfl (lv_at hl 3 rfl) ?_
    refine pr_iald hx hb hK hP 6 0 rfl rfl (by decide) (by omega) (by omega) d_N_flowOf_23 ?_
    refine pr_iald hx hb hK hP (37 + 2 * k) 0 (cw_sp k hk) rfl (by decide) (by omega) (by omega) d_N_flowOf_24 ?_
    refine lv_aload_n hx hb d_N_flowOf_25 rfl (lv_at hl 1 rfl) ?_
    refine lv_aload_n hx hb d_N_flowOf_26 rfl (lv_at hl 2 rfl) ?_
    refine va_get (D := D) (ci := 1) (v := .ref (a 5)) (C := R_N) (T := T_N) (N := 17) hx hb hts (in_N _) hown hK hP 1 rfl rfl 3 (by decide) (ht _ m_69) (fun _ h9 => h9) rfl d_N_flowOf_27 ?_
    refine lv_iload_n hx hb d_N_flowOf_30 rfl (lv_at hl 3 rfl) ?_
    refine pr_iald hx hb hK hP 5 0 rfl rfl (by decide) (by omega) (by omega) d_N_flowOf_31 ?_
    refine pr_iald hx hb hK hP (37 + 2 * k) 0 (cw_sp k hk) rfl (by decide) (by omega) (by omega) d_N_flowOf_32 ?_
    refine pr_isub hx hb d_N_flowOf_33 ?_
    refine lv_istore (lv' := [(5, .int (iI ((pr k (nf 4 (d))) - (pr k (nf 3 (d)))))), (4, .int (iI (d - 20))), (3, .ref (a (37 + 2 * k))), (0, .ref (a 1)), (1, .int (iI (d))), (2, .ref (a (36 + 2 * k)))]) hx hb d_N_flowOf_34 hl (by decide) rfl (fun ls hl => ?_)
    refine lv_aload_n hx hb d_N_flowOf_36 rfl (lv_at hl 3 rfl) ?_
    refine va_get (D := D) (ci := 1) (v := .ref (a 11)) (C := R_N) (T := T_N) (N := 17) hx hb hts (in_N _) hown hK hP 1 rfl rfl 9 (by decide) (ht _ m_77) (fun _ h9 => h9) rfl d_N_flowOf_37 ?_
    refine lv_iload hx hb d_N_flowOf_40 (lv_at hl 1 rfl) ?_
    refine pr_iald hx hb hK hP 11 0 rfl rfl (by decide) (by omega) (by omega) d_N_flowOf_42 ?_
    refine lv_aload_n hx hb d_N_flowOf_43 rfl (lv_at hl 3 rfl) ?_
    refine va_get (D := D) (ci := 1) (v := .ref (a 12)) (C := R_N) (T := T_N) (N := 17) hx hb hts (in_N _) hown hK hP 1 rfl rfl 10 (by decide) (ht _ m_78) (fun _ h9 => h9) rfl d_N_flowOf_44 ?_
    refine lv_iload hx hb d_N_flowOf_47 (lv_at hl 1 rfl) ?_
    refine pr_iald hx hb hK hP 12 0 rfl rfl (by decide) (by omega) (by omega) d_N_flowOf_49 ?_
    refine lv_iload hx hb d_N_flowOf_50 (lv_at hl 0 rfl) ?_
    refine pr_imul hx hb d_N_flowOf_52 ?_
    refine pr_isub hx hb d_N_flowOf_53 ?_
    refine lv_istore (lv' := [(6, .int (iI ((nf 9 (d - 20)) - ((nf 10 (d - 20)) * ((pr k (nf 4 (d))) - (pr k (nf 3 (d)))))))), (5, .int (iI ((pr k (nf 4 (d))) - (pr k (nf 3 (d)))))), (4, .int (iI (d - 20))), (3, .ref (a (37 + 2 * k))), (0, .ref (a 1)), (1, .int (iI (d))), (2, .ref (a (36 + 2 * k)))]) hx hb d_N_flowOf_54 hl (by decide) rfl (fun ls hl => ?_)
    refine lv_iconst (v := iI (0)) hx hb d_N_flowOf_56 rfl ?_
    refine lv_iload hx hb d_N_flowOf_57 (lv_at hl 0 rfl) ?_
    refine lv_iconst (v := iI (2)) hx hb d_N_flowOf_59 rfl ?_
    refine lv_aload_n hx hb d_N_flowOf_60 rfl (lv_at hl 4 rfl) ?_
    refine va_get (D := D) (ci := 1) (v := .ref (a 11)) (C := R_N) (T := T_N) (N := 17) hx hb hts (in_N _) hown hK hP 1 rfl rfl 9 (by decide) (ht _ m_77) (fun _ h9 => h9) rfl d_N_flowOf_61 ?_
    refine lv_iload hx hb d_N_flowOf_64 (lv_at hl 2 rfl) ?_
    refine pr_iald hx hb hK hP 11 0 rfl rfl (by decide) (by omega) (by omega) d_N_flowOf_66 ?_
    refine pr_imul hx hb d_N_flowOf_67 ?_
    refine va_mmin hx hb (hml.trans hl.1.symm) hown (ht _ m_456) (ht _ m_457) (ht _ m_46) (ht _ m_458) (Nat.le_of_ble_eq_true rfl) (Nat.le_of_ble_eq_true rfl) (Nat.le_of_ble_eq_true rfl) (Nat.le_of_ble_eq_true rfl) d_N_flowOf_68 ?_
    refine pr_ixe (B := min ((nf 9 (d - 20)) - ((nf 10 (d - 20)) * ((pr k (nf 4 (d))) - (pr k (nf 3 (d)))))) ((2) * (nf 9 (d - 20)))) (iI_min (i3_of (by omega) (by omega)) (i3_of (by omega) (by omega))) ?_
    refine va_mmax hx hb (hml.trans hl.1.symm) hown (ht _ m_459) (ht _ m_460) (ht _ m_46) (ht _ m_461) (Nat.le_of_ble_eq_true rfl) (Nat.le_of_ble_eq_true rfl) (Nat.le_of_ble_eq_true rfl) (Nat.le_of_ble_eq_true rfl) d_N_flowOf_71 ?_
    refine pr_ixe (B := max (0) (min ((nf 9 (d - 20)) - ((nf 10 (d - 20)) * ((pr k (nf 4 (d))) - (pr k (nf 3 (d)))))) ((2) * (nf 9 (d - 20))))) (iI_max (i3_of (by decide) (by decide)) (i3_of (by omega) (by omega))) ?_
    exact pr_ri hx hb hr hlocks d_N_flowOf_74 (by first | exact (m_flow_fan (by omega)).symm | exact (m_flow_shut (by omega) (by assumption)).symm | exact (m_flow_one (by omega) (by assumption) (by assumption)).symm | exact (m_flow_neg (by omega) (by assumption) (by assumption) (by assumption)).symm | exact (m_flow_pos (by omega) (by assumption) (by assumption) (by assumption)).symm)
