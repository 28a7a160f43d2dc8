abbrev w_M_in : List Cond := .code y_M_in b_M_in 6 (some .boolean) :: pn_W
set_option maxHeartbeats 4000000 in
set_option maxRecDepth 100000 in
theorem c_M_in (l : Launch) (x y z : Int) (gx : i6 x) (gy : i6 y) (gz : i6 z) : Met l y_M_in w_M_in ({ frames := 0, cells := 0, slots := 0, locals := 0 }) (va_Pc [.long (lI (x)), .long (lI (y)), .long (lI (z))] (fun _ => True)) (vp_Si (fun r => r = iI (b2 (y ≤ x ∧ x ≤ z)))) 0 0 (fun _ => False) := by
  refine Met.ofW (cc := b_M_in) (maxL := 6) (ret := (some .boolean)) (by decide) rfl ?_
  intro p e s m args below meth c s₁ B hml hv
  obtain ⟨rfl, -⟩ := hv
  have hx := B.exec
  have hb := B.bytes
  have hr := B.returns
  have hts := atoms_spec (ws := w_M_in) B.pre
  have ht : ∀ w ∈ pn_W, w.before _ s = true := fun w h => hts w (List.mem_cons_of_mem _ h)
  have hown : s.vm.findClass R_M = some m.cls := findClass_of_methodNamed B.named
  have hlocks := B.notSynchronized
  have hl := lv_entry ([.long (lI (x)), .long (lI (y)), .long (lI (z))]) (n := 6) (Nat.le_of_ble_eq_true rfl)
  rw [lg_entry_eq]
  generalize (lg_sl ([.long (lI (x)), .long (lI (y)), .long (lI (z))]) ++ List.replicate (6 - (lg_sl ([.long (lI (x)), .long (lI (y)), .long (lI (z))])).length) Slot.unset).toArray = ls at hl ⊢
  have hl : lv_has ls 6 [(0, .long (lI (x))), (2, .long (lI (y))), (4, .long (lI (z)))] := hl
  obtain ⟨gx1, gx2⟩ := gx
  obtain ⟨gy1, gy2⟩ := gy
  obtain ⟨gz1, gz2⟩ := gz
  refine lv_lload_n hx hb d_M_in_0 rfl (lv_at hl 0 rfl) ?_
  refine lv_lload_n hx hb d_M_in_1 rfl (lv_at hl 1 rfl) ?_
  refine pr_lcmp_lt (tgt := 17) hx hb (i6_of (by omega) (by omega)) (i6_of (by omega) (by omega)) d_M_in_2 d_M_in_3 (by decide) (fun c_1 => ?_) (fun c_1 => ?_)
  · skip
    refine lv_iconst (v := iI (0)) hx hb d_M_in_17 rfl ?_
    exact pr_rz hx hb hr hlocks d_M_in_18 (by first | exact Or.inl rfl | exact Or.inr rfl | exact b2_01 _) (by first | rfl | exact (b2_t (by omega)).symm | exact (b2_f (by omega)).symm)
  · skip
    refine lv_lload_n hx hb d_M_in_6 rfl (lv_at hl 0 rfl) ?_
    refine lv_lload hx hb d_M_in_7 (lv_at hl 2 rfl) ?_
    refine pr_lcmp_gt (tgt := 17) hx hb (i6_of (by omega) (by omega)) (i6_of (by omega) (by omega)) d_M_in_9 d_M_in_10 (by decide) (fun c_2 => ?_) (fun c_2 => ?_)
    · skip
      refine lv_iconst (v := iI (0)) hx hb d_M_in_17 rfl ?_
      exact pr_rz hx hb hr hlocks d_M_in_18 (by first | exact Or.inl rfl | exact Or.inr rfl | exact b2_01 _) (by first | rfl | exact (b2_t (by omega)).symm | exact (b2_f (by omega)).symm)
    · skip
      refine lv_iconst (v := iI (1)) hx hb d_M_in_13 rfl ?_
      refine lv_goto (tgt := 18) hx hb d_M_in_14 (by decide) ?_
      exact pr_rz hx hb hr hlocks d_M_in_18 (by first | exact Or.inl rfl | exact Or.inr rfl | exact b2_01 _) (by first | rfl | exact (b2_t (by omega)).symm | exact (b2_f (by omega)).symm)
/-- what holds of the reference's numbers -/
def mn_Ok (ms : Nat → Int) : Prop := (0 ≤ ms 2 ∧ ms 2 ≤ 8) ∧ (0 ≤ ms 3 ∧ ms 3 ≤ 20) ∧ (0 ≤ ms 4 ∧ ms 4 ≤ 4) ∧ (0 ≤ ms 5 ∧ ms 5 ≤ 8)
abbrev w_M_isZone : List Cond := .code y_M_isZone b_M_isZone 2 (some .boolean) :: pn_W
set_option maxHeartbeats 4000000 in
set_option maxRecDepth 100000 in
theorem c_M_isZone (l : Launch) {D : va_G} {b : Nat → Nat} {cI cL cZ : ClassId} {mi ml : Nat → Int → Int} {mz : Int → Int} {ms : Nat → Int} (x : Int) (hN : mn_Ok ms) (gx : i3 x) : Met l y_M_isZone w_M_isZone ({ frames := 1, cells := 0, slots := 0, locals := 25 }) (va_Pc [.ref (b 0), .int (iI (x))] (fun U => va_P D pn_cl (mw b cI cL cZ mi ml mz ms) U.heap ∧ mn_E D cI cL cZ U)) (vp_Si (fun r => r = iI (b2 (0 ≤ x ∧ x ≤ ms 2 - 1)))) 0 0 (fun _ => False) := by
  refine Met.ofW (cc := b_M_isZone) (maxL := 2) (ret := (some .boolean)) (by decide) rfl ?_
  intro p e s m args below meth c s₁ B hml hv
  obtain ⟨rfl, hP, hE⟩ := hv
  have hx := B.exec
  have hb := B.bytes
  have hr := B.returns
  have hts := atoms_spec (ws := w_M_isZone) B.pre
  have ht : ∀ w ∈ pn_W, w.before _ s = true := fun w h => hts w (List.mem_cons_of_mem _ h)
  have hown : s.vm.findClass R_M = some m.cls := findClass_of_methodNamed B.named
  have hlocks := B.notSynchronized
  have hK := hE
  have hl := lv_entry ([.ref (b 0), .int (iI (x))]) (n := 2) (Nat.le_of_ble_eq_true rfl)
  rw [lg_entry_eq]
  generalize (lg_sl ([.ref (b 0), .int (iI (x))]) ++ List.replicate (2 - (lg_sl ([.ref (b 0), .int (iI (x))])).length) Slot.unset).toArray = ls at hl ⊢
  have hl : lv_has ls 2 [(0, .ref (b 0)), (1, .int (iI (x)))] := hl
  obtain ⟨n_zo, n_le, n_fa, n_ca⟩ := id hN
  obtain ⟨gx1, gx2⟩ := gx
  refine lv_iload_n hx hb d_M_isZone_0 rfl (lv_at hl 1 rfl) ?_
  refine pr_i2l hx hb (i3_of (by omega) (by omega)) d_M_isZone_1 ?_
  refine lv_lconst (v := lI 0) hx hb d_M_isZone_2 (by decide) ?_
  refine lv_aload_n hx hb d_M_isZone_3 rfl (lv_at hl 0 rfl) ?_
  refine va_get (D := D) (ci := 5) (v := .int (iI (ms 2))) (C := R_M) (T := T_M) (N := 27) hx hb hts (in_M _) hown hK hP 0 rfl rfl 3 (by decide) (ht _ m_593) (fun _ h9 => h9) rfl d_M_isZone_4 ?_
  refine lv_iconst (v := iI (1)) hx hb d_M_isZone_7 rfl ?_
  refine pr_isub hx hb d_M_isZone_8 ?_
  refine pr_i2l hx hb (i3_of (by omega) (by omega)) d_M_isZone_9 ?_
  refine pr_pi (va_runS (As := [.long (lI (x)), .long (lI (0)), .long (lI ((ms 2) - (1)))]) (rest := []) ⟨hx, hb, hml, hown, hts⟩ (c_M_in l (x) (0) ((ms 2) - (1)) (i6_of (by omega) (by omega)) (i6_of (by decide) (by decide)) (i6_of (by omega) (by omega))) (cwS 3 hts (pn_gS m_683 m_684 m_38 m_685) rfl rfl rfl (by decide +kernel) ⟨Nat.le_of_ble_eq_true rfl, Nat.le_of_ble_eq_true rfl⟩) pn_pre0 rfl rfl hl.1 rfl (lv_room (Nat.le_of_ble_eq_true rfl)) d_M_isZone_10 ⟨Nat.le_of_ble_eq_true rfl, Nat.le_of_ble_eq_true rfl⟩) ?_
  exact pr_rz hx hb hr hlocks d_M_isZone_13 (by first | exact Or.inl rfl | exact Or.inr rfl | exact b2_01 _) (by first | rfl | exact (b2_t (by omega)).symm | exact (b2_f (by omega)).symm)
abbrev w_M_isPlace : List Cond := .code y_M_isPlace b_M_isPlace 2 (some .boolean) :: pn_W
set_option maxHeartbeats 4000000 in
set_option maxRecDepth 100000 in
theorem c_M_isPlace (l : Launch) {D : va_G} {b : Nat → Nat} {cI cL cZ : ClassId} {mi ml : Nat → Int → Int} {mz : Int → Int} {ms : Nat → Int} (x : Int) (hN : mn_Ok ms) (gx : i3 x) : Met l y_M_isPlace w_M_isPlace ({ frames := 1, cells := 0, slots := 0, locals := 25 }) (va_Pc [.ref (b 0), .int (iI (x))] (fun U => va_P D pn_cl (mw b cI cL cZ mi ml mz ms) U.heap ∧ mn_E D cI cL cZ U)) (vp_Si (fun r => r = iI (b2 (-4 ≤ x ∧ x ≤ ms 2 - 1)))) 0 0 (fun _ => False) := by
  refine Met.ofW (cc := b_M_isPlace) (maxL := 2) (ret := (some .boolean)) (by decide) rfl ?_
  intro p e s m args below meth c s₁ B hml hv
  obtain ⟨rfl, hP, hE⟩ := hv
  have hx := B.exec
  have hb := B.bytes
  have hr := B.returns
  have hts := atoms_spec (ws := w_M_isPlace) B.pre
  have ht : ∀ w ∈ pn_W, w.before _ s = true := fun w h => hts w (List.mem_cons_of_mem _ h)
  have hown : s.vm.findClass R_M = some m.cls := findClass_of_methodNamed B.named
  have hlocks := B.notSynchronized
  have hK := hE
  have hl := lv_entry ([.ref (b 0), .int (iI (x))]) (n := 2) (Nat.le_of_ble_eq_true rfl)
  rw [lg_entry_eq]
  generalize (lg_sl ([.ref (b 0), .int (iI (x))]) ++ List.replicate (2 - (lg_sl ([.ref (b 0), .int (iI (x))])).length) Slot.unset).toArray = ls at hl ⊢
  have hl : lv_has ls 2 [(0, .ref (b 0)), (1, .int (iI (x)))] := hl
  obtain ⟨n_zo, n_le, n_fa, n_ca⟩ := id hN
  obtain ⟨gx1, gx2⟩ := gx
  refine lv_iload_n hx hb d_M_isPlace_0 rfl (lv_at hl 1 rfl) ?_
  refine pr_i2l hx hb (i3_of (by omega) (by omega)) d_M_isPlace_1 ?_
  refine lv_ldc2 (v := lI (-4)) hx hb hown (ht (.constantLong _ 83 (lI (-4))) m_691) d_M_isPlace_2 ?_
  refine lv_aload_n hx hb d_M_isPlace_5 rfl (lv_at hl 0 rfl) ?_
  refine va_get (D := D) (ci := 5) (v := .int (iI (ms 2))) (C := R_M) (T := T_M) (N := 27) hx hb hts (in_M _) hown hK hP 0 rfl rfl 3 (by decide) (ht _ m_593) (fun _ h9 => h9) rfl d_M_isPlace_6 ?_
  refine lv_iconst (v := iI (1)) hx hb d_M_isPlace_9 rfl ?_
  refine pr_isub hx hb d_M_isPlace_10 ?_
  refine pr_i2l hx hb (i3_of (by omega) (by omega)) d_M_isPlace_11 ?_
  refine pr_pi (va_runS (As := [.long (lI (x)), .long (lI (-4)), .long (lI ((ms 2) - (1)))]) (rest := []) ⟨hx, hb, hml, hown, hts⟩ (c_M_in l (x) (-4) ((ms 2) - (1)) (i6_of (by omega) (by omega)) (i6_of (by decide) (by decide)) (i6_of (by omega) (by omega))) (cwS 3 hts (pn_gS m_683 m_684 m_38 m_685) rfl rfl rfl (by decide +kernel) ⟨Nat.le_of_ble_eq_true rfl, Nat.le_of_ble_eq_true rfl⟩) pn_pre0 rfl rfl hl.1 rfl (lv_room (Nat.le_of_ble_eq_true rfl)) d_M_isPlace_12 ⟨Nat.le_of_ble_eq_true rfl, Nat.le_of_ble_eq_true rfl⟩) ?_
  exact pr_rz hx hb hr hlocks d_M_isPlace_15 (by first | exact Or.inl rfl | exact Or.inr rfl | exact b2_01 _) (by first | rfl | exact (b2_t (by omega)).symm | exact (b2_f (by omega)).symm)
