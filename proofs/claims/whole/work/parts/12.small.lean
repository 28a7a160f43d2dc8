abbrev w_P_isWithin : List Cond := .code y_P_isWithin b_P_isWithin 3 (some .boolean) :: pn_W
set_option maxHeartbeats 4000000 in
set_option maxRecDepth 100000 in
theorem c_P_isWithin (l : Launch) (x y z : Int) (gx : i3 x) (gy : i3 y) (gz : i3 z) : Met l y_P_isWithin w_P_isWithin ({ frames := 0, cells := 0, slots := 0, locals := 0 }) (va_Pc [.int (iI (x)), .int (iI (y)), .int (iI (z))] (fun _ => True)) (vp_Si (fun r => r = iI (b2 (y ≤ x ∧ x ≤ z)))) 0 0 (fun _ => False) := by
  refine Met.ofW (cc := b_P_isWithin) (maxL := 3) (ret := (some .boolean)) (by decide) rfl ?_
  intro p e s m args below meth c s₁ B hml hv
  obtain ⟨rfl, -⟩ := hv
  have hx := B.exec
  have hb := B.bytes
  have hr := B.returns
  have hts := atoms_spec (ws := w_P_isWithin) B.pre
  have ht : ∀ w ∈ pn_W, w.before _ s = true := fun w h => hts w (List.mem_cons_of_mem _ h)
  have hown : s.vm.findClass R_P = some m.cls := findClass_of_methodNamed B.named
  have hlocks := B.notSynchronized
  have hl := lv_entry ([.int (iI (x)), .int (iI (y)), .int (iI (z))]) (n := 3) (Nat.le_of_ble_eq_true rfl)
  rw [lg_entry_eq]
  generalize (lg_sl ([.int (iI (x)), .int (iI (y)), .int (iI (z))]) ++ List.replicate (3 - (lg_sl ([.int (iI (x)), .int (iI (y)), .int (iI (z))])).length) Slot.unset).toArray = ls at hl ⊢
  have hl : lv_has ls 3 [(0, .int (iI (x))), (1, .int (iI (y))), (2, .int (iI (z)))] := hl
  obtain ⟨gx1, gx2⟩ := gx
  obtain ⟨gy1, gy2⟩ := gy
  obtain ⟨gz1, gz2⟩ := gz
  refine lv_iload_n hx hb d_P_isWithin_0 rfl (lv_at hl 0 rfl) ?_
  refine lv_iload_n hx hb d_P_isWithin_1 rfl (lv_at hl 1 rfl) ?_
  refine pr_icmp_lt (tgt := 14) hx hb (i3_of (by omega) (by omega)) (i3_of (by omega) (by omega)) d_P_isWithin_2 (by decide) (fun c_1 => ?_) (fun c_1 => ?_)
  · skip
    refine lv_iconst (v := iI (0)) hx hb d_P_isWithin_14 rfl ?_
    exact pr_rz hx hb hr hlocks d_P_isWithin_15 (by first | exact Or.inl rfl | exact Or.inr rfl | exact b2_01 _) (by first | rfl | exact (b2_t (by omega)).symm | exact (b2_f (by omega)).symm)
  · skip
    refine lv_iload_n hx hb d_P_isWithin_5 rfl (lv_at hl 0 rfl) ?_
    refine lv_iload_n hx hb d_P_isWithin_6 rfl (lv_at hl 2 rfl) ?_
    refine pr_icmp_gt (tgt := 14) hx hb (i3_of (by omega) (by omega)) (i3_of (by omega) (by omega)) d_P_isWithin_7 (by decide) (fun c_2 => ?_) (fun c_2 => ?_)
    · skip
      refine lv_iconst (v := iI (0)) hx hb d_P_isWithin_14 rfl ?_
      exact pr_rz hx hb hr hlocks d_P_isWithin_15 (by first | exact Or.inl rfl | exact Or.inr rfl | exact b2_01 _) (by first | rfl | exact (b2_t (by omega)).symm | exact (b2_f (by omega)).symm)
    · skip
      refine lv_iconst (v := iI (1)) hx hb d_P_isWithin_10 rfl ?_
      refine lv_goto (tgt := 15) hx hb d_P_isWithin_11 (by decide) ?_
      exact pr_rz hx hb hr hlocks d_P_isWithin_15 (by first | exact Or.inl rfl | exact Or.inr rfl | exact b2_01 _) (by first | rfl | exact (b2_t (by omega)).symm | exact (b2_f (by omega)).symm)
abbrev w_P_isWarmth : List Cond := .code y_P_isWarmth b_P_isWarmth 1 (some .boolean) :: pn_W
set_option maxHeartbeats 4000000 in
set_option maxRecDepth 100000 in
theorem c_P_isWarmth (l : Launch) (x : Int) (gx : i3 x) : Met l y_P_isWarmth w_P_isWarmth ({ frames := 1, cells := 0, slots := 0, locals := 22 }) (va_Pc [.int (iI (x))] (fun _ => True)) (vp_Si (fun r => r = iI (b2 (-1000 ≤ x ∧ x ≤ 1000)))) 0 0 (fun _ => False) := by
  refine Met.ofW (cc := b_P_isWarmth) (maxL := 1) (ret := (some .boolean)) (by decide) rfl ?_
  intro p e s m args below meth c s₁ B hml hv
  obtain ⟨rfl, -⟩ := hv
  have hx := B.exec
  have hb := B.bytes
  have hr := B.returns
  have hts := atoms_spec (ws := w_P_isWarmth) B.pre
  have ht : ∀ w ∈ pn_W, w.before _ s = true := fun w h => hts w (List.mem_cons_of_mem _ h)
  have hown : s.vm.findClass R_P = some m.cls := findClass_of_methodNamed B.named
  have hlocks := B.notSynchronized
  have hl := lv_entry ([.int (iI (x))]) (n := 1) (Nat.le_of_ble_eq_true rfl)
  rw [lg_entry_eq]
  generalize (lg_sl ([.int (iI (x))]) ++ List.replicate (1 - (lg_sl ([.int (iI (x))])).length) Slot.unset).toArray = ls at hl ⊢
  have hl : lv_has ls 1 [(0, .int (iI (x)))] := hl
  obtain ⟨gx1, gx2⟩ := gx
  refine lv_iload_n hx hb d_P_isWarmth_0 rfl (lv_at hl 0 rfl) ?_
  refine lv_sipush (v := iI (-1000)) hx hb d_P_isWarmth_1 (by decide) ?_
  refine lv_sipush (v := iI (1000)) hx hb d_P_isWarmth_4 (by decide) ?_
  refine pr_pi (va_runS (As := [.int (iI (x)), .int (iI (-1000)), .int (iI (1000))]) (rest := []) ⟨hx, hb, hml, hown, hts⟩ (c_P_isWithin l (x) (-1000) (1000) (i3_of (by omega) (by omega)) (i3_of (by decide) (by decide)) (i3_of (by decide) (by decide))) (cwS 3 hts (pn_gS m_227 m_228 m_33 m_229) rfl rfl rfl (by decide +kernel) ⟨Nat.le_of_ble_eq_true rfl, Nat.le_of_ble_eq_true rfl⟩) pn_pre0 rfl rfl hl.1 rfl (lv_room (Nat.le_of_ble_eq_true rfl)) d_P_isWarmth_7 ⟨Nat.le_of_ble_eq_true rfl, Nat.le_of_ble_eq_true rfl⟩) ?_
  exact pr_rz hx hb hr hlocks d_P_isWarmth_10 (by first | exact Or.inl rfl | exact Or.inr rfl | exact b2_01 _) (by first | rfl | exact (b2_t (by omega)).symm | exact (b2_f (by omega)).symm)
abbrev w_P_isSide : List Cond := .code y_P_isSide b_P_isSide 1 (some .boolean) :: pn_W
set_option maxHeartbeats 4000000 in
set_option maxRecDepth 100000 in
theorem c_P_isSide (l : Launch) (x : Int) (gx : i3 x) : Met l y_P_isSide w_P_isSide ({ frames := 1, cells := 0, slots := 0, locals := 22 }) (va_Pc [.int (iI (x))] (fun _ => True)) (vp_Si (fun r => r = iI (b2 (-4 ≤ x ∧ x ≤ -1)))) 0 0 (fun _ => False) := by
  refine Met.ofW (cc := b_P_isSide) (maxL := 1) (ret := (some .boolean)) (by decide) rfl ?_
  intro p e s m args below meth c s₁ B hml hv
  obtain ⟨rfl, -⟩ := hv
  have hx := B.exec
  have hb := B.bytes
  have hr := B.returns
  have hts := atoms_spec (ws := w_P_isSide) B.pre
  have ht : ∀ w ∈ pn_W, w.before _ s = true := fun w h => hts w (List.mem_cons_of_mem _ h)
  have hown : s.vm.findClass R_P = some m.cls := findClass_of_methodNamed B.named
  have hlocks := B.notSynchronized
  have hl := lv_entry ([.int (iI (x))]) (n := 1) (Nat.le_of_ble_eq_true rfl)
  rw [lg_entry_eq]
  generalize (lg_sl ([.int (iI (x))]) ++ List.replicate (1 - (lg_sl ([.int (iI (x))])).length) Slot.unset).toArray = ls at hl ⊢
  have hl : lv_has ls 1 [(0, .int (iI (x)))] := hl
  obtain ⟨gx1, gx2⟩ := gx
  refine lv_iload_n hx hb d_P_isSide_0 rfl (lv_at hl 0 rfl) ?_
  refine lv_bipush (v := iI (-4)) hx hb d_P_isSide_1 (by decide) ?_
  refine lv_iconst (v := iI (-1)) hx hb d_P_isSide_3 rfl ?_
  refine pr_pi (va_runS (As := [.int (iI (x)), .int (iI (-4)), .int (iI (-1))]) (rest := []) ⟨hx, hb, hml, hown, hts⟩ (c_P_isWithin l (x) (-4) (-1) (i3_of (by omega) (by omega)) (i3_of (by decide) (by decide)) (i3_of (by decide) (by decide))) (cwS 3 hts (pn_gS m_227 m_228 m_33 m_229) rfl rfl rfl (by decide +kernel) ⟨Nat.le_of_ble_eq_true rfl, Nat.le_of_ble_eq_true rfl⟩) pn_pre0 rfl rfl hl.1 rfl (lv_room (Nat.le_of_ble_eq_true rfl)) d_P_isSide_4 ⟨Nat.le_of_ble_eq_true rfl, Nat.le_of_ble_eq_true rfl⟩) ?_
  exact pr_rz hx hb hr hlocks d_P_isSide_7 (by first | exact Or.inl rfl | exact Or.inr rfl | exact b2_01 _) (by first | rfl | exact (b2_t (by omega)).symm | exact (b2_f (by omega)).symm)
abbrev w_P_rowOf : List Cond := .code y_P_rowOf b_P_rowOf 1 (some .int) :: pn_W
set_option maxHeartbeats 4000000 in
set_option maxRecDepth 100000 in
theorem c_P_rowOf (l : Launch) (x : Int)  : Met l y_P_rowOf w_P_rowOf ({ frames := 0, cells := 0, slots := 0, locals := 0 }) (va_Pc [.int (iI (x))] (fun _ => True)) (vp_Si (fun r => r = iI (x + 4))) 0 0 (fun _ => False) := by
  refine Met.ofW (cc := b_P_rowOf) (maxL := 1) (ret := (some .int)) (by decide) rfl ?_
  intro p e s m args below meth c s₁ B hml hv
  obtain ⟨rfl, -⟩ := hv
  have hx := B.exec
  have hb := B.bytes
  have hr := B.returns
  have hts := atoms_spec (ws := w_P_rowOf) B.pre
  have ht : ∀ w ∈ pn_W, w.before _ s = true := fun w h => hts w (List.mem_cons_of_mem _ h)
  have hown : s.vm.findClass R_P = some m.cls := findClass_of_methodNamed B.named
  have hlocks := B.notSynchronized
  have hl := lv_entry ([.int (iI (x))]) (n := 1) (Nat.le_of_ble_eq_true rfl)
  rw [lg_entry_eq]
  generalize (lg_sl ([.int (iI (x))]) ++ List.replicate (1 - (lg_sl ([.int (iI (x))])).length) Slot.unset).toArray = ls at hl ⊢
  have hl : lv_has ls 1 [(0, .int (iI (x)))] := hl
  refine lv_iload_n hx hb d_P_rowOf_0 rfl (lv_at hl 0 rfl) ?_
  refine lv_iconst (v := iI (4)) hx hb d_P_rowOf_1 rfl ?_
  refine pr_iadd hx hb d_P_rowOf_2 ?_
  exact pr_ri hx hb hr hlocks d_P_rowOf_3 (by first | rfl | exact (b2_t (by omega)).symm | exact (b2_f (by omega)).symm)
abbrev w_P_ductOfFan : List Cond := .code y_P_ductOfFan b_P_ductOfFan 1 (some .int) :: pn_W
set_option maxHeartbeats 4000000 in
set_option maxRecDepth 100000 in
theorem c_P_ductOfFan (l : Launch) (x : Int)  : Met l y_P_ductOfFan w_P_ductOfFan ({ frames := 0, cells := 0, slots := 0, locals := 0 }) (va_Pc [.int (iI (x))] (fun _ => True)) (vp_Si (fun r => r = iI (20 + x))) 0 0 (fun _ => False) := by
  refine Met.ofW (cc := b_P_ductOfFan) (maxL := 1) (ret := (some .int)) (by decide) rfl ?_
  intro p e s m args below meth c s₁ B hml hv
  obtain ⟨rfl, -⟩ := hv
  have hx := B.exec
  have hb := B.bytes
  have hr := B.returns
  have hts := atoms_spec (ws := w_P_ductOfFan) B.pre
  have ht : ∀ w ∈ pn_W, w.before _ s = true := fun w h => hts w (List.mem_cons_of_mem _ h)
  have hown : s.vm.findClass R_P = some m.cls := findClass_of_methodNamed B.named
  have hlocks := B.notSynchronized
  have hl := lv_entry ([.int (iI (x))]) (n := 1) (Nat.le_of_ble_eq_true rfl)
  rw [lg_entry_eq]
  generalize (lg_sl ([.int (iI (x))]) ++ List.replicate (1 - (lg_sl ([.int (iI (x))])).length) Slot.unset).toArray = ls at hl ⊢
  have hl : lv_has ls 1 [(0, .int (iI (x)))] := hl
  refine lv_bipush (v := iI (20)) hx hb d_P_ductOfFan_0 (by decide) ?_
  refine lv_iload_n hx hb d_P_ductOfFan_2 rfl (lv_at hl 0 rfl) ?_
  refine pr_iadd hx hb d_P_ductOfFan_3 ?_
  exact pr_ri hx hb hr hlocks d_P_ductOfFan_4 (by first | rfl | exact (b2_t (by omega)).symm | exact (b2_f (by omega)).symm)
