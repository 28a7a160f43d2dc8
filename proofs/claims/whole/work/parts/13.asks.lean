/-- what holds of the net's numbers -/
def pn_Ok (nf : Nat → Int → Int) (ns : Nat → Int) (da : Int → Int → Int) : Prop :=
  (0 ≤ ns 0 ∧ ns 0 ≤ 8) ∧ (0 ≤ ns 1 ∧ ns 1 ≤ 20) ∧ (0 ≤ ns 2 ∧ ns 2 ≤ 4) ∧ (0 ≤ ns 3 ∧ ns 3 ≤ 512) ∧
  (∀ j, 0 ≤ j → j < 4 → -1000 ≤ nf 0 j ∧ nf 0 j ≤ 1000) ∧ (∀ j, 0 ≤ j → j < 12 → -1000 ≤ nf 1 j ∧ nf 1 j ≤ 1000) ∧ (∀ j, 0 ≤ j → j < 8 → 0 ≤ nf 2 j ∧ nf 2 j ≤ 100000) ∧
  (∀ j, 0 ≤ j → j < 24 → 0 ≤ nf 3 j ∧ nf 3 j ≤ 11) ∧ (∀ j, 0 ≤ j → j < 24 → 0 ≤ nf 4 j ∧ nf 4 j ≤ 11) ∧ (∀ j, 0 ≤ j → j < 20 → 0 ≤ nf 5 j ∧ nf 5 j ≤ 100) ∧ (∀ j, 0 ≤ j → j < 20 → 0 ≤ nf 6 j ∧ nf 6 j ≤ 1000) ∧
  (∀ j, 0 ≤ j → j < 20 → 0 ≤ nf 7 j ∧ nf 7 j ≤ 1) ∧ (∀ j, 0 ≤ j → j < 20 → -2000 ≤ nf 8 j ∧ nf 8 j ≤ 2000) ∧ (∀ j, 0 ≤ j → j < 4 → 0 ≤ nf 9 j ∧ nf 9 j ≤ 10000) ∧ (∀ j, 0 ≤ j → j < 4 → 0 ≤ nf 10 j ∧ nf 10 j ≤ 100) ∧
  (∀ j, 0 ≤ j → j < 12 → 0 ≤ nf 11 j ∧ nf 11 j ≤ 24) ∧ (∀ r j, 0 ≤ r → r < 12 → 0 ≤ j → j < 24 → 0 ≤ da r j ∧ da r j ≤ 23)
/-- pressures that may stand in a state while it is made -/
def pn_Pr (P : Int → Int) : Prop := ∀ j, 0 ≤ j → j < 12 → -5000 ≤ P j ∧ P j ≤ 20000
def m_drive (nf : Nat → Int → Int) (P : Int → Int) (j : Int) : Int := P (nf 3 j) - P (nf 4 j) + nf 8 j
abbrev w_P_isZone : List Cond := .code y_P_isZone b_P_isZone 2 (some .boolean) :: pn_W
set_option maxHeartbeats 4000000 in
set_option maxRecDepth 100000 in
theorem c_P_isZone (l : Launch) {D : va_G} {a : Nat → Nat} {cI cL cD cS : ClassId} {nf : Nat → Int → Int} {ns : Nat → Int} {da : Int → Int → Int} {be : Int → Int} {ui ul : Nat → Int → Int} {cn : Int} {ss : Nat → Nat} {mf sd : Nat → Int} {pr : Nat → Int → Int} (x : Int) (hOk : pn_Ok nf ns da) (gx : i3 x) : Met l y_P_isZone w_P_isZone ({ frames := 1, cells := 0, slots := 0, locals := 22 }) (va_Pc [.ref (a 0), .int (iI (x))] (fun U => va_P D pn_cl (cw a cI cL cD cS nf ns da be ui ul cn ss mf sd pr) U.heap ∧ pn_E D cI cL cD cS U)) (vp_Si (fun r => r = iI (b2 (0 ≤ x ∧ x ≤ ns 0 - 1)))) 0 0 (fun _ => False) := by
  refine Met.ofW (cc := b_P_isZone) (maxL := 2) (ret := (some .boolean)) (by decide) rfl ?_
  intro p e s m args below meth c s₁ B hml hv
  obtain ⟨rfl, hP, hE⟩ := hv
  have hx := B.exec
  have hb := B.bytes
  have hr := B.returns
  have hts := atoms_spec (ws := w_P_isZone) B.pre
  have ht : ∀ w ∈ pn_W, w.before _ s = true := fun w h => hts w (List.mem_cons_of_mem _ h)
  have hown : s.vm.findClass R_P = some m.cls := findClass_of_methodNamed B.named
  have hlocks := B.notSynchronized
  have hK := hE.1
  have hl := lv_entry ([.ref (a 0), .int (iI (x))]) (n := 2) (Nat.le_of_ble_eq_true rfl)
  rw [lg_entry_eq]
  generalize (lg_sl ([.ref (a 0), .int (iI (x))]) ++ List.replicate (2 - (lg_sl ([.ref (a 0), .int (iI (x))])).length) Slot.unset).toArray = ls at hl ⊢
  have hl : lv_has ls 2 [(0, .ref (a 0)), (1, .int (iI (x)))] := hl
  obtain ⟨o_zc, o_lc, o_fc, o_ve, o_wi, o_wa, o_vo, o_fr, o_to, o_he, o_ar, o_ki, o_st, o_ff, o_sl, o_dc, o_da⟩ := id hOk
  obtain ⟨gx1, gx2⟩ := gx
  refine lv_iload_n hx hb d_P_isZone_0 rfl (lv_at hl 1 rfl) ?_
  refine lv_iconst (v := iI (0)) hx hb d_P_isZone_1 rfl ?_
  refine lv_aload_n hx hb d_P_isZone_2 rfl (lv_at hl 0 rfl) ?_
  refine va_get (D := D) (ci := 0) (v := .ref (a 1)) (C := R_P) (T := T_P) (N := 6) hx hb hts (in_P _) hown hK hP 0 rfl rfl 0 (by decide) (ht _ m_196) (fun _ h9 => h9) rfl d_P_isZone_3 ?_
  refine va_get (D := D) (ci := 1) (v := .int (iI (ns 0))) (C := R_N) (T := T_N) (N := 17) hx hb hts (in_N _) hown hK hP 1 rfl rfl 13 (by decide) (ht _ m_82) (fun _ h9 => h9) rfl d_P_isZone_6 ?_
  refine lv_iconst (v := iI (1)) hx hb d_P_isZone_9 rfl ?_
  refine pr_isub hx hb d_P_isZone_10 ?_
  refine pr_pi (va_runS (As := [.int (iI (x)), .int (iI (0)), .int (iI ((ns 0) - (1)))]) (rest := []) ⟨hx, hb, hml, hown, hts⟩ (c_P_isWithin l (x) (0) ((ns 0) - (1)) (i3_of (by omega) (by omega)) (i3_of (by decide) (by decide)) (i3_of (by omega) (by omega))) (cwS 3 hts (pn_gS m_227 m_228 m_33 m_229) rfl rfl rfl (by decide +kernel) ⟨Nat.le_of_ble_eq_true rfl, Nat.le_of_ble_eq_true rfl⟩) pn_pre0 rfl rfl hl.1 rfl (lv_room (Nat.le_of_ble_eq_true rfl)) d_P_isZone_11 ⟨Nat.le_of_ble_eq_true rfl, Nat.le_of_ble_eq_true rfl⟩) ?_
  exact pr_rz hx hb hr hlocks d_P_isZone_14 (by first | exact Or.inl rfl | exact Or.inr rfl | exact b2_01 _) (by first | rfl | exact (b2_t (by omega)).symm | exact (b2_f (by omega)).symm)
abbrev w_P_isLeak : List Cond := .code y_P_isLeak b_P_isLeak 2 (some .boolean) :: pn_W
set_option maxHeartbeats 4000000 in
set_option maxRecDepth 100000 in
theorem c_P_isLeak (l : Launch) {D : va_G} {a : Nat → Nat} {cI cL cD cS : ClassId} {nf : Nat → Int → Int} {ns : Nat → Int} {da : Int → Int → Int} {be : Int → Int} {ui ul : Nat → Int → Int} {cn : Int} {ss : Nat → Nat} {mf sd : Nat → Int} {pr : Nat → Int → Int} (x : Int) (hOk : pn_Ok nf ns da) (gx : i3 x) : Met l y_P_isLeak w_P_isLeak ({ frames := 1, cells := 0, slots := 0, locals := 22 }) (va_Pc [.ref (a 0), .int (iI (x))] (fun U => va_P D pn_cl (cw a cI cL cD cS nf ns da be ui ul cn ss mf sd pr) U.heap ∧ pn_E D cI cL cD cS U)) (vp_Si (fun r => r = iI (b2 (0 ≤ x ∧ x ≤ ns 1 - 1)))) 0 0 (fun _ => False) := by
  refine Met.ofW (cc := b_P_isLeak) (maxL := 2) (ret := (some .boolean)) (by decide) rfl ?_
  intro p e s m args below meth c s₁ B hml hv
  obtain ⟨rfl, hP, hE⟩ := hv
  have hx := B.exec
  have hb := B.bytes
  have hr := B.returns
  have hts := atoms_spec (ws := w_P_isLeak) B.pre
  have ht : ∀ w ∈ pn_W, w.before _ s = true := fun w h => hts w (List.mem_cons_of_mem _ h)
  have hown : s.vm.findClass R_P = some m.cls := findClass_of_methodNamed B.named
  have hlocks := B.notSynchronized
  have hK := hE.1
  have hl := lv_entry ([.ref (a 0), .int (iI (x))]) (n := 2) (Nat.le_of_ble_eq_true rfl)
  rw [lg_entry_eq]
  generalize (lg_sl ([.ref (a 0), .int (iI (x))]) ++ List.replicate (2 - (lg_sl ([.ref (a 0), .int (iI (x))])).length) Slot.unset).toArray = ls at hl ⊢
  have hl : lv_has ls 2 [(0, .ref (a 0)), (1, .int (iI (x)))] := hl
  obtain ⟨o_zc, o_lc, o_fc, o_ve, o_wi, o_wa, o_vo, o_fr, o_to, o_he, o_ar, o_ki, o_st, o_ff, o_sl, o_dc, o_da⟩ := id hOk
  obtain ⟨gx1, gx2⟩ := gx
  refine lv_iload_n hx hb d_P_isLeak_0 rfl (lv_at hl 1 rfl) ?_
  refine lv_iconst (v := iI (0)) hx hb d_P_isLeak_1 rfl ?_
  refine lv_aload_n hx hb d_P_isLeak_2 rfl (lv_at hl 0 rfl) ?_
  refine va_get (D := D) (ci := 0) (v := .ref (a 1)) (C := R_P) (T := T_P) (N := 6) hx hb hts (in_P _) hown hK hP 0 rfl rfl 0 (by decide) (ht _ m_196) (fun _ h9 => h9) rfl d_P_isLeak_3 ?_
  refine va_get (D := D) (ci := 1) (v := .int (iI (ns 1))) (C := R_N) (T := T_N) (N := 17) hx hb hts (in_N _) hown hK hP 1 rfl rfl 14 (by decide) (ht _ m_86) (fun _ h9 => h9) rfl d_P_isLeak_6 ?_
  refine lv_iconst (v := iI (1)) hx hb d_P_isLeak_9 rfl ?_
  refine pr_isub hx hb d_P_isLeak_10 ?_
  refine pr_pi (va_runS (As := [.int (iI (x)), .int (iI (0)), .int (iI ((ns 1) - (1)))]) (rest := []) ⟨hx, hb, hml, hown, hts⟩ (c_P_isWithin l (x) (0) ((ns 1) - (1)) (i3_of (by omega) (by omega)) (i3_of (by decide) (by decide)) (i3_of (by omega) (by omega))) (cwS 3 hts (pn_gS m_227 m_228 m_33 m_229) rfl rfl rfl (by decide +kernel) ⟨Nat.le_of_ble_eq_true rfl, Nat.le_of_ble_eq_true rfl⟩) pn_pre0 rfl rfl hl.1 rfl (lv_room (Nat.le_of_ble_eq_true rfl)) d_P_isLeak_11 ⟨Nat.le_of_ble_eq_true rfl, Nat.le_of_ble_eq_true rfl⟩) ?_
  exact pr_rz hx hb hr hlocks d_P_isLeak_14 (by first | exact Or.inl rfl | exact Or.inr rfl | exact b2_01 _) (by first | rfl | exact (b2_t (by omega)).symm | exact (b2_f (by omega)).symm)
abbrev w_P_isPlace : List Cond := .code y_P_isPlace b_P_isPlace 2 (some .boolean) :: pn_W
set_option maxHeartbeats 4000000 in
set_option maxRecDepth 100000 in
theorem c_P_isPlace (l : Launch) {D : va_G} {a : Nat → Nat} {cI cL cD cS : ClassId} {nf : Nat → Int → Int} {ns : Nat → Int} {da : Int → Int → Int} {be : Int → Int} {ui ul : Nat → Int → Int} {cn : Int} {ss : Nat → Nat} {mf sd : Nat → Int} {pr : Nat → Int → Int} (x : Int) (hOk : pn_Ok nf ns da) (gx : i3 x) : Met l y_P_isPlace w_P_isPlace ({ frames := 2, cells := 0, slots := 0, locals := 43 }) (va_Pc [.ref (a 0), .int (iI (x))] (fun U => va_P D pn_cl (cw a cI cL cD cS nf ns da be ui ul cn ss mf sd pr) U.heap ∧ pn_E D cI cL cD cS U)) (vp_Si (fun r => r = iI (b2 (-4 ≤ x ∧ x ≤ ns 0 - 1)))) 0 0 (fun _ => False) := by
  refine Met.ofW (cc := b_P_isPlace) (maxL := 2) (ret := (some .boolean)) (by decide) rfl ?_
  intro p e s m args below meth c s₁ B hml hv
  obtain ⟨rfl, hP, hE⟩ := hv
  have hx := B.exec
  have hb := B.bytes
  have hr := B.returns
  have hts := atoms_spec (ws := w_P_isPlace) B.pre
  have ht : ∀ w ∈ pn_W, w.before _ s = true := fun w h => hts w (List.mem_cons_of_mem _ h)
  have hown : s.vm.findClass R_P = some m.cls := findClass_of_methodNamed B.named
  have hlocks := B.notSynchronized
  have hK := hE.1
  have hl := lv_entry ([.ref (a 0), .int (iI (x))]) (n := 2) (Nat.le_of_ble_eq_true rfl)
  rw [lg_entry_eq]
  generalize (lg_sl ([.ref (a 0), .int (iI (x))]) ++ List.replicate (2 - (lg_sl ([.ref (a 0), .int (iI (x))])).length) Slot.unset).toArray = ls at hl ⊢
  have hl : lv_has ls 2 [(0, .ref (a 0)), (1, .int (iI (x)))] := hl
  obtain ⟨o_zc, o_lc, o_fc, o_ve, o_wi, o_wa, o_vo, o_fr, o_to, o_he, o_ar, o_ki, o_st, o_ff, o_sl, o_dc, o_da⟩ := id hOk
  obtain ⟨gx1, gx2⟩ := gx
  refine lv_iload_n hx hb d_P_isPlace_0 rfl (lv_at hl 1 rfl) ?_
  refine pr_pi (va_runS (As := [.int (iI (x))]) (rest := []) ⟨hx, hb, hml, hown, hts⟩ (c_P_isSide l (x) (i3_of (by omega) (by omega))) (cwS 1 hts (pn_gS m_334 m_335 m_33 m_336) rfl rfl rfl (by decide +kernel) ⟨Nat.le_of_ble_eq_true rfl, Nat.le_of_ble_eq_true rfl⟩) pn_pre0 rfl rfl hl.1 rfl (lv_room (Nat.le_of_ble_eq_true rfl)) d_P_isPlace_1 ⟨Nat.le_of_ble_eq_true rfl, Nat.le_of_ble_eq_true rfl⟩) ?_
  refine pr_if_ne (tgt := 15) hx hb (i3_b2 _) d_P_isPlace_4 (by decide) (fun c_1 => ?_) (fun c_1 => ?_)
  · replace c_1 := b2_n1 c_1
    refine lv_iconst (v := iI (1)) hx hb d_P_isPlace_15 rfl ?_
    refine lv_goto (tgt := 20) hx hb d_P_isPlace_16 (by decide) ?_
    exact pr_rz hx hb hr hlocks d_P_isPlace_20 (by first | exact Or.inl rfl | exact Or.inr rfl | exact b2_01 _) (by first | rfl | exact (b2_t (by omega)).symm | exact (b2_f (by omega)).symm)
  · replace c_1 := b2_0 c_1
    refine lv_aload_n hx hb d_P_isPlace_7 rfl (lv_at hl 0 rfl) ?_
    refine lv_iload_n hx hb d_P_isPlace_8 rfl (lv_at hl 1 rfl) ?_
    refine pr_pi (va_runV (As := [.int (iI (x))]) (rest := []) ⟨hx, hb, hml, hown, hts⟩ (c_P_isZone l (x) hOk (i3_of (by omega) (by omega))) (cwV 1 hts (pn_gV m_353 m_355 m_2 m_33 m_356) rfl rfl rfl (by decide +kernel) ⟨Nat.le_of_ble_eq_true rfl, Nat.le_of_ble_eq_true rfl⟩) (pn_preV (q0 := 0) (ci := 0) (q := (R_P, T_P, 6)) hP hE rfl rfl) rfl rfl hl.1 rfl (lv_room (Nat.le_of_ble_eq_true rfl)) d_P_isPlace_9 ⟨Nat.le_of_ble_eq_true rfl, Nat.le_of_ble_eq_true rfl⟩) ?_
    refine pr_if_eq (tgt := 19) hx hb (i3_b2 _) d_P_isPlace_12 (by decide) (fun c_2 => ?_) (fun c_2 => ?_)
    · replace c_2 := b2_0 c_2
      refine lv_iconst (v := iI (0)) hx hb d_P_isPlace_19 rfl ?_
      exact pr_rz hx hb hr hlocks d_P_isPlace_20 (by first | exact Or.inl rfl | exact Or.inr rfl | exact b2_01 _) (by first | rfl | exact (b2_t (by omega)).symm | exact (b2_f (by omega)).symm)
    · replace c_2 := b2_n1 c_2
      refine lv_iconst (v := iI (1)) hx hb d_P_isPlace_15 rfl ?_
      refine lv_goto (tgt := 20) hx hb d_P_isPlace_16 (by decide) ?_
      exact pr_rz hx hb hr hlocks d_P_isPlace_20 (by first | exact Or.inl rfl | exact Or.inr rfl | exact b2_01 _) (by first | rfl | exact (b2_t (by omega)).symm | exact (b2_f (by omega)).symm)
abbrev w_P_canJoin : List Cond := .code y_P_canJoin b_P_canJoin 3 (some .boolean) :: pn_W
set_option maxHeartbeats 4000000 in
set_option maxRecDepth 100000 in
theorem c_P_canJoin (l : Launch) {D : va_G} {a : Nat → Nat} {cI cL cD cS : ClassId} {nf : Nat → Int → Int} {ns : Nat → Int} {da : Int → Int → Int} {be : Int → Int} {ui ul : Nat → Int → Int} {cn : Int} {ss : Nat → Nat} {mf sd : Nat → Int} {pr : Nat → Int → Int} (x y : Int) (hOk : pn_Ok nf ns da) (gx : i3 x) (gy : i3 y) : Met l y_P_canJoin w_P_canJoin ({ frames := 3, cells := 0, slots := 0, locals := 64 }) (va_Pc [.ref (a 0), .int (iI (x)), .int (iI (y))] (fun U => va_P D pn_cl (cw a cI cL cD cS nf ns da be ui ul cn ss mf sd pr) U.heap ∧ pn_E D cI cL cD cS U)) (vp_Si (fun r => r = iI (b2 ((-4 ≤ x ∧ x ≤ ns 0 - 1) ∧ (-4 ≤ y ∧ y ≤ ns 0 - 1) ∧ x ≠ y ∧ ¬ ((-4 ≤ x ∧ x ≤ -1) ∧ (-4 ≤ y ∧ y ≤ -1)))))) 0 0 (fun _ => False) := by
  refine Met.ofW (cc := b_P_canJoin) (maxL := 3) (ret := (some .boolean)) (by decide) rfl ?_
  intro p e s m args below meth c s₁ B hml hv
  obtain ⟨rfl, hP, hE⟩ := hv
  have hx := B.exec
  have hb := B.bytes
  have hr := B.returns
  have hts := atoms_spec (ws := w_P_canJoin) B.pre
  have ht : ∀ w ∈ pn_W, w.before _ s = true := fun w h => hts w (List.mem_cons_of_mem _ h)
  have hown : s.vm.findClass R_P = some m.cls := findClass_of_methodNamed B.named
  have hlocks := B.notSynchronized
  have hK := hE.1
  have hl := lv_entry ([.ref (a 0), .int (iI (x)), .int (iI (y))]) (n := 3) (Nat.le_of_ble_eq_true rfl)
  rw [lg_entry_eq]
  generalize (lg_sl ([.ref (a 0), .int (iI (x)), .int (iI (y))]) ++ List.replicate (3 - (lg_sl ([.ref (a 0), .int (iI (x)), .int (iI (y))])).length) Slot.unset).toArray = ls at hl ⊢
  have hl : lv_has ls 3 [(0, .ref (a 0)), (1, .int (iI (x))), (2, .int (iI (y)))] := hl
  obtain ⟨o_zc, o_lc, o_fc, o_ve, o_wi, o_wa, o_vo, o_fr, o_to, o_he, o_ar, o_ki, o_st, o_ff, o_sl, o_dc, o_da⟩ := id hOk
  obtain ⟨gx1, gx2⟩ := gx
  obtain ⟨gy1, gy2⟩ := gy
  refine lv_aload_n hx hb d_P_canJoin_0 rfl (lv_at hl 0 rfl) ?_
  refine lv_iload_n hx hb d_P_canJoin_1 rfl (lv_at hl 1 rfl) ?_
  refine pr_pi (va_runV (As := [.int (iI (x))]) (rest := []) ⟨hx, hb, hml, hown, hts⟩ (c_P_isPlace l (x) hOk (i3_of (by omega) (by omega))) (cwV 1 hts (pn_gV m_349 m_351 m_1 m_33 m_352) rfl rfl rfl (by decide +kernel) ⟨Nat.le_of_ble_eq_true rfl, Nat.le_of_ble_eq_true rfl⟩) (pn_preV (q0 := 0) (ci := 0) (q := (R_P, T_P, 6)) hP hE rfl rfl) rfl rfl hl.1 rfl (lv_room (Nat.le_of_ble_eq_true rfl)) d_P_canJoin_2 ⟨Nat.le_of_ble_eq_true rfl, Nat.le_of_ble_eq_true rfl⟩) ?_
  refine pr_if_eq (tgt := 39) hx hb (i3_b2 _) d_P_canJoin_5 (by decide) (fun c_1 => ?_) (fun c_1 => ?_)
  · replace c_1 := b2_0 c_1
    refine lv_iconst (v := iI (0)) hx hb d_P_canJoin_39 rfl ?_
    exact pr_rz hx hb hr hlocks d_P_canJoin_40 (by first | exact Or.inl rfl | exact Or.inr rfl | exact b2_01 _) (by first | rfl | exact (b2_t (by omega)).symm | exact (b2_f (by omega)).symm)
  · replace c_1 := b2_n1 c_1
    refine lv_aload_n hx hb d_P_canJoin_8 rfl (lv_at hl 0 rfl) ?_
    refine lv_iload_n hx hb d_P_canJoin_9 rfl (lv_at hl 2 rfl) ?_
    refine pr_pi (va_runV (As := [.int (iI (y))]) (rest := []) ⟨hx, hb, hml, hown, hts⟩ (c_P_isPlace l (y) hOk (i3_of (by omega) (by omega))) (cwV 1 hts (pn_gV m_349 m_351 m_1 m_33 m_352) rfl rfl rfl (by decide +kernel) ⟨Nat.le_of_ble_eq_true rfl, Nat.le_of_ble_eq_true rfl⟩) (pn_preV (q0 := 0) (ci := 0) (q := (R_P, T_P, 6)) hP hE rfl rfl) rfl rfl hl.1 rfl (lv_room (Nat.le_of_ble_eq_true rfl)) d_P_canJoin_10 ⟨Nat.le_of_ble_eq_true rfl, Nat.le_of_ble_eq_true rfl⟩) ?_
    refine pr_if_eq (tgt := 39) hx hb (i3_b2 _) d_P_canJoin_13 (by decide) (fun c_2 => ?_) (fun c_2 => ?_)
    · replace c_2 := b2_0 c_2
      refine lv_iconst (v := iI (0)) hx hb d_P_canJoin_39 rfl ?_
      exact pr_rz hx hb hr hlocks d_P_canJoin_40 (by first | exact Or.inl rfl | exact Or.inr rfl | exact b2_01 _) (by first | rfl | exact (b2_t (by omega)).symm | exact (b2_f (by omega)).symm)
    · replace c_2 := b2_n1 c_2
      refine lv_iload_n hx hb d_P_canJoin_16 rfl (lv_at hl 1 rfl) ?_
      refine lv_iload_n hx hb d_P_canJoin_17 rfl (lv_at hl 2 rfl) ?_
      refine pr_icmp_eq (tgt := 39) hx hb (i3_of (by omega) (by omega)) (i3_of (by omega) (by omega)) d_P_canJoin_18 (by decide) (fun c_3 => ?_) (fun c_3 => ?_)
      · skip
        refine lv_iconst (v := iI (0)) hx hb d_P_canJoin_39 rfl ?_
        exact pr_rz hx hb hr hlocks d_P_canJoin_40 (by first | exact Or.inl rfl | exact Or.inr rfl | exact b2_01 _) (by first | rfl | exact (b2_t (by omega)).symm | exact (b2_f (by omega)).symm)
      · skip
        refine lv_iload_n hx hb d_P_canJoin_21 rfl (lv_at hl 1 rfl) ?_
        refine pr_pi (va_runS (As := [.int (iI (x))]) (rest := []) ⟨hx, hb, hml, hown, hts⟩ (c_P_isSide l (x) (i3_of (by omega) (by omega))) (cwS 1 hts (pn_gS m_334 m_335 m_33 m_336) rfl rfl rfl (by decide +kernel) ⟨Nat.le_of_ble_eq_true rfl, Nat.le_of_ble_eq_true rfl⟩) pn_pre0 rfl rfl hl.1 rfl (lv_room (Nat.le_of_ble_eq_true rfl)) d_P_canJoin_22 ⟨Nat.le_of_ble_eq_true rfl, Nat.le_of_ble_eq_true rfl⟩) ?_
        refine pr_if_eq (tgt := 35) hx hb (i3_b2 _) d_P_canJoin_25 (by decide) (fun c_4 => ?_) (fun c_4 => ?_)
        · replace c_4 := b2_0 c_4
          refine lv_iconst (v := iI (1)) hx hb d_P_canJoin_35 rfl ?_
          refine lv_goto (tgt := 40) hx hb d_P_canJoin_36 (by decide) ?_
          exact pr_rz hx hb hr hlocks d_P_canJoin_40 (by first | exact Or.inl rfl | exact Or.inr rfl | exact b2_01 _) (by first | rfl | exact (b2_t (by omega)).symm | exact (b2_f (by omega)).symm)
        · replace c_4 := b2_n1 c_4
          refine lv_iload_n hx hb d_P_canJoin_28 rfl (lv_at hl 2 rfl) ?_
          refine pr_pi (va_runS (As := [.int (iI (y))]) (rest := []) ⟨hx, hb, hml, hown, hts⟩ (c_P_isSide l (y) (i3_of (by omega) (by omega))) (cwS 1 hts (pn_gS m_334 m_335 m_33 m_336) rfl rfl rfl (by decide +kernel) ⟨Nat.le_of_ble_eq_true rfl, Nat.le_of_ble_eq_true rfl⟩) pn_pre0 rfl rfl hl.1 rfl (lv_room (Nat.le_of_ble_eq_true rfl)) d_P_canJoin_29 ⟨Nat.le_of_ble_eq_true rfl, Nat.le_of_ble_eq_true rfl⟩) ?_
          refine pr_if_ne (tgt := 39) hx hb (i3_b2 _) d_P_canJoin_32 (by decide) (fun c_5 => ?_) (fun c_5 => ?_)
          · replace c_5 := b2_n1 c_5
            refine lv_iconst (v := iI (0)) hx hb d_P_canJoin_39 rfl ?_
            exact pr_rz hx hb hr hlocks d_P_canJoin_40 (by first | exact Or.inl rfl | exact Or.inr rfl | exact b2_01 _) (by first | rfl | exact (b2_t (by omega)).symm | exact (b2_f (by omega)).symm)
          · replace c_5 := b2_0 c_5
            refine lv_iconst (v := iI (1)) hx hb d_P_canJoin_35 rfl ?_
            refine lv_goto (tgt := 40) hx hb d_P_canJoin_36 (by decide) ?_
            exact pr_rz hx hb hr hlocks d_P_canJoin_40 (by first | exact Or.inl rfl | exact Or.inr rfl | exact b2_01 _) (by first | rfl | exact (b2_t (by omega)).symm | exact (b2_f (by omega)).symm)
