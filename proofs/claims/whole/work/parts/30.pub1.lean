theorem pn_preX {s : State} {H : Heap} {A : Nat → Prop} {locs : List Loc} {As : List Value} (hX : pn_X A s) (hS : va_S A s.heap H locs) (hA : ∀ q : Nat, s.heap.size ≤ q → A q) : PreS s H (va_Pc As (fun U => U.heap.size = H.size ∧ pn_X (fun q => H.size ≤ q) U)) As :=
  ⟨fun _ _ _ _ q => ⟨q.1, q.2.1, pn_X.same rfl rfl q.2.2⟩, fun U hU hW => ⟨rfl, by rw [hU], pn_X.move hW hU hS (fun q h => hA q (Nat.le_trans hS.1 h)) hX⟩⟩
abbrev w_P_zone : List Cond := .code y_P_zone b_P_zone 3 (some .int) :: pn_W
set_option maxHeartbeats 4000000 in
set_option maxRecDepth 100000 in
theorem c_P_zone (l : Launch) (hst : l.stackTraces = false) {D : va_G} {a : Nat → Nat} {cI cL cD cS : ClassId} {nf : Nat → Int → Int} {ns : Nat → Int} {da : Int → Int → Int} {be : Int → Int} {ui ul : Nat → Int → Int} {cn : Int} {ss : Nat → Nat} {mf sd : Nat → Int} {pr : Nat → Int → Int} (sz : Nat) (x y : Int) (hOk : pn_Ok nf ns da) (gx : i3 x) (gy : i3 y) : vx_Met l y_P_zone w_P_zone ({ frames := 7, cells := 1, slots := 6, locals := 110 }) (va_Pc [.ref (a 0), .int (iI (x)), .int (iI (y))] (fun U => U.heap.size = sz ∧ va_P D pn_cl (cw a cI cL cD cS nf ns da be ui ul cn ss mf sd pr) U.heap ∧ va_D (fun _ => True) (cw a cI cL cD cS nf ns da be ui ul cn ss mf sd pr) ∧ pn_E D cI cL cD cS U ∧ pn_X (va_A (cw a cI cL cD cS nf ns da be ui ul cn ss mf sd pr) sz) U)) (va_Qi (fun (r : Int32) (_ : Unit) => ((-1000 ≤ x ∧ x ≤ 1000) ∧ (1 ≤ y ∧ y ≤ 100000)) ∧ ¬ (8 ≤ ns 0) ∧ r = iI (ns 0)) (fun u t => va_P D pn_cl ((fun _ : Unit => cw a cI cL cD cS (nw (nw nf 1 (pu (nf 1) ((ns 0) + 4) (x))) 2 (pu ((nw nf 1 (pu (nf 1) ((ns 0) + 4) (x))) 2) (ns 0) (y))) (nw (nw ns 0 ((ns 0) + (1))) 3 (((nw ns 0 ((ns 0) + (1))) 3) + (1))) da be ui ul cn ss mf sd pr) u) t.heap ∧ va_D (va_A (cw a cI cL cD cS nf ns da be ui ul cn ss mf sd pr) sz) ((fun _ : Unit => cw a cI cL cD cS (nw (nw nf 1 (pu (nf 1) ((ns 0) + 4) (x))) 2 (pu ((nw nf 1 (pu (nf 1) ((ns 0) + 4) (x))) 2) (ns 0) (y))) (nw (nw ns 0 ((ns 0) + (1))) 3 (((nw ns 0 ((ns 0) + (1))) 3) + (1))) da be ui ul cn ss mf sd pr) u)) (va_A (cw a cI cL cD cS nf ns da be ui ul cn ss mf sd pr) sz)) (vx_X (fun _ : Unit => True) (fun E _ t => ((E = "java/lang/IllegalArgumentException" ∧ ¬ ((-1000 ≤ x ∧ x ≤ 1000) ∧ (1 ≤ y ∧ y ≤ 100000))) ∨ (E = "java/lang/IllegalStateException" ∧ ((-1000 ≤ x ∧ x ≤ 1000) ∧ (1 ≤ y ∧ y ≤ 100000)) ∧ 8 ≤ ns 0)) ∧ va_P D pn_cl (cw a cI cL cD cS nf ns da be ui ul cn ss mf sd pr) t.heap) (va_A (cw a cI cL cD cS nf ns da be ui ul cn ss mf sd pr) sz)) 1 6 (va_A (cw a cI cL cD cS nf ns da be ui ul cn ss mf sd pr) sz) := by
  refine vx_ofW (cc := b_P_zone) (maxL := 3) (ret := (some .int)) (by decide) rfl ?_
  intro p e s m args below meth c s₁ B hml htab hv
  obtain ⟨rfl, hsz, hP, hD0, hE, hX⟩ := hv
  have hx := B.exec
  have hb := B.bytes
  have hr := B.returns
  have hts := atoms_spec (ws := w_P_zone) B.pre
  have ht : ∀ w ∈ pn_W, w.before _ s = true := fun w h => hts w (List.mem_cons_of_mem _ h)
  have hown : s.vm.findClass R_P = some m.cls := findClass_of_methodNamed B.named
  have hlocks := B.notSynchronized
  have hK := hE.1
  subst hsz
  have hD := hD0.self (sz := s.heap.size)
  generalize hAe : va_A (cw a cI cL cD cS nf ns da be ui ul cn ss mf sd pr) s.heap.size = A at hD hX ⊢
  have hA : ∀ q : Nat, s.heap.size ≤ q → A q := fun q h => by rw [← hAe]; exact Or.inr h
  have hS : va_S A s.heap s.heap [] := va_S.rf
  have hl := lv_entry ([.ref (a 0), .int (iI (x)), .int (iI (y))]) (n := 3) (Nat.le_of_ble_eq_true rfl)
  rw [lg_entry_eq]
  generalize (lg_sl ([.ref (a 0), .int (iI (x)), .int (iI (y))]) ++ List.replicate (3 - (lg_sl ([.ref (a 0), .int (iI (x)), .int (iI (y))])).length) Slot.unset).toArray = ls at hl ⊢
  have hl : lv_has ls 3 [(0, .ref (a 0)), (1, .int (iI (x))), (2, .int (iI (y)))] := hl
  obtain ⟨o_zc, o_lc, o_fc, o_ve, o_wi, o_wa, o_vo, o_fr, o_to, o_he, o_ar, o_ki, o_st, o_ff, o_sl, o_dc, o_da⟩ := id hOk
  obtain ⟨gx1, gx2⟩ := gx
  obtain ⟨gy1, gy2⟩ := gy
  refine lv_iload_n hx hb d_P_zone_0 rfl (lv_at hl 1 rfl) ?_
  refine pr_pi (va_runS (As := [.int (iI (x))]) (rest := []) ⟨hx, hb, hml, hown, hts⟩ (c_P_isWarmth l (x) (i3_of (by omega) (by omega))) (cwS 1 hts (pn_gS m_224 m_225 m_33 m_226) rfl rfl rfl (by decide +kernel) ⟨Nat.le_of_ble_eq_true rfl, Nat.le_of_ble_eq_true rfl⟩) pn_pre0 rfl rfl hl.1 rfl (lv_room (Nat.le_of_ble_eq_true rfl)) d_P_zone_1 ⟨Nat.le_of_ble_eq_true rfl, Nat.le_of_ble_eq_true rfl⟩) ?_
  refine pr_if_eq (tgt := 21) hx hb (i3_b2 _) d_P_zone_4 (by decide) (fun c_1 => ?_) (fun c_1 => ?_)
  · replace c_1 := b2_0 c_1
    refine lv_iconst (v := iI (0)) hx hb d_P_zone_21 rfl ?_
    exact px_throw (cls := "java/lang/IllegalArgumentException") (vx_runS (As := [.int (iI 0)]) (rest := []) ⟨hx, hb, hml, hown, hts⟩ (x_P_demandLegal l hst s.heap.size) (cwS 1 hts (pn_gS m_231 m_232 m_33 m_233) rfl rfl rfl (by decide +kernel) ⟨Nat.le_of_ble_eq_true rfl, Nat.le_of_ble_eq_true rfl⟩) (pn_preX hX hS hA) rfl rfl hl.1 rfl (lv_room (Nat.le_of_ble_eq_true rfl)) d_P_zone_22 ⟨Nat.le_of_ble_eq_true rfl, Nat.le_of_ble_eq_true rfl⟩) hS hA (fun x hx9 => (htab x hx9).elim) hlocks (by decide) (by decide) (fun q h => h) (fun t H1 locs1 hh hk hS1 => ⟨(), trivial, ⟨(by first | exact Or.inl ⟨rfl, by omega⟩ | exact Or.inr ⟨rfl, by omega, by omega⟩), by rw [hh]; exact hP.kept (fun k9 q9 h9 => hk q9.1 ((hP k9 q9 h9).lt))⟩, hS1.F hh⟩)
  · replace c_1 := b2_n1 c_1
    refine lv_iload_n hx hb d_P_zone_7 rfl (lv_at hl 2 rfl) ?_
    refine lv_iconst (v := iI (1)) hx hb d_P_zone_8 rfl ?_
    refine lv_ldc (v := iI (100000)) hx hb hown (ht (.constant _ 51 (iI (100000))) m_230) d_P_zone_9 ?_
    refine pr_pi (va_runS (As := [.int (iI (y)), .int (iI (1)), .int (iI (100000))]) (rest := []) ⟨hx, hb, hml, hown, hts⟩ (c_P_isWithin l (y) (1) (100000) (i3_of (by omega) (by omega)) (i3_of (by decide) (by decide)) (i3_of (by decide) (by decide))) (cwS 3 hts (pn_gS m_227 m_228 m_33 m_229) rfl rfl rfl (by decide +kernel) ⟨Nat.le_of_ble_eq_true rfl, Nat.le_of_ble_eq_true rfl⟩) pn_pre0 rfl rfl hl.1 rfl (lv_room (Nat.le_of_ble_eq_true rfl)) d_P_zone_11 ⟨Nat.le_of_ble_eq_true rfl, Nat.le_of_ble_eq_true rfl⟩) ?_
    refine pr_if_eq (tgt := 21) hx hb (i3_b2 _) d_P_zone_14 (by decide) (fun c_2 => ?_) (fun c_2 => ?_)
    · replace c_2 := b2_0 c_2
      refine lv_iconst (v := iI (0)) hx hb d_P_zone_21 rfl ?_
      exact px_throw (cls := "java/lang/IllegalArgumentException") (vx_runS (As := [.int (iI 0)]) (rest := []) ⟨hx, hb, hml, hown, hts⟩ (x_P_demandLegal l hst s.heap.size) (cwS 1 hts (pn_gS m_231 m_232 m_33 m_233) rfl rfl rfl (by decide +kernel) ⟨Nat.le_of_ble_eq_true rfl, Nat.le_of_ble_eq_true rfl⟩) (pn_preX hX hS hA) rfl rfl hl.1 rfl (lv_room (Nat.le_of_ble_eq_true rfl)) d_P_zone_22 ⟨Nat.le_of_ble_eq_true rfl, Nat.le_of_ble_eq_true rfl⟩) hS hA (fun x hx9 => (htab x hx9).elim) hlocks (by decide) (by decide) (fun q h => h) (fun t H1 locs1 hh hk hS1 => ⟨(), trivial, ⟨(by first | exact Or.inl ⟨rfl, by omega⟩ | exact Or.inr ⟨rfl, by omega, by omega⟩), by rw [hh]; exact hP.kept (fun k9 q9 h9 => hk q9.1 ((hP k9 q9 h9).lt))⟩, hS1.F hh⟩)
    · replace c_2 := b2_n1 c_2
      refine lv_iconst (v := iI (1)) hx hb d_P_zone_17 rfl ?_
      refine lv_goto (tgt := 22) hx hb d_P_zone_18 (by decide) ?_
      refine pr_pv (va_runS (As := [.int (iI 1)]) (rest := []) ⟨hx, hb, hml, hown, hts⟩ (c_P_demandLegal l) (cwS 1 hts (pn_gS m_231 m_232 m_33 m_233) rfl rfl rfl (by decide +kernel) ⟨Nat.le_of_ble_eq_true rfl, Nat.le_of_ble_eq_true rfl⟩) pn_pre0 rfl rfl hl.1 rfl (lv_room (Nat.le_of_ble_eq_true rfl)) d_P_zone_22 ⟨Nat.le_of_ble_eq_true rfl, Nat.le_of_ble_eq_true rfl⟩) ?_
      refine lv_aload_n hx hb d_P_zone_25 rfl (lv_at hl 0 rfl) ?_
      refine va_get (D := D) (ci := 0) (v := .ref (a 1)) (C := R_P) (T := T_P) (N := 6) hx hb hts (in_P _) hown hK hP 0 rfl rfl 0 (by decide) (ht _ m_196) (fun _ h9 => h9) rfl d_P_zone_26 ?_
      refine va_get (D := D) (ci := 1) (v := .int (iI (ns 0))) (C := R_N) (T := T_N) (N := 17) hx hb hts (in_N _) hown hK hP 1 rfl rfl 13 (by decide) (ht _ m_82) (fun _ h9 => h9) rfl d_P_zone_29 ?_
      refine lv_bipush (v := iI (8)) hx hb d_P_zone_32 (by decide) ?_
      refine pr_icmp_ge (tgt := 41) hx hb (i3_of (by omega) (by omega)) (i3_of (by decide) (by decide)) d_P_zone_34 (by decide) (fun c_3 => ?_) (fun c_3 => ?_)
      · skip
        refine lv_iconst (v := iI (0)) hx hb d_P_zone_41 rfl ?_
        exact px_throw (cls := "java/lang/IllegalStateException") (vx_runS (As := [.int (iI 0)]) (rest := []) ⟨hx, hb, hml, hown, hts⟩ (x_P_demandRoom l hst s.heap.size) (cwS 1 hts (pn_gS m_301 m_302 m_33 m_303) rfl rfl rfl (by decide +kernel) ⟨Nat.le_of_ble_eq_true rfl, Nat.le_of_ble_eq_true rfl⟩) (pn_preX hX hS hA) rfl rfl hl.1 rfl (lv_room (Nat.le_of_ble_eq_true rfl)) d_P_zone_42 ⟨Nat.le_of_ble_eq_true rfl, Nat.le_of_ble_eq_true rfl⟩) hS hA (fun x hx9 => (htab x hx9).elim) hlocks (by decide) (by decide) (fun q h => h) (fun t H1 locs1 hh hk hS1 => ⟨(), trivial, ⟨(by first | exact Or.inl ⟨rfl, by omega⟩ | exact Or.inr ⟨rfl, by omega, by omega⟩), by rw [hh]; exact hP.kept (fun k9 q9 h9 => hk q9.1 ((hP k9 q9 h9).lt))⟩, hS1.F hh⟩)
      · skip
        refine lv_iconst (v := iI (1)) hx hb d_P_zone_37 rfl ?_
        refine lv_goto (tgt := 42) hx hb d_P_zone_38 (by decide) ?_
        refine pr_pv (va_runS (As := [.int (iI 1)]) (rest := []) ⟨hx, hb, hml, hown, hts⟩ (c_P_demandRoom l) (cwS 1 hts (pn_gS m_301 m_302 m_33 m_303) rfl rfl rfl (by decide +kernel) ⟨Nat.le_of_ble_eq_true rfl, Nat.le_of_ble_eq_true rfl⟩) pn_pre0 rfl rfl hl.1 rfl (lv_room (Nat.le_of_ble_eq_true rfl)) d_P_zone_42 ⟨Nat.le_of_ble_eq_true rfl, Nat.le_of_ble_eq_true rfl⟩) ?_
        refine lv_aload_n hx hb d_P_zone_45 rfl (lv_at hl 0 rfl) ?_
        refine va_get (D := D) (ci := 0) (v := .ref (a 1)) (C := R_P) (T := T_P) (N := 6) hx hb hts (in_P _) hown hK hP 0 rfl rfl 0 (by decide) (ht _ m_196) (fun _ h9 => h9) rfl d_P_zone_46 ?_
        refine lv_iload_n hx hb d_P_zone_49 rfl (lv_at hl 1 rfl) ?_
        refine lv_iload_n hx hb d_P_zone_50 rfl (lv_at hl 2 rfl) ?_
        refine pr_ci (va_runV (As := [.int (iI (x)), .int (iI (y))]) (rest := []) ⟨hx, hb, hml, hown, hts⟩ (c_N_addZone l  s.heap.size x y (by omega)) (cwV 2 hts (pn_gV m_320 m_321 m_322 m_34 m_323) rfl rfl rfl (by decide +kernel) ⟨Nat.le_of_ble_eq_true rfl, Nat.le_of_ble_eq_true rfl⟩) (pn_preW (q0 := 1) (ci := 1) (q := (R_N, T_N, 17)) hP hD hE rfl rfl) rfl rfl hl.1 rfl (lv_room (Nat.le_of_ble_eq_true rfl)) d_P_zone_51 ⟨Nat.le_of_ble_eq_true rfl, Nat.le_of_ble_eq_true rfl⟩) hD hS hA (fun r u H locs hw hP hD hS => ?_)
        subst hw
        try dsimp only at hP hD
        have hP : va_P D pn_cl (cw a cI cL cD cS (nw (nw nf 1 (pu (nf 1) ((ns 0) + 4) (x))) 2 (pu ((nw nf 1 (pu (nf 1) ((ns 0) + 4) (x))) 2) (ns 0) (y))) (nw (nw ns 0 ((ns 0) + (1))) 3 (((nw ns 0 ((ns 0) + (1))) 3) + (1))) da be ui ul cn ss mf sd pr) H := hP
        have hD : va_D A (cw a cI cL cD cS (nw (nw nf 1 (pu (nf 1) ((ns 0) + 4) (x))) 2 (pu ((nw nf 1 (pu (nf 1) ((ns 0) + 4) (x))) 2) (ns 0) (y))) (nw (nw ns 0 ((ns 0) + (1))) 3 (((nw ns 0 ((ns 0) + (1))) 3) + (1))) da be ui ul cn ss mf sd pr) := hD
        refine vx_ret ?_
        refine W.widen (k := 1) (n := 6) (by decide) (by decide) ?_
        exact W.iret (v := iI (ns 0)) hx hb hr (fun t ht hW => ⟨⟨iI (ns 0), (), rfl, ⟨by omega, by omega, rfl⟩, by rw [ht]; exact hP, hD⟩, hS.F ht⟩) hS.2.2 d_P_zone_54
abbrev w_P_wind : List Cond := .code y_P_wind b_P_wind 3 (some .int) :: pn_W
set_option maxHeartbeats 4000000 in
set_option maxRecDepth 100000 in
theorem c_P_wind (l : Launch) (hst : l.stackTraces = false) {D : va_G} {a : Nat → Nat} {cI cL cD cS : ClassId} {nf : Nat → Int → Int} {ns : Nat → Int} {da : Int → Int → Int} {be : Int → Int} {ui ul : Nat → Int → Int} {cn : Int} {ss : Nat → Nat} {mf sd : Nat → Int} {pr : Nat → Int → Int} (sz : Nat) (x y : Int) (hOk : pn_Ok nf ns da) (gx : i3 x) (gy : i3 y) : vx_Met l y_P_wind w_P_wind ({ frames := 7, cells := 1, slots := 6, locals := 110 }) (va_Pc [.ref (a 0), .int (iI (x)), .int (iI (y))] (fun U => U.heap.size = sz ∧ va_P D pn_cl (cw a cI cL cD cS nf ns da be ui ul cn ss mf sd pr) U.heap ∧ va_D (fun _ => True) (cw a cI cL cD cS nf ns da be ui ul cn ss mf sd pr) ∧ pn_E D cI cL cD cS U ∧ pn_X (va_A (cw a cI cL cD cS nf ns da be ui ul cn ss mf sd pr) sz) U)) (va_Qi (fun (r : Int32) (_ : Unit) => ((-4 ≤ x ∧ x ≤ -1) ∧ (-1000 ≤ y ∧ y ≤ 1000)) ∧ r = iI (nf 0 (((x) + 4)))) (fun u t => va_P D pn_cl ((fun _ : Unit => cw a cI cL cD cS (nw nf 0 (pu (nf 0) (((x) + 4)) (y))) (nw ns 3 ((ns 3) + (1))) da be ui ul cn ss mf sd pr) u) t.heap ∧ va_D (va_A (cw a cI cL cD cS nf ns da be ui ul cn ss mf sd pr) sz) ((fun _ : Unit => cw a cI cL cD cS (nw nf 0 (pu (nf 0) (((x) + 4)) (y))) (nw ns 3 ((ns 3) + (1))) da be ui ul cn ss mf sd pr) u)) (va_A (cw a cI cL cD cS nf ns da be ui ul cn ss mf sd pr) sz)) (vx_X (fun _ : Unit => True) (fun E _ t => (E = "java/lang/IllegalArgumentException" ∧ ¬ ((-4 ≤ x ∧ x ≤ -1) ∧ (-1000 ≤ y ∧ y ≤ 1000))) ∧ va_P D pn_cl (cw a cI cL cD cS nf ns da be ui ul cn ss mf sd pr) t.heap) (va_A (cw a cI cL cD cS nf ns da be ui ul cn ss mf sd pr) sz)) 1 6 (va_A (cw a cI cL cD cS nf ns da be ui ul cn ss mf sd pr) sz) := by
  refine vx_ofW (cc := b_P_wind) (maxL := 3) (ret := (some .int)) (by decide) rfl ?_
  intro p e s m args below meth c s₁ B hml htab hv
  obtain ⟨rfl, hsz, hP, hD0, hE, hX⟩ := hv
  have hx := B.exec
  have hb := B.bytes
  have hr := B.returns
  have hts := atoms_spec (ws := w_P_wind) B.pre
  have ht : ∀ w ∈ pn_W, w.before _ s = true := fun w h => hts w (List.mem_cons_of_mem _ h)
  have hown : s.vm.findClass R_P = some m.cls := findClass_of_methodNamed B.named
  have hlocks := B.notSynchronized
  have hK := hE.1
  subst hsz
  have hD := hD0.self (sz := s.heap.size)
  generalize hAe : va_A (cw a cI cL cD cS nf ns da be ui ul cn ss mf sd pr) s.heap.size = A at hD hX ⊢
  have hA : ∀ q : Nat, s.heap.size ≤ q → A q := fun q h => by rw [← hAe]; exact Or.inr h
  have hS : va_S A s.heap s.heap [] := va_S.rf
  have hl := lv_entry ([.ref (a 0), .int (iI (x)), .int (iI (y))]) (n := 3) (Nat.le_of_ble_eq_true rfl)
  rw [lg_entry_eq]
  generalize (lg_sl ([.ref (a 0), .int (iI (x)), .int (iI (y))]) ++ List.replicate (3 - (lg_sl ([.ref (a 0), .int (iI (x)), .int (iI (y))])).length) Slot.unset).toArray = ls at hl ⊢
  have hl : lv_has ls 3 [(0, .ref (a 0)), (1, .int (iI (x))), (2, .int (iI (y)))] := hl
  obtain ⟨o_zc, o_lc, o_fc, o_ve, o_wi, o_wa, o_vo, o_fr, o_to, o_he, o_ar, o_ki, o_st, o_ff, o_sl, o_dc, o_da⟩ := id hOk
  obtain ⟨gx1, gx2⟩ := gx
  obtain ⟨gy1, gy2⟩ := gy
  refine lv_iload_n hx hb d_P_wind_0 rfl (lv_at hl 1 rfl) ?_
  refine pr_pi (va_runS (As := [.int (iI (x))]) (rest := []) ⟨hx, hb, hml, hown, hts⟩ (c_P_isSide l (x) (i3_of (by omega) (by omega))) (cwS 1 hts (pn_gS m_334 m_335 m_33 m_336) rfl rfl rfl (by decide +kernel) ⟨Nat.le_of_ble_eq_true rfl, Nat.le_of_ble_eq_true rfl⟩) pn_pre0 rfl rfl hl.1 rfl (lv_room (Nat.le_of_ble_eq_true rfl)) d_P_wind_1 ⟨Nat.le_of_ble_eq_true rfl, Nat.le_of_ble_eq_true rfl⟩) ?_
  refine pr_if_eq (tgt := 24) hx hb (i3_b2 _) d_P_wind_4 (by decide) (fun c_1 => ?_) (fun c_1 => ?_)
  · replace c_1 := b2_0 c_1
    refine lv_iconst (v := iI (0)) hx hb d_P_wind_24 rfl ?_
    exact px_throw (cls := "java/lang/IllegalArgumentException") (vx_runS (As := [.int (iI 0)]) (rest := []) ⟨hx, hb, hml, hown, hts⟩ (x_P_demandLegal l hst s.heap.size) (cwS 1 hts (pn_gS m_231 m_232 m_33 m_233) rfl rfl rfl (by decide +kernel) ⟨Nat.le_of_ble_eq_true rfl, Nat.le_of_ble_eq_true rfl⟩) (pn_preX hX hS hA) rfl rfl hl.1 rfl (lv_room (Nat.le_of_ble_eq_true rfl)) d_P_wind_25 ⟨Nat.le_of_ble_eq_true rfl, Nat.le_of_ble_eq_true rfl⟩) hS hA (fun x hx9 => (htab x hx9).elim) hlocks (by decide) (by decide) (fun q h => h) (fun t H1 locs1 hh hk hS1 => ⟨(), trivial, ⟨⟨rfl, by omega⟩, by rw [hh]; exact hP.kept (fun k9 q9 h9 => hk q9.1 ((hP k9 q9 h9).lt))⟩, hS1.F hh⟩)
  · replace c_1 := b2_n1 c_1
    refine lv_iload_n hx hb d_P_wind_7 rfl (lv_at hl 2 rfl) ?_
    refine lv_sipush (v := iI (-1000)) hx hb d_P_wind_8 (by decide) ?_
    refine lv_sipush (v := iI (1000)) hx hb d_P_wind_11 (by decide) ?_
    refine pr_pi (va_runS (As := [.int (iI (y)), .int (iI (-1000)), .int (iI (1000))]) (rest := []) ⟨hx, hb, hml, hown, hts⟩ (c_P_isWithin l (y) (-1000) (1000) (i3_of (by omega) (by omega)) (i3_of (by decide) (by decide)) (i3_of (by decide) (by decide))) (cwS 3 hts (pn_gS m_227 m_228 m_33 m_229) rfl rfl rfl (by decide +kernel) ⟨Nat.le_of_ble_eq_true rfl, Nat.le_of_ble_eq_true rfl⟩) pn_pre0 rfl rfl hl.1 rfl (lv_room (Nat.le_of_ble_eq_true rfl)) d_P_wind_14 ⟨Nat.le_of_ble_eq_true rfl, Nat.le_of_ble_eq_true rfl⟩) ?_
    refine pr_if_eq (tgt := 24) hx hb (i3_b2 _) d_P_wind_17 (by decide) (fun c_2 => ?_) (fun c_2 => ?_)
    · replace c_2 := b2_0 c_2
      refine lv_iconst (v := iI (0)) hx hb d_P_wind_24 rfl ?_
      exact px_throw (cls := "java/lang/IllegalArgumentException") (vx_runS (As := [.int (iI 0)]) (rest := []) ⟨hx, hb, hml, hown, hts⟩ (x_P_demandLegal l hst s.heap.size) (cwS 1 hts (pn_gS m_231 m_232 m_33 m_233) rfl rfl rfl (by decide +kernel) ⟨Nat.le_of_ble_eq_true rfl, Nat.le_of_ble_eq_true rfl⟩) (pn_preX hX hS hA) rfl rfl hl.1 rfl (lv_room (Nat.le_of_ble_eq_true rfl)) d_P_wind_25 ⟨Nat.le_of_ble_eq_true rfl, Nat.le_of_ble_eq_true rfl⟩) hS hA (fun x hx9 => (htab x hx9).elim) hlocks (by decide) (by decide) (fun q h => h) (fun t H1 locs1 hh hk hS1 => ⟨(), trivial, ⟨⟨rfl, by omega⟩, by rw [hh]; exact hP.kept (fun k9 q9 h9 => hk q9.1 ((hP k9 q9 h9).lt))⟩, hS1.F hh⟩)
    · replace c_2 := b2_n1 c_2
      refine lv_iconst (v := iI (1)) hx hb d_P_wind_20 rfl ?_
      refine lv_goto (tgt := 25) hx hb d_P_wind_21 (by decide) ?_
      refine pr_pv (va_runS (As := [.int (iI 1)]) (rest := []) ⟨hx, hb, hml, hown, hts⟩ (c_P_demandLegal l) (cwS 1 hts (pn_gS m_231 m_232 m_33 m_233) rfl rfl rfl (by decide +kernel) ⟨Nat.le_of_ble_eq_true rfl, Nat.le_of_ble_eq_true rfl⟩) pn_pre0 rfl rfl hl.1 rfl (lv_room (Nat.le_of_ble_eq_true rfl)) d_P_wind_25 ⟨Nat.le_of_ble_eq_true rfl, Nat.le_of_ble_eq_true rfl⟩) ?_
      refine lv_aload_n hx hb d_P_wind_28 rfl (lv_at hl 0 rfl) ?_
      refine va_get (D := D) (ci := 0) (v := .ref (a 1)) (C := R_P) (T := T_P) (N := 6) hx hb hts (in_P _) hown hK hP 0 rfl rfl 0 (by decide) (ht _ m_196) (fun _ h9 => h9) rfl d_P_wind_29 ?_
      refine lv_iload_n hx hb d_P_wind_32 rfl (lv_at hl 1 rfl) ?_
      refine pr_pi (va_runS (As := [.int (iI (x))]) (rest := [.ref (a 1)]) ⟨hx, hb, hml, hown, hts⟩ (c_P_rowOf l (x)) (cwS 1 hts (pn_gS m_337 m_325 m_33 m_326) rfl rfl rfl (by decide +kernel) ⟨Nat.le_of_ble_eq_true rfl, Nat.le_of_ble_eq_true rfl⟩) pn_pre0 rfl rfl hl.1 rfl (lv_room (Nat.le_of_ble_eq_true rfl)) d_P_wind_33 ⟨Nat.le_of_ble_eq_true rfl, Nat.le_of_ble_eq_true rfl⟩) ?_
      refine lv_iload_n hx hb d_P_wind_36 rfl (lv_at hl 2 rfl) ?_
      refine pr_ci (va_runV (As := [.int (iI ((x) + 4)), .int (iI (y))]) (rest := []) ⟨hx, hb, hml, hown, hts⟩ (c_N_changeWind l  s.heap.size ((x) + 4) y (by omega)) (cwV 2 hts (pn_gV m_338 m_339 m_340 m_34 m_341) rfl rfl rfl (by decide +kernel) ⟨Nat.le_of_ble_eq_true rfl, Nat.le_of_ble_eq_true rfl⟩) (pn_preW (q0 := 1) (ci := 1) (q := (R_N, T_N, 17)) hP hD hE rfl rfl) rfl rfl hl.1 rfl (lv_room (Nat.le_of_ble_eq_true rfl)) d_P_wind_37 ⟨Nat.le_of_ble_eq_true rfl, Nat.le_of_ble_eq_true rfl⟩) hD hS hA (fun r u H locs hw hP hD hS => ?_)
      subst hw
      try dsimp only at hP hD
      have hP : va_P D pn_cl (cw a cI cL cD cS (nw nf 0 (pu (nf 0) (((x) + 4)) (y))) (nw ns 3 ((ns 3) + (1))) da be ui ul cn ss mf sd pr) H := hP
      have hD : va_D A (cw a cI cL cD cS (nw nf 0 (pu (nf 0) (((x) + 4)) (y))) (nw ns 3 ((ns 3) + (1))) da be ui ul cn ss mf sd pr) := hD
      refine vx_ret ?_
      refine W.widen (k := 1) (n := 6) (by decide) (by decide) ?_
      exact W.iret (v := iI (nf 0 (((x) + 4)))) hx hb hr (fun t ht hW => ⟨⟨iI (nf 0 (((x) + 4))), (), rfl, ⟨by omega, rfl⟩, by rw [ht]; exact hP, hD⟩, hS.F ht⟩) hS.2.2 d_P_wind_40
abbrev w_P_gone : List Cond := .code y_P_gone b_P_gone 2 (some .long) :: pn_W
set_option maxHeartbeats 4000000 in
set_option maxRecDepth 100000 in
theorem c_P_gone (l : Launch) (hst : l.stackTraces = false) {D : va_G} {a : Nat → Nat} {cI cL cD cS : ClassId} {nf : Nat → Int → Int} {ns : Nat → Int} {da : Int → Int → Int} {be : Int → Int} {ui ul : Nat → Int → Int} {cn : Int} {ss : Nat → Nat} {mf sd : Nat → Int} {pr : Nat → Int → Int} (sz : Nat) (x : Int) (hOk : pn_Ok nf ns da) (gx : i3 x) : vx_Met l y_P_gone w_P_gone ({ frames := 7, cells := 1, slots := 6, locals := 110 }) (va_Pc [.ref (a 0), .int (iI (x))] (fun U => U.heap.size = sz ∧ va_P D pn_cl (cw a cI cL cD cS nf ns da be ui ul cn ss mf sd pr) U.heap ∧ va_D (fun _ => True) (cw a cI cL cD cS nf ns da be ui ul cn ss mf sd pr) ∧ pn_E D cI cL cD cS U ∧ pn_X (va_A (cw a cI cL cD cS nf ns da be ui ul cn ss mf sd pr) sz) U)) (va_Ql (fun (r : Int64) (_ : Unit) => (-4 ≤ x ∧ x ≤ -1) ∧ r = lI (ul 0 ((x) + 4))) (fun u t => va_P D pn_cl ((fun _ : Unit => cw a cI cL cD cS nf ns da be ui ul cn ss mf sd pr) u) t.heap ∧ va_D (va_A (cw a cI cL cD cS nf ns da be ui ul cn ss mf sd pr) sz) ((fun _ : Unit => cw a cI cL cD cS nf ns da be ui ul cn ss mf sd pr) u)) (va_A (cw a cI cL cD cS nf ns da be ui ul cn ss mf sd pr) sz)) (vx_X (fun _ : Unit => True) (fun E _ t => (E = "java/lang/IllegalArgumentException" ∧ ¬ (-4 ≤ x ∧ x ≤ -1)) ∧ va_P D pn_cl (cw a cI cL cD cS nf ns da be ui ul cn ss mf sd pr) t.heap) (va_A (cw a cI cL cD cS nf ns da be ui ul cn ss mf sd pr) sz)) 1 6 (va_A (cw a cI cL cD cS nf ns da be ui ul cn ss mf sd pr) sz) := by
  refine vx_ofW (cc := b_P_gone) (maxL := 2) (ret := (some .long)) (by decide) rfl ?_
  intro p e s m args below meth c s₁ B hml htab hv
  obtain ⟨rfl, hsz, hP, hD0, hE, hX⟩ := hv
  have hx := B.exec
  have hb := B.bytes
  have hr := B.returns
  have hts := atoms_spec (ws := w_P_gone) B.pre
  have ht : ∀ w ∈ pn_W, w.before _ s = true := fun w h => hts w (List.mem_cons_of_mem _ h)
  have hown : s.vm.findClass R_P = some m.cls := findClass_of_methodNamed B.named
  have hlocks := B.notSynchronized
  have hK := hE.1
  subst hsz
  have hD := hD0.self (sz := s.heap.size)
  generalize hAe : va_A (cw a cI cL cD cS nf ns da be ui ul cn ss mf sd pr) s.heap.size = A at hD hX ⊢
  have hA : ∀ q : Nat, s.heap.size ≤ q → A q := fun q h => by rw [← hAe]; exact Or.inr h
  have hS : va_S A s.heap s.heap [] := va_S.rf
  have hl := lv_entry ([.ref (a 0), .int (iI (x))]) (n := 2) (Nat.le_of_ble_eq_true rfl)
  rw [lg_entry_eq]
  generalize (lg_sl ([.ref (a 0), .int (iI (x))]) ++ List.replicate (2 - (lg_sl ([.ref (a 0), .int (iI (x))])).length) Slot.unset).toArray = ls at hl ⊢
  have hl : lv_has ls 2 [(0, .ref (a 0)), (1, .int (iI (x)))] := hl
  obtain ⟨o_zc, o_lc, o_fc, o_ve, o_wi, o_wa, o_vo, o_fr, o_to, o_he, o_ar, o_ki, o_st, o_ff, o_sl, o_dc, o_da⟩ := id hOk
  obtain ⟨gx1, gx2⟩ := gx
  refine lv_iload_n hx hb d_P_gone_0 rfl (lv_at hl 1 rfl) ?_
  refine pr_pi (va_runS (As := [.int (iI (x))]) (rest := []) ⟨hx, hb, hml, hown, hts⟩ (c_P_isSide l (x) (i3_of (by omega) (by omega))) (cwS 1 hts (pn_gS m_334 m_335 m_33 m_336) rfl rfl rfl (by decide +kernel) ⟨Nat.le_of_ble_eq_true rfl, Nat.le_of_ble_eq_true rfl⟩) pn_pre0 rfl rfl hl.1 rfl (lv_room (Nat.le_of_ble_eq_true rfl)) d_P_gone_1 ⟨Nat.le_of_ble_eq_true rfl, Nat.le_of_ble_eq_true rfl⟩) ?_
  by_cases hL4 : (-4 ≤ x ∧ x ≤ -1)
  · refine pr_ire (B := 1) (b2_t hL4) ?_
    refine pr_pv (va_runS (As := [.int (iI 1)]) (rest := []) ⟨hx, hb, hml, hown, hts⟩ (c_P_demandLegal l) (cwS 1 hts (pn_gS m_231 m_232 m_33 m_233) rfl rfl rfl (by decide +kernel) ⟨Nat.le_of_ble_eq_true rfl, Nat.le_of_ble_eq_true rfl⟩) pn_pre0 rfl rfl hl.1 rfl (lv_room (Nat.le_of_ble_eq_true rfl)) d_P_gone_4 ⟨Nat.le_of_ble_eq_true rfl, Nat.le_of_ble_eq_true rfl⟩) ?_
    refine lv_aload_n hx hb d_P_gone_7 rfl (lv_at hl 0 rfl) ?_
    refine va_get (D := D) (ci := 0) (v := .ref (a 29)) (C := R_P) (T := T_P) (N := 6) hx hb hts (in_P _) hown hK hP 0 rfl rfl 2 (by decide) (ht _ m_198) (fun _ h9 => h9) rfl d_P_gone_8 ?_
    refine va_get (D := D) (ci := 4) (v := .ref (a 30)) (C := R_U) (T := T_U) (N := 6) hx hb hts (in_U _) hown hK hP 29 rfl rfl 0 (by decide) (ht _ m_147) (fun _ h9 => h9) rfl d_P_gone_11 ?_
    refine lv_iload_n hx hb d_P_gone_14 rfl (lv_at hl 1 rfl) ?_
    refine pr_pi (va_runS (As := [.int (iI (x))]) (rest := [.ref (a 30)]) ⟨hx, hb, hml, hown, hts⟩ (c_P_rowOf l (x)) (cwS 1 hts (pn_gS m_337 m_325 m_33 m_326) rfl rfl rfl (by decide +kernel) ⟨Nat.le_of_ble_eq_true rfl, Nat.le_of_ble_eq_true rfl⟩) pn_pre0 rfl rfl hl.1 rfl (lv_room (Nat.le_of_ble_eq_true rfl)) d_P_gone_15 ⟨Nat.le_of_ble_eq_true rfl, Nat.le_of_ble_eq_true rfl⟩) ?_
    refine pr_lald hx hb hK hP 30 1 rfl rfl (by decide) (by omega) (by omega) d_P_gone_18 ?_
    refine vx_ret ?_
    refine W.widen (k := 1) (n := 6) (by decide) (by decide) ?_
    exact W.lret (v := lI (ul 0 ((x) + 4))) hx hb hr (fun t ht hW => ⟨⟨lI (ul 0 ((x) + 4)), (), rfl, ⟨by omega, rfl⟩, by rw [ht]; exact hP, hD⟩, hS.F ht⟩) hS.2.2 d_P_gone_19
  · refine pr_ire (B := 0) (b2_f hL4) ?_
    exact px_throw (cls := "java/lang/IllegalArgumentException") (vx_runS (As := [.int (iI 0)]) (rest := []) ⟨hx, hb, hml, hown, hts⟩ (x_P_demandLegal l hst s.heap.size) (cwS 1 hts (pn_gS m_231 m_232 m_33 m_233) rfl rfl rfl (by decide +kernel) ⟨Nat.le_of_ble_eq_true rfl, Nat.le_of_ble_eq_true rfl⟩) (pn_preX hX hS hA) rfl rfl hl.1 rfl (lv_room (Nat.le_of_ble_eq_true rfl)) d_P_gone_4 ⟨Nat.le_of_ble_eq_true rfl, Nat.le_of_ble_eq_true rfl⟩) hS hA (fun x hx9 => (htab x hx9).elim) hlocks (by decide) (by decide) (fun q h => h) (fun t H1 locs1 hh hk hS1 => ⟨(), trivial, ⟨⟨rfl, by omega⟩, by rw [hh]; exact hP.kept (fun k9 q9 h9 => hk q9.1 ((hP k9 q9 h9).lt))⟩, hS1.F hh⟩)
abbrev w_P_source : List Cond := .code y_P_source b_P_source 4 (some .int) :: pn_W
set_option maxHeartbeats 4000000 in
set_option maxRecDepth 100000 in
theorem c_P_source (l : Launch) (hst : l.stackTraces = false) {D : va_G} {a : Nat → Nat} {cI cL cD cS : ClassId} {nf : Nat → Int → Int} {ns : Nat → Int} {da : Int → Int → Int} {be : Int → Int} {ui ul : Nat → Int → Int} {cn : Int} {ss : Nat → Nat} {mf sd : Nat → Int} {pr : Nat → Int → Int} (sz : Nat) (x y : Int) (hOk : pn_Ok nf ns da) (gx : i3 x) (gy : i3 y) : vx_Met l y_P_source w_P_source ({ frames := 7, cells := 1, slots := 6, locals := 110 }) (va_Pc [.ref (a 0), .int (iI (x)), .int (iI (y))] (fun U => U.heap.size = sz ∧ va_P D pn_cl (cw a cI cL cD cS nf ns da be ui ul cn ss mf sd pr) U.heap ∧ va_D (fun _ => True) (cw a cI cL cD cS nf ns da be ui ul cn ss mf sd pr) ∧ pn_E D cI cL cD cS U ∧ pn_X (va_A (cw a cI cL cD cS nf ns da be ui ul cn ss mf sd pr) sz) U)) (va_Qi (fun (r : Int32) (_ : Unit) => ((0 ≤ x ∧ x ≤ ns 0 - 1) ∧ (0 ≤ y ∧ y ≤ 1000000)) ∧ r = iI (ui 0 ((x) + 4))) (fun u t => va_P D pn_cl ((fun _ : Unit => cw a cI cL cD cS nf ns da be (nw ui 0 (pu (ui 0) ((x) + 4) (y))) ul cn ss mf sd pr) u) t.heap ∧ va_D (va_A (cw a cI cL cD cS nf ns da be ui ul cn ss mf sd pr) sz) ((fun _ : Unit => cw a cI cL cD cS nf ns da be (nw ui 0 (pu (ui 0) ((x) + 4) (y))) ul cn ss mf sd pr) u)) (va_A (cw a cI cL cD cS nf ns da be ui ul cn ss mf sd pr) sz)) (vx_X (fun _ : Unit => True) (fun E _ t => (E = "java/lang/IllegalArgumentException" ∧ ¬ ((0 ≤ x ∧ x ≤ ns 0 - 1) ∧ (0 ≤ y ∧ y ≤ 1000000))) ∧ va_P D pn_cl (cw a cI cL cD cS nf ns da be ui ul cn ss mf sd pr) t.heap) (va_A (cw a cI cL cD cS nf ns da be ui ul cn ss mf sd pr) sz)) 1 6 (va_A (cw a cI cL cD cS nf ns da be ui ul cn ss mf sd pr) sz) := by
  refine vx_ofW (cc := b_P_source) (maxL := 4) (ret := (some .int)) (by decide) rfl ?_
  intro p e s m args below meth c s₁ B hml htab hv
  obtain ⟨rfl, hsz, hP, hD0, hE, hX⟩ := hv
  have hx := B.exec
  have hb := B.bytes
  have hr := B.returns
  have hts := atoms_spec (ws := w_P_source) B.pre
  have ht : ∀ w ∈ pn_W, w.before _ s = true := fun w h => hts w (List.mem_cons_of_mem _ h)
  have hown : s.vm.findClass R_P = some m.cls := findClass_of_methodNamed B.named
  have hlocks := B.notSynchronized
  have hK := hE.1
  subst hsz
  have hD := hD0.self (sz := s.heap.size)
  generalize hAe : va_A (cw a cI cL cD cS nf ns da be ui ul cn ss mf sd pr) s.heap.size = A at hD hX ⊢
  have hA : ∀ q : Nat, s.heap.size ≤ q → A q := fun q h => by rw [← hAe]; exact Or.inr h
  have hS : va_S A s.heap s.heap [] := va_S.rf
  have hl := lv_entry ([.ref (a 0), .int (iI (x)), .int (iI (y))]) (n := 4) (Nat.le_of_ble_eq_true rfl)
  rw [lg_entry_eq]
  generalize (lg_sl ([.ref (a 0), .int (iI (x)), .int (iI (y))]) ++ List.replicate (4 - (lg_sl ([.ref (a 0), .int (iI (x)), .int (iI (y))])).length) Slot.unset).toArray = ls at hl ⊢
  have hl : lv_has ls 4 [(0, .ref (a 0)), (1, .int (iI (x))), (2, .int (iI (y)))] := hl
  obtain ⟨o_zc, o_lc, o_fc, o_ve, o_wi, o_wa, o_vo, o_fr, o_to, o_he, o_ar, o_ki, o_st, o_ff, o_sl, o_dc, o_da⟩ := id hOk
  obtain ⟨gx1, gx2⟩ := gx
  obtain ⟨gy1, gy2⟩ := gy
  refine lv_aload_n hx hb d_P_source_0 rfl (lv_at hl 0 rfl) ?_
  refine lv_iload_n hx hb d_P_source_1 rfl (lv_at hl 1 rfl) ?_
  refine pr_pi (va_runV (As := [.int (iI (x))]) (rest := []) ⟨hx, hb, hml, hown, hts⟩ (c_P_isZone l (x) hOk (i3_of (by omega) (by omega))) (cwV 1 hts (pn_gV m_353 m_355 m_2 m_33 m_356) rfl rfl rfl (by decide +kernel) ⟨Nat.le_of_ble_eq_true rfl, Nat.le_of_ble_eq_true rfl⟩) (pn_preV (q0 := 0) (ci := 0) (q := (R_P, T_P, 6)) hP hE rfl rfl) rfl rfl hl.1 rfl (lv_room (Nat.le_of_ble_eq_true rfl)) d_P_source_2 ⟨Nat.le_of_ble_eq_true rfl, Nat.le_of_ble_eq_true rfl⟩) ?_
  refine pr_if_eq (tgt := 22) hx hb (i3_b2 _) d_P_source_5 (by decide) (fun c_1 => ?_) (fun c_1 => ?_)
  · replace c_1 := b2_0 c_1
    refine lv_iconst (v := iI (0)) hx hb d_P_source_22 rfl ?_
    exact px_throw (cls := "java/lang/IllegalArgumentException") (vx_runS (As := [.int (iI 0)]) (rest := []) ⟨hx, hb, hml, hown, hts⟩ (x_P_demandLegal l hst s.heap.size) (cwS 1 hts (pn_gS m_231 m_232 m_33 m_233) rfl rfl rfl (by decide +kernel) ⟨Nat.le_of_ble_eq_true rfl, Nat.le_of_ble_eq_true rfl⟩) (pn_preX hX hS hA) rfl rfl hl.1 rfl (lv_room (Nat.le_of_ble_eq_true rfl)) d_P_source_23 ⟨Nat.le_of_ble_eq_true rfl, Nat.le_of_ble_eq_true rfl⟩) hS hA (fun x hx9 => (htab x hx9).elim) hlocks (by decide) (by decide) (fun q h => h) (fun t H1 locs1 hh hk hS1 => ⟨(), trivial, ⟨⟨rfl, by omega⟩, by rw [hh]; exact hP.kept (fun k9 q9 h9 => hk q9.1 ((hP k9 q9 h9).lt))⟩, hS1.F hh⟩)
  · replace c_1 := b2_n1 c_1
    refine lv_iload_n hx hb d_P_source_8 rfl (lv_at hl 2 rfl) ?_
    refine lv_iconst (v := iI (0)) hx hb d_P_source_9 rfl ?_
    refine lv_ldc (v := iI (1000000)) hx hb hown (ht (.constant _ 150 (iI (1000000))) m_532) d_P_source_10 ?_
    refine pr_pi (va_runS (As := [.int (iI (y)), .int (iI (0)), .int (iI (1000000))]) (rest := []) ⟨hx, hb, hml, hown, hts⟩ (c_P_isWithin l (y) (0) (1000000) (i3_of (by omega) (by omega)) (i3_of (by decide) (by decide)) (i3_of (by decide) (by decide))) (cwS 3 hts (pn_gS m_227 m_228 m_33 m_229) rfl rfl rfl (by decide +kernel) ⟨Nat.le_of_ble_eq_true rfl, Nat.le_of_ble_eq_true rfl⟩) pn_pre0 rfl rfl hl.1 rfl (lv_room (Nat.le_of_ble_eq_true rfl)) d_P_source_12 ⟨Nat.le_of_ble_eq_true rfl, Nat.le_of_ble_eq_true rfl⟩) ?_
    refine pr_if_eq (tgt := 22) hx hb (i3_b2 _) d_P_source_15 (by decide) (fun c_2 => ?_) (fun c_2 => ?_)
    · replace c_2 := b2_0 c_2
      refine lv_iconst (v := iI (0)) hx hb d_P_source_22 rfl ?_
      exact px_throw (cls := "java/lang/IllegalArgumentException") (vx_runS (As := [.int (iI 0)]) (rest := []) ⟨hx, hb, hml, hown, hts⟩ (x_P_demandLegal l hst s.heap.size) (cwS 1 hts (pn_gS m_231 m_232 m_33 m_233) rfl rfl rfl (by decide +kernel) ⟨Nat.le_of_ble_eq_true rfl, Nat.le_of_ble_eq_true rfl⟩) (pn_preX hX hS hA) rfl rfl hl.1 rfl (lv_room (Nat.le_of_ble_eq_true rfl)) d_P_source_23 ⟨Nat.le_of_ble_eq_true rfl, Nat.le_of_ble_eq_true rfl⟩) hS hA (fun x hx9 => (htab x hx9).elim) hlocks (by decide) (by decide) (fun q h => h) (fun t H1 locs1 hh hk hS1 => ⟨(), trivial, ⟨⟨rfl, by omega⟩, by rw [hh]; exact hP.kept (fun k9 q9 h9 => hk q9.1 ((hP k9 q9 h9).lt))⟩, hS1.F hh⟩)
    · replace c_2 := b2_n1 c_2
      refine lv_iconst (v := iI (1)) hx hb d_P_source_18 rfl ?_
      refine lv_goto (tgt := 23) hx hb d_P_source_19 (by decide) ?_
      refine pr_pv (va_runS (As := [.int (iI 1)]) (rest := []) ⟨hx, hb, hml, hown, hts⟩ (c_P_demandLegal l) (cwS 1 hts (pn_gS m_231 m_232 m_33 m_233) rfl rfl rfl (by decide +kernel) ⟨Nat.le_of_ble_eq_true rfl, Nat.le_of_ble_eq_true rfl⟩) pn_pre0 rfl rfl hl.1 rfl (lv_room (Nat.le_of_ble_eq_true rfl)) d_P_source_23 ⟨Nat.le_of_ble_eq_true rfl, Nat.le_of_ble_eq_true rfl⟩) ?_
      refine lv_aload_n hx hb d_P_source_26 rfl (lv_at hl 0 rfl) ?_
      refine va_get (D := D) (ci := 0) (v := .ref (a 29)) (C := R_P) (T := T_P) (N := 6) hx hb hts (in_P _) hown hK hP 0 rfl rfl 2 (by decide) (ht _ m_198) (fun _ h9 => h9) rfl d_P_source_27 ?_
      refine va_get (D := D) (ci := 4) (v := .ref (a 31)) (C := R_U) (T := T_U) (N := 6) hx hb hts (in_U _) hown hK hP 29 rfl rfl 1 (by decide) (ht _ m_149) (fun _ h9 => h9) rfl d_P_source_30 ?_
      refine lv_iload_n hx hb d_P_source_33 rfl (lv_at hl 1 rfl) ?_
      refine pr_pi (va_runS (As := [.int (iI (x))]) (rest := [.ref (a 31)]) ⟨hx, hb, hml, hown, hts⟩ (c_P_rowOf l (x)) (cwS 1 hts (pn_gS m_337 m_325 m_33 m_326) rfl rfl rfl (by decide +kernel) ⟨Nat.le_of_ble_eq_true rfl, Nat.le_of_ble_eq_true rfl⟩) pn_pre0 rfl rfl hl.1 rfl (lv_room (Nat.le_of_ble_eq_true rfl)) d_P_source_34 ⟨Nat.le_of_ble_eq_true rfl, Nat.le_of_ble_eq_true rfl⟩) ?_
      refine pr_iald hx hb hK hP 31 0 rfl rfl (by decide) (by omega) (by omega) d_P_source_37 ?_
      refine lv_istore_n (lv' := [(3, .int (iI (ui 0 ((x) + 4)))), (0, .ref (a 0)), (1, .int (iI (x))), (2, .int (iI (y)))]) hx hb d_P_source_38 rfl hl (by decide) rfl (fun ls hl => ?_)
      refine lv_aload_n hx hb d_P_source_39 rfl (lv_at hl 1 rfl) ?_
      refine va_get (D := D) (ci := 0) (v := .ref (a 29)) (C := R_P) (T := T_P) (N := 6) hx hb hts (in_P _) hown hK hP 0 rfl rfl 2 (by decide) (ht _ m_198) (fun _ h9 => h9) rfl d_P_source_40 ?_
      refine va_get (D := D) (ci := 4) (v := .ref (a 31)) (C := R_U) (T := T_U) (N := 6) hx hb hts (in_U _) hown hK hP 29 rfl rfl 1 (by decide) (ht _ m_149) (fun _ h9 => h9) rfl d_P_source_43 ?_
      refine lv_iload_n hx hb d_P_source_46 rfl (lv_at hl 2 rfl) ?_
      refine pr_pi (va_runS (As := [.int (iI (x))]) (rest := [.ref (a 31)]) ⟨hx, hb, hml, hown, hts⟩ (c_P_rowOf l (x)) (cwS 1 hts (pn_gS m_337 m_325 m_33 m_326) rfl rfl rfl (by decide +kernel) ⟨Nat.le_of_ble_eq_true rfl, Nat.le_of_ble_eq_true rfl⟩) pn_pre0 rfl rfl hl.1 rfl (lv_room (Nat.le_of_ble_eq_true rfl)) d_P_source_47 ⟨Nat.le_of_ble_eq_true rfl, Nat.le_of_ble_eq_true rfl⟩) ?_
      refine lv_iload_n hx hb d_P_source_50 rfl (lv_at hl 3 rfl) ?_
      refine pr_iast (ws' := cw a cI cL cD cS nf ns da be (nw ui 0 (pu (ui 0) ((x) + 4) (y))) ul cn ss mf sd pr) hx hb hK hP hD hS 31 0 rfl rfl (by decide) (by omega) (by omega) rfl d_P_source_51 (fun H locs hP hD hS => ?_)
      refine lv_iload_n hx hb d_P_source_52 rfl (lv_at hl 0 rfl) ?_
      refine vx_ret ?_
      refine W.widen (k := 1) (n := 6) (by decide) (by decide) ?_
      exact W.iret (v := iI (ui 0 ((x) + 4))) hx hb hr (fun t ht hW => ⟨⟨iI (ui 0 ((x) + 4)), (), rfl, ⟨by omega, rfl⟩, by rw [ht]; exact hP, hD⟩, hS.F ht⟩) hS.2.2 d_P_source_53
