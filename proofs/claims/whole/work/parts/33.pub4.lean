abbrev w_P_caseOf : List Cond := .code y_P_caseOf b_P_caseOf 3 (some .int) :: pn_W
set_option maxHeartbeats 4000000 in
set_option maxRecDepth 100000 in
theorem c_P_caseOf (l : Launch) (hst : l.stackTraces = false) {D : va_G} {a : Nat → Nat} {cI cL cD cS : ClassId} {nf : Nat → Int → Int} {ns : Nat → Int} {da : Int → Int → Int} {be : Int → Int} {ui ul : Nat → Int → Int} {cn : Int} {ss : Nat → Nat} {mf sd : Nat → Int} {pr : Nat → Int → Int} (sz : Nat) (x : Int) (hOk : pn_Ok nf ns da) (hcn : 0 ≤ cn ∧ cn ≤ 8) (gx : i3 x) : vx_Met l y_P_caseOf w_P_caseOf ({ frames := 7, cells := 1, slots := 6, locals := 110 }) (va_Pc [.ref (a 0), .int (iI (x))] (fun U => U.heap.size = sz ∧ va_P D pn_cl (cw a cI cL cD cS nf ns da be ui ul cn ss mf sd pr) U.heap ∧ va_D (fun _ => True) (cw a cI cL cD cS nf ns da be ui ul cn ss mf sd pr) ∧ pn_E D cI cL cD cS U ∧ pn_X (va_A (cw a cI cL cD cS nf ns da be ui ul cn ss mf sd pr) sz) U)) (va_Qi (fun (r : Int32) (_ : Unit) => (0 ≤ x ∧ x < ((2 ^ (ns 1).toNat : Nat) : Int)) ∧ ¬ (8 ≤ cn) ∧ r = iI (cn)) (fun u t => va_P D pn_cl ((fun _ : Unit => cw a cI cL cD cS nf ns da be ui ul (cn + 1) (nw ss (cn.toNat + 1) ((x.toNat))) mf sd pr) u) t.heap ∧ va_D (va_A (cw a cI cL cD cS nf ns da be ui ul cn ss mf sd pr) sz) ((fun _ : Unit => cw a cI cL cD cS nf ns da be ui ul (cn + 1) (nw ss (cn.toNat + 1) ((x.toNat))) mf sd pr) u)) (va_A (cw a cI cL cD cS nf ns da be ui ul cn ss mf sd pr) sz)) (vx_X (fun _ : Unit => True) (fun E _ t => ((E = "java/lang/IllegalArgumentException" ∧ ¬ (0 ≤ x ∧ x < ((2 ^ (ns 1).toNat : Nat) : Int))) ∨ (E = "java/lang/IllegalStateException" ∧ (0 ≤ x ∧ x < ((2 ^ (ns 1).toNat : Nat) : Int)) ∧ 8 ≤ cn)) ∧ va_P D pn_cl (cw a cI cL cD cS nf ns da be ui ul cn ss mf sd pr) t.heap) (va_A (cw a cI cL cD cS nf ns da be ui ul cn ss mf sd pr) sz)) 1 6 (va_A (cw a cI cL cD cS nf ns da be ui ul cn ss mf sd pr) sz) := by
  refine vx_ofW (cc := b_P_caseOf) (maxL := 3) (ret := (some .int)) (by decide) rfl ?_
  intro p e s m args below meth c s₁ B hml htab hv
  obtain ⟨rfl, hsz, hP, hD0, hE, hX⟩ := hv
  have hx := B.exec
  have hb := B.bytes
  have hr := B.returns
  have hts := atoms_spec (ws := w_P_caseOf) B.pre
  have ht : ∀ w ∈ pn_W, w.before _ s = true := fun w h => hts w (List.mem_cons_of_mem _ h)
  have hown : s.vm.findClass R_P = some m.cls := findClass_of_methodNamed B.named
  have hlocks := B.notSynchronized
  have hK := hE.1
  subst hsz
  have hD := hD0.self (sz := s.heap.size)
  generalize hAe : va_A (cw a cI cL cD cS nf ns da be ui ul cn ss mf sd pr) s.heap.size = A at hD hX ⊢
  have hA : ∀ q : Nat, s.heap.size ≤ q → A q := fun q h => by rw [← hAe]; exact Or.inr h
  have hS : va_S A s.heap s.heap [] := va_S.rf
  have hl := lv_entry ([.ref (a 0), .int (iI (x))]) (n := 3) (Nat.le_of_ble_eq_true rfl)
  rw [lg_entry_eq]
  generalize (lg_sl ([.ref (a 0), .int (iI (x))]) ++ List.replicate (3 - (lg_sl ([.ref (a 0), .int (iI (x))])).length) Slot.unset).toArray = ls at hl ⊢
  have hl : lv_has ls 3 [(0, .ref (a 0)), (1, .int (iI (x)))] := hl
  obtain ⟨o_zc, o_lc, o_fc, o_ve, o_wi, o_wa, o_vo, o_fr, o_to, o_he, o_ar, o_ki, o_st, o_ff, o_sl, o_dc, o_da⟩ := id hOk
  obtain ⟨gx1, gx2⟩ := gx
  refine lv_iload_n hx hb d_P_caseOf_0 rfl (lv_at hl 1 rfl) ?_
  refine lv_aload_n hx hb d_P_caseOf_1 rfl (lv_at hl 0 rfl) ?_
  refine va_get (D := D) (ci := 0) (v := .ref (a 1)) (C := R_P) (T := T_P) (N := 6) hx hb hts (in_P _) hown hK hP 0 rfl rfl 0 (by decide) (ht _ m_196) (fun _ h9 => h9) rfl d_P_caseOf_2 ?_
  refine va_get (D := D) (ci := 1) (v := .int (iI (ns 1))) (C := R_N) (T := T_N) (N := 17) hx hb hts (in_N _) hown hK hP 1 rfl rfl 14 (by decide) (ht _ m_86) (fun _ h9 => h9) rfl d_P_caseOf_5 ?_
  refine lv_iushr hx hb d_P_caseOf_8 rfl ?_
  refine lv_if_ne (tgt := 16) hx hb d_P_caseOf_9 (by decide) (fun c9 => ?_) (fun c9 => ?_)
  · have c8 : ¬ (0 ≤ x ∧ x < ((2 ^ (ns 1).toNat : Nat) : Int)) := fun q => c9 ((iI_ush0 ⟨gx1, gx2⟩ o_lc.1 o_lc.2).mpr q)
    refine lv_iconst (v := iI (0)) hx hb d_P_caseOf_16 rfl ?_
    exact px_throw (cls := "java/lang/IllegalArgumentException") (vx_runS (As := [.int (iI 0)]) (rest := []) ⟨hx, hb, hml, hown, hts⟩ (x_P_demandLegal l hst s.heap.size) (cwS 1 hts (pn_gS m_231 m_232 m_33 m_233) rfl rfl rfl (by decide +kernel) ⟨Nat.le_of_ble_eq_true rfl, Nat.le_of_ble_eq_true rfl⟩) (pn_preX hX hS hA) rfl rfl hl.1 rfl (lv_room (Nat.le_of_ble_eq_true rfl)) d_P_caseOf_17 ⟨Nat.le_of_ble_eq_true rfl, Nat.le_of_ble_eq_true rfl⟩) hS hA (fun x hx9 => (htab x hx9).elim) hlocks (by decide) (by decide) (fun q h => h) (fun t H1 locs1 hh hk hS1 => ⟨(), trivial, ⟨(by first | exact Or.inl ⟨rfl, by omega⟩ | exact Or.inr ⟨rfl, by omega, by omega⟩), by rw [hh]; exact hP.kept (fun k9 q9 h9 => hk q9.1 ((hP k9 q9 h9).lt))⟩, hS1.F hh⟩)
  · have c8 := (iI_ush0 ⟨gx1, gx2⟩ o_lc.1 o_lc.2).mp c9
    refine lv_iconst (v := iI (1)) hx hb d_P_caseOf_12 rfl ?_
    refine lv_goto (tgt := 17) hx hb d_P_caseOf_13 (by decide) ?_
    refine pr_pv (va_runS (As := [.int (iI 1)]) (rest := []) ⟨hx, hb, hml, hown, hts⟩ (c_P_demandLegal l) (cwS 1 hts (pn_gS m_231 m_232 m_33 m_233) rfl rfl rfl (by decide +kernel) ⟨Nat.le_of_ble_eq_true rfl, Nat.le_of_ble_eq_true rfl⟩) pn_pre0 rfl rfl hl.1 rfl (lv_room (Nat.le_of_ble_eq_true rfl)) d_P_caseOf_17 ⟨Nat.le_of_ble_eq_true rfl, Nat.le_of_ble_eq_true rfl⟩) ?_
    refine lv_aload_n hx hb d_P_caseOf_20 rfl (lv_at hl 0 rfl) ?_
    refine va_get (D := D) (ci := 0) (v := .int (iI (cn))) (C := R_P) (T := T_P) (N := 6) hx hb hts (in_P _) hown hK hP 0 rfl rfl 5 (by decide) (ht _ m_201) (fun _ h9 => h9) rfl d_P_caseOf_21 ?_
    refine lv_bipush (v := iI (8)) hx hb d_P_caseOf_24 (by decide) ?_
    refine pr_icmp_ge (tgt := 33) hx hb (i3_of (by omega) (by omega)) (i3_of (by decide) (by decide)) d_P_caseOf_26 (by decide) (fun c_1 => ?_) (fun c_1 => ?_)
    · skip
      refine lv_iconst (v := iI (0)) hx hb d_P_caseOf_33 rfl ?_
      exact px_throw (cls := "java/lang/IllegalStateException") (vx_runS (As := [.int (iI 0)]) (rest := []) ⟨hx, hb, hml, hown, hts⟩ (x_P_demandRoom l hst s.heap.size) (cwS 1 hts (pn_gS m_301 m_302 m_33 m_303) rfl rfl rfl (by decide +kernel) ⟨Nat.le_of_ble_eq_true rfl, Nat.le_of_ble_eq_true rfl⟩) (pn_preX hX hS hA) rfl rfl hl.1 rfl (lv_room (Nat.le_of_ble_eq_true rfl)) d_P_caseOf_34 ⟨Nat.le_of_ble_eq_true rfl, Nat.le_of_ble_eq_true rfl⟩) hS hA (fun x hx9 => (htab x hx9).elim) hlocks (by decide) (by decide) (fun q h => h) (fun t H1 locs1 hh hk hS1 => ⟨(), trivial, ⟨(by first | exact Or.inl ⟨rfl, by omega⟩ | exact Or.inr ⟨rfl, by omega, by omega⟩), by rw [hh]; exact hP.kept (fun k9 q9 h9 => hk q9.1 ((hP k9 q9 h9).lt))⟩, hS1.F hh⟩)
    · skip
      refine lv_iconst (v := iI (1)) hx hb d_P_caseOf_29 rfl ?_
      refine lv_goto (tgt := 34) hx hb d_P_caseOf_30 (by decide) ?_
      refine pr_pv (va_runS (As := [.int (iI 1)]) (rest := []) ⟨hx, hb, hml, hown, hts⟩ (c_P_demandRoom l) (cwS 1 hts (pn_gS m_301 m_302 m_33 m_303) rfl rfl rfl (by decide +kernel) ⟨Nat.le_of_ble_eq_true rfl, Nat.le_of_ble_eq_true rfl⟩) pn_pre0 rfl rfl hl.1 rfl (lv_room (Nat.le_of_ble_eq_true rfl)) d_P_caseOf_34 ⟨Nat.le_of_ble_eq_true rfl, Nat.le_of_ble_eq_true rfl⟩) ?_
      refine lv_aload_n hx hb d_P_caseOf_37 rfl (lv_at hl 0 rfl) ?_
      refine va_get (D := D) (ci := 0) (v := .int (iI (cn))) (C := R_P) (T := T_P) (N := 6) hx hb hts (in_P _) hown hK hP 0 rfl rfl 5 (by decide) (ht _ m_201) (fun _ h9 => h9) rfl d_P_caseOf_38 ?_
      refine lv_istore_n (lv' := [(2, .int (iI (cn))), (0, .ref (a 0)), (1, .int (iI (x)))]) hx hb d_P_caseOf_41 rfl hl (by decide) rfl (fun ls hl => ?_)
      have hk : cn.toNat + 1 < 9 := by omega
      refine lv_aload_n hx hb d_P_caseOf_42 rfl (lv_at hl 1 rfl) ?_
      refine va_get (D := D) (ci := 0) (v := .ref (a 35)) (C := R_P) (T := T_P) (N := 6) hx hb hts (in_P _) hown hK hP 0 rfl rfl 4 (by decide) (ht _ m_200) (fun _ h9 => h9) rfl d_P_caseOf_43 ?_
      refine lv_iload_n hx hb d_P_caseOf_46 rfl (lv_at hl 0 rfl) ?_
      refine pr_aald hx hb hK hP 35 3 rfl rfl rfl (cn.toNat) (a (36 + 2 * (cn.toNat + 1))) (by omega) (by decide) (by omega) (by rw [if_pos (by omega)]; congr 2; omega) d_P_caseOf_47 ?_
      refine lv_iload_n hx hb d_P_caseOf_48 rfl (lv_at hl 2 rfl) ?_
      refine pr_ire (B := ((x.toNat) : Nat)) (Int.toNat_of_nonneg (by omega)).symm ?_
      refine va_put (D := D) (ci := 3) (v := .int (iI (((x.toNat) : Nat)))) (ty := .int) (C := R_T) (T := T_T) (N := 4) hx hb hts (in_T _) ty_T ty_T_ok nm_T hown hK hP hD hS (36 + 2 * (cn.toNat + 1)) (cw_so (cn.toNat + 1) hk) rfl 1 (by decide) (ht _ m_179) (fun _ h9 => h9) rfl (by decide +kernel) rfl rfl (Nat.le_of_ble_eq_true rfl) d_P_caseOf_49 (fun H locs hP hD hS => ?_)
      have e9 := cw_uss (a := a) (cI := cI) (cL := cL) (cD := cD) (cS := cS) (nf := nf) (ns := ns) (da := da) (be := be) (ui := ui) (ul := ul) (cn := cn) (ss := ss) (mf := mf) (sd := sd) (pr := pr) (x := (x.toNat)) (cn.toNat + 1) hk
      have hP : va_P D pn_cl (cw a cI cL cD cS nf ns da be ui ul cn (nw ss (cn.toNat + 1) ((x.toNat))) mf sd pr) H := by rw [← e9]; exact hP
      have hD : va_D A (cw a cI cL cD cS nf ns da be ui ul cn (nw ss (cn.toNat + 1) ((x.toNat))) mf sd pr) := by rw [← e9]; exact hD
      clear e9
      refine lv_aload_n hx hb d_P_caseOf_52 rfl (lv_at hl 1 rfl) ?_
      refine lv_dup hx hb d_P_caseOf_53 rfl ?_
      refine va_get (D := D) (ci := 0) (v := .int (iI (cn))) (C := R_P) (T := T_P) (N := 6) hx hb hts (in_P _) hown hK hP 0 rfl rfl 5 (by decide) (ht _ m_201) (fun _ h9 => h9) rfl d_P_caseOf_54 ?_
      refine lv_iconst (v := iI (1)) hx hb d_P_caseOf_57 rfl ?_
      refine pr_iadd hx hb d_P_caseOf_58 ?_
      refine va_put (D := D) (ci := 0) (v := .int (iI (cn + 1))) (ty := .int) (C := R_P) (T := T_P) (N := 6) hx hb hts (in_P _) ty_P ty_P_ok nm_P hown hK hP hD hS 0 rfl rfl 5 (by decide) (ht _ m_201) (fun _ h9 => h9) rfl (by decide +kernel) rfl rfl (Nat.le_of_ble_eq_true rfl) d_P_caseOf_59 (fun H locs hP hD hS => ?_)
      have hP : va_P D pn_cl (cw a cI cL cD cS nf ns da be ui ul (cn + 1) (nw ss (cn.toNat + 1) ((x.toNat))) mf sd pr) H := hP
      have hD : va_D A (cw a cI cL cD cS nf ns da be ui ul (cn + 1) (nw ss (cn.toNat + 1) ((x.toNat))) mf sd pr) := hD
      refine lv_iload_n hx hb d_P_caseOf_62 rfl (lv_at hl 0 rfl) ?_
      refine vx_ret ?_
      refine W.widen (k := 1) (n := 6) (by decide) (by decide) ?_
      exact W.iret (v := iI (cn)) hx hb hr (fun t ht hW => ⟨⟨iI (cn), (), rfl, ⟨by omega, by omega, rfl⟩, by rw [ht]; exact hP, hD⟩, hS.F ht⟩) hS.2.2 d_P_caseOf_63
