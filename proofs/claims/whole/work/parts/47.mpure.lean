/-! the reference beside the class -/
/-- the pressures of the reference, by the class's rows -/
def mP (mi : Nat → Int → Int) : Int → Int := fun j => if j < 4 then mi 0 j else mi 14 (j - 4)
def mn_R (nf : Nat → Int → Int) (ns : Nat → Int) (mi : Nat → Int → Int) (ms : Nat → Int) : Prop :=
  ms 2 = ns 0 ∧ ms 3 = ns 1 ∧ ms 4 = ns 2 ∧ (∀ j, 0 ≤ j → j < 4 → mi 0 j = nf 0 j) ∧ (∀ j, 0 ≤ j → j < 4 → ms 1 = nf 1 j) ∧ (∀ z, 0 ≤ z → z < 8 → mi 1 z = nf 1 (z + 4)) ∧ (∀ z, 0 ≤ z → z < 8 → mi 2 z = nf 2 z) ∧
  (∀ k, 0 ≤ k → k < ns 1 → mi 4 k + 4 = nf 3 k ∧ mi 5 k + 4 = nf 4 k ∧ mi 6 k = nf 5 k ∧ mi 7 k = nf 6 k ∧ mi 8 k = nf 7 k ∧ nf 8 k = (nf 5 k * (nf 1 (nf 3 k) - nf 1 (nf 4 k))).tdiv 100) ∧
  (∀ f, 0 ≤ f → f < ns 2 → mi 9 f + 4 = nf 3 (20 + f) ∧ mi 10 f + 4 = nf 4 (20 + f) ∧ mi 11 f = nf 9 f ∧ mi 12 f = nf 10 f)
theorem mn_R.st {nf : Nat → Int → Int} {ns : Nat → Int} {mi : Nat → Int → Int} {ms : Nat → Int} {f : Int → Int} (h : mn_R nf ns mi ms) : mn_R nf ns (nw mi 14 f) ms := h
theorem mn_R.c0 {nf : Nat → Int → Int} {ns : Nat → Int} {mi : Nat → Int → Int} {ms : Nat → Int} {x : Int} (h : mn_R nf ns mi ms) : mn_R nf ns mi (nw ms 0 x) := h
theorem mn_R.c6 {nf : Nat → Int → Int} {ns : Nat → Int} {mi : Nat → Int → Int} {ms : Nat → Int} {x : Int} (h : mn_R nf ns mi ms) : mn_R nf ns mi (nw ms 6 x) := h
theorem mP_s (mi : Nat → Int → Int) {x : Int} (h : x < 0) : mP mi (x + 4) = mi 0 (x + 4) := if_pos (by omega)
theorem mP_z (mi : Nat → Int → Int) {x : Int} (h : 0 ≤ x) : mP mi (x + 4) = mi 14 x := by
  unfold mP
  rw [if_neg (by omega), show x + 4 - 4 = x by omega]
theorem pn_tri {P1 P2 P3 : Prop} : P1 ∨ P2 ∨ P3 → P1 ∨ P2 ∨ P3 := id
/-- the sum over the ducts noted at a row is that over all ducts that touch it -/
abbrev m_tch (nf : Nat → Int → Int) (r d : Int) : Prop := nf 4 d = r ∨ nf 3 d = r
def pn_Sm (nf : Nat → Int → Int) (ns : Nat → Int) (da : Int → Int → Int) : Prop := ∀ r, 4 ≤ r → r < 12 → ∀ g : Int → Int, m_sum (fun t => g (da r t)) (nf 11 r).toNat = m_sum (fun d => if m_tch nf r d then g d else 0) (ns 1).toNat + m_sum (fun f => if m_tch nf r (20 + f) then g (20 + f) else 0) (ns 2).toNat

abbrev w_M_isPair : List Cond := .code y_M_isPair b_M_isPair 3 (some .boolean) :: pn_W
set_option maxHeartbeats 4000000 in
set_option maxRecDepth 100000 in
theorem c_M_isPair (l : Launch) {D : va_G} {b : Nat → Nat} {cI cL cZ : ClassId} {mi ml : Nat → Int → Int} {mz : Int → Int} {ms : Nat → Int} (x y : Int) (hN : mn_Ok ms) (gx : i3 x) (gy : i3 y) : Met l y_M_isPair w_M_isPair ({ frames := 2, cells := 0, slots := 0, locals := 46 }) (va_Pc [.ref (b 0), .int (iI (x)), .int (iI (y))] (fun U => va_P D pn_cl (mw b cI cL cZ mi ml mz ms) U.heap ∧ mn_E D cI cL cZ U)) (vp_Si (fun r => r = iI (b2 ((-4 ≤ x ∧ x ≤ ms 2 - 1) ∧ (-4 ≤ y ∧ y ≤ ms 2 - 1) ∧ x ≠ y ∧ (0 ≤ x ∨ 0 ≤ y))))) 0 0 (fun _ => False) := by
  refine Met.ofW (cc := b_M_isPair) (maxL := 3) (ret := (some .boolean)) (by decide) rfl ?_
  intro p e s m args below meth c s₁ B hml hv
  obtain ⟨rfl, hP, hE⟩ := hv
  have hx := B.exec
  have hb := B.bytes
  have hr := B.returns
  have hts := atoms_spec (ws := w_M_isPair) B.pre
  have ht : ∀ w ∈ pn_W, w.before _ s = true := fun w h => hts w (List.mem_cons_of_mem _ h)
  have hown : s.vm.findClass R_M = some m.cls := findClass_of_methodNamed B.named
  have hlocks := B.notSynchronized
  have hK := hE
  have hl := lv_entry ([.ref (b 0), .int (iI (x)), .int (iI (y))]) (n := 3) (Nat.le_of_ble_eq_true rfl)
  rw [lg_entry_eq]
  generalize (lg_sl ([.ref (b 0), .int (iI (x)), .int (iI (y))]) ++ List.replicate (3 - (lg_sl ([.ref (b 0), .int (iI (x)), .int (iI (y))])).length) Slot.unset).toArray = ls at hl ⊢
  have hl : lv_has ls 3 [(0, .ref (b 0)), (1, .int (iI (x))), (2, .int (iI (y)))] := hl
  obtain ⟨n_zo, n_le, n_fa, n_ca⟩ := id hN
  obtain ⟨gx1, gx2⟩ := gx
  obtain ⟨gy1, gy2⟩ := gy
  refine lv_aload_n hx hb d_M_isPair_0 rfl (lv_at hl 0 rfl) ?_
  refine lv_iload_n hx hb d_M_isPair_1 rfl (lv_at hl 1 rfl) ?_
  refine pr_pi (va_runV (As := [.int (iI (x))]) (rest := []) ⟨hx, hb, hml, hown, hts⟩ (c_M_isPlace l (x) hN (i3_of (by omega) (by omega))) (cwV 1 hts (pn_gV m_697 m_699 m_16 m_38 m_700) rfl rfl rfl (by decide +kernel) ⟨Nat.le_of_ble_eq_true rfl, Nat.le_of_ble_eq_true rfl⟩) (mn_preV (q0 := 0) (ci := 5) (q := (R_M, T_M, 27)) hP hE rfl rfl) rfl rfl hl.1 rfl (lv_room (Nat.le_of_ble_eq_true rfl)) d_M_isPair_2 ⟨Nat.le_of_ble_eq_true rfl, Nat.le_of_ble_eq_true rfl⟩) ?_
  refine pr_if_eq (tgt := 33) hx hb (i3_b2 _) d_M_isPair_5 (by decide) (fun c_1 => ?_) (fun c_1 => ?_)
  · replace c_1 := b2_0 c_1
    refine lv_iconst (v := iI (0)) hx hb d_M_isPair_33 rfl ?_
    exact pr_rz hx hb hr hlocks d_M_isPair_34 (by first | exact Or.inl rfl | exact Or.inr rfl | exact b2_01 _) (by first | rfl | exact (b2_t (by omega)).symm | exact (b2_f (by omega)).symm)
  · replace c_1 := b2_n1 c_1
    refine lv_aload_n hx hb d_M_isPair_8 rfl (lv_at hl 0 rfl) ?_
    refine lv_iload_n hx hb d_M_isPair_9 rfl (lv_at hl 2 rfl) ?_
    refine pr_pi (va_runV (As := [.int (iI (y))]) (rest := []) ⟨hx, hb, hml, hown, hts⟩ (c_M_isPlace l (y) hN (i3_of (by omega) (by omega))) (cwV 1 hts (pn_gV m_697 m_699 m_16 m_38 m_700) rfl rfl rfl (by decide +kernel) ⟨Nat.le_of_ble_eq_true rfl, Nat.le_of_ble_eq_true rfl⟩) (mn_preV (q0 := 0) (ci := 5) (q := (R_M, T_M, 27)) hP hE rfl rfl) rfl rfl hl.1 rfl (lv_room (Nat.le_of_ble_eq_true rfl)) d_M_isPair_10 ⟨Nat.le_of_ble_eq_true rfl, Nat.le_of_ble_eq_true rfl⟩) ?_
    refine pr_if_eq (tgt := 33) hx hb (i3_b2 _) d_M_isPair_13 (by decide) (fun c_2 => ?_) (fun c_2 => ?_)
    · replace c_2 := b2_0 c_2
      refine lv_iconst (v := iI (0)) hx hb d_M_isPair_33 rfl ?_
      exact pr_rz hx hb hr hlocks d_M_isPair_34 (by first | exact Or.inl rfl | exact Or.inr rfl | exact b2_01 _) (by first | rfl | exact (b2_t (by omega)).symm | exact (b2_f (by omega)).symm)
    · replace c_2 := b2_n1 c_2
      refine lv_iload_n hx hb d_M_isPair_16 rfl (lv_at hl 1 rfl) ?_
      refine lv_iload_n hx hb d_M_isPair_17 rfl (lv_at hl 2 rfl) ?_
      refine pr_icmp_eq (tgt := 33) hx hb (i3_of (by omega) (by omega)) (i3_of (by omega) (by omega)) d_M_isPair_18 (by decide) (fun c_3 => ?_) (fun c_3 => ?_)
      · skip
        refine lv_iconst (v := iI (0)) hx hb d_M_isPair_33 rfl ?_
        exact pr_rz hx hb hr hlocks d_M_isPair_34 (by first | exact Or.inl rfl | exact Or.inr rfl | exact b2_01 _) (by first | rfl | exact (b2_t (by omega)).symm | exact (b2_f (by omega)).symm)
      · skip
        refine lv_iload_n hx hb d_M_isPair_21 rfl (lv_at hl 1 rfl) ?_
        refine pr_if_ge (tgt := 29) hx hb (i3_of (by omega) (by omega)) d_M_isPair_22 (by decide) (fun c_4 => ?_) (fun c_4 => ?_)
        · skip
          refine lv_iconst (v := iI (1)) hx hb d_M_isPair_29 rfl ?_
          refine lv_goto (tgt := 34) hx hb d_M_isPair_30 (by decide) ?_
          exact pr_rz hx hb hr hlocks d_M_isPair_34 (by first | exact Or.inl rfl | exact Or.inr rfl | exact b2_01 _) (by first | rfl | exact (b2_t (by omega)).symm | exact (b2_f (by omega)).symm)
        · skip
          refine lv_iload_n hx hb d_M_isPair_25 rfl (lv_at hl 2 rfl) ?_
          refine pr_if_lt (tgt := 33) hx hb (i3_of (by omega) (by omega)) d_M_isPair_26 (by decide) (fun c_5 => ?_) (fun c_5 => ?_)
          · skip
            refine lv_iconst (v := iI (0)) hx hb d_M_isPair_33 rfl ?_
            exact pr_rz hx hb hr hlocks d_M_isPair_34 (by first | exact Or.inl rfl | exact Or.inr rfl | exact b2_01 _) (by first | rfl | exact (b2_t (by omega)).symm | exact (b2_f (by omega)).symm)
          · skip
            refine lv_iconst (v := iI (1)) hx hb d_M_isPair_29 rfl ?_
            refine lv_goto (tgt := 34) hx hb d_M_isPair_30 (by decide) ?_
            exact pr_rz hx hb hr hlocks d_M_isPair_34 (by first | exact Or.inl rfl | exact Or.inr rfl | exact b2_01 _) (by first | rfl | exact (b2_t (by omega)).symm | exact (b2_f (by omega)).symm)
abbrev w_M_warmthOf : List Cond := .code y_M_warmthOf b_M_warmthOf 2 (some .int) :: pn_W
set_option maxHeartbeats 4000000 in
set_option maxRecDepth 100000 in
theorem c_M_warmthOf (l : Launch) {D : va_G} {b : Nat → Nat} {cI cL cZ : ClassId} {mi ml : Nat → Int → Int} {mz : Int → Int} {ms : Nat → Int} (nf : Nat → Int → Int) (ns : Nat → Int) (da : Int → Int → Int) (x : Int) (hOk : pn_Ok nf ns da) (hR : mn_R nf ns mi ms) (gx : -4 ≤ x ∧ x < 8) : Met l y_M_warmthOf w_M_warmthOf ({ frames := 0, cells := 0, slots := 0, locals := 0 }) (va_Pc [.ref (b 0), .int (iI (x))] (fun U => va_P D pn_cl (mw b cI cL cZ mi ml mz ms) U.heap ∧ mn_E D cI cL cZ U)) (vp_Si (fun r => r = iI (nf 1 (x + 4)))) 0 0 (fun _ => False) := by
  refine Met.ofW (cc := b_M_warmthOf) (maxL := 2) (ret := (some .int)) (by decide) rfl ?_
  intro p e s m args below meth c s₁ B hml hv
  obtain ⟨rfl, hP, hE⟩ := hv
  have hx := B.exec
  have hb := B.bytes
  have hr := B.returns
  have hts := atoms_spec (ws := w_M_warmthOf) B.pre
  have ht : ∀ w ∈ pn_W, w.before _ s = true := fun w h => hts w (List.mem_cons_of_mem _ h)
  have hown : s.vm.findClass R_M = some m.cls := findClass_of_methodNamed B.named
  have hlocks := B.notSynchronized
  have hK := hE
  have hl := lv_entry ([.ref (b 0), .int (iI (x))]) (n := 2) (Nat.le_of_ble_eq_true rfl)
  rw [lg_entry_eq]
  generalize (lg_sl ([.ref (b 0), .int (iI (x))]) ++ List.replicate (2 - (lg_sl ([.ref (b 0), .int (iI (x))])).length) Slot.unset).toArray = ls at hl ⊢
  have hl : lv_has ls 2 [(0, .ref (b 0)), (1, .int (iI (x)))] := hl
  obtain ⟨o_zc, o_lc, o_fc, o_ve, o_wi, o_wa, o_vo, o_fr, o_to, o_he, o_ar, o_ki, o_st, o_ff, o_sl, o_dc, o_da⟩ := id hOk
  obtain ⟨r_zo, r_le, r_fa, r_wi, r_ai, r_wa, r_vo, r_lk, r_fn⟩ := id hR
  have w1 := o_wa (x + 4) (by omega) (by omega)
  refine lv_iload_n hx hb d_M_warmthOf_0 rfl (lv_at hl 1 rfl) ?_
  refine pr_if_ge (tgt := 11) hx hb (i3_of (by omega) (by omega)) d_M_warmthOf_1 (by decide) (fun c_1 => ?_) (fun c_1 => ?_)
  · skip
    refine lv_aload_n hx hb d_M_warmthOf_11 rfl (lv_at hl 0 rfl) ?_
    refine va_get (D := D) (ci := 5) (v := .ref (b 2)) (C := R_M) (T := T_M) (N := 27) hx hb hts (in_M _) hown hK hP 0 rfl rfl 4 (by decide) (ht _ m_594) (fun _ h9 => h9) rfl d_M_warmthOf_12 ?_
    refine lv_iload_n hx hb d_M_warmthOf_15 rfl (lv_at hl 1 rfl) ?_
    refine pr_iald hx hb hK hP 2 0 rfl rfl (by decide) (by omega) (by omega) d_M_warmthOf_16 ?_
    exact pr_ri hx hb hr hlocks d_M_warmthOf_17 (by first | exact r_ai _ (by omega) (by omega) | exact r_wa _ (by omega) (by omega))
  · skip
    refine lv_aload_n hx hb d_M_warmthOf_4 rfl (lv_at hl 0 rfl) ?_
    refine va_get (D := D) (ci := 5) (v := .int (iI (ms 1))) (C := R_M) (T := T_M) (N := 27) hx hb hts (in_M _) hown hK hP 0 rfl rfl 2 (by decide) (ht _ m_592) (fun _ h9 => h9) rfl d_M_warmthOf_5 ?_
    refine lv_goto (tgt := 17) hx hb d_M_warmthOf_8 (by decide) ?_
    exact pr_ri hx hb hr hlocks d_M_warmthOf_17 (by first | exact r_ai _ (by omega) (by omega) | exact r_wa _ (by omega) (by omega))
abbrev w_M_pressureOf : List Cond := .code y_M_pressureOf b_M_pressureOf 2 (some .int) :: pn_W
set_option maxHeartbeats 4000000 in
set_option maxRecDepth 100000 in
theorem c_M_pressureOf (l : Launch) {D : va_G} {b : Nat → Nat} {cI cL cZ : ClassId} {mi ml : Nat → Int → Int} {mz : Int → Int} {ms : Nat → Int} (nf : Nat → Int → Int) (ns : Nat → Int) (da : Int → Int → Int) (x : Int) (hOk : pn_Ok nf ns da) (hR : mn_R nf ns mi ms) (gx : -4 ≤ x ∧ x < 8) : Met l y_M_pressureOf w_M_pressureOf ({ frames := 0, cells := 0, slots := 0, locals := 0 }) (va_Pc [.ref (b 0), .int (iI (x))] (fun U => va_P D pn_cl (mw b cI cL cZ mi ml mz ms) U.heap ∧ mn_E D cI cL cZ U)) (vp_Si (fun r => r = iI (mP mi (x + 4)))) 0 0 (fun _ => False) := by
  refine Met.ofW (cc := b_M_pressureOf) (maxL := 2) (ret := (some .int)) (by decide) rfl ?_
  intro p e s m args below meth c s₁ B hml hv
  obtain ⟨rfl, hP, hE⟩ := hv
  have hx := B.exec
  have hb := B.bytes
  have hr := B.returns
  have hts := atoms_spec (ws := w_M_pressureOf) B.pre
  have ht : ∀ w ∈ pn_W, w.before _ s = true := fun w h => hts w (List.mem_cons_of_mem _ h)
  have hown : s.vm.findClass R_M = some m.cls := findClass_of_methodNamed B.named
  have hlocks := B.notSynchronized
  have hK := hE
  have hl := lv_entry ([.ref (b 0), .int (iI (x))]) (n := 2) (Nat.le_of_ble_eq_true rfl)
  rw [lg_entry_eq]
  generalize (lg_sl ([.ref (b 0), .int (iI (x))]) ++ List.replicate (2 - (lg_sl ([.ref (b 0), .int (iI (x))])).length) Slot.unset).toArray = ls at hl ⊢
  have hl : lv_has ls 2 [(0, .ref (b 0)), (1, .int (iI (x)))] := hl
  refine lv_iload_n hx hb d_M_pressureOf_0 rfl (lv_at hl 1 rfl) ?_
  refine pr_if_ge (tgt := 15) hx hb (i3_of (by omega) (by omega)) d_M_pressureOf_1 (by decide) (fun c_1 => ?_) (fun c_1 => ?_)
  · skip
    refine lv_aload_n hx hb d_M_pressureOf_15 rfl (lv_at hl 0 rfl) ?_
    refine va_get (D := D) (ci := 5) (v := .ref (b 18)) (C := R_M) (T := T_M) (N := 27) hx hb hts (in_M _) hown hK hP 0 rfl rfl 23 (by decide) (ht _ m_613) (fun _ h9 => h9) rfl d_M_pressureOf_16 ?_
    refine lv_iload_n hx hb d_M_pressureOf_19 rfl (lv_at hl 1 rfl) ?_
    refine pr_iald hx hb hK hP 18 0 rfl rfl (by decide) (by omega) (by omega) d_M_pressureOf_20 ?_
    exact pr_ri hx hb hr hlocks d_M_pressureOf_21 (by first | exact (mP_s mi (by omega)).symm | exact (mP_z mi (by omega)).symm)
  · skip
    refine lv_aload_n hx hb d_M_pressureOf_4 rfl (lv_at hl 0 rfl) ?_
    refine va_get (D := D) (ci := 5) (v := .ref (b 1)) (C := R_M) (T := T_M) (N := 27) hx hb hts (in_M _) hown hK hP 0 rfl rfl 1 (by decide) (ht _ m_591) (fun _ h9 => h9) rfl d_M_pressureOf_5 ?_
    refine lv_iload_n hx hb d_M_pressureOf_8 rfl (lv_at hl 1 rfl) ?_
    refine lv_iconst (v := iI (4)) hx hb d_M_pressureOf_9 rfl ?_
    refine pr_iadd hx hb d_M_pressureOf_10 ?_
    refine pr_iald hx hb hK hP 1 0 rfl rfl (by decide) (by omega) (by omega) d_M_pressureOf_11 ?_
    refine lv_goto (tgt := 21) hx hb d_M_pressureOf_12 (by decide) ?_
    exact pr_ri hx hb hr hlocks d_M_pressureOf_21 (by first | exact (mP_s mi (by omega)).symm | exact (mP_z mi (by omega)).symm)
abbrev w_M_driveOf : List Cond := .code y_M_driveOf b_M_driveOf 3 (some .int) :: pn_W
set_option maxHeartbeats 4000000 in
set_option maxRecDepth 100000 in
theorem c_M_driveOf (l : Launch) {D : va_G} {b : Nat → Nat} {cI cL cZ : ClassId} {mi ml : Nat → Int → Int} {mz : Int → Int} {ms : Nat → Int} (nf : Nat → Int → Int) (ns : Nat → Int) (da : Int → Int → Int) (x : Int) (hOk : pn_Ok nf ns da) (hR : mn_R nf ns mi ms) (gx : 0 ≤ x ∧ x < ns 1) : Met l y_M_driveOf w_M_driveOf ({ frames := 1, cells := 0, slots := 0, locals := 21 }) (va_Pc [.ref (b 0), .int (iI (x))] (fun U => va_P D pn_cl (mw b cI cL cZ mi ml mz ms) U.heap ∧ mn_E D cI cL cZ U)) (vp_Si (fun r => r = iI (m_drive nf (mP mi) x))) 0 0 (fun _ => False) := by
  refine Met.ofW (cc := b_M_driveOf) (maxL := 3) (ret := (some .int)) (by decide) rfl ?_
  intro p e s m args below meth c s₁ B hml hv
  obtain ⟨rfl, hP, hE⟩ := hv
  have hx := B.exec
  have hb := B.bytes
  have hr := B.returns
  have hts := atoms_spec (ws := w_M_driveOf) B.pre
  have ht : ∀ w ∈ pn_W, w.before _ s = true := fun w h => hts w (List.mem_cons_of_mem _ h)
  have hown : s.vm.findClass R_M = some m.cls := findClass_of_methodNamed B.named
  have hlocks := B.notSynchronized
  have hK := hE
  have hl := lv_entry ([.ref (b 0), .int (iI (x))]) (n := 3) (Nat.le_of_ble_eq_true rfl)
  rw [lg_entry_eq]
  generalize (lg_sl ([.ref (b 0), .int (iI (x))]) ++ List.replicate (3 - (lg_sl ([.ref (b 0), .int (iI (x))])).length) Slot.unset).toArray = ls at hl ⊢
  have hl : lv_has ls 3 [(0, .ref (b 0)), (1, .int (iI (x)))] := hl
  obtain ⟨o_zc, o_lc, o_fc, o_ve, o_wi, o_wa, o_vo, o_fr, o_to, o_he, o_ar, o_ki, o_st, o_ff, o_sl, o_dc, o_da⟩ := id hOk
  obtain ⟨r_zo, r_le, r_fa, r_wi, r_ai, r_wa, r_vo, r_lk, r_fn⟩ := id hR
  obtain ⟨k1, k2, k3, k4, k5, k6⟩ := r_lk x gx.1 gx.2
  have a1 := o_fr x (by omega) (by omega)
  have a2 := o_to x (by omega) (by omega)
  have a3 := o_wa (mi 4 x + 4) (by omega) (by omega)
  have a4 := o_wa (mi 5 x + 4) (by omega) (by omega)
  have a5 := o_he x (by omega) (by omega)
  have b1 := mul_b (x := mi 6 x) (y := nf 1 (mi 4 x + 4) - nf 1 (mi 5 x + 4)) (X := 100) (Y := 2000) (by omega) (by omega) (by omega) (by omega)
  refine lv_aload_n hx hb d_M_driveOf_0 rfl (lv_at hl 0 rfl) ?_
  refine va_get (D := D) (ci := 5) (v := .ref (b 8)) (C := R_M) (T := T_M) (N := 27) hx hb hts (in_M _) hown hK hP 0 rfl rfl 11 (by decide) (ht _ m_601) (fun _ h9 => h9) rfl d_M_driveOf_1 ?_
  refine lv_iload_n hx hb d_M_driveOf_4 rfl (lv_at hl 1 rfl) ?_
  refine pr_iald hx hb hK hP 8 0 rfl rfl (by decide) (by omega) (by omega) d_M_driveOf_5 ?_
  refine lv_aload_n hx hb d_M_driveOf_6 rfl (lv_at hl 0 rfl) ?_
  refine lv_aload_n hx hb d_M_driveOf_7 rfl (lv_at hl 0 rfl) ?_
  refine va_get (D := D) (ci := 5) (v := .ref (b 6)) (C := R_M) (T := T_M) (N := 27) hx hb hts (in_M _) hown hK hP 0 rfl rfl 9 (by decide) (ht _ m_599) (fun _ h9 => h9) rfl d_M_driveOf_8 ?_
  refine lv_iload_n hx hb d_M_driveOf_11 rfl (lv_at hl 1 rfl) ?_
  refine pr_iald hx hb hK hP 6 0 rfl rfl (by decide) (by omega) (by omega) d_M_driveOf_12 ?_
  refine pr_pi (va_runV (As := [.int (iI (mi 4 (x)))]) (rest := [.int (iI (mi 6 (x)))]) ⟨hx, hb, hml, hown, hts⟩ (c_M_warmthOf l nf ns da (mi 4 (x)) hOk hR ⟨by omega, by omega⟩) (cwV 1 hts (pn_gV m_701 m_703 m_17 m_38 m_704) rfl rfl rfl (by decide +kernel) ⟨Nat.le_of_ble_eq_true rfl, Nat.le_of_ble_eq_true rfl⟩) (mn_preV (q0 := 0) (ci := 5) (q := (R_M, T_M, 27)) hP hE rfl rfl) rfl rfl hl.1 rfl (lv_room (Nat.le_of_ble_eq_true rfl)) d_M_driveOf_13 ⟨Nat.le_of_ble_eq_true rfl, Nat.le_of_ble_eq_true rfl⟩) ?_
  refine lv_aload_n hx hb d_M_driveOf_16 rfl (lv_at hl 0 rfl) ?_
  refine lv_aload_n hx hb d_M_driveOf_17 rfl (lv_at hl 0 rfl) ?_
  refine va_get (D := D) (ci := 5) (v := .ref (b 7)) (C := R_M) (T := T_M) (N := 27) hx hb hts (in_M _) hown hK hP 0 rfl rfl 10 (by decide) (ht _ m_600) (fun _ h9 => h9) rfl d_M_driveOf_18 ?_
  refine lv_iload_n hx hb d_M_driveOf_21 rfl (lv_at hl 1 rfl) ?_
  refine pr_iald hx hb hK hP 7 0 rfl rfl (by decide) (by omega) (by omega) d_M_driveOf_22 ?_
  refine pr_pi (va_runV (As := [.int (iI (mi 5 (x)))]) (rest := [.int (iI (nf 1 ((mi 4 (x)) + 4))), .int (iI (mi 6 (x)))]) ⟨hx, hb, hml, hown, hts⟩ (c_M_warmthOf l nf ns da (mi 5 (x)) hOk hR ⟨by omega, by omega⟩) (cwV 1 hts (pn_gV m_701 m_703 m_17 m_38 m_704) rfl rfl rfl (by decide +kernel) ⟨Nat.le_of_ble_eq_true rfl, Nat.le_of_ble_eq_true rfl⟩) (mn_preV (q0 := 0) (ci := 5) (q := (R_M, T_M, 27)) hP hE rfl rfl) rfl rfl hl.1 rfl (lv_room (Nat.le_of_ble_eq_true rfl)) d_M_driveOf_23 ⟨Nat.le_of_ble_eq_true rfl, Nat.le_of_ble_eq_true rfl⟩) ?_
  refine pr_isub hx hb d_M_driveOf_26 ?_
  refine pr_imul hx hb d_M_driveOf_27 ?_
  refine lv_bipush (v := iI (100)) hx hb d_M_driveOf_28 (by decide) ?_
  refine pr_idiv hx hb (i3_of (by omega) (by omega)) (i3_of (by decide) (by decide)) (by omega) d_M_driveOf_30 ?_
  refine lv_istore_n (lv' := [(2, .int (iI (((mi 6 (x)) * ((nf 1 ((mi 4 (x)) + 4)) - (nf 1 ((mi 5 (x)) + 4)))).tdiv (100)))), (0, .ref (b 0)), (1, .int (iI (x)))]) hx hb d_M_driveOf_31 rfl hl (by decide) rfl (fun ls hl => ?_)
  refine lv_aload_n hx hb d_M_driveOf_32 rfl (lv_at hl 1 rfl) ?_
  refine lv_aload_n hx hb d_M_driveOf_33 rfl (lv_at hl 1 rfl) ?_
  refine va_get (D := D) (ci := 5) (v := .ref (b 6)) (C := R_M) (T := T_M) (N := 27) hx hb hts (in_M _) hown hK hP 0 rfl rfl 9 (by decide) (ht _ m_599) (fun _ h9 => h9) rfl d_M_driveOf_34 ?_
  refine lv_iload_n hx hb d_M_driveOf_37 rfl (lv_at hl 2 rfl) ?_
  refine pr_iald hx hb hK hP 6 0 rfl rfl (by decide) (by omega) (by omega) d_M_driveOf_38 ?_
  refine pr_pi (va_runV (As := [.int (iI (mi 4 (x)))]) (rest := []) ⟨hx, hb, hml, hown, hts⟩ (c_M_pressureOf l nf ns da (mi := mi) (ms := ms) (mi 4 (x)) hOk hR ⟨by omega, by omega⟩) (cwV 1 hts (pn_gV m_751 m_753 m_25 m_38 m_754) rfl rfl rfl (by decide +kernel) ⟨Nat.le_of_ble_eq_true rfl, Nat.le_of_ble_eq_true rfl⟩) (mn_preV (q0 := 0) (ci := 5) (q := (R_M, T_M, 27)) hP hE rfl rfl) rfl rfl hl.1 rfl (lv_room (Nat.le_of_ble_eq_true rfl)) d_M_driveOf_39 ⟨Nat.le_of_ble_eq_true rfl, Nat.le_of_ble_eq_true rfl⟩) ?_
  refine lv_aload_n hx hb d_M_driveOf_42 rfl (lv_at hl 1 rfl) ?_
  refine lv_aload_n hx hb d_M_driveOf_43 rfl (lv_at hl 1 rfl) ?_
  refine va_get (D := D) (ci := 5) (v := .ref (b 7)) (C := R_M) (T := T_M) (N := 27) hx hb hts (in_M _) hown hK hP 0 rfl rfl 10 (by decide) (ht _ m_600) (fun _ h9 => h9) rfl d_M_driveOf_44 ?_
  refine lv_iload_n hx hb d_M_driveOf_47 rfl (lv_at hl 2 rfl) ?_
  refine pr_iald hx hb hK hP 7 0 rfl rfl (by decide) (by omega) (by omega) d_M_driveOf_48 ?_
  refine pr_pi (va_runV (As := [.int (iI (mi 5 (x)))]) (rest := [.int (iI (mP mi ((mi 4 (x)) + 4)))]) ⟨hx, hb, hml, hown, hts⟩ (c_M_pressureOf l nf ns da (mi := mi) (ms := ms) (mi 5 (x)) hOk hR ⟨by omega, by omega⟩) (cwV 1 hts (pn_gV m_751 m_753 m_25 m_38 m_754) rfl rfl rfl (by decide +kernel) ⟨Nat.le_of_ble_eq_true rfl, Nat.le_of_ble_eq_true rfl⟩) (mn_preV (q0 := 0) (ci := 5) (q := (R_M, T_M, 27)) hP hE rfl rfl) rfl rfl hl.1 rfl (lv_room (Nat.le_of_ble_eq_true rfl)) d_M_driveOf_49 ⟨Nat.le_of_ble_eq_true rfl, Nat.le_of_ble_eq_true rfl⟩) ?_
  refine pr_isub hx hb d_M_driveOf_52 ?_
  refine lv_iload_n hx hb d_M_driveOf_53 rfl (lv_at hl 0 rfl) ?_
  refine pr_iadd hx hb d_M_driveOf_54 ?_
  exact pr_ri hx hb hr hlocks d_M_driveOf_55 (by unfold m_drive; rw [k6, ← k1, ← k2, ← k3])
abbrev w_M_rootOf : List Cond := .code y_M_rootOf b_M_rootOf 8 (some .long) :: pn_W
set_option maxHeartbeats 4000000 in
set_option maxRecDepth 100000 in
theorem c_M_rootOf (l : Launch) (v : Int) (gv : 0 ≤ v ∧ v ≤ 40000000000) : Met l y_M_rootOf w_M_rootOf ({ frames := 0, cells := 0, slots := 0, locals := 0 }) (va_Pc [.long (lI (v))] (fun _ => True)) (vp_Sl (fun r => r = lI (((pn_sq v.toNat : Nat) : Int)))) 0 0 (fun _ => False) := by
  refine Met.ofW (cc := b_M_rootOf) (maxL := 8) (ret := (some .long)) (by decide) rfl ?_
  intro p e s m args below meth c s₁ B hml hv
  obtain ⟨rfl, -⟩ := hv
  have hx := B.exec
  have hb := B.bytes
  have hr := B.returns
  have hts := atoms_spec (ws := w_M_rootOf) B.pre
  have ht : ∀ w ∈ pn_W, w.before _ s = true := fun w h => hts w (List.mem_cons_of_mem _ h)
  have hown : s.vm.findClass R_M = some m.cls := findClass_of_methodNamed B.named
  have hlocks := B.notSynchronized
  have hl := lv_entry ([.long (lI (v))]) (n := 8) (Nat.le_of_ble_eq_true rfl)
  rw [lg_entry_eq]
  generalize (lg_sl ([.long (lI (v))]) ++ List.replicate (8 - (lg_sl ([.long (lI (v))])).length) Slot.unset).toArray = ls at hl ⊢
  have hl : lv_has ls 8 [(0, .long (lI (v)))] := hl
  have loop : ∀ (n : Nat) (lo : Nat) (hi : Nat) (ls : Array Slot), (lo ≤ hi) → (hi ≤ 2000000) → (lo * lo ≤ v.toNat) → (v.toNat < (hi + 1) * (hi + 1)) → (hi - lo) < n → lv_has ls 8 [(0, .long (lI (v))), (2, .long (lI (((lo : Nat) : Int)))), (4, .long (lI (((hi : Nat) : Int))))] → W p l e (headSpec w_M_rootOf ({ frames := 0, cells := 0, slots := 0, locals := 0 })).room s m ([.long (lI (v))] : List Value).toArray below meth c s.heap [] 0 0 (MQ below (vp_Sl (fun r => r = lI (((pn_sq v.toNat : Nat) : Int)))) ([.long (lI (v))] : List Value).toArray s 0 0 (fun _ => False)) (F0 m 7 ls []) := by
    intro n
    induction n with
    | zero => intro lo hi ls _ _ _ _ hm; exact absurd hm (Nat.not_lt_zero _)
    | succ n ih =>
      intro lo hi ls q1 q2 q3 q4 hm hl
      refine lv_lload_n hx hb d_M_rootOf_7 rfl (lv_at hl 1 rfl) ?_
      refine lv_lload hx hb d_M_rootOf_8 (lv_at hl 2 rfl) ?_
      refine pr_lcmp_ge (tgt := 51) hx hb (i6_of (by omega) (by omega)) (i6_of (by omega) (by omega)) d_M_rootOf_10 d_M_rootOf_11 (by decide) (fun c_1 => ?_) (fun c_1 => ?_)
      · skip
        refine lv_lload_n hx hb d_M_rootOf_51 rfl (lv_at hl 1 rfl) ?_
        exact pr_rl hx hb hr hlocks d_M_rootOf_52 (by rw [pn_sq_eq q3 (by rw [show lo = hi by omega]; exact q4)])
      · skip
        refine lv_lload_n hx hb d_M_rootOf_14 rfl (lv_at hl 1 rfl) ?_
        refine lv_lload hx hb d_M_rootOf_15 (lv_at hl 2 rfl) ?_
        refine pr_ladd hx hb d_M_rootOf_17 ?_
        refine lv_lconst (v := lI 1) hx hb d_M_rootOf_18 (by decide) ?_
        refine pr_ladd hx hb d_M_rootOf_19 ?_
        refine lv_ldc2 (v := lI (2)) hx hb hown (ht (.constantLong _ 123 (lI (2))) m_759) d_M_rootOf_20 ?_
        refine pr_ldiv hx hb (i6_of (by omega) (by omega)) (i6_of (by decide) (by decide)) (by omega) d_M_rootOf_23 ?_
        refine pr_lre (B := (((lo + hi + 1) / 2 : Nat) : Int)) (by rw [show ((lo : Int)) + (hi : Int) + 1 = ((lo + hi + 1 : Nat) : Int) by omega]; exact (Int.ofNat_tdiv _ _).symm) ?_
        refine lv_lstore (lv' := [(6, .long (lI ((((lo + hi + 1) / 2 : Nat) : Int)))), (0, .long (lI (v))), (2, .long (lI (((lo : Nat) : Int)))), (4, .long (lI (((hi : Nat) : Int))))]) hx hb d_M_rootOf_24 hl (by decide) rfl (fun ls hl => ?_)
        refine lv_lload hx hb d_M_rootOf_26 (lv_at hl 0 rfl) ?_
        refine lv_lload hx hb d_M_rootOf_28 (lv_at hl 0 rfl) ?_
        have mb := mul_b (x := (((lo + hi + 1) / 2 : Nat) : Int)) (y := (((lo + hi + 1) / 2 : Nat) : Int)) (X := 2000000) (Y := 2000000) (by omega) (by omega) (by omega) (by omega)
        refine pr_lmul hx hb d_M_rootOf_30 ?_
        refine lv_lload_n hx hb d_M_rootOf_31 rfl (lv_at hl 1 rfl) ?_
        refine pr_lcmp_gt (tgt := 42) hx hb (i6_of (by omega) (by omega)) (i6_of (by omega) (by omega)) d_M_rootOf_32 d_M_rootOf_33 (by decide) (fun c_2 => ?_) (fun c_2 => ?_)
        · skip
          refine lv_lload hx hb d_M_rootOf_42 (lv_at hl 0 rfl) ?_
          refine lv_lconst (v := lI 1) hx hb d_M_rootOf_44 (by decide) ?_
          refine pr_lsub hx hb d_M_rootOf_45 ?_
          refine pr_lre (B := (((lo + hi + 1) / 2 - 1 : Nat) : Int)) (by omega) ?_
          refine lv_lstore (lv' := [(4, .long (lI ((((lo + hi + 1) / 2 - 1 : Nat) : Int)))), (6, .long (lI ((((lo + hi + 1) / 2 : Nat) : Int)))), (0, .long (lI (v))), (2, .long (lI (((lo : Nat) : Int))))]) hx hb d_M_rootOf_46 hl (by decide) rfl (fun ls hl => ?_)
          refine lv_goto (tgt := 7) hx hb d_M_rootOf_48 (by decide) ?_
          exact ih (lo) ((lo + hi + 1) / 2 - 1) ls (by omega) (by omega) q3 (by rw [show (lo + hi + 1) / 2 - 1 + 1 = (lo + hi + 1) / 2 by omega]; rw [← Int.natCast_mul] at c_2; omega) (by omega) (lv_sub hl [2, 3, 0] rfl)
        · skip
          refine lv_lload hx hb d_M_rootOf_36 (lv_at hl 0 rfl) ?_
          refine lv_lstore_n (lv' := [(2, .long (lI ((((lo + hi + 1) / 2 : Nat) : Int)))), (6, .long (lI ((((lo + hi + 1) / 2 : Nat) : Int)))), (0, .long (lI (v))), (4, .long (lI (((hi : Nat) : Int))))]) hx hb d_M_rootOf_38 rfl hl (by decide) rfl (fun ls hl => ?_)
          refine lv_goto (tgt := 48) hx hb d_M_rootOf_39 (by decide) ?_
          refine lv_goto (tgt := 7) hx hb d_M_rootOf_48 (by decide) ?_
          exact ih ((lo + hi + 1) / 2) (hi) ls (by omega) (by omega) (by rw [← Int.natCast_mul] at c_2; omega) q4 (by omega) (lv_sub hl [2, 0, 3] rfl)
  refine lv_lconst (v := lI 0) hx hb d_M_rootOf_0 (by decide) ?_
  refine lv_lstore_n (lv' := [(2, .long (lI (0))), (0, .long (lI (v)))]) hx hb d_M_rootOf_1 rfl hl (by decide) rfl (fun ls hl => ?_)
  refine lv_ldc2 (v := lI (2000000)) hx hb hown (ht (.constantLong _ 121 (lI (2000000))) m_758) d_M_rootOf_2 ?_
  refine lv_lstore (lv' := [(4, .long (lI (2000000))), (2, .long (lI (0))), (0, .long (lI (v)))]) hx hb d_M_rootOf_5 hl (by decide) rfl (fun ls hl => ?_)
  exact loop _ (0) (2000000) ls (by omega) (by omega) (by omega) (by omega) (Nat.lt_succ_self _) (lv_sub hl [2, 1, 0] rfl)
