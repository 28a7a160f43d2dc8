theorem m_217 : (Cond.codeWith y_L_zone b_L_zone 5 (some .int) [(0, 10, 13, 13), (0, 10, 17, 15)]) ∈ pn_W := pn_mem 217 (by decide +kernel) (by decide +kernel)
abbrev w_L_zone : List Cond := .codeWith y_L_zone b_L_zone 5 (some .int) [(0, 10, 13, 13), (0, 10, 17, 15)] :: pn_W
set_option maxHeartbeats 4000000 in
set_option maxRecDepth 100000 in
theorem c_L_zone (l : Launch) (hst : l.stackTraces = false) {D : va_G} {a : Nat → Nat} {cI cL cD cS : ClassId} {nf : Nat → Int → Int} {ns : Nat → Int} {da : Int → Int → Int} {be : Int → Int} {ui ul : Nat → Int → Int} {cn : Int} {ss : Nat → Nat} {mf sd : Nat → Int} {pr : Nat → Int → Int} (sz o : Nat) (g : Int → Int) (x y : Int) (hOk : pn_Ok nf ns da) (gx : i3 x) (gy : i3 y) : Met l y_L_zone w_L_zone ({ frames := 8, cells := 1, slots := 6, locals := 132 }) (va_Pc [.ref (a 0), .int (iI (x)), .int (iI (y)), .ref o] (fun U => U.heap.size = sz ∧ va_P D pn_cl (cw a cI cL cD cS nf ns da be ui ul cn ss mf sd pr ++ vo cL o g) U.heap ∧ va_D (fun _ => True) (cw a cI cL cD cS nf ns da be ui ul cn ss mf sd pr ++ vo cL o g) ∧ pn_E D cI cL cD cS U ∧ pn_X (va_A (cw a cI cL cD cS nf ns da be ui ul cn ss mf sd pr ++ vo cL o g) sz) U ∧ pn_Nc U)) (va_Qi (fun (r : Int32) (w : vS × (Int → Int)) => (r = iI 1 ∧ ¬ ((-1000 ≤ x ∧ x ≤ 1000) ∧ (1 ≤ y ∧ y ≤ 100000)) ∧ w.1 = (nf, ns, da, be, ui, ul, cn, ss, mf, sd, pr)) ∨ (r = iI 2 ∧ ((-1000 ≤ x ∧ x ≤ 1000) ∧ (1 ≤ y ∧ y ≤ 100000)) ∧ (8 ≤ ns 0) ∧ w.1 = (nf, ns, da, be, ui, ul, cn, ss, mf, sd, pr)) ∨ (r = iI 0 ∧ ∃ (r32 : Int32) (u : Unit), (fun (r : Int32) (_ : Unit) => ((-1000 ≤ x ∧ x ≤ 1000) ∧ (1 ≤ y ∧ y ≤ 100000)) ∧ ¬ (8 ≤ ns 0) ∧ r = iI (ns 0)) r32 u ∧ w.1 = ((nw (nw nf 1 (pu (nf 1) ((ns 0) + 4) (x))) 2 (pu ((nw nf 1 (pu (nf 1) ((ns 0) + 4) (x))) 2) (ns 0) (y))), (nw (nw ns 0 ((ns 0) + (1))) 3 (((nw ns 0 ((ns 0) + (1))) 3) + (1))), da, be, ui, ul, cn, ss, mf, sd, pr) ∧ lI (w.2 0) = r32.toInt64)) (fun u t => va_P D pn_cl ((fun w : vS × (Int → Int) => cwv a cI cL cD cS w.1 ++ vo cL o w.2) u) t.heap ∧ va_D (va_A (cw a cI cL cD cS nf ns da be ui ul cn ss mf sd pr ++ vo cL o g) sz) ((fun w : vS × (Int → Int) => cwv a cI cL cD cS w.1 ++ vo cL o w.2) u)) (va_A (cw a cI cL cD cS nf ns da be ui ul cn ss mf sd pr ++ vo cL o g) sz)) 1 6 (va_A (cw a cI cL cD cS nf ns da be ui ul cn ss mf sd pr ++ vo cL o g) sz) := by
  refine vl_ofWH (cc := b_L_zone) (maxL := 5) (ret := some .int) (hh := [(0, 10, 13, 13), (0, 10, 17, 15)]) (by decide) rfl ?_
  intro p e s m args below meth c s₁ B hml hv
  obtain ⟨rfl, hsz, hP, hD0, hE, hX, hNc⟩ := hv
  have hx := B.exec
  have hb := B.bytes
  have hr := B.returns
  have hts := atoms_spec (ws := w_L_zone) B.pre
  have ht : ∀ w ∈ pn_W, w.before _ s = true := fun w h => hts w (List.mem_cons_of_mem _ h)
  have hown : s.vm.findClass RL = some m.cls := findClass_of_methodNamed B.named
  have hlocks := B.notSynchronized
  have hK := hE.1
  have htab := vx_table (x := y_P_init) B (hts _ List.mem_cons_self)
  subst hsz
  have hD := hD0.self (sz := s.heap.size)
  generalize hAe : va_A (cw a cI cL cD cS nf ns da be ui ul cn ss mf sd pr ++ vo cL o g) s.heap.size = A at hD hX ⊢
  have hA : ∀ q : Nat, s.heap.size ≤ q → A q := fun q h => by rw [← hAe]; exact Or.inr h
  have hS : va_S A s.heap s.heap [] := va_S.rf
  have hl := lv_entry ([.ref (a 0), .int (iI (x)), .int (iI (y)), .ref o]) (n := 5) (Nat.le_of_ble_eq_true rfl)
  rw [lg_entry_eq]
  generalize (lg_sl ([.ref (a 0), .int (iI (x)), .int (iI (y)), .ref o]) ++ List.replicate (5 - (lg_sl ([.ref (a 0), .int (iI (x)), .int (iI (y)), .ref o])).length) Slot.unset).toArray = ls at hl ⊢
  have hl : lv_has ls 5 [(0, .ref (a 0)), (1, .int (iI (x))), (2, .int (iI (y))), (3, .ref o)] := hl
  refine lv_aload_n hx hb d_L_zone_0 rfl (lv_at hl 3 rfl) ?_
  refine lv_iconst (v := iI (0)) hx hb d_L_zone_1 rfl ?_
  refine lv_aload_n hx hb d_L_zone_2 rfl (lv_at hl 0 rfl) ?_
  refine lv_iload_n hx hb d_L_zone_3 rfl (lv_at hl 1 rfl) ?_
  refine lv_iload_n hx hb d_L_zone_4 rfl (lv_at hl 2 rfl) ?_
  have hPc := vj_PL hP
  have hDc := vj_DL hD
  refine vx_calli (vx_runV (As := [.int (iI (x)), .int (iI (y))]) (rest := [.int (iI (0)), .ref o]) ⟨hx, hb, hml, hown, hts⟩ (c_P_zone l hst s.heap.size x y hOk gx gy) (cwV 2 hts (pn_gV m_220 m_221 m_222 m_33 m_223) rfl rfl rfl (by decide +kernel) ⟨Nat.le_of_ble_eq_true rfl, Nat.le_of_ble_eq_true rfl⟩) (pn_preP (q0 := 0) (ci := 0) (q := (R_P, T_P, 6)) hPc hDc hE hX hS hA rfl rfl) rfl rfl hl.1 rfl (lv_room (Nat.le_of_ble_eq_true rfl)) d_L_zone_5 ⟨Nat.le_of_ble_eq_true rfl, Nat.le_of_ble_eq_true rfl⟩) hS (fun q _ h => pr_all hDc hS hA q h) (fun q h => pr_all hDc hS hA q h) (fun q _ h => pr_all hDc hS hA q h) (fun E ce q9 u t9 H locs ht9 hvm _ hB hz hk hS hce hcv hcl => ?_) (fun r9 u9 t9 H locs ht9 hvm hw hB hz hk hS => ?_)
  · obtain ⟨hB, hP1⟩ := hB
    rw [ht9] at hP1
    obtain ⟨hP, hD⟩ := vj_app hP hD hk (fun q h => pr_all hDc va_S.rf hA q h) hP1 hDc.self
    rcases hB with hB | hB
    · obtain ⟨rfl, hlg⟩ := hB
      refine vx_catch hown [] (⟨0, 10, 13, 13⟩ : ExceptionTableEntry) [(⟨0, 10, 17, 15⟩ : ExceptionTableEntry)] htab (fun z hz => absurd hz (by simp)) (by decide) (by decide) (ht _ m_218) (va_Nw.use rfl hX.2.2.2.2.1) hce hcv hcl ?_
      refine lv_astore (lv' := [(4, .ref q9), (0, .ref (a 0)), (1, .int (iI (x))), (2, .int (iI (y))), (3, .ref o)]) hx hb d_L_zone_13 hl (by decide) rfl (fun ls hl => ?_)
      refine lv_iconst (v := iI (1)) hx hb d_L_zone_15 rfl ?_
      refine W.widen (k := 1) (n := 6) (by decide) (by decide) ?_
      exact W.iret (v := iI (1)) hx hb hr (fun t8 ht8 hW8 => ⟨⟨iI (1), ((nf, ns, da, be, ui, ul, cn, ss, mf, sd, pr), g), rfl, Or.inl ⟨rfl, hlg, rfl⟩, by rw [ht8]; exact hP, hD⟩, hS.F ht8⟩) hS.2.2 d_L_zone_16
    · obtain ⟨rfl, hlg, hfu⟩ := hB
      refine vx_catch hown [(⟨0, 10, 13, 13⟩ : ExceptionTableEntry)] (⟨0, 10, 17, 15⟩ : ExceptionTableEntry) [] htab (fun z hz => by cases List.mem_singleton.mp hz; exact Or.inr ⟨by decide, _, ht _ m_218, hNc⟩) (by decide) (by decide) (ht _ m_219) (va_Nw.use rfl hX.2.2.2.2.2.1) hce hcv hcl ?_
      refine lv_astore (lv' := [(4, .ref q9), (0, .ref (a 0)), (1, .int (iI (x))), (2, .int (iI (y))), (3, .ref o)]) hx hb d_L_zone_17 hl (by decide) rfl (fun ls hl => ?_)
      refine lv_iconst (v := iI (2)) hx hb d_L_zone_19 rfl ?_
      refine W.widen (k := 1) (n := 6) (by decide) (by decide) ?_
      exact W.iret (v := iI (2)) hx hb hr (fun t8 ht8 hW8 => ⟨⟨iI (2), ((nf, ns, da, be, ui, ul, cn, ss, mf, sd, pr), g), rfl, Or.inr (Or.inl ⟨rfl, hlg, hfu, rfl⟩), by rw [ht8]; exact hP, hD⟩, hS.F ht8⟩) hS.2.2 d_L_zone_20
  · obtain ⟨hP1, hD1⟩ := hB
    rw [ht9] at hP1
    obtain ⟨hP, hD⟩ := vj_app hP hD hk (fun q h => pr_all hDc va_S.rf hA q h) hP1 hD1
    refine lv_i2l (v := r9.toInt64) hx hb d_L_zone_8 rfl ?_
    refine pr_lxe (B := r9.toInt64.toInt) (lI_toInt _) ?_
    refine pr_last (ws' := cw a cI cL cD cS (nw (nw nf 1 (pu (nf 1) ((ns 0) + 4) (x))) 2 (pu ((nw nf 1 (pu (nf 1) ((ns 0) + 4) (x))) 2) (ns 0) (y))) (nw (nw ns 0 ((ns 0) + (1))) 3 (((nw ns 0 ((ns 0) + (1))) 3) + (1))) da be ui ul cn ss mf sd pr ++ vo cL o (pu g 0 (r9.toInt64.toInt))) hx hb hK hP hD hS 54 1 rfl rfl (by decide) (by decide) (by decide) rfl d_L_zone_9 (fun H locs hP hD hS => ?_)
    refine lv_goto (tgt := 21) hx hb d_L_zone_10 (by decide) ?_
    refine lv_iconst (v := iI (0)) hx hb d_L_zone_21 rfl ?_
    refine W.widen (k := 1) (n := 6) (by decide) (by decide) ?_
    exact W.iret (v := iI (0)) hx hb hr (fun t8 ht8 hW8 => ⟨⟨iI (0), (((nw (nw nf 1 (pu (nf 1) ((ns 0) + 4) (x))) 2 (pu ((nw nf 1 (pu (nf 1) ((ns 0) + 4) (x))) 2) (ns 0) (y))), (nw (nw ns 0 ((ns 0) + (1))) 3 (((nw ns 0 ((ns 0) + (1))) 3) + (1))), da, be, ui, ul, cn, ss, mf, sd, pr), pu g 0 (r9.toInt64.toInt)), rfl, Or.inr (Or.inr (⟨rfl, r9, u9, hw, rfl, by show lI (pu g 0 _ 0) = _; rw [pu_s]; exact (lI_toInt _).symm⟩)), by rw [ht8]; exact hP, hD⟩, hS.F ht8⟩) hS.2.2 d_L_zone_22
theorem m_329 : (Cond.codeWith y_L_wind b_L_wind 5 (some .int) [(0, 10, 13, 13)]) ∈ pn_W := pn_mem 329 (by decide +kernel) (by decide +kernel)
abbrev w_L_wind : List Cond := .codeWith y_L_wind b_L_wind 5 (some .int) [(0, 10, 13, 13)] :: pn_W
set_option maxHeartbeats 4000000 in
set_option maxRecDepth 100000 in
theorem c_L_wind (l : Launch) (hst : l.stackTraces = false) {D : va_G} {a : Nat → Nat} {cI cL cD cS : ClassId} {nf : Nat → Int → Int} {ns : Nat → Int} {da : Int → Int → Int} {be : Int → Int} {ui ul : Nat → Int → Int} {cn : Int} {ss : Nat → Nat} {mf sd : Nat → Int} {pr : Nat → Int → Int} (sz o : Nat) (g : Int → Int) (x y : Int) (hOk : pn_Ok nf ns da) (gx : i3 x) (gy : i3 y) : Met l y_L_wind w_L_wind ({ frames := 8, cells := 1, slots := 6, locals := 132 }) (va_Pc [.ref (a 0), .int (iI (x)), .int (iI (y)), .ref o] (fun U => U.heap.size = sz ∧ va_P D pn_cl (cw a cI cL cD cS nf ns da be ui ul cn ss mf sd pr ++ vo cL o g) U.heap ∧ va_D (fun _ => True) (cw a cI cL cD cS nf ns da be ui ul cn ss mf sd pr ++ vo cL o g) ∧ pn_E D cI cL cD cS U ∧ pn_X (va_A (cw a cI cL cD cS nf ns da be ui ul cn ss mf sd pr ++ vo cL o g) sz) U ∧ pn_Nc U)) (va_Qi (fun (r : Int32) (w : vS × (Int → Int)) => (r = iI 1 ∧ ¬ ((-4 ≤ x ∧ x ≤ -1) ∧ (-1000 ≤ y ∧ y ≤ 1000)) ∧ w.1 = (nf, ns, da, be, ui, ul, cn, ss, mf, sd, pr)) ∨ (r = iI 0 ∧ ∃ (r32 : Int32) (u : Unit), (fun (r : Int32) (_ : Unit) => ((-4 ≤ x ∧ x ≤ -1) ∧ (-1000 ≤ y ∧ y ≤ 1000)) ∧ r = iI (nf 0 (((x) + 4)))) r32 u ∧ w.1 = ((nw nf 0 (pu (nf 0) (((x) + 4)) (y))), (nw ns 3 ((ns 3) + (1))), da, be, ui, ul, cn, ss, mf, sd, pr) ∧ lI (w.2 0) = r32.toInt64)) (fun u t => va_P D pn_cl ((fun w : vS × (Int → Int) => cwv a cI cL cD cS w.1 ++ vo cL o w.2) u) t.heap ∧ va_D (va_A (cw a cI cL cD cS nf ns da be ui ul cn ss mf sd pr ++ vo cL o g) sz) ((fun w : vS × (Int → Int) => cwv a cI cL cD cS w.1 ++ vo cL o w.2) u)) (va_A (cw a cI cL cD cS nf ns da be ui ul cn ss mf sd pr ++ vo cL o g) sz)) 1 6 (va_A (cw a cI cL cD cS nf ns da be ui ul cn ss mf sd pr ++ vo cL o g) sz) := by
  refine vl_ofWH (cc := b_L_wind) (maxL := 5) (ret := some .int) (hh := [(0, 10, 13, 13)]) (by decide) rfl ?_
  intro p e s m args below meth c s₁ B hml hv
  obtain ⟨rfl, hsz, hP, hD0, hE, hX, hNc⟩ := hv
  have hx := B.exec
  have hb := B.bytes
  have hr := B.returns
  have hts := atoms_spec (ws := w_L_wind) B.pre
  have ht : ∀ w ∈ pn_W, w.before _ s = true := fun w h => hts w (List.mem_cons_of_mem _ h)
  have hown : s.vm.findClass RL = some m.cls := findClass_of_methodNamed B.named
  have hlocks := B.notSynchronized
  have hK := hE.1
  have htab := vx_table (x := y_P_init) B (hts _ List.mem_cons_self)
  subst hsz
  have hD := hD0.self (sz := s.heap.size)
  generalize hAe : va_A (cw a cI cL cD cS nf ns da be ui ul cn ss mf sd pr ++ vo cL o g) s.heap.size = A at hD hX ⊢
  have hA : ∀ q : Nat, s.heap.size ≤ q → A q := fun q h => by rw [← hAe]; exact Or.inr h
  have hS : va_S A s.heap s.heap [] := va_S.rf
  have hl := lv_entry ([.ref (a 0), .int (iI (x)), .int (iI (y)), .ref o]) (n := 5) (Nat.le_of_ble_eq_true rfl)
  rw [lg_entry_eq]
  generalize (lg_sl ([.ref (a 0), .int (iI (x)), .int (iI (y)), .ref o]) ++ List.replicate (5 - (lg_sl ([.ref (a 0), .int (iI (x)), .int (iI (y)), .ref o])).length) Slot.unset).toArray = ls at hl ⊢
  have hl : lv_has ls 5 [(0, .ref (a 0)), (1, .int (iI (x))), (2, .int (iI (y))), (3, .ref o)] := hl
  refine lv_aload_n hx hb d_L_wind_0 rfl (lv_at hl 3 rfl) ?_
  refine lv_iconst (v := iI (0)) hx hb d_L_wind_1 rfl ?_
  refine lv_aload_n hx hb d_L_wind_2 rfl (lv_at hl 0 rfl) ?_
  refine lv_iload_n hx hb d_L_wind_3 rfl (lv_at hl 1 rfl) ?_
  refine lv_iload_n hx hb d_L_wind_4 rfl (lv_at hl 2 rfl) ?_
  have hPc := vj_PL hP
  have hDc := vj_DL hD
  refine vx_calli (vx_runV (As := [.int (iI (x)), .int (iI (y))]) (rest := [.int (iI (0)), .ref o]) ⟨hx, hb, hml, hown, hts⟩ (c_P_wind l hst s.heap.size x y hOk gx gy) (cwV 2 hts (pn_gV m_330 m_331 m_332 m_33 m_333) rfl rfl rfl (by decide +kernel) ⟨Nat.le_of_ble_eq_true rfl, Nat.le_of_ble_eq_true rfl⟩) (pn_preP (q0 := 0) (ci := 0) (q := (R_P, T_P, 6)) hPc hDc hE hX hS hA rfl rfl) rfl rfl hl.1 rfl (lv_room (Nat.le_of_ble_eq_true rfl)) d_L_wind_5 ⟨Nat.le_of_ble_eq_true rfl, Nat.le_of_ble_eq_true rfl⟩) hS (fun q _ h => pr_all hDc hS hA q h) (fun q h => pr_all hDc hS hA q h) (fun q _ h => pr_all hDc hS hA q h) (fun E ce q9 u t9 H locs ht9 hvm _ hB hz hk hS hce hcv hcl => ?_) (fun r9 u9 t9 H locs ht9 hvm hw hB hz hk hS => ?_)
  · obtain ⟨hB, hP1⟩ := hB
    rw [ht9] at hP1
    obtain ⟨hP, hD⟩ := vj_app hP hD hk (fun q h => pr_all hDc va_S.rf hA q h) hP1 hDc.self
    obtain ⟨rfl, hlg⟩ := hB
    refine vx_catch hown [] (⟨0, 10, 13, 13⟩ : ExceptionTableEntry) [] htab (fun z hz => absurd hz (by simp)) (by decide) (by decide) (ht _ m_218) (va_Nw.use rfl hX.2.2.2.2.1) hce hcv hcl ?_
    refine lv_astore (lv' := [(4, .ref q9), (0, .ref (a 0)), (1, .int (iI (x))), (2, .int (iI (y))), (3, .ref o)]) hx hb d_L_wind_13 hl (by decide) rfl (fun ls hl => ?_)
    refine lv_iconst (v := iI (1)) hx hb d_L_wind_15 rfl ?_
    refine W.widen (k := 1) (n := 6) (by decide) (by decide) ?_
    exact W.iret (v := iI (1)) hx hb hr (fun t8 ht8 hW8 => ⟨⟨iI (1), ((nf, ns, da, be, ui, ul, cn, ss, mf, sd, pr), g), rfl, Or.inl ⟨rfl, hlg, rfl⟩, by rw [ht8]; exact hP, hD⟩, hS.F ht8⟩) hS.2.2 d_L_wind_16
  · obtain ⟨hP1, hD1⟩ := hB
    rw [ht9] at hP1
    obtain ⟨hP, hD⟩ := vj_app hP hD hk (fun q h => pr_all hDc va_S.rf hA q h) hP1 hD1
    refine lv_i2l (v := r9.toInt64) hx hb d_L_wind_8 rfl ?_
    refine pr_lxe (B := r9.toInt64.toInt) (lI_toInt _) ?_
    refine pr_last (ws' := cw a cI cL cD cS (nw nf 0 (pu (nf 0) (((x) + 4)) (y))) (nw ns 3 ((ns 3) + (1))) da be ui ul cn ss mf sd pr ++ vo cL o (pu g 0 (r9.toInt64.toInt))) hx hb hK hP hD hS 54 1 rfl rfl (by decide) (by decide) (by decide) rfl d_L_wind_9 (fun H locs hP hD hS => ?_)
    refine lv_goto (tgt := 17) hx hb d_L_wind_10 (by decide) ?_
    refine lv_iconst (v := iI (0)) hx hb d_L_wind_17 rfl ?_
    refine W.widen (k := 1) (n := 6) (by decide) (by decide) ?_
    exact W.iret (v := iI (0)) hx hb hr (fun t8 ht8 hW8 => ⟨⟨iI (0), (((nw nf 0 (pu (nf 0) (((x) + 4)) (y))), (nw ns 3 ((ns 3) + (1))), da, be, ui, ul, cn, ss, mf, sd, pr), pu g 0 (r9.toInt64.toInt)), rfl, Or.inr (⟨rfl, r9, u9, hw, rfl, by show lI (pu g 0 _ 0) = _; rw [pu_s]; exact (lI_toInt _).symm⟩), by rw [ht8]; exact hP, hD⟩, hS.F ht8⟩) hS.2.2 d_L_wind_18
theorem m_344 : (Cond.codeWith y_L_warmth b_L_warmth 5 (some .int) [(0, 10, 13, 13)]) ∈ pn_W := pn_mem 344 (by decide +kernel) (by decide +kernel)
abbrev w_L_warmth : List Cond := .codeWith y_L_warmth b_L_warmth 5 (some .int) [(0, 10, 13, 13)] :: pn_W
set_option maxHeartbeats 4000000 in
set_option maxRecDepth 100000 in
theorem c_L_warmth (l : Launch) (hst : l.stackTraces = false) {D : va_G} {a : Nat → Nat} {cI cL cD cS : ClassId} {nf : Nat → Int → Int} {ns : Nat → Int} {da : Int → Int → Int} {be : Int → Int} {ui ul : Nat → Int → Int} {cn : Int} {ss : Nat → Nat} {mf sd : Nat → Int} {pr : Nat → Int → Int} (sz o : Nat) (g : Int → Int) (x y : Int) (hOk : pn_Ok nf ns da) (gx : i3 x) (gy : i3 y) : Met l y_L_warmth w_L_warmth ({ frames := 8, cells := 1, slots := 6, locals := 132 }) (va_Pc [.ref (a 0), .int (iI (x)), .int (iI (y)), .ref o] (fun U => U.heap.size = sz ∧ va_P D pn_cl (cw a cI cL cD cS nf ns da be ui ul cn ss mf sd pr ++ vo cL o g) U.heap ∧ va_D (fun _ => True) (cw a cI cL cD cS nf ns da be ui ul cn ss mf sd pr ++ vo cL o g) ∧ pn_E D cI cL cD cS U ∧ pn_X (va_A (cw a cI cL cD cS nf ns da be ui ul cn ss mf sd pr ++ vo cL o g) sz) U ∧ pn_Nc U)) (va_Qi (fun (r : Int32) (w : vS × (Int → Int)) => (r = iI 1 ∧ ¬ ((-4 ≤ x ∧ x ≤ ns 0 - 1) ∧ (-1000 ≤ y ∧ y ≤ 1000)) ∧ w.1 = (nf, ns, da, be, ui, ul, cn, ss, mf, sd, pr)) ∨ (r = iI 0 ∧ ∃ (r32 : Int32) (u : Unit), (fun (r : Int32) (_ : Unit) => ((-4 ≤ x ∧ x ≤ ns 0 - 1) ∧ (-1000 ≤ y ∧ y ≤ 1000)) ∧ r = iI (nf 1 ((x) + 4))) r32 u ∧ w.1 = ((m_nw nf (m_wa ((x) + 4) (y) (nf 1)) (m_stk nf (m_wa ((x) + 4) (y) (nf 1)) (ns 1))), (nw ns 3 (ns 3 + 1)), da, be, ui, ul, cn, ss, mf, sd, pr) ∧ lI (w.2 0) = r32.toInt64)) (fun u t => va_P D pn_cl ((fun w : vS × (Int → Int) => cwv a cI cL cD cS w.1 ++ vo cL o w.2) u) t.heap ∧ va_D (va_A (cw a cI cL cD cS nf ns da be ui ul cn ss mf sd pr ++ vo cL o g) sz) ((fun w : vS × (Int → Int) => cwv a cI cL cD cS w.1 ++ vo cL o w.2) u)) (va_A (cw a cI cL cD cS nf ns da be ui ul cn ss mf sd pr ++ vo cL o g) sz)) 1 6 (va_A (cw a cI cL cD cS nf ns da be ui ul cn ss mf sd pr ++ vo cL o g) sz) := by
  refine vl_ofWH (cc := b_L_warmth) (maxL := 5) (ret := some .int) (hh := [(0, 10, 13, 13)]) (by decide) rfl ?_
  intro p e s m args below meth c s₁ B hml hv
  obtain ⟨rfl, hsz, hP, hD0, hE, hX, hNc⟩ := hv
  have hx := B.exec
  have hb := B.bytes
  have hr := B.returns
  have hts := atoms_spec (ws := w_L_warmth) B.pre
  have ht : ∀ w ∈ pn_W, w.before _ s = true := fun w h => hts w (List.mem_cons_of_mem _ h)
  have hown : s.vm.findClass RL = some m.cls := findClass_of_methodNamed B.named
  have hlocks := B.notSynchronized
  have hK := hE.1
  have htab := vx_table (x := y_P_init) B (hts _ List.mem_cons_self)
  subst hsz
  have hD := hD0.self (sz := s.heap.size)
  generalize hAe : va_A (cw a cI cL cD cS nf ns da be ui ul cn ss mf sd pr ++ vo cL o g) s.heap.size = A at hD hX ⊢
  have hA : ∀ q : Nat, s.heap.size ≤ q → A q := fun q h => by rw [← hAe]; exact Or.inr h
  have hS : va_S A s.heap s.heap [] := va_S.rf
  have hl := lv_entry ([.ref (a 0), .int (iI (x)), .int (iI (y)), .ref o]) (n := 5) (Nat.le_of_ble_eq_true rfl)
  rw [lg_entry_eq]
  generalize (lg_sl ([.ref (a 0), .int (iI (x)), .int (iI (y)), .ref o]) ++ List.replicate (5 - (lg_sl ([.ref (a 0), .int (iI (x)), .int (iI (y)), .ref o])).length) Slot.unset).toArray = ls at hl ⊢
  have hl : lv_has ls 5 [(0, .ref (a 0)), (1, .int (iI (x))), (2, .int (iI (y))), (3, .ref o)] := hl
  refine lv_aload_n hx hb d_L_warmth_0 rfl (lv_at hl 3 rfl) ?_
  refine lv_iconst (v := iI (0)) hx hb d_L_warmth_1 rfl ?_
  refine lv_aload_n hx hb d_L_warmth_2 rfl (lv_at hl 0 rfl) ?_
  refine lv_iload_n hx hb d_L_warmth_3 rfl (lv_at hl 1 rfl) ?_
  refine lv_iload_n hx hb d_L_warmth_4 rfl (lv_at hl 2 rfl) ?_
  have hPc := vj_PL hP
  have hDc := vj_DL hD
  refine vx_calli (vx_runV (As := [.int (iI (x)), .int (iI (y))]) (rest := [.int (iI (0)), .ref o]) ⟨hx, hb, hml, hown, hts⟩ (c_P_warmth l hst s.heap.size x y hOk gx gy) (cwV 2 hts (pn_gV m_345 m_346 m_347 m_33 m_348) rfl rfl rfl (by decide +kernel) ⟨Nat.le_of_ble_eq_true rfl, Nat.le_of_ble_eq_true rfl⟩) (pn_preP (q0 := 0) (ci := 0) (q := (R_P, T_P, 6)) hPc hDc hE hX hS hA rfl rfl) rfl rfl hl.1 rfl (lv_room (Nat.le_of_ble_eq_true rfl)) d_L_warmth_5 ⟨Nat.le_of_ble_eq_true rfl, Nat.le_of_ble_eq_true rfl⟩) hS (fun q _ h => pr_all hDc hS hA q h) (fun q h => pr_all hDc hS hA q h) (fun q _ h => pr_all hDc hS hA q h) (fun E ce q9 u t9 H locs ht9 hvm _ hB hz hk hS hce hcv hcl => ?_) (fun r9 u9 t9 H locs ht9 hvm hw hB hz hk hS => ?_)
  · obtain ⟨hB, hP1⟩ := hB
    rw [ht9] at hP1
    obtain ⟨hP, hD⟩ := vj_app hP hD hk (fun q h => pr_all hDc va_S.rf hA q h) hP1 hDc.self
    obtain ⟨rfl, hlg⟩ := hB
    refine vx_catch hown [] (⟨0, 10, 13, 13⟩ : ExceptionTableEntry) [] htab (fun z hz => absurd hz (by simp)) (by decide) (by decide) (ht _ m_218) (va_Nw.use rfl hX.2.2.2.2.1) hce hcv hcl ?_
    refine lv_astore (lv' := [(4, .ref q9), (0, .ref (a 0)), (1, .int (iI (x))), (2, .int (iI (y))), (3, .ref o)]) hx hb d_L_warmth_13 hl (by decide) rfl (fun ls hl => ?_)
    refine lv_iconst (v := iI (1)) hx hb d_L_warmth_15 rfl ?_
    refine W.widen (k := 1) (n := 6) (by decide) (by decide) ?_
    exact W.iret (v := iI (1)) hx hb hr (fun t8 ht8 hW8 => ⟨⟨iI (1), ((nf, ns, da, be, ui, ul, cn, ss, mf, sd, pr), g), rfl, Or.inl ⟨rfl, hlg, rfl⟩, by rw [ht8]; exact hP, hD⟩, hS.F ht8⟩) hS.2.2 d_L_warmth_16
  · obtain ⟨hP1, hD1⟩ := hB
    rw [ht9] at hP1
    obtain ⟨hP, hD⟩ := vj_app hP hD hk (fun q h => pr_all hDc va_S.rf hA q h) hP1 hD1
    refine lv_i2l (v := r9.toInt64) hx hb d_L_warmth_8 rfl ?_
    refine pr_lxe (B := r9.toInt64.toInt) (lI_toInt _) ?_
    refine pr_last (ws' := cw a cI cL cD cS (m_nw nf (m_wa ((x) + 4) (y) (nf 1)) (m_stk nf (m_wa ((x) + 4) (y) (nf 1)) (ns 1))) (nw ns 3 (ns 3 + 1)) da be ui ul cn ss mf sd pr ++ vo cL o (pu g 0 (r9.toInt64.toInt))) hx hb hK hP hD hS 54 1 rfl rfl (by decide) (by decide) (by decide) rfl d_L_warmth_9 (fun H locs hP hD hS => ?_)
    refine lv_goto (tgt := 17) hx hb d_L_warmth_10 (by decide) ?_
    refine lv_iconst (v := iI (0)) hx hb d_L_warmth_17 rfl ?_
    refine W.widen (k := 1) (n := 6) (by decide) (by decide) ?_
    exact W.iret (v := iI (0)) hx hb hr (fun t8 ht8 hW8 => ⟨⟨iI (0), (((m_nw nf (m_wa ((x) + 4) (y) (nf 1)) (m_stk nf (m_wa ((x) + 4) (y) (nf 1)) (ns 1))), (nw ns 3 (ns 3 + 1)), da, be, ui, ul, cn, ss, mf, sd, pr), pu g 0 (r9.toInt64.toInt)), rfl, Or.inr (⟨rfl, r9, u9, hw, rfl, by show lI (pu g 0 _ 0) = _; rw [pu_s]; exact (lI_toInt _).symm⟩), by rw [ht8]; exact hP, hD⟩, hS.F ht8⟩) hS.2.2 d_L_warmth_18
theorem m_367 : (Cond.codeWith y_L_leak b_L_leak 8 (some .int) [(0, 16, 19, 13), (0, 16, 23, 15)]) ∈ pn_W := pn_mem 367 (by decide +kernel) (by decide +kernel)
abbrev w_L_leak : List Cond := .codeWith y_L_leak b_L_leak 8 (some .int) [(0, 16, 19, 13), (0, 16, 23, 15)] :: pn_W
set_option maxHeartbeats 4000000 in
set_option maxRecDepth 100000 in
theorem c_L_leak (l : Launch) (hst : l.stackTraces = false) {D : va_G} {a : Nat → Nat} {cI cL cD cS : ClassId} {nf : Nat → Int → Int} {ns : Nat → Int} {da : Int → Int → Int} {be : Int → Int} {ui ul : Nat → Int → Int} {cn : Int} {ss : Nat → Nat} {mf sd : Nat → Int} {pr : Nat → Int → Int} (sz o : Nat) (g : Int → Int) (x y z xa xb : Int) (hOk : pn_Ok nf ns da) (hdc : ∀ j, 0 ≤ j → j < 12 → nf 11 j ≤ ns 1 + ns 2) (gx : i3 x) (gy : i3 y) (gz : i3 z) (gxa : i3 xa) (gxb : i3 xb) : Met l y_L_leak w_L_leak ({ frames := 8, cells := 1, slots := 6, locals := 135 }) (va_Pc [.ref (a 0), .int (iI (x)), .int (iI (y)), .int (iI (z)), .int (iI (xa)), .int (iI (xb)), .ref o] (fun U => U.heap.size = sz ∧ va_P D pn_cl (cw a cI cL cD cS nf ns da be ui ul cn ss mf sd pr ++ vo cL o g) U.heap ∧ va_D (fun _ => True) (cw a cI cL cD cS nf ns da be ui ul cn ss mf sd pr ++ vo cL o g) ∧ pn_E D cI cL cD cS U ∧ pn_X (va_A (cw a cI cL cD cS nf ns da be ui ul cn ss mf sd pr ++ vo cL o g) sz) U ∧ pn_Nc U)) (va_Qi (fun (r : Int32) (w : vS × (Int → Int)) => (r = iI 1 ∧ ¬ (((-4 ≤ x ∧ x ≤ ns 0 - 1) ∧ (-4 ≤ y ∧ y ≤ ns 0 - 1) ∧ x ≠ y ∧ ¬ ((-4 ≤ x ∧ x ≤ -1) ∧ (-4 ≤ y ∧ y ≤ -1))) ∧ (0 ≤ z ∧ z ≤ 100) ∧ (1 ≤ xa ∧ xa ≤ 1000) ∧ (0 ≤ xb ∧ xb ≤ 1)) ∧ w.1 = (nf, ns, da, be, ui, ul, cn, ss, mf, sd, pr)) ∨ (r = iI 2 ∧ (((-4 ≤ x ∧ x ≤ ns 0 - 1) ∧ (-4 ≤ y ∧ y ≤ ns 0 - 1) ∧ x ≠ y ∧ ¬ ((-4 ≤ x ∧ x ≤ -1) ∧ (-4 ≤ y ∧ y ≤ -1))) ∧ (0 ≤ z ∧ z ≤ 100) ∧ (1 ≤ xa ∧ xa ≤ 1000) ∧ (0 ≤ xb ∧ xb ≤ 1)) ∧ (20 ≤ ns 1) ∧ w.1 = (nf, ns, da, be, ui, ul, cn, ss, mf, sd, pr)) ∨ (r = iI 0 ∧ ∃ (r32 : Int32) (nf' : Nat → Int → Int) (ns' : Nat → Int) (da' : Int → Int → Int), (fun (r : Int32) (_ : Unit) => (((-4 ≤ x ∧ x ≤ ns 0 - 1) ∧ (-4 ≤ y ∧ y ≤ ns 0 - 1) ∧ x ≠ y ∧ ¬ ((-4 ≤ x ∧ x ≤ -1) ∧ (-4 ≤ y ∧ y ≤ -1))) ∧ (0 ≤ z ∧ z ≤ 100) ∧ (1 ≤ xa ∧ xa ≤ 1000) ∧ (0 ≤ xb ∧ xb ≤ 1)) ∧ ¬ (20 ≤ ns 1) ∧ r = iI (ns 1)) r32 () ∧ v_lk nf ns da x y z xa xb nf' ns' da' ∧ w.1 = (nf', ns', da', be, ui, ul, cn, ss, mf, sd, pr) ∧ lI (w.2 0) = r32.toInt64)) (fun u t => va_P D pn_cl ((fun w : vS × (Int → Int) => cwv a cI cL cD cS w.1 ++ vo cL o w.2) u) t.heap ∧ va_D (va_A (cw a cI cL cD cS nf ns da be ui ul cn ss mf sd pr ++ vo cL o g) sz) ((fun w : vS × (Int → Int) => cwv a cI cL cD cS w.1 ++ vo cL o w.2) u)) (va_A (cw a cI cL cD cS nf ns da be ui ul cn ss mf sd pr ++ vo cL o g) sz)) 1 6 (va_A (cw a cI cL cD cS nf ns da be ui ul cn ss mf sd pr ++ vo cL o g) sz) := by
  refine vl_ofWH (cc := b_L_leak) (maxL := 8) (ret := some .int) (hh := [(0, 16, 19, 13), (0, 16, 23, 15)]) (by decide) rfl ?_
  intro p e s m args below meth c s₁ B hml hv
  obtain ⟨rfl, hsz, hP, hD0, hE, hX, hNc⟩ := hv
  have hx := B.exec
  have hb := B.bytes
  have hr := B.returns
  have hts := atoms_spec (ws := w_L_leak) B.pre
  have ht : ∀ w ∈ pn_W, w.before _ s = true := fun w h => hts w (List.mem_cons_of_mem _ h)
  have hown : s.vm.findClass RL = some m.cls := findClass_of_methodNamed B.named
  have hlocks := B.notSynchronized
  have hK := hE.1
  have htab := vx_table (x := y_P_init) B (hts _ List.mem_cons_self)
  subst hsz
  have hD := hD0.self (sz := s.heap.size)
  generalize hAe : va_A (cw a cI cL cD cS nf ns da be ui ul cn ss mf sd pr ++ vo cL o g) s.heap.size = A at hD hX ⊢
  have hA : ∀ q : Nat, s.heap.size ≤ q → A q := fun q h => by rw [← hAe]; exact Or.inr h
  have hS : va_S A s.heap s.heap [] := va_S.rf
  have hl := lv_entry ([.ref (a 0), .int (iI (x)), .int (iI (y)), .int (iI (z)), .int (iI (xa)), .int (iI (xb)), .ref o]) (n := 8) (Nat.le_of_ble_eq_true rfl)
  rw [lg_entry_eq]
  generalize (lg_sl ([.ref (a 0), .int (iI (x)), .int (iI (y)), .int (iI (z)), .int (iI (xa)), .int (iI (xb)), .ref o]) ++ List.replicate (8 - (lg_sl ([.ref (a 0), .int (iI (x)), .int (iI (y)), .int (iI (z)), .int (iI (xa)), .int (iI (xb)), .ref o])).length) Slot.unset).toArray = ls at hl ⊢
  have hl : lv_has ls 8 [(0, .ref (a 0)), (1, .int (iI (x))), (2, .int (iI (y))), (3, .int (iI (z))), (4, .int (iI (xa))), (5, .int (iI (xb))), (6, .ref o)] := hl
  refine lv_aload hx hb d_L_leak_0 (lv_at hl 6 rfl) ?_
  refine lv_iconst (v := iI (0)) hx hb d_L_leak_2 rfl ?_
  refine lv_aload_n hx hb d_L_leak_3 rfl (lv_at hl 0 rfl) ?_
  refine lv_iload_n hx hb d_L_leak_4 rfl (lv_at hl 1 rfl) ?_
  refine lv_iload_n hx hb d_L_leak_5 rfl (lv_at hl 2 rfl) ?_
  refine lv_iload_n hx hb d_L_leak_6 rfl (lv_at hl 3 rfl) ?_
  refine lv_iload hx hb d_L_leak_7 (lv_at hl 4 rfl) ?_
  refine lv_iload hx hb d_L_leak_9 (lv_at hl 5 rfl) ?_
  have hPc := vj_PL hP
  have hDc := vj_DL hD
  refine vx_calli (vx_runV (As := [.int (iI (x)), .int (iI (y)), .int (iI (z)), .int (iI (xa)), .int (iI (xb))]) (rest := [.int (iI (0)), .ref o]) ⟨hx, hb, hml, hown, hts⟩ (c_P_leak l hst s.heap.size x y z xa xb hOk hdc gx gy gz gxa gxb) (cwV 5 hts (pn_gV m_368 m_369 m_370 m_33 m_371) rfl rfl rfl (by decide +kernel) ⟨Nat.le_of_ble_eq_true rfl, Nat.le_of_ble_eq_true rfl⟩) (pn_preP (q0 := 0) (ci := 0) (q := (R_P, T_P, 6)) hPc hDc hE hX hS hA rfl rfl) rfl rfl hl.1 rfl (lv_room (Nat.le_of_ble_eq_true rfl)) d_L_leak_11 ⟨Nat.le_of_ble_eq_true rfl, Nat.le_of_ble_eq_true rfl⟩) hS (fun q _ h => pr_all hDc hS hA q h) (fun q h => pr_all hDc hS hA q h) (fun q _ h => pr_all hDc hS hA q h) (fun E ce q9 u t9 H locs ht9 hvm _ hB hz hk hS hce hcv hcl => ?_) (fun r9 u9 t9 H locs ht9 hvm hw hB hz hk hS => ?_)
  · obtain ⟨hB, hP1⟩ := hB
    rw [ht9] at hP1
    obtain ⟨hP, hD⟩ := vj_app hP hD hk (fun q h => pr_all hDc va_S.rf hA q h) hP1 hDc.self
    rcases hB with hB | hB
    · obtain ⟨rfl, hlg⟩ := hB
      refine vx_catch hown [] (⟨0, 16, 19, 13⟩ : ExceptionTableEntry) [(⟨0, 16, 23, 15⟩ : ExceptionTableEntry)] htab (fun z hz => absurd hz (by simp)) (by decide) (by decide) (ht _ m_218) (va_Nw.use rfl hX.2.2.2.2.1) hce hcv hcl ?_
      refine lv_astore (lv' := [(7, .ref q9), (0, .ref (a 0)), (1, .int (iI (x))), (2, .int (iI (y))), (3, .int (iI (z))), (4, .int (iI (xa))), (5, .int (iI (xb))), (6, .ref o)]) hx hb d_L_leak_19 hl (by decide) rfl (fun ls hl => ?_)
      refine lv_iconst (v := iI (1)) hx hb d_L_leak_21 rfl ?_
      refine W.widen (k := 1) (n := 6) (by decide) (by decide) ?_
      exact W.iret (v := iI (1)) hx hb hr (fun t8 ht8 hW8 => ⟨⟨iI (1), ((nf, ns, da, be, ui, ul, cn, ss, mf, sd, pr), g), rfl, Or.inl ⟨rfl, hlg, rfl⟩, by rw [ht8]; exact hP, hD⟩, hS.F ht8⟩) hS.2.2 d_L_leak_22
    · obtain ⟨rfl, hlg, hfu⟩ := hB
      refine vx_catch hown [(⟨0, 16, 19, 13⟩ : ExceptionTableEntry)] (⟨0, 16, 23, 15⟩ : ExceptionTableEntry) [] htab (fun z hz => by cases List.mem_singleton.mp hz; exact Or.inr ⟨by decide, _, ht _ m_218, hNc⟩) (by decide) (by decide) (ht _ m_219) (va_Nw.use rfl hX.2.2.2.2.2.1) hce hcv hcl ?_
      refine lv_astore (lv' := [(7, .ref q9), (0, .ref (a 0)), (1, .int (iI (x))), (2, .int (iI (y))), (3, .int (iI (z))), (4, .int (iI (xa))), (5, .int (iI (xb))), (6, .ref o)]) hx hb d_L_leak_23 hl (by decide) rfl (fun ls hl => ?_)
      refine lv_iconst (v := iI (2)) hx hb d_L_leak_25 rfl ?_
      refine W.widen (k := 1) (n := 6) (by decide) (by decide) ?_
      exact W.iret (v := iI (2)) hx hb hr (fun t8 ht8 hW8 => ⟨⟨iI (2), ((nf, ns, da, be, ui, ul, cn, ss, mf, sd, pr), g), rfl, Or.inr (Or.inl ⟨rfl, hlg, hfu, rfl⟩), by rw [ht8]; exact hP, hD⟩, hS.F ht8⟩) hS.2.2 d_L_leak_26
  · obtain ⟨hP1, hD1⟩ := hB
    rw [ht9] at hP1
    have hw2 := hw
    try dsimp only at hw2
    try dsimp only at hP1 hD1
    have ex : (((x + 4).toNat : Nat) : Int) = x + 4 := Int.toNat_of_nonneg (by omega)
    have ey : (((y + 4).toNat : Nat) : Int) = y + 4 := Int.toNat_of_nonneg (by omega)
    rw [ex, ey] at hP1 hD1
    obtain ⟨nf', ns', da', hlk, hP1, hD1⟩ := vl_leak (nf := nf) (ns := ns) (da := da) (x := x) (y := y) (z := z) (xa := xa) (xb := xb) ⟨hP1, hD1⟩ (by
      refine ⟨⟨rfl, rfl, rfl, rfl⟩, ⟨rfl, rfl, rfl, rfl, rfl⟩, ⟨rfl, rfl, rfl, ?_⟩, ⟨rfl, rfl, rfl, rfl⟩⟩
      show pu (nf 8) (ns 1) ((pu (nf 5) (ns 1) z (ns 1) * (nf 1 (pu (nf 3) (ns 1) (x + 4) (ns 1)) - nf 1 (pu (nf 4) (ns 1) (y + 4) (ns 1)))).tdiv 100) = _
      rw [pu_s, pu_s, pu_s])
    obtain ⟨hP, hD⟩ := vj_app hP hD hk (fun q h => pr_all hDc va_S.rf hA q h) hP1 hD1
    refine lv_i2l (v := r9.toInt64) hx hb d_L_leak_14 rfl ?_
    refine pr_lxe (B := r9.toInt64.toInt) (lI_toInt _) ?_
    refine pr_last (ws' := cw a cI cL cD cS nf' ns' da' be ui ul cn ss mf sd pr ++ vo cL o (pu g 0 (r9.toInt64.toInt))) hx hb hK hP hD hS 54 1 rfl rfl (by decide) (by decide) (by decide) rfl d_L_leak_15 (fun H locs hP hD hS => ?_)
    refine lv_goto (tgt := 27) hx hb d_L_leak_16 (by decide) ?_
    refine lv_iconst (v := iI (0)) hx hb d_L_leak_27 rfl ?_
    refine W.widen (k := 1) (n := 6) (by decide) (by decide) ?_
    exact W.iret (v := iI (0)) hx hb hr (fun t8 ht8 hW8 => ⟨⟨iI (0), ((nf', ns', da', be, ui, ul, cn, ss, mf, sd, pr), pu g 0 (r9.toInt64.toInt)), rfl, Or.inr (Or.inr (⟨rfl, r9, nf', ns', da', hw, hlk, rfl, by show lI (pu g 0 _ 0) = _; rw [pu_s]; exact (lI_toInt _).symm⟩)), by rw [ht8]; exact hP, hD⟩, hS.F ht8⟩) hS.2.2 d_L_leak_28
theorem m_390 : (Cond.codeWith y_L_shut b_L_shut 5 (some .int) [(0, 17, 20, 13)]) ∈ pn_W := pn_mem 390 (by decide +kernel) (by decide +kernel)
abbrev w_L_shut : List Cond := .codeWith y_L_shut b_L_shut 5 (some .int) [(0, 17, 20, 13)] :: pn_W
set_option maxHeartbeats 4000000 in
set_option maxRecDepth 100000 in
theorem c_L_shut (l : Launch) (hst : l.stackTraces = false) {D : va_G} {a : Nat → Nat} {cI cL cD cS : ClassId} {nf : Nat → Int → Int} {ns : Nat → Int} {da : Int → Int → Int} {be : Int → Int} {ui ul : Nat → Int → Int} {cn : Int} {ss : Nat → Nat} {mf sd : Nat → Int} {pr : Nat → Int → Int} (sz o : Nat) (g : Int → Int) (x z : Int) (hOk : pn_Ok nf ns da) (hss : ss 0 < 2 ^ 20) (hz : z = 0 ∨ z = 1) (gx : i3 x) : Met l y_L_shut w_L_shut ({ frames := 8, cells := 1, slots := 6, locals := 134 }) (va_Pc [.ref (a 0), .int (iI (x)), .int (iI (z)), .ref o] (fun U => U.heap.size = sz ∧ va_P D pn_cl (cw a cI cL cD cS nf ns da be ui ul cn ss mf sd pr ++ vo cL o g) U.heap ∧ va_D (fun _ => True) (cw a cI cL cD cS nf ns da be ui ul cn ss mf sd pr ++ vo cL o g) ∧ pn_E D cI cL cD cS U ∧ pn_X (va_A (cw a cI cL cD cS nf ns da be ui ul cn ss mf sd pr ++ vo cL o g) sz) U ∧ pn_Nc U)) (va_Qi (fun (r : Int32) (w : vS × (Int → Int)) => (r = iI 1 ∧ ¬ (0 ≤ x ∧ x ≤ ns 1 - 1) ∧ w.1 = (nf, ns, da, be, ui, ul, cn, ss, mf, sd, pr)) ∨ (r = iI 0 ∧ ∃ (r32 : Int32) (u : Nat × Int), (fun (r : Int32) (u : Nat × Int) => (0 ≤ x ∧ x ≤ ns 1 - 1) ∧ r = iI (b2 ((ss 0).testBit x.toNat = true)) ∧ ((b2 ((ss 0).testBit x.toNat = true) = z ∧ u.1 = ss 0 ∧ u.2 = mf 0) ∨ (b2 ((ss 0).testBit x.toNat = true) ≠ z ∧ u.1 = ss 0 ^^^ 2 ^ x.toNat ∧ u.2 = -1))) r32 u ∧ w.1 = (nf, ns, da, be, ui, ul, cn, (nw ss 0 u.1), (nw mf 0 u.2), sd, pr) ∧ lI (w.2 0) = (if r32 = 0 then 0 else 1 : Int64))) (fun u t => va_P D pn_cl ((fun w : vS × (Int → Int) => cwv a cI cL cD cS w.1 ++ vo cL o w.2) u) t.heap ∧ va_D (va_A (cw a cI cL cD cS nf ns da be ui ul cn ss mf sd pr ++ vo cL o g) sz) ((fun w : vS × (Int → Int) => cwv a cI cL cD cS w.1 ++ vo cL o w.2) u)) (va_A (cw a cI cL cD cS nf ns da be ui ul cn ss mf sd pr ++ vo cL o g) sz)) 1 6 (va_A (cw a cI cL cD cS nf ns da be ui ul cn ss mf sd pr ++ vo cL o g) sz) := by
  refine vl_ofWH (cc := b_L_shut) (maxL := 5) (ret := some .int) (hh := [(0, 17, 20, 13)]) (by decide) rfl ?_
  intro p e s m args below meth c s₁ B hml hv
  obtain ⟨rfl, hsz, hP, hD0, hE, hX, hNc⟩ := hv
  have hx := B.exec
  have hb := B.bytes
  have hr := B.returns
  have hts := atoms_spec (ws := w_L_shut) B.pre
  have ht : ∀ w ∈ pn_W, w.before _ s = true := fun w h => hts w (List.mem_cons_of_mem _ h)
  have hown : s.vm.findClass RL = some m.cls := findClass_of_methodNamed B.named
  have hlocks := B.notSynchronized
  have hK := hE.1
  have htab := vx_table (x := y_P_init) B (hts _ List.mem_cons_self)
  subst hsz
  have hD := hD0.self (sz := s.heap.size)
  generalize hAe : va_A (cw a cI cL cD cS nf ns da be ui ul cn ss mf sd pr ++ vo cL o g) s.heap.size = A at hD hX ⊢
  have hA : ∀ q : Nat, s.heap.size ≤ q → A q := fun q h => by rw [← hAe]; exact Or.inr h
  have hS : va_S A s.heap s.heap [] := va_S.rf
  have hl := lv_entry ([.ref (a 0), .int (iI (x)), .int (iI (z)), .ref o]) (n := 5) (Nat.le_of_ble_eq_true rfl)
  rw [lg_entry_eq]
  generalize (lg_sl ([.ref (a 0), .int (iI (x)), .int (iI (z)), .ref o]) ++ List.replicate (5 - (lg_sl ([.ref (a 0), .int (iI (x)), .int (iI (z)), .ref o])).length) Slot.unset).toArray = ls at hl ⊢
  have hl : lv_has ls 5 [(0, .ref (a 0)), (1, .int (iI (x))), (2, .int (iI (z))), (3, .ref o)] := hl
  refine lv_aload_n hx hb d_L_shut_0 rfl (lv_at hl 3 rfl) ?_
  refine lv_iconst (v := iI (0)) hx hb d_L_shut_1 rfl ?_
  refine lv_aload_n hx hb d_L_shut_2 rfl (lv_at hl 0 rfl) ?_
  refine lv_iload_n hx hb d_L_shut_3 rfl (lv_at hl 1 rfl) ?_
  refine lv_iload_n hx hb d_L_shut_4 rfl (lv_at hl 2 rfl) ?_
  have hPc := vj_PL hP
  have hDc := vj_DL hD
  refine vx_calli (vx_runV (As := [.int (iI (x)), .int (iI (z))]) (rest := [.int (iI (0)), .ref o]) ⟨hx, hb, hml, hown, hts⟩ (c_P_shut l hst s.heap.size x z hOk hss hz gx) (cwV 2 hts (pn_gV m_391 m_392 m_393 m_33 m_394) rfl rfl rfl (by decide +kernel) ⟨Nat.le_of_ble_eq_true rfl, Nat.le_of_ble_eq_true rfl⟩) (pn_preP (q0 := 0) (ci := 0) (q := (R_P, T_P, 6)) hPc hDc hE hX hS hA rfl rfl) rfl rfl hl.1 rfl (lv_room (Nat.le_of_ble_eq_true rfl)) d_L_shut_5 ⟨Nat.le_of_ble_eq_true rfl, Nat.le_of_ble_eq_true rfl⟩) hS (fun q _ h => pr_all hDc hS hA q h) (fun q h => pr_all hDc hS hA q h) (fun q _ h => pr_all hDc hS hA q h) (fun E ce q9 u t9 H locs ht9 hvm _ hB hz hk hS hce hcv hcl => ?_) (fun r9 u9 t9 H locs ht9 hvm hw hB hz hk hS => ?_)
  · obtain ⟨hB, hP1⟩ := hB
    rw [ht9] at hP1
    obtain ⟨hP, hD⟩ := vj_app hP hD hk (fun q h => pr_all hDc va_S.rf hA q h) hP1 hDc.self
    obtain ⟨rfl, hlg⟩ := hB
    refine vx_catch hown [] (⟨0, 17, 20, 13⟩ : ExceptionTableEntry) [] htab (fun z hz => absurd hz (by simp)) (by decide) (by decide) (ht _ m_218) (va_Nw.use rfl hX.2.2.2.2.1) hce hcv hcl ?_
    refine lv_astore (lv' := [(4, .ref q9), (0, .ref (a 0)), (1, .int (iI (x))), (2, .int (iI (z))), (3, .ref o)]) hx hb d_L_shut_20 hl (by decide) rfl (fun ls hl => ?_)
    refine lv_iconst (v := iI (1)) hx hb d_L_shut_22 rfl ?_
    refine W.widen (k := 1) (n := 6) (by decide) (by decide) ?_
    exact W.iret (v := iI (1)) hx hb hr (fun t8 ht8 hW8 => ⟨⟨iI (1), ((nf, ns, da, be, ui, ul, cn, ss, mf, sd, pr), g), rfl, Or.inl ⟨rfl, hlg, rfl⟩, by rw [ht8]; exact hP, hD⟩, hS.F ht8⟩) hS.2.2 d_L_shut_23
  · obtain ⟨hP1, hD1⟩ := hB
    rw [ht9] at hP1
    obtain ⟨hP, hD⟩ := vj_app hP hD hk (fun q h => pr_all hDc va_S.rf hA q h) hP1 hD1
    refine lv_if_eq (tgt := 15) hx hb d_L_shut_8 (by decide) (fun c9 => ?_) (fun c9 => ?_)
    · skip
      refine lv_lconst (v := lI 0) hx hb d_L_shut_15 (by decide) ?_
      refine pr_lxe (B := 0) rfl ?_
      refine pr_last (ws' := cw a cI cL cD cS nf ns da be ui ul cn (nw ss 0 u9.1) (nw mf 0 u9.2) sd pr ++ vo cL o (pu g 0 (0))) hx hb hK hP hD hS 54 1 rfl rfl (by decide) (by decide) (by decide) rfl d_L_shut_16 (fun H locs hP hD hS => ?_)
      refine lv_goto (tgt := 24) hx hb d_L_shut_17 (by decide) ?_
      refine lv_iconst (v := iI (0)) hx hb d_L_shut_24 rfl ?_
      refine W.widen (k := 1) (n := 6) (by decide) (by decide) ?_
      exact W.iret (v := iI (0)) hx hb hr (fun t8 ht8 hW8 => ⟨⟨iI (0), ((nf, ns, da, be, ui, ul, cn, (nw ss 0 u9.1), (nw mf 0 u9.2), sd, pr), pu g 0 (0)), rfl, Or.inr (⟨rfl, r9, u9, hw, rfl, by show lI (pu g 0 _ 0) = _; rw [pu_s, if_pos c9]; rfl⟩), by rw [ht8]; exact hP, hD⟩, hS.F ht8⟩) hS.2.2 d_L_shut_25
    · skip
      refine lv_lconst (v := lI 1) hx hb d_L_shut_11 (by decide) ?_
      refine lv_goto (tgt := 16) hx hb d_L_shut_12 (by decide) ?_
      refine pr_lxe (B := 1) rfl ?_
      refine pr_last (ws' := cw a cI cL cD cS nf ns da be ui ul cn (nw ss 0 u9.1) (nw mf 0 u9.2) sd pr ++ vo cL o (pu g 0 (1))) hx hb hK hP hD hS 54 1 rfl rfl (by decide) (by decide) (by decide) rfl d_L_shut_16 (fun H locs hP hD hS => ?_)
      refine lv_goto (tgt := 24) hx hb d_L_shut_17 (by decide) ?_
      refine lv_iconst (v := iI (0)) hx hb d_L_shut_24 rfl ?_
      refine W.widen (k := 1) (n := 6) (by decide) (by decide) ?_
      exact W.iret (v := iI (0)) hx hb hr (fun t8 ht8 hW8 => ⟨⟨iI (0), ((nf, ns, da, be, ui, ul, cn, (nw ss 0 u9.1), (nw mf 0 u9.2), sd, pr), pu g 0 (1)), rfl, Or.inr (⟨rfl, r9, u9, hw, rfl, by show lI (pu g 0 _ 0) = _; rw [pu_s, if_neg c9]; rfl⟩), by rw [ht8]; exact hP, hD⟩, hS.F ht8⟩) hS.2.2 d_L_shut_25
theorem m_401 : (Cond.codeWith y_L_fan b_L_fan 7 (some .int) [(0, 14, 17, 13), (0, 14, 21, 15)]) ∈ pn_W := pn_mem 401 (by decide +kernel) (by decide +kernel)
abbrev w_L_fan : List Cond := .codeWith y_L_fan b_L_fan 7 (some .int) [(0, 14, 17, 13), (0, 14, 21, 15)] :: pn_W
set_option maxHeartbeats 4000000 in
set_option maxRecDepth 100000 in
theorem c_L_fan (l : Launch) (hst : l.stackTraces = false) {D : va_G} {a : Nat → Nat} {cI cL cD cS : ClassId} {nf : Nat → Int → Int} {ns : Nat → Int} {da : Int → Int → Int} {be : Int → Int} {ui ul : Nat → Int → Int} {cn : Int} {ss : Nat → Nat} {mf sd : Nat → Int} {pr : Nat → Int → Int} (sz o : Nat) (g : Int → Int) (x y z xa : Int) (hOk : pn_Ok nf ns da) (hdc : ∀ j, 0 ≤ j → j < 12 → nf 11 j ≤ ns 1 + ns 2) (gx : i3 x) (gy : i3 y) (gz : i3 z) (gxa : i3 xa) : Met l y_L_fan w_L_fan ({ frames := 8, cells := 1, slots := 6, locals := 134 }) (va_Pc [.ref (a 0), .int (iI (x)), .int (iI (y)), .int (iI (z)), .int (iI (xa)), .ref o] (fun U => U.heap.size = sz ∧ va_P D pn_cl (cw a cI cL cD cS nf ns da be ui ul cn ss mf sd pr ++ vo cL o g) U.heap ∧ va_D (fun _ => True) (cw a cI cL cD cS nf ns da be ui ul cn ss mf sd pr ++ vo cL o g) ∧ pn_E D cI cL cD cS U ∧ pn_X (va_A (cw a cI cL cD cS nf ns da be ui ul cn ss mf sd pr ++ vo cL o g) sz) U ∧ pn_Nc U)) (va_Qi (fun (r : Int32) (w : vS × (Int → Int)) => (r = iI 1 ∧ ¬ (((-4 ≤ x ∧ x ≤ ns 0 - 1) ∧ (-4 ≤ y ∧ y ≤ ns 0 - 1) ∧ x ≠ y ∧ ¬ ((-4 ≤ x ∧ x ≤ -1) ∧ (-4 ≤ y ∧ y ≤ -1))) ∧ (0 ≤ z ∧ z ≤ 10000) ∧ (0 ≤ xa ∧ xa ≤ 100)) ∧ w.1 = (nf, ns, da, be, ui, ul, cn, ss, mf, sd, pr)) ∨ (r = iI 2 ∧ (((-4 ≤ x ∧ x ≤ ns 0 - 1) ∧ (-4 ≤ y ∧ y ≤ ns 0 - 1) ∧ x ≠ y ∧ ¬ ((-4 ≤ x ∧ x ≤ -1) ∧ (-4 ≤ y ∧ y ≤ -1))) ∧ (0 ≤ z ∧ z ≤ 10000) ∧ (0 ≤ xa ∧ xa ≤ 100)) ∧ (4 ≤ ns 2) ∧ w.1 = (nf, ns, da, be, ui, ul, cn, ss, mf, sd, pr)) ∨ (r = iI 0 ∧ ∃ (r32 : Int32) (nf' : Nat → Int → Int) (ns' : Nat → Int) (da' : Int → Int → Int), (fun (r : Int32) (_ : Unit) => (((-4 ≤ x ∧ x ≤ ns 0 - 1) ∧ (-4 ≤ y ∧ y ≤ ns 0 - 1) ∧ x ≠ y ∧ ¬ ((-4 ≤ x ∧ x ≤ -1) ∧ (-4 ≤ y ∧ y ≤ -1))) ∧ (0 ≤ z ∧ z ≤ 10000) ∧ (0 ≤ xa ∧ xa ≤ 100)) ∧ ¬ (4 ≤ ns 2) ∧ r = iI (ns 2)) r32 () ∧ v_fn nf ns da x y z xa nf' ns' da' ∧ w.1 = (nf', ns', da', be, ui, ul, cn, ss, mf, sd, pr) ∧ lI (w.2 0) = r32.toInt64)) (fun u t => va_P D pn_cl ((fun w : vS × (Int → Int) => cwv a cI cL cD cS w.1 ++ vo cL o w.2) u) t.heap ∧ va_D (va_A (cw a cI cL cD cS nf ns da be ui ul cn ss mf sd pr ++ vo cL o g) sz) ((fun w : vS × (Int → Int) => cwv a cI cL cD cS w.1 ++ vo cL o w.2) u)) (va_A (cw a cI cL cD cS nf ns da be ui ul cn ss mf sd pr ++ vo cL o g) sz)) 1 6 (va_A (cw a cI cL cD cS nf ns da be ui ul cn ss mf sd pr ++ vo cL o g) sz) := by
  refine vl_ofWH (cc := b_L_fan) (maxL := 7) (ret := some .int) (hh := [(0, 14, 17, 13), (0, 14, 21, 15)]) (by decide) rfl ?_
  intro p e s m args below meth c s₁ B hml hv
  obtain ⟨rfl, hsz, hP, hD0, hE, hX, hNc⟩ := hv
  have hx := B.exec
  have hb := B.bytes
  have hr := B.returns
  have hts := atoms_spec (ws := w_L_fan) B.pre
  have ht : ∀ w ∈ pn_W, w.before _ s = true := fun w h => hts w (List.mem_cons_of_mem _ h)
  have hown : s.vm.findClass RL = some m.cls := findClass_of_methodNamed B.named
  have hlocks := B.notSynchronized
  have hK := hE.1
  have htab := vx_table (x := y_P_init) B (hts _ List.mem_cons_self)
  subst hsz
  have hD := hD0.self (sz := s.heap.size)
  generalize hAe : va_A (cw a cI cL cD cS nf ns da be ui ul cn ss mf sd pr ++ vo cL o g) s.heap.size = A at hD hX ⊢
  have hA : ∀ q : Nat, s.heap.size ≤ q → A q := fun q h => by rw [← hAe]; exact Or.inr h
  have hS : va_S A s.heap s.heap [] := va_S.rf
  have hl := lv_entry ([.ref (a 0), .int (iI (x)), .int (iI (y)), .int (iI (z)), .int (iI (xa)), .ref o]) (n := 7) (Nat.le_of_ble_eq_true rfl)
  rw [lg_entry_eq]
  generalize (lg_sl ([.ref (a 0), .int (iI (x)), .int (iI (y)), .int (iI (z)), .int (iI (xa)), .ref o]) ++ List.replicate (7 - (lg_sl ([.ref (a 0), .int (iI (x)), .int (iI (y)), .int (iI (z)), .int (iI (xa)), .ref o])).length) Slot.unset).toArray = ls at hl ⊢
  have hl : lv_has ls 7 [(0, .ref (a 0)), (1, .int (iI (x))), (2, .int (iI (y))), (3, .int (iI (z))), (4, .int (iI (xa))), (5, .ref o)] := hl
  refine lv_aload hx hb d_L_fan_0 (lv_at hl 5 rfl) ?_
  refine lv_iconst (v := iI (0)) hx hb d_L_fan_2 rfl ?_
  refine lv_aload_n hx hb d_L_fan_3 rfl (lv_at hl 0 rfl) ?_
  refine lv_iload_n hx hb d_L_fan_4 rfl (lv_at hl 1 rfl) ?_
  refine lv_iload_n hx hb d_L_fan_5 rfl (lv_at hl 2 rfl) ?_
  refine lv_iload_n hx hb d_L_fan_6 rfl (lv_at hl 3 rfl) ?_
  refine lv_iload hx hb d_L_fan_7 (lv_at hl 4 rfl) ?_
  have hPc := vj_PL hP
  have hDc := vj_DL hD
  refine vx_calli (vx_runV (As := [.int (iI (x)), .int (iI (y)), .int (iI (z)), .int (iI (xa))]) (rest := [.int (iI (0)), .ref o]) ⟨hx, hb, hml, hown, hts⟩ (c_P_fan l hst s.heap.size x y z xa hOk hdc gx gy gz gxa) (cwV 4 hts (pn_gV m_402 m_403 m_404 m_33 m_405) rfl rfl rfl (by decide +kernel) ⟨Nat.le_of_ble_eq_true rfl, Nat.le_of_ble_eq_true rfl⟩) (pn_preP (q0 := 0) (ci := 0) (q := (R_P, T_P, 6)) hPc hDc hE hX hS hA rfl rfl) rfl rfl hl.1 rfl (lv_room (Nat.le_of_ble_eq_true rfl)) d_L_fan_9 ⟨Nat.le_of_ble_eq_true rfl, Nat.le_of_ble_eq_true rfl⟩) hS (fun q _ h => pr_all hDc hS hA q h) (fun q h => pr_all hDc hS hA q h) (fun q _ h => pr_all hDc hS hA q h) (fun E ce q9 u t9 H locs ht9 hvm _ hB hz hk hS hce hcv hcl => ?_) (fun r9 u9 t9 H locs ht9 hvm hw hB hz hk hS => ?_)
  · obtain ⟨hB, hP1⟩ := hB
    rw [ht9] at hP1
    obtain ⟨hP, hD⟩ := vj_app hP hD hk (fun q h => pr_all hDc va_S.rf hA q h) hP1 hDc.self
    rcases hB with hB | hB
    · obtain ⟨rfl, hlg⟩ := hB
      refine vx_catch hown [] (⟨0, 14, 17, 13⟩ : ExceptionTableEntry) [(⟨0, 14, 21, 15⟩ : ExceptionTableEntry)] htab (fun z hz => absurd hz (by simp)) (by decide) (by decide) (ht _ m_218) (va_Nw.use rfl hX.2.2.2.2.1) hce hcv hcl ?_
      refine lv_astore (lv' := [(6, .ref q9), (0, .ref (a 0)), (1, .int (iI (x))), (2, .int (iI (y))), (3, .int (iI (z))), (4, .int (iI (xa))), (5, .ref o)]) hx hb d_L_fan_17 hl (by decide) rfl (fun ls hl => ?_)
      refine lv_iconst (v := iI (1)) hx hb d_L_fan_19 rfl ?_
      refine W.widen (k := 1) (n := 6) (by decide) (by decide) ?_
      exact W.iret (v := iI (1)) hx hb hr (fun t8 ht8 hW8 => ⟨⟨iI (1), ((nf, ns, da, be, ui, ul, cn, ss, mf, sd, pr), g), rfl, Or.inl ⟨rfl, hlg, rfl⟩, by rw [ht8]; exact hP, hD⟩, hS.F ht8⟩) hS.2.2 d_L_fan_20
    · obtain ⟨rfl, hlg, hfu⟩ := hB
      refine vx_catch hown [(⟨0, 14, 17, 13⟩ : ExceptionTableEntry)] (⟨0, 14, 21, 15⟩ : ExceptionTableEntry) [] htab (fun z hz => by cases List.mem_singleton.mp hz; exact Or.inr ⟨by decide, _, ht _ m_218, hNc⟩) (by decide) (by decide) (ht _ m_219) (va_Nw.use rfl hX.2.2.2.2.2.1) hce hcv hcl ?_
      refine lv_astore (lv' := [(6, .ref q9), (0, .ref (a 0)), (1, .int (iI (x))), (2, .int (iI (y))), (3, .int (iI (z))), (4, .int (iI (xa))), (5, .ref o)]) hx hb d_L_fan_21 hl (by decide) rfl (fun ls hl => ?_)
      refine lv_iconst (v := iI (2)) hx hb d_L_fan_23 rfl ?_
      refine W.widen (k := 1) (n := 6) (by decide) (by decide) ?_
      exact W.iret (v := iI (2)) hx hb hr (fun t8 ht8 hW8 => ⟨⟨iI (2), ((nf, ns, da, be, ui, ul, cn, ss, mf, sd, pr), g), rfl, Or.inr (Or.inl ⟨rfl, hlg, hfu, rfl⟩), by rw [ht8]; exact hP, hD⟩, hS.F ht8⟩) hS.2.2 d_L_fan_24
  · obtain ⟨hP1, hD1⟩ := hB
    rw [ht9] at hP1
    have hw2 := hw
    try dsimp only at hw2
    try dsimp only at hP1 hD1
    have ex : (((x + 4).toNat : Nat) : Int) = x + 4 := Int.toNat_of_nonneg (by omega)
    have ey : (((y + 4).toNat : Nat) : Int) = y + 4 := Int.toNat_of_nonneg (by omega)
    rw [ex, ey] at hP1 hD1
    obtain ⟨nf', ns', da', hlk, hP1, hD1⟩ := vl_fan (nf := nf) (ns := ns) (da := da) (x := x) (y := y) (z := z) (xa := xa) ⟨hP1, hD1⟩ (by
      refine ⟨⟨rfl, rfl, rfl, rfl⟩, ⟨rfl, rfl, rfl, rfl, rfl, rfl, rfl⟩, ⟨rfl, rfl⟩, ⟨rfl, rfl, rfl, rfl⟩⟩)
    obtain ⟨hP, hD⟩ := vj_app hP hD hk (fun q h => pr_all hDc va_S.rf hA q h) hP1 hD1
    refine lv_i2l (v := r9.toInt64) hx hb d_L_fan_12 rfl ?_
    refine pr_lxe (B := r9.toInt64.toInt) (lI_toInt _) ?_
    refine pr_last (ws' := cw a cI cL cD cS nf' ns' da' be ui ul cn ss mf sd pr ++ vo cL o (pu g 0 (r9.toInt64.toInt))) hx hb hK hP hD hS 54 1 rfl rfl (by decide) (by decide) (by decide) rfl d_L_fan_13 (fun H locs hP hD hS => ?_)
    refine lv_goto (tgt := 25) hx hb d_L_fan_14 (by decide) ?_
    refine lv_iconst (v := iI (0)) hx hb d_L_fan_25 rfl ?_
    refine W.widen (k := 1) (n := 6) (by decide) (by decide) ?_
    exact W.iret (v := iI (0)) hx hb hr (fun t8 ht8 hW8 => ⟨⟨iI (0), ((nf', ns', da', be, ui, ul, cn, ss, mf, sd, pr), pu g 0 (r9.toInt64.toInt)), rfl, Or.inr (Or.inr (⟨rfl, r9, nf', ns', da', hw, hlk, rfl, by show lI (pu g 0 _ 0) = _; rw [pu_s]; exact (lI_toInt _).symm⟩)), by rw [ht8]; exact hP, hD⟩, hS.F ht8⟩) hS.2.2 d_L_fan_26
theorem m_415 : (Cond.codeWith y_L_pressure b_L_pressure 4 (some .int) [(0, 9, 12, 13)]) ∈ pn_W := pn_mem 415 (by decide +kernel) (by decide +kernel)
abbrev w_L_pressure : List Cond := .codeWith y_L_pressure b_L_pressure 4 (some .int) [(0, 9, 12, 13)] :: pn_W
set_option maxHeartbeats 4000000 in
set_option maxRecDepth 100000 in
theorem c_L_pressure (l : Launch) (hst : l.stackTraces = false) {D : va_G} {a : Nat → Nat} {cI cL cD cS : ClassId} {nf : Nat → Int → Int} {ns : Nat → Int} {da : Int → Int → Int} {be : Int → Int} {ui ul : Nat → Int → Int} {cn : Int} {ss : Nat → Nat} {mf sd : Nat → Int} {pr : Nat → Int → Int} (sz o : Nat) (g : Int → Int) (x : Int) (hOk : pn_Ok nf ns da) (hM : pn_Mono (ns 0) (m_G nf da (ss 0))) (hss : ss 0 < 2 ^ 20) (hsd : sd 0 = 0 ∨ sd 0 = 1) (hmf : -1 ≤ mf 0 ∧ mf 0 ≤ 512) (hC : mf 0 = ns 3 → pn_P5 (pr 0) ∧ pn_Le (ns 0) (nf 0) (m_G nf da (ss 0)) (sd 0) (pr 0)) (gx : i3 x) : Met l y_L_pressure w_L_pressure ({ frames := 8, cells := 1, slots := 6, locals := 209 }) (va_Pc [.ref (a 0), .int (iI (x)), .ref o] (fun U => U.heap.size = sz ∧ va_P D pn_cl (cw a cI cL cD cS nf ns da be ui ul cn ss mf sd pr ++ vo cL o g) U.heap ∧ va_D (fun _ => True) (cw a cI cL cD cS nf ns da be ui ul cn ss mf sd pr ++ vo cL o g) ∧ pn_E D cI cL cD cS U ∧ pn_X (va_A (cw a cI cL cD cS nf ns da be ui ul cn ss mf sd pr ++ vo cL o g) sz) U ∧ pn_Nc U)) (va_Qi (fun (r : Int32) (w : vS × (Int → Int)) => (r = iI 1 ∧ ¬ (-4 ≤ x ∧ x ≤ ns 0 - 1) ∧ w.1 = (nf, ns, da, be, ui, ul, cn, ss, mf, sd, pr)) ∨ (r = iI 0 ∧ ∃ (r32 : Int32) (u : (Int → Int) × (Int → Int) × Int × Int), (fun (r : Int32) (u : (Int → Int) × (Int → Int) × Int × Int) => (-4 ≤ x ∧ x ≤ ns 0 - 1) ∧ ((x < 0 ∧ r = iI (nf 0 (x + 4)) ∧ u.1 = pr 0 ∧ u.2.2.1 = mf 0 ∧ u.2.2.2 = sd 0) ∨ (0 ≤ x ∧ u.2.2.1 = ns 3 ∧ pn_P5 u.1 ∧ pn_Le (ns 0) (nf 0) (m_G nf da (ss 0)) u.2.2.2 u.1 ∧ ((u.2.2.2 = 1 ∧ r = iI (u.1 (x + 4))) ∨ (u.2.2.2 = 0 ∧ r = iI (-1000000)))))) r32 u ∧ w.1 = (nf, ns, da, u.2.1, ui, ul, cn, ss, (nw mf 0 u.2.2.1), (nw sd 0 u.2.2.2), (nw pr 0 u.1)) ∧ lI (w.2 0) = r32.toInt64)) (fun u t => va_P D pn_cl ((fun w : vS × (Int → Int) => cwv a cI cL cD cS w.1 ++ vo cL o w.2) u) t.heap ∧ va_D (va_A (cw a cI cL cD cS nf ns da be ui ul cn ss mf sd pr ++ vo cL o g) sz) ((fun w : vS × (Int → Int) => cwv a cI cL cD cS w.1 ++ vo cL o w.2) u)) (va_A (cw a cI cL cD cS nf ns da be ui ul cn ss mf sd pr ++ vo cL o g) sz)) 1 6 (va_A (cw a cI cL cD cS nf ns da be ui ul cn ss mf sd pr ++ vo cL o g) sz) := by
  refine vl_ofWH (cc := b_L_pressure) (maxL := 4) (ret := some .int) (hh := [(0, 9, 12, 13)]) (by decide) rfl ?_
  intro p e s m args below meth c s₁ B hml hv
  obtain ⟨rfl, hsz, hP, hD0, hE, hX, hNc⟩ := hv
  have hx := B.exec
  have hb := B.bytes
  have hr := B.returns
  have hts := atoms_spec (ws := w_L_pressure) B.pre
  have ht : ∀ w ∈ pn_W, w.before _ s = true := fun w h => hts w (List.mem_cons_of_mem _ h)
  have hown : s.vm.findClass RL = some m.cls := findClass_of_methodNamed B.named
  have hlocks := B.notSynchronized
  have hK := hE.1
  have htab := vx_table (x := y_P_init) B (hts _ List.mem_cons_self)
  subst hsz
  have hD := hD0.self (sz := s.heap.size)
  generalize hAe : va_A (cw a cI cL cD cS nf ns da be ui ul cn ss mf sd pr ++ vo cL o g) s.heap.size = A at hD hX ⊢
  have hA : ∀ q : Nat, s.heap.size ≤ q → A q := fun q h => by rw [← hAe]; exact Or.inr h
  have hS : va_S A s.heap s.heap [] := va_S.rf
  have hl := lv_entry ([.ref (a 0), .int (iI (x)), .ref o]) (n := 4) (Nat.le_of_ble_eq_true rfl)
  rw [lg_entry_eq]
  generalize (lg_sl ([.ref (a 0), .int (iI (x)), .ref o]) ++ List.replicate (4 - (lg_sl ([.ref (a 0), .int (iI (x)), .ref o])).length) Slot.unset).toArray = ls at hl ⊢
  have hl : lv_has ls 4 [(0, .ref (a 0)), (1, .int (iI (x))), (2, .ref o)] := hl
  refine lv_aload_n hx hb d_L_pressure_0 rfl (lv_at hl 2 rfl) ?_
  refine lv_iconst (v := iI (0)) hx hb d_L_pressure_1 rfl ?_
  refine lv_aload_n hx hb d_L_pressure_2 rfl (lv_at hl 0 rfl) ?_
  refine lv_iload_n hx hb d_L_pressure_3 rfl (lv_at hl 1 rfl) ?_
  have hPc := vj_PL hP
  have hDc := vj_DL hD
  refine vx_calli (vx_runV (As := [.int (iI (x))]) (rest := [.int (iI (0)), .ref o]) ⟨hx, hb, hml, hown, hts⟩ (c_P_pressure l hst s.heap.size x hOk hM hss hsd hmf hC gx) (cwV 1 hts (pn_gV m_416 m_417 m_418 m_33 m_419) rfl rfl rfl (by decide +kernel) ⟨Nat.le_of_ble_eq_true rfl, Nat.le_of_ble_eq_true rfl⟩) (pn_preP (q0 := 0) (ci := 0) (q := (R_P, T_P, 6)) hPc hDc hE hX hS hA rfl rfl) rfl rfl hl.1 rfl (lv_room (Nat.le_of_ble_eq_true rfl)) d_L_pressure_4 ⟨Nat.le_of_ble_eq_true rfl, Nat.le_of_ble_eq_true rfl⟩) hS (fun q _ h => pr_all hDc hS hA q h) (fun q h => pr_all hDc hS hA q h) (fun q _ h => pr_all hDc hS hA q h) (fun E ce q9 u t9 H locs ht9 hvm _ hB hz hk hS hce hcv hcl => ?_) (fun r9 u9 t9 H locs ht9 hvm hw hB hz hk hS => ?_)
  · obtain ⟨hB, hP1⟩ := hB
    rw [ht9] at hP1
    obtain ⟨hP, hD⟩ := vj_app hP hD hk (fun q h => pr_all hDc va_S.rf hA q h) hP1 hDc.self
    obtain ⟨rfl, hlg⟩ := hB
    refine vx_catch hown [] (⟨0, 9, 12, 13⟩ : ExceptionTableEntry) [] htab (fun z hz => absurd hz (by simp)) (by decide) (by decide) (ht _ m_218) (va_Nw.use rfl hX.2.2.2.2.1) hce hcv hcl ?_
    refine lv_astore_n (lv' := [(3, .ref q9), (0, .ref (a 0)), (1, .int (iI (x))), (2, .ref o)]) hx hb d_L_pressure_12 rfl hl (by decide) rfl (fun ls hl => ?_)
    refine lv_iconst (v := iI (1)) hx hb d_L_pressure_13 rfl ?_
    refine W.widen (k := 1) (n := 6) (by decide) (by decide) ?_
    exact W.iret (v := iI (1)) hx hb hr (fun t8 ht8 hW8 => ⟨⟨iI (1), ((nf, ns, da, be, ui, ul, cn, ss, mf, sd, pr), g), rfl, Or.inl ⟨rfl, hlg, rfl⟩, by rw [ht8]; exact hP, hD⟩, hS.F ht8⟩) hS.2.2 d_L_pressure_14
  · obtain ⟨hP1, hD1⟩ := hB
    rw [ht9] at hP1
    obtain ⟨hP, hD⟩ := vj_app hP hD hk (fun q h => pr_all hDc va_S.rf hA q h) hP1 hD1
    refine lv_i2l (v := r9.toInt64) hx hb d_L_pressure_7 rfl ?_
    refine pr_lxe (B := r9.toInt64.toInt) (lI_toInt _) ?_
    refine pr_last (ws' := cw a cI cL cD cS nf ns da u9.2.1 ui ul cn ss (nw mf 0 u9.2.2.1) (nw sd 0 u9.2.2.2) (nw pr 0 u9.1) ++ vo cL o (pu g 0 (r9.toInt64.toInt))) hx hb hK hP hD hS 54 1 rfl rfl (by decide) (by decide) (by decide) rfl d_L_pressure_8 (fun H locs hP hD hS => ?_)
    refine lv_goto (tgt := 15) hx hb d_L_pressure_9 (by decide) ?_
    refine lv_iconst (v := iI (0)) hx hb d_L_pressure_15 rfl ?_
    refine W.widen (k := 1) (n := 6) (by decide) (by decide) ?_
    exact W.iret (v := iI (0)) hx hb hr (fun t8 ht8 hW8 => ⟨⟨iI (0), ((nf, ns, da, u9.2.1, ui, ul, cn, ss, (nw mf 0 u9.2.2.1), (nw sd 0 u9.2.2.2), (nw pr 0 u9.1)), pu g 0 (r9.toInt64.toInt)), rfl, Or.inr (⟨rfl, r9, u9, hw, rfl, by show lI (pu g 0 _ 0) = _; rw [pu_s]; exact (lI_toInt _).symm⟩), by rw [ht8]; exact hP, hD⟩, hS.F ht8⟩) hS.2.2 d_L_pressure_16
theorem m_478 : (Cond.codeWith y_L_told b_L_told 5 (some .int) [(0, 10, 13, 13)]) ∈ pn_W := pn_mem 478 (by decide +kernel) (by decide +kernel)
abbrev w_L_told : List Cond := .codeWith y_L_told b_L_told 5 (some .int) [(0, 10, 13, 13)] :: pn_W
set_option maxHeartbeats 4000000 in
set_option maxRecDepth 100000 in
theorem c_L_told (l : Launch) (hst : l.stackTraces = false) {D : va_G} {a : Nat → Nat} {cI cL cD cS : ClassId} {nf : Nat → Int → Int} {ns : Nat → Int} {da : Int → Int → Int} {be : Int → Int} {ui ul : Nat → Int → Int} {cn : Int} {ss : Nat → Nat} {mf sd : Nat → Int} {pr : Nat → Int → Int} (sz o : Nat) (g : Int → Int) (x y : Int) (hOk : pn_Ok nf ns da) (hM : pn_Mono (ns 0) (m_G nf da (ss 0))) (hss : ss 0 < 2 ^ 20) (hsd : sd 0 = 0 ∨ sd 0 = 1) (hmf : -1 ≤ mf 0 ∧ mf 0 ≤ 512) (hC : mf 0 = ns 3 → pn_P5 (pr 0) ∧ pn_Le (ns 0) (nf 0) (m_G nf da (ss 0)) (sd 0) (pr 0)) (gx : i3 x) (gy : i3 y) : Met l y_L_told w_L_told ({ frames := 8, cells := 1, slots := 6, locals := 210 }) (va_Pc [.ref (a 0), .int (iI (x)), .int (iI (y)), .ref o] (fun U => U.heap.size = sz ∧ va_P D pn_cl (cw a cI cL cD cS nf ns da be ui ul cn ss mf sd pr ++ vo cL o g) U.heap ∧ va_D (fun _ => True) (cw a cI cL cD cS nf ns da be ui ul cn ss mf sd pr ++ vo cL o g) ∧ pn_E D cI cL cD cS U ∧ pn_X (va_A (cw a cI cL cD cS nf ns da be ui ul cn ss mf sd pr ++ vo cL o g) sz) U ∧ pn_Nc U)) (va_Qi (fun (r : Int32) (w : vS × (Int → Int)) => (r = iI 1 ∧ ¬ ((0 ≤ x ∧ x ≤ ns 1 - 1) ∧ (0 ≤ y ∧ y ≤ 1)) ∧ w.1 = (nf, ns, da, be, ui, ul, cn, ss, mf, sd, pr)) ∨ (r = iI 0 ∧ ∃ (r32 : Int32) (u : (Int → Int) × (Int → Int) × Int), (fun (r : Int32) (u : (Int → Int) × (Int → Int) × Int) => ((0 ≤ x ∧ x ≤ ns 1 - 1) ∧ (0 ≤ y ∧ y ≤ 1)) ∧ pn_P5 u.1 ∧ pn_Le (ns 0) (nf 0) (m_G nf da (ss 0)) u.2.2 u.1 ∧ ((u.2.2 = 1 ∧ r = iI (if y = 0 then m_drive nf u.1 x else m_flow nf (ss 0) u.1 x)) ∨ (u.2.2 = 0 ∧ r = iI (-1000000)))) r32 u ∧ w.1 = (nf, ns, da, u.2.1, ui, ul, cn, ss, (nw mf 0 (ns 3)), (nw sd 0 u.2.2), (nw pr 0 u.1)) ∧ lI (w.2 0) = r32.toInt64)) (fun u t => va_P D pn_cl ((fun w : vS × (Int → Int) => cwv a cI cL cD cS w.1 ++ vo cL o w.2) u) t.heap ∧ va_D (va_A (cw a cI cL cD cS nf ns da be ui ul cn ss mf sd pr ++ vo cL o g) sz) ((fun w : vS × (Int → Int) => cwv a cI cL cD cS w.1 ++ vo cL o w.2) u)) (va_A (cw a cI cL cD cS nf ns da be ui ul cn ss mf sd pr ++ vo cL o g) sz)) 1 6 (va_A (cw a cI cL cD cS nf ns da be ui ul cn ss mf sd pr ++ vo cL o g) sz) := by
  refine vl_ofWH (cc := b_L_told) (maxL := 5) (ret := some .int) (hh := [(0, 10, 13, 13)]) (by decide) rfl ?_
  intro p e s m args below meth c s₁ B hml hv
  obtain ⟨rfl, hsz, hP, hD0, hE, hX, hNc⟩ := hv
  have hx := B.exec
  have hb := B.bytes
  have hr := B.returns
  have hts := atoms_spec (ws := w_L_told) B.pre
  have ht : ∀ w ∈ pn_W, w.before _ s = true := fun w h => hts w (List.mem_cons_of_mem _ h)
  have hown : s.vm.findClass RL = some m.cls := findClass_of_methodNamed B.named
  have hlocks := B.notSynchronized
  have hK := hE.1
  have htab := vx_table (x := y_P_init) B (hts _ List.mem_cons_self)
  subst hsz
  have hD := hD0.self (sz := s.heap.size)
  generalize hAe : va_A (cw a cI cL cD cS nf ns da be ui ul cn ss mf sd pr ++ vo cL o g) s.heap.size = A at hD hX ⊢
  have hA : ∀ q : Nat, s.heap.size ≤ q → A q := fun q h => by rw [← hAe]; exact Or.inr h
  have hS : va_S A s.heap s.heap [] := va_S.rf
  have hl := lv_entry ([.ref (a 0), .int (iI (x)), .int (iI (y)), .ref o]) (n := 5) (Nat.le_of_ble_eq_true rfl)
  rw [lg_entry_eq]
  generalize (lg_sl ([.ref (a 0), .int (iI (x)), .int (iI (y)), .ref o]) ++ List.replicate (5 - (lg_sl ([.ref (a 0), .int (iI (x)), .int (iI (y)), .ref o])).length) Slot.unset).toArray = ls at hl ⊢
  have hl : lv_has ls 5 [(0, .ref (a 0)), (1, .int (iI (x))), (2, .int (iI (y))), (3, .ref o)] := hl
  refine lv_aload_n hx hb d_L_told_0 rfl (lv_at hl 3 rfl) ?_
  refine lv_iconst (v := iI (0)) hx hb d_L_told_1 rfl ?_
  refine lv_aload_n hx hb d_L_told_2 rfl (lv_at hl 0 rfl) ?_
  refine lv_iload_n hx hb d_L_told_3 rfl (lv_at hl 1 rfl) ?_
  refine lv_iload_n hx hb d_L_told_4 rfl (lv_at hl 2 rfl) ?_
  have hPc := vj_PL hP
  have hDc := vj_DL hD
  refine vx_calli (vx_runV (As := [.int (iI (x)), .int (iI (y))]) (rest := [.int (iI (0)), .ref o]) ⟨hx, hb, hml, hown, hts⟩ (c_P_told l hst s.heap.size x y hOk hM hss hsd hmf hC gx gy) (cwV 2 hts (pn_gV m_479 m_480 m_481 m_33 m_482) rfl rfl rfl (by decide +kernel) ⟨Nat.le_of_ble_eq_true rfl, Nat.le_of_ble_eq_true rfl⟩) (pn_preP (q0 := 0) (ci := 0) (q := (R_P, T_P, 6)) hPc hDc hE hX hS hA rfl rfl) rfl rfl hl.1 rfl (lv_room (Nat.le_of_ble_eq_true rfl)) d_L_told_5 ⟨Nat.le_of_ble_eq_true rfl, Nat.le_of_ble_eq_true rfl⟩) hS (fun q _ h => pr_all hDc hS hA q h) (fun q h => pr_all hDc hS hA q h) (fun q _ h => pr_all hDc hS hA q h) (fun E ce q9 u t9 H locs ht9 hvm _ hB hz hk hS hce hcv hcl => ?_) (fun r9 u9 t9 H locs ht9 hvm hw hB hz hk hS => ?_)
  · obtain ⟨hB, hP1⟩ := hB
    rw [ht9] at hP1
    obtain ⟨hP, hD⟩ := vj_app hP hD hk (fun q h => pr_all hDc va_S.rf hA q h) hP1 hDc.self
    obtain ⟨rfl, hlg⟩ := hB
    refine vx_catch hown [] (⟨0, 10, 13, 13⟩ : ExceptionTableEntry) [] htab (fun z hz => absurd hz (by simp)) (by decide) (by decide) (ht _ m_218) (va_Nw.use rfl hX.2.2.2.2.1) hce hcv hcl ?_
    refine lv_astore (lv' := [(4, .ref q9), (0, .ref (a 0)), (1, .int (iI (x))), (2, .int (iI (y))), (3, .ref o)]) hx hb d_L_told_13 hl (by decide) rfl (fun ls hl => ?_)
    refine lv_iconst (v := iI (1)) hx hb d_L_told_15 rfl ?_
    refine W.widen (k := 1) (n := 6) (by decide) (by decide) ?_
    exact W.iret (v := iI (1)) hx hb hr (fun t8 ht8 hW8 => ⟨⟨iI (1), ((nf, ns, da, be, ui, ul, cn, ss, mf, sd, pr), g), rfl, Or.inl ⟨rfl, hlg, rfl⟩, by rw [ht8]; exact hP, hD⟩, hS.F ht8⟩) hS.2.2 d_L_told_16
  · obtain ⟨hP1, hD1⟩ := hB
    rw [ht9] at hP1
    obtain ⟨hP, hD⟩ := vj_app hP hD hk (fun q h => pr_all hDc va_S.rf hA q h) hP1 hD1
    refine lv_i2l (v := r9.toInt64) hx hb d_L_told_8 rfl ?_
    refine pr_lxe (B := r9.toInt64.toInt) (lI_toInt _) ?_
    refine pr_last (ws' := cw a cI cL cD cS nf ns da u9.2.1 ui ul cn ss (nw mf 0 (ns 3)) (nw sd 0 u9.2.2) (nw pr 0 u9.1) ++ vo cL o (pu g 0 (r9.toInt64.toInt))) hx hb hK hP hD hS 54 1 rfl rfl (by decide) (by decide) (by decide) rfl d_L_told_9 (fun H locs hP hD hS => ?_)
    refine lv_goto (tgt := 17) hx hb d_L_told_10 (by decide) ?_
    refine lv_iconst (v := iI (0)) hx hb d_L_told_17 rfl ?_
    refine W.widen (k := 1) (n := 6) (by decide) (by decide) ?_
    exact W.iret (v := iI (0)) hx hb hr (fun t8 ht8 hW8 => ⟨⟨iI (0), ((nf, ns, da, u9.2.1, ui, ul, cn, ss, (nw mf 0 (ns 3)), (nw sd 0 u9.2.2), (nw pr 0 u9.1)), pu g 0 (r9.toInt64.toInt)), rfl, Or.inr (⟨rfl, r9, u9, hw, rfl, by show lI (pu g 0 _ 0) = _; rw [pu_s]; exact (lI_toInt _).symm⟩), by rw [ht8]; exact hP, hD⟩, hS.F ht8⟩) hS.2.2 d_L_told_18
theorem m_487 : (Cond.codeWith y_L_blows b_L_blows 4 (some .int) [(0, 9, 12, 13)]) ∈ pn_W := pn_mem 487 (by decide +kernel) (by decide +kernel)
abbrev w_L_blows : List Cond := .codeWith y_L_blows b_L_blows 4 (some .int) [(0, 9, 12, 13)] :: pn_W
set_option maxHeartbeats 4000000 in
set_option maxRecDepth 100000 in
theorem c_L_blows (l : Launch) (hst : l.stackTraces = false) {D : va_G} {a : Nat → Nat} {cI cL cD cS : ClassId} {nf : Nat → Int → Int} {ns : Nat → Int} {da : Int → Int → Int} {be : Int → Int} {ui ul : Nat → Int → Int} {cn : Int} {ss : Nat → Nat} {mf sd : Nat → Int} {pr : Nat → Int → Int} (sz o : Nat) (g : Int → Int) (x : Int) (hOk : pn_Ok nf ns da) (hM : pn_Mono (ns 0) (m_G nf da (ss 0))) (hss : ss 0 < 2 ^ 20) (hsd : sd 0 = 0 ∨ sd 0 = 1) (hmf : -1 ≤ mf 0 ∧ mf 0 ≤ 512) (hC : mf 0 = ns 3 → pn_P5 (pr 0) ∧ pn_Le (ns 0) (nf 0) (m_G nf da (ss 0)) (sd 0) (pr 0)) (gx : i3 x) : Met l y_L_blows w_L_blows ({ frames := 8, cells := 1, slots := 6, locals := 209 }) (va_Pc [.ref (a 0), .int (iI (x)), .ref o] (fun U => U.heap.size = sz ∧ va_P D pn_cl (cw a cI cL cD cS nf ns da be ui ul cn ss mf sd pr ++ vo cL o g) U.heap ∧ va_D (fun _ => True) (cw a cI cL cD cS nf ns da be ui ul cn ss mf sd pr ++ vo cL o g) ∧ pn_E D cI cL cD cS U ∧ pn_X (va_A (cw a cI cL cD cS nf ns da be ui ul cn ss mf sd pr ++ vo cL o g) sz) U ∧ pn_Nc U)) (va_Qi (fun (r : Int32) (w : vS × (Int → Int)) => (r = iI 1 ∧ ¬ (0 ≤ x ∧ x ≤ ns 2 - 1) ∧ w.1 = (nf, ns, da, be, ui, ul, cn, ss, mf, sd, pr)) ∨ (r = iI 0 ∧ ∃ (r32 : Int32) (u : (Int → Int) × (Int → Int) × Int), (fun (r : Int32) (u : (Int → Int) × (Int → Int) × Int) => (0 ≤ x ∧ x ≤ ns 2 - 1) ∧ pn_P5 u.1 ∧ pn_Le (ns 0) (nf 0) (m_G nf da (ss 0)) u.2.2 u.1 ∧ ((u.2.2 = 1 ∧ r = iI (m_flow nf (ss 0) u.1 (20 + x))) ∨ (u.2.2 = 0 ∧ r = iI (-1000000)))) r32 u ∧ w.1 = (nf, ns, da, u.2.1, ui, ul, cn, ss, (nw mf 0 (ns 3)), (nw sd 0 u.2.2), (nw pr 0 u.1)) ∧ lI (w.2 0) = r32.toInt64)) (fun u t => va_P D pn_cl ((fun w : vS × (Int → Int) => cwv a cI cL cD cS w.1 ++ vo cL o w.2) u) t.heap ∧ va_D (va_A (cw a cI cL cD cS nf ns da be ui ul cn ss mf sd pr ++ vo cL o g) sz) ((fun w : vS × (Int → Int) => cwv a cI cL cD cS w.1 ++ vo cL o w.2) u)) (va_A (cw a cI cL cD cS nf ns da be ui ul cn ss mf sd pr ++ vo cL o g) sz)) 1 6 (va_A (cw a cI cL cD cS nf ns da be ui ul cn ss mf sd pr ++ vo cL o g) sz) := by
  refine vl_ofWH (cc := b_L_blows) (maxL := 4) (ret := some .int) (hh := [(0, 9, 12, 13)]) (by decide) rfl ?_
  intro p e s m args below meth c s₁ B hml hv
  obtain ⟨rfl, hsz, hP, hD0, hE, hX, hNc⟩ := hv
  have hx := B.exec
  have hb := B.bytes
  have hr := B.returns
  have hts := atoms_spec (ws := w_L_blows) B.pre
  have ht : ∀ w ∈ pn_W, w.before _ s = true := fun w h => hts w (List.mem_cons_of_mem _ h)
  have hown : s.vm.findClass RL = some m.cls := findClass_of_methodNamed B.named
  have hlocks := B.notSynchronized
  have hK := hE.1
  have htab := vx_table (x := y_P_init) B (hts _ List.mem_cons_self)
  subst hsz
  have hD := hD0.self (sz := s.heap.size)
  generalize hAe : va_A (cw a cI cL cD cS nf ns da be ui ul cn ss mf sd pr ++ vo cL o g) s.heap.size = A at hD hX ⊢
  have hA : ∀ q : Nat, s.heap.size ≤ q → A q := fun q h => by rw [← hAe]; exact Or.inr h
  have hS : va_S A s.heap s.heap [] := va_S.rf
  have hl := lv_entry ([.ref (a 0), .int (iI (x)), .ref o]) (n := 4) (Nat.le_of_ble_eq_true rfl)
  rw [lg_entry_eq]
  generalize (lg_sl ([.ref (a 0), .int (iI (x)), .ref o]) ++ List.replicate (4 - (lg_sl ([.ref (a 0), .int (iI (x)), .ref o])).length) Slot.unset).toArray = ls at hl ⊢
  have hl : lv_has ls 4 [(0, .ref (a 0)), (1, .int (iI (x))), (2, .ref o)] := hl
  refine lv_aload_n hx hb d_L_blows_0 rfl (lv_at hl 2 rfl) ?_
  refine lv_iconst (v := iI (0)) hx hb d_L_blows_1 rfl ?_
  refine lv_aload_n hx hb d_L_blows_2 rfl (lv_at hl 0 rfl) ?_
  refine lv_iload_n hx hb d_L_blows_3 rfl (lv_at hl 1 rfl) ?_
  have hPc := vj_PL hP
  have hDc := vj_DL hD
  refine vx_calli (vx_runV (As := [.int (iI (x))]) (rest := [.int (iI (0)), .ref o]) ⟨hx, hb, hml, hown, hts⟩ (c_P_blows l hst s.heap.size x hOk hM hss hsd hmf hC gx) (cwV 1 hts (pn_gV m_488 m_489 m_490 m_33 m_491) rfl rfl rfl (by decide +kernel) ⟨Nat.le_of_ble_eq_true rfl, Nat.le_of_ble_eq_true rfl⟩) (pn_preP (q0 := 0) (ci := 0) (q := (R_P, T_P, 6)) hPc hDc hE hX hS hA rfl rfl) rfl rfl hl.1 rfl (lv_room (Nat.le_of_ble_eq_true rfl)) d_L_blows_4 ⟨Nat.le_of_ble_eq_true rfl, Nat.le_of_ble_eq_true rfl⟩) hS (fun q _ h => pr_all hDc hS hA q h) (fun q h => pr_all hDc hS hA q h) (fun q _ h => pr_all hDc hS hA q h) (fun E ce q9 u t9 H locs ht9 hvm _ hB hz hk hS hce hcv hcl => ?_) (fun r9 u9 t9 H locs ht9 hvm hw hB hz hk hS => ?_)
  · obtain ⟨hB, hP1⟩ := hB
    rw [ht9] at hP1
    obtain ⟨hP, hD⟩ := vj_app hP hD hk (fun q h => pr_all hDc va_S.rf hA q h) hP1 hDc.self
    obtain ⟨rfl, hlg⟩ := hB
    refine vx_catch hown [] (⟨0, 9, 12, 13⟩ : ExceptionTableEntry) [] htab (fun z hz => absurd hz (by simp)) (by decide) (by decide) (ht _ m_218) (va_Nw.use rfl hX.2.2.2.2.1) hce hcv hcl ?_
    refine lv_astore_n (lv' := [(3, .ref q9), (0, .ref (a 0)), (1, .int (iI (x))), (2, .ref o)]) hx hb d_L_blows_12 rfl hl (by decide) rfl (fun ls hl => ?_)
    refine lv_iconst (v := iI (1)) hx hb d_L_blows_13 rfl ?_
    refine W.widen (k := 1) (n := 6) (by decide) (by decide) ?_
    exact W.iret (v := iI (1)) hx hb hr (fun t8 ht8 hW8 => ⟨⟨iI (1), ((nf, ns, da, be, ui, ul, cn, ss, mf, sd, pr), g), rfl, Or.inl ⟨rfl, hlg, rfl⟩, by rw [ht8]; exact hP, hD⟩, hS.F ht8⟩) hS.2.2 d_L_blows_14
  · obtain ⟨hP1, hD1⟩ := hB
    rw [ht9] at hP1
    obtain ⟨hP, hD⟩ := vj_app hP hD hk (fun q h => pr_all hDc va_S.rf hA q h) hP1 hD1
    refine lv_i2l (v := r9.toInt64) hx hb d_L_blows_7 rfl ?_
    refine pr_lxe (B := r9.toInt64.toInt) (lI_toInt _) ?_
    refine pr_last (ws' := cw a cI cL cD cS nf ns da u9.2.1 ui ul cn ss (nw mf 0 (ns 3)) (nw sd 0 u9.2.2) (nw pr 0 u9.1) ++ vo cL o (pu g 0 (r9.toInt64.toInt))) hx hb hK hP hD hS 54 1 rfl rfl (by decide) (by decide) (by decide) rfl d_L_blows_8 (fun H locs hP hD hS => ?_)
    refine lv_goto (tgt := 15) hx hb d_L_blows_9 (by decide) ?_
    refine lv_iconst (v := iI (0)) hx hb d_L_blows_15 rfl ?_
    refine W.widen (k := 1) (n := 6) (by decide) (by decide) ?_
    exact W.iret (v := iI (0)) hx hb hr (fun t8 ht8 hW8 => ⟨⟨iI (0), ((nf, ns, da, u9.2.1, ui, ul, cn, ss, (nw mf 0 (ns 3)), (nw sd 0 u9.2.2), (nw pr 0 u9.1)), pu g 0 (r9.toInt64.toInt)), rfl, Or.inr (⟨rfl, r9, u9, hw, rfl, by show lI (pu g 0 _ 0) = _; rw [pu_s]; exact (lI_toInt _).symm⟩), by rw [ht8]; exact hP, hD⟩, hS.F ht8⟩) hS.2.2 d_L_blows_16
theorem m_495 : (Cond.codeWith y_L_gain b_L_gain 4 (some .int) [(0, 9, 12, 13)]) ∈ pn_W := pn_mem 495 (by decide +kernel) (by decide +kernel)
abbrev w_L_gain : List Cond := .codeWith y_L_gain b_L_gain 4 (some .int) [(0, 9, 12, 13)] :: pn_W
set_option maxHeartbeats 4000000 in
set_option maxRecDepth 100000 in
theorem c_L_gain (l : Launch) (hst : l.stackTraces = false) {D : va_G} {a : Nat → Nat} {cI cL cD cS : ClassId} {nf : Nat → Int → Int} {ns : Nat → Int} {da : Int → Int → Int} {be : Int → Int} {ui ul : Nat → Int → Int} {cn : Int} {ss : Nat → Nat} {mf sd : Nat → Int} {pr : Nat → Int → Int} (sz o : Nat) (g : Int → Int) (x : Int) (hOk : pn_Ok nf ns da) (hM : pn_Mono (ns 0) (m_G nf da (ss 0))) (hss : ss 0 < 2 ^ 20) (hsd : sd 0 = 0 ∨ sd 0 = 1) (hmf : -1 ≤ mf 0 ∧ mf 0 ≤ 512) (hC : mf 0 = ns 3 → pn_P5 (pr 0) ∧ pn_Le (ns 0) (nf 0) (m_G nf da (ss 0)) (sd 0) (pr 0)) (gx : i3 x) : Met l y_L_gain w_L_gain ({ frames := 8, cells := 1, slots := 6, locals := 209 }) (va_Pc [.ref (a 0), .int (iI (x)), .ref o] (fun U => U.heap.size = sz ∧ va_P D pn_cl (cw a cI cL cD cS nf ns da be ui ul cn ss mf sd pr ++ vo cL o g) U.heap ∧ va_D (fun _ => True) (cw a cI cL cD cS nf ns da be ui ul cn ss mf sd pr ++ vo cL o g) ∧ pn_E D cI cL cD cS U ∧ pn_X (va_A (cw a cI cL cD cS nf ns da be ui ul cn ss mf sd pr ++ vo cL o g) sz) U ∧ pn_Nc U)) (va_Qi (fun (r : Int32) (w : vS × (Int → Int)) => (r = iI 1 ∧ ¬ (0 ≤ x ∧ x ≤ ns 0 - 1) ∧ w.1 = (nf, ns, da, be, ui, ul, cn, ss, mf, sd, pr)) ∨ (r = iI 0 ∧ ∃ (r32 : Int32) (u : (Int → Int) × (Int → Int) × Int), (fun (r : Int32) (u : (Int → Int) × (Int → Int) × Int) => (0 ≤ x ∧ x ≤ ns 0 - 1) ∧ pn_P5 u.1 ∧ pn_Le (ns 0) (nf 0) (m_G nf da (ss 0)) u.2.2 u.1 ∧ ((u.2.2 = 1 ∧ r = iI (m_gain nf da (ss 0) u.1 (x + 4))) ∨ (u.2.2 = 0 ∧ r = iI (-1000000)))) r32 u ∧ w.1 = (nf, ns, da, u.2.1, ui, ul, cn, ss, (nw mf 0 (ns 3)), (nw sd 0 u.2.2), (nw pr 0 u.1)) ∧ lI (w.2 0) = r32.toInt64)) (fun u t => va_P D pn_cl ((fun w : vS × (Int → Int) => cwv a cI cL cD cS w.1 ++ vo cL o w.2) u) t.heap ∧ va_D (va_A (cw a cI cL cD cS nf ns da be ui ul cn ss mf sd pr ++ vo cL o g) sz) ((fun w : vS × (Int → Int) => cwv a cI cL cD cS w.1 ++ vo cL o w.2) u)) (va_A (cw a cI cL cD cS nf ns da be ui ul cn ss mf sd pr ++ vo cL o g) sz)) 1 6 (va_A (cw a cI cL cD cS nf ns da be ui ul cn ss mf sd pr ++ vo cL o g) sz) := by
  refine vl_ofWH (cc := b_L_gain) (maxL := 4) (ret := some .int) (hh := [(0, 9, 12, 13)]) (by decide) rfl ?_
  intro p e s m args below meth c s₁ B hml hv
  obtain ⟨rfl, hsz, hP, hD0, hE, hX, hNc⟩ := hv
  have hx := B.exec
  have hb := B.bytes
  have hr := B.returns
  have hts := atoms_spec (ws := w_L_gain) B.pre
  have ht : ∀ w ∈ pn_W, w.before _ s = true := fun w h => hts w (List.mem_cons_of_mem _ h)
  have hown : s.vm.findClass RL = some m.cls := findClass_of_methodNamed B.named
  have hlocks := B.notSynchronized
  have hK := hE.1
  have htab := vx_table (x := y_P_init) B (hts _ List.mem_cons_self)
  subst hsz
  have hD := hD0.self (sz := s.heap.size)
  generalize hAe : va_A (cw a cI cL cD cS nf ns da be ui ul cn ss mf sd pr ++ vo cL o g) s.heap.size = A at hD hX ⊢
  have hA : ∀ q : Nat, s.heap.size ≤ q → A q := fun q h => by rw [← hAe]; exact Or.inr h
  have hS : va_S A s.heap s.heap [] := va_S.rf
  have hl := lv_entry ([.ref (a 0), .int (iI (x)), .ref o]) (n := 4) (Nat.le_of_ble_eq_true rfl)
  rw [lg_entry_eq]
  generalize (lg_sl ([.ref (a 0), .int (iI (x)), .ref o]) ++ List.replicate (4 - (lg_sl ([.ref (a 0), .int (iI (x)), .ref o])).length) Slot.unset).toArray = ls at hl ⊢
  have hl : lv_has ls 4 [(0, .ref (a 0)), (1, .int (iI (x))), (2, .ref o)] := hl
  refine lv_aload_n hx hb d_L_gain_0 rfl (lv_at hl 2 rfl) ?_
  refine lv_iconst (v := iI (0)) hx hb d_L_gain_1 rfl ?_
  refine lv_aload_n hx hb d_L_gain_2 rfl (lv_at hl 0 rfl) ?_
  refine lv_iload_n hx hb d_L_gain_3 rfl (lv_at hl 1 rfl) ?_
  have hPc := vj_PL hP
  have hDc := vj_DL hD
  refine vx_calli (vx_runV (As := [.int (iI (x))]) (rest := [.int (iI (0)), .ref o]) ⟨hx, hb, hml, hown, hts⟩ (c_P_gain l hst s.heap.size x hOk hM hss hsd hmf hC gx) (cwV 1 hts (pn_gV m_496 m_497 m_498 m_33 m_499) rfl rfl rfl (by decide +kernel) ⟨Nat.le_of_ble_eq_true rfl, Nat.le_of_ble_eq_true rfl⟩) (pn_preP (q0 := 0) (ci := 0) (q := (R_P, T_P, 6)) hPc hDc hE hX hS hA rfl rfl) rfl rfl hl.1 rfl (lv_room (Nat.le_of_ble_eq_true rfl)) d_L_gain_4 ⟨Nat.le_of_ble_eq_true rfl, Nat.le_of_ble_eq_true rfl⟩) hS (fun q _ h => pr_all hDc hS hA q h) (fun q h => pr_all hDc hS hA q h) (fun q _ h => pr_all hDc hS hA q h) (fun E ce q9 u t9 H locs ht9 hvm _ hB hz hk hS hce hcv hcl => ?_) (fun r9 u9 t9 H locs ht9 hvm hw hB hz hk hS => ?_)
  · obtain ⟨hB, hP1⟩ := hB
    rw [ht9] at hP1
    obtain ⟨hP, hD⟩ := vj_app hP hD hk (fun q h => pr_all hDc va_S.rf hA q h) hP1 hDc.self
    obtain ⟨rfl, hlg⟩ := hB
    refine vx_catch hown [] (⟨0, 9, 12, 13⟩ : ExceptionTableEntry) [] htab (fun z hz => absurd hz (by simp)) (by decide) (by decide) (ht _ m_218) (va_Nw.use rfl hX.2.2.2.2.1) hce hcv hcl ?_
    refine lv_astore_n (lv' := [(3, .ref q9), (0, .ref (a 0)), (1, .int (iI (x))), (2, .ref o)]) hx hb d_L_gain_12 rfl hl (by decide) rfl (fun ls hl => ?_)
    refine lv_iconst (v := iI (1)) hx hb d_L_gain_13 rfl ?_
    refine W.widen (k := 1) (n := 6) (by decide) (by decide) ?_
    exact W.iret (v := iI (1)) hx hb hr (fun t8 ht8 hW8 => ⟨⟨iI (1), ((nf, ns, da, be, ui, ul, cn, ss, mf, sd, pr), g), rfl, Or.inl ⟨rfl, hlg, rfl⟩, by rw [ht8]; exact hP, hD⟩, hS.F ht8⟩) hS.2.2 d_L_gain_14
  · obtain ⟨hP1, hD1⟩ := hB
    rw [ht9] at hP1
    obtain ⟨hP, hD⟩ := vj_app hP hD hk (fun q h => pr_all hDc va_S.rf hA q h) hP1 hD1
    refine lv_i2l (v := r9.toInt64) hx hb d_L_gain_7 rfl ?_
    refine pr_lxe (B := r9.toInt64.toInt) (lI_toInt _) ?_
    refine pr_last (ws' := cw a cI cL cD cS nf ns da u9.2.1 ui ul cn ss (nw mf 0 (ns 3)) (nw sd 0 u9.2.2) (nw pr 0 u9.1) ++ vo cL o (pu g 0 (r9.toInt64.toInt))) hx hb hK hP hD hS 54 1 rfl rfl (by decide) (by decide) (by decide) rfl d_L_gain_8 (fun H locs hP hD hS => ?_)
    refine lv_goto (tgt := 15) hx hb d_L_gain_9 (by decide) ?_
    refine lv_iconst (v := iI (0)) hx hb d_L_gain_15 rfl ?_
    refine W.widen (k := 1) (n := 6) (by decide) (by decide) ?_
    exact W.iret (v := iI (0)) hx hb hr (fun t8 ht8 hW8 => ⟨⟨iI (0), ((nf, ns, da, u9.2.1, ui, ul, cn, ss, (nw mf 0 (ns 3)), (nw sd 0 u9.2.2), (nw pr 0 u9.1)), pu g 0 (r9.toInt64.toInt)), rfl, Or.inr (⟨rfl, r9, u9, hw, rfl, by show lI (pu g 0 _ 0) = _; rw [pu_s]; exact (lI_toInt _).symm⟩), by rw [ht8]; exact hP, hD⟩, hS.F ht8⟩) hS.2.2 d_L_gain_16
theorem m_503 : (Cond.codeWith y_L_caseOf b_L_caseOf 4 (some .int) [(0, 9, 12, 13), (0, 9, 15, 15)]) ∈ pn_W := pn_mem 503 (by decide +kernel) (by decide +kernel)
abbrev w_L_caseOf : List Cond := .codeWith y_L_caseOf b_L_caseOf 4 (some .int) [(0, 9, 12, 13), (0, 9, 15, 15)] :: pn_W
set_option maxHeartbeats 4000000 in
set_option maxRecDepth 100000 in
theorem c_L_caseOf (l : Launch) (hst : l.stackTraces = false) {D : va_G} {a : Nat → Nat} {cI cL cD cS : ClassId} {nf : Nat → Int → Int} {ns : Nat → Int} {da : Int → Int → Int} {be : Int → Int} {ui ul : Nat → Int → Int} {cn : Int} {ss : Nat → Nat} {mf sd : Nat → Int} {pr : Nat → Int → Int} (sz o : Nat) (g : Int → Int) (x : Int) (hOk : pn_Ok nf ns da) (hcn : 0 ≤ cn ∧ cn ≤ 8) (gx : i3 x) : Met l y_L_caseOf w_L_caseOf ({ frames := 8, cells := 1, slots := 6, locals := 132 }) (va_Pc [.ref (a 0), .int (iI (x)), .ref o] (fun U => U.heap.size = sz ∧ va_P D pn_cl (cw a cI cL cD cS nf ns da be ui ul cn ss mf sd pr ++ vo cL o g) U.heap ∧ va_D (fun _ => True) (cw a cI cL cD cS nf ns da be ui ul cn ss mf sd pr ++ vo cL o g) ∧ pn_E D cI cL cD cS U ∧ pn_X (va_A (cw a cI cL cD cS nf ns da be ui ul cn ss mf sd pr ++ vo cL o g) sz) U ∧ pn_Nc U)) (va_Qi (fun (r : Int32) (w : vS × (Int → Int)) => (r = iI 1 ∧ ¬ (0 ≤ x ∧ x < ((2 ^ (ns 1).toNat : Nat) : Int)) ∧ w.1 = (nf, ns, da, be, ui, ul, cn, ss, mf, sd, pr)) ∨ (r = iI 2 ∧ (0 ≤ x ∧ x < ((2 ^ (ns 1).toNat : Nat) : Int)) ∧ (8 ≤ cn) ∧ w.1 = (nf, ns, da, be, ui, ul, cn, ss, mf, sd, pr)) ∨ (r = iI 0 ∧ ∃ (r32 : Int32) (u : Unit), (fun (r : Int32) (_ : Unit) => (0 ≤ x ∧ x < ((2 ^ (ns 1).toNat : Nat) : Int)) ∧ ¬ (8 ≤ cn) ∧ r = iI (cn)) r32 u ∧ w.1 = (nf, ns, da, be, ui, ul, (cn + 1), (nw ss (cn.toNat + 1) ((x.toNat))), mf, sd, pr) ∧ lI (w.2 0) = r32.toInt64)) (fun u t => va_P D pn_cl ((fun w : vS × (Int → Int) => cwv a cI cL cD cS w.1 ++ vo cL o w.2) u) t.heap ∧ va_D (va_A (cw a cI cL cD cS nf ns da be ui ul cn ss mf sd pr ++ vo cL o g) sz) ((fun w : vS × (Int → Int) => cwv a cI cL cD cS w.1 ++ vo cL o w.2) u)) (va_A (cw a cI cL cD cS nf ns da be ui ul cn ss mf sd pr ++ vo cL o g) sz)) 1 6 (va_A (cw a cI cL cD cS nf ns da be ui ul cn ss mf sd pr ++ vo cL o g) sz) := by
  refine vl_ofWH (cc := b_L_caseOf) (maxL := 4) (ret := some .int) (hh := [(0, 9, 12, 13), (0, 9, 15, 15)]) (by decide) rfl ?_
  intro p e s m args below meth c s₁ B hml hv
  obtain ⟨rfl, hsz, hP, hD0, hE, hX, hNc⟩ := hv
  have hx := B.exec
  have hb := B.bytes
  have hr := B.returns
  have hts := atoms_spec (ws := w_L_caseOf) B.pre
  have ht : ∀ w ∈ pn_W, w.before _ s = true := fun w h => hts w (List.mem_cons_of_mem _ h)
  have hown : s.vm.findClass RL = some m.cls := findClass_of_methodNamed B.named
  have hlocks := B.notSynchronized
  have hK := hE.1
  have htab := vx_table (x := y_P_init) B (hts _ List.mem_cons_self)
  subst hsz
  have hD := hD0.self (sz := s.heap.size)
  generalize hAe : va_A (cw a cI cL cD cS nf ns da be ui ul cn ss mf sd pr ++ vo cL o g) s.heap.size = A at hD hX ⊢
  have hA : ∀ q : Nat, s.heap.size ≤ q → A q := fun q h => by rw [← hAe]; exact Or.inr h
  have hS : va_S A s.heap s.heap [] := va_S.rf
  have hl := lv_entry ([.ref (a 0), .int (iI (x)), .ref o]) (n := 4) (Nat.le_of_ble_eq_true rfl)
  rw [lg_entry_eq]
  generalize (lg_sl ([.ref (a 0), .int (iI (x)), .ref o]) ++ List.replicate (4 - (lg_sl ([.ref (a 0), .int (iI (x)), .ref o])).length) Slot.unset).toArray = ls at hl ⊢
  have hl : lv_has ls 4 [(0, .ref (a 0)), (1, .int (iI (x))), (2, .ref o)] := hl
  refine lv_aload_n hx hb d_L_caseOf_0 rfl (lv_at hl 2 rfl) ?_
  refine lv_iconst (v := iI (0)) hx hb d_L_caseOf_1 rfl ?_
  refine lv_aload_n hx hb d_L_caseOf_2 rfl (lv_at hl 0 rfl) ?_
  refine lv_iload_n hx hb d_L_caseOf_3 rfl (lv_at hl 1 rfl) ?_
  have hPc := vj_PL hP
  have hDc := vj_DL hD
  refine vx_calli (vx_runV (As := [.int (iI (x))]) (rest := [.int (iI (0)), .ref o]) ⟨hx, hb, hml, hown, hts⟩ (c_P_caseOf l hst s.heap.size x hOk hcn gx) (cwV 1 hts (pn_gV m_504 m_505 m_506 m_33 m_507) rfl rfl rfl (by decide +kernel) ⟨Nat.le_of_ble_eq_true rfl, Nat.le_of_ble_eq_true rfl⟩) (pn_preP (q0 := 0) (ci := 0) (q := (R_P, T_P, 6)) hPc hDc hE hX hS hA rfl rfl) rfl rfl hl.1 rfl (lv_room (Nat.le_of_ble_eq_true rfl)) d_L_caseOf_4 ⟨Nat.le_of_ble_eq_true rfl, Nat.le_of_ble_eq_true rfl⟩) hS (fun q _ h => pr_all hDc hS hA q h) (fun q h => pr_all hDc hS hA q h) (fun q _ h => pr_all hDc hS hA q h) (fun E ce q9 u t9 H locs ht9 hvm _ hB hz hk hS hce hcv hcl => ?_) (fun r9 u9 t9 H locs ht9 hvm hw hB hz hk hS => ?_)
  · obtain ⟨hB, hP1⟩ := hB
    rw [ht9] at hP1
    obtain ⟨hP, hD⟩ := vj_app hP hD hk (fun q h => pr_all hDc va_S.rf hA q h) hP1 hDc.self
    rcases hB with hB | hB
    · obtain ⟨rfl, hlg⟩ := hB
      refine vx_catch hown [] (⟨0, 9, 12, 13⟩ : ExceptionTableEntry) [(⟨0, 9, 15, 15⟩ : ExceptionTableEntry)] htab (fun z hz => absurd hz (by simp)) (by decide) (by decide) (ht _ m_218) (va_Nw.use rfl hX.2.2.2.2.1) hce hcv hcl ?_
      refine lv_astore_n (lv' := [(3, .ref q9), (0, .ref (a 0)), (1, .int (iI (x))), (2, .ref o)]) hx hb d_L_caseOf_12 rfl hl (by decide) rfl (fun ls hl => ?_)
      refine lv_iconst (v := iI (1)) hx hb d_L_caseOf_13 rfl ?_
      refine W.widen (k := 1) (n := 6) (by decide) (by decide) ?_
      exact W.iret (v := iI (1)) hx hb hr (fun t8 ht8 hW8 => ⟨⟨iI (1), ((nf, ns, da, be, ui, ul, cn, ss, mf, sd, pr), g), rfl, Or.inl ⟨rfl, hlg, rfl⟩, by rw [ht8]; exact hP, hD⟩, hS.F ht8⟩) hS.2.2 d_L_caseOf_14
    · obtain ⟨rfl, hlg, hfu⟩ := hB
      refine vx_catch hown [(⟨0, 9, 12, 13⟩ : ExceptionTableEntry)] (⟨0, 9, 15, 15⟩ : ExceptionTableEntry) [] htab (fun z hz => by cases List.mem_singleton.mp hz; exact Or.inr ⟨by decide, _, ht _ m_218, hNc⟩) (by decide) (by decide) (ht _ m_219) (va_Nw.use rfl hX.2.2.2.2.2.1) hce hcv hcl ?_
      refine lv_astore_n (lv' := [(3, .ref q9), (0, .ref (a 0)), (1, .int (iI (x))), (2, .ref o)]) hx hb d_L_caseOf_15 rfl hl (by decide) rfl (fun ls hl => ?_)
      refine lv_iconst (v := iI (2)) hx hb d_L_caseOf_16 rfl ?_
      refine W.widen (k := 1) (n := 6) (by decide) (by decide) ?_
      exact W.iret (v := iI (2)) hx hb hr (fun t8 ht8 hW8 => ⟨⟨iI (2), ((nf, ns, da, be, ui, ul, cn, ss, mf, sd, pr), g), rfl, Or.inr (Or.inl ⟨rfl, hlg, hfu, rfl⟩), by rw [ht8]; exact hP, hD⟩, hS.F ht8⟩) hS.2.2 d_L_caseOf_17
  · obtain ⟨hP1, hD1⟩ := hB
    rw [ht9] at hP1
    obtain ⟨hP, hD⟩ := vj_app hP hD hk (fun q h => pr_all hDc va_S.rf hA q h) hP1 hD1
    refine lv_i2l (v := r9.toInt64) hx hb d_L_caseOf_7 rfl ?_
    refine pr_lxe (B := r9.toInt64.toInt) (lI_toInt _) ?_
    refine pr_last (ws' := cw a cI cL cD cS nf ns da be ui ul (cn + 1) (nw ss (cn.toNat + 1) ((x.toNat))) mf sd pr ++ vo cL o (pu g 0 (r9.toInt64.toInt))) hx hb hK hP hD hS 54 1 rfl rfl (by decide) (by decide) (by decide) rfl d_L_caseOf_8 (fun H locs hP hD hS => ?_)
    refine lv_goto (tgt := 18) hx hb d_L_caseOf_9 (by decide) ?_
    refine lv_iconst (v := iI (0)) hx hb d_L_caseOf_18 rfl ?_
    refine W.widen (k := 1) (n := 6) (by decide) (by decide) ?_
    exact W.iret (v := iI (0)) hx hb hr (fun t8 ht8 hW8 => ⟨⟨iI (0), ((nf, ns, da, be, ui, ul, (cn + 1), (nw ss (cn.toNat + 1) ((x.toNat))), mf, sd, pr), pu g 0 (r9.toInt64.toInt)), rfl, Or.inr (Or.inr (⟨rfl, r9, u9, hw, rfl, by show lI (pu g 0 _ 0) = _; rw [pu_s]; exact (lI_toInt _).symm⟩)), by rw [ht8]; exact hP, hD⟩, hS.F ht8⟩) hS.2.2 d_L_caseOf_19
theorem m_510 : (Cond.codeWith y_L_worst b_L_worst 5 (some .int) [(0, 10, 13, 13)]) ∈ pn_W := pn_mem 510 (by decide +kernel) (by decide +kernel)
abbrev w_L_worst : List Cond := .codeWith y_L_worst b_L_worst 5 (some .int) [(0, 10, 13, 13)] :: pn_W
set_option maxHeartbeats 4000000 in
set_option maxRecDepth 100000 in
theorem c_L_worst (l : Launch) (hst : l.stackTraces = false) {D : va_G} {a : Nat → Nat} {cI cL cD cS : ClassId} {nf : Nat → Int → Int} {ns : Nat → Int} {da : Int → Int → Int} {be : Int → Int} {ui ul : Nat → Int → Int} {cn : Int} {ss : Nat → Nat} {mf sd : Nat → Int} {pr : Nat → Int → Int} (sz o : Nat) (g : Int → Int) (x y : Int) (hOk : pn_Ok nf ns da) (hMm : ∀ S : Nat, pn_Mono (ns 0) (m_G nf da S)) (hs9 : ∀ k, k < 9 → ss k < 2 ^ 20) (hcn : 0 ≤ cn ∧ cn ≤ 8) (hK9 : v_K nf ns da cn ss mf sd pr) (hW : pn_Rw nf ns) (gx : i3 x) (gy : i3 y) : Met l y_L_worst w_L_worst ({ frames := 8, cells := 1, slots := 6, locals := 216 }) (va_Pc [.ref (a 0), .int (iI (x)), .int (iI (y)), .ref o] (fun U => U.heap.size = sz ∧ va_P D pn_cl (cw a cI cL cD cS nf ns da be ui ul cn ss mf sd pr ++ vo cL o g) U.heap ∧ va_D (fun _ => True) (cw a cI cL cD cS nf ns da be ui ul cn ss mf sd pr ++ vo cL o g) ∧ pn_E D cI cL cD cS U ∧ pn_X (va_A (cw a cI cL cD cS nf ns da be ui ul cn ss mf sd pr ++ vo cL o g) sz) U ∧ pn_Nc U)) (va_Qi (fun (r : Int32) (w : vS × (Int → Int)) => (r = iI 1 ∧ ¬ ((0 ≤ x ∧ x ≤ ns 1 - 1) ∧ (0 ≤ y ∧ y ≤ 3)) ∧ w.1 = (nf, ns, da, be, ui, ul, cn, ss, mf, sd, pr)) ∨ (r = iI 0 ∧ ∃ (r32 : Int32) (u : (Int → Int) × (Nat → Int) × (Nat → Int) × (Nat → Int → Int)), (fun (r : Int32) (u : (Int → Int) × (Nat → Int) × (Nat → Int) × (Nat → Int → Int)) => ((0 ≤ x ∧ x ≤ ns 1 - 1) ∧ (0 ≤ y ∧ y ≤ 3)) ∧ v_K nf ns da cn ss u.2.1 u.2.2.1 u.2.2.2 ∧ (((∃ c : Nat, (c : Int) < cn ∧ ¬ m_has nf ns da (ss (c + 1))) ∧ r = iI (-1000000)) ∨ ((∀ c : Nat, (c : Int) < cn → m_has nf ns da (ss (c + 1))) ∧ r = iI (m_wv (m_dr nf ns da (fun c => ss (c + 1)) x) cn.toNat y)))) r32 u ∧ w.1 = (nf, ns, da, u.1, ui, ul, cn, ss, u.2.1, u.2.2.1, u.2.2.2) ∧ lI (w.2 0) = r32.toInt64)) (fun u t => va_P D pn_cl ((fun w : vS × (Int → Int) => cwv a cI cL cD cS w.1 ++ vo cL o w.2) u) t.heap ∧ va_D (va_A (cw a cI cL cD cS nf ns da be ui ul cn ss mf sd pr ++ vo cL o g) sz) ((fun w : vS × (Int → Int) => cwv a cI cL cD cS w.1 ++ vo cL o w.2) u)) (va_A (cw a cI cL cD cS nf ns da be ui ul cn ss mf sd pr ++ vo cL o g) sz)) 1 6 (va_A (cw a cI cL cD cS nf ns da be ui ul cn ss mf sd pr ++ vo cL o g) sz) := by
  refine vl_ofWH (cc := b_L_worst) (maxL := 5) (ret := some .int) (hh := [(0, 10, 13, 13)]) (by decide) rfl ?_
  intro p e s m args below meth c s₁ B hml hv
  obtain ⟨rfl, hsz, hP, hD0, hE, hX, hNc⟩ := hv
  have hx := B.exec
  have hb := B.bytes
  have hr := B.returns
  have hts := atoms_spec (ws := w_L_worst) B.pre
  have ht : ∀ w ∈ pn_W, w.before _ s = true := fun w h => hts w (List.mem_cons_of_mem _ h)
  have hown : s.vm.findClass RL = some m.cls := findClass_of_methodNamed B.named
  have hlocks := B.notSynchronized
  have hK := hE.1
  have htab := vx_table (x := y_P_init) B (hts _ List.mem_cons_self)
  subst hsz
  have hD := hD0.self (sz := s.heap.size)
  generalize hAe : va_A (cw a cI cL cD cS nf ns da be ui ul cn ss mf sd pr ++ vo cL o g) s.heap.size = A at hD hX ⊢
  have hA : ∀ q : Nat, s.heap.size ≤ q → A q := fun q h => by rw [← hAe]; exact Or.inr h
  have hS : va_S A s.heap s.heap [] := va_S.rf
  have hl := lv_entry ([.ref (a 0), .int (iI (x)), .int (iI (y)), .ref o]) (n := 5) (Nat.le_of_ble_eq_true rfl)
  rw [lg_entry_eq]
  generalize (lg_sl ([.ref (a 0), .int (iI (x)), .int (iI (y)), .ref o]) ++ List.replicate (5 - (lg_sl ([.ref (a 0), .int (iI (x)), .int (iI (y)), .ref o])).length) Slot.unset).toArray = ls at hl ⊢
  have hl : lv_has ls 5 [(0, .ref (a 0)), (1, .int (iI (x))), (2, .int (iI (y))), (3, .ref o)] := hl
  refine lv_aload_n hx hb d_L_worst_0 rfl (lv_at hl 3 rfl) ?_
  refine lv_iconst (v := iI (0)) hx hb d_L_worst_1 rfl ?_
  refine lv_aload_n hx hb d_L_worst_2 rfl (lv_at hl 0 rfl) ?_
  refine lv_iload_n hx hb d_L_worst_3 rfl (lv_at hl 1 rfl) ?_
  refine lv_iload_n hx hb d_L_worst_4 rfl (lv_at hl 2 rfl) ?_
  have hPc := vj_PL hP
  have hDc := vj_DL hD
  refine vx_calli (vx_runV (As := [.int (iI (x)), .int (iI (y))]) (rest := [.int (iI (0)), .ref o]) ⟨hx, hb, hml, hown, hts⟩ (c_P_worst l hst s.heap.size x y hOk hMm hs9 hcn hK9 hW gx gy) (cwV 2 hts (pn_gV m_511 m_512 m_513 m_33 m_514) rfl rfl rfl (by decide +kernel) ⟨Nat.le_of_ble_eq_true rfl, Nat.le_of_ble_eq_true rfl⟩) (pn_preP (q0 := 0) (ci := 0) (q := (R_P, T_P, 6)) hPc hDc hE hX hS hA rfl rfl) rfl rfl hl.1 rfl (lv_room (Nat.le_of_ble_eq_true rfl)) d_L_worst_5 ⟨Nat.le_of_ble_eq_true rfl, Nat.le_of_ble_eq_true rfl⟩) hS (fun q _ h => pr_all hDc hS hA q h) (fun q h => pr_all hDc hS hA q h) (fun q _ h => pr_all hDc hS hA q h) (fun E ce q9 u t9 H locs ht9 hvm _ hB hz hk hS hce hcv hcl => ?_) (fun r9 u9 t9 H locs ht9 hvm hw hB hz hk hS => ?_)
  · obtain ⟨hB, hP1⟩ := hB
    rw [ht9] at hP1
    obtain ⟨hP, hD⟩ := vj_app hP hD hk (fun q h => pr_all hDc va_S.rf hA q h) hP1 hDc.self
    obtain ⟨rfl, hlg⟩ := hB
    refine vx_catch hown [] (⟨0, 10, 13, 13⟩ : ExceptionTableEntry) [] htab (fun z hz => absurd hz (by simp)) (by decide) (by decide) (ht _ m_218) (va_Nw.use rfl hX.2.2.2.2.1) hce hcv hcl ?_
    refine lv_astore (lv' := [(4, .ref q9), (0, .ref (a 0)), (1, .int (iI (x))), (2, .int (iI (y))), (3, .ref o)]) hx hb d_L_worst_13 hl (by decide) rfl (fun ls hl => ?_)
    refine lv_iconst (v := iI (1)) hx hb d_L_worst_15 rfl ?_
    refine W.widen (k := 1) (n := 6) (by decide) (by decide) ?_
    exact W.iret (v := iI (1)) hx hb hr (fun t8 ht8 hW8 => ⟨⟨iI (1), ((nf, ns, da, be, ui, ul, cn, ss, mf, sd, pr), g), rfl, Or.inl ⟨rfl, hlg, rfl⟩, by rw [ht8]; exact hP, hD⟩, hS.F ht8⟩) hS.2.2 d_L_worst_16
  · obtain ⟨hP1, hD1⟩ := hB
    rw [ht9] at hP1
    obtain ⟨hP, hD⟩ := vj_app hP hD hk (fun q h => pr_all hDc va_S.rf hA q h) hP1 hD1
    refine lv_i2l (v := r9.toInt64) hx hb d_L_worst_8 rfl ?_
    refine pr_lxe (B := r9.toInt64.toInt) (lI_toInt _) ?_
    refine pr_last (ws' := cw a cI cL cD cS nf ns da u9.1 ui ul cn ss u9.2.1 u9.2.2.1 u9.2.2.2 ++ vo cL o (pu g 0 (r9.toInt64.toInt))) hx hb hK hP hD hS 54 1 rfl rfl (by decide) (by decide) (by decide) rfl d_L_worst_9 (fun H locs hP hD hS => ?_)
    refine lv_goto (tgt := 17) hx hb d_L_worst_10 (by decide) ?_
    refine lv_iconst (v := iI (0)) hx hb d_L_worst_17 rfl ?_
    refine W.widen (k := 1) (n := 6) (by decide) (by decide) ?_
    exact W.iret (v := iI (0)) hx hb hr (fun t8 ht8 hW8 => ⟨⟨iI (0), ((nf, ns, da, u9.1, ui, ul, cn, ss, u9.2.1, u9.2.2.1, u9.2.2.2), pu g 0 (r9.toInt64.toInt)), rfl, Or.inr (⟨rfl, r9, u9, hw, rfl, by show lI (pu g 0 _ 0) = _; rw [pu_s]; exact (lI_toInt _).symm⟩), by rw [ht8]; exact hP, hD⟩, hS.F ht8⟩) hS.2.2 d_L_worst_18
theorem m_517 : (Cond.codeWith y_L_put b_L_put 5 (some .int) [(0, 10, 13, 13)]) ∈ pn_W := pn_mem 517 (by decide +kernel) (by decide +kernel)
abbrev w_L_put : List Cond := .codeWith y_L_put b_L_put 5 (some .int) [(0, 10, 13, 13)] :: pn_W
set_option maxHeartbeats 4000000 in
set_option maxRecDepth 100000 in
theorem c_L_put (l : Launch) (hst : l.stackTraces = false) {D : va_G} {a : Nat → Nat} {cI cL cD cS : ClassId} {nf : Nat → Int → Int} {ns : Nat → Int} {da : Int → Int → Int} {be : Int → Int} {ui ul : Nat → Int → Int} {cn : Int} {ss : Nat → Nat} {mf sd : Nat → Int} {pr : Nat → Int → Int} (sz o : Nat) (g : Int → Int) (x y : Int) (hOk : pn_Ok nf ns da) (hh : ∀ j, 4 ≤ j → j < 12 → 0 ≤ ul 0 j ∧ ul 0 j ≤ 1000000000) (gx : i3 x) (gy : i3 y) : Met l y_L_put w_L_put ({ frames := 8, cells := 1, slots := 6, locals := 134 }) (va_Pc [.ref (a 0), .int (iI (x)), .int (iI (y)), .ref o] (fun U => U.heap.size = sz ∧ va_P D pn_cl (cw a cI cL cD cS nf ns da be ui ul cn ss mf sd pr ++ vo cL o g) U.heap ∧ va_D (fun _ => True) (cw a cI cL cD cS nf ns da be ui ul cn ss mf sd pr ++ vo cL o g) ∧ pn_E D cI cL cD cS U ∧ pn_X (va_A (cw a cI cL cD cS nf ns da be ui ul cn ss mf sd pr ++ vo cL o g) sz) U ∧ pn_Nc U)) (va_Qi (fun (r : Int32) (w : vS × (Int → Int)) => (r = iI 1 ∧ ¬ ((0 ≤ x ∧ x ≤ ns 0 - 1) ∧ (-1000000000 ≤ y ∧ y ≤ 1000000000) ∧ (0 ≤ ul 0 (x + 4) + y ∧ ul 0 (x + 4) + y ≤ 1000000000)) ∧ w.1 = (nf, ns, da, be, ui, ul, cn, ss, mf, sd, pr)) ∨ (r = iI 0 ∧ ∃ (r32 : Int32) (u : Unit), (fun (r : Int32) (_ : Unit) => ((0 ≤ x ∧ x ≤ ns 0 - 1) ∧ (-1000000000 ≤ y ∧ y ≤ 1000000000) ∧ (0 ≤ ul 0 (x + 4) + y ∧ ul 0 (x + 4) + y ≤ 1000000000)) ∧ r = iI ((ul 0 ((x) + 4)) + (y))) r32 u ∧ w.1 = (nf, ns, da, be, ui, (nw ul 0 (pu (ul 0) ((x) + 4) ((ul 0 ((x) + 4)) + (y)))), cn, ss, mf, sd, pr) ∧ lI (w.2 0) = r32.toInt64)) (fun u t => va_P D pn_cl ((fun w : vS × (Int → Int) => cwv a cI cL cD cS w.1 ++ vo cL o w.2) u) t.heap ∧ va_D (va_A (cw a cI cL cD cS nf ns da be ui ul cn ss mf sd pr ++ vo cL o g) sz) ((fun w : vS × (Int → Int) => cwv a cI cL cD cS w.1 ++ vo cL o w.2) u)) (va_A (cw a cI cL cD cS nf ns da be ui ul cn ss mf sd pr ++ vo cL o g) sz)) 1 6 (va_A (cw a cI cL cD cS nf ns da be ui ul cn ss mf sd pr ++ vo cL o g) sz) := by
  refine vl_ofWH (cc := b_L_put) (maxL := 5) (ret := some .int) (hh := [(0, 10, 13, 13)]) (by decide) rfl ?_
  intro p e s m args below meth c s₁ B hml hv
  obtain ⟨rfl, hsz, hP, hD0, hE, hX, hNc⟩ := hv
  have hx := B.exec
  have hb := B.bytes
  have hr := B.returns
  have hts := atoms_spec (ws := w_L_put) B.pre
  have ht : ∀ w ∈ pn_W, w.before _ s = true := fun w h => hts w (List.mem_cons_of_mem _ h)
  have hown : s.vm.findClass RL = some m.cls := findClass_of_methodNamed B.named
  have hlocks := B.notSynchronized
  have hK := hE.1
  have htab := vx_table (x := y_P_init) B (hts _ List.mem_cons_self)
  subst hsz
  have hD := hD0.self (sz := s.heap.size)
  generalize hAe : va_A (cw a cI cL cD cS nf ns da be ui ul cn ss mf sd pr ++ vo cL o g) s.heap.size = A at hD hX ⊢
  have hA : ∀ q : Nat, s.heap.size ≤ q → A q := fun q h => by rw [← hAe]; exact Or.inr h
  have hS : va_S A s.heap s.heap [] := va_S.rf
  have hl := lv_entry ([.ref (a 0), .int (iI (x)), .int (iI (y)), .ref o]) (n := 5) (Nat.le_of_ble_eq_true rfl)
  rw [lg_entry_eq]
  generalize (lg_sl ([.ref (a 0), .int (iI (x)), .int (iI (y)), .ref o]) ++ List.replicate (5 - (lg_sl ([.ref (a 0), .int (iI (x)), .int (iI (y)), .ref o])).length) Slot.unset).toArray = ls at hl ⊢
  have hl : lv_has ls 5 [(0, .ref (a 0)), (1, .int (iI (x))), (2, .int (iI (y))), (3, .ref o)] := hl
  refine lv_aload_n hx hb d_L_put_0 rfl (lv_at hl 3 rfl) ?_
  refine lv_iconst (v := iI (0)) hx hb d_L_put_1 rfl ?_
  refine lv_aload_n hx hb d_L_put_2 rfl (lv_at hl 0 rfl) ?_
  refine lv_iload_n hx hb d_L_put_3 rfl (lv_at hl 1 rfl) ?_
  refine lv_iload_n hx hb d_L_put_4 rfl (lv_at hl 2 rfl) ?_
  have hPc := vj_PL hP
  have hDc := vj_DL hD
  refine vx_calli (vx_runV (As := [.int (iI (x)), .int (iI (y))]) (rest := [.int (iI (0)), .ref o]) ⟨hx, hb, hml, hown, hts⟩ (c_P_put l hst s.heap.size x y hOk hh gx gy) (cwV 2 hts (pn_gV m_518 m_519 m_520 m_33 m_521) rfl rfl rfl (by decide +kernel) ⟨Nat.le_of_ble_eq_true rfl, Nat.le_of_ble_eq_true rfl⟩) (pn_preP (q0 := 0) (ci := 0) (q := (R_P, T_P, 6)) hPc hDc hE hX hS hA rfl rfl) rfl rfl hl.1 rfl (lv_room (Nat.le_of_ble_eq_true rfl)) d_L_put_5 ⟨Nat.le_of_ble_eq_true rfl, Nat.le_of_ble_eq_true rfl⟩) hS (fun q _ h => pr_all hDc hS hA q h) (fun q h => pr_all hDc hS hA q h) (fun q _ h => pr_all hDc hS hA q h) (fun E ce q9 u t9 H locs ht9 hvm _ hB hz hk hS hce hcv hcl => ?_) (fun r9 u9 t9 H locs ht9 hvm hw hB hz hk hS => ?_)
  · obtain ⟨hB, hP1⟩ := hB
    rw [ht9] at hP1
    obtain ⟨hP, hD⟩ := vj_app hP hD hk (fun q h => pr_all hDc va_S.rf hA q h) hP1 hDc.self
    obtain ⟨rfl, hlg⟩ := hB
    refine vx_catch hown [] (⟨0, 10, 13, 13⟩ : ExceptionTableEntry) [] htab (fun z hz => absurd hz (by simp)) (by decide) (by decide) (ht _ m_218) (va_Nw.use rfl hX.2.2.2.2.1) hce hcv hcl ?_
    refine lv_astore (lv' := [(4, .ref q9), (0, .ref (a 0)), (1, .int (iI (x))), (2, .int (iI (y))), (3, .ref o)]) hx hb d_L_put_13 hl (by decide) rfl (fun ls hl => ?_)
    refine lv_iconst (v := iI (1)) hx hb d_L_put_15 rfl ?_
    refine W.widen (k := 1) (n := 6) (by decide) (by decide) ?_
    exact W.iret (v := iI (1)) hx hb hr (fun t8 ht8 hW8 => ⟨⟨iI (1), ((nf, ns, da, be, ui, ul, cn, ss, mf, sd, pr), g), rfl, Or.inl ⟨rfl, hlg, rfl⟩, by rw [ht8]; exact hP, hD⟩, hS.F ht8⟩) hS.2.2 d_L_put_16
  · obtain ⟨hP1, hD1⟩ := hB
    rw [ht9] at hP1
    obtain ⟨hP, hD⟩ := vj_app hP hD hk (fun q h => pr_all hDc va_S.rf hA q h) hP1 hD1
    refine lv_i2l (v := r9.toInt64) hx hb d_L_put_8 rfl ?_
    refine pr_lxe (B := r9.toInt64.toInt) (lI_toInt _) ?_
    refine pr_last (ws' := cw a cI cL cD cS nf ns da be ui (nw ul 0 (pu (ul 0) ((x) + 4) ((ul 0 ((x) + 4)) + (y)))) cn ss mf sd pr ++ vo cL o (pu g 0 (r9.toInt64.toInt))) hx hb hK hP hD hS 54 1 rfl rfl (by decide) (by decide) (by decide) rfl d_L_put_9 (fun H locs hP hD hS => ?_)
    refine lv_goto (tgt := 17) hx hb d_L_put_10 (by decide) ?_
    refine lv_iconst (v := iI (0)) hx hb d_L_put_17 rfl ?_
    refine W.widen (k := 1) (n := 6) (by decide) (by decide) ?_
    exact W.iret (v := iI (0)) hx hb hr (fun t8 ht8 hW8 => ⟨⟨iI (0), ((nf, ns, da, be, ui, (nw ul 0 (pu (ul 0) ((x) + 4) ((ul 0 ((x) + 4)) + (y)))), cn, ss, mf, sd, pr), pu g 0 (r9.toInt64.toInt)), rfl, Or.inr (⟨rfl, r9, u9, hw, rfl, by show lI (pu g 0 _ 0) = _; rw [pu_s]; exact (lI_toInt _).symm⟩), by rw [ht8]; exact hP, hD⟩, hS.F ht8⟩) hS.2.2 d_L_put_18
theorem m_527 : (Cond.codeWith y_L_source b_L_source 5 (some .int) [(0, 10, 13, 13)]) ∈ pn_W := pn_mem 527 (by decide +kernel) (by decide +kernel)
abbrev w_L_source : List Cond := .codeWith y_L_source b_L_source 5 (some .int) [(0, 10, 13, 13)] :: pn_W
set_option maxHeartbeats 4000000 in
set_option maxRecDepth 100000 in
theorem c_L_source (l : Launch) (hst : l.stackTraces = false) {D : va_G} {a : Nat → Nat} {cI cL cD cS : ClassId} {nf : Nat → Int → Int} {ns : Nat → Int} {da : Int → Int → Int} {be : Int → Int} {ui ul : Nat → Int → Int} {cn : Int} {ss : Nat → Nat} {mf sd : Nat → Int} {pr : Nat → Int → Int} (sz o : Nat) (g : Int → Int) (x y : Int) (hOk : pn_Ok nf ns da) (gx : i3 x) (gy : i3 y) : Met l y_L_source w_L_source ({ frames := 8, cells := 1, slots := 6, locals := 133 }) (va_Pc [.ref (a 0), .int (iI (x)), .int (iI (y)), .ref o] (fun U => U.heap.size = sz ∧ va_P D pn_cl (cw a cI cL cD cS nf ns da be ui ul cn ss mf sd pr ++ vo cL o g) U.heap ∧ va_D (fun _ => True) (cw a cI cL cD cS nf ns da be ui ul cn ss mf sd pr ++ vo cL o g) ∧ pn_E D cI cL cD cS U ∧ pn_X (va_A (cw a cI cL cD cS nf ns da be ui ul cn ss mf sd pr ++ vo cL o g) sz) U ∧ pn_Nc U)) (va_Qi (fun (r : Int32) (w : vS × (Int → Int)) => (r = iI 1 ∧ ¬ ((0 ≤ x ∧ x ≤ ns 0 - 1) ∧ (0 ≤ y ∧ y ≤ 1000000)) ∧ w.1 = (nf, ns, da, be, ui, ul, cn, ss, mf, sd, pr)) ∨ (r = iI 0 ∧ ∃ (r32 : Int32) (u : Unit), (fun (r : Int32) (_ : Unit) => ((0 ≤ x ∧ x ≤ ns 0 - 1) ∧ (0 ≤ y ∧ y ≤ 1000000)) ∧ r = iI (ui 0 ((x) + 4))) r32 u ∧ w.1 = (nf, ns, da, be, (nw ui 0 (pu (ui 0) ((x) + 4) (y))), ul, cn, ss, mf, sd, pr) ∧ lI (w.2 0) = r32.toInt64)) (fun u t => va_P D pn_cl ((fun w : vS × (Int → Int) => cwv a cI cL cD cS w.1 ++ vo cL o w.2) u) t.heap ∧ va_D (va_A (cw a cI cL cD cS nf ns da be ui ul cn ss mf sd pr ++ vo cL o g) sz) ((fun w : vS × (Int → Int) => cwv a cI cL cD cS w.1 ++ vo cL o w.2) u)) (va_A (cw a cI cL cD cS nf ns da be ui ul cn ss mf sd pr ++ vo cL o g) sz)) 1 6 (va_A (cw a cI cL cD cS nf ns da be ui ul cn ss mf sd pr ++ vo cL o g) sz) := by
  refine vl_ofWH (cc := b_L_source) (maxL := 5) (ret := some .int) (hh := [(0, 10, 13, 13)]) (by decide) rfl ?_
  intro p e s m args below meth c s₁ B hml hv
  obtain ⟨rfl, hsz, hP, hD0, hE, hX, hNc⟩ := hv
  have hx := B.exec
  have hb := B.bytes
  have hr := B.returns
  have hts := atoms_spec (ws := w_L_source) B.pre
  have ht : ∀ w ∈ pn_W, w.before _ s = true := fun w h => hts w (List.mem_cons_of_mem _ h)
  have hown : s.vm.findClass RL = some m.cls := findClass_of_methodNamed B.named
  have hlocks := B.notSynchronized
  have hK := hE.1
  have htab := vx_table (x := y_P_init) B (hts _ List.mem_cons_self)
  subst hsz
  have hD := hD0.self (sz := s.heap.size)
  generalize hAe : va_A (cw a cI cL cD cS nf ns da be ui ul cn ss mf sd pr ++ vo cL o g) s.heap.size = A at hD hX ⊢
  have hA : ∀ q : Nat, s.heap.size ≤ q → A q := fun q h => by rw [← hAe]; exact Or.inr h
  have hS : va_S A s.heap s.heap [] := va_S.rf
  have hl := lv_entry ([.ref (a 0), .int (iI (x)), .int (iI (y)), .ref o]) (n := 5) (Nat.le_of_ble_eq_true rfl)
  rw [lg_entry_eq]
  generalize (lg_sl ([.ref (a 0), .int (iI (x)), .int (iI (y)), .ref o]) ++ List.replicate (5 - (lg_sl ([.ref (a 0), .int (iI (x)), .int (iI (y)), .ref o])).length) Slot.unset).toArray = ls at hl ⊢
  have hl : lv_has ls 5 [(0, .ref (a 0)), (1, .int (iI (x))), (2, .int (iI (y))), (3, .ref o)] := hl
  refine lv_aload_n hx hb d_L_source_0 rfl (lv_at hl 3 rfl) ?_
  refine lv_iconst (v := iI (0)) hx hb d_L_source_1 rfl ?_
  refine lv_aload_n hx hb d_L_source_2 rfl (lv_at hl 0 rfl) ?_
  refine lv_iload_n hx hb d_L_source_3 rfl (lv_at hl 1 rfl) ?_
  refine lv_iload_n hx hb d_L_source_4 rfl (lv_at hl 2 rfl) ?_
  have hPc := vj_PL hP
  have hDc := vj_DL hD
  refine vx_calli (vx_runV (As := [.int (iI (x)), .int (iI (y))]) (rest := [.int (iI (0)), .ref o]) ⟨hx, hb, hml, hown, hts⟩ (c_P_source l hst s.heap.size x y hOk gx gy) (cwV 2 hts (pn_gV m_528 m_529 m_530 m_33 m_531) rfl rfl rfl (by decide +kernel) ⟨Nat.le_of_ble_eq_true rfl, Nat.le_of_ble_eq_true rfl⟩) (pn_preP (q0 := 0) (ci := 0) (q := (R_P, T_P, 6)) hPc hDc hE hX hS hA rfl rfl) rfl rfl hl.1 rfl (lv_room (Nat.le_of_ble_eq_true rfl)) d_L_source_5 ⟨Nat.le_of_ble_eq_true rfl, Nat.le_of_ble_eq_true rfl⟩) hS (fun q _ h => pr_all hDc hS hA q h) (fun q h => pr_all hDc hS hA q h) (fun q _ h => pr_all hDc hS hA q h) (fun E ce q9 u t9 H locs ht9 hvm _ hB hz hk hS hce hcv hcl => ?_) (fun r9 u9 t9 H locs ht9 hvm hw hB hz hk hS => ?_)
  · obtain ⟨hB, hP1⟩ := hB
    rw [ht9] at hP1
    obtain ⟨hP, hD⟩ := vj_app hP hD hk (fun q h => pr_all hDc va_S.rf hA q h) hP1 hDc.self
    obtain ⟨rfl, hlg⟩ := hB
    refine vx_catch hown [] (⟨0, 10, 13, 13⟩ : ExceptionTableEntry) [] htab (fun z hz => absurd hz (by simp)) (by decide) (by decide) (ht _ m_218) (va_Nw.use rfl hX.2.2.2.2.1) hce hcv hcl ?_
    refine lv_astore (lv' := [(4, .ref q9), (0, .ref (a 0)), (1, .int (iI (x))), (2, .int (iI (y))), (3, .ref o)]) hx hb d_L_source_13 hl (by decide) rfl (fun ls hl => ?_)
    refine lv_iconst (v := iI (1)) hx hb d_L_source_15 rfl ?_
    refine W.widen (k := 1) (n := 6) (by decide) (by decide) ?_
    exact W.iret (v := iI (1)) hx hb hr (fun t8 ht8 hW8 => ⟨⟨iI (1), ((nf, ns, da, be, ui, ul, cn, ss, mf, sd, pr), g), rfl, Or.inl ⟨rfl, hlg, rfl⟩, by rw [ht8]; exact hP, hD⟩, hS.F ht8⟩) hS.2.2 d_L_source_16
  · obtain ⟨hP1, hD1⟩ := hB
    rw [ht9] at hP1
    obtain ⟨hP, hD⟩ := vj_app hP hD hk (fun q h => pr_all hDc va_S.rf hA q h) hP1 hD1
    refine lv_i2l (v := r9.toInt64) hx hb d_L_source_8 rfl ?_
    refine pr_lxe (B := r9.toInt64.toInt) (lI_toInt _) ?_
    refine pr_last (ws' := cw a cI cL cD cS nf ns da be (nw ui 0 (pu (ui 0) ((x) + 4) (y))) ul cn ss mf sd pr ++ vo cL o (pu g 0 (r9.toInt64.toInt))) hx hb hK hP hD hS 54 1 rfl rfl (by decide) (by decide) (by decide) rfl d_L_source_9 (fun H locs hP hD hS => ?_)
    refine lv_goto (tgt := 17) hx hb d_L_source_10 (by decide) ?_
    refine lv_iconst (v := iI (0)) hx hb d_L_source_17 rfl ?_
    refine W.widen (k := 1) (n := 6) (by decide) (by decide) ?_
    exact W.iret (v := iI (0)) hx hb hr (fun t8 ht8 hW8 => ⟨⟨iI (0), ((nf, ns, da, be, (nw ui 0 (pu (ui 0) ((x) + 4) (y))), ul, cn, ss, mf, sd, pr), pu g 0 (r9.toInt64.toInt)), rfl, Or.inr (⟨rfl, r9, u9, hw, rfl, by show lI (pu g 0 _ 0) = _; rw [pu_s]; exact (lI_toInt _).symm⟩), by rw [ht8]; exact hP, hD⟩, hS.F ht8⟩) hS.2.2 d_L_source_18
theorem m_535 : (Cond.codeWith y_L_steps b_L_steps 4 (some .int) [(0, 9, 12, 13)]) ∈ pn_W := pn_mem 535 (by decide +kernel) (by decide +kernel)
abbrev w_L_steps : List Cond := .codeWith y_L_steps b_L_steps 4 (some .int) [(0, 9, 12, 13)] :: pn_W
set_option maxHeartbeats 4000000 in
set_option maxRecDepth 100000 in
theorem c_L_steps (l : Launch) (hst : l.stackTraces = false) {D : va_G} {a : Nat → Nat} {cI cL cD cS : ClassId} {nf : Nat → Int → Int} {ns : Nat → Int} {da : Int → Int → Int} {be : Int → Int} {ui ul : Nat → Int → Int} {cn : Int} {ss : Nat → Nat} {mf sd : Nat → Int} {pr : Nat → Int → Int} (sz o : Nat) (g : Int → Int) (x : Int) (hOk : pn_Ok nf ns da) (hM : pn_Mono (ns 0) (m_G nf da (ss 0))) (hss : ss 0 < 2 ^ 20) (hsd : sd 0 = 0 ∨ sd 0 = 1) (hmf : -1 ≤ mf 0 ∧ mf 0 ≤ 512) (hC : mf 0 = ns 3 → pn_P5 (pr 0) ∧ pn_Le (ns 0) (nf 0) (m_G nf da (ss 0)) (sd 0) (pr 0)) (hU : s_B (ul 0)) (hsb : ∀ j, 0 ≤ j → j < 12 → 0 ≤ ui 0 j ∧ ui 0 j ≤ 1000000) (hfl : pn_Fl (ui 1)) (hW : pn_Rw nf ns) (hV : s_V nf (ns 0)) (gx : i3 x) : Met l y_L_steps w_L_steps ({ frames := 8, cells := 1, slots := 6, locals := 210 }) (va_Pc [.ref (a 0), .int (iI (x)), .ref o] (fun U => U.heap.size = sz ∧ va_P D pn_cl (cw a cI cL cD cS nf ns da be ui ul cn ss mf sd pr ++ vo cL o g) U.heap ∧ va_D (fun _ => True) (cw a cI cL cD cS nf ns da be ui ul cn ss mf sd pr ++ vo cL o g) ∧ pn_E D cI cL cD cS U ∧ pn_X (va_A (cw a cI cL cD cS nf ns da be ui ul cn ss mf sd pr ++ vo cL o g) sz) U ∧ pn_Nc U)) (va_Qi (fun (r : Int32) (w : vS × (Int → Int)) => (r = iI 1 ∧ ¬ (1 ≤ x ∧ x ≤ 200) ∧ w.1 = (nf, ns, da, be, ui, ul, cn, ss, mf, sd, pr)) ∨ (r = iI 0 ∧ ∃ (r32 : Int32) (u : (Int → Int) × (Int → Int) × Int × (Nat → Int → Int) × (Nat → Int → Int)), (fun (r : Int32) (u : (Int → Int) × (Int → Int) × Int × (Nat → Int → Int) × (Nat → Int → Int)) => (1 ≤ x ∧ x ≤ 200) ∧ pn_P5 u.1 ∧ pn_Le (ns 0) (nf 0) (m_G nf da (ss 0)) u.2.2.1 u.1 ∧ ((u.2.2.1 = 0 ∧ r = iI 0 ∧ u.2.2.2.1 = ui ∧ u.2.2.2.2 = ul) ∨ (u.2.2.1 = 1 ∧ u.2.2.2.1 0 = ui 0 ∧ pn_Fl (u.2.2.2.1 1) ∧ s_B (u.2.2.2.2 0) ∧ s_ag (u.2.2.2.2 0) (s_it (s_nx nf (m_F nf ns (ss 0) u.1) (ui 0)) (s_ok nf (m_F nf ns (ss 0) u.1) (ui 0)) x.toNat (ul 0)).2 ∧ r = iI (((s_it (s_nx nf (m_F nf ns (ss 0) u.1) (ui 0)) (s_ok nf (m_F nf ns (ss 0) u.1) (ui 0)) x.toNat (ul 0)).1 : Nat) : Int)))) r32 u ∧ w.1 = (nf, ns, da, u.2.1, u.2.2.2.1, u.2.2.2.2, cn, ss, (nw mf 0 (ns 3)), (nw sd 0 u.2.2.1), (nw pr 0 u.1)) ∧ lI (w.2 0) = r32.toInt64)) (fun u t => va_P D pn_cl ((fun w : vS × (Int → Int) => cwv a cI cL cD cS w.1 ++ vo cL o w.2) u) t.heap ∧ va_D (va_A (cw a cI cL cD cS nf ns da be ui ul cn ss mf sd pr ++ vo cL o g) sz) ((fun w : vS × (Int → Int) => cwv a cI cL cD cS w.1 ++ vo cL o w.2) u)) (va_A (cw a cI cL cD cS nf ns da be ui ul cn ss mf sd pr ++ vo cL o g) sz)) 1 6 (va_A (cw a cI cL cD cS nf ns da be ui ul cn ss mf sd pr ++ vo cL o g) sz) := by
  refine vl_ofWH (cc := b_L_steps) (maxL := 4) (ret := some .int) (hh := [(0, 9, 12, 13)]) (by decide) rfl ?_
  intro p e s m args below meth c s₁ B hml hv
  obtain ⟨rfl, hsz, hP, hD0, hE, hX, hNc⟩ := hv
  have hx := B.exec
  have hb := B.bytes
  have hr := B.returns
  have hts := atoms_spec (ws := w_L_steps) B.pre
  have ht : ∀ w ∈ pn_W, w.before _ s = true := fun w h => hts w (List.mem_cons_of_mem _ h)
  have hown : s.vm.findClass RL = some m.cls := findClass_of_methodNamed B.named
  have hlocks := B.notSynchronized
  have hK := hE.1
  have htab := vx_table (x := y_P_init) B (hts _ List.mem_cons_self)
  subst hsz
  have hD := hD0.self (sz := s.heap.size)
  generalize hAe : va_A (cw a cI cL cD cS nf ns da be ui ul cn ss mf sd pr ++ vo cL o g) s.heap.size = A at hD hX ⊢
  have hA : ∀ q : Nat, s.heap.size ≤ q → A q := fun q h => by rw [← hAe]; exact Or.inr h
  have hS : va_S A s.heap s.heap [] := va_S.rf
  have hl := lv_entry ([.ref (a 0), .int (iI (x)), .ref o]) (n := 4) (Nat.le_of_ble_eq_true rfl)
  rw [lg_entry_eq]
  generalize (lg_sl ([.ref (a 0), .int (iI (x)), .ref o]) ++ List.replicate (4 - (lg_sl ([.ref (a 0), .int (iI (x)), .ref o])).length) Slot.unset).toArray = ls at hl ⊢
  have hl : lv_has ls 4 [(0, .ref (a 0)), (1, .int (iI (x))), (2, .ref o)] := hl
  refine lv_aload_n hx hb d_L_steps_0 rfl (lv_at hl 2 rfl) ?_
  refine lv_iconst (v := iI (0)) hx hb d_L_steps_1 rfl ?_
  refine lv_aload_n hx hb d_L_steps_2 rfl (lv_at hl 0 rfl) ?_
  refine lv_iload_n hx hb d_L_steps_3 rfl (lv_at hl 1 rfl) ?_
  have hPc := vj_PL hP
  have hDc := vj_DL hD
  refine vx_calli (vx_runV (As := [.int (iI (x))]) (rest := [.int (iI (0)), .ref o]) ⟨hx, hb, hml, hown, hts⟩ (c_P_steps l hst s.heap.size x hOk hM hss hsd hmf hC hU hsb hfl hW hV gx) (cwV 1 hts (pn_gV m_536 m_537 m_538 m_33 m_539) rfl rfl rfl (by decide +kernel) ⟨Nat.le_of_ble_eq_true rfl, Nat.le_of_ble_eq_true rfl⟩) (pn_preP (q0 := 0) (ci := 0) (q := (R_P, T_P, 6)) hPc hDc hE hX hS hA rfl rfl) rfl rfl hl.1 rfl (lv_room (Nat.le_of_ble_eq_true rfl)) d_L_steps_4 ⟨Nat.le_of_ble_eq_true rfl, Nat.le_of_ble_eq_true rfl⟩) hS (fun q _ h => pr_all hDc hS hA q h) (fun q h => pr_all hDc hS hA q h) (fun q _ h => pr_all hDc hS hA q h) (fun E ce q9 u t9 H locs ht9 hvm _ hB hz hk hS hce hcv hcl => ?_) (fun r9 u9 t9 H locs ht9 hvm hw hB hz hk hS => ?_)
  · obtain ⟨hB, hP1⟩ := hB
    rw [ht9] at hP1
    obtain ⟨hP, hD⟩ := vj_app hP hD hk (fun q h => pr_all hDc va_S.rf hA q h) hP1 hDc.self
    obtain ⟨rfl, hlg⟩ := hB
    refine vx_catch hown [] (⟨0, 9, 12, 13⟩ : ExceptionTableEntry) [] htab (fun z hz => absurd hz (by simp)) (by decide) (by decide) (ht _ m_218) (va_Nw.use rfl hX.2.2.2.2.1) hce hcv hcl ?_
    refine lv_astore_n (lv' := [(3, .ref q9), (0, .ref (a 0)), (1, .int (iI (x))), (2, .ref o)]) hx hb d_L_steps_12 rfl hl (by decide) rfl (fun ls hl => ?_)
    refine lv_iconst (v := iI (1)) hx hb d_L_steps_13 rfl ?_
    refine W.widen (k := 1) (n := 6) (by decide) (by decide) ?_
    exact W.iret (v := iI (1)) hx hb hr (fun t8 ht8 hW8 => ⟨⟨iI (1), ((nf, ns, da, be, ui, ul, cn, ss, mf, sd, pr), g), rfl, Or.inl ⟨rfl, hlg, rfl⟩, by rw [ht8]; exact hP, hD⟩, hS.F ht8⟩) hS.2.2 d_L_steps_14
  · obtain ⟨hP1, hD1⟩ := hB
    rw [ht9] at hP1
    obtain ⟨hP, hD⟩ := vj_app hP hD hk (fun q h => pr_all hDc va_S.rf hA q h) hP1 hD1
    refine lv_i2l (v := r9.toInt64) hx hb d_L_steps_7 rfl ?_
    refine pr_lxe (B := r9.toInt64.toInt) (lI_toInt _) ?_
    refine pr_last (ws' := cw a cI cL cD cS nf ns da u9.2.1 u9.2.2.2.1 u9.2.2.2.2 cn ss (nw mf 0 (ns 3)) (nw sd 0 u9.2.2.1) (nw pr 0 u9.1) ++ vo cL o (pu g 0 (r9.toInt64.toInt))) hx hb hK hP hD hS 54 1 rfl rfl (by decide) (by decide) (by decide) rfl d_L_steps_8 (fun H locs hP hD hS => ?_)
    refine lv_goto (tgt := 15) hx hb d_L_steps_9 (by decide) ?_
    refine lv_iconst (v := iI (0)) hx hb d_L_steps_15 rfl ?_
    refine W.widen (k := 1) (n := 6) (by decide) (by decide) ?_
    exact W.iret (v := iI (0)) hx hb hr (fun t8 ht8 hW8 => ⟨⟨iI (0), ((nf, ns, da, u9.2.1, u9.2.2.2.1, u9.2.2.2.2, cn, ss, (nw mf 0 (ns 3)), (nw sd 0 u9.2.2.1), (nw pr 0 u9.1)), pu g 0 (r9.toInt64.toInt)), rfl, Or.inr (⟨rfl, r9, u9, hw, rfl, by show lI (pu g 0 _ 0) = _; rw [pu_s]; exact (lI_toInt _).symm⟩), by rw [ht8]; exact hP, hD⟩, hS.F ht8⟩) hS.2.2 d_L_steps_16
theorem m_579 : (Cond.codeWith y_L_gone b_L_gone 4 (some .int) [(0, 8, 11, 13)]) ∈ pn_W := pn_mem 579 (by decide +kernel) (by decide +kernel)
abbrev w_L_gone : List Cond := .codeWith y_L_gone b_L_gone 4 (some .int) [(0, 8, 11, 13)] :: pn_W
set_option maxHeartbeats 4000000 in
set_option maxRecDepth 100000 in
theorem c_L_gone (l : Launch) (hst : l.stackTraces = false) {D : va_G} {a : Nat → Nat} {cI cL cD cS : ClassId} {nf : Nat → Int → Int} {ns : Nat → Int} {da : Int → Int → Int} {be : Int → Int} {ui ul : Nat → Int → Int} {cn : Int} {ss : Nat → Nat} {mf sd : Nat → Int} {pr : Nat → Int → Int} (sz o : Nat) (g : Int → Int) (x : Int) (hOk : pn_Ok nf ns da) (gx : i3 x) : Met l y_L_gone w_L_gone ({ frames := 8, cells := 1, slots := 6, locals := 131 }) (va_Pc [.ref (a 0), .int (iI (x)), .ref o] (fun U => U.heap.size = sz ∧ va_P D pn_cl (cw a cI cL cD cS nf ns da be ui ul cn ss mf sd pr ++ vo cL o g) U.heap ∧ va_D (fun _ => True) (cw a cI cL cD cS nf ns da be ui ul cn ss mf sd pr ++ vo cL o g) ∧ pn_E D cI cL cD cS U ∧ pn_X (va_A (cw a cI cL cD cS nf ns da be ui ul cn ss mf sd pr ++ vo cL o g) sz) U ∧ pn_Nc U)) (va_Qi (fun (r : Int32) (w : vS × (Int → Int)) => (r = iI 1 ∧ ¬ (-4 ≤ x ∧ x ≤ -1) ∧ w.1 = (nf, ns, da, be, ui, ul, cn, ss, mf, sd, pr)) ∨ (r = iI 0 ∧ ∃ (r32 : Int64) (u : Unit), (fun (r : Int64) (_ : Unit) => (-4 ≤ x ∧ x ≤ -1) ∧ r = lI (ul 0 ((x) + 4))) r32 u ∧ w.1 = (nf, ns, da, be, ui, ul, cn, ss, mf, sd, pr) ∧ lI (w.2 0) = r32)) (fun u t => va_P D pn_cl ((fun w : vS × (Int → Int) => cwv a cI cL cD cS w.1 ++ vo cL o w.2) u) t.heap ∧ va_D (va_A (cw a cI cL cD cS nf ns da be ui ul cn ss mf sd pr ++ vo cL o g) sz) ((fun w : vS × (Int → Int) => cwv a cI cL cD cS w.1 ++ vo cL o w.2) u)) (va_A (cw a cI cL cD cS nf ns da be ui ul cn ss mf sd pr ++ vo cL o g) sz)) 1 6 (va_A (cw a cI cL cD cS nf ns da be ui ul cn ss mf sd pr ++ vo cL o g) sz) := by
  refine vl_ofWH (cc := b_L_gone) (maxL := 4) (ret := some .int) (hh := [(0, 8, 11, 13)]) (by decide) rfl ?_
  intro p e s m args below meth c s₁ B hml hv
  obtain ⟨rfl, hsz, hP, hD0, hE, hX, hNc⟩ := hv
  have hx := B.exec
  have hb := B.bytes
  have hr := B.returns
  have hts := atoms_spec (ws := w_L_gone) B.pre
  have ht : ∀ w ∈ pn_W, w.before _ s = true := fun w h => hts w (List.mem_cons_of_mem _ h)
  have hown : s.vm.findClass RL = some m.cls := findClass_of_methodNamed B.named
  have hlocks := B.notSynchronized
  have hK := hE.1
  have htab := vx_table (x := y_P_init) B (hts _ List.mem_cons_self)
  subst hsz
  have hD := hD0.self (sz := s.heap.size)
  generalize hAe : va_A (cw a cI cL cD cS nf ns da be ui ul cn ss mf sd pr ++ vo cL o g) s.heap.size = A at hD hX ⊢
  have hA : ∀ q : Nat, s.heap.size ≤ q → A q := fun q h => by rw [← hAe]; exact Or.inr h
  have hS : va_S A s.heap s.heap [] := va_S.rf
  have hl := lv_entry ([.ref (a 0), .int (iI (x)), .ref o]) (n := 4) (Nat.le_of_ble_eq_true rfl)
  rw [lg_entry_eq]
  generalize (lg_sl ([.ref (a 0), .int (iI (x)), .ref o]) ++ List.replicate (4 - (lg_sl ([.ref (a 0), .int (iI (x)), .ref o])).length) Slot.unset).toArray = ls at hl ⊢
  have hl : lv_has ls 4 [(0, .ref (a 0)), (1, .int (iI (x))), (2, .ref o)] := hl
  refine lv_aload_n hx hb d_L_gone_0 rfl (lv_at hl 2 rfl) ?_
  refine lv_iconst (v := iI (0)) hx hb d_L_gone_1 rfl ?_
  refine lv_aload_n hx hb d_L_gone_2 rfl (lv_at hl 0 rfl) ?_
  refine lv_iload_n hx hb d_L_gone_3 rfl (lv_at hl 1 rfl) ?_
  have hPc := vj_PL hP
  have hDc := vj_DL hD
  refine vx_calll (vx_runV (As := [.int (iI (x))]) (rest := [.int (iI (0)), .ref o]) ⟨hx, hb, hml, hown, hts⟩ (c_P_gone l hst s.heap.size x hOk gx) (cwV 1 hts (pn_gV m_580 m_581 m_582 m_33 m_583) rfl rfl rfl (by decide +kernel) ⟨Nat.le_of_ble_eq_true rfl, Nat.le_of_ble_eq_true rfl⟩) (pn_preP (q0 := 0) (ci := 0) (q := (R_P, T_P, 6)) hPc hDc hE hX hS hA rfl rfl) rfl rfl hl.1 rfl (lv_room (Nat.le_of_ble_eq_true rfl)) d_L_gone_4 ⟨Nat.le_of_ble_eq_true rfl, Nat.le_of_ble_eq_true rfl⟩) hS (fun q _ h => pr_all hDc hS hA q h) (fun q h => pr_all hDc hS hA q h) (fun q _ h => pr_all hDc hS hA q h) (fun E ce q9 u t9 H locs ht9 hvm _ hB hz hk hS hce hcv hcl => ?_) (fun r9 u9 t9 H locs ht9 hvm hw hB hz hk hS => ?_)
  · obtain ⟨hB, hP1⟩ := hB
    rw [ht9] at hP1
    obtain ⟨hP, hD⟩ := vj_app hP hD hk (fun q h => pr_all hDc va_S.rf hA q h) hP1 hDc.self
    obtain ⟨rfl, hlg⟩ := hB
    refine vx_catch hown [] (⟨0, 8, 11, 13⟩ : ExceptionTableEntry) [] htab (fun z hz => absurd hz (by simp)) (by decide) (by decide) (ht _ m_218) (va_Nw.use rfl hX.2.2.2.2.1) hce hcv hcl ?_
    refine lv_astore_n (lv' := [(3, .ref q9), (0, .ref (a 0)), (1, .int (iI (x))), (2, .ref o)]) hx hb d_L_gone_11 rfl hl (by decide) rfl (fun ls hl => ?_)
    refine lv_iconst (v := iI (1)) hx hb d_L_gone_12 rfl ?_
    refine W.widen (k := 1) (n := 6) (by decide) (by decide) ?_
    exact W.iret (v := iI (1)) hx hb hr (fun t8 ht8 hW8 => ⟨⟨iI (1), ((nf, ns, da, be, ui, ul, cn, ss, mf, sd, pr), g), rfl, Or.inl ⟨rfl, hlg, rfl⟩, by rw [ht8]; exact hP, hD⟩, hS.F ht8⟩) hS.2.2 d_L_gone_13
  · obtain ⟨hP1, hD1⟩ := hB
    rw [ht9] at hP1
    obtain ⟨hP, hD⟩ := vj_app hP hD hk (fun q h => pr_all hDc va_S.rf hA q h) hP1 hD1
    refine pr_lxe (B := r9.toInt) (lI_toInt _) ?_
    refine pr_last (ws' := cw a cI cL cD cS nf ns da be ui ul cn ss mf sd pr ++ vo cL o (pu g 0 (r9.toInt))) hx hb hK hP hD hS 54 1 rfl rfl (by decide) (by decide) (by decide) rfl d_L_gone_7 (fun H locs hP hD hS => ?_)
    refine lv_goto (tgt := 14) hx hb d_L_gone_8 (by decide) ?_
    refine lv_iconst (v := iI (0)) hx hb d_L_gone_14 rfl ?_
    refine W.widen (k := 1) (n := 6) (by decide) (by decide) ?_
    exact W.iret (v := iI (0)) hx hb hr (fun t8 ht8 hW8 => ⟨⟨iI (0), ((nf, ns, da, be, ui, ul, cn, ss, mf, sd, pr), pu g 0 (r9.toInt)), rfl, Or.inr (⟨rfl, r9, u9, hw, rfl, by show lI (pu g 0 _ 0) = _; rw [pu_s]; exact (lI_toInt _).symm⟩), by rw [ht8]; exact hP, hD⟩, hS.F ht8⟩) hS.2.2 d_L_gone_15
