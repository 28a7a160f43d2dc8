/-! what is carried -/
def m_abs (x : Int) : Int := if 0 ≤ x then x else -x
theorem iI_abs {A : Int} (h : -2147483647 ≤ A ∧ A ≤ 2147483647) : (if 0 ≤ iI A then iI A else 0 - iI A) = iI (m_abs A) := by
  unfold m_abs
  have e : (0 ≤ iI A) ↔ 0 ≤ A := by
    rw [← iI_0]
    exact iI_le i3_0 ⟨by omega, by omega⟩
  by_cases c : 0 ≤ A
  · rw [if_pos (e.mpr c), if_pos c]
  · rw [if_neg (fun q => c (e.mp q)), if_neg c, ← iI_0, ← iI_sub]
    congr 1
    omega
def m_gv (nf : Nat → Int → Int) (f : Int → Int) (d : Int) : Int := if f d < 0 then nf 4 d else nf 3 d
def m_tk (nf : Nat → Int → Int) (f : Int → Int) (d : Int) : Int := if f d < 0 then nf 3 d else nf 4 d
def m_part (nf : Nat → Int → Int) (f hl wh : Int → Int) (d : Int) : Int := hl (m_gv nf f d) * m_abs (f d) / wh (m_gv nf f d)
def m_car (nf : Nat → Int → Int) (f hl wh th : Int → Int) (d : Int) : Int → Int :=
  if f d = 0 ∨ m_gv nf f d < 4 ∨ wh (m_gv nf f d) ≤ 0 then th else pu (pu th (m_gv nf f d) (th (m_gv nf f d) - m_part nf f hl wh d)) (m_tk nf f d) (pu th (m_gv nf f d) (th (m_gv nf f d) - m_part nf f hl wh d) (m_tk nf f d) + m_part nf f hl wh d)
theorem m_gv_b {nf : Nat → Int → Int} {ns : Nat → Int} {da : Int → Int → Int} (f : Int → Int) {d : Int} (hOk : pn_Ok nf ns da) (h0 : 0 ≤ d) (h1 : d < 24) : (0 ≤ m_gv nf f d ∧ m_gv nf f d < 12) ∧ (0 ≤ m_tk nf f d ∧ m_tk nf f d < 12) := by
  obtain ⟨o_zc, o_lc, o_fc, o_ve, o_wi, o_wa, o_vo, o_fr, o_to, o_he, o_ar, o_ki, o_st, o_ff, o_sl, o_dc, o_da⟩ := hOk
  have a1 := o_fr d h0 h1
  have a2 := o_to d h0 h1
  unfold m_gv m_tk
  by_cases c : f d < 0
  · rw [if_pos c, if_pos c]; omega
  · rw [if_neg c, if_neg c]; omega
def pn_Fl (f : Int → Int) : Prop := ∀ j, 0 ≤ j → j < 24 → -27000000 ≤ f j ∧ f j ≤ 27000000
abbrev w_U_giverOf : List Cond := .code y_U_giverOf b_U_giverOf 2 (some .int) :: pn_W
set_option maxHeartbeats 4000000 in
set_option maxRecDepth 100000 in
theorem c_U_giverOf (l : Launch) {D : va_G} {a : Nat → Nat} {cI cL cD cS : ClassId} {nf : Nat → Int → Int} {ns : Nat → Int} {da : Int → Int → Int} {be : Int → Int} {ui ul : Nat → Int → Int} {cn : Int} {ss : Nat → Nat} {mf sd : Nat → Int} {pr : Nat → Int → Int} (d : Int) (hOk : pn_Ok nf ns da) (hf : pn_Fl (ui 1)) (hd : 0 ≤ d ∧ d < 24) : Met l y_U_giverOf w_U_giverOf ({ frames := 0, cells := 0, slots := 0, locals := 0 }) (va_Pc [.ref (a 29), .int (iI (d))] (fun U => va_P D pn_cl (cw a cI cL cD cS nf ns da be ui ul cn ss mf sd pr) U.heap ∧ pn_E D cI cL cD cS U)) (vp_Si (fun r => r = iI (m_gv nf (ui 1) d))) 0 0 (fun _ => False) := by
  refine Met.ofW (cc := b_U_giverOf) (maxL := 2) (ret := (some .int)) (by decide) rfl ?_
  intro p e s m args below meth c s₁ B hml hv
  obtain ⟨rfl, hP, hE⟩ := hv
  have hx := B.exec
  have hb := B.bytes
  have hr := B.returns
  have hts := atoms_spec (ws := w_U_giverOf) B.pre
  have ht : ∀ w ∈ pn_W, w.before _ s = true := fun w h => hts w (List.mem_cons_of_mem _ h)
  have hown : s.vm.findClass R_U = some m.cls := findClass_of_methodNamed B.named
  have hlocks := B.notSynchronized
  have hK := hE.1
  have hl := lv_entry ([.ref (a 29), .int (iI (d))]) (n := 2) (Nat.le_of_ble_eq_true rfl)
  rw [lg_entry_eq]
  generalize (lg_sl ([.ref (a 29), .int (iI (d))]) ++ List.replicate (2 - (lg_sl ([.ref (a 29), .int (iI (d))])).length) Slot.unset).toArray = ls at hl ⊢
  have hl : lv_has ls 2 [(0, .ref (a 29)), (1, .int (iI (d)))] := hl
  obtain ⟨o_zc, o_lc, o_fc, o_ve, o_wi, o_wa, o_vo, o_fr, o_to, o_he, o_ar, o_ki, o_st, o_ff, o_sl, o_dc, o_da⟩ := id hOk
  have a1 := hf d hd.1 hd.2
  refine lv_aload_n hx hb d_U_giverOf_0 rfl (lv_at hl 0 rfl) ?_
  refine va_get (D := D) (ci := 4) (v := .ref (a 32)) (C := R_U) (T := T_U) (N := 6) hx hb hts (in_U _) hown hK hP 29 rfl rfl 3 (by decide) (ht _ m_151) (fun _ h9 => h9) rfl d_U_giverOf_1 ?_
  refine lv_iload_n hx hb d_U_giverOf_4 rfl (lv_at hl 1 rfl) ?_
  refine pr_iald hx hb hK hP 32 0 rfl rfl (by decide) (by omega) (by omega) d_U_giverOf_5 ?_
  refine pr_if_ge (tgt := 21) hx hb (i3_of (by omega) (by omega)) d_U_giverOf_6 (by decide) (fun c_1 => ?_) (fun c_1 => ?_)
  · skip
    refine lv_aload_n hx hb d_U_giverOf_21 rfl (lv_at hl 0 rfl) ?_
    refine va_get (D := D) (ci := 4) (v := .ref (a 1)) (C := R_U) (T := T_U) (N := 6) hx hb hts (in_U _) hown hK hP 29 rfl rfl 2 (by decide) (ht _ m_150) (fun _ h9 => h9) rfl d_U_giverOf_22 ?_
    refine va_get (D := D) (ci := 1) (v := .ref (a 5)) (C := R_N) (T := T_N) (N := 17) hx hb hts (in_N _) hown hK hP 1 rfl rfl 3 (by decide) (ht _ m_70) (fun _ h9 => h9) rfl d_U_giverOf_25 ?_
    refine lv_iload_n hx hb d_U_giverOf_28 rfl (lv_at hl 1 rfl) ?_
    refine pr_iald hx hb hK hP 5 0 rfl rfl (by decide) (by omega) (by omega) d_U_giverOf_29 ?_
    exact pr_ri hx hb hr hlocks d_U_giverOf_30 (by unfold m_gv; first | rw [if_pos (by omega)] | rw [if_neg (by omega)])
  · skip
    refine lv_aload_n hx hb d_U_giverOf_9 rfl (lv_at hl 0 rfl) ?_
    refine va_get (D := D) (ci := 4) (v := .ref (a 1)) (C := R_U) (T := T_U) (N := 6) hx hb hts (in_U _) hown hK hP 29 rfl rfl 2 (by decide) (ht _ m_150) (fun _ h9 => h9) rfl d_U_giverOf_10 ?_
    refine va_get (D := D) (ci := 1) (v := .ref (a 6)) (C := R_N) (T := T_N) (N := 17) hx hb hts (in_N _) hown hK hP 1 rfl rfl 4 (by decide) (ht _ m_72) (fun _ h9 => h9) rfl d_U_giverOf_13 ?_
    refine lv_iload_n hx hb d_U_giverOf_16 rfl (lv_at hl 1 rfl) ?_
    refine pr_iald hx hb hK hP 6 0 rfl rfl (by decide) (by omega) (by omega) d_U_giverOf_17 ?_
    refine lv_goto (tgt := 30) hx hb d_U_giverOf_18 (by decide) ?_
    exact pr_ri hx hb hr hlocks d_U_giverOf_30 (by unfold m_gv; first | rw [if_pos (by omega)] | rw [if_neg (by omega)])
abbrev w_U_takerOf : List Cond := .code y_U_takerOf b_U_takerOf 2 (some .int) :: pn_W
set_option maxHeartbeats 4000000 in
set_option maxRecDepth 100000 in
theorem c_U_takerOf (l : Launch) {D : va_G} {a : Nat → Nat} {cI cL cD cS : ClassId} {nf : Nat → Int → Int} {ns : Nat → Int} {da : Int → Int → Int} {be : Int → Int} {ui ul : Nat → Int → Int} {cn : Int} {ss : Nat → Nat} {mf sd : Nat → Int} {pr : Nat → Int → Int} (d : Int) (hOk : pn_Ok nf ns da) (hf : pn_Fl (ui 1)) (hd : 0 ≤ d ∧ d < 24) : Met l y_U_takerOf w_U_takerOf ({ frames := 0, cells := 0, slots := 0, locals := 0 }) (va_Pc [.ref (a 29), .int (iI (d))] (fun U => va_P D pn_cl (cw a cI cL cD cS nf ns da be ui ul cn ss mf sd pr) U.heap ∧ pn_E D cI cL cD cS U)) (vp_Si (fun r => r = iI (m_tk nf (ui 1) d))) 0 0 (fun _ => False) := by
  refine Met.ofW (cc := b_U_takerOf) (maxL := 2) (ret := (some .int)) (by decide) rfl ?_
  intro p e s m args below meth c s₁ B hml hv
  obtain ⟨rfl, hP, hE⟩ := hv
  have hx := B.exec
  have hb := B.bytes
  have hr := B.returns
  have hts := atoms_spec (ws := w_U_takerOf) B.pre
  have ht : ∀ w ∈ pn_W, w.before _ s = true := fun w h => hts w (List.mem_cons_of_mem _ h)
  have hown : s.vm.findClass R_U = some m.cls := findClass_of_methodNamed B.named
  have hlocks := B.notSynchronized
  have hK := hE.1
  have hl := lv_entry ([.ref (a 29), .int (iI (d))]) (n := 2) (Nat.le_of_ble_eq_true rfl)
  rw [lg_entry_eq]
  generalize (lg_sl ([.ref (a 29), .int (iI (d))]) ++ List.replicate (2 - (lg_sl ([.ref (a 29), .int (iI (d))])).length) Slot.unset).toArray = ls at hl ⊢
  have hl : lv_has ls 2 [(0, .ref (a 29)), (1, .int (iI (d)))] := hl
  obtain ⟨o_zc, o_lc, o_fc, o_ve, o_wi, o_wa, o_vo, o_fr, o_to, o_he, o_ar, o_ki, o_st, o_ff, o_sl, o_dc, o_da⟩ := id hOk
  have a1 := hf d hd.1 hd.2
  refine lv_aload_n hx hb d_U_takerOf_0 rfl (lv_at hl 0 rfl) ?_
  refine va_get (D := D) (ci := 4) (v := .ref (a 32)) (C := R_U) (T := T_U) (N := 6) hx hb hts (in_U _) hown hK hP 29 rfl rfl 3 (by decide) (ht _ m_151) (fun _ h9 => h9) rfl d_U_takerOf_1 ?_
  refine lv_iload_n hx hb d_U_takerOf_4 rfl (lv_at hl 1 rfl) ?_
  refine pr_iald hx hb hK hP 32 0 rfl rfl (by decide) (by omega) (by omega) d_U_takerOf_5 ?_
  refine pr_if_ge (tgt := 21) hx hb (i3_of (by omega) (by omega)) d_U_takerOf_6 (by decide) (fun c_1 => ?_) (fun c_1 => ?_)
  · skip
    refine lv_aload_n hx hb d_U_takerOf_21 rfl (lv_at hl 0 rfl) ?_
    refine va_get (D := D) (ci := 4) (v := .ref (a 1)) (C := R_U) (T := T_U) (N := 6) hx hb hts (in_U _) hown hK hP 29 rfl rfl 2 (by decide) (ht _ m_150) (fun _ h9 => h9) rfl d_U_takerOf_22 ?_
    refine va_get (D := D) (ci := 1) (v := .ref (a 6)) (C := R_N) (T := T_N) (N := 17) hx hb hts (in_N _) hown hK hP 1 rfl rfl 4 (by decide) (ht _ m_72) (fun _ h9 => h9) rfl d_U_takerOf_25 ?_
    refine lv_iload_n hx hb d_U_takerOf_28 rfl (lv_at hl 1 rfl) ?_
    refine pr_iald hx hb hK hP 6 0 rfl rfl (by decide) (by omega) (by omega) d_U_takerOf_29 ?_
    exact pr_ri hx hb hr hlocks d_U_takerOf_30 (by unfold m_tk; first | rw [if_pos (by omega)] | rw [if_neg (by omega)])
  · skip
    refine lv_aload_n hx hb d_U_takerOf_9 rfl (lv_at hl 0 rfl) ?_
    refine va_get (D := D) (ci := 4) (v := .ref (a 1)) (C := R_U) (T := T_U) (N := 6) hx hb hts (in_U _) hown hK hP 29 rfl rfl 2 (by decide) (ht _ m_150) (fun _ h9 => h9) rfl d_U_takerOf_10 ?_
    refine va_get (D := D) (ci := 1) (v := .ref (a 5)) (C := R_N) (T := T_N) (N := 17) hx hb hts (in_N _) hown hK hP 1 rfl rfl 3 (by decide) (ht _ m_70) (fun _ h9 => h9) rfl d_U_takerOf_13 ?_
    refine lv_iload_n hx hb d_U_takerOf_16 rfl (lv_at hl 1 rfl) ?_
    refine pr_iald hx hb hK hP 5 0 rfl rfl (by decide) (by omega) (by omega) d_U_takerOf_17 ?_
    refine lv_goto (tgt := 30) hx hb d_U_takerOf_18 (by decide) ?_
    exact pr_ri hx hb hr hlocks d_U_takerOf_30 (by unfold m_tk; first | rw [if_pos (by omega)] | rw [if_neg (by omega)])
abbrev w_U_carry : List Cond := .code y_U_carry b_U_carry 5 none :: pn_W
set_option maxHeartbeats 4000000 in
set_option maxRecDepth 100000 in
theorem c_U_carry (l : Launch) {D : va_G} {a : Nat → Nat} {cI cL cD cS : ClassId} {nf : Nat → Int → Int} {ns : Nat → Int} {da : Int → Int → Int} {be : Int → Int} {ui ul : Nat → Int → Int} {cn : Int} {ss : Nat → Nat} {mf sd : Nat → Int} {pr : Nat → Int → Int} (sz : Nat) (d : Int) (hOk : pn_Ok nf ns da) (hf : pn_Fl (ui 1)) (hd : 0 ≤ d ∧ d < 24) (hh : ∀ j, 4 ≤ j → j < 12 → 0 ≤ ul 0 j ∧ ul 0 j ≤ 1000000000) (hw : ∀ j, 0 ≤ j → j < 12 → 0 ≤ ul 1 j ∧ ul 1 j ≤ 1000000000) : Met l y_U_carry w_U_carry ({ frames := 1, cells := 0, slots := 0, locals := 21 }) (va_Pc [.ref (a 29), .int (iI (d))] (fun U => U.heap.size = sz ∧ va_P D pn_cl (cw a cI cL cD cS nf ns da be ui ul cn ss mf sd pr) U.heap ∧ va_D (fun _ => True) (cw a cI cL cD cS nf ns da be ui ul cn ss mf sd pr) ∧ pn_E D cI cL cD cS U)) (va_Qv (fun _ : Unit => True) (fun u t => va_P D pn_cl ((fun _ : Unit => cw a cI cL cD cS nf ns da be ui (nw ul 2 (m_car nf (ui 1) (ul 0) (ul 1) (ul 2) d)) cn ss mf sd pr) u) t.heap ∧ va_D (va_A (cw a cI cL cD cS nf ns da be ui ul cn ss mf sd pr) sz) ((fun _ : Unit => cw a cI cL cD cS nf ns da be ui (nw ul 2 (m_car nf (ui 1) (ul 0) (ul 1) (ul 2) d)) cn ss mf sd pr) u)) (va_A (cw a cI cL cD cS nf ns da be ui ul cn ss mf sd pr) sz)) 0 0 (va_A (cw a cI cL cD cS nf ns da be ui ul cn ss mf sd pr) sz) := by
  refine Met.ofW (cc := b_U_carry) (maxL := 5) (ret := none) (by decide) rfl ?_
  intro p e s m args below meth c s₁ B hml hv
  obtain ⟨rfl, hsz, hP, hD0, hE⟩ := hv
  have hx := B.exec
  have hb := B.bytes
  have hr := B.returns
  have hts := atoms_spec (ws := w_U_carry) B.pre
  have ht : ∀ w ∈ pn_W, w.before _ s = true := fun w h => hts w (List.mem_cons_of_mem _ h)
  have hown : s.vm.findClass R_U = some m.cls := findClass_of_methodNamed B.named
  have hlocks := B.notSynchronized
  have hK := hE.1
  subst hsz
  have hD := hD0.self (sz := s.heap.size)
  generalize hAe : va_A (cw a cI cL cD cS nf ns da be ui ul cn ss mf sd pr) s.heap.size = A at hD ⊢
  have hA : ∀ q : Nat, s.heap.size ≤ q → A q := fun q h => by rw [← hAe]; exact Or.inr h
  have hS : va_S A s.heap s.heap [] := va_S.rf
  have hl := lv_entry ([.ref (a 29), .int (iI (d))]) (n := 5) (Nat.le_of_ble_eq_true rfl)
  rw [lg_entry_eq]
  generalize (lg_sl ([.ref (a 29), .int (iI (d))]) ++ List.replicate (5 - (lg_sl ([.ref (a 29), .int (iI (d))])).length) Slot.unset).toArray = ls at hl ⊢
  have hl : lv_has ls 5 [(0, .ref (a 29)), (1, .int (iI (d)))] := hl
  obtain ⟨o_zc, o_lc, o_fc, o_ve, o_wi, o_wa, o_vo, o_fr, o_to, o_he, o_ar, o_ki, o_st, o_ff, o_sl, o_dc, o_da⟩ := id hOk
  have a1 := hf d hd.1 hd.2
  obtain ⟨v1, v2⟩ := m_gv_b (ui 1) hOk hd.1 hd.2
  have w1 := hw (m_gv nf (ui 1) (d)) v1.1 v1.2
  refine lv_aload_n hx hb d_U_carry_0 rfl (lv_at hl 0 rfl) ?_
  refine lv_iload_n hx hb d_U_carry_1 rfl (lv_at hl 1 rfl) ?_
  refine pr_pi (va_runV (As := [.int (iI (d))]) (rest := []) ⟨hx, hb, hml, hown, hts⟩ (c_U_giverOf l (d) hOk hf ⟨by omega, by omega⟩) (cwV 1 hts (pn_gV m_552 m_554 m_13 m_36 m_555) rfl rfl rfl (by decide +kernel) ⟨Nat.le_of_ble_eq_true rfl, Nat.le_of_ble_eq_true rfl⟩) (pn_preV (q0 := 29) (ci := 4) (q := (R_U, T_U, 6)) hP hE rfl rfl) rfl rfl hl.1 rfl (lv_room (Nat.le_of_ble_eq_true rfl)) d_U_carry_2 ⟨Nat.le_of_ble_eq_true rfl, Nat.le_of_ble_eq_true rfl⟩) ?_
  refine lv_istore_n (lv' := [(2, .int (iI (m_gv nf (ui 1) (d)))), (0, .ref (a 29)), (1, .int (iI (d)))]) hx hb d_U_carry_5 rfl hl (by decide) rfl (fun ls hl => ?_)
  refine lv_aload_n hx hb d_U_carry_6 rfl (lv_at hl 1 rfl) ?_
  refine va_get (D := D) (ci := 4) (v := .ref (a 32)) (C := R_U) (T := T_U) (N := 6) hx hb hts (in_U _) hown hK hP 29 rfl rfl 3 (by decide) (ht _ m_151) (fun _ h9 => h9) rfl d_U_carry_7 ?_
  refine lv_iload_n hx hb d_U_carry_10 rfl (lv_at hl 2 rfl) ?_
  refine pr_iald hx hb hK hP 32 0 rfl rfl (by decide) (by omega) (by omega) d_U_carry_11 ?_
  refine pr_if_eq (tgt := 31) hx hb (i3_of (by omega) (by omega)) d_U_carry_12 (by decide) (fun c_1 => ?_) (fun c_1 => ?_)
  · skip
    have e9 : m_car nf (ui 1) (ul 0) (ul 1) (ul 2) d = ul 2 := if_pos (by omega)
    have hP : va_P D pn_cl (cw a cI cL cD cS nf ns da be ui (nw ul 2 (m_car nf (ui 1) (ul 0) (ul 1) (ul 2) d)) cn ss mf sd pr) s.heap := by rw [e9, nw_self]; exact hP
    have hD : va_D A (cw a cI cL cD cS nf ns da be ui (nw ul 2 (m_car nf (ui 1) (ul 0) (ul 1) (ul 2) d)) cn ss mf sd pr) := by rw [e9, nw_self]; exact hD
    exact W.vret hx hb hr (fun t ht hW => ⟨⟨(), rfl, trivial, by rw [ht]; exact hP, hD⟩, hS.F ht⟩) hS.2.2 d_U_carry_31
  · skip
    refine lv_iload_n hx hb d_U_carry_15 rfl (lv_at hl 0 rfl) ?_
    refine lv_iconst (v := iI (4)) hx hb d_U_carry_16 rfl ?_
    refine pr_icmp_lt (tgt := 31) hx hb (i3_of (by omega) (by omega)) (i3_of (by decide) (by decide)) d_U_carry_17 (by decide) (fun c_2 => ?_) (fun c_2 => ?_)
    · skip
      have e9 : m_car nf (ui 1) (ul 0) (ul 1) (ul 2) d = ul 2 := if_pos (by omega)
      have hP : va_P D pn_cl (cw a cI cL cD cS nf ns da be ui (nw ul 2 (m_car nf (ui 1) (ul 0) (ul 1) (ul 2) d)) cn ss mf sd pr) s.heap := by rw [e9, nw_self]; exact hP
      have hD : va_D A (cw a cI cL cD cS nf ns da be ui (nw ul 2 (m_car nf (ui 1) (ul 0) (ul 1) (ul 2) d)) cn ss mf sd pr) := by rw [e9, nw_self]; exact hD
      exact W.vret hx hb hr (fun t ht hW => ⟨⟨(), rfl, trivial, by rw [ht]; exact hP, hD⟩, hS.F ht⟩) hS.2.2 d_U_carry_31
    · skip
      refine lv_aload_n hx hb d_U_carry_20 rfl (lv_at hl 1 rfl) ?_
      refine va_get (D := D) (ci := 4) (v := .ref (a 33)) (C := R_U) (T := T_U) (N := 6) hx hb hts (in_U _) hown hK hP 29 rfl rfl 4 (by decide) (ht _ m_152) (fun _ h9 => h9) rfl d_U_carry_21 ?_
      refine lv_iload_n hx hb d_U_carry_24 rfl (lv_at hl 0 rfl) ?_
      refine pr_lald hx hb hK hP 33 1 rfl rfl (by decide) (by omega) (by omega) d_U_carry_25 ?_
      refine lv_lconst (v := lI 0) hx hb d_U_carry_26 (by decide) ?_
      refine pr_lcmp_gt (tgt := 32) hx hb (i6_of (by omega) (by omega)) (i6_of (by decide) (by decide)) d_U_carry_27 d_U_carry_28 (by decide) (fun c_3 => ?_) (fun c_3 => ?_)
      · skip
        have h1 := hh (m_gv nf (ui 1) (d)) (by omega) (by omega)
        have ab : 0 ≤ m_abs (ui 1 d) ∧ m_abs (ui 1 d) ≤ 27000000 := by unfold m_abs; by_cases c : 0 ≤ ui 1 d; rw [if_pos c]; omega; rw [if_neg c]; omega
        have mb := mul_b (x := ul 0 (m_gv nf (ui 1) (d))) (y := m_abs (ui 1 d)) (X := 1000000000) (Y := 27000000) (by omega) (by omega) (by omega) (by omega)
        have mn : 0 ≤ ul 0 (m_gv nf (ui 1) (d)) * m_abs (ui 1 d) := Int.mul_nonneg h1.1 ab.1
        refine lv_aload_n hx hb d_U_carry_32 rfl (lv_at hl 1 rfl) ?_
        refine va_get (D := D) (ci := 4) (v := .ref (a 30)) (C := R_U) (T := T_U) (N := 6) hx hb hts (in_U _) hown hK hP 29 rfl rfl 0 (by decide) (ht _ m_146) (fun _ h9 => h9) rfl d_U_carry_33 ?_
        refine lv_iload_n hx hb d_U_carry_36 rfl (lv_at hl 0 rfl) ?_
        refine pr_lald hx hb hK hP 30 1 rfl rfl (by decide) (by omega) (by omega) d_U_carry_37 ?_
        refine lv_aload_n hx hb d_U_carry_38 rfl (lv_at hl 1 rfl) ?_
        refine va_get (D := D) (ci := 4) (v := .ref (a 32)) (C := R_U) (T := T_U) (N := 6) hx hb hts (in_U _) hown hK hP 29 rfl rfl 3 (by decide) (ht _ m_151) (fun _ h9 => h9) rfl d_U_carry_39 ?_
        refine lv_iload_n hx hb d_U_carry_42 rfl (lv_at hl 2 rfl) ?_
        refine pr_iald hx hb hK hP 32 0 rfl rfl (by decide) (by omega) (by omega) d_U_carry_43 ?_
        refine va_mabs hx hb (hml.trans hl.1.symm) hown (ht _ m_556) (ht _ m_557) (ht _ m_46) (ht _ m_558) (Nat.le_of_ble_eq_true rfl) (Nat.le_of_ble_eq_true rfl) (Nat.le_of_ble_eq_true rfl) (Nat.le_of_ble_eq_true rfl) d_U_carry_44 ?_
        refine pr_ixe (B := m_abs (ui 1 (d))) (iI_abs ⟨by omega, by omega⟩) ?_
        refine pr_i2l hx hb (i3_of (by omega) (by omega)) d_U_carry_47 ?_
        refine pr_lmul hx hb d_U_carry_48 ?_
        refine lv_aload_n hx hb d_U_carry_49 rfl (lv_at hl 1 rfl) ?_
        refine va_get (D := D) (ci := 4) (v := .ref (a 33)) (C := R_U) (T := T_U) (N := 6) hx hb hts (in_U _) hown hK hP 29 rfl rfl 4 (by decide) (ht _ m_152) (fun _ h9 => h9) rfl d_U_carry_50 ?_
        refine lv_iload_n hx hb d_U_carry_53 rfl (lv_at hl 0 rfl) ?_
        refine pr_lald hx hb hK hP 33 1 rfl rfl (by decide) (by omega) (by omega) d_U_carry_54 ?_
        refine pr_ldiv hx hb (i6_of (by omega) (by omega)) (i6_of (by omega) (by omega)) (by omega) d_U_carry_55 ?_
        refine pr_lre (B := m_part nf (ui 1) (ul 0) (ul 1) d) (Int.tdiv_eq_ediv_of_nonneg mn) ?_
        refine lv_lstore_n (lv' := [(3, .long (lI (m_part nf (ui 1) (ul 0) (ul 1) d))), (2, .int (iI (m_gv nf (ui 1) (d)))), (0, .ref (a 29)), (1, .int (iI (d)))]) hx hb d_U_carry_56 rfl hl (by decide) rfl (fun ls hl => ?_)
        refine lv_aload_n hx hb d_U_carry_57 rfl (lv_at hl 2 rfl) ?_
        refine va_get (D := D) (ci := 4) (v := .ref (a 34)) (C := R_U) (T := T_U) (N := 6) hx hb hts (in_U _) hown hK hP 29 rfl rfl 5 (by decide) (ht _ m_153) (fun _ h9 => h9) rfl d_U_carry_58 ?_
        refine lv_iload_n hx hb d_U_carry_61 rfl (lv_at hl 1 rfl) ?_
        refine lv_dup2_11 hx hb d_U_carry_62 rfl rfl ?_
        refine pr_lald hx hb hK hP 34 1 rfl rfl (by decide) (by omega) (by omega) d_U_carry_63 ?_
        refine lv_lload_n hx hb d_U_carry_64 rfl (lv_at hl 0 rfl) ?_
        refine pr_lsub hx hb d_U_carry_65 ?_
        refine pr_last (ws' := cw a cI cL cD cS nf ns da be ui (nw ul 2 (pu (ul 2) (m_gv nf (ui 1) (d)) ((ul 2 (m_gv nf (ui 1) (d))) - (m_part nf (ui 1) (ul 0) (ul 1) d)))) cn ss mf sd pr) hx hb hK hP hD hS 34 1 rfl rfl (by decide) (by omega) (by omega) rfl d_U_carry_66 (fun H locs hP hD hS => ?_)
        refine lv_aload_n hx hb d_U_carry_67 rfl (lv_at hl 2 rfl) ?_
        refine va_get (D := D) (ci := 4) (v := .ref (a 34)) (C := R_U) (T := T_U) (N := 6) hx hb hts (in_U _) hown hK hP 29 rfl rfl 5 (by decide) (ht _ m_153) (fun _ h9 => h9) rfl d_U_carry_68 ?_
        refine lv_aload_n hx hb d_U_carry_71 rfl (lv_at hl 2 rfl) ?_
        refine lv_iload_n hx hb d_U_carry_72 rfl (lv_at hl 3 rfl) ?_
        refine pr_pi (va_runV (As := [.int (iI (d))]) (rest := [.ref (a 34)]) ⟨hx, hb, hml, hown, hts⟩ (c_U_takerOf l (d) hOk hf ⟨by omega, by omega⟩) (cwV 1 hts (pn_gV m_572 m_574 m_15 m_36 m_575) rfl rfl rfl (by decide +kernel) ⟨Nat.le_of_ble_eq_true rfl, Nat.le_of_ble_eq_true rfl⟩) (pn_preV (q0 := 29) (ci := 4) (q := (R_U, T_U, 6)) hP hE rfl rfl) rfl rfl hl.1 rfl (lv_room (Nat.le_of_ble_eq_true rfl)) d_U_carry_73 ⟨Nat.le_of_ble_eq_true rfl, Nat.le_of_ble_eq_true rfl⟩) ?_
        refine lv_dup2_11 hx hb d_U_carry_76 rfl rfl ?_
        refine pr_lald hx hb hK hP 34 1 rfl rfl (by decide) (by omega) (by omega) d_U_carry_77 ?_
        refine lv_lload_n hx hb d_U_carry_78 rfl (lv_at hl 0 rfl) ?_
        refine pr_ladd hx hb d_U_carry_79 ?_
        refine pr_last (ws' := cw a cI cL cD cS nf ns da be ui (nw (nw ul 2 (pu (ul 2) (m_gv nf (ui 1) (d)) ((ul 2 (m_gv nf (ui 1) (d))) - (m_part nf (ui 1) (ul 0) (ul 1) d)))) 2 (pu ((nw ul 2 (pu (ul 2) (m_gv nf (ui 1) (d)) ((ul 2 (m_gv nf (ui 1) (d))) - (m_part nf (ui 1) (ul 0) (ul 1) d)))) 2) (m_tk nf (ui 1) (d)) (((nw ul 2 (pu (ul 2) (m_gv nf (ui 1) (d)) ((ul 2 (m_gv nf (ui 1) (d))) - (m_part nf (ui 1) (ul 0) (ul 1) d)))) 2 (m_tk nf (ui 1) (d))) + (m_part nf (ui 1) (ul 0) (ul 1) d)))) cn ss mf sd pr) hx hb hK hP hD hS 34 1 rfl rfl (by decide) (by omega) (by omega) rfl d_U_carry_80 (fun H locs hP hD hS => ?_)
        have e9 : nw (nw ul 2 (pu (ul 2) (m_gv nf (ui 1) (d)) ((ul 2 (m_gv nf (ui 1) (d))) - (m_part nf (ui 1) (ul 0) (ul 1) d)))) 2 (pu ((nw ul 2 (pu (ul 2) (m_gv nf (ui 1) (d)) ((ul 2 (m_gv nf (ui 1) (d))) - (m_part nf (ui 1) (ul 0) (ul 1) d)))) 2) (m_tk nf (ui 1) (d)) (((nw ul 2 (pu (ul 2) (m_gv nf (ui 1) (d)) ((ul 2 (m_gv nf (ui 1) (d))) - (m_part nf (ui 1) (ul 0) (ul 1) d)))) 2 (m_tk nf (ui 1) (d))) + (m_part nf (ui 1) (ul 0) (ul 1) d))) = nw ul 2 (m_car nf (ui 1) (ul 0) (ul 1) (ul 2) d) := by rw [nw_nw, nw_s]; unfold m_car; rw [if_neg (by omega)]
        rw [e9] at hP hD
        clear e9
        exact W.vret hx hb hr (fun t ht hW => ⟨⟨(), rfl, trivial, by rw [ht]; exact hP, hD⟩, hS.F ht⟩) hS.2.2 d_U_carry_81
      · skip
        have e9 : m_car nf (ui 1) (ul 0) (ul 1) (ul 2) d = ul 2 := if_pos (by omega)
        have hP : va_P D pn_cl (cw a cI cL cD cS nf ns da be ui (nw ul 2 (m_car nf (ui 1) (ul 0) (ul 1) (ul 2) d)) cn ss mf sd pr) s.heap := by rw [e9, nw_self]; exact hP
        have hD : va_D A (cw a cI cL cD cS nf ns da be ui (nw ul 2 (m_car nf (ui 1) (ul 0) (ul 1) (ul 2) d)) cn ss mf sd pr) := by rw [e9, nw_self]; exact hD
        exact W.vret hx hb hr (fun t ht hW => ⟨⟨(), rfl, trivial, by rw [ht]; exact hP, hD⟩, hS.F ht⟩) hS.2.2 d_U_carry_31
