/-! rows for constructors -/
theorem vc_i (cA : ClassId) (n : Nat) : vp_cell cA (n, .inl (ai (fun _ => 0))) = arrV cA n (fun _ => defaultValue .int) := rfl
theorem vc_l (cA : ClassId) (n : Nat) : vp_cell cA (n, .inr (.inl (al (fun _ => 0)))) = arrV cA n (fun _ => defaultValue .long) := rfl
theorem vc_z (cA : ClassId) (n : Nat) : vp_cell cA (n, .inl (ai (fun _ => 0))) = arrV cA n (fun _ => defaultValue .boolean) := rfl
section VCU
variable {D : va_G} {cl : List vw_C} {tys : List (ClassId × FieldType)} {s : State} {cA cI : ClassId}
theorem vc_last {x : ClassId × FieldType} (h : va_K D cl (tys ++ [x]) s) : va_RA s x.1 x.2 := (h.2 tys.length x (by simp)).2
theorem vc_iu (h : va_K D cl (tys ++ [(cA, .int)]) s) (h2 : va_RA s cI .int) : cA = cI := Option.some.inj ((va_nm_int (vc_last h)).symm.trans (va_nm_int h2))
theorem vc_lu (h : va_K D cl (tys ++ [(cA, .long)]) s) (h2 : va_RA s cI .long) : cA = cI := Option.some.inj ((va_nm_long (vc_last h)).symm.trans (va_nm_long h2))
theorem vc_zu (h : va_K D cl (tys ++ [(cA, .boolean)]) s) (h2 : va_RA s cI .boolean) : cA = cI := Option.some.inj ((va_nm_boolean (vc_last h)).symm.trans (va_nm_boolean h2))
theorem vc_qu {C : String} (h : va_K D cl (tys ++ [(cA, .object C)]) s) (h2 : va_RA s cI (.object C)) : cA = cI := by
  obtain ⟨_, _, _, _, _, e1⟩ := vc_last h
  obtain ⟨_, _, _, _, _, e2⟩ := h2
  exact Option.some.inj (e1.symm.trans e2)
end VCU
theorem vc_P : ∀ j, j < 6 → defaultValue (ty_P j) = vp_V [.null, .null, .null, .null, .null, .int (iI 0)] j := by
  intro j hj
  rcases (show j = 0 ∨ j = 1 ∨ j = 2 ∨ j = 3 ∨ j = 4 ∨ j = 5 by omega) with rfl | rfl | rfl | rfl | rfl | rfl <;> rfl
theorem vc_N : ∀ j, j < 17 → defaultValue (ty_N j) = vp_V [.null, .null, .null, .null, .null, .null, .null, .null, .null, .null, .null, .null, .null, .int (iI 0), .int (iI 0), .int (iI 0), .int (iI 0)] j := by
  intro j hj
  rcases (show j = 0 ∨ j = 1 ∨ j = 2 ∨ j = 3 ∨ j = 4 ∨ j = 5 ∨ j = 6 ∨ j = 7 ∨ j = 8 ∨ j = 9 ∨ j = 10 ∨ j = 11 ∨ j = 12 ∨ j = 13 ∨ j = 14 ∨ j = 15 ∨ j = 16 by omega) with rfl | rfl | rfl | rfl | rfl | rfl | rfl | rfl | rfl | rfl | rfl | rfl | rfl | rfl | rfl | rfl | rfl <;> rfl
theorem vc_S : ∀ j, j < 2 → defaultValue (ty_S j) = vp_V [.null, .null] j := by
  intro j hj
  rcases (show j = 0 ∨ j = 1 by omega) with rfl | rfl <;> rfl
theorem vc_T : ∀ j, j < 4 → defaultValue (ty_T j) = vp_V [.null, .int (iI 0), .int (iI 0), .int (iI 0)] j := by
  intro j hj
  rcases (show j = 0 ∨ j = 1 ∨ j = 2 ∨ j = 3 by omega) with rfl | rfl | rfl | rfl <;> rfl
theorem vc_U : ∀ j, j < 6 → defaultValue (ty_U j) = vp_V [.null, .null, .null, .null, .null, .null] j := by
  intro j hj
  rcases (show j = 0 ∨ j = 1 ∨ j = 2 ∨ j = 3 ∨ j = 4 ∨ j = 5 by omega) with rfl | rfl | rfl | rfl | rfl | rfl <;> rfl
theorem vc_M : ∀ j, j < 27 → defaultValue (ty_M j) = vp_V [.int (iI 0), .null, .int (iI 0), .int (iI 0), .null, .null, .null, .null, .int (iI 0), .null, .null, .null, .null, .null, .null, .int (iI 0), .null, .null, .null, .null, .int (iI 0), .null, .null, .null, .int (iI 0), .null, .null] j := by
  intro j hj
  rcases (show j = 0 ∨ j = 1 ∨ j = 2 ∨ j = 3 ∨ j = 4 ∨ j = 5 ∨ j = 6 ∨ j = 7 ∨ j = 8 ∨ j = 9 ∨ j = 10 ∨ j = 11 ∨ j = 12 ∨ j = 13 ∨ j = 14 ∨ j = 15 ∨ j = 16 ∨ j = 17 ∨ j = 18 ∨ j = 19 ∨ j = 20 ∨ j = 21 ∨ j = 22 ∨ j = 23 ∨ j = 24 ∨ j = 25 ∨ j = 26 by omega) with rfl | rfl | rfl | rfl | rfl | rfl | rfl | rfl | rfl | rfl | rfl | rfl | rfl | rfl | rfl | rfl | rfl | rfl | rfl | rfl | rfl | rfl | rfl | rfl | rfl | rfl | rfl <;> rfl
abbrev w_T_init : List Cond := .code y_T_init b_T_init 1 none :: pn_W
set_option maxHeartbeats 4000000 in
set_option maxRecDepth 100000 in
theorem c_T_init (l : Launch) {D : va_G} {cI cL cD cS : ClassId} (sz h0 : Nat)  : Met l y_T_init w_T_init ({ frames := 1, cells := 1, slots := 12, locals := 12 }) (va_Pc [.ref (h0)] (fun U => U.heap.size = sz ∧ va_P D pn_cl [(h0, .inr (3, [.null, .int (iI 0), .int (iI 0), .int (iI 0)]))] U.heap ∧ va_D (fun _ => True) [(h0, .inr (3, [.null, .int (iI 0), .int (iI 0), .int (iI 0)]))] ∧ pn_E D cI cL cD cS U)) (va_Qv (fun _ : Nat → Nat => True) (fun u t => va_P D pn_cl ((fun u : Nat → Nat => [(h0, .inr (3, [.ref (u 0), .int (iI 0), .int (iI (-1)), .int (iI 0)])), (u 0, .inl (cI, 12, .inl (ai (fun _ => 0))))]) u) t.heap ∧ va_D (va_A [(h0, .inr (3, [.null, .int (iI 0), .int (iI 0), .int (iI 0)]))] sz) ((fun u : Nat → Nat => [(h0, .inr (3, [.ref (u 0), .int (iI 0), .int (iI (-1)), .int (iI 0)])), (u 0, .inl (cI, 12, .inl (ai (fun _ => 0))))]) u)) (va_A [(h0, .inr (3, [.null, .int (iI 0), .int (iI 0), .int (iI 0)]))] sz)) 1 12 (va_A [(h0, .inr (3, [.null, .int (iI 0), .int (iI 0), .int (iI 0)]))] sz) := by
  refine Met.ofW (cc := b_T_init) (maxL := 1) (ret := none) (by decide) rfl ?_
  intro p e s m args below meth c s₁ B hml hv
  obtain ⟨rfl, hsz, hP, hD0, hE⟩ := hv
  have hx := B.exec
  have hb := B.bytes
  have hr := B.returns
  have hts := atoms_spec (ws := w_T_init) B.pre
  have ht : ∀ w ∈ pn_W, w.before _ s = true := fun w h => hts w (List.mem_cons_of_mem _ h)
  have hown : s.vm.findClass R_T = some m.cls := findClass_of_methodNamed B.named
  have hlocks := B.notSynchronized
  have hin : meth.name = "<init>" := (name_of_methodNamed B.named B.method).1
  have hK := hE.1
  subst hsz
  have hD := hD0.self (sz := s.heap.size)
  generalize hAe : va_A [(h0, .inr (3, [.null, .int (iI 0), .int (iI 0), .int (iI 0)]))] s.heap.size = A at hD ⊢
  have hA : ∀ q : Nat, s.heap.size ≤ q → A q := fun q h => by rw [← hAe]; exact Or.inr h
  have hS : va_S A s.heap s.heap [] := va_S.rf
  have hl := lv_entry ([.ref (h0)]) (n := 1) (Nat.le_of_ble_eq_true rfl)
  rw [lg_entry_eq]
  generalize (lg_sl ([.ref (h0)]) ++ List.replicate (1 - (lg_sl ([.ref (h0)])).length) Slot.unset).toArray = ls at hl ⊢
  have hl : lv_has ls 1 [(0, .ref (h0))] := hl
  refine lv_aload_n hx hb d_T_init_0 rfl (lv_at hl 0 rfl) ?_
  refine W.objInit hx hb hown (ht _ m_173) (ht _ m_53) (ht _ m_54) rfl (by rw [hml]; exact hl.1) rfl d_T_init_1 (Nat.le_of_ble_eq_true rfl) (Nat.le_of_ble_eq_true rfl) ?_
  refine W.eq (g2 := F0 m 4 ls []) rfl ?_
  refine lv_aload_n hx hb d_T_init_4 rfl (lv_at hl 0 rfl) ?_
  refine lv_bipush (v := iI (12)) hx hb d_T_init_5 (by decide) ?_
  refine va_newa (atype := .int) (ty := .int) (N' := 12) (a0 := (12, .inl (ai (fun _ => 0)))) hx hb (ht _ m_126) rfl hK hP hD hS hA (fun cA => vc_i cA 12) (by decide) (by decide) (by decide) (Nat.le_of_ble_eq_true rfl) (Nat.le_of_ble_eq_true rfl) d_T_init_7 (fun q1 cA9 H hK9 hP hD hS => ?_)
  obtain rfl : cI = cA9 := (vc_iu hK9 (hK.2 0 _ rfl).2).symm
  clear hK9
  have hP : va_P D pn_cl [(h0, .inr (3, [.null, .int (iI 0), .int (iI 0), .int (iI 0)])), (q1, .inl (cI, 12, .inl (ai (fun _ => 0))))] H := hP
  have hD : va_D A [(h0, .inr (3, [.null, .int (iI 0), .int (iI 0), .int (iI 0)])), (q1, .inl (cI, 12, .inl (ai (fun _ => 0))))] := hD
  refine W.widen (k := 1) (n := 12) (by decide) (by decide) ?_
  refine va_putF (D := D) (ci := 3) (v := .ref (q1)) (ty := (.array .int)) (C := R_T) (T := T_T) (N := 4) hx hb hts (in_T _) ty_T ty_T_ok nm_T hown hK hP hD hS 0 rfl rfl 0 (by decide) (ht _ m_174) (fun _ h9 => h9) rfl hin rfl (by decide +kernel) rfl rfl (Nat.le_of_ble_eq_true rfl) d_T_init_9 (fun H locs hP hD hS => ?_)
  have hP : va_P D pn_cl [(h0, .inr (3, [.ref (q1), .int (iI 0), .int (iI 0), .int (iI 0)])), (q1, .inl (cI, 12, .inl (ai (fun _ => 0))))] H := hP
  have hD : va_D A [(h0, .inr (3, [.ref (q1), .int (iI 0), .int (iI 0), .int (iI 0)])), (q1, .inl (cI, 12, .inl (ai (fun _ => 0))))] := hD
  refine lv_aload_n hx hb d_T_init_12 rfl (lv_at hl 0 rfl) ?_
  refine lv_iconst (v := iI (0)) hx hb d_T_init_13 rfl ?_
  refine va_put (D := D) (ci := 3) (v := .int (iI (0))) (ty := .int) (C := R_T) (T := T_T) (N := 4) hx hb hts (in_T _) ty_T ty_T_ok nm_T hown hK hP hD hS 0 rfl rfl 1 (by decide) (ht _ m_178) (fun _ h9 => h9) rfl (by decide +kernel) rfl rfl (Nat.le_of_ble_eq_true rfl) d_T_init_14 (fun H locs hP hD hS => ?_)
  have hP : va_P D pn_cl [(h0, .inr (3, [.ref (q1), .int (iI (0)), .int (iI 0), .int (iI 0)])), (q1, .inl (cI, 12, .inl (ai (fun _ => 0))))] H := hP
  have hD : va_D A [(h0, .inr (3, [.ref (q1), .int (iI (0)), .int (iI 0), .int (iI 0)])), (q1, .inl (cI, 12, .inl (ai (fun _ => 0))))] := hD
  refine lv_aload_n hx hb d_T_init_17 rfl (lv_at hl 0 rfl) ?_
  refine lv_iconst (v := iI (-1)) hx hb d_T_init_18 rfl ?_
  refine va_put (D := D) (ci := 3) (v := .int (iI (-1))) (ty := .int) (C := R_T) (T := T_T) (N := 4) hx hb hts (in_T _) ty_T ty_T_ok nm_T hown hK hP hD hS 0 rfl rfl 2 (by decide) (ht _ m_181) (fun _ h9 => h9) rfl (by decide +kernel) rfl rfl (Nat.le_of_ble_eq_true rfl) d_T_init_19 (fun H locs hP hD hS => ?_)
  have hP : va_P D pn_cl [(h0, .inr (3, [.ref (q1), .int (iI (0)), .int (iI (-1)), .int (iI 0)])), (q1, .inl (cI, 12, .inl (ai (fun _ => 0))))] H := hP
  have hD : va_D A [(h0, .inr (3, [.ref (q1), .int (iI (0)), .int (iI (-1)), .int (iI 0)])), (q1, .inl (cI, 12, .inl (ai (fun _ => 0))))] := hD
  refine lv_aload_n hx hb d_T_init_22 rfl (lv_at hl 0 rfl) ?_
  refine lv_iconst (v := iI (0)) hx hb d_T_init_23 rfl ?_
  refine va_put (D := D) (ci := 3) (v := .int (iI (0))) (ty := .boolean) (C := R_T) (T := T_T) (N := 4) hx hb hts (in_T _) ty_T ty_T_ok nm_T hown hK hP hD hS 0 rfl rfl 3 (by decide) (ht _ m_184) (fun _ h9 => h9) rfl (by decide +kernel) (by decide) (by decide) (Nat.le_of_ble_eq_true rfl) d_T_init_24 (fun H locs hP hD hS => ?_)
  have hP : va_P D pn_cl [(h0, .inr (3, [.ref (q1), .int (iI (0)), .int (iI (-1)), .int (iI (0))])), (q1, .inl (cI, 12, .inl (ai (fun _ => 0))))] H := hP
  have hD : va_D A [(h0, .inr (3, [.ref (q1), .int (iI (0)), .int (iI (-1)), .int (iI (0))])), (q1, .inl (cI, 12, .inl (ai (fun _ => 0))))] := hD
  exact W.vret hx hb hr (fun t ht9 hW => ⟨⟨(fun i : Nat => ([q1] : List Nat).getD i 0), rfl, trivial, by rw [ht9]; exact hP, hD⟩, hS.F ht9⟩) hS.2.2 d_T_init_27
abbrev w_S_init : List Cond := .code y_S_init b_S_init 2 none :: pn_W
set_option maxHeartbeats 4000000 in
set_option maxRecDepth 100000 in
theorem c_S_init (l : Launch) {D : va_G} {cI cL cD cS : ClassId} (sz h0 : Nat) (n0 : Nat) : Met l y_S_init w_S_init ({ frames := 1, cells := 1, slots := 12, locals := 12 }) (va_Pc [.ref (h0), .ref (n0)] (fun U => U.heap.size = sz ∧ va_P D pn_cl [(h0, .inr (2, [.null, .null]))] U.heap ∧ va_D (fun _ => True) [(h0, .inr (2, [.null, .null]))] ∧ pn_E D cI cL cD cS U)) (va_Qv (fun _ : Nat → Nat => True) (fun u t => va_P D pn_cl ((fun u : Nat → Nat => [(h0, .inr (2, [.ref n0, .ref (u 0)])), (u 0, .inl (cI, 12, .inl (ai (fun _ => 0))))]) u) t.heap ∧ va_D (va_A [(h0, .inr (2, [.null, .null]))] sz) ((fun u : Nat → Nat => [(h0, .inr (2, [.ref n0, .ref (u 0)])), (u 0, .inl (cI, 12, .inl (ai (fun _ => 0))))]) u)) (va_A [(h0, .inr (2, [.null, .null]))] sz)) 1 12 (va_A [(h0, .inr (2, [.null, .null]))] sz) := by
  refine Met.ofW (cc := b_S_init) (maxL := 2) (ret := none) (by decide) rfl ?_
  intro p e s m args below meth c s₁ B hml hv
  obtain ⟨rfl, hsz, hP, hD0, hE⟩ := hv
  have hx := B.exec
  have hb := B.bytes
  have hr := B.returns
  have hts := atoms_spec (ws := w_S_init) B.pre
  have ht : ∀ w ∈ pn_W, w.before _ s = true := fun w h => hts w (List.mem_cons_of_mem _ h)
  have hown : s.vm.findClass R_S = some m.cls := findClass_of_methodNamed B.named
  have hlocks := B.notSynchronized
  have hin : meth.name = "<init>" := (name_of_methodNamed B.named B.method).1
  have hK := hE.1
  subst hsz
  have hD := hD0.self (sz := s.heap.size)
  generalize hAe : va_A [(h0, .inr (2, [.null, .null]))] s.heap.size = A at hD ⊢
  have hA : ∀ q : Nat, s.heap.size ≤ q → A q := fun q h => by rw [← hAe]; exact Or.inr h
  have hS : va_S A s.heap s.heap [] := va_S.rf
  have hl := lv_entry ([.ref (h0), .ref (n0)]) (n := 2) (Nat.le_of_ble_eq_true rfl)
  rw [lg_entry_eq]
  generalize (lg_sl ([.ref (h0), .ref (n0)]) ++ List.replicate (2 - (lg_sl ([.ref (h0), .ref (n0)])).length) Slot.unset).toArray = ls at hl ⊢
  have hl : lv_has ls 2 [(0, .ref (h0)), (1, .ref (n0))] := hl
  refine lv_aload_n hx hb d_S_init_0 rfl (lv_at hl 0 rfl) ?_
  refine W.objInit hx hb hown (ht _ m_132) (ht _ m_53) (ht _ m_54) rfl (by rw [hml]; exact hl.1) rfl d_S_init_1 (Nat.le_of_ble_eq_true rfl) (Nat.le_of_ble_eq_true rfl) ?_
  refine W.eq (g2 := F0 m 4 ls []) rfl ?_
  refine lv_aload_n hx hb d_S_init_4 rfl (lv_at hl 0 rfl) ?_
  refine lv_bipush (v := iI (12)) hx hb d_S_init_5 (by decide) ?_
  refine va_newa (atype := .int) (ty := .int) (N' := 12) (a0 := (12, .inl (ai (fun _ => 0)))) hx hb (ht _ m_126) rfl hK hP hD hS hA (fun cA => vc_i cA 12) (by decide) (by decide) (by decide) (Nat.le_of_ble_eq_true rfl) (Nat.le_of_ble_eq_true rfl) d_S_init_7 (fun q1 cA9 H hK9 hP hD hS => ?_)
  obtain rfl : cI = cA9 := (vc_iu hK9 (hK.2 0 _ rfl).2).symm
  clear hK9
  have hP : va_P D pn_cl [(h0, .inr (2, [.null, .null])), (q1, .inl (cI, 12, .inl (ai (fun _ => 0))))] H := hP
  have hD : va_D A [(h0, .inr (2, [.null, .null])), (q1, .inl (cI, 12, .inl (ai (fun _ => 0))))] := hD
  refine W.widen (k := 1) (n := 12) (by decide) (by decide) ?_
  refine va_putF (D := D) (ci := 2) (v := .ref (q1)) (ty := (.array .int)) (C := R_S) (T := T_S) (N := 2) hx hb hts (in_S _) ty_S ty_S_ok nm_S hown hK hP hD hS 0 rfl rfl 1 (by decide) (ht _ m_134) (fun _ h9 => h9) rfl hin rfl (by decide +kernel) rfl rfl (Nat.le_of_ble_eq_true rfl) d_S_init_9 (fun H locs hP hD hS => ?_)
  have hP : va_P D pn_cl [(h0, .inr (2, [.null, .ref (q1)])), (q1, .inl (cI, 12, .inl (ai (fun _ => 0))))] H := hP
  have hD : va_D A [(h0, .inr (2, [.null, .ref (q1)])), (q1, .inl (cI, 12, .inl (ai (fun _ => 0))))] := hD
  refine lv_aload_n hx hb d_S_init_12 rfl (lv_at hl 0 rfl) ?_
  refine lv_aload_n hx hb d_S_init_13 rfl (lv_at hl 1 rfl) ?_
  refine va_putF (D := D) (ci := 2) (v := .ref (n0)) (ty := (.object "PressureNets$Net")) (C := R_S) (T := T_S) (N := 2) hx hb hts (in_S _) ty_S ty_S_ok nm_S hown hK hP hD hS 0 rfl rfl 0 (by decide) (ht _ m_133) (fun _ h9 => h9) rfl hin rfl (by decide +kernel) rfl rfl (Nat.le_of_ble_eq_true rfl) d_S_init_14 (fun H locs hP hD hS => ?_)
  have hP : va_P D pn_cl [(h0, .inr (2, [.ref (n0), .ref (q1)])), (q1, .inl (cI, 12, .inl (ai (fun _ => 0))))] H := hP
  have hD : va_D A [(h0, .inr (2, [.ref (n0), .ref (q1)])), (q1, .inl (cI, 12, .inl (ai (fun _ => 0))))] := hD
  exact W.vret hx hb hr (fun t ht9 hW => ⟨⟨(fun i : Nat => ([q1] : List Nat).getD i 0), rfl, trivial, by rw [ht9]; exact hP, hD⟩, hS.F ht9⟩) hS.2.2 d_S_init_17
abbrev w_U_init : List Cond := .code y_U_init b_U_init 2 none :: pn_W
set_option maxHeartbeats 4000000 in
set_option maxRecDepth 100000 in
theorem c_U_init (l : Launch) {D : va_G} {cI cL cD cS : ClassId} (sz h0 : Nat) (n0 : Nat) : Met l y_U_init w_U_init ({ frames := 1, cells := 5, slots := 72, locals := 12 }) (va_Pc [.ref (h0), .ref (n0)] (fun U => U.heap.size = sz ∧ va_P D pn_cl [(h0, .inr (4, [.null, .null, .null, .null, .null, .null]))] U.heap ∧ va_D (fun _ => True) [(h0, .inr (4, [.null, .null, .null, .null, .null, .null]))] ∧ pn_E D cI cL cD cS U)) (va_Qv (fun _ : Nat → Nat => True) (fun u t => va_P D pn_cl ((fun u : Nat → Nat => [(h0, .inr (4, [.ref (u 0), .ref (u 1), .ref n0, .ref (u 2), .ref (u 3), .ref (u 4)])), (u 0, .inl (cL, 12, .inr (.inl (al (fun _ => 0))))), (u 1, .inl (cI, 12, .inl (ai (fun _ => 0)))), (u 2, .inl (cI, 24, .inl (ai (fun _ => 0)))), (u 3, .inl (cL, 12, .inr (.inl (al (fun _ => 0))))), (u 4, .inl (cL, 12, .inr (.inl (al (fun _ => 0)))))]) u) t.heap ∧ va_D (va_A [(h0, .inr (4, [.null, .null, .null, .null, .null, .null]))] sz) ((fun u : Nat → Nat => [(h0, .inr (4, [.ref (u 0), .ref (u 1), .ref n0, .ref (u 2), .ref (u 3), .ref (u 4)])), (u 0, .inl (cL, 12, .inr (.inl (al (fun _ => 0))))), (u 1, .inl (cI, 12, .inl (ai (fun _ => 0)))), (u 2, .inl (cI, 24, .inl (ai (fun _ => 0)))), (u 3, .inl (cL, 12, .inr (.inl (al (fun _ => 0))))), (u 4, .inl (cL, 12, .inr (.inl (al (fun _ => 0)))))]) u)) (va_A [(h0, .inr (4, [.null, .null, .null, .null, .null, .null]))] sz)) 5 72 (va_A [(h0, .inr (4, [.null, .null, .null, .null, .null, .null]))] sz) := by
  refine Met.ofW (cc := b_U_init) (maxL := 2) (ret := none) (by decide) rfl ?_
  intro p e s m args below meth c s₁ B hml hv
  obtain ⟨rfl, hsz, hP, hD0, hE⟩ := hv
  have hx := B.exec
  have hb := B.bytes
  have hr := B.returns
  have hts := atoms_spec (ws := w_U_init) B.pre
  have ht : ∀ w ∈ pn_W, w.before _ s = true := fun w h => hts w (List.mem_cons_of_mem _ h)
  have hown : s.vm.findClass R_U = some m.cls := findClass_of_methodNamed B.named
  have hlocks := B.notSynchronized
  have hin : meth.name = "<init>" := (name_of_methodNamed B.named B.method).1
  have hK := hE.1
  subst hsz
  have hD := hD0.self (sz := s.heap.size)
  generalize hAe : va_A [(h0, .inr (4, [.null, .null, .null, .null, .null, .null]))] s.heap.size = A at hD ⊢
  have hA : ∀ q : Nat, s.heap.size ≤ q → A q := fun q h => by rw [← hAe]; exact Or.inr h
  have hS : va_S A s.heap s.heap [] := va_S.rf
  have hl := lv_entry ([.ref (h0), .ref (n0)]) (n := 2) (Nat.le_of_ble_eq_true rfl)
  rw [lg_entry_eq]
  generalize (lg_sl ([.ref (h0), .ref (n0)]) ++ List.replicate (2 - (lg_sl ([.ref (h0), .ref (n0)])).length) Slot.unset).toArray = ls at hl ⊢
  have hl : lv_has ls 2 [(0, .ref (h0)), (1, .ref (n0))] := hl
  refine lv_aload_n hx hb d_U_init_0 rfl (lv_at hl 0 rfl) ?_
  refine W.objInit hx hb hown (ht _ m_145) (ht _ m_53) (ht _ m_54) rfl (by rw [hml]; exact hl.1) rfl d_U_init_1 (Nat.le_of_ble_eq_true rfl) (Nat.le_of_ble_eq_true rfl) ?_
  refine W.eq (g2 := F0 m 4 ls []) rfl ?_
  refine lv_aload_n hx hb d_U_init_4 rfl (lv_at hl 0 rfl) ?_
  refine lv_bipush (v := iI (12)) hx hb d_U_init_5 (by decide) ?_
  refine va_newa (atype := .long) (ty := .long) (N' := 12) (a0 := (12, .inr (.inl (al (fun _ => 0))))) hx hb (ht _ m_167) rfl hK hP hD hS hA (fun cA => vc_l cA 12) (by decide) (by decide) (by decide) (Nat.le_of_ble_eq_true rfl) (Nat.le_of_ble_eq_true rfl) d_U_init_7 (fun q1 cA9 H hK9 hP hD hS => ?_)
  obtain rfl : cL = cA9 := (vc_lu hK9 (hK.2 1 _ rfl).2).symm
  clear hK9
  have hP : va_P D pn_cl [(h0, .inr (4, [.null, .null, .null, .null, .null, .null])), (q1, .inl (cL, 12, .inr (.inl (al (fun _ => 0)))))] H := hP
  have hD : va_D A [(h0, .inr (4, [.null, .null, .null, .null, .null, .null])), (q1, .inl (cL, 12, .inr (.inl (al (fun _ => 0)))))] := hD
  refine W.widen (k := 1) (n := 12) (by decide) (by decide) ?_
  refine va_putF (D := D) (ci := 4) (v := .ref (q1)) (ty := (.array .long)) (C := R_U) (T := T_U) (N := 6) hx hb hts (in_U _) ty_U ty_U_ok nm_U hown hK hP hD hS 0 rfl rfl 0 (by decide) (ht _ m_146) (fun _ h9 => h9) rfl hin rfl (by decide +kernel) rfl rfl (Nat.le_of_ble_eq_true rfl) d_U_init_9 (fun H locs hP hD hS => ?_)
  have hP : va_P D pn_cl [(h0, .inr (4, [.ref (q1), .null, .null, .null, .null, .null])), (q1, .inl (cL, 12, .inr (.inl (al (fun _ => 0)))))] H := hP
  have hD : va_D A [(h0, .inr (4, [.ref (q1), .null, .null, .null, .null, .null])), (q1, .inl (cL, 12, .inr (.inl (al (fun _ => 0)))))] := hD
  refine lv_aload_n hx hb d_U_init_12 rfl (lv_at hl 0 rfl) ?_
  refine lv_bipush (v := iI (12)) hx hb d_U_init_13 (by decide) ?_
  refine va_newa (atype := .int) (ty := .int) (N' := 12) (a0 := (12, .inl (ai (fun _ => 0)))) hx hb (ht _ m_126) rfl hK hP hD hS hA (fun cA => vc_i cA 12) (by decide) (by decide) (by decide) (Nat.le_of_ble_eq_true rfl) (Nat.le_of_ble_eq_true rfl) d_U_init_15 (fun q2 cA9 H hK9 hP hD hS => ?_)
  obtain rfl : cI = cA9 := (vc_iu hK9 (hK.2 0 _ rfl).2).symm
  clear hK9
  have hP : va_P D pn_cl [(h0, .inr (4, [.ref (q1), .null, .null, .null, .null, .null])), (q1, .inl (cL, 12, .inr (.inl (al (fun _ => 0))))), (q2, .inl (cI, 12, .inl (ai (fun _ => 0))))] H := hP
  have hD : va_D A [(h0, .inr (4, [.ref (q1), .null, .null, .null, .null, .null])), (q1, .inl (cL, 12, .inr (.inl (al (fun _ => 0))))), (q2, .inl (cI, 12, .inl (ai (fun _ => 0))))] := hD
  refine W.widen (k := 2) (n := 24) (by decide) (by decide) ?_
  refine va_putF (D := D) (ci := 4) (v := .ref (q2)) (ty := (.array .int)) (C := R_U) (T := T_U) (N := 6) hx hb hts (in_U _) ty_U ty_U_ok nm_U hown hK hP hD hS 0 rfl rfl 1 (by decide) (ht _ m_148) (fun _ h9 => h9) rfl hin rfl (by decide +kernel) rfl rfl (Nat.le_of_ble_eq_true rfl) d_U_init_17 (fun H locs hP hD hS => ?_)
  have hP : va_P D pn_cl [(h0, .inr (4, [.ref (q1), .ref (q2), .null, .null, .null, .null])), (q1, .inl (cL, 12, .inr (.inl (al (fun _ => 0))))), (q2, .inl (cI, 12, .inl (ai (fun _ => 0))))] H := hP
  have hD : va_D A [(h0, .inr (4, [.ref (q1), .ref (q2), .null, .null, .null, .null])), (q1, .inl (cL, 12, .inr (.inl (al (fun _ => 0))))), (q2, .inl (cI, 12, .inl (ai (fun _ => 0))))] := hD
  refine lv_aload_n hx hb d_U_init_20 rfl (lv_at hl 0 rfl) ?_
  refine lv_bipush (v := iI (24)) hx hb d_U_init_21 (by decide) ?_
  refine va_newa (atype := .int) (ty := .int) (N' := 24) (a0 := (24, .inl (ai (fun _ => 0)))) hx hb (ht _ m_126) rfl hK hP hD hS hA (fun cA => vc_i cA 24) (by decide) (by decide) (by decide) (Nat.le_of_ble_eq_true rfl) (Nat.le_of_ble_eq_true rfl) d_U_init_23 (fun q3 cA9 H hK9 hP hD hS => ?_)
  obtain rfl : cI = cA9 := (vc_iu hK9 (hK.2 0 _ rfl).2).symm
  clear hK9
  have hP : va_P D pn_cl [(h0, .inr (4, [.ref (q1), .ref (q2), .null, .null, .null, .null])), (q1, .inl (cL, 12, .inr (.inl (al (fun _ => 0))))), (q2, .inl (cI, 12, .inl (ai (fun _ => 0)))), (q3, .inl (cI, 24, .inl (ai (fun _ => 0))))] H := hP
  have hD : va_D A [(h0, .inr (4, [.ref (q1), .ref (q2), .null, .null, .null, .null])), (q1, .inl (cL, 12, .inr (.inl (al (fun _ => 0))))), (q2, .inl (cI, 12, .inl (ai (fun _ => 0)))), (q3, .inl (cI, 24, .inl (ai (fun _ => 0))))] := hD
  refine W.widen (k := 3) (n := 48) (by decide) (by decide) ?_
  refine va_putF (D := D) (ci := 4) (v := .ref (q3)) (ty := (.array .int)) (C := R_U) (T := T_U) (N := 6) hx hb hts (in_U _) ty_U ty_U_ok nm_U hown hK hP hD hS 0 rfl rfl 3 (by decide) (ht _ m_151) (fun _ h9 => h9) rfl hin rfl (by decide +kernel) rfl rfl (Nat.le_of_ble_eq_true rfl) d_U_init_25 (fun H locs hP hD hS => ?_)
  have hP : va_P D pn_cl [(h0, .inr (4, [.ref (q1), .ref (q2), .null, .ref (q3), .null, .null])), (q1, .inl (cL, 12, .inr (.inl (al (fun _ => 0))))), (q2, .inl (cI, 12, .inl (ai (fun _ => 0)))), (q3, .inl (cI, 24, .inl (ai (fun _ => 0))))] H := hP
  have hD : va_D A [(h0, .inr (4, [.ref (q1), .ref (q2), .null, .ref (q3), .null, .null])), (q1, .inl (cL, 12, .inr (.inl (al (fun _ => 0))))), (q2, .inl (cI, 12, .inl (ai (fun _ => 0)))), (q3, .inl (cI, 24, .inl (ai (fun _ => 0))))] := hD
  refine lv_aload_n hx hb d_U_init_28 rfl (lv_at hl 0 rfl) ?_
  refine lv_bipush (v := iI (12)) hx hb d_U_init_29 (by decide) ?_
  refine va_newa (atype := .long) (ty := .long) (N' := 12) (a0 := (12, .inr (.inl (al (fun _ => 0))))) hx hb (ht _ m_167) rfl hK hP hD hS hA (fun cA => vc_l cA 12) (by decide) (by decide) (by decide) (Nat.le_of_ble_eq_true rfl) (Nat.le_of_ble_eq_true rfl) d_U_init_31 (fun q4 cA9 H hK9 hP hD hS => ?_)
  obtain rfl : cL = cA9 := (vc_lu hK9 (hK.2 1 _ rfl).2).symm
  clear hK9
  have hP : va_P D pn_cl [(h0, .inr (4, [.ref (q1), .ref (q2), .null, .ref (q3), .null, .null])), (q1, .inl (cL, 12, .inr (.inl (al (fun _ => 0))))), (q2, .inl (cI, 12, .inl (ai (fun _ => 0)))), (q3, .inl (cI, 24, .inl (ai (fun _ => 0)))), (q4, .inl (cL, 12, .inr (.inl (al (fun _ => 0)))))] H := hP
  have hD : va_D A [(h0, .inr (4, [.ref (q1), .ref (q2), .null, .ref (q3), .null, .null])), (q1, .inl (cL, 12, .inr (.inl (al (fun _ => 0))))), (q2, .inl (cI, 12, .inl (ai (fun _ => 0)))), (q3, .inl (cI, 24, .inl (ai (fun _ => 0)))), (q4, .inl (cL, 12, .inr (.inl (al (fun _ => 0)))))] := hD
  refine W.widen (k := 4) (n := 60) (by decide) (by decide) ?_
  refine va_putF (D := D) (ci := 4) (v := .ref (q4)) (ty := (.array .long)) (C := R_U) (T := T_U) (N := 6) hx hb hts (in_U _) ty_U ty_U_ok nm_U hown hK hP hD hS 0 rfl rfl 4 (by decide) (ht _ m_152) (fun _ h9 => h9) rfl hin rfl (by decide +kernel) rfl rfl (Nat.le_of_ble_eq_true rfl) d_U_init_33 (fun H locs hP hD hS => ?_)
  have hP : va_P D pn_cl [(h0, .inr (4, [.ref (q1), .ref (q2), .null, .ref (q3), .ref (q4), .null])), (q1, .inl (cL, 12, .inr (.inl (al (fun _ => 0))))), (q2, .inl (cI, 12, .inl (ai (fun _ => 0)))), (q3, .inl (cI, 24, .inl (ai (fun _ => 0)))), (q4, .inl (cL, 12, .inr (.inl (al (fun _ => 0)))))] H := hP
  have hD : va_D A [(h0, .inr (4, [.ref (q1), .ref (q2), .null, .ref (q3), .ref (q4), .null])), (q1, .inl (cL, 12, .inr (.inl (al (fun _ => 0))))), (q2, .inl (cI, 12, .inl (ai (fun _ => 0)))), (q3, .inl (cI, 24, .inl (ai (fun _ => 0)))), (q4, .inl (cL, 12, .inr (.inl (al (fun _ => 0)))))] := hD
  refine lv_aload_n hx hb d_U_init_36 rfl (lv_at hl 0 rfl) ?_
  refine lv_bipush (v := iI (12)) hx hb d_U_init_37 (by decide) ?_
  refine va_newa (atype := .long) (ty := .long) (N' := 12) (a0 := (12, .inr (.inl (al (fun _ => 0))))) hx hb (ht _ m_167) rfl hK hP hD hS hA (fun cA => vc_l cA 12) (by decide) (by decide) (by decide) (Nat.le_of_ble_eq_true rfl) (Nat.le_of_ble_eq_true rfl) d_U_init_39 (fun q5 cA9 H hK9 hP hD hS => ?_)
  obtain rfl : cL = cA9 := (vc_lu hK9 (hK.2 1 _ rfl).2).symm
  clear hK9
  have hP : va_P D pn_cl [(h0, .inr (4, [.ref (q1), .ref (q2), .null, .ref (q3), .ref (q4), .null])), (q1, .inl (cL, 12, .inr (.inl (al (fun _ => 0))))), (q2, .inl (cI, 12, .inl (ai (fun _ => 0)))), (q3, .inl (cI, 24, .inl (ai (fun _ => 0)))), (q4, .inl (cL, 12, .inr (.inl (al (fun _ => 0))))), (q5, .inl (cL, 12, .inr (.inl (al (fun _ => 0)))))] H := hP
  have hD : va_D A [(h0, .inr (4, [.ref (q1), .ref (q2), .null, .ref (q3), .ref (q4), .null])), (q1, .inl (cL, 12, .inr (.inl (al (fun _ => 0))))), (q2, .inl (cI, 12, .inl (ai (fun _ => 0)))), (q3, .inl (cI, 24, .inl (ai (fun _ => 0)))), (q4, .inl (cL, 12, .inr (.inl (al (fun _ => 0))))), (q5, .inl (cL, 12, .inr (.inl (al (fun _ => 0)))))] := hD
  refine W.widen (k := 5) (n := 72) (by decide) (by decide) ?_
  refine va_putF (D := D) (ci := 4) (v := .ref (q5)) (ty := (.array .long)) (C := R_U) (T := T_U) (N := 6) hx hb hts (in_U _) ty_U ty_U_ok nm_U hown hK hP hD hS 0 rfl rfl 5 (by decide) (ht _ m_153) (fun _ h9 => h9) rfl hin rfl (by decide +kernel) rfl rfl (Nat.le_of_ble_eq_true rfl) d_U_init_41 (fun H locs hP hD hS => ?_)
  have hP : va_P D pn_cl [(h0, .inr (4, [.ref (q1), .ref (q2), .null, .ref (q3), .ref (q4), .ref (q5)])), (q1, .inl (cL, 12, .inr (.inl (al (fun _ => 0))))), (q2, .inl (cI, 12, .inl (ai (fun _ => 0)))), (q3, .inl (cI, 24, .inl (ai (fun _ => 0)))), (q4, .inl (cL, 12, .inr (.inl (al (fun _ => 0))))), (q5, .inl (cL, 12, .inr (.inl (al (fun _ => 0)))))] H := hP
  have hD : va_D A [(h0, .inr (4, [.ref (q1), .ref (q2), .null, .ref (q3), .ref (q4), .ref (q5)])), (q1, .inl (cL, 12, .inr (.inl (al (fun _ => 0))))), (q2, .inl (cI, 12, .inl (ai (fun _ => 0)))), (q3, .inl (cI, 24, .inl (ai (fun _ => 0)))), (q4, .inl (cL, 12, .inr (.inl (al (fun _ => 0))))), (q5, .inl (cL, 12, .inr (.inl (al (fun _ => 0)))))] := hD
  refine lv_aload_n hx hb d_U_init_44 rfl (lv_at hl 0 rfl) ?_
  refine lv_aload_n hx hb d_U_init_45 rfl (lv_at hl 1 rfl) ?_
  refine va_putF (D := D) (ci := 4) (v := .ref (n0)) (ty := (.object "PressureNets$Net")) (C := R_U) (T := T_U) (N := 6) hx hb hts (in_U _) ty_U ty_U_ok nm_U hown hK hP hD hS 0 rfl rfl 2 (by decide) (ht _ m_150) (fun _ h9 => h9) rfl hin rfl (by decide +kernel) rfl rfl (Nat.le_of_ble_eq_true rfl) d_U_init_46 (fun H locs hP hD hS => ?_)
  have hP : va_P D pn_cl [(h0, .inr (4, [.ref (q1), .ref (q2), .ref (n0), .ref (q3), .ref (q4), .ref (q5)])), (q1, .inl (cL, 12, .inr (.inl (al (fun _ => 0))))), (q2, .inl (cI, 12, .inl (ai (fun _ => 0)))), (q3, .inl (cI, 24, .inl (ai (fun _ => 0)))), (q4, .inl (cL, 12, .inr (.inl (al (fun _ => 0))))), (q5, .inl (cL, 12, .inr (.inl (al (fun _ => 0)))))] H := hP
  have hD : va_D A [(h0, .inr (4, [.ref (q1), .ref (q2), .ref (n0), .ref (q3), .ref (q4), .ref (q5)])), (q1, .inl (cL, 12, .inr (.inl (al (fun _ => 0))))), (q2, .inl (cI, 12, .inl (ai (fun _ => 0)))), (q3, .inl (cI, 24, .inl (ai (fun _ => 0)))), (q4, .inl (cL, 12, .inr (.inl (al (fun _ => 0))))), (q5, .inl (cL, 12, .inr (.inl (al (fun _ => 0)))))] := hD
  exact W.vret hx hb hr (fun t ht9 hW => ⟨⟨(fun i : Nat => ([q1, q2, q3, q4, q5] : List Nat).getD i 0), rfl, trivial, by rw [ht9]; exact hP, hD⟩, hS.F ht9⟩) hS.2.2 d_U_init_49
