/-! the class's steps and worst -/
theorem m_fls_24 {F f : Int → Int} {d : Int} (h0 : 0 ≤ d) (h1 : d < 24) : m_fls F f 24 d = F d := by
  unfold m_fls
  exact if_pos ⟨h0, h1⟩
theorem s_wzb {nf : Nat → Int → Int} {ns : Nat → Int} {da : Int → Int → Int} {F w : Int → Int} (hOk : pn_Ok nf ns da) (hF : ∀ j, 0 ≤ j → j < 24 → -27000000 ≤ F j ∧ F j ≤ 27000000) : ∀ j, 0 ≤ j → j < 12 → 0 ≤ m_wz nf (m_whs nf F (fl 12 0 w) 24) (ns 0) j ∧ m_wz nf (m_whs nf F (fl 12 0 w) 24) (ns 0) j ≤ 1000000000 := by
  intro j a b
  obtain ⟨o_zc, o_lc, o_fc, o_ve, o_wi, o_wa, o_vo, -⟩ := hOk
  have wb := m_whs_b (nf := nf) (w0 := fl 12 0 w) (n := 24) hF (by decide) j (by unfold fl; exact if_pos ⟨a, b⟩)
  unfold m_wz
  by_cases c : 4 ≤ j ∧ j < 4 + ns 0
  · rw [if_pos c]
    have v := o_vo (j - 4) (by omega) (by omega)
    omega
  · rw [if_neg c]; omega
abbrev w_P_steps : List Cond := .code y_P_steps b_P_steps 3 (some .int) :: pn_W
set_option maxHeartbeats 4000000 in
set_option maxRecDepth 100000 in
theorem c_P_steps (l : Launch) (hst : l.stackTraces = false) {D : va_G} {a : Nat → Nat} {cI cL cD cS : ClassId} {nf : Nat → Int → Int} {ns : Nat → Int} {da : Int → Int → Int} {be : Int → Int} {ui ul : Nat → Int → Int} {cn : Int} {ss : Nat → Nat} {mf sd : Nat → Int} {pr : Nat → Int → Int} (sz : Nat) (x : Int) (hOk : pn_Ok nf ns da) (hM : pn_Mono (ns 0) (m_G nf da (ss 0))) (hss : ss 0 < 2 ^ 20) (hsd : sd 0 = 0 ∨ sd 0 = 1) (hmf : -1 ≤ mf 0 ∧ mf 0 ≤ 512) (hC : mf 0 = ns 3 → pn_P5 (pr 0) ∧ pn_Le (ns 0) (nf 0) (m_G nf da (ss 0)) (sd 0) (pr 0)) (hU : s_B (ul 0)) (hsb : ∀ j, 0 ≤ j → j < 12 → 0 ≤ ui 0 j ∧ ui 0 j ≤ 1000000) (hfl : pn_Fl (ui 1)) (hW : pn_Rw nf ns) (hV : s_V nf (ns 0)) (gx : i3 x) : vx_Met l y_P_steps w_P_steps ({ frames := 7, cells := 1, slots := 6, locals := 188 }) (va_Pc [.ref (a 0), .int (iI (x))] (fun U => U.heap.size = sz ∧ va_P D pn_cl (cw a cI cL cD cS nf ns da be ui ul cn ss mf sd pr) U.heap ∧ va_D (fun _ => True) (cw a cI cL cD cS nf ns da be ui ul cn ss mf sd pr) ∧ pn_E D cI cL cD cS U ∧ pn_X (va_A (cw a cI cL cD cS nf ns da be ui ul cn ss mf sd pr) sz) U)) (va_Qi (fun (r : Int32) (u : (Int → Int) × (Int → Int) × Int × (Nat → Int → Int) × (Nat → Int → Int)) => (1 ≤ x ∧ x ≤ 200) ∧ pn_P5 u.1 ∧ pn_Le (ns 0) (nf 0) (m_G nf da (ss 0)) u.2.2.1 u.1 ∧ ((u.2.2.1 = 0 ∧ r = iI 0 ∧ u.2.2.2.1 = ui ∧ u.2.2.2.2 = ul) ∨ (u.2.2.1 = 1 ∧ u.2.2.2.1 0 = ui 0 ∧ pn_Fl (u.2.2.2.1 1) ∧ s_B (u.2.2.2.2 0) ∧ s_ag (u.2.2.2.2 0) (s_it (s_nx nf (m_F nf ns (ss 0) u.1) (ui 0)) (s_ok nf (m_F nf ns (ss 0) u.1) (ui 0)) x.toNat (ul 0)).2 ∧ r = iI (((s_it (s_nx nf (m_F nf ns (ss 0) u.1) (ui 0)) (s_ok nf (m_F nf ns (ss 0) u.1) (ui 0)) x.toNat (ul 0)).1 : Nat) : Int)))) (fun u t => va_P D pn_cl ((fun u : (Int → Int) × (Int → Int) × Int × (Nat → Int → Int) × (Nat → Int → Int) => cw a cI cL cD cS nf ns da u.2.1 u.2.2.2.1 u.2.2.2.2 cn ss (nw mf 0 (ns 3)) (nw sd 0 u.2.2.1) (nw pr 0 u.1)) u) t.heap ∧ va_D (va_A (cw a cI cL cD cS nf ns da be ui ul cn ss mf sd pr) sz) ((fun u : (Int → Int) × (Int → Int) × Int × (Nat → Int → Int) × (Nat → Int → Int) => cw a cI cL cD cS nf ns da u.2.1 u.2.2.2.1 u.2.2.2.2 cn ss (nw mf 0 (ns 3)) (nw sd 0 u.2.2.1) (nw pr 0 u.1)) u)) (va_A (cw a cI cL cD cS nf ns da be ui ul cn ss mf sd pr) sz)) (vx_X (fun _ : Unit => True) (fun E _ t => (E = "java/lang/IllegalArgumentException" ∧ ¬ (1 ≤ x ∧ x ≤ 200)) ∧ va_P D pn_cl (cw a cI cL cD cS nf ns da be ui ul cn ss mf sd pr) t.heap) (va_A (cw a cI cL cD cS nf ns da be ui ul cn ss mf sd pr) sz)) 1 6 (va_A (cw a cI cL cD cS nf ns da be ui ul cn ss mf sd pr) sz) := by
  refine vx_ofW (cc := b_P_steps) (maxL := 3) (ret := (some .int)) (by decide) rfl ?_
  intro p e s m args below meth c s₁ B hml htab hv
  obtain ⟨rfl, hsz, hP, hD0, hE, hX⟩ := hv
  have hx := B.exec
  have hb := B.bytes
  have hr := B.returns
  have hts := atoms_spec (ws := w_P_steps) B.pre
  have ht : ∀ w ∈ pn_W, w.before _ s = true := fun w h => hts w (List.mem_cons_of_mem _ h)
  have hown : s.vm.findClass R_P = some m.cls := findClass_of_methodNamed B.named
  have hlocks := B.notSynchronized
  have hK := hE.1
  subst hsz
  have hD := hD0.self (sz := s.heap.size)
  generalize hAe : va_A (cw a cI cL cD cS nf ns da be ui ul cn ss mf sd pr) s.heap.size = A at hD hX ⊢
  have hA : ∀ q : Nat, s.heap.size ≤ q → A q := fun q h => by rw [← hAe]; exact Or.inr h
  have hS : va_S A s.heap s.heap [] := va_S.rf
  have hl := lv_entry ([.ref (a 0), .int (iI (x))]) (n := 3) (Nat.le_of_ble_eq_true rfl)
  rw [lg_entry_eq]
  generalize (lg_sl ([.ref (a 0), .int (iI (x))]) ++ List.replicate (3 - (lg_sl ([.ref (a 0), .int (iI (x))])).length) Slot.unset).toArray = ls at hl ⊢
  have hl : lv_has ls 3 [(0, .ref (a 0)), (1, .int (iI (x)))] := hl
  obtain ⟨o_zc, o_lc, o_fc, o_ve, o_wi, o_wa, o_vo, o_fr, o_to, o_he, o_ar, o_ki, o_st, o_ff, o_sl, o_dc, o_da⟩ := id hOk
  obtain ⟨gx1, gx2⟩ := gx
  refine lv_iload_n hx hb d_P_steps_0 rfl (lv_at hl 1 rfl) ?_
  refine lv_iconst (v := iI (1)) hx hb d_P_steps_1 rfl ?_
  refine lv_sipush (v := iI (200)) hx hb d_P_steps_2 (by decide) ?_
  refine pr_pi (va_runS (As := [.int (iI (x)), .int (iI (1)), .int (iI (200))]) (rest := []) ⟨hx, hb, hml, hown, hts⟩ (c_P_isWithin l (x) (1) (200) (i3_of (by omega) (by omega)) (i3_of (by decide) (by decide)) (i3_of (by decide) (by decide))) (cwS 3 hts (pn_gS m_227 m_228 m_33 m_229) rfl rfl rfl (by decide +kernel) ⟨Nat.le_of_ble_eq_true rfl, Nat.le_of_ble_eq_true rfl⟩) pn_pre0 rfl rfl hl.1 rfl (lv_room (Nat.le_of_ble_eq_true rfl)) d_P_steps_5 ⟨Nat.le_of_ble_eq_true rfl, Nat.le_of_ble_eq_true rfl⟩) ?_
  by_cases hL8 : (1 ≤ x ∧ x ≤ 200)
  · refine pr_ire (B := 1) (b2_t hL8) ?_
    refine pr_pv (va_runS (As := [.int (iI 1)]) (rest := []) ⟨hx, hb, hml, hown, hts⟩ (c_P_demandLegal l) (cwS 1 hts (pn_gS m_231 m_232 m_33 m_233) rfl rfl rfl (by decide +kernel) ⟨Nat.le_of_ble_eq_true rfl, Nat.le_of_ble_eq_true rfl⟩) pn_pre0 rfl rfl hl.1 rfl (lv_room (Nat.le_of_ble_eq_true rfl)) d_P_steps_8 ⟨Nat.le_of_ble_eq_true rfl, Nat.le_of_ble_eq_true rfl⟩) ?_
    refine lv_aload_n hx hb d_P_steps_11 rfl (lv_at hl 0 rfl) ?_
    refine va_get (D := D) (ci := 0) (v := .ref (a 27)) (C := R_P) (T := T_P) (N := 6) hx hb hts (in_P _) hown hK hP 0 rfl rfl 1 (by decide) (ht _ m_197) (fun _ h9 => h9) rfl d_P_steps_12 ?_
    refine lv_aload_n hx hb d_P_steps_15 rfl (lv_at hl 0 rfl) ?_
    refine va_get (D := D) (ci := 0) (v := .ref (a 36)) (C := R_P) (T := T_P) (N := 6) hx hb hts (in_P _) hown hK hP 0 rfl rfl 3 (by decide) (ht _ m_199) (fun _ h9 => h9) rfl d_P_steps_16 ?_
    refine pr_ci (va_runV (As := [.ref (a 36)]) (rest := []) ⟨hx, hb, hml, hown, hts⟩ (c_S_settles l (be := be) (mf := mf) (sd := sd) (pr := pr) s.heap.size 0 hOk (by decide) hM hss hsd hmf hC) (cwV 1 hts (pn_gV m_420 m_421 m_422 m_35 m_423) rfl rfl rfl (by decide +kernel) ⟨Nat.le_of_ble_eq_true rfl, Nat.le_of_ble_eq_true rfl⟩) (pn_preW (q0 := 27) (ci := 2) (q := (R_S, T_S, 2)) hP hD hE rfl rfl) rfl rfl hl.1 rfl (lv_room (Nat.le_of_ble_eq_true rfl)) d_P_steps_19 ⟨Nat.le_of_ble_eq_true rfl, Nat.le_of_ble_eq_true rfl⟩) hD hS hA (fun r u H locs hw hP hD hS => ?_)
    obtain ⟨P1, b1, m1, s1⟩ := u
    obtain ⟨rfl, rfl, h51, hLe⟩ := hw
    try dsimp only at hP hD h51 hLe
    have hPr1 : pn_Pr P1 := h51.pr
    rcases hLe with ⟨rfl, hSt, hBe⟩ | ⟨rfl, hNo⟩
    · refine pr_ire (B := 1) rfl ?_
      have hP : va_P D pn_cl (cw a cI cL cD cS nf ns da b1 ui ul cn ss (nw mf 0 (ns 3)) (nw sd 0 1) (nw pr 0 P1)) H := hP
      have hD : va_D A (cw a cI cL cD cS nf ns da b1 ui ul cn ss (nw mf 0 (ns 3)) (nw sd 0 1) (nw pr 0 P1)) := hD
      refine pr_if_ne (tgt := 27) hx hb (i3_of (by decide) (by decide)) d_P_steps_22 (by decide) (fun c_1 => ?_) (fun c_1 => ?_)
      · skip
        refine lv_aload_n hx hb d_P_steps_27 rfl (lv_at hl 0 rfl) ?_
        refine va_get (D := D) (ci := 0) (v := .ref (a 29)) (C := R_P) (T := T_P) (N := 6) hx hb hts (in_P _) hown hK hP 0 rfl rfl 2 (by decide) (ht _ m_198) (fun _ h9 => h9) rfl d_P_steps_28 ?_
        refine lv_aload_n hx hb d_P_steps_31 rfl (lv_at hl 0 rfl) ?_
        refine va_get (D := D) (ci := 0) (v := .ref (a 36)) (C := R_P) (T := T_P) (N := 6) hx hb hts (in_P _) hown hK hP 0 rfl rfl 3 (by decide) (ht _ m_199) (fun _ h9 => h9) rfl d_P_steps_32 ?_
        refine pr_cv (va_runV (As := [.ref (a 36)]) (rest := []) ⟨hx, hb, hml, hown, hts⟩ (c_U_follow l (be := b1) (mf := nw mf 0 (ns 3)) (sd := nw sd 0 1) (pr := nw pr 0 P1) H.size 0 hOk (by decide) hPr1 hss hfl) (cwV 1 hts (pn_gV m_540 m_541 m_542 m_36 m_543) rfl rfl rfl (by decide +kernel) ⟨Nat.le_of_ble_eq_true rfl, Nat.le_of_ble_eq_true rfl⟩) (pn_preW (q0 := 29) (ci := 4) (q := (R_U, T_U, 6)) hP hD hE rfl rfl) rfl rfl hl.1 rfl (lv_room (Nat.le_of_ble_eq_true rfl)) d_P_steps_35 ⟨Nat.le_of_ble_eq_true rfl, Nat.le_of_ble_eq_true rfl⟩) hD hS hA (fun u H locs _ hP hD hS => ?_)
        try dsimp only at hP hD
        rw [show (nw pr 0 P1) 0 = P1 from rfl] at hP hD
        have hP : va_P D pn_cl (cw a cI cL cD cS nf ns da b1 (nw ui 1 (m_fls (m_F nf ns (ss 0) P1) (ui 1) 24)) (nw ul 1 (m_wz nf (m_whs nf (m_F nf ns (ss 0) P1) (fl 12 (0) (ul 1)) 24) (ns 0))) cn ss (nw mf 0 (ns 3)) (nw sd 0 1) (nw pr 0 P1)) H := hP
        have hD : va_D A (cw a cI cL cD cS nf ns da b1 (nw ui 1 (m_fls (m_F nf ns (ss 0) P1) (ui 1) 24)) (nw ul 1 (m_wz nf (m_whs nf (m_F nf ns (ss 0) P1) (fl 12 (0) (ul 1)) 24) (ns 0))) cn ss (nw mf 0 (ns 3)) (nw sd 0 1) (nw pr 0 P1)) := hD
        have hFb := m_F_b (S := ss 0) hOk hPr1
        have hFl : pn_Fl ((nw ui 1 (m_fls (m_F nf ns (ss 0) P1) (ui 1) 24)) 1) := m_fls_b hFb hfl
        have hRr : s_R nf (m_F nf ns (ss 0) P1) (ns 0) := m_F_R hOk hW
        have hGv : ∀ d, 0 ≤ d → d < 24 → 0 ≤ m_gv nf (m_F nf ns (ss 0) P1) d ∧ m_gv nf (m_F nf ns (ss 0) P1) d < 12 := fun d a9 b9 => (m_gv_b (m_F nf ns (ss 0) P1) hOk a9 b9).1
        refine lv_iconst (v := iI (0)) hx hb d_P_steps_38 rfl ?_
        refine lv_istore_n (lv' := [(2, .int (iI (0))), (0, .ref (a 0)), (1, .int (iI (x)))]) hx hb d_P_steps_39 rfl hl (by decide) rfl (fun ls hl => ?_)
        have loop : ∀ (n : Nat) (dn : Nat) (hc : Int → Int) (ulx : Nat → Int → Int) (H : Heap) (locs : List Loc) (ls : Array Slot), (dn ≤ x.toNat) → (s_B hc) → (s_ag (ulx 0) hc) → (ulx 1 = m_wz nf (m_whs nf (m_F nf ns (ss 0) P1) (fl 12 (0) (ul 1)) 24) (ns 0)) → ((s_it (s_nx nf (m_F nf ns (ss 0) P1) (ui 0)) (s_ok nf (m_F nf ns (ss 0) P1) (ui 0)) x.toNat (ul 0)).1 = dn + (s_it (s_nx nf (m_F nf ns (ss 0) P1) (ui 0)) (s_ok nf (m_F nf ns (ss 0) P1) (ui 0)) (x.toNat - dn) hc).1) → ((s_it (s_nx nf (m_F nf ns (ss 0) P1) (ui 0)) (s_ok nf (m_F nf ns (ss 0) P1) (ui 0)) x.toNat (ul 0)).2 = (s_it (s_nx nf (m_F nf ns (ss 0) P1) (ui 0)) (s_ok nf (m_F nf ns (ss 0) P1) (ui 0)) (x.toNat - dn) hc).2) → (x.toNat - dn) < n → va_P D pn_cl (cw a cI cL cD cS nf ns da b1 (nw ui 1 (m_fls (m_F nf ns (ss 0) P1) (ui 1) 24)) ulx cn ss (nw mf 0 (ns 3)) (nw sd 0 1) (nw pr 0 P1)) H → va_D A (cw a cI cL cD cS nf ns da b1 (nw ui 1 (m_fls (m_F nf ns (ss 0) P1) (ui 1) 24)) ulx cn ss (nw mf 0 (ns 3)) (nw sd 0 1) (nw pr 0 P1)) → va_S A s.heap H locs → lv_has ls 3 [(0, .ref (a 0)), (1, .int (iI (x))), (2, .int (iI (((dn : Nat) : Int))))] → W p l e (headSpec w_P_steps ({ frames := 7, cells := 1, slots := 6, locals := 188 })).room s m ([.ref (a 0), .int (iI (x))] : List Value).toArray below meth c H locs 0 0 (vx_MQ below (va_Qi (fun (r : Int32) (u : (Int → Int) × (Int → Int) × Int × (Nat → Int → Int) × (Nat → Int → Int)) => (1 ≤ x ∧ x ≤ 200) ∧ pn_P5 u.1 ∧ pn_Le (ns 0) (nf 0) (m_G nf da (ss 0)) u.2.2.1 u.1 ∧ ((u.2.2.1 = 0 ∧ r = iI 0 ∧ u.2.2.2.1 = ui ∧ u.2.2.2.2 = ul) ∨ (u.2.2.1 = 1 ∧ u.2.2.2.1 0 = ui 0 ∧ pn_Fl (u.2.2.2.1 1) ∧ s_B (u.2.2.2.2 0) ∧ s_ag (u.2.2.2.2 0) (s_it (s_nx nf (m_F nf ns (ss 0) u.1) (ui 0)) (s_ok nf (m_F nf ns (ss 0) u.1) (ui 0)) x.toNat (ul 0)).2 ∧ r = iI (((s_it (s_nx nf (m_F nf ns (ss 0) u.1) (ui 0)) (s_ok nf (m_F nf ns (ss 0) u.1) (ui 0)) x.toNat (ul 0)).1 : Nat) : Int)))) (fun u t => va_P D pn_cl ((fun u : (Int → Int) × (Int → Int) × Int × (Nat → Int → Int) × (Nat → Int → Int) => cw a cI cL cD cS nf ns da u.2.1 u.2.2.2.1 u.2.2.2.2 cn ss (nw mf 0 (ns 3)) (nw sd 0 u.2.2.1) (nw pr 0 u.1)) u) t.heap ∧ va_D A ((fun u : (Int → Int) × (Int → Int) × Int × (Nat → Int → Int) × (Nat → Int → Int) => cw a cI cL cD cS nf ns da u.2.1 u.2.2.2.1 u.2.2.2.2 cn ss (nw mf 0 (ns 3)) (nw sd 0 u.2.2.1) (nw pr 0 u.1)) u)) A) (vx_X (fun _ : Unit => True) (fun E _ t => (E = "java/lang/IllegalArgumentException" ∧ ¬ (1 ≤ x ∧ x ≤ 200)) ∧ va_P D pn_cl (cw a cI cL cD cS nf ns da be ui ul cn ss mf sd pr) t.heap) A) ([.ref (a 0), .int (iI (x))] : List Value).toArray s 1 6 A) (F0 m 40 ls []) := by
          intro n
          induction n with
          | zero => intro dn hc ulx H locs ls _ _ _ _ _ _ hm; exact absurd hm (Nat.not_lt_zero _)
          | succ n ih =>
            intro dn hc ulx H locs ls p1 hBc hagc hw1 hi1 hi2 hm hP hD hS hl
            refine lv_iload_n hx hb d_P_steps_40 rfl (lv_at hl 2 rfl) ?_
            refine lv_iload_n hx hb d_P_steps_41 rfl (lv_at hl 1 rfl) ?_
            refine pr_icmp_ge (tgt := 61) hx hb (i3_of (by omega) (by omega)) (i3_of (by omega) (by omega)) d_P_steps_42 (by decide) (fun c_2 => ?_) (fun c_2 => ?_)
            · skip
              refine lv_iload_n hx hb d_P_steps_61 rfl (lv_at hl 2 rfl) ?_
              refine vx_ret ?_
              refine W.widen (k := 1) (n := 6) (by decide) (by decide) ?_
              exact W.iret (v := iI (((dn : Nat) : Int))) hx hb hr (fun t ht hW => ⟨⟨iI (((dn : Nat) : Int)), (P1, b1, 1, nw ui 1 (m_fls (m_F nf ns (ss 0) P1) (ui 1) 24), ulx), rfl, ⟨by omega, h51, Or.inl ⟨rfl, hSt, hBe⟩, Or.inr ⟨rfl, rfl, hFl, (hBc.ag hagc.sm), (by rw [hi2, show x.toNat - dn = 0 by omega, s_it_0]; exact hagc), (by rw [hi1, show x.toNat - dn = 0 by omega, s_it_0]; rfl)⟩⟩, by rw [ht]; exact hP, hD⟩, hS.F ht⟩) hS.2.2 d_P_steps_62
            · skip
              refine lv_aload_n hx hb d_P_steps_45 rfl (lv_at hl 0 rfl) ?_
              refine va_get (D := D) (ci := 0) (v := .ref (a 29)) (C := R_P) (T := T_P) (N := 6) hx hb hts (in_P _) hown hK hP 0 rfl rfl 2 (by decide) (ht _ m_198) (fun _ h9 => h9) rfl d_P_steps_46 ?_
              refine pr_ci (va_runV (As := []) (rest := []) ⟨hx, hb, hml, hown, hts⟩ (c_U_doesStep l (be := b1) (ui := nw ui 1 (m_fls (m_F nf ns (ss 0) P1) (ui 1) 24)) (ul := ulx) (mf := nw mf 0 (ns 3)) (sd := nw sd 0 1) (pr := nw pr 0 P1) H.size hOk hFl (fun j a9 b9 => (hBc.ag hagc.sm) j a9 b9) (by rw [hw1]; exact s_wzb hOk hFb) hsb) (cwV 0 hts (pn_gV m_563 m_564 m_565 m_36 m_566) rfl rfl rfl (by decide +kernel) ⟨Nat.le_of_ble_eq_true rfl, Nat.le_of_ble_eq_true rfl⟩) (pn_preW (q0 := 29) (ci := 4) (q := (R_U, T_U, 6)) hP hD hE rfl rfl) rfl rfl hl.1 rfl (lv_room (Nat.le_of_ble_eq_true rfl)) d_P_steps_49 ⟨Nat.le_of_ble_eq_true rfl, Nat.le_of_ble_eq_true rfl⟩) hD hS hA (fun r u9 H locs hw hP hD hS => ?_)
              try dsimp only at hP hD
              have hP : va_P D pn_cl (cw a cI cL cD cS nf ns da b1 (nw ui 1 (m_fls (m_F nf ns (ss 0) P1) (ui 1) 24)) (nw (nw ulx 0 u9.1) 2 u9.2) cn ss (nw mf 0 (ns 3)) (nw sd 0 1) (nw pr 0 P1)) H := hP
              have hD : va_D A (cw a cI cL cD cS nf ns da b1 (nw ui 1 (m_fls (m_F nf ns (ss 0) P1) (ui 1) 24)) (nw (nw ulx 0 u9.1) 2 u9.2) cn ss (nw mf 0 (ns 3)) (nw sd 0 1) (nw pr 0 P1)) := hD
              rcases hw with ⟨rfl, hq1, hq2⟩ | ⟨rfl, hq1, hsame⟩
              · have hok : s_ok nf (m_F nf ns (ss 0) P1) (ui 0) hc := s_stp_ok o_zc.2 hRr hV (fun d a9 b9 => m_fls_24 a9 b9) (fun j a9 b9 => by rw [hw1]; exact s_whc o_zc.2 a9 b9) hagc hq1
                have hnx : s_ag u9.1 (s_nx nf (m_F nf ns (ss 0) P1) (ui 0) hc) := by rw [hq2]; exact s_stp_nx o_zc.2 hRr hV (fun d a9 b9 => m_fls_24 a9 b9) (fun j a9 b9 => by rw [hw1]; exact s_whc o_zc.2 a9 b9) hagc
                refine pr_if_eq (tgt := 61) hx hb (i3_of (by decide) (by decide)) d_P_steps_52 (by decide) (fun c_3 => ?_) (fun c_3 => ?_)
                · skip
                  exact absurd c_3 (by decide)
                · skip
                  refine lv_iinc (v := iI (((dn : Nat) : Int) + 1)) (lv' := [(2, .int (iI (((dn : Nat) : Int) + 1))), (0, .ref (a 0)), (1, .int (iI (x)))]) hx hb d_P_steps_55 hl (k := 2) rfl (iI_add _ _).symm (by decide) rfl (fun ls hl => ?_)
                  refine lv_goto (tgt := 40) hx hb d_P_steps_58 (by decide) ?_
                  exact ih (dn + 1) (s_nx nf (m_F nf ns (ss 0) P1) (ui 0) hc) (nw (nw ulx 0 u9.1) 2 u9.2) _ _ ls (by omega) (s_nx_B o_zc.2 hRr hV hGv hBc (fun j a9 b9 => (hsb j a9 b9).1) hok) hnx hw1 (by rw [hi1, show x.toNat - dn = (x.toNat - (dn + 1)) + 1 by omega, s_it_t hok]; show dn + ((s_it _ _ _ _).1 + 1) = _; omega) (by rw [hi2, show x.toNat - dn = (x.toNat - (dn + 1)) + 1 by omega, s_it_t hok]) (by omega) hP hD hS (lv_sub hl [1, 2, 0] rfl)
              · have hno : ¬ s_ok nf (m_F nf ns (ss 0) P1) (ui 0) hc := s_stp_no o_zc.2 hRr hV (fun d a9 b9 => m_fls_24 a9 b9) (fun j a9 b9 => by rw [hw1]; exact s_whc o_zc.2 a9 b9) hagc hq1
                refine pr_if_eq (tgt := 61) hx hb (i3_of (by decide) (by decide)) d_P_steps_52 (by decide) (fun c_4 => ?_) (fun c_4 => ?_)
                · skip
                  refine lv_iload_n hx hb d_P_steps_61 rfl (lv_at hl 2 rfl) ?_
                  refine vx_ret ?_
                  refine W.widen (k := 1) (n := 6) (by decide) (by decide) ?_
                  exact W.iret (v := iI (((dn : Nat) : Int))) hx hb hr (fun t ht hW => ⟨⟨iI (((dn : Nat) : Int)), (P1, b1, 1, nw ui 1 (m_fls (m_F nf ns (ss 0) P1) (ui 1) 24), nw (nw ulx 0 u9.1) 2 u9.2), rfl, ⟨by omega, h51, Or.inl ⟨rfl, hSt, hBe⟩, Or.inr ⟨rfl, rfl, hFl, (by show s_B u9.1; rw [hsame]; exact hBc.ag hagc.sm), (by show s_ag u9.1 _; rw [hsame, hi2, s_it_f hno]; exact hagc), (by rw [hi1, s_it_f hno]; rfl)⟩⟩, by rw [ht]; exact hP, hD⟩, hS.F ht⟩) hS.2.2 d_P_steps_62
                · skip
                  exact absurd c_4 (by decide)
        have e9 : (0 : Int) = ((0 : Nat) : Int) := rfl
        rw [show iI 0 = iI ((0 : Nat) : Int) from rfl] at hl
        clear e9
        exact loop _ (0) (ul 0) (nw ul 1 (m_wz nf (m_whs nf (m_F nf ns (ss 0) P1) (fl 12 (0) (ul 1)) 24) (ns 0))) _ _ ls (by omega) hU s_ag.rf rfl (by rw [Nat.sub_zero, Nat.zero_add]) (by rw [Nat.sub_zero]) (Nat.lt_succ_self _) hP hD hS (lv_sub hl [1, 2, 0] rfl)
      · skip
        exact absurd c_1 (by decide)
    · refine pr_ire (B := 0) rfl ?_
      have hP : va_P D pn_cl (cw a cI cL cD cS nf ns da b1 ui ul cn ss (nw mf 0 (ns 3)) (nw sd 0 0) (nw pr 0 P1)) H := hP
      have hD : va_D A (cw a cI cL cD cS nf ns da b1 ui ul cn ss (nw mf 0 (ns 3)) (nw sd 0 0) (nw pr 0 P1)) := hD
      refine pr_if_ne (tgt := 27) hx hb (i3_of (by decide) (by decide)) d_P_steps_22 (by decide) (fun c_5 => ?_) (fun c_5 => ?_)
      · skip
        exact absurd c_5 (by decide)
      · skip
        refine lv_iconst (v := iI (0)) hx hb d_P_steps_25 rfl ?_
        refine vx_ret ?_
        refine W.widen (k := 1) (n := 6) (by decide) (by decide) ?_
        exact W.iret (v := iI (0)) hx hb hr (fun t ht hW => ⟨⟨iI (0), (P1, b1, 0, ui, ul), rfl, ⟨by omega, h51, Or.inr ⟨rfl, hNo⟩, Or.inl ⟨rfl, rfl, rfl, rfl⟩⟩, by rw [ht]; exact hP, hD⟩, hS.F ht⟩) hS.2.2 d_P_steps_26
  · refine pr_ire (B := 0) (b2_f hL8) ?_
    exact px_throw (cls := "java/lang/IllegalArgumentException") (vx_runS (As := [.int (iI 0)]) (rest := []) ⟨hx, hb, hml, hown, hts⟩ (x_P_demandLegal l hst s.heap.size) (cwS 1 hts (pn_gS m_231 m_232 m_33 m_233) rfl rfl rfl (by decide +kernel) ⟨Nat.le_of_ble_eq_true rfl, Nat.le_of_ble_eq_true rfl⟩) (pn_preX hX hS hA) rfl rfl hl.1 rfl (lv_room (Nat.le_of_ble_eq_true rfl)) d_P_steps_8 ⟨Nat.le_of_ble_eq_true rfl, Nat.le_of_ble_eq_true rfl⟩) hS hA (fun x hx9 => (htab x hx9).elim) hlocks (by decide) (by decide) (fun q h => h) (fun t H1 locs1 hh hk hS1 => ⟨(), trivial, ⟨⟨rfl, by omega⟩, by rw [hh]; exact hP.kept (fun k9 q9 h9 => hk q9.1 ((hP k9 q9 h9).lt))⟩, hS1.F hh⟩)
