abbrev w_P_worst : List Cond := .code y_P_worst b_P_worst 9 (some .int) :: pn_W
set_option maxHeartbeats 4000000 in
set_option maxRecDepth 100000 in
theorem c_P_worst (l : Launch) (hst : l.stackTraces = false) {D : va_G} {a : Nat → Nat} {cI cL cD cS : ClassId} {nf : Nat → Int → Int} {ns : Nat → Int} {da : Int → Int → Int} {be : Int → Int} {ui ul : Nat → Int → Int} {cn : Int} {ss : Nat → Nat} {mf sd : Nat → Int} {pr : Nat → Int → Int} (sz : Nat) (x y : Int) (hOk : pn_Ok nf ns da) (hMm : ∀ S : Nat, pn_Mono (ns 0) (m_G nf da S)) (hs9 : ∀ k, k < 9 → ss k < 2 ^ 20) (hcn : 0 ≤ cn ∧ cn ≤ 8) (hK9 : v_K nf ns da cn ss mf sd pr) (hW : pn_Rw nf ns) (gx : i3 x) (gy : i3 y) : vx_Met l y_P_worst w_P_worst ({ frames := 7, cells := 1, slots := 6, locals := 188 }) (va_Pc [.ref (a 0), .int (iI (x)), .int (iI (y))] (fun U => U.heap.size = sz ∧ va_P D pn_cl (cw a cI cL cD cS nf ns da be ui ul cn ss mf sd pr) U.heap ∧ va_D (fun _ => True) (cw a cI cL cD cS nf ns da be ui ul cn ss mf sd pr) ∧ pn_E D cI cL cD cS U ∧ pn_X (va_A (cw a cI cL cD cS nf ns da be ui ul cn ss mf sd pr) sz) U)) (va_Qi (fun (r : Int32) (u : (Int → Int) × (Nat → Int) × (Nat → Int) × (Nat → Int → Int)) => ((0 ≤ x ∧ x ≤ ns 1 - 1) ∧ (0 ≤ y ∧ y ≤ 3)) ∧ v_K nf ns da cn ss u.2.1 u.2.2.1 u.2.2.2 ∧ (((∃ c : Nat, (c : Int) < cn ∧ ¬ m_has nf ns da (ss (c + 1))) ∧ r = iI (-1000000)) ∨ ((∀ c : Nat, (c : Int) < cn → m_has nf ns da (ss (c + 1))) ∧ r = iI (m_wv (m_dr nf ns da (fun c => ss (c + 1)) x) cn.toNat y)))) (fun u t => va_P D pn_cl ((fun u : (Int → Int) × (Nat → Int) × (Nat → Int) × (Nat → Int → Int) => cw a cI cL cD cS nf ns da u.1 ui ul cn ss u.2.1 u.2.2.1 u.2.2.2) u) t.heap ∧ va_D (va_A (cw a cI cL cD cS nf ns da be ui ul cn ss mf sd pr) sz) ((fun u : (Int → Int) × (Nat → Int) × (Nat → Int) × (Nat → Int → Int) => cw a cI cL cD cS nf ns da u.1 ui ul cn ss u.2.1 u.2.2.1 u.2.2.2) u)) (va_A (cw a cI cL cD cS nf ns da be ui ul cn ss mf sd pr) sz)) (vx_X (fun _ : Unit => True) (fun E _ t => (E = "java/lang/IllegalArgumentException" ∧ ¬ ((0 ≤ x ∧ x ≤ ns 1 - 1) ∧ (0 ≤ y ∧ y ≤ 3))) ∧ va_P D pn_cl (cw a cI cL cD cS nf ns da be ui ul cn ss mf sd pr) t.heap) (va_A (cw a cI cL cD cS nf ns da be ui ul cn ss mf sd pr) sz)) 1 6 (va_A (cw a cI cL cD cS nf ns da be ui ul cn ss mf sd pr) sz) := by
  refine vx_ofW (cc := b_P_worst) (maxL := 9) (ret := (some .int)) (by decide) rfl ?_
  intro p e s m args below meth c s₁ B hml htab hv
  obtain ⟨rfl, hsz, hP, hD0, hE, hX⟩ := hv
  have hx := B.exec
  have hb := B.bytes
  have hr := B.returns
  have hts := atoms_spec (ws := w_P_worst) B.pre
  have ht : ∀ w ∈ pn_W, w.before _ s = true := fun w h => hts w (List.mem_cons_of_mem _ h)
  have hown : s.vm.findClass R_P = some m.cls := findClass_of_methodNamed B.named
  have hlocks := B.notSynchronized
  have hK := hE.1
  subst hsz
  have hD := hD0.self (sz := s.heap.size)
  generalize hAe : va_A (cw a cI cL cD cS nf ns da be ui ul cn ss mf sd pr) s.heap.size = A at hD hX ⊢
  have hA : ∀ q : Nat, s.heap.size ≤ q → A q := fun q h => by rw [← hAe]; exact Or.inr h
  have hS : va_S A s.heap s.heap [] := va_S.rf
  have hl := lv_entry ([.ref (a 0), .int (iI (x)), .int (iI (y))]) (n := 9) (Nat.le_of_ble_eq_true rfl)
  rw [lg_entry_eq]
  generalize (lg_sl ([.ref (a 0), .int (iI (x)), .int (iI (y))]) ++ List.replicate (9 - (lg_sl ([.ref (a 0), .int (iI (x)), .int (iI (y))])).length) Slot.unset).toArray = ls at hl ⊢
  have hl : lv_has ls 9 [(0, .ref (a 0)), (1, .int (iI (x))), (2, .int (iI (y)))] := hl
  obtain ⟨o_zc, o_lc, o_fc, o_ve, o_wi, o_wa, o_vo, o_fr, o_to, o_he, o_ar, o_ki, o_st, o_ff, o_sl, o_dc, o_da⟩ := id hOk
  obtain ⟨gx1, gx2⟩ := gx
  obtain ⟨gy1, gy2⟩ := gy
  have loop : ∀ (n : Nat) (t : Nat) (wc : Int) (wd : Int) (bx : Int → Int) (mfx : Nat → Int) (sdx : Nat → Int) (prx : Nat → Int → Int) (H : Heap) (locs : List Loc) (ls : Array Slot), ((t : Int) ≤ cn) → (∀ c : Nat, c < t → m_has nf ns da (ss (c + 1))) → (∀ c : Nat, c < t → -40000 ≤ (m_dr nf ns da (fun c => ss (c + 1)) x) c ∧ (m_dr nf ns da (fun c => ss (c + 1)) x) c ≤ 40000) → (wc = (m_ws (decide (y = 1 ∨ y = 3)) (m_dr nf ns da (fun c => ss (c + 1)) x) t).1) → (wd = (m_ws (decide (y = 1 ∨ y = 3)) (m_dr nf ns da (fun c => ss (c + 1)) x) t).2) → (v_K nf ns da cn ss mfx sdx prx) → ((0 ≤ x ∧ x ≤ ns 1 - 1) ∧ (0 ≤ y ∧ y ≤ 3)) → (cn.toNat - t) < n → va_P D pn_cl (cw a cI cL cD cS nf ns da bx ui ul cn ss mfx sdx prx) H → va_D A (cw a cI cL cD cS nf ns da bx ui ul cn ss mfx sdx prx) → va_S A s.heap H locs → lv_has ls 9 [(0, .ref (a 0)), (1, .int (iI (x))), (2, .int (iI (y))), (3, .int (iI (b2 (y = 1 ∨ y = 3)))), (4, .int (iI (wc))), (5, .int (iI (wd))), (6, .int (iI (((t : Nat) : Int))))] → W p l e (headSpec w_P_worst ({ frames := 7, cells := 1, slots := 6, locals := 188 })).room s m ([.ref (a 0), .int (iI (x)), .int (iI (y))] : List Value).toArray below meth c H locs 0 0 (vx_MQ below (va_Qi (fun (r : Int32) (u : (Int → Int) × (Nat → Int) × (Nat → Int) × (Nat → Int → Int)) => ((0 ≤ x ∧ x ≤ ns 1 - 1) ∧ (0 ≤ y ∧ y ≤ 3)) ∧ v_K nf ns da cn ss u.2.1 u.2.2.1 u.2.2.2 ∧ (((∃ c : Nat, (c : Int) < cn ∧ ¬ m_has nf ns da (ss (c + 1))) ∧ r = iI (-1000000)) ∨ ((∀ c : Nat, (c : Int) < cn → m_has nf ns da (ss (c + 1))) ∧ r = iI (m_wv (m_dr nf ns da (fun c => ss (c + 1)) x) cn.toNat y)))) (fun u t => va_P D pn_cl ((fun u : (Int → Int) × (Nat → Int) × (Nat → Int) × (Nat → Int → Int) => cw a cI cL cD cS nf ns da u.1 ui ul cn ss u.2.1 u.2.2.1 u.2.2.2) u) t.heap ∧ va_D A ((fun u : (Int → Int) × (Nat → Int) × (Nat → Int) × (Nat → Int → Int) => cw a cI cL cD cS nf ns da u.1 ui ul cn ss u.2.1 u.2.2.1 u.2.2.2) u)) A) (vx_X (fun _ : Unit => True) (fun E _ t => (E = "java/lang/IllegalArgumentException" ∧ ¬ ((0 ≤ x ∧ x ≤ ns 1 - 1) ∧ (0 ≤ y ∧ y ≤ 3))) ∧ va_P D pn_cl (cw a cI cL cD cS nf ns da be ui ul cn ss mf sd pr) t.heap) A) ([.ref (a 0), .int (iI (x)), .int (iI (y))] : List Value).toArray s 1 6 A) (F0 m 52 ls []) := by
    intro n
    induction n with
    | zero => intro t wc wd bx mfx sdx prx H locs ls _ _ _ _ _ _ _ hm; exact absurd hm (Nat.not_lt_zero _)
    | succ n ih =>
      intro t wc wd bx mfx sdx prx H locs ls p1 hall hdr hwc hwd hKx hLg hm hP hD hS hl
      have wsb : (t = 0 ∧ wc = -1000000 ∧ wd = -1000000) ∨ (0 < t ∧ 0 ≤ wc ∧ wc < t ∧ -40000 ≤ wd ∧ wd ≤ 40000) := by rcases m_ws_b (g := decide (y = 1 ∨ y = 3)) hdr with ⟨e9, f9⟩ | q9; rw [hwc, hwd, f9]; exact Or.inl ⟨e9, rfl, rfl⟩; rw [hwc, hwd]; exact Or.inr q9
      refine lv_iload hx hb d_P_worst_52 (lv_at hl 6 rfl) ?_
      refine lv_aload_n hx hb d_P_worst_54 rfl (lv_at hl 0 rfl) ?_
      refine va_get (D := D) (ci := 0) (v := .int (iI (cn))) (C := R_P) (T := T_P) (N := 6) hx hb hts (in_P _) hown hK hP 0 rfl rfl 5 (by decide) (ht _ m_201) (fun _ h9 => h9) rfl d_P_worst_55 ?_
      refine pr_icmp_ge (tgt := 160) hx hb (i3_of (by omega) (by omega)) (i3_of (by omega) (by omega)) d_P_worst_58 (by decide) (fun c_1 => ?_) (fun c_1 => ?_)
      · skip
        refine lv_iload_n hx hb d_P_worst_160 rfl (lv_at hl 2 rfl) ?_
        refine lv_iconst (v := iI (2)) hx hb d_P_worst_161 rfl ?_
        refine pr_icmp_eq (tgt := 170) hx hb (i3_of (by omega) (by omega)) (i3_of (by decide) (by decide)) d_P_worst_162 (by decide) (fun c_2 => ?_) (fun c_2 => ?_)
        · skip
          refine lv_iload hx hb d_P_worst_170 (lv_at hl 4 rfl) ?_
          refine lv_goto (tgt := 177) hx hb d_P_worst_172 (by decide) ?_
          refine vx_ret ?_
          refine W.widen (k := 1) (n := 6) (by decide) (by decide) ?_
          exact W.iret (v := iI (wc)) hx hb hr (fun t9 ht9 hW9 => ⟨⟨iI (wc), (bx, mfx, sdx, prx), rfl, ⟨by omega, hKx, Or.inr ⟨fun c9 q9 => hall c9 (by omega), by rw [m_wv_d (by omega) (by omega), show cn.toNat = t by omega]; rw [if_pos (by omega), ← hwc]⟩⟩, by rw [ht9]; exact hP, hD⟩, hS.F ht9⟩) hS.2.2 d_P_worst_177
        · skip
          refine lv_iload_n hx hb d_P_worst_165 rfl (lv_at hl 2 rfl) ?_
          refine lv_iconst (v := iI (3)) hx hb d_P_worst_166 rfl ?_
          refine pr_icmp_ne (tgt := 175) hx hb (i3_of (by omega) (by omega)) (i3_of (by decide) (by decide)) d_P_worst_167 (by decide) (fun c_3 => ?_) (fun c_3 => ?_)
          · skip
            refine lv_iload hx hb d_P_worst_175 (lv_at hl 5 rfl) ?_
            refine vx_ret ?_
            refine W.widen (k := 1) (n := 6) (by decide) (by decide) ?_
            exact W.iret (v := iI (wd)) hx hb hr (fun t9 ht9 hW9 => ⟨⟨iI (wd), (bx, mfx, sdx, prx), rfl, ⟨by omega, hKx, Or.inr ⟨fun c9 q9 => hall c9 (by omega), by rw [m_wv_d (by omega) (by omega), show cn.toNat = t by omega]; rw [if_neg (by omega), ← hwd]⟩⟩, by rw [ht9]; exact hP, hD⟩, hS.F ht9⟩) hS.2.2 d_P_worst_177
          · skip
            refine lv_iload hx hb d_P_worst_170 (lv_at hl 4 rfl) ?_
            refine lv_goto (tgt := 177) hx hb d_P_worst_172 (by decide) ?_
            refine vx_ret ?_
            refine W.widen (k := 1) (n := 6) (by decide) (by decide) ?_
            exact W.iret (v := iI (wc)) hx hb hr (fun t9 ht9 hW9 => ⟨⟨iI (wc), (bx, mfx, sdx, prx), rfl, ⟨by omega, hKx, Or.inr ⟨fun c9 q9 => hall c9 (by omega), by rw [m_wv_d (by omega) (by omega), show cn.toNat = t by omega]; rw [if_pos (by omega), ← hwc]⟩⟩, by rw [ht9]; exact hP, hD⟩, hS.F ht9⟩) hS.2.2 d_P_worst_177
      · skip
        have hk : t + 1 < 9 := by omega
        obtain ⟨hq1, hq2, -, hq4⟩ := hKx (t + 1) hk
        refine lv_aload_n hx hb d_P_worst_61 rfl (lv_at hl 0 rfl) ?_
        refine va_get (D := D) (ci := 0) (v := .ref (a 27)) (C := R_P) (T := T_P) (N := 6) hx hb hts (in_P _) hown hK hP 0 rfl rfl 1 (by decide) (ht _ m_197) (fun _ h9 => h9) rfl d_P_worst_62 ?_
        refine lv_aload_n hx hb d_P_worst_65 rfl (lv_at hl 0 rfl) ?_
        refine va_get (D := D) (ci := 0) (v := .ref (a 35)) (C := R_P) (T := T_P) (N := 6) hx hb hts (in_P _) hown hK hP 0 rfl rfl 4 (by decide) (ht _ m_200) (fun _ h9 => h9) rfl d_P_worst_66 ?_
        refine lv_iload hx hb d_P_worst_69 (lv_at hl 6 rfl) ?_
        refine pr_aald hx hb hK hP 35 3 rfl rfl rfl (t) (a (36 + 2 * (t + 1))) (by omega) (by decide) (by omega) (by rw [if_pos (by omega)]; congr 2; omega) d_P_worst_71 ?_
        refine pr_ci (va_runV (As := [.ref (a (36 + 2 * (t + 1)))]) (rest := []) ⟨hx, hb, hml, hown, hts⟩ (c_S_settles l (be := bx) (mf := mfx) (sd := sdx) (pr := prx) H.size (t + 1) hOk hk (hMm _) (hs9 _ hk) hq1 ⟨hq2.1, by omega⟩ hq4) (cwV 1 hts (pn_gV m_420 m_421 m_422 m_35 m_423) rfl rfl rfl (by decide +kernel) ⟨Nat.le_of_ble_eq_true rfl, Nat.le_of_ble_eq_true rfl⟩) (pn_preW (q0 := 27) (ci := 2) (q := (R_S, T_S, 2)) hP hD hE rfl rfl) rfl rfl hl.1 rfl (lv_room (Nat.le_of_ble_eq_true rfl)) d_P_worst_72 ⟨Nat.le_of_ble_eq_true rfl, Nat.le_of_ble_eq_true rfl⟩) hD hS hA (fun r u H locs hw hP hD hS => ?_)
        obtain ⟨P1, b1, m1, s1⟩ := u
        obtain ⟨rfl, rfl, h51, hLe⟩ := hw
        try dsimp only at hP hD h51 hLe
        have hPr1 : pn_Pr P1 := h51.pr
        rcases hLe with ⟨rfl, hSt, hBe⟩ | ⟨rfl, hNo⟩
        · refine pr_ire (B := 1) rfl ?_
          have hP : va_P D pn_cl (cw a cI cL cD cS nf ns da b1 ui ul cn ss (nw mfx (t + 1) (ns 3)) (nw sdx (t + 1) 1) (nw prx (t + 1) P1)) H := hP
          have hD : va_D A (cw a cI cL cD cS nf ns da b1 ui ul cn ss (nw mfx (t + 1) (ns 3)) (nw sdx (t + 1) 1) (nw prx (t + 1) P1)) := hD
          refine pr_if_ne (tgt := 81) hx hb (i3_of (by decide) (by decide)) d_P_worst_75 (by decide) (fun c_4 => ?_) (fun c_4 => ?_)
          · skip
            refine lv_aload_n hx hb d_P_worst_81 rfl (lv_at hl 0 rfl) ?_
            refine va_get (D := D) (ci := 0) (v := .ref (a 1)) (C := R_P) (T := T_P) (N := 6) hx hb hts (in_P _) hown hK hP 0 rfl rfl 0 (by decide) (ht _ m_196) (fun _ h9 => h9) rfl d_P_worst_82 ?_
            refine lv_iload_n hx hb d_P_worst_85 rfl (lv_at hl 1 rfl) ?_
            refine lv_aload_n hx hb d_P_worst_86 rfl (lv_at hl 0 rfl) ?_
            refine va_get (D := D) (ci := 0) (v := .ref (a 35)) (C := R_P) (T := T_P) (N := 6) hx hb hts (in_P _) hown hK hP 0 rfl rfl 4 (by decide) (ht _ m_200) (fun _ h9 => h9) rfl d_P_worst_87 ?_
            refine lv_iload hx hb d_P_worst_90 (lv_at hl 6 rfl) ?_
            refine pr_aald hx hb hK hP 35 3 rfl rfl rfl (t) (a (36 + 2 * (t + 1))) (by omega) (by decide) (by omega) (by rw [if_pos (by omega)]; congr 2; omega) d_P_worst_92 ?_
            refine va_get (D := D) (ci := 3) (v := .ref (a (37 + 2 * (t + 1)))) (C := R_T) (T := T_T) (N := 4) hx hb hts (in_T _) hown hK hP (36 + 2 * (t + 1)) (cw_so (t + 1) hk) rfl 0 (by decide) (ht _ m_176) (fun _ h9 => h9) rfl d_P_worst_93 ?_
            refine pr_pi (va_runV (As := [.int (iI (x)), .ref (a (37 + 2 * (t + 1)))]) (rest := []) ⟨hx, hb, hml, hown, hts⟩ (c_N_driveOf l (t + 1) (x) hOk hk ⟨by omega, by omega⟩) (cwV 2 hts (pn_gV m_483 m_463 m_464 m_34 m_465) rfl rfl rfl (by decide +kernel) ⟨Nat.le_of_ble_eq_true rfl, Nat.le_of_ble_eq_true rfl⟩) (pn_preV (q0 := 1) (ci := 1) (q := (R_N, T_N, 17)) hP hE rfl rfl) rfl rfl hl.1 rfl (lv_room (Nat.le_of_ble_eq_true rfl)) d_P_worst_96 ⟨Nat.le_of_ble_eq_true rfl, Nat.le_of_ble_eq_true rfl⟩) ?_
            refine pr_ire (B := m_dr nf ns da (fun c => ss (c + 1)) x t) (by rw [nw_s]; exact m_drive_cg hOk hW (by omega) (by omega) (m_ls_eq hSt hBe)) ?_
            have hdb0 := m_drive_b (j := x) hOk hPr1 (by omega) (by omega)
            have hdb : -40000 ≤ (m_dr nf ns da (fun c => ss (c + 1)) x) t ∧ (m_dr nf ns da (fun c => ss (c + 1)) x) t ≤ 40000 := by rw [show (m_dr nf ns da (fun c => ss (c + 1)) x) t = m_drive nf P1 x from (m_drive_cg hOk hW (by omega) (by omega) (m_ls_eq hSt hBe)).symm]; omega
            refine lv_istore (lv' := [(7, .int (iI (m_dr nf ns da (fun c => ss (c + 1)) x t))), (0, .ref (a 0)), (1, .int (iI (x))), (2, .int (iI (y))), (3, .int (iI (b2 (y = 1 ∨ y = 3)))), (4, .int (iI (wc))), (5, .int (iI (wd))), (6, .int (iI (((t : Nat) : Int))))]) hx hb d_P_worst_99 hl (by decide) rfl (fun ls hl => ?_)
            refine lv_iload_n hx hb d_P_worst_101 rfl (lv_at hl 4 rfl) ?_
            refine pr_if_eq (tgt := 120) hx hb (i3_b2 _) d_P_worst_102 (by decide) (fun c_5 => ?_) (fun c_5 => ?_)
            · replace c_5 := b2_0 c_5
              refine lv_iload hx hb d_P_worst_120 (lv_at hl 0 rfl) ?_
              refine lv_iload hx hb d_P_worst_122 (lv_at hl 6 rfl) ?_
              refine pr_icmp_ge (tgt := 131) hx hb (i3_of (by omega) (by omega)) (i3_of (by omega) (by omega)) d_P_worst_124 (by decide) (fun c_6 => ?_) (fun c_6 => ?_)
              · skip
                refine lv_iconst (v := iI (0)) hx hb d_P_worst_131 rfl ?_
                refine lv_istore (lv' := [(8, .int (iI (0))), (7, .int (iI (m_dr nf ns da (fun c => ss (c + 1)) x t))), (0, .ref (a 0)), (1, .int (iI (x))), (2, .int (iI (y))), (3, .int (iI (b2 (y = 1 ∨ y = 3)))), (4, .int (iI (wc))), (5, .int (iI (wd))), (6, .int (iI (((t : Nat) : Int))))]) hx hb d_P_worst_132 hl (by decide) rfl (fun ls hl => ?_)
                refine lv_iload hx hb d_P_worst_134 (lv_at hl 6 rfl) ?_
                refine lv_ldc (v := iI (-1000000)) hx hb hown (ht (.constant _ 124 (iI (-1000000))) m_475) d_P_worst_136 ?_
                refine pr_icmp_eq (tgt := 146) hx hb (i3_of (by omega) (by omega)) (i3_of (by decide) (by decide)) d_P_worst_138 (by decide) (fun c_7 => ?_) (fun c_7 => ?_)
                · skip
                  refine lv_iload hx hb d_P_worst_146 (lv_at hl 8 rfl) ?_
                  refine lv_istore (lv' := [(4, .int (iI (((t : Nat) : Int)))), (8, .int (iI (0))), (7, .int (iI (m_dr nf ns da (fun c => ss (c + 1)) x t))), (0, .ref (a 0)), (1, .int (iI (x))), (2, .int (iI (y))), (3, .int (iI (b2 (y = 1 ∨ y = 3)))), (5, .int (iI (wd))), (6, .int (iI (((t : Nat) : Int))))]) hx hb d_P_worst_148 hl (by decide) rfl (fun ls hl => ?_)
                  refine lv_iload hx hb d_P_worst_150 (lv_at hl 2 rfl) ?_
                  refine lv_istore (lv' := [(5, .int (iI (m_dr nf ns da (fun c => ss (c + 1)) x t))), (4, .int (iI (((t : Nat) : Int)))), (8, .int (iI (0))), (7, .int (iI (m_dr nf ns da (fun c => ss (c + 1)) x t))), (0, .ref (a 0)), (1, .int (iI (x))), (2, .int (iI (y))), (3, .int (iI (b2 (y = 1 ∨ y = 3)))), (6, .int (iI (((t : Nat) : Int))))]) hx hb d_P_worst_152 hl (by decide) rfl (fun ls hl => ?_)
                  refine lv_iinc (v := iI (((t : Nat) : Int) + 1)) (lv' := [(6, .int (iI (((t : Nat) : Int) + 1))), (5, .int (iI (m_dr nf ns da (fun c => ss (c + 1)) x t))), (4, .int (iI (((t : Nat) : Int)))), (8, .int (iI (0))), (7, .int (iI (m_dr nf ns da (fun c => ss (c + 1)) x t))), (0, .ref (a 0)), (1, .int (iI (x))), (2, .int (iI (y))), (3, .int (iI (b2 (y = 1 ∨ y = 3))))]) hx hb d_P_worst_154 hl (k := 8) rfl (iI_add _ _).symm (by decide) rfl (fun ls hl => ?_)
                  refine lv_goto (tgt := 52) hx hb d_P_worst_157 (by decide) ?_
                  exact ih (t + 1) (((t : Nat) : Int)) (m_dr nf ns da (fun c => ss (c + 1)) x t) (b1) (nw mfx (t + 1) (ns 3)) (nw sdx (t + 1) 1) (nw prx (t + 1) P1) _ _ ls (by omega) (fun c9 q9 => if e9 : c9 = t then (by rw [e9]; exact ⟨_, hSt⟩) else hall c9 (by omega)) (fun c9 q9 => if e9 : c9 = t then (by rw [e9]; exact hdb) else hdr c9 (by omega)) (by rw [m_ws_dt (by rw [← hwd]; first | exact Or.inl (by omega) | exact Or.inr (Or.inl ⟨by assumption, by omega⟩) | exact Or.inr (Or.inr ⟨by assumption, by omega⟩))]) (by rw [m_ws_dt (by rw [← hwd]; first | exact Or.inl (by omega) | exact Or.inr (Or.inl ⟨by assumption, by omega⟩) | exact Or.inr (Or.inr ⟨by assumption, by omega⟩))]) (v_K_set hKx o_ve.1 (by omega) h51 (Or.inl ⟨rfl, hSt, hBe⟩)) hLg (by omega) hP hD hS (lv_sub hl [5, 6, 7, 8, 2, 1, 0] rfl)
                · skip
                  refine lv_iload hx hb d_P_worst_141 (lv_at hl 0 rfl) ?_
                  refine pr_if_eq (tgt := 154) hx hb (i3_of (by decide) (by decide)) d_P_worst_143 (by decide) (fun c_8 => ?_) (fun c_8 => ?_)
                  · skip
                    refine lv_iinc (v := iI (((t : Nat) : Int) + 1)) (lv' := [(6, .int (iI (((t : Nat) : Int) + 1))), (8, .int (iI (0))), (7, .int (iI (m_dr nf ns da (fun c => ss (c + 1)) x t))), (0, .ref (a 0)), (1, .int (iI (x))), (2, .int (iI (y))), (3, .int (iI (b2 (y = 1 ∨ y = 3)))), (4, .int (iI (wc))), (5, .int (iI (wd)))]) hx hb d_P_worst_154 hl (k := 8) rfl (iI_add _ _).symm (by decide) rfl (fun ls hl => ?_)
                    refine lv_goto (tgt := 52) hx hb d_P_worst_157 (by decide) ?_
                    exact ih (t + 1) (wc) (wd) (b1) (nw mfx (t + 1) (ns 3)) (nw sdx (t + 1) 1) (nw prx (t + 1) P1) _ _ ls (by omega) (fun c9 q9 => if e9 : c9 = t then (by rw [e9]; exact ⟨_, hSt⟩) else hall c9 (by omega)) (fun c9 q9 => if e9 : c9 = t then (by rw [e9]; exact hdb) else hdr c9 (by omega)) (by rw [m_ws_df (by omega) (by rw [← hwd]; intro q9; first | exact absurd q9 (by assumption) | omega) (by rw [← hwd]; intro q9; first | exact absurd (by assumption) q9 | omega)]; exact hwc) (by rw [m_ws_df (by omega) (by rw [← hwd]; intro q9; first | exact absurd q9 (by assumption) | omega) (by rw [← hwd]; intro q9; first | exact absurd (by assumption) q9 | omega)]; exact hwd) (v_K_set hKx o_ve.1 (by omega) h51 (Or.inl ⟨rfl, hSt, hBe⟩)) hLg (by omega) hP hD hS (lv_sub hl [3, 4, 5, 6, 7, 8, 0] rfl)
                  · skip
                    exact absurd c_8 (by decide)
              · skip
                refine lv_iconst (v := iI (1)) hx hb d_P_worst_127 rfl ?_
                refine lv_goto (tgt := 132) hx hb d_P_worst_128 (by decide) ?_
                refine lv_istore (lv' := [(8, .int (iI (1))), (7, .int (iI (m_dr nf ns da (fun c => ss (c + 1)) x t))), (0, .ref (a 0)), (1, .int (iI (x))), (2, .int (iI (y))), (3, .int (iI (b2 (y = 1 ∨ y = 3)))), (4, .int (iI (wc))), (5, .int (iI (wd))), (6, .int (iI (((t : Nat) : Int))))]) hx hb d_P_worst_132 hl (by decide) rfl (fun ls hl => ?_)
                refine lv_iload hx hb d_P_worst_134 (lv_at hl 6 rfl) ?_
                refine lv_ldc (v := iI (-1000000)) hx hb hown (ht (.constant _ 124 (iI (-1000000))) m_475) d_P_worst_136 ?_
                refine pr_icmp_eq (tgt := 146) hx hb (i3_of (by omega) (by omega)) (i3_of (by decide) (by decide)) d_P_worst_138 (by decide) (fun c_9 => ?_) (fun c_9 => ?_)
                · skip
                  refine lv_iload hx hb d_P_worst_146 (lv_at hl 8 rfl) ?_
                  refine lv_istore (lv' := [(4, .int (iI (((t : Nat) : Int)))), (8, .int (iI (1))), (7, .int (iI (m_dr nf ns da (fun c => ss (c + 1)) x t))), (0, .ref (a 0)), (1, .int (iI (x))), (2, .int (iI (y))), (3, .int (iI (b2 (y = 1 ∨ y = 3)))), (5, .int (iI (wd))), (6, .int (iI (((t : Nat) : Int))))]) hx hb d_P_worst_148 hl (by decide) rfl (fun ls hl => ?_)
                  refine lv_iload hx hb d_P_worst_150 (lv_at hl 2 rfl) ?_
                  refine lv_istore (lv' := [(5, .int (iI (m_dr nf ns da (fun c => ss (c + 1)) x t))), (4, .int (iI (((t : Nat) : Int)))), (8, .int (iI (1))), (7, .int (iI (m_dr nf ns da (fun c => ss (c + 1)) x t))), (0, .ref (a 0)), (1, .int (iI (x))), (2, .int (iI (y))), (3, .int (iI (b2 (y = 1 ∨ y = 3)))), (6, .int (iI (((t : Nat) : Int))))]) hx hb d_P_worst_152 hl (by decide) rfl (fun ls hl => ?_)
                  refine lv_iinc (v := iI (((t : Nat) : Int) + 1)) (lv' := [(6, .int (iI (((t : Nat) : Int) + 1))), (5, .int (iI (m_dr nf ns da (fun c => ss (c + 1)) x t))), (4, .int (iI (((t : Nat) : Int)))), (8, .int (iI (1))), (7, .int (iI (m_dr nf ns da (fun c => ss (c + 1)) x t))), (0, .ref (a 0)), (1, .int (iI (x))), (2, .int (iI (y))), (3, .int (iI (b2 (y = 1 ∨ y = 3))))]) hx hb d_P_worst_154 hl (k := 8) rfl (iI_add _ _).symm (by decide) rfl (fun ls hl => ?_)
                  refine lv_goto (tgt := 52) hx hb d_P_worst_157 (by decide) ?_
                  exact ih (t + 1) (((t : Nat) : Int)) (m_dr nf ns da (fun c => ss (c + 1)) x t) (b1) (nw mfx (t + 1) (ns 3)) (nw sdx (t + 1) 1) (nw prx (t + 1) P1) _ _ ls (by omega) (fun c9 q9 => if e9 : c9 = t then (by rw [e9]; exact ⟨_, hSt⟩) else hall c9 (by omega)) (fun c9 q9 => if e9 : c9 = t then (by rw [e9]; exact hdb) else hdr c9 (by omega)) (by rw [m_ws_dt (by rw [← hwd]; first | exact Or.inl (by omega) | exact Or.inr (Or.inl ⟨by assumption, by omega⟩) | exact Or.inr (Or.inr ⟨by assumption, by omega⟩))]) (by rw [m_ws_dt (by rw [← hwd]; first | exact Or.inl (by omega) | exact Or.inr (Or.inl ⟨by assumption, by omega⟩) | exact Or.inr (Or.inr ⟨by assumption, by omega⟩))]) (v_K_set hKx o_ve.1 (by omega) h51 (Or.inl ⟨rfl, hSt, hBe⟩)) hLg (by omega) hP hD hS (lv_sub hl [5, 6, 7, 8, 2, 1, 0] rfl)
                · skip
                  refine lv_iload hx hb d_P_worst_141 (lv_at hl 0 rfl) ?_
                  refine pr_if_eq (tgt := 154) hx hb (i3_of (by decide) (by decide)) d_P_worst_143 (by decide) (fun c_10 => ?_) (fun c_10 => ?_)
                  · skip
                    exact absurd c_10 (by decide)
                  · skip
                    refine lv_iload hx hb d_P_worst_146 (lv_at hl 8 rfl) ?_
                    refine lv_istore (lv' := [(4, .int (iI (((t : Nat) : Int)))), (8, .int (iI (1))), (7, .int (iI (m_dr nf ns da (fun c => ss (c + 1)) x t))), (0, .ref (a 0)), (1, .int (iI (x))), (2, .int (iI (y))), (3, .int (iI (b2 (y = 1 ∨ y = 3)))), (5, .int (iI (wd))), (6, .int (iI (((t : Nat) : Int))))]) hx hb d_P_worst_148 hl (by decide) rfl (fun ls hl => ?_)
                    refine lv_iload hx hb d_P_worst_150 (lv_at hl 2 rfl) ?_
                    refine lv_istore (lv' := [(5, .int (iI (m_dr nf ns da (fun c => ss (c + 1)) x t))), (4, .int (iI (((t : Nat) : Int)))), (8, .int (iI (1))), (7, .int (iI (m_dr nf ns da (fun c => ss (c + 1)) x t))), (0, .ref (a 0)), (1, .int (iI (x))), (2, .int (iI (y))), (3, .int (iI (b2 (y = 1 ∨ y = 3)))), (6, .int (iI (((t : Nat) : Int))))]) hx hb d_P_worst_152 hl (by decide) rfl (fun ls hl => ?_)
                    refine lv_iinc (v := iI (((t : Nat) : Int) + 1)) (lv' := [(6, .int (iI (((t : Nat) : Int) + 1))), (5, .int (iI (m_dr nf ns da (fun c => ss (c + 1)) x t))), (4, .int (iI (((t : Nat) : Int)))), (8, .int (iI (1))), (7, .int (iI (m_dr nf ns da (fun c => ss (c + 1)) x t))), (0, .ref (a 0)), (1, .int (iI (x))), (2, .int (iI (y))), (3, .int (iI (b2 (y = 1 ∨ y = 3))))]) hx hb d_P_worst_154 hl (k := 8) rfl (iI_add _ _).symm (by decide) rfl (fun ls hl => ?_)
                    refine lv_goto (tgt := 52) hx hb d_P_worst_157 (by decide) ?_
                    exact ih (t + 1) (((t : Nat) : Int)) (m_dr nf ns da (fun c => ss (c + 1)) x t) (b1) (nw mfx (t + 1) (ns 3)) (nw sdx (t + 1) 1) (nw prx (t + 1) P1) _ _ ls (by omega) (fun c9 q9 => if e9 : c9 = t then (by rw [e9]; exact ⟨_, hSt⟩) else hall c9 (by omega)) (fun c9 q9 => if e9 : c9 = t then (by rw [e9]; exact hdb) else hdr c9 (by omega)) (by rw [m_ws_dt (by rw [← hwd]; first | exact Or.inl (by omega) | exact Or.inr (Or.inl ⟨by assumption, by omega⟩) | exact Or.inr (Or.inr ⟨by assumption, by omega⟩))]) (by rw [m_ws_dt (by rw [← hwd]; first | exact Or.inl (by omega) | exact Or.inr (Or.inl ⟨by assumption, by omega⟩) | exact Or.inr (Or.inr ⟨by assumption, by omega⟩))]) (v_K_set hKx o_ve.1 (by omega) h51 (Or.inl ⟨rfl, hSt, hBe⟩)) hLg (by omega) hP hD hS (lv_sub hl [5, 6, 7, 8, 2, 1, 0] rfl)
            · replace c_5 := b2_n1 c_5
              refine lv_iload hx hb d_P_worst_105 (lv_at hl 0 rfl) ?_
              refine lv_iload hx hb d_P_worst_107 (lv_at hl 6 rfl) ?_
              refine pr_icmp_le (tgt := 116) hx hb (i3_of (by omega) (by omega)) (i3_of (by omega) (by omega)) d_P_worst_109 (by decide) (fun c_11 => ?_) (fun c_11 => ?_)
              · skip
                refine lv_iconst (v := iI (0)) hx hb d_P_worst_116 rfl ?_
                refine lv_goto (tgt := 132) hx hb d_P_worst_117 (by decide) ?_
                refine lv_istore (lv' := [(8, .int (iI (0))), (7, .int (iI (m_dr nf ns da (fun c => ss (c + 1)) x t))), (0, .ref (a 0)), (1, .int (iI (x))), (2, .int (iI (y))), (3, .int (iI (b2 (y = 1 ∨ y = 3)))), (4, .int (iI (wc))), (5, .int (iI (wd))), (6, .int (iI (((t : Nat) : Int))))]) hx hb d_P_worst_132 hl (by decide) rfl (fun ls hl => ?_)
                refine lv_iload hx hb d_P_worst_134 (lv_at hl 6 rfl) ?_
                refine lv_ldc (v := iI (-1000000)) hx hb hown (ht (.constant _ 124 (iI (-1000000))) m_475) d_P_worst_136 ?_
                refine pr_icmp_eq (tgt := 146) hx hb (i3_of (by omega) (by omega)) (i3_of (by decide) (by decide)) d_P_worst_138 (by decide) (fun c_12 => ?_) (fun c_12 => ?_)
                · skip
                  refine lv_iload hx hb d_P_worst_146 (lv_at hl 8 rfl) ?_
                  refine lv_istore (lv' := [(4, .int (iI (((t : Nat) : Int)))), (8, .int (iI (0))), (7, .int (iI (m_dr nf ns da (fun c => ss (c + 1)) x t))), (0, .ref (a 0)), (1, .int (iI (x))), (2, .int (iI (y))), (3, .int (iI (b2 (y = 1 ∨ y = 3)))), (5, .int (iI (wd))), (6, .int (iI (((t : Nat) : Int))))]) hx hb d_P_worst_148 hl (by decide) rfl (fun ls hl => ?_)
                  refine lv_iload hx hb d_P_worst_150 (lv_at hl 2 rfl) ?_
                  refine lv_istore (lv' := [(5, .int (iI (m_dr nf ns da (fun c => ss (c + 1)) x t))), (4, .int (iI (((t : Nat) : Int)))), (8, .int (iI (0))), (7, .int (iI (m_dr nf ns da (fun c => ss (c + 1)) x t))), (0, .ref (a 0)), (1, .int (iI (x))), (2, .int (iI (y))), (3, .int (iI (b2 (y = 1 ∨ y = 3)))), (6, .int (iI (((t : Nat) : Int))))]) hx hb d_P_worst_152 hl (by decide) rfl (fun ls hl => ?_)
                  refine lv_iinc (v := iI (((t : Nat) : Int) + 1)) (lv' := [(6, .int (iI (((t : Nat) : Int) + 1))), (5, .int (iI (m_dr nf ns da (fun c => ss (c + 1)) x t))), (4, .int (iI (((t : Nat) : Int)))), (8, .int (iI (0))), (7, .int (iI (m_dr nf ns da (fun c => ss (c + 1)) x t))), (0, .ref (a 0)), (1, .int (iI (x))), (2, .int (iI (y))), (3, .int (iI (b2 (y = 1 ∨ y = 3))))]) hx hb d_P_worst_154 hl (k := 8) rfl (iI_add _ _).symm (by decide) rfl (fun ls hl => ?_)
                  refine lv_goto (tgt := 52) hx hb d_P_worst_157 (by decide) ?_
                  exact ih (t + 1) (((t : Nat) : Int)) (m_dr nf ns da (fun c => ss (c + 1)) x t) (b1) (nw mfx (t + 1) (ns 3)) (nw sdx (t + 1) 1) (nw prx (t + 1) P1) _ _ ls (by omega) (fun c9 q9 => if e9 : c9 = t then (by rw [e9]; exact ⟨_, hSt⟩) else hall c9 (by omega)) (fun c9 q9 => if e9 : c9 = t then (by rw [e9]; exact hdb) else hdr c9 (by omega)) (by rw [m_ws_dt (by rw [← hwd]; first | exact Or.inl (by omega) | exact Or.inr (Or.inl ⟨by assumption, by omega⟩) | exact Or.inr (Or.inr ⟨by assumption, by omega⟩))]) (by rw [m_ws_dt (by rw [← hwd]; first | exact Or.inl (by omega) | exact Or.inr (Or.inl ⟨by assumption, by omega⟩) | exact Or.inr (Or.inr ⟨by assumption, by omega⟩))]) (v_K_set hKx o_ve.1 (by omega) h51 (Or.inl ⟨rfl, hSt, hBe⟩)) hLg (by omega) hP hD hS (lv_sub hl [5, 6, 7, 8, 2, 1, 0] rfl)
                · skip
                  refine lv_iload hx hb d_P_worst_141 (lv_at hl 0 rfl) ?_
                  refine pr_if_eq (tgt := 154) hx hb (i3_of (by decide) (by decide)) d_P_worst_143 (by decide) (fun c_13 => ?_) (fun c_13 => ?_)
                  · skip
                    refine lv_iinc (v := iI (((t : Nat) : Int) + 1)) (lv' := [(6, .int (iI (((t : Nat) : Int) + 1))), (8, .int (iI (0))), (7, .int (iI (m_dr nf ns da (fun c => ss (c + 1)) x t))), (0, .ref (a 0)), (1, .int (iI (x))), (2, .int (iI (y))), (3, .int (iI (b2 (y = 1 ∨ y = 3)))), (4, .int (iI (wc))), (5, .int (iI (wd)))]) hx hb d_P_worst_154 hl (k := 8) rfl (iI_add _ _).symm (by decide) rfl (fun ls hl => ?_)
                    refine lv_goto (tgt := 52) hx hb d_P_worst_157 (by decide) ?_
                    exact ih (t + 1) (wc) (wd) (b1) (nw mfx (t + 1) (ns 3)) (nw sdx (t + 1) 1) (nw prx (t + 1) P1) _ _ ls (by omega) (fun c9 q9 => if e9 : c9 = t then (by rw [e9]; exact ⟨_, hSt⟩) else hall c9 (by omega)) (fun c9 q9 => if e9 : c9 = t then (by rw [e9]; exact hdb) else hdr c9 (by omega)) (by rw [m_ws_df (by omega) (by rw [← hwd]; intro q9; first | exact absurd q9 (by assumption) | omega) (by rw [← hwd]; intro q9; first | exact absurd (by assumption) q9 | omega)]; exact hwc) (by rw [m_ws_df (by omega) (by rw [← hwd]; intro q9; first | exact absurd q9 (by assumption) | omega) (by rw [← hwd]; intro q9; first | exact absurd (by assumption) q9 | omega)]; exact hwd) (v_K_set hKx o_ve.1 (by omega) h51 (Or.inl ⟨rfl, hSt, hBe⟩)) hLg (by omega) hP hD hS (lv_sub hl [3, 4, 5, 6, 7, 8, 0] rfl)
                  · skip
                    exact absurd c_13 (by decide)
              · skip
                refine lv_iconst (v := iI (1)) hx hb d_P_worst_112 rfl ?_
                refine lv_goto (tgt := 132) hx hb d_P_worst_113 (by decide) ?_
                refine lv_istore (lv' := [(8, .int (iI (1))), (7, .int (iI (m_dr nf ns da (fun c => ss (c + 1)) x t))), (0, .ref (a 0)), (1, .int (iI (x))), (2, .int (iI (y))), (3, .int (iI (b2 (y = 1 ∨ y = 3)))), (4, .int (iI (wc))), (5, .int (iI (wd))), (6, .int (iI (((t : Nat) : Int))))]) hx hb d_P_worst_132 hl (by decide) rfl (fun ls hl => ?_)
                refine lv_iload hx hb d_P_worst_134 (lv_at hl 6 rfl) ?_
                refine lv_ldc (v := iI (-1000000)) hx hb hown (ht (.constant _ 124 (iI (-1000000))) m_475) d_P_worst_136 ?_
                refine pr_icmp_eq (tgt := 146) hx hb (i3_of (by omega) (by omega)) (i3_of (by decide) (by decide)) d_P_worst_138 (by decide) (fun c_14 => ?_) (fun c_14 => ?_)
                · skip
                  refine lv_iload hx hb d_P_worst_146 (lv_at hl 8 rfl) ?_
                  refine lv_istore (lv' := [(4, .int (iI (((t : Nat) : Int)))), (8, .int (iI (1))), (7, .int (iI (m_dr nf ns da (fun c => ss (c + 1)) x t))), (0, .ref (a 0)), (1, .int (iI (x))), (2, .int (iI (y))), (3, .int (iI (b2 (y = 1 ∨ y = 3)))), (5, .int (iI (wd))), (6, .int (iI (((t : Nat) : Int))))]) hx hb d_P_worst_148 hl (by decide) rfl (fun ls hl => ?_)
                  refine lv_iload hx hb d_P_worst_150 (lv_at hl 2 rfl) ?_
                  refine lv_istore (lv' := [(5, .int (iI (m_dr nf ns da (fun c => ss (c + 1)) x t))), (4, .int (iI (((t : Nat) : Int)))), (8, .int (iI (1))), (7, .int (iI (m_dr nf ns da (fun c => ss (c + 1)) x t))), (0, .ref (a 0)), (1, .int (iI (x))), (2, .int (iI (y))), (3, .int (iI (b2 (y = 1 ∨ y = 3)))), (6, .int (iI (((t : Nat) : Int))))]) hx hb d_P_worst_152 hl (by decide) rfl (fun ls hl => ?_)
                  refine lv_iinc (v := iI (((t : Nat) : Int) + 1)) (lv' := [(6, .int (iI (((t : Nat) : Int) + 1))), (5, .int (iI (m_dr nf ns da (fun c => ss (c + 1)) x t))), (4, .int (iI (((t : Nat) : Int)))), (8, .int (iI (1))), (7, .int (iI (m_dr nf ns da (fun c => ss (c + 1)) x t))), (0, .ref (a 0)), (1, .int (iI (x))), (2, .int (iI (y))), (3, .int (iI (b2 (y = 1 ∨ y = 3))))]) hx hb d_P_worst_154 hl (k := 8) rfl (iI_add _ _).symm (by decide) rfl (fun ls hl => ?_)
                  refine lv_goto (tgt := 52) hx hb d_P_worst_157 (by decide) ?_
                  exact ih (t + 1) (((t : Nat) : Int)) (m_dr nf ns da (fun c => ss (c + 1)) x t) (b1) (nw mfx (t + 1) (ns 3)) (nw sdx (t + 1) 1) (nw prx (t + 1) P1) _ _ ls (by omega) (fun c9 q9 => if e9 : c9 = t then (by rw [e9]; exact ⟨_, hSt⟩) else hall c9 (by omega)) (fun c9 q9 => if e9 : c9 = t then (by rw [e9]; exact hdb) else hdr c9 (by omega)) (by rw [m_ws_dt (by rw [← hwd]; first | exact Or.inl (by omega) | exact Or.inr (Or.inl ⟨by assumption, by omega⟩) | exact Or.inr (Or.inr ⟨by assumption, by omega⟩))]) (by rw [m_ws_dt (by rw [← hwd]; first | exact Or.inl (by omega) | exact Or.inr (Or.inl ⟨by assumption, by omega⟩) | exact Or.inr (Or.inr ⟨by assumption, by omega⟩))]) (v_K_set hKx o_ve.1 (by omega) h51 (Or.inl ⟨rfl, hSt, hBe⟩)) hLg (by omega) hP hD hS (lv_sub hl [5, 6, 7, 8, 2, 1, 0] rfl)
                · skip
                  refine lv_iload hx hb d_P_worst_141 (lv_at hl 0 rfl) ?_
                  refine pr_if_eq (tgt := 154) hx hb (i3_of (by decide) (by decide)) d_P_worst_143 (by decide) (fun c_15 => ?_) (fun c_15 => ?_)
                  · skip
                    exact absurd c_15 (by decide)
                  · skip
                    refine lv_iload hx hb d_P_worst_146 (lv_at hl 8 rfl) ?_
                    refine lv_istore (lv' := [(4, .int (iI (((t : Nat) : Int)))), (8, .int (iI (1))), (7, .int (iI (m_dr nf ns da (fun c => ss (c + 1)) x t))), (0, .ref (a 0)), (1, .int (iI (x))), (2, .int (iI (y))), (3, .int (iI (b2 (y = 1 ∨ y = 3)))), (5, .int (iI (wd))), (6, .int (iI (((t : Nat) : Int))))]) hx hb d_P_worst_148 hl (by decide) rfl (fun ls hl => ?_)
                    refine lv_iload hx hb d_P_worst_150 (lv_at hl 2 rfl) ?_
                    refine lv_istore (lv' := [(5, .int (iI (m_dr nf ns da (fun c => ss (c + 1)) x t))), (4, .int (iI (((t : Nat) : Int)))), (8, .int (iI (1))), (7, .int (iI (m_dr nf ns da (fun c => ss (c + 1)) x t))), (0, .ref (a 0)), (1, .int (iI (x))), (2, .int (iI (y))), (3, .int (iI (b2 (y = 1 ∨ y = 3)))), (6, .int (iI (((t : Nat) : Int))))]) hx hb d_P_worst_152 hl (by decide) rfl (fun ls hl => ?_)
                    refine lv_iinc (v := iI (((t : Nat) : Int) + 1)) (lv' := [(6, .int (iI (((t : Nat) : Int) + 1))), (5, .int (iI (m_dr nf ns da (fun c => ss (c + 1)) x t))), (4, .int (iI (((t : Nat) : Int)))), (8, .int (iI (1))), (7, .int (iI (m_dr nf ns da (fun c => ss (c + 1)) x t))), (0, .ref (a 0)), (1, .int (iI (x))), (2, .int (iI (y))), (3, .int (iI (b2 (y = 1 ∨ y = 3))))]) hx hb d_P_worst_154 hl (k := 8) rfl (iI_add _ _).symm (by decide) rfl (fun ls hl => ?_)
                    refine lv_goto (tgt := 52) hx hb d_P_worst_157 (by decide) ?_
                    exact ih (t + 1) (((t : Nat) : Int)) (m_dr nf ns da (fun c => ss (c + 1)) x t) (b1) (nw mfx (t + 1) (ns 3)) (nw sdx (t + 1) 1) (nw prx (t + 1) P1) _ _ ls (by omega) (fun c9 q9 => if e9 : c9 = t then (by rw [e9]; exact ⟨_, hSt⟩) else hall c9 (by omega)) (fun c9 q9 => if e9 : c9 = t then (by rw [e9]; exact hdb) else hdr c9 (by omega)) (by rw [m_ws_dt (by rw [← hwd]; first | exact Or.inl (by omega) | exact Or.inr (Or.inl ⟨by assumption, by omega⟩) | exact Or.inr (Or.inr ⟨by assumption, by omega⟩))]) (by rw [m_ws_dt (by rw [← hwd]; first | exact Or.inl (by omega) | exact Or.inr (Or.inl ⟨by assumption, by omega⟩) | exact Or.inr (Or.inr ⟨by assumption, by omega⟩))]) (v_K_set hKx o_ve.1 (by omega) h51 (Or.inl ⟨rfl, hSt, hBe⟩)) hLg (by omega) hP hD hS (lv_sub hl [5, 6, 7, 8, 2, 1, 0] rfl)
          · skip
            exact absurd c_4 (by decide)
        · refine pr_ire (B := 0) rfl ?_
          have hP : va_P D pn_cl (cw a cI cL cD cS nf ns da b1 ui ul cn ss (nw mfx (t + 1) (ns 3)) (nw sdx (t + 1) 0) (nw prx (t + 1) P1)) H := hP
          have hD : va_D A (cw a cI cL cD cS nf ns da b1 ui ul cn ss (nw mfx (t + 1) (ns 3)) (nw sdx (t + 1) 0) (nw prx (t + 1) P1)) := hD
          refine pr_if_ne (tgt := 81) hx hb (i3_of (by decide) (by decide)) d_P_worst_75 (by decide) (fun c_16 => ?_) (fun c_16 => ?_)
          · skip
            exact absurd c_16 (by decide)
          · skip
            refine lv_ldc (v := iI (-1000000)) hx hb hown (ht (.constant _ 124 (iI (-1000000))) m_475) d_P_worst_78 ?_
            refine vx_ret ?_
            refine W.widen (k := 1) (n := 6) (by decide) (by decide) ?_
            exact W.iret (v := iI (-1000000)) hx hb hr (fun t9 ht9 hW9 => ⟨⟨iI (-1000000), (b1, nw mfx (t + 1) (ns 3), nw sdx (t + 1) 0, nw prx (t + 1) P1), rfl, ⟨by omega, v_K_set hKx o_ve.1 (by omega) h51 (Or.inr ⟨rfl, hNo⟩), Or.inl ⟨⟨t, by omega, hNo⟩, rfl⟩⟩, by rw [ht9]; exact hP, hD⟩, hS.F ht9⟩) hS.2.2 d_P_worst_80
  refine lv_aload_n hx hb d_P_worst_0 rfl (lv_at hl 0 rfl) ?_
  refine lv_iload_n hx hb d_P_worst_1 rfl (lv_at hl 1 rfl) ?_
  refine pr_pi (va_runV (As := [.int (iI (x))]) (rest := []) ⟨hx, hb, hml, hown, hts⟩ (c_P_isLeak l (x) hOk (i3_of (by omega) (by omega))) (cwV 1 hts (pn_gV m_395 m_397 m_7 m_33 m_398) rfl rfl rfl (by decide +kernel) ⟨Nat.le_of_ble_eq_true rfl, Nat.le_of_ble_eq_true rfl⟩) (pn_preV (q0 := 0) (ci := 0) (q := (R_P, T_P, 6)) hP hE rfl rfl) rfl rfl hl.1 rfl (lv_room (Nat.le_of_ble_eq_true rfl)) d_P_worst_2 ⟨Nat.le_of_ble_eq_true rfl, Nat.le_of_ble_eq_true rfl⟩) ?_
  refine pr_if_eq (tgt := 21) hx hb (i3_b2 _) d_P_worst_5 (by decide) (fun c_17 => ?_) (fun c_17 => ?_)
  · replace c_17 := b2_0 c_17
    refine lv_iconst (v := iI (0)) hx hb d_P_worst_21 rfl ?_
    exact px_throw (cls := "java/lang/IllegalArgumentException") (vx_runS (As := [.int (iI 0)]) (rest := []) ⟨hx, hb, hml, hown, hts⟩ (x_P_demandLegal l hst s.heap.size) (cwS 1 hts (pn_gS m_231 m_232 m_33 m_233) rfl rfl rfl (by decide +kernel) ⟨Nat.le_of_ble_eq_true rfl, Nat.le_of_ble_eq_true rfl⟩) (pn_preX hX hS hA) rfl rfl hl.1 rfl (lv_room (Nat.le_of_ble_eq_true rfl)) d_P_worst_22 ⟨Nat.le_of_ble_eq_true rfl, Nat.le_of_ble_eq_true rfl⟩) hS hA (fun x hx9 => (htab x hx9).elim) hlocks (by decide) (by decide) (fun q h => h) (fun t H1 locs1 hh hk hS1 => ⟨(), trivial, ⟨⟨rfl, by omega⟩, by rw [hh]; exact hP.kept (fun k9 q9 h9 => hk q9.1 ((hP k9 q9 h9).lt))⟩, hS1.F hh⟩)
  · replace c_17 := b2_n1 c_17
    refine lv_iload_n hx hb d_P_worst_8 rfl (lv_at hl 2 rfl) ?_
    refine lv_iconst (v := iI (0)) hx hb d_P_worst_9 rfl ?_
    refine lv_iconst (v := iI (3)) hx hb d_P_worst_10 rfl ?_
    refine pr_pi (va_runS (As := [.int (iI (y)), .int (iI (0)), .int (iI (3))]) (rest := []) ⟨hx, hb, hml, hown, hts⟩ (c_P_isWithin l (y) (0) (3) (i3_of (by omega) (by omega)) (i3_of (by decide) (by decide)) (i3_of (by decide) (by decide))) (cwS 3 hts (pn_gS m_227 m_228 m_33 m_229) rfl rfl rfl (by decide +kernel) ⟨Nat.le_of_ble_eq_true rfl, Nat.le_of_ble_eq_true rfl⟩) pn_pre0 rfl rfl hl.1 rfl (lv_room (Nat.le_of_ble_eq_true rfl)) d_P_worst_11 ⟨Nat.le_of_ble_eq_true rfl, Nat.le_of_ble_eq_true rfl⟩) ?_
    refine pr_if_eq (tgt := 21) hx hb (i3_b2 _) d_P_worst_14 (by decide) (fun c_18 => ?_) (fun c_18 => ?_)
    · replace c_18 := b2_0 c_18
      refine lv_iconst (v := iI (0)) hx hb d_P_worst_21 rfl ?_
      exact px_throw (cls := "java/lang/IllegalArgumentException") (vx_runS (As := [.int (iI 0)]) (rest := []) ⟨hx, hb, hml, hown, hts⟩ (x_P_demandLegal l hst s.heap.size) (cwS 1 hts (pn_gS m_231 m_232 m_33 m_233) rfl rfl rfl (by decide +kernel) ⟨Nat.le_of_ble_eq_true rfl, Nat.le_of_ble_eq_true rfl⟩) (pn_preX hX hS hA) rfl rfl hl.1 rfl (lv_room (Nat.le_of_ble_eq_true rfl)) d_P_worst_22 ⟨Nat.le_of_ble_eq_true rfl, Nat.le_of_ble_eq_true rfl⟩) hS hA (fun x hx9 => (htab x hx9).elim) hlocks (by decide) (by decide) (fun q h => h) (fun t H1 locs1 hh hk hS1 => ⟨(), trivial, ⟨⟨rfl, by omega⟩, by rw [hh]; exact hP.kept (fun k9 q9 h9 => hk q9.1 ((hP k9 q9 h9).lt))⟩, hS1.F hh⟩)
    · replace c_18 := b2_n1 c_18
      refine lv_iconst (v := iI (1)) hx hb d_P_worst_17 rfl ?_
      refine lv_goto (tgt := 22) hx hb d_P_worst_18 (by decide) ?_
      refine pr_pv (va_runS (As := [.int (iI 1)]) (rest := []) ⟨hx, hb, hml, hown, hts⟩ (c_P_demandLegal l) (cwS 1 hts (pn_gS m_231 m_232 m_33 m_233) rfl rfl rfl (by decide +kernel) ⟨Nat.le_of_ble_eq_true rfl, Nat.le_of_ble_eq_true rfl⟩) pn_pre0 rfl rfl hl.1 rfl (lv_room (Nat.le_of_ble_eq_true rfl)) d_P_worst_22 ⟨Nat.le_of_ble_eq_true rfl, Nat.le_of_ble_eq_true rfl⟩) ?_
      refine lv_iload_n hx hb d_P_worst_25 rfl (lv_at hl 2 rfl) ?_
      refine lv_iconst (v := iI (1)) hx hb d_P_worst_26 rfl ?_
      refine pr_icmp_eq (tgt := 35) hx hb (i3_of (by omega) (by omega)) (i3_of (by decide) (by decide)) d_P_worst_27 (by decide) (fun c_19 => ?_) (fun c_19 => ?_)
      · skip
        refine lv_iconst (v := iI (1)) hx hb d_P_worst_35 rfl ?_
        refine lv_goto (tgt := 40) hx hb d_P_worst_36 (by decide) ?_
        refine lv_istore_n (lv' := [(3, .int (iI (1))), (0, .ref (a 0)), (1, .int (iI (x))), (2, .int (iI (y)))]) hx hb d_P_worst_40 rfl hl (by decide) rfl (fun ls hl => ?_)
        refine lv_ldc (v := iI (-1000000)) hx hb hown (ht (.constant _ 124 (iI (-1000000))) m_475) d_P_worst_41 ?_
        refine lv_istore (lv' := [(4, .int (iI (-1000000))), (3, .int (iI (1))), (0, .ref (a 0)), (1, .int (iI (x))), (2, .int (iI (y)))]) hx hb d_P_worst_43 hl (by decide) rfl (fun ls hl => ?_)
        refine lv_ldc (v := iI (-1000000)) hx hb hown (ht (.constant _ 124 (iI (-1000000))) m_475) d_P_worst_45 ?_
        refine lv_istore (lv' := [(5, .int (iI (-1000000))), (4, .int (iI (-1000000))), (3, .int (iI (1))), (0, .ref (a 0)), (1, .int (iI (x))), (2, .int (iI (y)))]) hx hb d_P_worst_47 hl (by decide) rfl (fun ls hl => ?_)
        refine lv_iconst (v := iI (0)) hx hb d_P_worst_49 rfl ?_
        refine lv_istore (lv' := [(6, .int (iI (0))), (5, .int (iI (-1000000))), (4, .int (iI (-1000000))), (3, .int (iI (1))), (0, .ref (a 0)), (1, .int (iI (x))), (2, .int (iI (y)))]) hx hb d_P_worst_50 hl (by decide) rfl (fun ls hl => ?_)
        have e9 : iI (1) = iI (b2 (y = 1 ∨ y = 3)) := congrArg iI (b2_t (by omega)).symm
        have hl : lv_has ls 9 [(6, .int (iI (((0 : Nat) : Int)))), (5, .int (iI (-1000000))), (4, .int (iI (-1000000))), (3, .int (iI (b2 (y = 1 ∨ y = 3)))), (0, .ref (a 0)), (1, .int (iI (x))), (2, .int (iI (y)))] := by rw [← e9]; exact hl
        clear e9
        exact loop _ (0) (-1000000) (-1000000) (be) (mf) (sd) (pr) _ _ ls (by omega) (fun c9 q9 => absurd q9 (by omega)) (fun c9 q9 => absurd q9 (by omega)) rfl rfl hK9 (by omega) (Nat.lt_succ_self _) hP hD hS (lv_sub hl [4, 5, 6, 3, 2, 1, 0] rfl)
      · skip
        refine lv_iload_n hx hb d_P_worst_30 rfl (lv_at hl 2 rfl) ?_
        refine lv_iconst (v := iI (3)) hx hb d_P_worst_31 rfl ?_
        refine pr_icmp_ne (tgt := 39) hx hb (i3_of (by omega) (by omega)) (i3_of (by decide) (by decide)) d_P_worst_32 (by decide) (fun c_20 => ?_) (fun c_20 => ?_)
        · skip
          refine lv_iconst (v := iI (0)) hx hb d_P_worst_39 rfl ?_
          refine lv_istore_n (lv' := [(3, .int (iI (0))), (0, .ref (a 0)), (1, .int (iI (x))), (2, .int (iI (y)))]) hx hb d_P_worst_40 rfl hl (by decide) rfl (fun ls hl => ?_)
          refine lv_ldc (v := iI (-1000000)) hx hb hown (ht (.constant _ 124 (iI (-1000000))) m_475) d_P_worst_41 ?_
          refine lv_istore (lv' := [(4, .int (iI (-1000000))), (3, .int (iI (0))), (0, .ref (a 0)), (1, .int (iI (x))), (2, .int (iI (y)))]) hx hb d_P_worst_43 hl (by decide) rfl (fun ls hl => ?_)
          refine lv_ldc (v := iI (-1000000)) hx hb hown (ht (.constant _ 124 (iI (-1000000))) m_475) d_P_worst_45 ?_
          refine lv_istore (lv' := [(5, .int (iI (-1000000))), (4, .int (iI (-1000000))), (3, .int (iI (0))), (0, .ref (a 0)), (1, .int (iI (x))), (2, .int (iI (y)))]) hx hb d_P_worst_47 hl (by decide) rfl (fun ls hl => ?_)
          refine lv_iconst (v := iI (0)) hx hb d_P_worst_49 rfl ?_
          refine lv_istore (lv' := [(6, .int (iI (0))), (5, .int (iI (-1000000))), (4, .int (iI (-1000000))), (3, .int (iI (0))), (0, .ref (a 0)), (1, .int (iI (x))), (2, .int (iI (y)))]) hx hb d_P_worst_50 hl (by decide) rfl (fun ls hl => ?_)
          have e9 : iI (0) = iI (b2 (y = 1 ∨ y = 3)) := congrArg iI (b2_f (by omega)).symm
          have hl : lv_has ls 9 [(6, .int (iI (((0 : Nat) : Int)))), (5, .int (iI (-1000000))), (4, .int (iI (-1000000))), (3, .int (iI (b2 (y = 1 ∨ y = 3)))), (0, .ref (a 0)), (1, .int (iI (x))), (2, .int (iI (y)))] := by rw [← e9]; exact hl
          clear e9
          exact loop _ (0) (-1000000) (-1000000) (be) (mf) (sd) (pr) _ _ ls (by omega) (fun c9 q9 => absurd q9 (by omega)) (fun c9 q9 => absurd q9 (by omega)) rfl rfl hK9 (by omega) (Nat.lt_succ_self _) hP hD hS (lv_sub hl [4, 5, 6, 3, 2, 1, 0] rfl)
        · skip
          refine lv_iconst (v := iI (1)) hx hb d_P_worst_35 rfl ?_
          refine lv_goto (tgt := 40) hx hb d_P_worst_36 (by decide) ?_
          refine lv_istore_n (lv' := [(3, .int (iI (1))), (0, .ref (a 0)), (1, .int (iI (x))), (2, .int (iI (y)))]) hx hb d_P_worst_40 rfl hl (by decide) rfl (fun ls hl => ?_)
          refine lv_ldc (v := iI (-1000000)) hx hb hown (ht (.constant _ 124 (iI (-1000000))) m_475) d_P_worst_41 ?_
          refine lv_istore (lv' := [(4, .int (iI (-1000000))), (3, .int (iI (1))), (0, .ref (a 0)), (1, .int (iI (x))), (2, .int (iI (y)))]) hx hb d_P_worst_43 hl (by decide) rfl (fun ls hl => ?_)
          refine lv_ldc (v := iI (-1000000)) hx hb hown (ht (.constant _ 124 (iI (-1000000))) m_475) d_P_worst_45 ?_
          refine lv_istore (lv' := [(5, .int (iI (-1000000))), (4, .int (iI (-1000000))), (3, .int (iI (1))), (0, .ref (a 0)), (1, .int (iI (x))), (2, .int (iI (y)))]) hx hb d_P_worst_47 hl (by decide) rfl (fun ls hl => ?_)
          refine lv_iconst (v := iI (0)) hx hb d_P_worst_49 rfl ?_
          refine lv_istore (lv' := [(6, .int (iI (0))), (5, .int (iI (-1000000))), (4, .int (iI (-1000000))), (3, .int (iI (1))), (0, .ref (a 0)), (1, .int (iI (x))), (2, .int (iI (y)))]) hx hb d_P_worst_50 hl (by decide) rfl (fun ls hl => ?_)
          have e9 : iI (1) = iI (b2 (y = 1 ∨ y = 3)) := congrArg iI (b2_t (by omega)).symm
          have hl : lv_has ls 9 [(6, .int (iI (((0 : Nat) : Int)))), (5, .int (iI (-1000000))), (4, .int (iI (-1000000))), (3, .int (iI (b2 (y = 1 ∨ y = 3)))), (0, .ref (a 0)), (1, .int (iI (x))), (2, .int (iI (y)))] := by rw [← e9]; exact hl
          clear e9
          exact loop _ (0) (-1000000) (-1000000) (be) (mf) (sd) (pr) _ _ ls (by omega) (fun c9 q9 => absurd q9 (by omega)) (fun c9 q9 => absurd q9 (by omega)) rfl rfl hK9 (by omega) (Nat.lt_succ_self _) hP hD hS (lv_sub hl [4, 5, 6, 3, 2, 1, 0] rfl)
