theorem lI_max2 {A B : Int} (hA : i6 A) (hB : i6 B) : (if lI B < lI A then lI A else lI B) = lI (max A B) := by
  by_cases h : B < A
  · rw [if_pos ((lI_lt hB hA).mpr h), Int.max_eq_left (by omega)]
  · rw [if_neg (fun q => h ((lI_lt hB hA).mp q)), Int.max_eq_right (by omega)]
theorem m_wz_at (nf : Nat → Int → Int) (W : Int → Int) (t : Int) : m_wz nf W t (t + 4) = W (t + 4) := by
  unfold m_wz
  exact if_neg (by omega)
theorem m_gv_fls {nf : Nat → Int → Int} {F f : Int → Int} {t : Int} (h : 0 ≤ t) : m_gv nf (m_fls F f (t + 1)) t = m_gv nf F t := by
  unfold m_gv
  rw [m_fls_t h]
theorem m_abs_b {x : Int} (h : -27000000 ≤ x ∧ x ≤ 27000000) : 0 ≤ m_abs x ∧ m_abs x ≤ 27000000 := by
  unfold m_abs
  by_cases c : 0 ≤ x
  · rw [if_pos c]; omega
  · rw [if_neg c]; omega
theorem m_F_b {nf : Nat → Int → Int} {ns : Nat → Int} {da : Int → Int → Int} {S : Nat} {P : Int → Int} (hOk : pn_Ok nf ns da) (hPr : pn_Pr P) : ∀ j, 0 ≤ j → j < 24 → -27000000 ≤ m_F nf ns S P j ∧ m_F nf ns S P j ≤ 27000000 := by
  intro j a b
  unfold m_F
  by_cases c : (j < 20 ∧ j < ns 1) ∨ (20 ≤ j ∧ j - 20 < ns 2)
  · rw [if_pos c]; exact m_flow_b hOk hPr a b
  · rw [if_neg c]; omega
abbrev w_U_follow : List Cond := .code y_U_follow b_U_follow 3 none :: pn_W
set_option maxHeartbeats 4000000 in
set_option maxRecDepth 100000 in
theorem c_U_follow (l : Launch) {D : va_G} {a : Nat → Nat} {cI cL cD cS : ClassId} {nf : Nat → Int → Int} {ns : Nat → Int} {da : Int → Int → Int} {be : Int → Int} {ui ul : Nat → Int → Int} {cn : Int} {ss : Nat → Nat} {mf sd : Nat → Int} {pr : Nat → Int → Int} (sz : Nat) (k : Nat) (hOk : pn_Ok nf ns da) (hk : k < 9) (hPr : pn_Pr (pr k)) (hss : ss k < 2 ^ 20) (hf0 : pn_Fl (ui 1)) : Met l y_U_follow w_U_follow ({ frames := 2, cells := 0, slots := 0, locals := 60 }) (va_Pc [.ref (a 29), .ref (a (36 + 2 * k))] (fun U => U.heap.size = sz ∧ va_P D pn_cl (cw a cI cL cD cS nf ns da be ui ul cn ss mf sd pr) U.heap ∧ va_D (fun _ => True) (cw a cI cL cD cS nf ns da be ui ul cn ss mf sd pr) ∧ pn_E D cI cL cD cS U)) (va_Qv (fun _ : Unit => True) (fun u t => va_P D pn_cl ((fun _ : Unit => cw a cI cL cD cS nf ns da be (nw ui 1 (m_fls (m_F nf ns (ss k) (pr k)) (ui 1) 24)) (nw ul 1 (m_wz nf (m_whs nf (m_F nf ns (ss k) (pr k)) (fl 12 (0) (ul 1)) 24) (ns 0))) cn ss mf sd pr) u) t.heap ∧ va_D (va_A (cw a cI cL cD cS nf ns da be ui ul cn ss mf sd pr) sz) ((fun _ : Unit => cw a cI cL cD cS nf ns da be (nw ui 1 (m_fls (m_F nf ns (ss k) (pr k)) (ui 1) 24)) (nw ul 1 (m_wz nf (m_whs nf (m_F nf ns (ss k) (pr k)) (fl 12 (0) (ul 1)) 24) (ns 0))) cn ss mf sd pr) u)) (va_A (cw a cI cL cD cS nf ns da be ui ul cn ss mf sd pr) sz)) 0 0 (va_A (cw a cI cL cD cS nf ns da be ui ul cn ss mf sd pr) sz) := by
  refine Met.ofW (cc := b_U_follow) (maxL := 3) (ret := none) (by decide) rfl ?_
  intro p e s m args below meth c s₁ B hml hv
  obtain ⟨rfl, hsz, hP, hD0, hE⟩ := hv
  have hx := B.exec
  have hb := B.bytes
  have hr := B.returns
  have hts := atoms_spec (ws := w_U_follow) B.pre
  have ht : ∀ w ∈ pn_W, w.before _ s = true := fun w h => hts w (List.mem_cons_of_mem _ h)
  have hown : s.vm.findClass R_U = some m.cls := findClass_of_methodNamed B.named
  have hlocks := B.notSynchronized
  have hK := hE.1
  subst hsz
  have hD := hD0.self (sz := s.heap.size)
  generalize hAe : va_A (cw a cI cL cD cS nf ns da be ui ul cn ss mf sd pr) s.heap.size = A at hD ⊢
  have hA : ∀ q : Nat, s.heap.size ≤ q → A q := fun q h => by rw [← hAe]; exact Or.inr h
  have hS : va_S A s.heap s.heap [] := va_S.rf
  have hl := lv_entry ([.ref (a 29), .ref (a (36 + 2 * k))]) (n := 3) (Nat.le_of_ble_eq_true rfl)
  rw [lg_entry_eq]
  generalize (lg_sl ([.ref (a 29), .ref (a (36 + 2 * k))]) ++ List.replicate (3 - (lg_sl ([.ref (a 29), .ref (a (36 + 2 * k))])).length) Slot.unset).toArray = ls at hl ⊢
  have hl : lv_has ls 3 [(0, .ref (a 29)), (1, .ref (a (36 + 2 * k)))] := hl
  obtain ⟨o_zc, o_lc, o_fc, o_ve, o_wi, o_wa, o_vo, o_fr, o_to, o_he, o_ar, o_ki, o_st, o_ff, o_sl, o_dc, o_da⟩ := id hOk
  have hFb := m_F_b (S := ss k) hOk hPr
  have loop2 : ∀ (n : Nat) (tt : Int) (H : Heap) (locs : List Loc) (ls : Array Slot), (0 ≤ tt) → (tt ≤ ns 0) → ((ns 0 - tt).toNat) < n → va_P D pn_cl (cw a cI cL cD cS nf ns da be (nw ui 1 (m_fls (m_F nf ns (ss k) (pr k)) (ui 1) 24)) (nw ul 1 (m_wz nf (m_whs nf (m_F nf ns (ss k) (pr k)) (fl 12 (0) (ul 1)) 24) tt)) cn ss mf sd pr) H → va_D A (cw a cI cL cD cS nf ns da be (nw ui 1 (m_fls (m_F nf ns (ss k) (pr k)) (ui 1) 24)) (nw ul 1 (m_wz nf (m_whs nf (m_F nf ns (ss k) (pr k)) (fl 12 (0) (ul 1)) 24) tt)) cn ss mf sd pr) → va_S A s.heap H locs → lv_has ls 3 [(0, .ref (a 29)), (2, .int (iI (tt)))] → W p l e (headSpec w_U_follow ({ frames := 2, cells := 0, slots := 0, locals := 60 })).room s m ([.ref (a 29), .ref (a (36 + 2 * k))] : List Value).toArray below meth c H locs 0 0 (MQ below (va_Qv (fun _ : Unit => True) (fun u t => va_P D pn_cl ((fun _ : Unit => cw a cI cL cD cS nf ns da be (nw ui 1 (m_fls (m_F nf ns (ss k) (pr k)) (ui 1) 24)) (nw ul 1 (m_wz nf (m_whs nf (m_F nf ns (ss k) (pr k)) (fl 12 (0) (ul 1)) 24) (ns 0))) cn ss mf sd pr) u) t.heap ∧ va_D A ((fun _ : Unit => cw a cI cL cD cS nf ns da be (nw ui 1 (m_fls (m_F nf ns (ss k) (pr k)) (ui 1) 24)) (nw ul 1 (m_wz nf (m_whs nf (m_F nf ns (ss k) (pr k)) (fl 12 (0) (ul 1)) 24) (ns 0))) cn ss mf sd pr) u)) A) ([.ref (a 29), .ref (a (36 + 2 * k))] : List Value).toArray s 0 0 A) (F0 m 77 ls []) := by
    intro n
    induction n with
    | zero => intro tt H locs ls _ _ hm; exact absurd hm (Nat.not_lt_zero _)
    | succ n ih =>
      intro tt H locs ls q1 q2 hm hP hD hS hl
      refine lv_iload_n hx hb d_U_follow_77 rfl (lv_at hl 1 rfl) ?_
      refine lv_aload_n hx hb d_U_follow_78 rfl (lv_at hl 0 rfl) ?_
      refine va_get (D := D) (ci := 4) (v := .ref (a 1)) (C := R_U) (T := T_U) (N := 6) hx hb hts (in_U _) hown hK hP 29 rfl rfl 2 (by decide) (ht _ m_150) (fun _ h9 => h9) rfl d_U_follow_79 ?_
      refine va_get (D := D) (ci := 1) (v := .int (iI (ns 0))) (C := R_N) (T := T_N) (N := 17) hx hb hts (in_N _) hown hK hP 1 rfl rfl 13 (by decide) (ht _ m_84) (fun _ h9 => h9) rfl d_U_follow_82 ?_
      refine pr_icmp_ge (tgt := 125) hx hb (i3_of (by omega) (by omega)) (i3_of (by omega) (by omega)) d_U_follow_85 (by decide) (fun c_1 => ?_) (fun c_1 => ?_)
      · skip
        have e8 : tt = ns 0 := by omega
        rw [e8] at hP hD
        exact W.vret hx hb hr (fun t ht hW => ⟨⟨(), rfl, trivial, by rw [ht]; exact hP, hD⟩, hS.F ht⟩) hS.2.2 d_U_follow_125
      · skip
        have wb := m_whs_b (nf := nf) (w0 := (fl 12 (0) (ul 1))) (n := 24) hFb (by decide) (tt + 4) (by unfold fl; exact if_pos (by omega))
        have vb := o_vo tt (by omega) (by omega)
        refine lv_aload_n hx hb d_U_follow_88 rfl (lv_at hl 0 rfl) ?_
        refine va_get (D := D) (ci := 4) (v := .ref (a 33)) (C := R_U) (T := T_U) (N := 6) hx hb hts (in_U _) hown hK hP 29 rfl rfl 4 (by decide) (ht _ m_152) (fun _ h9 => h9) rfl d_U_follow_89 ?_
        refine lv_iload_n hx hb d_U_follow_92 rfl (lv_at hl 1 rfl) ?_
        refine pr_pi (va_runSN (As := [.int (iI (tt))]) (rest := [.ref (a 33)]) ⟨hx, hb, hml, hown, hts⟩ (c_P_rowOf l (tt)) ⟨va_cnB 1 hts (pn_g m_326) rfl rfl rfl (hE.2 _ (List.mem_of_getElem? (i := 5) rfl)) (ht _ m_33) (by decide +kernel) ⟨Nat.le_of_ble_eq_true rfl, Nat.le_of_ble_eq_true rfl⟩, ht _ m_325, trivial⟩ pn_pre0 rfl rfl hl.1 rfl (lv_room (Nat.le_of_ble_eq_true rfl)) d_U_follow_93 ⟨Nat.le_of_ble_eq_true rfl, Nat.le_of_ble_eq_true rfl⟩) ?_
        refine lv_aload_n hx hb d_U_follow_96 rfl (lv_at hl 0 rfl) ?_
        refine va_get (D := D) (ci := 4) (v := .ref (a 33)) (C := R_U) (T := T_U) (N := 6) hx hb hts (in_U _) hown hK hP 29 rfl rfl 4 (by decide) (ht _ m_152) (fun _ h9 => h9) rfl d_U_follow_97 ?_
        refine lv_iload_n hx hb d_U_follow_100 rfl (lv_at hl 1 rfl) ?_
        refine pr_pi (va_runSN (As := [.int (iI (tt))]) (rest := [.ref (a 33), .int (iI ((tt) + 4)), .ref (a 33)]) ⟨hx, hb, hml, hown, hts⟩ (c_P_rowOf l (tt)) ⟨va_cnB 1 hts (pn_g m_326) rfl rfl rfl (hE.2 _ (List.mem_of_getElem? (i := 5) rfl)) (ht _ m_33) (by decide +kernel) ⟨Nat.le_of_ble_eq_true rfl, Nat.le_of_ble_eq_true rfl⟩, ht _ m_325, trivial⟩ pn_pre0 rfl rfl hl.1 rfl (lv_room (Nat.le_of_ble_eq_true rfl)) d_U_follow_101 ⟨Nat.le_of_ble_eq_true rfl, Nat.le_of_ble_eq_true rfl⟩) ?_
        refine pr_lald hx hb hK hP 33 1 rfl rfl (by decide) (by omega) (by omega) d_U_follow_104 ?_
        refine pr_lre (B := (m_whs nf (m_F nf ns (ss k) (pr k)) (fl 12 (0) (ul 1)) 24) (tt + 4)) (by show m_wz nf (m_whs nf (m_F nf ns (ss k) (pr k)) (fl 12 (0) (ul 1)) 24) tt (tt + 4) = _; exact m_wz_at _ _ _) ?_
        refine lv_aload_n hx hb d_U_follow_105 rfl (lv_at hl 0 rfl) ?_
        refine va_get (D := D) (ci := 4) (v := .ref (a 1)) (C := R_U) (T := T_U) (N := 6) hx hb hts (in_U _) hown hK hP 29 rfl rfl 2 (by decide) (ht _ m_150) (fun _ h9 => h9) rfl d_U_follow_106 ?_
        refine va_get (D := D) (ci := 1) (v := .ref (a 4)) (C := R_N) (T := T_N) (N := 17) hx hb hts (in_N _) hown hK hP 1 rfl rfl 2 (by decide) (ht _ m_68) (fun _ h9 => h9) rfl d_U_follow_109 ?_
        refine lv_iload_n hx hb d_U_follow_112 rfl (lv_at hl 1 rfl) ?_
        refine pr_iald hx hb hK hP 4 0 rfl rfl (by decide) (by omega) (by omega) d_U_follow_113 ?_
        refine pr_i2l hx hb (i3_of (by omega) (by omega)) d_U_follow_114 ?_
        refine va_mmax_long hx hb (hml.trans hl.1.symm) hown (ht _ m_560) (ht _ m_561) (ht _ m_46) (ht _ m_562) (Nat.le_of_ble_eq_true rfl) (Nat.le_of_ble_eq_true rfl) (Nat.le_of_ble_eq_true rfl) (Nat.le_of_ble_eq_true rfl) d_U_follow_115 ?_
        refine pr_lxe (B := max ((m_whs nf (m_F nf ns (ss k) (pr k)) (fl 12 (0) (ul 1)) 24) (tt + 4)) (nf 2 (tt))) (lI_max2 (i6_of (by omega) (by omega)) (i6_of (by omega) (by omega))) ?_
        refine pr_last (ws' := cw a cI cL cD cS nf ns da be (nw ui 1 (m_fls (m_F nf ns (ss k) (pr k)) (ui 1) 24)) (nw (nw ul 1 (m_wz nf (m_whs nf (m_F nf ns (ss k) (pr k)) (fl 12 (0) (ul 1)) 24) tt)) 1 (pu ((nw ul 1 (m_wz nf (m_whs nf (m_F nf ns (ss k) (pr k)) (fl 12 (0) (ul 1)) 24) tt)) 1) ((tt) + 4) (max ((m_whs nf (m_F nf ns (ss k) (pr k)) (fl 12 (0) (ul 1)) 24) (tt + 4)) (nf 2 (tt))))) cn ss mf sd pr) hx hb hK hP hD hS 33 1 rfl rfl (by decide) (by omega) (by omega) rfl d_U_follow_118 (fun H locs hP hD hS => ?_)
        have e9 : nw (nw ul 1 (m_wz nf (m_whs nf (m_F nf ns (ss k) (pr k)) (fl 12 (0) (ul 1)) 24) tt)) 1 (pu ((nw ul 1 (m_wz nf (m_whs nf (m_F nf ns (ss k) (pr k)) (fl 12 (0) (ul 1)) 24) tt)) 1) ((tt) + 4) (max ((m_whs nf (m_F nf ns (ss k) (pr k)) (fl 12 (0) (ul 1)) 24) (tt + 4)) (nf 2 (tt)))) = nw ul 1 (m_wz nf (m_whs nf (m_F nf ns (ss k) (pr k)) (fl 12 (0) (ul 1)) 24) (tt + 1)) := by rw [nw_nw, nw_s, ← m_wz_s nf (m_whs nf (m_F nf ns (ss k) (pr k)) (fl 12 (0) (ul 1)) 24) q1, m_wz_at]
        rw [e9] at hP hD
        clear e9
        refine lv_iinc (v := iI (tt + 1)) (lv' := [(2, .int (iI (tt + 1))), (0, .ref (a 29))]) hx hb d_U_follow_119 hl (k := 1) rfl (iI_add _ _).symm (by decide) rfl (fun ls hl => ?_)
        refine lv_goto (tgt := 77) hx hb d_U_follow_122 (by decide) ?_
        exact ih (tt + 1) _ _ ls (by omega) (by omega) (by omega) hP hD hS (lv_sub hl [1, 0] rfl)
  have loop1 : ∀ (n : Nat) (n9 : Nat) (H : Heap) (locs : List Loc) (ls : Array Slot), (n9 ≤ 24) → (24 - n9) < n → va_P D pn_cl (cw a cI cL cD cS nf ns da be (nw ui 1 (m_fls (m_F nf ns (ss k) (pr k)) (ui 1) ((n9 : Nat) : Int))) (nw ul 1 (m_whs nf (m_F nf ns (ss k) (pr k)) (fl 12 (0) (ul 1)) n9)) cn ss mf sd pr) H → va_D A (cw a cI cL cD cS nf ns da be (nw ui 1 (m_fls (m_F nf ns (ss k) (pr k)) (ui 1) ((n9 : Nat) : Int))) (nw ul 1 (m_whs nf (m_F nf ns (ss k) (pr k)) (fl 12 (0) (ul 1)) n9)) cn ss mf sd pr) → va_S A s.heap H locs → lv_has ls 3 [(0, .ref (a 29)), (1, .ref (a (36 + 2 * k))), (2, .int (iI (((n9 : Nat) : Int))))] → W p l e (headSpec w_U_follow ({ frames := 2, cells := 0, slots := 0, locals := 60 })).room s m ([.ref (a 29), .ref (a (36 + 2 * k))] : List Value).toArray below meth c H locs 0 0 (MQ below (va_Qv (fun _ : Unit => True) (fun u t => va_P D pn_cl ((fun _ : Unit => cw a cI cL cD cS nf ns da be (nw ui 1 (m_fls (m_F nf ns (ss k) (pr k)) (ui 1) 24)) (nw ul 1 (m_wz nf (m_whs nf (m_F nf ns (ss k) (pr k)) (fl 12 (0) (ul 1)) 24) (ns 0))) cn ss mf sd pr) u) t.heap ∧ va_D A ((fun _ : Unit => cw a cI cL cD cS nf ns da be (nw ui 1 (m_fls (m_F nf ns (ss k) (pr k)) (ui 1) 24)) (nw ul 1 (m_wz nf (m_whs nf (m_F nf ns (ss k) (pr k)) (fl 12 (0) (ul 1)) 24) (ns 0))) cn ss mf sd pr) u)) A) ([.ref (a 29), .ref (a (36 + 2 * k))] : List Value).toArray s 0 0 A) (F0 m 10 ls []) := by
    intro n
    induction n with
    | zero => intro n9 H locs ls _ hm; exact absurd hm (Nat.not_lt_zero _)
    | succ n ih =>
      intro n9 H locs ls q1 hm hP hD hS hl
      refine lv_iload_n hx hb d_U_follow_10 rfl (lv_at hl 2 rfl) ?_
      refine lv_bipush (v := iI (24)) hx hb d_U_follow_11 (by decide) ?_
      refine pr_icmp_ge (tgt := 75) hx hb (i3_of (by omega) (by omega)) (i3_of (by decide) (by decide)) d_U_follow_13 (by decide) (fun c_2 => ?_) (fun c_2 => ?_)
      · skip
        have e8 : n9 = 24 := by omega
        have e9 : nw ul 1 (m_whs nf (m_F nf ns (ss k) (pr k)) (fl 12 (0) (ul 1)) n9) = nw ul 1 (m_wz nf (m_whs nf (m_F nf ns (ss k) (pr k)) (fl 12 (0) (ul 1)) 24) 0) := by rw [e8, m_wz_0]
        rw [e9] at hP hD
        clear e9
        have e9 : nw ui 1 (m_fls (m_F nf ns (ss k) (pr k)) (ui 1) ((n9 : Nat) : Int)) = nw ui 1 (m_fls (m_F nf ns (ss k) (pr k)) (ui 1) 24) := by rw [e8]; rfl
        rw [e9] at hP hD
        clear e9
        refine lv_iconst (v := iI (0)) hx hb d_U_follow_75 rfl ?_
        refine lv_istore_n (lv' := [(2, .int (iI (0))), (0, .ref (a 29)), (1, .ref (a (36 + 2 * k)))]) hx hb d_U_follow_76 rfl hl (by decide) rfl (fun ls hl => ?_)
        exact loop2 _ (0) _ _ ls (by omega) (by omega) (Nat.lt_succ_self _) hP hD hS (lv_sub hl [1, 0] rfl)
      · skip
        refine lv_aload_n hx hb d_U_follow_16 rfl (lv_at hl 0 rfl) ?_
        refine va_get (D := D) (ci := 4) (v := .ref (a 32)) (C := R_U) (T := T_U) (N := 6) hx hb hts (in_U _) hown hK hP 29 rfl rfl 3 (by decide) (ht _ m_151) (fun _ h9 => h9) rfl d_U_follow_17 ?_
        refine lv_iload_n hx hb d_U_follow_20 rfl (lv_at hl 2 rfl) ?_
        refine lv_aload_n hx hb d_U_follow_21 rfl (lv_at hl 0 rfl) ?_
        refine va_get (D := D) (ci := 4) (v := .ref (a 1)) (C := R_U) (T := T_U) (N := 6) hx hb hts (in_U _) hown hK hP 29 rfl rfl 2 (by decide) (ht _ m_150) (fun _ h9 => h9) rfl d_U_follow_22 ?_
        refine lv_iload_n hx hb d_U_follow_25 rfl (lv_at hl 2 rfl) ?_
        refine pr_pi (va_runV (As := [.int (iI (((n9 : Nat) : Int)))]) (rest := [.int (iI (((n9 : Nat) : Int))), .ref (a 32)]) ⟨hx, hb, hml, hown, hts⟩ (c_N_isDuct l (((n9 : Nat) : Int)) hOk ⟨by omega, by omega⟩) (cwV 1 hts (pn_gV m_547 m_548 m_549 m_34 m_550) rfl rfl rfl (by decide +kernel) ⟨Nat.le_of_ble_eq_true rfl, Nat.le_of_ble_eq_true rfl⟩) (pn_preV (q0 := 1) (ci := 1) (q := (R_N, T_N, 17)) hP hE rfl rfl) rfl rfl hl.1 rfl (lv_room (Nat.le_of_ble_eq_true rfl)) d_U_follow_26 ⟨Nat.le_of_ble_eq_true rfl, Nat.le_of_ble_eq_true rfl⟩) ?_
        refine pr_if_eq (tgt := 44) hx hb (i3_b2 _) d_U_follow_29 (by decide) (fun c_3 => ?_) (fun c_3 => ?_)
        · replace c_3 := b2_0 c_3
          refine lv_iconst (v := iI (0)) hx hb d_U_follow_44 rfl ?_
          refine pr_ire (B := m_F nf ns (ss k) (pr k) ((n9 : Nat) : Int)) (by unfold m_F; first | rw [if_pos (by assumption)] | rw [if_neg (by assumption)]) ?_
          refine pr_iast (ws' := cw a cI cL cD cS nf ns da be (nw (nw ui 1 (m_fls (m_F nf ns (ss k) (pr k)) (ui 1) ((n9 : Nat) : Int))) 1 (pu ((nw ui 1 (m_fls (m_F nf ns (ss k) (pr k)) (ui 1) ((n9 : Nat) : Int))) 1) (((n9 : Nat) : Int)) (m_F nf ns (ss k) (pr k) ((n9 : Nat) : Int)))) (nw ul 1 (m_whs nf (m_F nf ns (ss k) (pr k)) (fl 12 (0) (ul 1)) n9)) cn ss mf sd pr) hx hb hK hP hD hS 32 0 rfl rfl (by decide) (by omega) (by omega) rfl d_U_follow_45 (fun H locs hP hD hS => ?_)
          have e9 : nw (nw ui 1 (m_fls (m_F nf ns (ss k) (pr k)) (ui 1) ((n9 : Nat) : Int))) 1 (pu ((nw ui 1 (m_fls (m_F nf ns (ss k) (pr k)) (ui 1) ((n9 : Nat) : Int))) 1) (((n9 : Nat) : Int)) (m_F nf ns (ss k) (pr k) ((n9 : Nat) : Int))) = nw ui 1 (m_fls (m_F nf ns (ss k) (pr k)) (ui 1) (((n9 : Nat) : Int) + 1)) := by rw [nw_nw, nw_s, m_fls_s _ _ (by omega)]
          rw [e9] at hP hD
          clear e9
          have hfl2 : pn_Fl ((nw ui 1 (m_fls (m_F nf ns (ss k) (pr k)) (ui 1) (((n9 : Nat) : Int) + 1))) 1) := m_fls_b hFb hf0
          obtain ⟨v1, v2⟩ := m_gv_b (m_F nf ns (ss k) (pr k)) hOk (d := ((n9 : Nat) : Int)) (by omega) (by omega)
          have fb := hFb ((n9 : Nat) : Int) (by omega) (by omega)
          have ab := m_abs_b fb
          refine lv_aload_n hx hb d_U_follow_46 rfl (lv_at hl 0 rfl) ?_
          refine va_get (D := D) (ci := 4) (v := .ref (a 33)) (C := R_U) (T := T_U) (N := 6) hx hb hts (in_U _) hown hK hP 29 rfl rfl 4 (by decide) (ht _ m_152) (fun _ h9 => h9) rfl d_U_follow_47 ?_
          refine lv_aload_n hx hb d_U_follow_50 rfl (lv_at hl 0 rfl) ?_
          refine lv_iload_n hx hb d_U_follow_51 rfl (lv_at hl 2 rfl) ?_
          refine pr_pi (va_runV (As := [.int (iI (((n9 : Nat) : Int)))]) (rest := [.ref (a 33)]) ⟨hx, hb, hml, hown, hts⟩ (c_U_giverOf l (((n9 : Nat) : Int)) hOk hfl2 ⟨by omega, by omega⟩) (cwV 1 hts (pn_gV m_552 m_554 m_13 m_36 m_555) rfl rfl rfl (by decide +kernel) ⟨Nat.le_of_ble_eq_true rfl, Nat.le_of_ble_eq_true rfl⟩) (pn_preV (q0 := 29) (ci := 4) (q := (R_U, T_U, 6)) hP hE rfl rfl) rfl rfl hl.1 rfl (lv_room (Nat.le_of_ble_eq_true rfl)) d_U_follow_52 ⟨Nat.le_of_ble_eq_true rfl, Nat.le_of_ble_eq_true rfl⟩) ?_
          refine pr_ire (B := m_gv nf (m_F nf ns (ss k) (pr k)) ((n9 : Nat) : Int)) (m_gv_fls (by omega)) ?_
          refine lv_dup2_11 hx hb d_U_follow_55 rfl rfl ?_
          refine pr_lald hx hb hK hP 33 1 rfl rfl (by decide) (by omega) (by omega) d_U_follow_56 ?_
          refine lv_aload_n hx hb d_U_follow_57 rfl (lv_at hl 0 rfl) ?_
          refine va_get (D := D) (ci := 4) (v := .ref (a 32)) (C := R_U) (T := T_U) (N := 6) hx hb hts (in_U _) hown hK hP 29 rfl rfl 3 (by decide) (ht _ m_151) (fun _ h9 => h9) rfl d_U_follow_58 ?_
          refine lv_iload_n hx hb d_U_follow_61 rfl (lv_at hl 2 rfl) ?_
          refine pr_iald hx hb hK hP 32 0 rfl rfl (by decide) (by omega) (by omega) d_U_follow_62 ?_
          refine pr_ire (B := m_F nf ns (ss k) (pr k) ((n9 : Nat) : Int)) (m_fls_t (by omega)) ?_
          refine va_mabs hx hb (hml.trans hl.1.symm) hown (ht _ m_556) (ht _ m_557) (ht _ m_46) (ht _ m_558) (Nat.le_of_ble_eq_true rfl) (Nat.le_of_ble_eq_true rfl) (Nat.le_of_ble_eq_true rfl) (Nat.le_of_ble_eq_true rfl) d_U_follow_63 ?_
          refine pr_ixe (B := m_abs (m_F nf ns (ss k) (pr k) ((n9 : Nat) : Int))) (iI_abs ⟨by omega, by omega⟩) ?_
          refine pr_i2l hx hb (i3_of (by omega) (by omega)) d_U_follow_66 ?_
          refine pr_ladd hx hb d_U_follow_67 ?_
          refine pr_last (ws' := cw a cI cL cD cS nf ns da be (nw ui 1 (m_fls (m_F nf ns (ss k) (pr k)) (ui 1) (((n9 : Nat) : Int) + 1))) (nw (nw ul 1 (m_whs nf (m_F nf ns (ss k) (pr k)) (fl 12 (0) (ul 1)) n9)) 1 (pu ((nw ul 1 (m_whs nf (m_F nf ns (ss k) (pr k)) (fl 12 (0) (ul 1)) n9)) 1) (m_gv nf (m_F nf ns (ss k) (pr k)) ((n9 : Nat) : Int)) (((nw ul 1 (m_whs nf (m_F nf ns (ss k) (pr k)) (fl 12 (0) (ul 1)) n9)) 1 (m_gv nf (m_F nf ns (ss k) (pr k)) ((n9 : Nat) : Int))) + (m_abs (m_F nf ns (ss k) (pr k) ((n9 : Nat) : Int)))))) cn ss mf sd pr) hx hb hK hP hD hS 33 1 rfl rfl (by decide) (by omega) (by omega) rfl d_U_follow_68 (fun H locs hP hD hS => ?_)
          have e9 : nw (nw ul 1 (m_whs nf (m_F nf ns (ss k) (pr k)) (fl 12 (0) (ul 1)) n9)) 1 (pu ((nw ul 1 (m_whs nf (m_F nf ns (ss k) (pr k)) (fl 12 (0) (ul 1)) n9)) 1) (m_gv nf (m_F nf ns (ss k) (pr k)) ((n9 : Nat) : Int)) (((nw ul 1 (m_whs nf (m_F nf ns (ss k) (pr k)) (fl 12 (0) (ul 1)) n9)) 1 (m_gv nf (m_F nf ns (ss k) (pr k)) ((n9 : Nat) : Int))) + (m_abs (m_F nf ns (ss k) (pr k) ((n9 : Nat) : Int))))) = nw ul 1 (m_whs nf (m_F nf ns (ss k) (pr k)) (fl 12 (0) (ul 1)) (n9 + 1)) := by rw [nw_nw, nw_s]; rfl
          rw [e9] at hP hD
          clear e9
          refine lv_iinc (v := iI (((n9 : Nat) : Int) + 1)) (lv' := [(2, .int (iI (((n9 : Nat) : Int) + 1))), (0, .ref (a 29)), (1, .ref (a (36 + 2 * k)))]) hx hb d_U_follow_69 hl (k := 2) rfl (iI_add _ _).symm (by decide) rfl (fun ls hl => ?_)
          refine lv_goto (tgt := 10) hx hb d_U_follow_72 (by decide) ?_
          exact ih (n9 + 1) _ _ ls (by omega) (by omega) hP hD hS (lv_sub hl [1, 2, 0] rfl)
        · replace c_3 := b2_n1 c_3
          refine lv_aload_n hx hb d_U_follow_32 rfl (lv_at hl 0 rfl) ?_
          refine va_get (D := D) (ci := 4) (v := .ref (a 1)) (C := R_U) (T := T_U) (N := 6) hx hb hts (in_U _) hown hK hP 29 rfl rfl 2 (by decide) (ht _ m_150) (fun _ h9 => h9) rfl d_U_follow_33 ?_
          refine lv_iload_n hx hb d_U_follow_36 rfl (lv_at hl 2 rfl) ?_
          refine lv_aload_n hx hb d_U_follow_37 rfl (lv_at hl 1 rfl) ?_
          refine pr_pi (va_runV (As := [.int (iI (((n9 : Nat) : Int))), .ref (a (36 + 2 * k))]) (rest := [.int (iI (((n9 : Nat) : Int))), .ref (a 32)]) ⟨hx, hb, hml, hown, hts⟩ (c_N_flowOf l k (((n9 : Nat) : Int)) hOk hk hPr hss ⟨by omega, by omega⟩) (cwV 2 hts (pn_gV m_551 m_453 m_454 m_34 m_455) rfl rfl rfl (by decide +kernel) ⟨Nat.le_of_ble_eq_true rfl, Nat.le_of_ble_eq_true rfl⟩) (pn_preV (q0 := 1) (ci := 1) (q := (R_N, T_N, 17)) hP hE rfl rfl) rfl rfl hl.1 rfl (lv_room (Nat.le_of_ble_eq_true rfl)) d_U_follow_38 ⟨Nat.le_of_ble_eq_true rfl, Nat.le_of_ble_eq_true rfl⟩) ?_
          refine lv_goto (tgt := 45) hx hb d_U_follow_41 (by decide) ?_
          refine pr_ire (B := m_F nf ns (ss k) (pr k) ((n9 : Nat) : Int)) (by unfold m_F; first | rw [if_pos (by assumption)] | rw [if_neg (by assumption)]) ?_
          refine pr_iast (ws' := cw a cI cL cD cS nf ns da be (nw (nw ui 1 (m_fls (m_F nf ns (ss k) (pr k)) (ui 1) ((n9 : Nat) : Int))) 1 (pu ((nw ui 1 (m_fls (m_F nf ns (ss k) (pr k)) (ui 1) ((n9 : Nat) : Int))) 1) (((n9 : Nat) : Int)) (m_F nf ns (ss k) (pr k) ((n9 : Nat) : Int)))) (nw ul 1 (m_whs nf (m_F nf ns (ss k) (pr k)) (fl 12 (0) (ul 1)) n9)) cn ss mf sd pr) hx hb hK hP hD hS 32 0 rfl rfl (by decide) (by omega) (by omega) rfl d_U_follow_45 (fun H locs hP hD hS => ?_)
          have e9 : nw (nw ui 1 (m_fls (m_F nf ns (ss k) (pr k)) (ui 1) ((n9 : Nat) : Int))) 1 (pu ((nw ui 1 (m_fls (m_F nf ns (ss k) (pr k)) (ui 1) ((n9 : Nat) : Int))) 1) (((n9 : Nat) : Int)) (m_F nf ns (ss k) (pr k) ((n9 : Nat) : Int))) = nw ui 1 (m_fls (m_F nf ns (ss k) (pr k)) (ui 1) (((n9 : Nat) : Int) + 1)) := by rw [nw_nw, nw_s, m_fls_s _ _ (by omega)]
          rw [e9] at hP hD
          clear e9
          have hfl2 : pn_Fl ((nw ui 1 (m_fls (m_F nf ns (ss k) (pr k)) (ui 1) (((n9 : Nat) : Int) + 1))) 1) := m_fls_b hFb hf0
          obtain ⟨v1, v2⟩ := m_gv_b (m_F nf ns (ss k) (pr k)) hOk (d := ((n9 : Nat) : Int)) (by omega) (by omega)
          have fb := hFb ((n9 : Nat) : Int) (by omega) (by omega)
          have ab := m_abs_b fb
          refine lv_aload_n hx hb d_U_follow_46 rfl (lv_at hl 0 rfl) ?_
          refine va_get (D := D) (ci := 4) (v := .ref (a 33)) (C := R_U) (T := T_U) (N := 6) hx hb hts (in_U _) hown hK hP 29 rfl rfl 4 (by decide) (ht _ m_152) (fun _ h9 => h9) rfl d_U_follow_47 ?_
          refine lv_aload_n hx hb d_U_follow_50 rfl (lv_at hl 0 rfl) ?_
          refine lv_iload_n hx hb d_U_follow_51 rfl (lv_at hl 2 rfl) ?_
          refine pr_pi (va_runV (As := [.int (iI (((n9 : Nat) : Int)))]) (rest := [.ref (a 33)]) ⟨hx, hb, hml, hown, hts⟩ (c_U_giverOf l (((n9 : Nat) : Int)) hOk hfl2 ⟨by omega, by omega⟩) (cwV 1 hts (pn_gV m_552 m_554 m_13 m_36 m_555) rfl rfl rfl (by decide +kernel) ⟨Nat.le_of_ble_eq_true rfl, Nat.le_of_ble_eq_true rfl⟩) (pn_preV (q0 := 29) (ci := 4) (q := (R_U, T_U, 6)) hP hE rfl rfl) rfl rfl hl.1 rfl (lv_room (Nat.le_of_ble_eq_true rfl)) d_U_follow_52 ⟨Nat.le_of_ble_eq_true rfl, Nat.le_of_ble_eq_true rfl⟩) ?_
          refine pr_ire (B := m_gv nf (m_F nf ns (ss k) (pr k)) ((n9 : Nat) : Int)) (m_gv_fls (by omega)) ?_
          refine lv_dup2_11 hx hb d_U_follow_55 rfl rfl ?_
          refine pr_lald hx hb hK hP 33 1 rfl rfl (by decide) (by omega) (by omega) d_U_follow_56 ?_
          refine lv_aload_n hx hb d_U_follow_57 rfl (lv_at hl 0 rfl) ?_
          refine va_get (D := D) (ci := 4) (v := .ref (a 32)) (C := R_U) (T := T_U) (N := 6) hx hb hts (in_U _) hown hK hP 29 rfl rfl 3 (by decide) (ht _ m_151) (fun _ h9 => h9) rfl d_U_follow_58 ?_
          refine lv_iload_n hx hb d_U_follow_61 rfl (lv_at hl 2 rfl) ?_
          refine pr_iald hx hb hK hP 32 0 rfl rfl (by decide) (by omega) (by omega) d_U_follow_62 ?_
          refine pr_ire (B := m_F nf ns (ss k) (pr k) ((n9 : Nat) : Int)) (m_fls_t (by omega)) ?_
          refine va_mabs hx hb (hml.trans hl.1.symm) hown (ht _ m_556) (ht _ m_557) (ht _ m_46) (ht _ m_558) (Nat.le_of_ble_eq_true rfl) (Nat.le_of_ble_eq_true rfl) (Nat.le_of_ble_eq_true rfl) (Nat.le_of_ble_eq_true rfl) d_U_follow_63 ?_
          refine pr_ixe (B := m_abs (m_F nf ns (ss k) (pr k) ((n9 : Nat) : Int))) (iI_abs ⟨by omega, by omega⟩) ?_
          refine pr_i2l hx hb (i3_of (by omega) (by omega)) d_U_follow_66 ?_
          refine pr_ladd hx hb d_U_follow_67 ?_
          refine pr_last (ws' := cw a cI cL cD cS nf ns da be (nw ui 1 (m_fls (m_F nf ns (ss k) (pr k)) (ui 1) (((n9 : Nat) : Int) + 1))) (nw (nw ul 1 (m_whs nf (m_F nf ns (ss k) (pr k)) (fl 12 (0) (ul 1)) n9)) 1 (pu ((nw ul 1 (m_whs nf (m_F nf ns (ss k) (pr k)) (fl 12 (0) (ul 1)) n9)) 1) (m_gv nf (m_F nf ns (ss k) (pr k)) ((n9 : Nat) : Int)) (((nw ul 1 (m_whs nf (m_F nf ns (ss k) (pr k)) (fl 12 (0) (ul 1)) n9)) 1 (m_gv nf (m_F nf ns (ss k) (pr k)) ((n9 : Nat) : Int))) + (m_abs (m_F nf ns (ss k) (pr k) ((n9 : Nat) : Int)))))) cn ss mf sd pr) hx hb hK hP hD hS 33 1 rfl rfl (by decide) (by omega) (by omega) rfl d_U_follow_68 (fun H locs hP hD hS => ?_)
          have e9 : nw (nw ul 1 (m_whs nf (m_F nf ns (ss k) (pr k)) (fl 12 (0) (ul 1)) n9)) 1 (pu ((nw ul 1 (m_whs nf (m_F nf ns (ss k) (pr k)) (fl 12 (0) (ul 1)) n9)) 1) (m_gv nf (m_F nf ns (ss k) (pr k)) ((n9 : Nat) : Int)) (((nw ul 1 (m_whs nf (m_F nf ns (ss k) (pr k)) (fl 12 (0) (ul 1)) n9)) 1 (m_gv nf (m_F nf ns (ss k) (pr k)) ((n9 : Nat) : Int))) + (m_abs (m_F nf ns (ss k) (pr k) ((n9 : Nat) : Int))))) = nw ul 1 (m_whs nf (m_F nf ns (ss k) (pr k)) (fl 12 (0) (ul 1)) (n9 + 1)) := by rw [nw_nw, nw_s]; rfl
          rw [e9] at hP hD
          clear e9
          refine lv_iinc (v := iI (((n9 : Nat) : Int) + 1)) (lv' := [(2, .int (iI (((n9 : Nat) : Int) + 1))), (0, .ref (a 29)), (1, .ref (a (36 + 2 * k)))]) hx hb d_U_follow_69 hl (k := 2) rfl (iI_add _ _).symm (by decide) rfl (fun ls hl => ?_)
          refine lv_goto (tgt := 10) hx hb d_U_follow_72 (by decide) ?_
          exact ih (n9 + 1) _ _ ls (by omega) (by omega) hP hD hS (lv_sub hl [1, 2, 0] rfl)
  refine lv_aload_n hx hb d_U_follow_0 rfl (lv_at hl 0 rfl) ?_
  refine va_get (D := D) (ci := 4) (v := .ref (a 33)) (C := R_U) (T := T_U) (N := 6) hx hb hts (in_U _) hown hK hP 29 rfl rfl 4 (by decide) (ht _ m_152) (fun _ h9 => h9) rfl d_U_follow_1 ?_
  refine lv_lconst (v := lI 0) hx hb d_U_follow_4 (by decide) ?_
  refine pr_cv (va_runS (As := [.ref (a 33), .long (lI (0))]) (rest := []) ⟨hx, hb, hml, hown, hts⟩ (c_A_filll l s.heap.size (0)) (va_cwS 2 hts (pn_gS2 m_544 m_545 m_44 m_546) rfl rfl rfl (by decide +kernel) ⟨Nat.le_of_ble_eq_true rfl, Nat.le_of_ble_eq_true rfl⟩) (pn_preWS hP hD hE) rfl rfl hl.1 rfl (lv_room (Nat.le_of_ble_eq_true rfl)) d_U_follow_5 ⟨Nat.le_of_ble_eq_true rfl, Nat.le_of_ble_eq_true rfl⟩) hD hS hA (fun u H locs _ hP hD hS => ?_)
  try dsimp only at hP hD
  have hP : va_P D pn_cl (cw a cI cL cD cS nf ns da be ui (nw ul 1 (fl 12 (0) (ul 1))) cn ss mf sd pr) H := hP
  have hD : va_D A (cw a cI cL cD cS nf ns da be ui (nw ul 1 (fl 12 (0) (ul 1))) cn ss mf sd pr) := hD
  refine lv_iconst (v := iI (0)) hx hb d_U_follow_8 rfl ?_
  refine lv_istore_n (lv' := [(2, .int (iI (0))), (0, .ref (a 29)), (1, .ref (a (36 + 2 * k)))]) hx hb d_U_follow_9 rfl hl (by decide) rfl (fun ls hl => ?_)
  have hP : va_P D pn_cl (cw a cI cL cD cS nf ns da be (nw ui 1 (m_fls (m_F nf ns (ss k) (pr k)) (ui 1) ((0 : Nat) : Int))) (nw ul 1 (m_whs nf (m_F nf ns (ss k) (pr k)) (fl 12 (0) (ul 1)) 0)) cn ss mf sd pr) H := by rw [show ((0 : Nat) : Int) = 0 from rfl, m_fls_0, nw_self]; exact hP
  have hD : va_D A (cw a cI cL cD cS nf ns da be (nw ui 1 (m_fls (m_F nf ns (ss k) (pr k)) (ui 1) ((0 : Nat) : Int))) (nw ul 1 (m_whs nf (m_F nf ns (ss k) (pr k)) (fl 12 (0) (ul 1)) 0)) cn ss mf sd pr) := by rw [show ((0 : Nat) : Int) = 0 from rfl, m_fls_0, nw_self]; exact hD
  exact loop1 _ (0) _ _ ls (by omega) (Nat.lt_succ_self _) hP hD hS (lv_sub hl [1, 2, 0] rfl)
