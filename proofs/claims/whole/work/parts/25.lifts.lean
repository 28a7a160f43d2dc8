theorem i3_pb (P : Int → Int) : i3 (m_pb P) := by
  rcases m_pb_01 P with h | h <;> rw [h] <;> exact ⟨by decide, by decide⟩
abbrev w_S_lifts : List Cond := .code y_S_lifts b_S_lifts 5 (some .boolean) :: pn_W
set_option maxHeartbeats 4000000 in
set_option maxRecDepth 100000 in
theorem c_S_lifts (l : Launch) {D : va_G} {a : Nat → Nat} {cI cL cD cS : ClassId} {nf : Nat → Int → Int} {ns : Nat → Int} {da : Int → Int → Int} {be : Int → Int} {ui ul : Nat → Int → Int} {cn : Int} {ss : Nat → Nat} {mf sd : Nat → Int} {pr : Nat → Int → Int} (sz : Nat) (k am lf : Nat) (hOk : pn_Ok nf ns da) (hk : k < 9) (h5 : pn_P5 (pr k)) (hss : ss k < 2 ^ 20) (ham : am < 256) (hlf : lf ≤ 10000) : Met l y_S_lifts w_S_lifts ({ frames := 5, cells := 0, slots := 0, locals := 139 }) (va_Pc [.ref (a 27), .ref (a (36 + 2 * k)), .int (iI (((am : Nat) : Int))), .int (iI (((lf : Nat) : Int)))] (fun U => U.heap.size = sz ∧ va_P D pn_cl (cw a cI cL cD cS nf ns da be ui ul cn ss mf sd pr) U.heap ∧ va_D (fun _ => True) (cw a cI cL cD cS nf ns da be ui ul cn ss mf sd pr) ∧ pn_E D cI cL cD cS U)) (va_Qi (fun (r : Int32) (u : (Int → Int) × (Int → Int)) => (r = iI 1 ∧ ¬ m_past (m_lift (ns 0) am lf (pr k)) ∧ pn_Bo (ns 0) (m_G nf da (ss k)) am am (m_lift (ns 0) am lf (pr k)) u.1) ∨ (r = iI 0 ∧ u.1 = pr k)) (fun u t => va_P D pn_cl ((fun u : (Int → Int) × (Int → Int) => cw a cI cL cD cS nf ns da (u.2) ui ul cn ss mf sd (nw pr k u.1)) u) t.heap ∧ va_D (va_A (cw a cI cL cD cS nf ns da be ui ul cn ss mf sd pr) sz) ((fun u : (Int → Int) × (Int → Int) => cw a cI cL cD cS nf ns da (u.2) ui ul cn ss mf sd (nw pr k u.1)) u)) (va_A (cw a cI cL cD cS nf ns da be ui ul cn ss mf sd pr) sz)) 0 0 (va_A (cw a cI cL cD cS nf ns da be ui ul cn ss mf sd pr) sz) := by
  refine Met.ofW (cc := b_S_lifts) (maxL := 5) (ret := (some .boolean)) (by decide) rfl ?_
  intro p e s m args below meth c s₁ B hml hv
  obtain ⟨rfl, hsz, hP, hD0, hE⟩ := hv
  have hx := B.exec
  have hb := B.bytes
  have hr := B.returns
  have hts := atoms_spec (ws := w_S_lifts) B.pre
  have ht : ∀ w ∈ pn_W, w.before _ s = true := fun w h => hts w (List.mem_cons_of_mem _ h)
  have hown : s.vm.findClass R_S = some m.cls := findClass_of_methodNamed B.named
  have hlocks := B.notSynchronized
  have hK := hE.1
  subst hsz
  have hD := hD0.self (sz := s.heap.size)
  generalize hAe : va_A (cw a cI cL cD cS nf ns da be ui ul cn ss mf sd pr) s.heap.size = A at hD ⊢
  have hA : ∀ q : Nat, s.heap.size ≤ q → A q := fun q h => by rw [← hAe]; exact Or.inr h
  have hS : va_S A s.heap s.heap [] := va_S.rf
  have hl := lv_entry ([.ref (a 27), .ref (a (36 + 2 * k)), .int (iI (((am : Nat) : Int))), .int (iI (((lf : Nat) : Int)))]) (n := 5) (Nat.le_of_ble_eq_true rfl)
  rw [lg_entry_eq]
  generalize (lg_sl ([.ref (a 27), .ref (a (36 + 2 * k)), .int (iI (((am : Nat) : Int))), .int (iI (((lf : Nat) : Int)))]) ++ List.replicate (5 - (lg_sl ([.ref (a 27), .ref (a (36 + 2 * k)), .int (iI (((am : Nat) : Int))), .int (iI (((lf : Nat) : Int)))])).length) Slot.unset).toArray = ls at hl ⊢
  have hl : lv_has ls 5 [(0, .ref (a 27)), (1, .ref (a (36 + 2 * k))), (2, .int (iI (((am : Nat) : Int)))), (3, .int (iI (((lf : Nat) : Int))))] := hl
  obtain ⟨o_zc, o_lc, o_fc, o_ve, o_wi, o_wa, o_vo, o_fr, o_to, o_he, o_ar, o_ki, o_st, o_ff, o_sl, o_dc, o_da⟩ := id hOk
  have loop : ∀ (n : Nat) (zz : Nat) (H : Heap) (locs : List Loc) (ls : Array Slot), ((zz : Int) ≤ ns 0) → (8 - zz) < n → va_P D pn_cl (cw a cI cL cD cS nf ns da (cp (pr k) be ((0 : Nat) : Int) ((0 : Nat) : Int) ((12 : Nat) : Int)) ui ul cn ss mf sd (nw pr k (m_lift ((zz : Nat) : Int) am lf (pr k)))) H → va_D A (cw a cI cL cD cS nf ns da (cp (pr k) be ((0 : Nat) : Int) ((0 : Nat) : Int) ((12 : Nat) : Int)) ui ul cn ss mf sd (nw pr k (m_lift ((zz : Nat) : Int) am lf (pr k)))) → va_S A s.heap H locs → lv_has ls 5 [(0, .ref (a 27)), (1, .ref (a (36 + 2 * k))), (2, .int (iI (((am : Nat) : Int)))), (3, .int (iI (((lf : Nat) : Int)))), (4, .int (iI (((zz : Nat) : Int))))] → W p l e (headSpec w_S_lifts ({ frames := 5, cells := 0, slots := 0, locals := 139 })).room s m ([.ref (a 27), .ref (a (36 + 2 * k)), .int (iI (((am : Nat) : Int))), .int (iI (((lf : Nat) : Int)))] : List Value).toArray below meth c H locs 0 0 (MQ below (va_Qi (fun (r : Int32) (u : (Int → Int) × (Int → Int)) => (r = iI 1 ∧ ¬ m_past (m_lift (ns 0) am lf (pr k)) ∧ pn_Bo (ns 0) (m_G nf da (ss k)) am am (m_lift (ns 0) am lf (pr k)) u.1) ∨ (r = iI 0 ∧ u.1 = pr k)) (fun u t => va_P D pn_cl ((fun u : (Int → Int) × (Int → Int) => cw a cI cL cD cS nf ns da (u.2) ui ul cn ss mf sd (nw pr k u.1)) u) t.heap ∧ va_D A ((fun u : (Int → Int) × (Int → Int) => cw a cI cL cD cS nf ns da (u.2) ui ul cn ss mf sd (nw pr k u.1)) u)) A) ([.ref (a 27), .ref (a (36 + 2 * k)), .int (iI (((am : Nat) : Int))), .int (iI (((lf : Nat) : Int)))] : List Value).toArray s 0 0 A) (F0 m 18 ls []) := by
    intro n
    induction n with
    | zero => intro zz H locs ls _ hm; exact absurd hm (Nat.not_lt_zero _)
    | succ n ih =>
      intro zz H locs ls q1 hm hP hD hS hl
      refine lv_iload hx hb d_S_lifts_18 (lv_at hl 4 rfl) ?_
      refine lv_aload_n hx hb d_S_lifts_20 rfl (lv_at hl 0 rfl) ?_
      refine va_get (D := D) (ci := 2) (v := .ref (a 1)) (C := R_S) (T := T_S) (N := 2) hx hb hts (in_S _) hown hK hP 27 rfl rfl 0 (by decide) (ht _ m_133) (fun _ h9 => h9) rfl d_S_lifts_21 ?_
      refine va_get (D := D) (ci := 1) (v := .int (iI (ns 0))) (C := R_N) (T := T_N) (N := 17) hx hb hts (in_N _) hown hK hP 1 rfl rfl 13 (by decide) (ht _ m_83) (fun _ h9 => h9) rfl d_S_lifts_24 ?_
      refine pr_icmp_ge (tgt := 59) hx hb (i3_of (by omega) (by omega)) (i3_of (by omega) (by omega)) d_S_lifts_27 (by decide) (fun c_1 => ?_) (fun c_1 => ?_)
      · skip
        have e9 : nw pr k (m_lift ((zz : Nat) : Int) am lf (pr k)) = nw pr k (m_lift (ns 0) am lf (pr k)) := by rw [show ((zz : Nat) : Int) = ns 0 by omega]
        rw [e9] at hP hD
        clear e9
        have hPrL : pn_Pr ((nw pr k (m_lift (ns 0) am lf (pr k))) k) := by rw [nw_s]; exact m_lift_pr h5 hlf
        refine lv_aload_n hx hb d_S_lifts_59 rfl (lv_at hl 0 rfl) ?_
        refine lv_aload_n hx hb d_S_lifts_60 rfl (lv_at hl 1 rfl) ?_
        refine pr_pi (va_runV (As := [.ref (a (36 + 2 * k))]) (rest := []) ⟨hx, hb, hml, hown, hts⟩ (c_S_isPastHighest l k hk hPrL) (cwV 1 hts (pn_gV m_435 m_437 m_9 m_35 m_438) rfl rfl rfl (by decide +kernel) ⟨Nat.le_of_ble_eq_true rfl, Nat.le_of_ble_eq_true rfl⟩) (pn_preV (q0 := 27) (ci := 2) (q := (R_S, T_S, 2)) hP hE rfl rfl) rfl rfl hl.1 rfl (lv_room (Nat.le_of_ble_eq_true rfl)) d_S_lifts_61 ⟨Nat.le_of_ble_eq_true rfl, Nat.le_of_ble_eq_true rfl⟩) ?_
        refine pr_ire (B := m_pb (m_lift (ns 0) am lf (pr k))) (by rw [nw_s]) ?_
        refine pr_if_ne (tgt := 79) hx hb (i3_pb _) d_S_lifts_64 (by decide) (fun c_2 => ?_) (fun c_2 => ?_)
        · replace c_2 := m_pb_1 c_2
          have hoff : ∀ j : Int, ¬ (0 ≤ j ∧ j < 12) → m_lift (ns 0) am lf (pr k) j = pr k j := fun j hj => m_lift_off (by omega)
          refine lv_aload_n hx hb d_S_lifts_79 rfl (lv_at hl 0 rfl) ?_
          refine va_get (D := D) (ci := 2) (v := .ref (a 28)) (C := R_S) (T := T_S) (N := 2) hx hb hts (in_S _) hown hK hP 27 rfl rfl 1 (by decide) (ht _ m_134) (fun _ h9 => h9) rfl d_S_lifts_80 ?_
          refine lv_iconst (v := iI (0)) hx hb d_S_lifts_83 rfl ?_
          refine lv_aload_n hx hb d_S_lifts_84 rfl (lv_at hl 1 rfl) ?_
          refine va_get (D := D) (ci := 3) (v := .ref (a (37 + 2 * k))) (C := R_T) (T := T_T) (N := 4) hx hb hts (in_T _) hown hK hP (36 + 2 * k) (cw_so k hk) rfl 0 (by decide) (ht _ m_175) (fun _ h9 => h9) rfl d_S_lifts_85 ?_
          refine lv_iconst (v := iI (0)) hx hb d_S_lifts_88 rfl ?_
          refine lv_bipush (v := iI (12)) hx hb d_S_lifts_89 (by decide) ?_
          refine pr_copyi (ws' := cw a cI cL cD cS nf ns da (cp (pr k) be ((0 : Nat) : Int) ((0 : Nat) : Int) ((12 : Nat) : Int)) ui ul cn ss mf sd (nw (nw pr k (m_lift (ns 0) am lf (pr k))) k (cp (cp (pr k) be ((0 : Nat) : Int) ((0 : Nat) : Int) ((12 : Nat) : Int)) ((nw pr k (m_lift (ns 0) am lf (pr k))) k) ((0 : Nat) : Int) ((0 : Nat) : Int) ((12 : Nat) : Int)))) hx hb (hml.trans hl.1.symm) hown (ht _ m_431) (ht _ m_nat) (ht _ m_432) (ht _ m_45) hK hP hD hS 28 (37 + 2 * k) 0 rfl (cw_sp k hk) rfl 0 0 12 (by decide) (by decide) (by decide) (by decide) (cw_upr _ hk) (Nat.le_of_ble_eq_true rfl) (Nat.le_of_ble_eq_true rfl) d_S_lifts_91 (fun H locs hP hD hS => ?_)
          have e9 : nw (nw pr k (m_lift (ns 0) am lf (pr k))) k (cp (cp (pr k) be ((0 : Nat) : Int) ((0 : Nat) : Int) ((12 : Nat) : Int)) ((nw pr k (m_lift (ns 0) am lf (pr k))) k) ((0 : Nat) : Int) ((0 : Nat) : Int) ((12 : Nat) : Int)) = nw pr k (pr k) := by rw [nw_nw, nw_s, pn_cpback hoff]
          rw [e9] at hP hD
          clear e9
          refine lv_iconst (v := iI (0)) hx hb d_S_lifts_94 rfl ?_
          exact W.zret (v := iI (0)) hx hb hr (by decide) (fun t ht hW => ⟨⟨iI (0), (pr k, cp (pr k) be ((0 : Nat) : Int) ((0 : Nat) : Int) ((12 : Nat) : Int)), rfl, Or.inr ⟨rfl, rfl⟩, by rw [ht]; exact hP, hD⟩, hS.F ht⟩) hS.2.2 d_S_lifts_95
        · replace c_2 := m_pb_0 c_2
          refine lv_aload_n hx hb d_S_lifts_67 rfl (lv_at hl 0 rfl) ?_
          refine lv_aload_n hx hb d_S_lifts_68 rfl (lv_at hl 1 rfl) ?_
          refine lv_iload_n hx hb d_S_lifts_69 rfl (lv_at hl 2 rfl) ?_
          refine pr_ci (va_runV (As := [.ref (a (36 + 2 * k)), .int (iI (((am : Nat) : Int)))]) (rest := []) ⟨hx, hb, hml, hown, hts⟩ (c_S_doBout l (pr := nw pr k (m_lift (ns 0) am lf (pr k))) H.size k am hOk hk hPrL hss ham) (cwV 2 hts (pn_gV m_439 m_441 m_10 m_35 m_442) rfl rfl rfl (by decide +kernel) ⟨Nat.le_of_ble_eq_true rfl, Nat.le_of_ble_eq_true rfl⟩) (pn_preW (q0 := 27) (ci := 2) (q := (R_S, T_S, 2)) hP hD hE rfl rfl) rfl rfl hl.1 rfl (lv_room (Nat.le_of_ble_eq_true rfl)) d_S_lifts_70 ⟨Nat.le_of_ble_eq_true rfl, Nat.le_of_ble_eq_true rfl⟩) hD hS hA (fun r u H locs hw hP hD hS => ?_)
          obtain ⟨ro, Q⟩ := u
          simp only [nw_s] at hw
          try dsimp only at hP hD
          rw [nw_nw] at hP hD
          obtain ⟨rfl, hB, hno⟩ := hw
          have b1 := hB.2.2.2
          refine lv_iload_n hx hb d_S_lifts_73 rfl (lv_at hl 2 rfl) ?_
          refine pr_icmp_ne (tgt := 79) hx hb (i3_of (by omega) (by omega)) (i3_of (by omega) (by omega)) d_S_lifts_74 (by decide) (fun c_3 => ?_) (fun c_3 => ?_)
          · skip
            have hoff : ∀ j : Int, ¬ (0 ≤ j ∧ j < 12) → Q j = pr k j := fun j hj => (hB.1.off j (fun q => by have := q.1; unfold pn_zone at this; omega)).trans (m_lift_off (by omega))
            refine lv_aload_n hx hb d_S_lifts_79 rfl (lv_at hl 0 rfl) ?_
            refine va_get (D := D) (ci := 2) (v := .ref (a 28)) (C := R_S) (T := T_S) (N := 2) hx hb hts (in_S _) hown hK hP 27 rfl rfl 1 (by decide) (ht _ m_134) (fun _ h9 => h9) rfl d_S_lifts_80 ?_
            refine lv_iconst (v := iI (0)) hx hb d_S_lifts_83 rfl ?_
            refine lv_aload_n hx hb d_S_lifts_84 rfl (lv_at hl 1 rfl) ?_
            refine va_get (D := D) (ci := 3) (v := .ref (a (37 + 2 * k))) (C := R_T) (T := T_T) (N := 4) hx hb hts (in_T _) hown hK hP (36 + 2 * k) (cw_so k hk) rfl 0 (by decide) (ht _ m_175) (fun _ h9 => h9) rfl d_S_lifts_85 ?_
            refine lv_iconst (v := iI (0)) hx hb d_S_lifts_88 rfl ?_
            refine lv_bipush (v := iI (12)) hx hb d_S_lifts_89 (by decide) ?_
            refine pr_copyi (ws' := cw a cI cL cD cS nf ns da (cp (pr k) be ((0 : Nat) : Int) ((0 : Nat) : Int) ((12 : Nat) : Int)) ui ul cn ss mf sd (nw (nw pr k Q) k (cp (cp (pr k) be ((0 : Nat) : Int) ((0 : Nat) : Int) ((12 : Nat) : Int)) ((nw pr k Q) k) ((0 : Nat) : Int) ((0 : Nat) : Int) ((12 : Nat) : Int)))) hx hb (hml.trans hl.1.symm) hown (ht _ m_431) (ht _ m_nat) (ht _ m_432) (ht _ m_45) hK hP hD hS 28 (37 + 2 * k) 0 rfl (cw_sp k hk) rfl 0 0 12 (by decide) (by decide) (by decide) (by decide) (cw_upr _ hk) (Nat.le_of_ble_eq_true rfl) (Nat.le_of_ble_eq_true rfl) d_S_lifts_91 (fun H locs hP hD hS => ?_)
            have e9 : nw (nw pr k Q) k (cp (cp (pr k) be ((0 : Nat) : Int) ((0 : Nat) : Int) ((12 : Nat) : Int)) ((nw pr k Q) k) ((0 : Nat) : Int) ((0 : Nat) : Int) ((12 : Nat) : Int)) = nw pr k (pr k) := by rw [nw_nw, nw_s, pn_cpback hoff]
            rw [e9] at hP hD
            clear e9
            refine lv_iconst (v := iI (0)) hx hb d_S_lifts_94 rfl ?_
            exact W.zret (v := iI (0)) hx hb hr (by decide) (fun t ht hW => ⟨⟨iI (0), (pr k, cp (pr k) be ((0 : Nat) : Int) ((0 : Nat) : Int) ((12 : Nat) : Int)), rfl, Or.inr ⟨rfl, rfl⟩, by rw [ht]; exact hP, hD⟩, hS.F ht⟩) hS.2.2 d_S_lifts_95
          · skip
            refine lv_iconst (v := iI (1)) hx hb d_S_lifts_77 rfl ?_
            exact W.zret (v := iI (1)) hx hb hr (by decide) (fun t ht hW => ⟨⟨iI (1), (Q, cp (pr k) be ((0 : Nat) : Int) ((0 : Nat) : Int) ((12 : Nat) : Int)), rfl, Or.inl ⟨rfl, by assumption, by rw [show ro = am by omega] at hB; exact hB⟩, by rw [ht]; exact hP, hD⟩, hS.F ht⟩) hS.2.2 d_S_lifts_78
      · skip
        refine lv_iload_n hx hb d_S_lifts_30 rfl (lv_at hl 2 rfl) ?_
        refine lv_iload hx hb d_S_lifts_31 (lv_at hl 4 rfl) ?_
        refine lv_ishr hx hb d_S_lifts_33 ?_
        refine lv_iconst (v := iI 1) hx hb d_S_lifts_34 rfl ?_
        refine lv_iand hx hb d_S_lifts_35 ?_
        refine pr_ixe (B := b2 ((am).testBit (zz) = true)) (nb_bit (by omega) (by omega)) ?_
        refine pr_if_eq (tgt := 53) hx hb (i3_b2 _) d_S_lifts_36 (by decide) (fun c_4 => ?_) (fun c_4 => ?_)
        · replace c_4 := b2_0 c_4
          have e9 : nw pr k (m_lift ((zz : Nat) : Int) am lf (pr k)) = nw pr k (m_lift ((zz + 1 : Nat) : Int) am lf (pr k)) := by rw [m_lift_f (by assumption)]
          rw [e9] at hP hD
          clear e9
          refine lv_iinc (v := iI (((zz : Nat) : Int) + 1)) (lv' := [(4, .int (iI (((zz : Nat) : Int) + 1))), (0, .ref (a 27)), (1, .ref (a (36 + 2 * k))), (2, .int (iI (((am : Nat) : Int)))), (3, .int (iI (((lf : Nat) : Int))))]) hx hb d_S_lifts_53 hl (k := 4) rfl (iI_add _ _).symm (by decide) rfl (fun ls hl => ?_)
          refine lv_goto (tgt := 18) hx hb d_S_lifts_56 (by decide) ?_
          exact ih (zz + 1) _ _ ls (by omega) (by omega) hP hD hS (lv_sub hl [1, 2, 3, 4, 0] rfl)
        · replace c_4 := b2_n1 c_4
          refine lv_aload_n hx hb d_S_lifts_39 rfl (lv_at hl 1 rfl) ?_
          refine va_get (D := D) (ci := 3) (v := .ref (a (37 + 2 * k))) (C := R_T) (T := T_T) (N := 4) hx hb hts (in_T _) hown hK hP (36 + 2 * k) (cw_so k hk) rfl 0 (by decide) (ht _ m_175) (fun _ h9 => h9) rfl d_S_lifts_40 ?_
          refine lv_iload hx hb d_S_lifts_43 (lv_at hl 4 rfl) ?_
          refine pr_pi (va_runSN (As := [.int (iI (((zz : Nat) : Int)))]) (rest := [.ref (a (37 + 2 * k))]) ⟨hx, hb, hml, hown, hts⟩ (c_P_rowOf l (((zz : Nat) : Int))) ⟨va_cnB 1 hts (pn_g m_326) rfl rfl rfl (hE.2 _ (List.mem_of_getElem? (i := 4) rfl)) (ht _ m_33) (by decide +kernel) ⟨Nat.le_of_ble_eq_true rfl, Nat.le_of_ble_eq_true rfl⟩, ht _ m_325, trivial⟩ pn_pre0 rfl rfl hl.1 rfl (lv_room (Nat.le_of_ble_eq_true rfl)) d_S_lifts_45 ⟨Nat.le_of_ble_eq_true rfl, Nat.le_of_ble_eq_true rfl⟩) ?_
          refine pr_ire (B := ((zz + 4 : Nat) : Int)) (by omega) ?_
          refine lv_dup2_11 hx hb d_S_lifts_48 rfl rfl ?_
          refine pr_iald hx hb hK hP (37 + 2 * k) 0 (cw_sp k hk) rfl (by decide) (by omega) (by omega) d_S_lifts_49 ?_
          refine lv_iload_n hx hb d_S_lifts_50 rfl (lv_at hl 3 rfl) ?_
          refine pr_iadd hx hb d_S_lifts_51 ?_
          refine pr_iast (ws' := cw a cI cL cD cS nf ns da (cp (pr k) be ((0 : Nat) : Int) ((0 : Nat) : Int) ((12 : Nat) : Int)) ui ul cn ss mf sd (nw (nw pr k (m_lift ((zz : Nat) : Int) am lf (pr k))) k (pu ((nw pr k (m_lift ((zz : Nat) : Int) am lf (pr k))) k) (((zz + 4 : Nat) : Int)) (((nw pr k (m_lift ((zz : Nat) : Int) am lf (pr k))) k (((zz + 4 : Nat) : Int))) + (((lf : Nat) : Int)))))) hx hb hK hP hD hS (37 + 2 * k) 0 (cw_sp k hk) rfl (by decide) (by omega) (by omega) (cw_upr _ hk) d_S_lifts_52 (fun H locs hP hD hS => ?_)
          have e9 : nw (nw pr k (m_lift ((zz : Nat) : Int) am lf (pr k))) k (pu ((nw pr k (m_lift ((zz : Nat) : Int) am lf (pr k))) k) (((zz + 4 : Nat) : Int)) (((nw pr k (m_lift ((zz : Nat) : Int) am lf (pr k))) k (((zz + 4 : Nat) : Int))) + (((lf : Nat) : Int)))) = nw pr k (m_lift ((zz + 1 : Nat) : Int) am lf (pr k)) := by rw [nw_nw, nw_s, m_lift_t (by assumption)]
          rw [e9] at hP hD
          clear e9
          refine lv_iinc (v := iI (((zz : Nat) : Int) + 1)) (lv' := [(4, .int (iI (((zz : Nat) : Int) + 1))), (0, .ref (a 27)), (1, .ref (a (36 + 2 * k))), (2, .int (iI (((am : Nat) : Int)))), (3, .int (iI (((lf : Nat) : Int))))]) hx hb d_S_lifts_53 hl (k := 4) rfl (iI_add _ _).symm (by decide) rfl (fun ls hl => ?_)
          refine lv_goto (tgt := 18) hx hb d_S_lifts_56 (by decide) ?_
          exact ih (zz + 1) _ _ ls (by omega) (by omega) hP hD hS (lv_sub hl [1, 2, 3, 4, 0] rfl)
  refine lv_aload_n hx hb d_S_lifts_0 rfl (lv_at hl 1 rfl) ?_
  refine va_get (D := D) (ci := 3) (v := .ref (a (37 + 2 * k))) (C := R_T) (T := T_T) (N := 4) hx hb hts (in_T _) hown hK hP (36 + 2 * k) (cw_so k hk) rfl 0 (by decide) (ht _ m_175) (fun _ h9 => h9) rfl d_S_lifts_1 ?_
  refine lv_iconst (v := iI (0)) hx hb d_S_lifts_4 rfl ?_
  refine lv_aload_n hx hb d_S_lifts_5 rfl (lv_at hl 0 rfl) ?_
  refine va_get (D := D) (ci := 2) (v := .ref (a 28)) (C := R_S) (T := T_S) (N := 2) hx hb hts (in_S _) hown hK hP 27 rfl rfl 1 (by decide) (ht _ m_134) (fun _ h9 => h9) rfl d_S_lifts_6 ?_
  refine lv_iconst (v := iI (0)) hx hb d_S_lifts_9 rfl ?_
  refine lv_bipush (v := iI (12)) hx hb d_S_lifts_10 (by decide) ?_
  refine pr_copyi (ws' := cw a cI cL cD cS nf ns da (cp (pr k) (be) ((0 : Nat) : Int) ((0 : Nat) : Int) ((12 : Nat) : Int)) ui ul cn ss mf sd pr) hx hb (hml.trans hl.1.symm) hown (ht _ m_431) (ht _ m_nat) (ht _ m_432) (ht _ m_45) hK hP hD hS (37 + 2 * k) 28 0 (cw_sp k hk) rfl rfl 0 0 12 (by decide) (by decide) (by decide) (by decide) rfl (Nat.le_of_ble_eq_true rfl) (Nat.le_of_ble_eq_true rfl) d_S_lifts_12 (fun H locs hP hD hS => ?_)
  refine lv_iconst (v := iI (0)) hx hb d_S_lifts_15 rfl ?_
  refine lv_istore (lv' := [(4, .int (iI (0))), (0, .ref (a 27)), (1, .ref (a (36 + 2 * k))), (2, .int (iI (((am : Nat) : Int)))), (3, .int (iI (((lf : Nat) : Int))))]) hx hb d_S_lifts_16 hl (by decide) rfl (fun ls hl => ?_)
  have hP : va_P D pn_cl (cw a cI cL cD cS nf ns da (cp (pr k) be ((0 : Nat) : Int) ((0 : Nat) : Int) ((12 : Nat) : Int)) ui ul cn ss mf sd (nw pr k (m_lift ((0 : Nat) : Int) am lf (pr k)))) H := by rw [show ((0 : Nat) : Int) = 0 from rfl, m_lift_0, nw_self]; exact hP
  have hD : va_D A (cw a cI cL cD cS nf ns da (cp (pr k) be ((0 : Nat) : Int) ((0 : Nat) : Int) ((12 : Nat) : Int)) ui ul cn ss mf sd (nw pr k (m_lift ((0 : Nat) : Int) am lf (pr k)))) := by rw [show ((0 : Nat) : Int) = 0 from rfl, m_lift_0, nw_self]; exact hD
  exact loop _ (0) _ _ ls (by omega) (Nat.lt_succ_self _) hP hD hS (lv_sub hl [1, 2, 3, 4, 0] rfl)
