theorem iI_ush0 {X n : Int} (hX : i3 X) (h0 : 0 ≤ n) (h1 : n ≤ 20) : ((iI X).toUInt32 >>> ((iI n).toUInt32 &&& Int32.toUInt32 31)).toInt32 = 0 ↔ 0 ≤ X ∧ X < ((2 ^ n.toNat : Nat) : Int) := by
  obtain ⟨k, rfl⟩ := Int.eq_ofNat_of_zero_le h0
  have hk : k ≤ 20 := by omega
  have e1 := pk_ushr (iI X) (iI (k : Int)) k (by rw [nb_nI]; exact (by decide +kernel : ∀ j, j < 32 → (((nI j).toUInt32 &&& Int32.toUInt32 31).toBitVec % 32).toNat = j) k (by omega))
  have h2 : (2 : Nat) ^ k ≤ 2 ^ 20 := Nat.pow_le_pow_right (by decide) hk
  have h3 : (2 : Nat) ^ 20 = 1048576 := by decide
  have h4 := Nat.two_pow_pos k
  have e2 : ∀ v : Int32, v = 0 ↔ v.toBitVec.toNat = 0 := fun v => ⟨fun h => by rw [h]; rfl, fun h => by
    apply Int32.toBitVec.inj
    apply BitVec.eq_of_toNat_eq
    rw [h]; rfl⟩
  rw [e2, e1, Int.toNat_natCast]
  obtain ⟨x1, x2⟩ := hX
  have ex : ((iI X).toBitVec.toNat : Int) = X % 4294967296 := by
    show ((BitVec.ofInt 32 X).toNat : Int) = _
    rw [BitVec.toNat_ofInt]
    have : (0 : Int) ≤ X % ((2 ^ 32 : Nat) : Int) := Int.emod_nonneg _ (by decide)
    rw [Int.toNat_of_nonneg this]
    rfl
  rw [Nat.div_eq_zero_iff]
  constructor
  · intro h
    rcases h with h | h
    · omega
    · omega
  · intro h
    exact Or.inr (by omega)
theorem pn_xor_lt {s n : Nat} (h : s < 2 ^ 20) (hn : n < 20) : s ^^^ 2 ^ n < 2 ^ 20 := Nat.xor_lt_two_pow h (Nat.pow_lt_pow_right (by decide) hn)
abbrev w_P_shut : List Cond := .code y_P_shut b_P_shut 5 (some .boolean) :: pn_W
set_option maxHeartbeats 4000000 in
set_option maxRecDepth 100000 in
theorem c_P_shut (l : Launch) (hst : l.stackTraces = false) {D : va_G} {a : Nat → Nat} {cI cL cD cS : ClassId} {nf : Nat → Int → Int} {ns : Nat → Int} {da : Int → Int → Int} {be : Int → Int} {ui ul : Nat → Int → Int} {cn : Int} {ss : Nat → Nat} {mf sd : Nat → Int} {pr : Nat → Int → Int} (sz : Nat) (x z : Int) (hOk : pn_Ok nf ns da) (hss : ss 0 < 2 ^ 20) (hz : z = 0 ∨ z = 1) (gx : i3 x) : vx_Met l y_P_shut w_P_shut ({ frames := 7, cells := 1, slots := 6, locals := 110 }) (va_Pc [.ref (a 0), .int (iI (x)), .int (iI (z))] (fun U => U.heap.size = sz ∧ va_P D pn_cl (cw a cI cL cD cS nf ns da be ui ul cn ss mf sd pr) U.heap ∧ va_D (fun _ => True) (cw a cI cL cD cS nf ns da be ui ul cn ss mf sd pr) ∧ pn_E D cI cL cD cS U ∧ pn_X (va_A (cw a cI cL cD cS nf ns da be ui ul cn ss mf sd pr) sz) U)) (va_Qi (fun (r : Int32) (u : Nat × Int) => (0 ≤ x ∧ x ≤ ns 1 - 1) ∧ r = iI (b2 ((ss 0).testBit x.toNat = true)) ∧ ((b2 ((ss 0).testBit x.toNat = true) = z ∧ u.1 = ss 0 ∧ u.2 = mf 0) ∨ (b2 ((ss 0).testBit x.toNat = true) ≠ z ∧ u.1 = ss 0 ^^^ 2 ^ x.toNat ∧ u.2 = -1))) (fun u t => va_P D pn_cl ((fun u : Nat × Int => cw a cI cL cD cS nf ns da be ui ul cn (nw ss 0 u.1) (nw mf 0 u.2) sd pr) u) t.heap ∧ va_D (va_A (cw a cI cL cD cS nf ns da be ui ul cn ss mf sd pr) sz) ((fun u : Nat × Int => cw a cI cL cD cS nf ns da be ui ul cn (nw ss 0 u.1) (nw mf 0 u.2) sd pr) u)) (va_A (cw a cI cL cD cS nf ns da be ui ul cn ss mf sd pr) sz)) (vx_X (fun _ : Unit => True) (fun E _ t => (E = "java/lang/IllegalArgumentException" ∧ ¬ (0 ≤ x ∧ x ≤ ns 1 - 1)) ∧ va_P D pn_cl (cw a cI cL cD cS nf ns da be ui ul cn ss mf sd pr) t.heap) (va_A (cw a cI cL cD cS nf ns da be ui ul cn ss mf sd pr) sz)) 1 6 (va_A (cw a cI cL cD cS nf ns da be ui ul cn ss mf sd pr) sz) := by
  refine vx_ofW (cc := b_P_shut) (maxL := 5) (ret := (some .boolean)) (by decide) rfl ?_
  intro p e s m args below meth c s₁ B hml htab hv
  obtain ⟨rfl, hsz, hP, hD0, hE, hX⟩ := hv
  have hx := B.exec
  have hb := B.bytes
  have hr := B.returns
  have hts := atoms_spec (ws := w_P_shut) B.pre
  have ht : ∀ w ∈ pn_W, w.before _ s = true := fun w h => hts w (List.mem_cons_of_mem _ h)
  have hown : s.vm.findClass R_P = some m.cls := findClass_of_methodNamed B.named
  have hlocks := B.notSynchronized
  have hK := hE.1
  subst hsz
  have hD := hD0.self (sz := s.heap.size)
  generalize hAe : va_A (cw a cI cL cD cS nf ns da be ui ul cn ss mf sd pr) s.heap.size = A at hD hX ⊢
  have hA : ∀ q : Nat, s.heap.size ≤ q → A q := fun q h => by rw [← hAe]; exact Or.inr h
  have hS : va_S A s.heap s.heap [] := va_S.rf
  have hl := lv_entry ([.ref (a 0), .int (iI (x)), .int (iI (z))]) (n := 5) (Nat.le_of_ble_eq_true rfl)
  rw [lg_entry_eq]
  generalize (lg_sl ([.ref (a 0), .int (iI (x)), .int (iI (z))]) ++ List.replicate (5 - (lg_sl ([.ref (a 0), .int (iI (x)), .int (iI (z))])).length) Slot.unset).toArray = ls at hl ⊢
  have hl : lv_has ls 5 [(0, .ref (a 0)), (1, .int (iI (x))), (2, .int (iI (z)))] := hl
  obtain ⟨o_zc, o_lc, o_fc, o_ve, o_wi, o_wa, o_vo, o_fr, o_to, o_he, o_ar, o_ki, o_st, o_ff, o_sl, o_dc, o_da⟩ := id hOk
  obtain ⟨gx1, gx2⟩ := gx
  have hz2 : 0 ≤ z ∧ z ≤ 1 := by omega
  refine lv_aload_n hx hb d_P_shut_0 rfl (lv_at hl 0 rfl) ?_
  refine lv_iload_n hx hb d_P_shut_1 rfl (lv_at hl 1 rfl) ?_
  refine pr_pi (va_runV (As := [.int (iI (x))]) (rest := []) ⟨hx, hb, hml, hown, hts⟩ (c_P_isLeak l (x) hOk (i3_of (by omega) (by omega))) (cwV 1 hts (pn_gV m_395 m_397 m_7 m_33 m_398) rfl rfl rfl (by decide +kernel) ⟨Nat.le_of_ble_eq_true rfl, Nat.le_of_ble_eq_true rfl⟩) (pn_preV (q0 := 0) (ci := 0) (q := (R_P, T_P, 6)) hP hE rfl rfl) rfl rfl hl.1 rfl (lv_room (Nat.le_of_ble_eq_true rfl)) d_P_shut_2 ⟨Nat.le_of_ble_eq_true rfl, Nat.le_of_ble_eq_true rfl⟩) ?_
  by_cases hL5 : (0 ≤ x ∧ x ≤ ns 1 - 1)
  · refine pr_ire (B := 1) (b2_t hL5) ?_
    refine pr_pv (va_runS (As := [.int (iI 1)]) (rest := []) ⟨hx, hb, hml, hown, hts⟩ (c_P_demandLegal l) (cwS 1 hts (pn_gS m_231 m_232 m_33 m_233) rfl rfl rfl (by decide +kernel) ⟨Nat.le_of_ble_eq_true rfl, Nat.le_of_ble_eq_true rfl⟩) pn_pre0 rfl rfl hl.1 rfl (lv_room (Nat.le_of_ble_eq_true rfl)) d_P_shut_5 ⟨Nat.le_of_ble_eq_true rfl, Nat.le_of_ble_eq_true rfl⟩) ?_
    refine lv_iconst (v := iI (1)) hx hb d_P_shut_8 rfl ?_
    refine lv_iload_n hx hb d_P_shut_9 rfl (lv_at hl 1 rfl) ?_
    refine pr_ire (B := ((x.toNat : Nat) : Int)) (Int.toNat_of_nonneg (by omega)).symm ?_
    refine lv_ishl hx hb d_P_shut_10 ?_
    refine pr_ixe (B := ((2 ^ x.toNat : Nat) : Int)) (nb_sh (by omega)) ?_
    refine lv_istore_n (lv' := [(3, .int (iI (((2 ^ x.toNat : Nat) : Int)))), (0, .ref (a 0)), (1, .int (iI (x))), (2, .int (iI (z)))]) hx hb d_P_shut_11 rfl hl (by decide) rfl (fun ls hl => ?_)
    refine lv_aload_n hx hb d_P_shut_12 rfl (lv_at hl 1 rfl) ?_
    refine va_get (D := D) (ci := 0) (v := .ref (a 36)) (C := R_P) (T := T_P) (N := 6) hx hb hts (in_P _) hown hK hP 0 rfl rfl 3 (by decide) (ht _ m_199) (fun _ h9 => h9) rfl d_P_shut_13 ?_
    refine va_get (D := D) (ci := 3) (v := .int (iI ((ss 0 : Nat)))) (C := R_T) (T := T_T) (N := 4) hx hb hts (in_T _) hown hK hP (36 + 2 * 0) (cw_so 0 (by decide)) rfl 1 (by decide) (ht _ m_179) (fun _ h9 => h9) rfl d_P_shut_16 ?_
    refine lv_iload_n hx hb d_P_shut_19 rfl (lv_at hl 0 rfl) ?_
    refine lv_iand hx hb d_P_shut_20 ?_
    refine pr_ixe (B := ((2 ^ x.toNat : Nat) : Int) * b2 ((ss 0).testBit x.toNat = true)) (by rw [iI_and, nb_and_pow]; by_cases h : (ss 0).testBit x.toNat = true; rw [if_pos h, b2_t h, Int.mul_one]; rw [if_neg h, b2_f h, Int.mul_zero]; rfl) ?_
    by_cases hB : (ss 0).testBit x.toNat = true
    · refine pr_ire (B := ((2 ^ x.toNat : Nat) : Int)) (by rw [b2_t hB, Int.mul_one]) ?_
      have p2 := Nat.two_pow_pos x.toNat
      have p3 : 2 ^ x.toNat < 2 ^ 20 := Nat.pow_lt_pow_right (by decide) (by omega)
      refine pr_if_eq (tgt := 28) hx hb (i3_of (by omega) (by omega)) d_P_shut_21 (by decide) (fun c9 => absurd c9 (by omega)) (fun c9 => ?_)
      refine lv_iconst (v := iI (1)) hx hb d_P_shut_24 rfl ?_
      refine lv_goto (tgt := 29) hx hb d_P_shut_25 (by decide) ?_
      refine lv_istore (lv' := [(4, .int (iI (1))), (3, .int (iI (((2 ^ x.toNat : Nat) : Int)))), (0, .ref (a 0)), (1, .int (iI (x))), (2, .int (iI (z)))]) hx hb d_P_shut_29 hl (by decide) rfl (fun ls hl => ?_)
      refine lv_iload hx hb d_P_shut_31 (lv_at hl 0 rfl) ?_
      refine lv_iload_n hx hb d_P_shut_33 rfl (lv_at hl 4 rfl) ?_
      refine pr_icmp_eq (tgt := 58) hx hb (i3_of (by decide) (by decide)) (i3_of (by omega) (by omega)) d_P_shut_34 (by decide) (fun c_1 => ?_) (fun c_1 => ?_)
      · skip
        have hP : va_P D pn_cl (cw a cI cL cD cS nf ns da be ui ul cn (nw ss 0 (ss 0)) (nw mf 0 (mf 0)) sd pr) s.heap := by rw [nw_self, nw_self]; exact hP
        have hD : va_D A (cw a cI cL cD cS nf ns da be ui ul cn (nw ss 0 (ss 0)) (nw mf 0 (mf 0)) sd pr) := by rw [nw_self, nw_self]; exact hD
        refine lv_iload hx hb d_P_shut_58 (lv_at hl 0 rfl) ?_
        refine vx_ret ?_
        refine W.widen (k := 1) (n := 6) (by decide) (by decide) ?_
        exact W.zret (v := iI (1)) hx hb hr (by decide) (fun t ht hW => ⟨⟨iI (1), (ss 0, mf 0), rfl, ⟨by omega, congrArg iI (b2_t (by assumption)).symm, Or.inl ⟨by rw [b2_t (by assumption)]; assumption, rfl, rfl⟩⟩, by rw [ht]; exact hP, hD⟩, hS.F ht⟩) hS.2.2 d_P_shut_60
      · skip
        refine lv_aload_n hx hb d_P_shut_37 rfl (lv_at hl 2 rfl) ?_
        refine va_get (D := D) (ci := 0) (v := .ref (a 36)) (C := R_P) (T := T_P) (N := 6) hx hb hts (in_P _) hown hK hP 0 rfl rfl 3 (by decide) (ht _ m_199) (fun _ h9 => h9) rfl d_P_shut_38 ?_
        refine lv_dup hx hb d_P_shut_41 rfl ?_
        refine va_get (D := D) (ci := 3) (v := .int (iI ((ss 0 : Nat)))) (C := R_T) (T := T_T) (N := 4) hx hb hts (in_T _) hown hK hP (36 + 2 * 0) (cw_so 0 (by decide)) rfl 1 (by decide) (ht _ m_179) (fun _ h9 => h9) rfl d_P_shut_42 ?_
        refine lv_iload_n hx hb d_P_shut_45 rfl (lv_at hl 1 rfl) ?_
        refine lv_ixor hx hb d_P_shut_46 ?_
        refine pr_ixe (B := ((ss 0 ^^^ 2 ^ x.toNat : Nat) : Int)) (iI_xor _ _) ?_
        refine va_put (D := D) (ci := 3) (v := .int (iI (((ss 0 ^^^ 2 ^ x.toNat) : Nat)))) (ty := .int) (C := R_T) (T := T_T) (N := 4) hx hb hts (in_T _) ty_T ty_T_ok nm_T hown hK hP hD hS (36 + 2 * 0) (cw_so 0 (by decide)) rfl 1 (by decide) (ht _ m_179) (fun _ h9 => h9) rfl (by decide +kernel) rfl rfl (Nat.le_of_ble_eq_true rfl) d_P_shut_47 (fun H locs hP hD hS => ?_)
        have e9 := cw_uss (a := a) (cI := cI) (cL := cL) (cD := cD) (cS := cS) (nf := nf) (ns := ns) (da := da) (be := be) (ui := ui) (ul := ul) (cn := cn) (ss := ss) (mf := mf) (sd := sd) (pr := pr) (x := (ss 0 ^^^ 2 ^ x.toNat)) 0 (by decide)
        have hP : va_P D pn_cl (cw a cI cL cD cS nf ns da be ui ul cn (nw ss 0 ((ss 0 ^^^ 2 ^ x.toNat))) mf sd pr) H := by rw [← e9]; exact hP
        have hD : va_D A (cw a cI cL cD cS nf ns da be ui ul cn (nw ss 0 ((ss 0 ^^^ 2 ^ x.toNat))) mf sd pr) := by rw [← e9]; exact hD
        clear e9
        refine lv_aload_n hx hb d_P_shut_50 rfl (lv_at hl 2 rfl) ?_
        refine va_get (D := D) (ci := 0) (v := .ref (a 36)) (C := R_P) (T := T_P) (N := 6) hx hb hts (in_P _) hown hK hP 0 rfl rfl 3 (by decide) (ht _ m_199) (fun _ h9 => h9) rfl d_P_shut_51 ?_
        refine lv_iconst (v := iI (-1)) hx hb d_P_shut_54 rfl ?_
        refine va_put (D := D) (ci := 3) (v := .int (iI (-1))) (ty := .int) (C := R_T) (T := T_T) (N := 4) hx hb hts (in_T _) ty_T ty_T_ok nm_T hown hK hP hD hS (36 + 2 * 0) (cw_so 0 (by decide)) rfl 2 (by decide) (ht _ m_183) (fun _ h9 => h9) rfl (by decide +kernel) rfl rfl (Nat.le_of_ble_eq_true rfl) d_P_shut_55 (fun H locs hP hD hS => ?_)
        have e9 := cw_umf (a := a) (cI := cI) (cL := cL) (cD := cD) (cS := cS) (nf := nf) (ns := ns) (da := da) (be := be) (ui := ui) (ul := ul) (cn := cn) (ss := nw ss 0 ((ss 0 ^^^ 2 ^ x.toNat))) (mf := mf) (sd := sd) (pr := pr) (x := -1) 0 (by decide)
        have hP : va_P D pn_cl (cw a cI cL cD cS nf ns da be ui ul cn (nw ss 0 ((ss 0 ^^^ 2 ^ x.toNat))) (nw mf 0 (-1)) sd pr) H := by rw [← e9]; exact hP
        have hD : va_D A (cw a cI cL cD cS nf ns da be ui ul cn (nw ss 0 ((ss 0 ^^^ 2 ^ x.toNat))) (nw mf 0 (-1)) sd pr) := by rw [← e9]; exact hD
        clear e9
        refine lv_iload hx hb d_P_shut_58 (lv_at hl 0 rfl) ?_
        refine vx_ret ?_
        refine W.widen (k := 1) (n := 6) (by decide) (by decide) ?_
        exact W.zret (v := iI (1)) hx hb hr (by decide) (fun t ht hW => ⟨⟨iI (1), (ss 0 ^^^ 2 ^ x.toNat, -1), rfl, ⟨by omega, congrArg iI (b2_t (by assumption)).symm, Or.inr ⟨by rw [b2_t (by assumption)]; assumption, rfl, rfl⟩⟩, by rw [ht]; exact hP, hD⟩, hS.F ht⟩) hS.2.2 d_P_shut_60
    · refine pr_ire (B := 0) (by rw [b2_f hB, Int.mul_zero]) ?_
      refine pr_if_eq (tgt := 28) hx hb (i3_of (by decide) (by decide)) d_P_shut_21 (by decide) (fun c9 => ?_) (fun c9 => absurd rfl c9)
      refine lv_iconst (v := iI (0)) hx hb d_P_shut_28 rfl ?_
      refine lv_istore (lv' := [(4, .int (iI (0))), (3, .int (iI (((2 ^ x.toNat : Nat) : Int)))), (0, .ref (a 0)), (1, .int (iI (x))), (2, .int (iI (z)))]) hx hb d_P_shut_29 hl (by decide) rfl (fun ls hl => ?_)
      refine lv_iload hx hb d_P_shut_31 (lv_at hl 0 rfl) ?_
      refine lv_iload_n hx hb d_P_shut_33 rfl (lv_at hl 4 rfl) ?_
      refine pr_icmp_eq (tgt := 58) hx hb (i3_of (by decide) (by decide)) (i3_of (by omega) (by omega)) d_P_shut_34 (by decide) (fun c_2 => ?_) (fun c_2 => ?_)
      · skip
        have hP : va_P D pn_cl (cw a cI cL cD cS nf ns da be ui ul cn (nw ss 0 (ss 0)) (nw mf 0 (mf 0)) sd pr) s.heap := by rw [nw_self, nw_self]; exact hP
        have hD : va_D A (cw a cI cL cD cS nf ns da be ui ul cn (nw ss 0 (ss 0)) (nw mf 0 (mf 0)) sd pr) := by rw [nw_self, nw_self]; exact hD
        refine lv_iload hx hb d_P_shut_58 (lv_at hl 0 rfl) ?_
        refine vx_ret ?_
        refine W.widen (k := 1) (n := 6) (by decide) (by decide) ?_
        exact W.zret (v := iI (0)) hx hb hr (by decide) (fun t ht hW => ⟨⟨iI (0), (ss 0, mf 0), rfl, ⟨by omega, congrArg iI (b2_f (by assumption)).symm, Or.inl ⟨by rw [b2_f (by assumption)]; assumption, rfl, rfl⟩⟩, by rw [ht]; exact hP, hD⟩, hS.F ht⟩) hS.2.2 d_P_shut_60
      · skip
        refine lv_aload_n hx hb d_P_shut_37 rfl (lv_at hl 2 rfl) ?_
        refine va_get (D := D) (ci := 0) (v := .ref (a 36)) (C := R_P) (T := T_P) (N := 6) hx hb hts (in_P _) hown hK hP 0 rfl rfl 3 (by decide) (ht _ m_199) (fun _ h9 => h9) rfl d_P_shut_38 ?_
        refine lv_dup hx hb d_P_shut_41 rfl ?_
        refine va_get (D := D) (ci := 3) (v := .int (iI ((ss 0 : Nat)))) (C := R_T) (T := T_T) (N := 4) hx hb hts (in_T _) hown hK hP (36 + 2 * 0) (cw_so 0 (by decide)) rfl 1 (by decide) (ht _ m_179) (fun _ h9 => h9) rfl d_P_shut_42 ?_
        refine lv_iload_n hx hb d_P_shut_45 rfl (lv_at hl 1 rfl) ?_
        refine lv_ixor hx hb d_P_shut_46 ?_
        refine pr_ixe (B := ((ss 0 ^^^ 2 ^ x.toNat : Nat) : Int)) (iI_xor _ _) ?_
        refine va_put (D := D) (ci := 3) (v := .int (iI (((ss 0 ^^^ 2 ^ x.toNat) : Nat)))) (ty := .int) (C := R_T) (T := T_T) (N := 4) hx hb hts (in_T _) ty_T ty_T_ok nm_T hown hK hP hD hS (36 + 2 * 0) (cw_so 0 (by decide)) rfl 1 (by decide) (ht _ m_179) (fun _ h9 => h9) rfl (by decide +kernel) rfl rfl (Nat.le_of_ble_eq_true rfl) d_P_shut_47 (fun H locs hP hD hS => ?_)
        have e9 := cw_uss (a := a) (cI := cI) (cL := cL) (cD := cD) (cS := cS) (nf := nf) (ns := ns) (da := da) (be := be) (ui := ui) (ul := ul) (cn := cn) (ss := ss) (mf := mf) (sd := sd) (pr := pr) (x := (ss 0 ^^^ 2 ^ x.toNat)) 0 (by decide)
        have hP : va_P D pn_cl (cw a cI cL cD cS nf ns da be ui ul cn (nw ss 0 ((ss 0 ^^^ 2 ^ x.toNat))) mf sd pr) H := by rw [← e9]; exact hP
        have hD : va_D A (cw a cI cL cD cS nf ns da be ui ul cn (nw ss 0 ((ss 0 ^^^ 2 ^ x.toNat))) mf sd pr) := by rw [← e9]; exact hD
        clear e9
        refine lv_aload_n hx hb d_P_shut_50 rfl (lv_at hl 2 rfl) ?_
        refine va_get (D := D) (ci := 0) (v := .ref (a 36)) (C := R_P) (T := T_P) (N := 6) hx hb hts (in_P _) hown hK hP 0 rfl rfl 3 (by decide) (ht _ m_199) (fun _ h9 => h9) rfl d_P_shut_51 ?_
        refine lv_iconst (v := iI (-1)) hx hb d_P_shut_54 rfl ?_
        refine va_put (D := D) (ci := 3) (v := .int (iI (-1))) (ty := .int) (C := R_T) (T := T_T) (N := 4) hx hb hts (in_T _) ty_T ty_T_ok nm_T hown hK hP hD hS (36 + 2 * 0) (cw_so 0 (by decide)) rfl 2 (by decide) (ht _ m_183) (fun _ h9 => h9) rfl (by decide +kernel) rfl rfl (Nat.le_of_ble_eq_true rfl) d_P_shut_55 (fun H locs hP hD hS => ?_)
        have e9 := cw_umf (a := a) (cI := cI) (cL := cL) (cD := cD) (cS := cS) (nf := nf) (ns := ns) (da := da) (be := be) (ui := ui) (ul := ul) (cn := cn) (ss := nw ss 0 ((ss 0 ^^^ 2 ^ x.toNat))) (mf := mf) (sd := sd) (pr := pr) (x := -1) 0 (by decide)
        have hP : va_P D pn_cl (cw a cI cL cD cS nf ns da be ui ul cn (nw ss 0 ((ss 0 ^^^ 2 ^ x.toNat))) (nw mf 0 (-1)) sd pr) H := by rw [← e9]; exact hP
        have hD : va_D A (cw a cI cL cD cS nf ns da be ui ul cn (nw ss 0 ((ss 0 ^^^ 2 ^ x.toNat))) (nw mf 0 (-1)) sd pr) := by rw [← e9]; exact hD
        clear e9
        refine lv_iload hx hb d_P_shut_58 (lv_at hl 0 rfl) ?_
        refine vx_ret ?_
        refine W.widen (k := 1) (n := 6) (by decide) (by decide) ?_
        exact W.zret (v := iI (0)) hx hb hr (by decide) (fun t ht hW => ⟨⟨iI (0), (ss 0 ^^^ 2 ^ x.toNat, -1), rfl, ⟨by omega, congrArg iI (b2_f (by assumption)).symm, Or.inr ⟨by rw [b2_f (by assumption)]; assumption, rfl, rfl⟩⟩, by rw [ht]; exact hP, hD⟩, hS.F ht⟩) hS.2.2 d_P_shut_60
  · refine pr_ire (B := 0) (b2_f hL5) ?_
    exact px_throw (cls := "java/lang/IllegalArgumentException") (vx_runS (As := [.int (iI 0)]) (rest := []) ⟨hx, hb, hml, hown, hts⟩ (x_P_demandLegal l hst s.heap.size) (cwS 1 hts (pn_gS m_231 m_232 m_33 m_233) rfl rfl rfl (by decide +kernel) ⟨Nat.le_of_ble_eq_true rfl, Nat.le_of_ble_eq_true rfl⟩) (pn_preX hX hS hA) rfl rfl hl.1 rfl (lv_room (Nat.le_of_ble_eq_true rfl)) d_P_shut_5 ⟨Nat.le_of_ble_eq_true rfl, Nat.le_of_ble_eq_true rfl⟩) hS hA (fun x hx9 => (htab x hx9).elim) hlocks (by decide) (by decide) (fun q h => h) (fun t H1 locs1 hh hk hS1 => ⟨(), trivial, ⟨⟨rfl, by omega⟩, by rw [hh]; exact hP.kept (fun k9 q9 h9 => hk q9.1 ((hP k9 q9 h9).lt))⟩, hS1.F hh⟩)
