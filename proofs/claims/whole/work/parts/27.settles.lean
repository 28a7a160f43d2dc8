abbrev w_S_settles : List Cond := .code y_S_settles b_S_settles 6 (some .boolean) :: pn_W
set_option maxHeartbeats 4000000 in
set_option maxRecDepth 100000 in
theorem c_S_settles (l : Launch) {D : va_G} {a : Nat → Nat} {cI cL cD cS : ClassId} {nf : Nat → Int → Int} {ns : Nat → Int} {da : Int → Int → Int} {be : Int → Int} {ui ul : Nat → Int → Int} {cn : Int} {ss : Nat → Nat} {mf sd : Nat → Int} {pr : Nat → Int → Int} (sz : Nat) (k : Nat) (hOk : pn_Ok nf ns da) (hk : k < 9) (hM : pn_Mono (ns 0) (m_G nf da (ss k))) (hss : ss k < 2 ^ 20) (hsd : sd k = 0 ∨ sd k = 1) (hmf : -1 ≤ mf k ∧ mf k ≤ 512) (hC : mf k = ns 3 → pn_P5 (pr k) ∧ pn_Le (ns 0) (nf 0) (m_G nf da (ss k)) (sd k) (pr k)) : Met l y_S_settles w_S_settles ({ frames := 6, cells := 0, slots := 0, locals := 163 }) (va_Pc [.ref (a 27), .ref (a (36 + 2 * k))] (fun U => U.heap.size = sz ∧ va_P D pn_cl (cw a cI cL cD cS nf ns da be ui ul cn ss mf sd pr) U.heap ∧ va_D (fun _ => True) (cw a cI cL cD cS nf ns da be ui ul cn ss mf sd pr) ∧ pn_E D cI cL cD cS U)) (va_Qi (fun (r : Int32) (u : (Int → Int) × (Int → Int) × Int × Int) => r = iI u.2.2.2 ∧ u.2.2.1 = ns 3 ∧ pn_P5 u.1 ∧ pn_Le (ns 0) (nf 0) (m_G nf da (ss k)) u.2.2.2 u.1) (fun u t => va_P D pn_cl ((fun u : (Int → Int) × (Int → Int) × Int × Int => cw a cI cL cD cS nf ns da u.2.1 ui ul cn ss (nw mf k u.2.2.1) (nw sd k u.2.2.2) (nw pr k u.1)) u) t.heap ∧ va_D (va_A (cw a cI cL cD cS nf ns da be ui ul cn ss mf sd pr) sz) ((fun u : (Int → Int) × (Int → Int) × Int × Int => cw a cI cL cD cS nf ns da u.2.1 ui ul cn ss (nw mf k u.2.2.1) (nw sd k u.2.2.2) (nw pr k u.1)) u)) (va_A (cw a cI cL cD cS nf ns da be ui ul cn ss mf sd pr) sz)) 0 0 (va_A (cw a cI cL cD cS nf ns da be ui ul cn ss mf sd pr) sz) := by
  refine Met.ofW (cc := b_S_settles) (maxL := 6) (ret := (some .boolean)) (by decide) rfl ?_
  intro p e s m args below meth c s₁ B hml hv
  obtain ⟨rfl, hsz, hP, hD0, hE⟩ := hv
  have hx := B.exec
  have hb := B.bytes
  have hr := B.returns
  have hts := atoms_spec (ws := w_S_settles) B.pre
  have ht : ∀ w ∈ pn_W, w.before _ s = true := fun w h => hts w (List.mem_cons_of_mem _ h)
  have hown : s.vm.findClass R_S = some m.cls := findClass_of_methodNamed B.named
  have hlocks := B.notSynchronized
  have hK := hE.1
  subst hsz
  have hD := hD0.self (sz := s.heap.size)
  generalize hAe : va_A (cw a cI cL cD cS nf ns da be ui ul cn ss mf sd pr) s.heap.size = A at hD ⊢
  have hA : ∀ q : Nat, s.heap.size ≤ q → A q := fun q h => by rw [← hAe]; exact Or.inr h
  have hS : va_S A s.heap s.heap [] := va_S.rf
  have hl := lv_entry ([.ref (a 27), .ref (a (36 + 2 * k))]) (n := 6) (Nat.le_of_ble_eq_true rfl)
  rw [lg_entry_eq]
  generalize (lg_sl ([.ref (a 27), .ref (a (36 + 2 * k))]) ++ List.replicate (6 - (lg_sl ([.ref (a 27), .ref (a (36 + 2 * k))])).length) Slot.unset).toArray = ls at hl ⊢
  have hl : lv_has ls 6 [(0, .ref (a 27)), (1, .ref (a (36 + 2 * k)))] := hl
  obtain ⟨o_zc, o_lc, o_fc, o_ve, o_wi, o_wa, o_vo, o_fr, o_to, o_he, o_ar, o_ki, o_st, o_ff, o_sl, o_dc, o_da⟩ := id hOk
  by_cases hne : mf k = ns 3
  · skip
    refine lv_aload_n hx hb d_S_settles_0 rfl (lv_at hl 1 rfl) ?_
    refine va_get (D := D) (ci := 3) (v := .int (iI (mf k))) (C := R_T) (T := T_T) (N := 4) hx hb hts (in_T _) hown hK hP (36 + 2 * k) (cw_so k hk) rfl 2 (by decide) (ht _ m_182) (fun _ h9 => h9) rfl d_S_settles_1 ?_
    refine lv_aload_n hx hb d_S_settles_4 rfl (lv_at hl 0 rfl) ?_
    refine va_get (D := D) (ci := 2) (v := .ref (a 1)) (C := R_S) (T := T_S) (N := 2) hx hb hts (in_S _) hown hK hP 27 rfl rfl 0 (by decide) (ht _ m_133) (fun _ h9 => h9) rfl d_S_settles_5 ?_
    refine va_get (D := D) (ci := 1) (v := .int (iI (ns 3))) (C := R_N) (T := T_N) (N := 17) hx hb hts (in_N _) hown hK hP 1 rfl rfl 16 (by decide) (ht _ m_90) (fun _ h9 => h9) rfl d_S_settles_8 ?_
    refine pr_icmp_ne (tgt := 19) hx hb (i3_of (by omega) (by omega)) (i3_of (by omega) (by omega)) d_S_settles_11 (by decide) (fun c_1 => ?_) (fun c_1 => ?_)
    · skip
      exact absurd hne c_1
    · skip
      refine lv_aload_n hx hb d_S_settles_14 rfl (lv_at hl 1 rfl) ?_
      refine va_get (D := D) (ci := 3) (v := .int (iI (sd k))) (C := R_T) (T := T_T) (N := 4) hx hb hts (in_T _) hown hK hP (36 + 2 * k) (cw_so k hk) rfl 3 (by decide) (ht _ m_185) (fun _ h9 => h9) rfl d_S_settles_15 ?_
      have hP : va_P D pn_cl (cw a cI cL cD cS nf ns da be ui ul cn ss (nw mf k (mf k)) (nw sd k (sd k)) (nw pr k (pr k))) s.heap := by rw [nw_self, nw_self, nw_self]; exact hP
      have hD : va_D A (cw a cI cL cD cS nf ns da be ui ul cn ss (nw mf k (mf k)) (nw sd k (sd k)) (nw pr k (pr k))) := by rw [nw_self, nw_self, nw_self]; exact hD
      exact W.zret (v := iI (sd k)) hx hb hr (by rcases hsd with h | h <;> rw [h] <;> decide) (fun t ht hW => ⟨⟨iI (sd k), (pr k, be, mf k, sd k), rfl, ⟨rfl, hne, (hC hne).1, (hC hne).2⟩, by rw [ht]; exact hP, hD⟩, hS.F ht⟩) hS.2.2 d_S_settles_18
  · skip
    have main : ∀ (n : Nat) (kk : Nat) (ro : Nat) (Q : Int → Int) (bb : Int → Int) (H : Heap) (locs : List Loc) (ls : Array Slot), (kk ≤ 80009) → (pn_I (ns 0) (nf 0) (m_G nf da (ss k)) Q) → (ro < 256) → (ro = 0 → pn_no (ns 0) (m_G nf da (ss k)) (m_al (ns 0)) 8 Q) → (ro ≠ 0 → (kk : Int) ≤ m_s8 Q + 40000) → (80009 - kk) < n → va_P D pn_cl (cw a cI cL cD cS nf ns da bb ui ul cn ss mf sd (nw pr k Q)) H → va_D A (cw a cI cL cD cS nf ns da bb ui ul cn ss mf sd (nw pr k Q)) → va_S A s.heap H locs → lv_has ls 6 [(0, .ref (a 27)), (1, .ref (a (36 + 2 * k))), (2, .int (iI (((m_al (ns 0) : Nat) : Int)))), (3, .int (iI (((ro : Nat) : Int)))), (4, .int (iI (((kk : Nat) : Int))))] → W p l e (headSpec w_S_settles ({ frames := 6, cells := 0, slots := 0, locals := 163 })).room s m ([.ref (a 27), .ref (a (36 + 2 * k))] : List Value).toArray below meth c H locs 0 0 (MQ below (va_Qi (fun (r : Int32) (u : (Int → Int) × (Int → Int) × Int × Int) => r = iI u.2.2.2 ∧ u.2.2.1 = ns 3 ∧ pn_P5 u.1 ∧ pn_Le (ns 0) (nf 0) (m_G nf da (ss k)) u.2.2.2 u.1) (fun u t => va_P D pn_cl ((fun u : (Int → Int) × (Int → Int) × Int × Int => cw a cI cL cD cS nf ns da u.2.1 ui ul cn ss (nw mf k u.2.2.1) (nw sd k u.2.2.2) (nw pr k u.1)) u) t.heap ∧ va_D A ((fun u : (Int → Int) × (Int → Int) × Int × Int => cw a cI cL cD cS nf ns da u.2.1 ui ul cn ss (nw mf k u.2.2.1) (nw sd k u.2.2.2) (nw pr k u.1)) u)) A) ([.ref (a 27), .ref (a (36 + 2 * k))] : List Value).toArray s 0 0 A) (F0 m 41 ls []) := by
      intro n
      induction n with
      | zero => intro kk ro Q bb H locs ls _ _ _ _ _ hm; exact absurd hm (Nat.not_lt_zero _)
      | succ n ih =>
        intro kk ro Q bb H locs ls q1 q2 q3 q4 q5 hm hP hD hS hl
        refine lv_iload hx hb d_S_settles_41 (lv_at hl 4 rfl) ?_
        refine lv_ldc (v := iI (80009)) hx hb hown (ht (.constant _ 41 (iI (80009))) m_434) d_S_settles_43 ?_
        refine pr_icmp_ge (tgt := 137) hx hb (i3_of (by omega) (by omega)) (i3_of (by decide) (by decide)) d_S_settles_45 (by decide) (fun c_2 => ?_) (fun c_2 => ?_)
        · skip
          have hex : (80009 : Int) ≤ (kk : Int) ∨ (ro : Int) = 0 ∨ m_past Q := by first | exact Or.inl (by omega) | exact Or.inr (Or.inl (by omega)) | exact Or.inr (Or.inr (by with_reducible assumption))
          have hPrQ : pn_Pr ((nw pr k Q) k) := by rw [nw_s]; exact q2.2.1.pr
          refine lv_aload_n hx hb d_S_settles_137 rfl (lv_at hl 1 rfl) ?_
          refine lv_aload_n hx hb d_S_settles_138 rfl (lv_at hl 0 rfl) ?_
          refine lv_aload_n hx hb d_S_settles_139 rfl (lv_at hl 1 rfl) ?_
          refine pr_pi (va_runV (As := [.ref (a (36 + 2 * k))]) (rest := [.ref (a (36 + 2 * k))]) ⟨hx, hb, hml, hown, hts⟩ (c_S_isPastHighest l k hk hPrQ) (cwV 1 hts (pn_gV m_435 m_437 m_9 m_35 m_438) rfl rfl rfl (by decide +kernel) ⟨Nat.le_of_ble_eq_true rfl, Nat.le_of_ble_eq_true rfl⟩) (pn_preV (q0 := 27) (ci := 2) (q := (R_S, T_S, 2)) hP hE rfl rfl) rfl rfl hl.1 rfl (lv_room (Nat.le_of_ble_eq_true rfl)) d_S_settles_140 ⟨Nat.le_of_ble_eq_true rfl, Nat.le_of_ble_eq_true rfl⟩) ?_
          refine pr_ire (B := m_pb (Q)) (by rw [nw_s]) ?_
          refine pr_if_ne (tgt := 150) hx hb (i3_pb _) d_S_settles_143 (by decide) (fun c_3 => ?_) (fun c_3 => ?_)
          · replace c_3 := m_pb_1 c_3
            refine lv_iconst (v := iI (0)) hx hb d_S_settles_150 rfl ?_
            refine va_put (D := D) (ci := 3) (v := .int (iI (0))) (ty := .boolean) (C := R_T) (T := T_T) (N := 4) hx hb hts (in_T _) ty_T ty_T_ok nm_T hown hK hP hD hS (36 + 2 * k) (cw_so k hk) rfl 3 (by decide) (ht _ m_185) (fun _ h9 => h9) rfl (by decide +kernel) (by decide) (by decide) (Nat.le_of_ble_eq_true rfl) d_S_settles_151 (fun H locs hP hD hS => ?_)
            have e9 := cw_usd (a := a) (cI := cI) (cL := cL) (cD := cD) (cS := cS) (nf := nf) (ns := ns) (da := da) (be := bb) (ui := ui) (ul := ul) (cn := cn) (ss := ss) (mf := mf) (sd := sd) (pr := nw pr k Q) (x := 0) k hk
            have hP : va_P D pn_cl (cw a cI cL cD cS nf ns da bb ui ul cn ss mf (nw sd k (0)) (nw pr k Q)) H := by rw [← e9]; exact hP
            have hD : va_D A (cw a cI cL cD cS nf ns da bb ui ul cn ss mf (nw sd k (0)) (nw pr k Q)) := by rw [← e9]; exact hD
            clear e9
            refine lv_aload_n hx hb d_S_settles_154 rfl (lv_at hl 1 rfl) ?_
            refine lv_aload_n hx hb d_S_settles_155 rfl (lv_at hl 0 rfl) ?_
            refine va_get (D := D) (ci := 2) (v := .ref (a 1)) (C := R_S) (T := T_S) (N := 2) hx hb hts (in_S _) hown hK hP 27 rfl rfl 0 (by decide) (ht _ m_133) (fun _ h9 => h9) rfl d_S_settles_156 ?_
            refine va_get (D := D) (ci := 1) (v := .int (iI (ns 3))) (C := R_N) (T := T_N) (N := 17) hx hb hts (in_N _) hown hK hP 1 rfl rfl 16 (by decide) (ht _ m_90) (fun _ h9 => h9) rfl d_S_settles_159 ?_
            refine va_put (D := D) (ci := 3) (v := .int (iI (ns 3))) (ty := .int) (C := R_T) (T := T_T) (N := 4) hx hb hts (in_T _) ty_T ty_T_ok nm_T hown hK hP hD hS (36 + 2 * k) (cw_so k hk) rfl 2 (by decide) (ht _ m_182) (fun _ h9 => h9) rfl (by decide +kernel) rfl rfl (Nat.le_of_ble_eq_true rfl) d_S_settles_162 (fun H locs hP hD hS => ?_)
            have e9 := cw_umf (a := a) (cI := cI) (cL := cL) (cD := cD) (cS := cS) (nf := nf) (ns := ns) (da := da) (be := bb) (ui := ui) (ul := ul) (cn := cn) (ss := ss) (mf := mf) (sd := nw sd k (0)) (pr := nw pr k Q) (x := ns 3) k hk
            have hP : va_P D pn_cl (cw a cI cL cD cS nf ns da bb ui ul cn ss (nw mf k (ns 3)) (nw sd k (0)) (nw pr k Q)) H := by rw [← e9]; exact hP
            have hD : va_D A (cw a cI cL cD cS nf ns da bb ui ul cn ss (nw mf k (ns 3)) (nw sd k (0)) (nw pr k Q)) := by rw [← e9]; exact hD
            clear e9
            refine lv_aload_n hx hb d_S_settles_165 rfl (lv_at hl 1 rfl) ?_
            refine va_get (D := D) (ci := 3) (v := .int (iI ((nw sd k (0)) k))) (C := R_T) (T := T_T) (N := 4) hx hb hts (in_T _) hown hK hP (36 + 2 * k) (cw_so k hk) rfl 3 (by decide) (ht _ m_185) (fun _ h9 => h9) rfl d_S_settles_166 ?_
            refine pr_ire (B := 0) (by rw [nw_s]) ?_
            exact W.zret (v := iI (0)) hx hb hr (by decide) (fun t ht hW => ⟨⟨iI (0), (Q, bb, ns 3, 0), rfl, ⟨rfl, rfl, q2.2.1, Or.inr ⟨rfl, pn_end_no q2 (by assumption)⟩⟩, by rw [ht]; exact hP, hD⟩, hS.F ht⟩) hS.2.2 d_S_settles_169
          · replace c_3 := m_pb_0 c_3
            refine lv_iconst (v := iI (1)) hx hb d_S_settles_146 rfl ?_
            refine lv_goto (tgt := 151) hx hb d_S_settles_147 (by decide) ?_
            refine va_put (D := D) (ci := 3) (v := .int (iI (1))) (ty := .boolean) (C := R_T) (T := T_T) (N := 4) hx hb hts (in_T _) ty_T ty_T_ok nm_T hown hK hP hD hS (36 + 2 * k) (cw_so k hk) rfl 3 (by decide) (ht _ m_185) (fun _ h9 => h9) rfl (by decide +kernel) (by decide) (by decide) (Nat.le_of_ble_eq_true rfl) d_S_settles_151 (fun H locs hP hD hS => ?_)
            have e9 := cw_usd (a := a) (cI := cI) (cL := cL) (cD := cD) (cS := cS) (nf := nf) (ns := ns) (da := da) (be := bb) (ui := ui) (ul := ul) (cn := cn) (ss := ss) (mf := mf) (sd := sd) (pr := nw pr k Q) (x := 1) k hk
            have hP : va_P D pn_cl (cw a cI cL cD cS nf ns da bb ui ul cn ss mf (nw sd k (1)) (nw pr k Q)) H := by rw [← e9]; exact hP
            have hD : va_D A (cw a cI cL cD cS nf ns da bb ui ul cn ss mf (nw sd k (1)) (nw pr k Q)) := by rw [← e9]; exact hD
            clear e9
            refine lv_aload_n hx hb d_S_settles_154 rfl (lv_at hl 1 rfl) ?_
            refine lv_aload_n hx hb d_S_settles_155 rfl (lv_at hl 0 rfl) ?_
            refine va_get (D := D) (ci := 2) (v := .ref (a 1)) (C := R_S) (T := T_S) (N := 2) hx hb hts (in_S _) hown hK hP 27 rfl rfl 0 (by decide) (ht _ m_133) (fun _ h9 => h9) rfl d_S_settles_156 ?_
            refine va_get (D := D) (ci := 1) (v := .int (iI (ns 3))) (C := R_N) (T := T_N) (N := 17) hx hb hts (in_N _) hown hK hP 1 rfl rfl 16 (by decide) (ht _ m_90) (fun _ h9 => h9) rfl d_S_settles_159 ?_
            refine va_put (D := D) (ci := 3) (v := .int (iI (ns 3))) (ty := .int) (C := R_T) (T := T_T) (N := 4) hx hb hts (in_T _) ty_T ty_T_ok nm_T hown hK hP hD hS (36 + 2 * k) (cw_so k hk) rfl 2 (by decide) (ht _ m_182) (fun _ h9 => h9) rfl (by decide +kernel) rfl rfl (Nat.le_of_ble_eq_true rfl) d_S_settles_162 (fun H locs hP hD hS => ?_)
            have e9 := cw_umf (a := a) (cI := cI) (cL := cL) (cD := cD) (cS := cS) (nf := nf) (ns := ns) (da := da) (be := bb) (ui := ui) (ul := ul) (cn := cn) (ss := ss) (mf := mf) (sd := nw sd k (1)) (pr := nw pr k Q) (x := ns 3) k hk
            have hP : va_P D pn_cl (cw a cI cL cD cS nf ns da bb ui ul cn ss (nw mf k (ns 3)) (nw sd k (1)) (nw pr k Q)) H := by rw [← e9]; exact hP
            have hD : va_D A (cw a cI cL cD cS nf ns da bb ui ul cn ss (nw mf k (ns 3)) (nw sd k (1)) (nw pr k Q)) := by rw [← e9]; exact hD
            clear e9
            refine lv_aload_n hx hb d_S_settles_165 rfl (lv_at hl 1 rfl) ?_
            refine va_get (D := D) (ci := 3) (v := .int (iI ((nw sd k (1)) k))) (C := R_T) (T := T_T) (N := 4) hx hb hts (in_T _) hown hK hP (36 + 2 * k) (cw_so k hk) rfl 3 (by decide) (ht _ m_185) (fun _ h9 => h9) rfl d_S_settles_166 ?_
            refine pr_ire (B := 1) (by rw [nw_s]) ?_
            exact W.zret (v := iI (1)) hx hb hr (by decide) (fun t ht hW => ⟨⟨iI (1), (Q, bb, ns 3, 1), rfl, ⟨rfl, rfl, q2.2.1, Or.inl ⟨rfl, pn_fin o_zc.2 hex q2 q4 q5 (by assumption)⟩⟩, by rw [ht]; exact hP, hD⟩, hS.F ht⟩) hS.2.2 d_S_settles_169
        · skip
          refine lv_iload_n hx hb d_S_settles_48 rfl (lv_at hl 3 rfl) ?_
          refine pr_if_eq (tgt := 137) hx hb (i3_of (by omega) (by omega)) d_S_settles_49 (by decide) (fun c_4 => ?_) (fun c_4 => ?_)
          · skip
            have hex : (80009 : Int) ≤ (kk : Int) ∨ (ro : Int) = 0 ∨ m_past Q := by first | exact Or.inl (by omega) | exact Or.inr (Or.inl (by omega)) | exact Or.inr (Or.inr (by with_reducible assumption))
            have hPrQ : pn_Pr ((nw pr k Q) k) := by rw [nw_s]; exact q2.2.1.pr
            refine lv_aload_n hx hb d_S_settles_137 rfl (lv_at hl 1 rfl) ?_
            refine lv_aload_n hx hb d_S_settles_138 rfl (lv_at hl 0 rfl) ?_
            refine lv_aload_n hx hb d_S_settles_139 rfl (lv_at hl 1 rfl) ?_
            refine pr_pi (va_runV (As := [.ref (a (36 + 2 * k))]) (rest := [.ref (a (36 + 2 * k))]) ⟨hx, hb, hml, hown, hts⟩ (c_S_isPastHighest l k hk hPrQ) (cwV 1 hts (pn_gV m_435 m_437 m_9 m_35 m_438) rfl rfl rfl (by decide +kernel) ⟨Nat.le_of_ble_eq_true rfl, Nat.le_of_ble_eq_true rfl⟩) (pn_preV (q0 := 27) (ci := 2) (q := (R_S, T_S, 2)) hP hE rfl rfl) rfl rfl hl.1 rfl (lv_room (Nat.le_of_ble_eq_true rfl)) d_S_settles_140 ⟨Nat.le_of_ble_eq_true rfl, Nat.le_of_ble_eq_true rfl⟩) ?_
            refine pr_ire (B := m_pb (Q)) (by rw [nw_s]) ?_
            refine pr_if_ne (tgt := 150) hx hb (i3_pb _) d_S_settles_143 (by decide) (fun c_5 => ?_) (fun c_5 => ?_)
            · replace c_5 := m_pb_1 c_5
              refine lv_iconst (v := iI (0)) hx hb d_S_settles_150 rfl ?_
              refine va_put (D := D) (ci := 3) (v := .int (iI (0))) (ty := .boolean) (C := R_T) (T := T_T) (N := 4) hx hb hts (in_T _) ty_T ty_T_ok nm_T hown hK hP hD hS (36 + 2 * k) (cw_so k hk) rfl 3 (by decide) (ht _ m_185) (fun _ h9 => h9) rfl (by decide +kernel) (by decide) (by decide) (Nat.le_of_ble_eq_true rfl) d_S_settles_151 (fun H locs hP hD hS => ?_)
              have e9 := cw_usd (a := a) (cI := cI) (cL := cL) (cD := cD) (cS := cS) (nf := nf) (ns := ns) (da := da) (be := bb) (ui := ui) (ul := ul) (cn := cn) (ss := ss) (mf := mf) (sd := sd) (pr := nw pr k Q) (x := 0) k hk
              have hP : va_P D pn_cl (cw a cI cL cD cS nf ns da bb ui ul cn ss mf (nw sd k (0)) (nw pr k Q)) H := by rw [← e9]; exact hP
              have hD : va_D A (cw a cI cL cD cS nf ns da bb ui ul cn ss mf (nw sd k (0)) (nw pr k Q)) := by rw [← e9]; exact hD
              clear e9
              refine lv_aload_n hx hb d_S_settles_154 rfl (lv_at hl 1 rfl) ?_
              refine lv_aload_n hx hb d_S_settles_155 rfl (lv_at hl 0 rfl) ?_
              refine va_get (D := D) (ci := 2) (v := .ref (a 1)) (C := R_S) (T := T_S) (N := 2) hx hb hts (in_S _) hown hK hP 27 rfl rfl 0 (by decide) (ht _ m_133) (fun _ h9 => h9) rfl d_S_settles_156 ?_
              refine va_get (D := D) (ci := 1) (v := .int (iI (ns 3))) (C := R_N) (T := T_N) (N := 17) hx hb hts (in_N _) hown hK hP 1 rfl rfl 16 (by decide) (ht _ m_90) (fun _ h9 => h9) rfl d_S_settles_159 ?_
              refine va_put (D := D) (ci := 3) (v := .int (iI (ns 3))) (ty := .int) (C := R_T) (T := T_T) (N := 4) hx hb hts (in_T _) ty_T ty_T_ok nm_T hown hK hP hD hS (36 + 2 * k) (cw_so k hk) rfl 2 (by decide) (ht _ m_182) (fun _ h9 => h9) rfl (by decide +kernel) rfl rfl (Nat.le_of_ble_eq_true rfl) d_S_settles_162 (fun H locs hP hD hS => ?_)
              have e9 := cw_umf (a := a) (cI := cI) (cL := cL) (cD := cD) (cS := cS) (nf := nf) (ns := ns) (da := da) (be := bb) (ui := ui) (ul := ul) (cn := cn) (ss := ss) (mf := mf) (sd := nw sd k (0)) (pr := nw pr k Q) (x := ns 3) k hk
              have hP : va_P D pn_cl (cw a cI cL cD cS nf ns da bb ui ul cn ss (nw mf k (ns 3)) (nw sd k (0)) (nw pr k Q)) H := by rw [← e9]; exact hP
              have hD : va_D A (cw a cI cL cD cS nf ns da bb ui ul cn ss (nw mf k (ns 3)) (nw sd k (0)) (nw pr k Q)) := by rw [← e9]; exact hD
              clear e9
              refine lv_aload_n hx hb d_S_settles_165 rfl (lv_at hl 1 rfl) ?_
              refine va_get (D := D) (ci := 3) (v := .int (iI ((nw sd k (0)) k))) (C := R_T) (T := T_T) (N := 4) hx hb hts (in_T _) hown hK hP (36 + 2 * k) (cw_so k hk) rfl 3 (by decide) (ht _ m_185) (fun _ h9 => h9) rfl d_S_settles_166 ?_
              refine pr_ire (B := 0) (by rw [nw_s]) ?_
              exact W.zret (v := iI (0)) hx hb hr (by decide) (fun t ht hW => ⟨⟨iI (0), (Q, bb, ns 3, 0), rfl, ⟨rfl, rfl, q2.2.1, Or.inr ⟨rfl, pn_end_no q2 (by assumption)⟩⟩, by rw [ht]; exact hP, hD⟩, hS.F ht⟩) hS.2.2 d_S_settles_169
            · replace c_5 := m_pb_0 c_5
              refine lv_iconst (v := iI (1)) hx hb d_S_settles_146 rfl ?_
              refine lv_goto (tgt := 151) hx hb d_S_settles_147 (by decide) ?_
              refine va_put (D := D) (ci := 3) (v := .int (iI (1))) (ty := .boolean) (C := R_T) (T := T_T) (N := 4) hx hb hts (in_T _) ty_T ty_T_ok nm_T hown hK hP hD hS (36 + 2 * k) (cw_so k hk) rfl 3 (by decide) (ht _ m_185) (fun _ h9 => h9) rfl (by decide +kernel) (by decide) (by decide) (Nat.le_of_ble_eq_true rfl) d_S_settles_151 (fun H locs hP hD hS => ?_)
              have e9 := cw_usd (a := a) (cI := cI) (cL := cL) (cD := cD) (cS := cS) (nf := nf) (ns := ns) (da := da) (be := bb) (ui := ui) (ul := ul) (cn := cn) (ss := ss) (mf := mf) (sd := sd) (pr := nw pr k Q) (x := 1) k hk
              have hP : va_P D pn_cl (cw a cI cL cD cS nf ns da bb ui ul cn ss mf (nw sd k (1)) (nw pr k Q)) H := by rw [← e9]; exact hP
              have hD : va_D A (cw a cI cL cD cS nf ns da bb ui ul cn ss mf (nw sd k (1)) (nw pr k Q)) := by rw [← e9]; exact hD
              clear e9
              refine lv_aload_n hx hb d_S_settles_154 rfl (lv_at hl 1 rfl) ?_
              refine lv_aload_n hx hb d_S_settles_155 rfl (lv_at hl 0 rfl) ?_
              refine va_get (D := D) (ci := 2) (v := .ref (a 1)) (C := R_S) (T := T_S) (N := 2) hx hb hts (in_S _) hown hK hP 27 rfl rfl 0 (by decide) (ht _ m_133) (fun _ h9 => h9) rfl d_S_settles_156 ?_
              refine va_get (D := D) (ci := 1) (v := .int (iI (ns 3))) (C := R_N) (T := T_N) (N := 17) hx hb hts (in_N _) hown hK hP 1 rfl rfl 16 (by decide) (ht _ m_90) (fun _ h9 => h9) rfl d_S_settles_159 ?_
              refine va_put (D := D) (ci := 3) (v := .int (iI (ns 3))) (ty := .int) (C := R_T) (T := T_T) (N := 4) hx hb hts (in_T _) ty_T ty_T_ok nm_T hown hK hP hD hS (36 + 2 * k) (cw_so k hk) rfl 2 (by decide) (ht _ m_182) (fun _ h9 => h9) rfl (by decide +kernel) rfl rfl (Nat.le_of_ble_eq_true rfl) d_S_settles_162 (fun H locs hP hD hS => ?_)
              have e9 := cw_umf (a := a) (cI := cI) (cL := cL) (cD := cD) (cS := cS) (nf := nf) (ns := ns) (da := da) (be := bb) (ui := ui) (ul := ul) (cn := cn) (ss := ss) (mf := mf) (sd := nw sd k (1)) (pr := nw pr k Q) (x := ns 3) k hk
              have hP : va_P D pn_cl (cw a cI cL cD cS nf ns da bb ui ul cn ss (nw mf k (ns 3)) (nw sd k (1)) (nw pr k Q)) H := by rw [← e9]; exact hP
              have hD : va_D A (cw a cI cL cD cS nf ns da bb ui ul cn ss (nw mf k (ns 3)) (nw sd k (1)) (nw pr k Q)) := by rw [← e9]; exact hD
              clear e9
              refine lv_aload_n hx hb d_S_settles_165 rfl (lv_at hl 1 rfl) ?_
              refine va_get (D := D) (ci := 3) (v := .int (iI ((nw sd k (1)) k))) (C := R_T) (T := T_T) (N := 4) hx hb hts (in_T _) hown hK hP (36 + 2 * k) (cw_so k hk) rfl 3 (by decide) (ht _ m_185) (fun _ h9 => h9) rfl d_S_settles_166 ?_
              refine pr_ire (B := 1) (by rw [nw_s]) ?_
              exact W.zret (v := iI (1)) hx hb hr (by decide) (fun t ht hW => ⟨⟨iI (1), (Q, bb, ns 3, 1), rfl, ⟨rfl, rfl, q2.2.1, Or.inl ⟨rfl, pn_fin o_zc.2 hex q2 q4 q5 (by assumption)⟩⟩, by rw [ht]; exact hP, hD⟩, hS.F ht⟩) hS.2.2 d_S_settles_169
          · skip
            have hPrQ : pn_Pr ((nw pr k Q) k) := by rw [nw_s]; exact q2.2.1.pr
            refine lv_aload_n hx hb d_S_settles_52 rfl (lv_at hl 0 rfl) ?_
            refine lv_aload_n hx hb d_S_settles_53 rfl (lv_at hl 1 rfl) ?_
            refine pr_pi (va_runV (As := [.ref (a (36 + 2 * k))]) (rest := []) ⟨hx, hb, hml, hown, hts⟩ (c_S_isPastHighest l k hk hPrQ) (cwV 1 hts (pn_gV m_435 m_437 m_9 m_35 m_438) rfl rfl rfl (by decide +kernel) ⟨Nat.le_of_ble_eq_true rfl, Nat.le_of_ble_eq_true rfl⟩) (pn_preV (q0 := 27) (ci := 2) (q := (R_S, T_S, 2)) hP hE rfl rfl) rfl rfl hl.1 rfl (lv_room (Nat.le_of_ble_eq_true rfl)) d_S_settles_54 ⟨Nat.le_of_ble_eq_true rfl, Nat.le_of_ble_eq_true rfl⟩) ?_
            refine pr_ire (B := m_pb (Q)) (by rw [nw_s]) ?_
            refine pr_if_ne (tgt := 137) hx hb (i3_pb _) d_S_settles_57 (by decide) (fun c_6 => ?_) (fun c_6 => ?_)
            · replace c_6 := m_pb_1 c_6
              have hex : (80009 : Int) ≤ (kk : Int) ∨ (ro : Int) = 0 ∨ m_past Q := by first | exact Or.inl (by omega) | exact Or.inr (Or.inl (by omega)) | exact Or.inr (Or.inr (by with_reducible assumption))
              have hPrQ : pn_Pr ((nw pr k Q) k) := by rw [nw_s]; exact q2.2.1.pr
              refine lv_aload_n hx hb d_S_settles_137 rfl (lv_at hl 1 rfl) ?_
              refine lv_aload_n hx hb d_S_settles_138 rfl (lv_at hl 0 rfl) ?_
              refine lv_aload_n hx hb d_S_settles_139 rfl (lv_at hl 1 rfl) ?_
              refine pr_pi (va_runV (As := [.ref (a (36 + 2 * k))]) (rest := [.ref (a (36 + 2 * k))]) ⟨hx, hb, hml, hown, hts⟩ (c_S_isPastHighest l k hk hPrQ) (cwV 1 hts (pn_gV m_435 m_437 m_9 m_35 m_438) rfl rfl rfl (by decide +kernel) ⟨Nat.le_of_ble_eq_true rfl, Nat.le_of_ble_eq_true rfl⟩) (pn_preV (q0 := 27) (ci := 2) (q := (R_S, T_S, 2)) hP hE rfl rfl) rfl rfl hl.1 rfl (lv_room (Nat.le_of_ble_eq_true rfl)) d_S_settles_140 ⟨Nat.le_of_ble_eq_true rfl, Nat.le_of_ble_eq_true rfl⟩) ?_
              refine pr_ire (B := m_pb (Q)) (by rw [nw_s]) ?_
              refine pr_if_ne (tgt := 150) hx hb (i3_pb _) d_S_settles_143 (by decide) (fun c_7 => ?_) (fun c_7 => ?_)
              · replace c_7 := m_pb_1 c_7
                refine lv_iconst (v := iI (0)) hx hb d_S_settles_150 rfl ?_
                refine va_put (D := D) (ci := 3) (v := .int (iI (0))) (ty := .boolean) (C := R_T) (T := T_T) (N := 4) hx hb hts (in_T _) ty_T ty_T_ok nm_T hown hK hP hD hS (36 + 2 * k) (cw_so k hk) rfl 3 (by decide) (ht _ m_185) (fun _ h9 => h9) rfl (by decide +kernel) (by decide) (by decide) (Nat.le_of_ble_eq_true rfl) d_S_settles_151 (fun H locs hP hD hS => ?_)
                have e9 := cw_usd (a := a) (cI := cI) (cL := cL) (cD := cD) (cS := cS) (nf := nf) (ns := ns) (da := da) (be := bb) (ui := ui) (ul := ul) (cn := cn) (ss := ss) (mf := mf) (sd := sd) (pr := nw pr k Q) (x := 0) k hk
                have hP : va_P D pn_cl (cw a cI cL cD cS nf ns da bb ui ul cn ss mf (nw sd k (0)) (nw pr k Q)) H := by rw [← e9]; exact hP
                have hD : va_D A (cw a cI cL cD cS nf ns da bb ui ul cn ss mf (nw sd k (0)) (nw pr k Q)) := by rw [← e9]; exact hD
                clear e9
                refine lv_aload_n hx hb d_S_settles_154 rfl (lv_at hl 1 rfl) ?_
                refine lv_aload_n hx hb d_S_settles_155 rfl (lv_at hl 0 rfl) ?_
                refine va_get (D := D) (ci := 2) (v := .ref (a 1)) (C := R_S) (T := T_S) (N := 2) hx hb hts (in_S _) hown hK hP 27 rfl rfl 0 (by decide) (ht _ m_133) (fun _ h9 => h9) rfl d_S_settles_156 ?_
                refine va_get (D := D) (ci := 1) (v := .int (iI (ns 3))) (C := R_N) (T := T_N) (N := 17) hx hb hts (in_N _) hown hK hP 1 rfl rfl 16 (by decide) (ht _ m_90) (fun _ h9 => h9) rfl d_S_settles_159 ?_
                refine va_put (D := D) (ci := 3) (v := .int (iI (ns 3))) (ty := .int) (C := R_T) (T := T_T) (N := 4) hx hb hts (in_T _) ty_T ty_T_ok nm_T hown hK hP hD hS (36 + 2 * k) (cw_so k hk) rfl 2 (by decide) (ht _ m_182) (fun _ h9 => h9) rfl (by decide +kernel) rfl rfl (Nat.le_of_ble_eq_true rfl) d_S_settles_162 (fun H locs hP hD hS => ?_)
                have e9 := cw_umf (a := a) (cI := cI) (cL := cL) (cD := cD) (cS := cS) (nf := nf) (ns := ns) (da := da) (be := bb) (ui := ui) (ul := ul) (cn := cn) (ss := ss) (mf := mf) (sd := nw sd k (0)) (pr := nw pr k Q) (x := ns 3) k hk
                have hP : va_P D pn_cl (cw a cI cL cD cS nf ns da bb ui ul cn ss (nw mf k (ns 3)) (nw sd k (0)) (nw pr k Q)) H := by rw [← e9]; exact hP
                have hD : va_D A (cw a cI cL cD cS nf ns da bb ui ul cn ss (nw mf k (ns 3)) (nw sd k (0)) (nw pr k Q)) := by rw [← e9]; exact hD
                clear e9
                refine lv_aload_n hx hb d_S_settles_165 rfl (lv_at hl 1 rfl) ?_
                refine va_get (D := D) (ci := 3) (v := .int (iI ((nw sd k (0)) k))) (C := R_T) (T := T_T) (N := 4) hx hb hts (in_T _) hown hK hP (36 + 2 * k) (cw_so k hk) rfl 3 (by decide) (ht _ m_185) (fun _ h9 => h9) rfl d_S_settles_166 ?_
                refine pr_ire (B := 0) (by rw [nw_s]) ?_
                exact W.zret (v := iI (0)) hx hb hr (by decide) (fun t ht hW => ⟨⟨iI (0), (Q, bb, ns 3, 0), rfl, ⟨rfl, rfl, q2.2.1, Or.inr ⟨rfl, pn_end_no q2 (by assumption)⟩⟩, by rw [ht]; exact hP, hD⟩, hS.F ht⟩) hS.2.2 d_S_settles_169
              · replace c_7 := m_pb_0 c_7
                refine lv_iconst (v := iI (1)) hx hb d_S_settles_146 rfl ?_
                refine lv_goto (tgt := 151) hx hb d_S_settles_147 (by decide) ?_
                refine va_put (D := D) (ci := 3) (v := .int (iI (1))) (ty := .boolean) (C := R_T) (T := T_T) (N := 4) hx hb hts (in_T _) ty_T ty_T_ok nm_T hown hK hP hD hS (36 + 2 * k) (cw_so k hk) rfl 3 (by decide) (ht _ m_185) (fun _ h9 => h9) rfl (by decide +kernel) (by decide) (by decide) (Nat.le_of_ble_eq_true rfl) d_S_settles_151 (fun H locs hP hD hS => ?_)
                have e9 := cw_usd (a := a) (cI := cI) (cL := cL) (cD := cD) (cS := cS) (nf := nf) (ns := ns) (da := da) (be := bb) (ui := ui) (ul := ul) (cn := cn) (ss := ss) (mf := mf) (sd := sd) (pr := nw pr k Q) (x := 1) k hk
                have hP : va_P D pn_cl (cw a cI cL cD cS nf ns da bb ui ul cn ss mf (nw sd k (1)) (nw pr k Q)) H := by rw [← e9]; exact hP
                have hD : va_D A (cw a cI cL cD cS nf ns da bb ui ul cn ss mf (nw sd k (1)) (nw pr k Q)) := by rw [← e9]; exact hD
                clear e9
                refine lv_aload_n hx hb d_S_settles_154 rfl (lv_at hl 1 rfl) ?_
                refine lv_aload_n hx hb d_S_settles_155 rfl (lv_at hl 0 rfl) ?_
                refine va_get (D := D) (ci := 2) (v := .ref (a 1)) (C := R_S) (T := T_S) (N := 2) hx hb hts (in_S _) hown hK hP 27 rfl rfl 0 (by decide) (ht _ m_133) (fun _ h9 => h9) rfl d_S_settles_156 ?_
                refine va_get (D := D) (ci := 1) (v := .int (iI (ns 3))) (C := R_N) (T := T_N) (N := 17) hx hb hts (in_N _) hown hK hP 1 rfl rfl 16 (by decide) (ht _ m_90) (fun _ h9 => h9) rfl d_S_settles_159 ?_
                refine va_put (D := D) (ci := 3) (v := .int (iI (ns 3))) (ty := .int) (C := R_T) (T := T_T) (N := 4) hx hb hts (in_T _) ty_T ty_T_ok nm_T hown hK hP hD hS (36 + 2 * k) (cw_so k hk) rfl 2 (by decide) (ht _ m_182) (fun _ h9 => h9) rfl (by decide +kernel) rfl rfl (Nat.le_of_ble_eq_true rfl) d_S_settles_162 (fun H locs hP hD hS => ?_)
                have e9 := cw_umf (a := a) (cI := cI) (cL := cL) (cD := cD) (cS := cS) (nf := nf) (ns := ns) (da := da) (be := bb) (ui := ui) (ul := ul) (cn := cn) (ss := ss) (mf := mf) (sd := nw sd k (1)) (pr := nw pr k Q) (x := ns 3) k hk
                have hP : va_P D pn_cl (cw a cI cL cD cS nf ns da bb ui ul cn ss (nw mf k (ns 3)) (nw sd k (1)) (nw pr k Q)) H := by rw [← e9]; exact hP
                have hD : va_D A (cw a cI cL cD cS nf ns da bb ui ul cn ss (nw mf k (ns 3)) (nw sd k (1)) (nw pr k Q)) := by rw [← e9]; exact hD
                clear e9
                refine lv_aload_n hx hb d_S_settles_165 rfl (lv_at hl 1 rfl) ?_
                refine va_get (D := D) (ci := 3) (v := .int (iI ((nw sd k (1)) k))) (C := R_T) (T := T_T) (N := 4) hx hb hts (in_T _) hown hK hP (36 + 2 * k) (cw_so k hk) rfl 3 (by decide) (ht _ m_185) (fun _ h9 => h9) rfl d_S_settles_166 ?_
                refine pr_ire (B := 1) (by rw [nw_s]) ?_
                exact W.zret (v := iI (1)) hx hb hr (by decide) (fun t ht hW => ⟨⟨iI (1), (Q, bb, ns 3, 1), rfl, ⟨rfl, rfl, q2.2.1, Or.inl ⟨rfl, pn_fin o_zc.2 hex q2 q4 q5 (by assumption)⟩⟩, by rw [ht]; exact hP, hD⟩, hS.F ht⟩) hS.2.2 d_S_settles_169
            · replace c_6 := m_pb_0 c_6
              refine lv_aload_n hx hb d_S_settles_60 rfl (lv_at hl 0 rfl) ?_
              refine lv_aload_n hx hb d_S_settles_61 rfl (lv_at hl 1 rfl) ?_
              refine lv_iload_n hx hb d_S_settles_62 rfl (lv_at hl 2 rfl) ?_
              refine pr_ci (va_runV (As := [.ref (a (36 + 2 * k)), .int (iI (((m_al (ns 0) : Nat) : Int)))]) (rest := []) ⟨hx, hb, hml, hown, hts⟩ (c_S_doBout l (be := bb) (pr := nw pr k Q) H.size k (m_al (ns 0)) hOk hk hPrQ hss (m_al_lt o_zc.2)) (cwV 2 hts (pn_gV m_439 m_441 m_10 m_35 m_442) rfl rfl rfl (by decide +kernel) ⟨Nat.le_of_ble_eq_true rfl, Nat.le_of_ble_eq_true rfl⟩) (pn_preW (q0 := 27) (ci := 2) (q := (R_S, T_S, 2)) hP hD hE rfl rfl) rfl rfl hl.1 rfl (lv_room (Nat.le_of_ble_eq_true rfl)) d_S_settles_63 ⟨Nat.le_of_ble_eq_true rfl, Nat.le_of_ble_eq_true rfl⟩) hD hS hA (fun r u H locs hw hP hD hS => ?_)
              obtain ⟨ro2, Q2⟩ := u
              simp only [nw_s] at hw
              try dsimp only at hP hD
              rw [nw_nw] at hP hD
              obtain ⟨rfl, hB, hno⟩ := hw
              have b1 := hB.2.2.2
              obtain ⟨hI2, hs2, hs3⟩ := pn_I_bout hM o_zc.1 q2 hB
              have r4 : ro2 = 0 → pn_no (ns 0) (m_G nf da (ss k)) (m_al (ns 0)) 8 Q2 := fun h => by rw [(hno h).2]; exact (hno h).1
              have r5 : ro2 ≠ 0 → ((kk + 1 : Nat) : Int) ≤ m_s8 Q2 + 40000 := fun h => by have := hs3 h; have := q5 (by omega); omega
              refine lv_istore_n (lv' := [(3, .int (iI (((ro2 : Nat) : Int)))), (0, .ref (a 27)), (1, .ref (a (36 + 2 * k))), (2, .int (iI (((m_al (ns 0) : Nat) : Int)))), (4, .int (iI (((kk : Nat) : Int))))]) hx hb d_S_settles_66 rfl hl (by decide) rfl (fun ls hl => ?_)
              refine lv_iconst (v := iI (1)) hx hb d_S_settles_67 rfl ?_
              refine lv_istore (lv' := [(5, .int (iI (1))), (3, .int (iI (((ro2 : Nat) : Int)))), (0, .ref (a 27)), (1, .ref (a (36 + 2 * k))), (2, .int (iI (((m_al (ns 0) : Nat) : Int)))), (4, .int (iI (((kk : Nat) : Int))))]) hx hb d_S_settles_68 hl (by decide) rfl (fun ls hl => ?_)
              have ihm := ih
              clear ih
              have loop2 : ∀ (n : Nat) (lf : Nat) (P3 : Int → Int) (b3 : Int → Int) (H : Heap) (locs : List Loc) (ls : Array Slot), (pn_I (ns 0) (nf 0) (m_G nf da (ss k)) P3) → (lf ≤ 10000) → (m_s8 Q2 ≤ m_s8 P3) → (ro2 = 0 → P3 = Q2) → (ro2 = 0 → lf = 0) → lf < n → va_P D pn_cl (cw a cI cL cD cS nf ns da b3 ui ul cn ss mf sd (nw pr k P3)) H → va_D A (cw a cI cL cD cS nf ns da b3 ui ul cn ss mf sd (nw pr k P3)) → va_S A s.heap H locs → lv_has ls 6 [(0, .ref (a 27)), (1, .ref (a (36 + 2 * k))), (2, .int (iI (((m_al (ns 0) : Nat) : Int)))), (3, .int (iI (((ro2 : Nat) : Int)))), (4, .int (iI (((kk : Nat) : Int)))), (5, .int (iI (((lf : Nat) : Int))))] → W p l e (headSpec w_S_settles ({ frames := 6, cells := 0, slots := 0, locals := 163 })).room s m ([.ref (a 27), .ref (a (36 + 2 * k))] : List Value).toArray below meth c H locs 0 0 (MQ below (va_Qi (fun (r : Int32) (u : (Int → Int) × (Int → Int) × Int × Int) => r = iI u.2.2.2 ∧ u.2.2.1 = ns 3 ∧ pn_P5 u.1 ∧ pn_Le (ns 0) (nf 0) (m_G nf da (ss k)) u.2.2.2 u.1) (fun u t => va_P D pn_cl ((fun u : (Int → Int) × (Int → Int) × Int × Int => cw a cI cL cD cS nf ns da u.2.1 ui ul cn ss (nw mf k u.2.2.1) (nw sd k u.2.2.2) (nw pr k u.1)) u) t.heap ∧ va_D A ((fun u : (Int → Int) × (Int → Int) × Int × Int => cw a cI cL cD cS nf ns da u.2.1 ui ul cn ss (nw mf k u.2.2.1) (nw sd k u.2.2.2) (nw pr k u.1)) u)) A) ([.ref (a 27), .ref (a (36 + 2 * k))] : List Value).toArray s 0 0 A) (F0 m 108 ls []) := by
                intro n
                induction n with
                | zero => intro lf P3 b3 H locs ls _ _ _ _ _ hm; exact absurd hm (Nat.not_lt_zero _)
                | succ n ih =>
                  intro lf P3 b3 H locs ls e2 e3 e4 e5 e6 hm hP hD hS hl
                  refine lv_iload hx hb d_S_settles_108 (lv_at hl 5 rfl) ?_
                  refine pr_if_le (tgt := 131) hx hb (i3_of (by omega) (by omega)) d_S_settles_110 (by decide) (fun c_8 => ?_) (fun c_8 => ?_)
                  · skip
                    refine lv_iinc (v := iI (((kk : Nat) : Int) + 1)) (lv' := [(4, .int (iI (((kk : Nat) : Int) + 1))), (0, .ref (a 27)), (1, .ref (a (36 + 2 * k))), (2, .int (iI (((m_al (ns 0) : Nat) : Int)))), (3, .int (iI (((ro2 : Nat) : Int)))), (5, .int (iI (((lf : Nat) : Int))))]) hx hb d_S_settles_131 hl (k := 4) rfl (iI_add _ _).symm (by decide) rfl (fun ls hl => ?_)
                    refine lv_goto (tgt := 41) hx hb d_S_settles_134 (by decide) ?_
                    exact ihm (kk + 1) ro2 P3 b3 _ _ ls (by omega) e2 b1 (fun h => by rw [e5 h]; exact r4 h) (fun h => by have := r5 h; omega) (by omega) hP hD hS (lv_sub hl [1, 2, 3, 4, 0] rfl)
                  · skip
                    refine lv_aload_n hx hb d_S_settles_113 rfl (lv_at hl 0 rfl) ?_
                    refine lv_aload_n hx hb d_S_settles_114 rfl (lv_at hl 1 rfl) ?_
                    refine lv_iload_n hx hb d_S_settles_115 rfl (lv_at hl 3 rfl) ?_
                    refine lv_iload hx hb d_S_settles_116 (lv_at hl 5 rfl) ?_
                    refine pr_ci (va_runV (As := [.ref (a (36 + 2 * k)), .int (iI (((ro2 : Nat) : Int))), .int (iI (((lf : Nat) : Int)))]) (rest := []) ⟨hx, hb, hml, hown, hts⟩ (c_S_lifts l (be := b3) (pr := nw pr k P3) H.size k ro2 lf hOk hk (by rw [nw_s]; exact e2.2.1) hss b1 (by omega)) (cwV 3 hts (pn_gV m_471 m_473 m_12 m_35 m_474) rfl rfl rfl (by decide +kernel) ⟨Nat.le_of_ble_eq_true rfl, Nat.le_of_ble_eq_true rfl⟩) (pn_preW (q0 := 27) (ci := 2) (q := (R_S, T_S, 2)) hP hD hE rfl rfl) rfl rfl hl.1 rfl (lv_room (Nat.le_of_ble_eq_true rfl)) d_S_settles_118 ⟨Nat.le_of_ble_eq_true rfl, Nat.le_of_ble_eq_true rfl⟩) hD hS hA (fun r u H locs hw hP hD hS => ?_)
                    obtain ⟨P4, b4⟩ := u
                    simp only [nw_s] at hw
                    try dsimp only at hP hD
                    rw [nw_nw] at hP hD
                    rcases hw with ⟨rfl, hnp, hB4⟩ | ⟨rfl, hu4⟩
                    · obtain ⟨hI4, hs4⟩ := pn_I_lift hM o_zc.1 o_zc.2 e2 hnp hB4
                      refine lv_pop hx hb d_S_settles_121 rfl ?_
                      refine lv_iload hx hb d_S_settles_122 (lv_at hl 5 rfl) ?_
                      refine lv_iconst (v := iI (2)) hx hb d_S_settles_124 rfl ?_
                      refine pr_idiv hx hb (i3_of (by omega) (by omega)) (i3_of (by decide) (by decide)) (by omega) d_S_settles_125 ?_
                      refine pr_ire (B := ((lf / 2 : Nat) : Int)) (Int.ofNat_tdiv _ _).symm ?_
                      refine lv_istore (lv' := [(5, .int (iI (((lf / 2 : Nat) : Int)))), (0, .ref (a 27)), (1, .ref (a (36 + 2 * k))), (2, .int (iI (((m_al (ns 0) : Nat) : Int)))), (3, .int (iI (((ro2 : Nat) : Int)))), (4, .int (iI (((kk : Nat) : Int))))]) hx hb d_S_settles_126 hl (by decide) rfl (fun ls hl => ?_)
                      refine lv_goto (tgt := 108) hx hb d_S_settles_128 (by decide) ?_
                      exact ih (lf / 2) (P4) (b4) _ _ ls hI4 (by omega) (by omega) (fun h => absurd (e6 h) (by omega)) (fun h => absurd (e6 h) (by omega)) (by omega) hP hD hS (lv_sub hl [1, 2, 3, 4, 5, 0] rfl)
                    · have hI4 : pn_I (ns 0) (nf 0) (m_G nf da (ss k)) P4 := by rw [hu4]; exact e2
                      have hs4 : m_s8 P3 ≤ m_s8 P4 := by rw [hu4]; exact Int.le_refl _
                      refine lv_pop hx hb d_S_settles_121 rfl ?_
                      refine lv_iload hx hb d_S_settles_122 (lv_at hl 5 rfl) ?_
                      refine lv_iconst (v := iI (2)) hx hb d_S_settles_124 rfl ?_
                      refine pr_idiv hx hb (i3_of (by omega) (by omega)) (i3_of (by decide) (by decide)) (by omega) d_S_settles_125 ?_
                      refine pr_ire (B := ((lf / 2 : Nat) : Int)) (Int.ofNat_tdiv _ _).symm ?_
                      refine lv_istore (lv' := [(5, .int (iI (((lf / 2 : Nat) : Int)))), (0, .ref (a 27)), (1, .ref (a (36 + 2 * k))), (2, .int (iI (((m_al (ns 0) : Nat) : Int)))), (3, .int (iI (((ro2 : Nat) : Int)))), (4, .int (iI (((kk : Nat) : Int))))]) hx hb d_S_settles_126 hl (by decide) rfl (fun ls hl => ?_)
                      refine lv_goto (tgt := 108) hx hb d_S_settles_128 (by decide) ?_
                      exact ih (lf / 2) (P4) (b4) _ _ ls hI4 (by omega) (by omega) (fun h => absurd (e6 h) (by omega)) (fun h => absurd (e6 h) (by omega)) (by omega) hP hD hS (lv_sub hl [1, 2, 3, 4, 5, 0] rfl)
              have loop1 : ∀ (n : Nat) (lf : Nat) (P3 : Int → Int) (b3 : Int → Int) (H : Heap) (locs : List Loc) (ls : Array Slot), (pn_I (ns 0) (nf 0) (m_G nf da (ss k)) P3) → (1 ≤ lf) → (lf ≤ 20000) → (m_s8 Q2 ≤ m_s8 P3) → (ro2 = 0 → P3 = Q2) → (ro2 = 0 → lf = 1) → (20000 - lf) < n → va_P D pn_cl (cw a cI cL cD cS nf ns da b3 ui ul cn ss mf sd (nw pr k P3)) H → va_D A (cw a cI cL cD cS nf ns da b3 ui ul cn ss mf sd (nw pr k P3)) → va_S A s.heap H locs → lv_has ls 6 [(0, .ref (a 27)), (1, .ref (a (36 + 2 * k))), (2, .int (iI (((m_al (ns 0) : Nat) : Int)))), (3, .int (iI (((ro2 : Nat) : Int)))), (4, .int (iI (((kk : Nat) : Int)))), (5, .int (iI (((lf : Nat) : Int))))] → W p l e (headSpec w_S_settles ({ frames := 6, cells := 0, slots := 0, locals := 163 })).room s m ([.ref (a 27), .ref (a (36 + 2 * k))] : List Value).toArray below meth c H locs 0 0 (MQ below (va_Qi (fun (r : Int32) (u : (Int → Int) × (Int → Int) × Int × Int) => r = iI u.2.2.2 ∧ u.2.2.1 = ns 3 ∧ pn_P5 u.1 ∧ pn_Le (ns 0) (nf 0) (m_G nf da (ss k)) u.2.2.2 u.1) (fun u t => va_P D pn_cl ((fun u : (Int → Int) × (Int → Int) × Int × Int => cw a cI cL cD cS nf ns da u.2.1 ui ul cn ss (nw mf k u.2.2.1) (nw sd k u.2.2.2) (nw pr k u.1)) u) t.heap ∧ va_D A ((fun u : (Int → Int) × (Int → Int) × Int × Int => cw a cI cL cD cS nf ns da u.2.1 ui ul cn ss (nw mf k u.2.2.1) (nw sd k u.2.2.2) (nw pr k u.1)) u)) A) ([.ref (a 27), .ref (a (36 + 2 * k))] : List Value).toArray s 0 0 A) (F0 m 70 ls []) := by
                intro n
                induction n with
                | zero => intro lf P3 b3 H locs ls _ _ _ _ _ _ hm; exact absurd hm (Nat.not_lt_zero _)
                | succ n ih =>
                  intro lf P3 b3 H locs ls e2 e1 e3 e4 e5 e6 hm hP hD hS hl
                  refine lv_iload_n hx hb d_S_settles_70 rfl (lv_at hl 3 rfl) ?_
                  refine pr_if_eq (tgt := 102) hx hb (i3_of (by omega) (by omega)) d_S_settles_71 (by decide) (fun c_9 => ?_) (fun c_9 => ?_)
                  · skip
                    refine lv_iload hx hb d_S_settles_102 (lv_at hl 5 rfl) ?_
                    refine lv_iconst (v := iI (2)) hx hb d_S_settles_104 rfl ?_
                    refine pr_idiv hx hb (i3_of (by omega) (by omega)) (i3_of (by decide) (by decide)) (by omega) d_S_settles_105 ?_
                    refine pr_ire (B := ((lf / 2 : Nat) : Int)) (Int.ofNat_tdiv _ _).symm ?_
                    refine lv_istore (lv' := [(5, .int (iI (((lf / 2 : Nat) : Int)))), (0, .ref (a 27)), (1, .ref (a (36 + 2 * k))), (2, .int (iI (((m_al (ns 0) : Nat) : Int)))), (3, .int (iI (((ro2 : Nat) : Int)))), (4, .int (iI (((kk : Nat) : Int))))]) hx hb d_S_settles_106 hl (by decide) rfl (fun ls hl => ?_)
                    exact loop2 _ (lf / 2) (P3) (b3) _ _ ls e2 (by omega) (by omega) (fun h => e5 h) (fun h => by have := e6 h; omega) (Nat.lt_succ_self _) hP hD hS (lv_sub hl [1, 2, 3, 4, 5, 0] rfl)
                  · skip
                    refine lv_iload hx hb d_S_settles_74 (lv_at hl 5 rfl) ?_
                    refine lv_sipush (v := iI (10000)) hx hb d_S_settles_76 (by decide) ?_
                    refine pr_icmp_ge (tgt := 102) hx hb (i3_of (by omega) (by omega)) (i3_of (by decide) (by decide)) d_S_settles_79 (by decide) (fun c_10 => ?_) (fun c_10 => ?_)
                    · skip
                      refine lv_iload hx hb d_S_settles_102 (lv_at hl 5 rfl) ?_
                      refine lv_iconst (v := iI (2)) hx hb d_S_settles_104 rfl ?_
                      refine pr_idiv hx hb (i3_of (by omega) (by omega)) (i3_of (by decide) (by decide)) (by omega) d_S_settles_105 ?_
                      refine pr_ire (B := ((lf / 2 : Nat) : Int)) (Int.ofNat_tdiv _ _).symm ?_
                      refine lv_istore (lv' := [(5, .int (iI (((lf / 2 : Nat) : Int)))), (0, .ref (a 27)), (1, .ref (a (36 + 2 * k))), (2, .int (iI (((m_al (ns 0) : Nat) : Int)))), (3, .int (iI (((ro2 : Nat) : Int)))), (4, .int (iI (((kk : Nat) : Int))))]) hx hb d_S_settles_106 hl (by decide) rfl (fun ls hl => ?_)
                      exact loop2 _ (lf / 2) (P3) (b3) _ _ ls e2 (by omega) (by omega) (fun h => e5 h) (fun h => by have := e6 h; omega) (Nat.lt_succ_self _) hP hD hS (lv_sub hl [1, 2, 3, 4, 5, 0] rfl)
                    · skip
                      refine lv_aload_n hx hb d_S_settles_82 rfl (lv_at hl 0 rfl) ?_
                      refine lv_aload_n hx hb d_S_settles_83 rfl (lv_at hl 1 rfl) ?_
                      refine lv_iload_n hx hb d_S_settles_84 rfl (lv_at hl 3 rfl) ?_
                      refine lv_iload hx hb d_S_settles_85 (lv_at hl 5 rfl) ?_
                      refine pr_ci (va_runV (As := [.ref (a (36 + 2 * k)), .int (iI (((ro2 : Nat) : Int))), .int (iI (((lf : Nat) : Int)))]) (rest := []) ⟨hx, hb, hml, hown, hts⟩ (c_S_lifts l (be := b3) (pr := nw pr k P3) H.size k ro2 lf hOk hk (by rw [nw_s]; exact e2.2.1) hss b1 (by omega)) (cwV 3 hts (pn_gV m_471 m_473 m_12 m_35 m_474) rfl rfl rfl (by decide +kernel) ⟨Nat.le_of_ble_eq_true rfl, Nat.le_of_ble_eq_true rfl⟩) (pn_preW (q0 := 27) (ci := 2) (q := (R_S, T_S, 2)) hP hD hE rfl rfl) rfl rfl hl.1 rfl (lv_room (Nat.le_of_ble_eq_true rfl)) d_S_settles_87 ⟨Nat.le_of_ble_eq_true rfl, Nat.le_of_ble_eq_true rfl⟩) hD hS hA (fun r u H locs hw hP hD hS => ?_)
                      obtain ⟨P4, b4⟩ := u
                      simp only [nw_s] at hw
                      try dsimp only at hP hD
                      rw [nw_nw] at hP hD
                      rcases hw with ⟨rfl, hnp, hB4⟩ | ⟨rfl, hu4⟩
                      · obtain ⟨hI4, hs4⟩ := pn_I_lift hM o_zc.1 o_zc.2 e2 hnp hB4
                        refine pr_if_eq (tgt := 102) hx hb (i3_of (by decide) (by decide)) d_S_settles_90 (by decide) (fun c_11 => ?_) (fun c_11 => ?_)
                        · skip
                          exact absurd c_11 (by decide)
                        · skip
                          refine lv_iload hx hb d_S_settles_93 (lv_at hl 5 rfl) ?_
                          refine lv_iconst (v := iI (2)) hx hb d_S_settles_95 rfl ?_
                          refine pr_imul hx hb d_S_settles_96 ?_
                          refine lv_istore (lv' := [(5, .int (iI ((((lf : Nat) : Int)) * (2)))), (0, .ref (a 27)), (1, .ref (a (36 + 2 * k))), (2, .int (iI (((m_al (ns 0) : Nat) : Int)))), (3, .int (iI (((ro2 : Nat) : Int)))), (4, .int (iI (((kk : Nat) : Int))))]) hx hb d_S_settles_97 hl (by decide) rfl (fun ls hl => ?_)
                          refine lv_goto (tgt := 70) hx hb d_S_settles_99 (by decide) ?_
                          exact ih (lf * 2) (P4) (b4) _ _ ls hI4 (by omega) (by omega) (by omega) (fun h => absurd h (by omega)) (fun h => absurd h (by omega)) (by omega) hP hD hS (lv_sub hl [1, 2, 3, 4, 5, 0] rfl)
                      · have hI4 : pn_I (ns 0) (nf 0) (m_G nf da (ss k)) P4 := by rw [hu4]; exact e2
                        have hs4 : m_s8 P3 ≤ m_s8 P4 := by rw [hu4]; exact Int.le_refl _
                        refine pr_if_eq (tgt := 102) hx hb (i3_of (by decide) (by decide)) d_S_settles_90 (by decide) (fun c_12 => ?_) (fun c_12 => ?_)
                        · skip
                          refine lv_iload hx hb d_S_settles_102 (lv_at hl 5 rfl) ?_
                          refine lv_iconst (v := iI (2)) hx hb d_S_settles_104 rfl ?_
                          refine pr_idiv hx hb (i3_of (by omega) (by omega)) (i3_of (by decide) (by decide)) (by omega) d_S_settles_105 ?_
                          refine pr_ire (B := ((lf / 2 : Nat) : Int)) (Int.ofNat_tdiv _ _).symm ?_
                          refine lv_istore (lv' := [(5, .int (iI (((lf / 2 : Nat) : Int)))), (0, .ref (a 27)), (1, .ref (a (36 + 2 * k))), (2, .int (iI (((m_al (ns 0) : Nat) : Int)))), (3, .int (iI (((ro2 : Nat) : Int)))), (4, .int (iI (((kk : Nat) : Int))))]) hx hb d_S_settles_106 hl (by decide) rfl (fun ls hl => ?_)
                          exact loop2 _ (lf / 2) (P4) (b4) _ _ ls hI4 (by omega) (by omega) (fun h => absurd h (by omega)) (fun h => absurd h (by omega)) (Nat.lt_succ_self _) hP hD hS (lv_sub hl [1, 2, 3, 4, 5, 0] rfl)
                        · skip
                          exact absurd c_12 (by decide)
              exact loop1 _ (1) (Q2) (bb) _ _ ls hI2 (by omega) (by omega) (Int.le_refl _) (fun _ => rfl) (fun _ => rfl) (Nat.lt_succ_self _) hP hD hS (lv_sub hl [2, 3, 4, 1, 5, 0] rfl)
    refine lv_aload_n hx hb d_S_settles_0 rfl (lv_at hl 1 rfl) ?_
    refine va_get (D := D) (ci := 3) (v := .int (iI (mf k))) (C := R_T) (T := T_T) (N := 4) hx hb hts (in_T _) hown hK hP (36 + 2 * k) (cw_so k hk) rfl 2 (by decide) (ht _ m_182) (fun _ h9 => h9) rfl d_S_settles_1 ?_
    refine lv_aload_n hx hb d_S_settles_4 rfl (lv_at hl 0 rfl) ?_
    refine va_get (D := D) (ci := 2) (v := .ref (a 1)) (C := R_S) (T := T_S) (N := 2) hx hb hts (in_S _) hown hK hP 27 rfl rfl 0 (by decide) (ht _ m_133) (fun _ h9 => h9) rfl d_S_settles_5 ?_
    refine va_get (D := D) (ci := 1) (v := .int (iI (ns 3))) (C := R_N) (T := T_N) (N := 17) hx hb hts (in_N _) hown hK hP 1 rfl rfl 16 (by decide) (ht _ m_90) (fun _ h9 => h9) rfl d_S_settles_8 ?_
    refine pr_icmp_ne (tgt := 19) hx hb (i3_of (by omega) (by omega)) (i3_of (by omega) (by omega)) d_S_settles_11 (by decide) (fun c_13 => ?_) (fun c_13 => ?_)
    · skip
      refine lv_aload_n hx hb d_S_settles_19 rfl (lv_at hl 0 rfl) ?_
      refine lv_aload_n hx hb d_S_settles_20 rfl (lv_at hl 1 rfl) ?_
      refine pr_cv (va_runV (As := [.ref (a (36 + 2 * k))]) (rest := []) ⟨hx, hb, hml, hown, hts⟩ (c_S_begin l (pr := pr) s.heap.size k hk) (cwV 1 hts (pn_gV m_424 m_426 m_8 m_35 m_427) rfl rfl rfl (by decide +kernel) ⟨Nat.le_of_ble_eq_true rfl, Nat.le_of_ble_eq_true rfl⟩) (pn_preW (q0 := 27) (ci := 2) (q := (R_S, T_S, 2)) hP hD hE rfl rfl) rfl rfl hl.1 rfl (lv_room (Nat.le_of_ble_eq_true rfl)) d_S_settles_21 ⟨Nat.le_of_ble_eq_true rfl, Nat.le_of_ble_eq_true rfl⟩) hD hS hA (fun u H locs _ hP hD hS => ?_)
      try dsimp only at hP hD
      have hP : va_P D pn_cl (cw a cI cL cD cS nf ns da be ui ul cn ss mf sd (nw pr k (cp (nf 0) (fl 12 (-5000) (pr k)) ((0 : Nat) : Int) ((0 : Nat) : Int) ((4 : Nat) : Int)))) H := hP
      have hD : va_D A (cw a cI cL cD cS nf ns da be ui ul cn ss mf sd (nw pr k (cp (nf 0) (fl 12 (-5000) (pr k)) ((0 : Nat) : Int) ((0 : Nat) : Int) ((4 : Nat) : Int)))) := hD
      refine lv_iconst (v := iI (1)) hx hb d_S_settles_24 rfl ?_
      refine lv_aload_n hx hb d_S_settles_25 rfl (lv_at hl 0 rfl) ?_
      refine va_get (D := D) (ci := 2) (v := .ref (a 1)) (C := R_S) (T := T_S) (N := 2) hx hb hts (in_S _) hown hK hP 27 rfl rfl 0 (by decide) (ht _ m_133) (fun _ h9 => h9) rfl d_S_settles_26 ?_
      refine va_get (D := D) (ci := 1) (v := .int (iI (ns 0))) (C := R_N) (T := T_N) (N := 17) hx hb hts (in_N _) hown hK hP 1 rfl rfl 13 (by decide) (ht _ m_83) (fun _ h9 => h9) rfl d_S_settles_29 ?_
      refine pr_ire (B := (((ns 0).toNat : Nat) : Int)) (Int.toNat_of_nonneg o_zc.1).symm ?_
      refine lv_ishl hx hb d_S_settles_32 ?_
      refine pr_ixe (B := ((2 ^ (ns 0).toNat : Nat) : Int)) (nb_sh (by omega)) ?_
      refine lv_iconst (v := iI (1)) hx hb d_S_settles_33 rfl ?_
      refine pr_isub hx hb d_S_settles_34 ?_
      refine pr_ire (B := ((m_al (ns 0) : Nat) : Int)) (m_al_v _) ?_
      refine lv_istore_n (lv' := [(2, .int (iI (((m_al (ns 0) : Nat) : Int)))), (0, .ref (a 27)), (1, .ref (a (36 + 2 * k)))]) hx hb d_S_settles_35 rfl hl (by decide) rfl (fun ls hl => ?_)
      refine lv_iload_n hx hb d_S_settles_36 rfl (lv_at hl 0 rfl) ?_
      refine lv_istore_n (lv' := [(3, .int (iI (((m_al (ns 0) : Nat) : Int)))), (2, .int (iI (((m_al (ns 0) : Nat) : Int)))), (0, .ref (a 27)), (1, .ref (a (36 + 2 * k)))]) hx hb d_S_settles_37 rfl hl (by decide) rfl (fun ls hl => ?_)
      refine lv_iconst (v := iI (0)) hx hb d_S_settles_38 rfl ?_
      refine lv_istore (lv' := [(4, .int (iI (0))), (3, .int (iI (((m_al (ns 0) : Nat) : Int)))), (2, .int (iI (((m_al (ns 0) : Nat) : Int)))), (0, .ref (a 27)), (1, .ref (a (36 + 2 * k)))]) hx hb d_S_settles_39 hl (by decide) rfl (fun ls hl => ?_)
      exact main _ (0) (m_al (ns 0)) (m_beg (nf 0) (pr k)) (be) _ _ ls (by omega) (pn_I_beg o_zc.1 o_zc.2 o_wi) (m_al_lt o_zc.2) (fun h z _ _ hz _ => by have := m_al_0 o_zc.1 h; omega) (fun _ => by rw [m_s8_beg]; omega) (Nat.lt_succ_self _) hP hD hS (lv_sub hl [3, 4, 2, 1, 0] rfl)
    · skip
      exact absurd c_13 hne
