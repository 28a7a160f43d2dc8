theorem m_gain_b {nf : Nat → Int → Int} {ns : Nat → Int} {da : Int → Int → Int} {S z : Nat} {P : Int → Int} (hOk : pn_Ok nf ns da) (hPr : pn_Pr P) (hz : z < 8) : -648000000 ≤ m_gain nf da S P ((z + 4 : Nat) : Int) ∧ m_gain nf da S P ((z + 4 : Nat) : Int) ≤ 648000000 := by
  have hOk2 := hOk
  obtain ⟨o_zc, o_lc, o_fc, o_ve, o_wi, o_wa, o_vo, o_fr, o_to, o_he, o_ar, o_ki, o_st, o_ff, o_sl, o_dc, o_da⟩ := hOk
  have a1 := o_dc ((z + 4 : Nat) : Int) (by omega) (by omega)
  unfold m_gain
  have h := m_sum_b (f := fun t => m_term nf S P ((z + 4 : Nat) : Int) (da ((z + 4 : Nat) : Int) t)) (B := 27000000) (n := (nf 11 ((z + 4 : Nat) : Int)).toNat) (fun t ht => by
    have a2 := o_da ((z + 4 : Nat) : Int) t (by omega) (by omega) (by omega) (by omega)
    have a3 := m_flow_b (S := S) (d := da ((z + 4 : Nat) : Int) t) hOk2 hPr a2.1 (by omega)
    show -27000000 ≤ m_term _ _ _ _ _ ∧ m_term _ _ _ _ _ ≤ 27000000
    unfold m_term
    by_cases c : nf 4 (da ((z + 4 : Nat) : Int) t) = ((z + 4 : Nat) : Int)
    · rw [if_pos c]; exact a3
    · rw [if_neg c]; omega)
  have h4 : (((nf 11 ((z + 4 : Nat) : Int)).toNat : Nat) : Int) ≤ 24 := by omega
  have h5 : 27000000 * (((nf 11 ((z + 4 : Nat) : Int)).toNat : Nat) : Int) ≤ 27000000 * 24 := by omega
  omega
abbrev w_S_raises : List Cond := .code y_S_raises b_S_raises 9 (some .boolean) :: pn_W
set_option maxHeartbeats 4000000 in
set_option maxRecDepth 100000 in
theorem c_S_raises (l : Launch) {D : va_G} {a : Nat → Nat} {cI cL cD cS : ClassId} {nf : Nat → Int → Int} {ns : Nat → Int} {da : Int → Int → Int} {be : Int → Int} {ui ul : Nat → Int → Int} {cn : Int} {ss : Nat → Nat} {mf sd : Nat → Int} {pr : Nat → Int → Int} (sz : Nat) (k z : Nat) (hOk : pn_Ok nf ns da) (hk : k < 9) (hPr : pn_Pr (pr k)) (hss : ss k < 2 ^ 20) (hz : z < 8) : Met l y_S_raises w_S_raises ({ frames := 3, cells := 0, slots := 0, locals := 85 }) (va_Pc [.ref (a 27), .ref (a (36 + 2 * k)), .int (iI (((z : Nat) : Int)))] (fun U => U.heap.size = sz ∧ va_P D pn_cl (cw a cI cL cD cS nf ns da be ui ul cn ss mf sd pr) U.heap ∧ va_D (fun _ => True) (cw a cI cL cD cS nf ns da be ui ul cn ss mf sd pr) ∧ pn_E D cI cL cD cS U)) (va_Qi (fun (r : Int32) (u : Int → Int) => (r = iI 0 ∧ u = pr k ∧ (5000 < pr k ((z + 4 : Nat) : Int) ∨ m_gain nf da (ss k) (pr k) ((z + 4 : Nat) : Int) ≤ 0)) ∨ (r = iI 1 ∧ ∃ v : Int, u = pu (pr k) ((z + 4 : Nat) : Int) v ∧ pr k ((z + 4 : Nat) : Int) < v ∧ v ≤ 5001 ∧ 0 < m_gain nf da (ss k) (pu (pr k) ((z + 4 : Nat) : Int) (v - 1)) ((z + 4 : Nat) : Int))) (fun u t => va_P D pn_cl ((fun u : Int → Int => cw a cI cL cD cS nf ns da be ui ul cn ss mf sd (nw pr k u)) u) t.heap ∧ va_D (va_A (cw a cI cL cD cS nf ns da be ui ul cn ss mf sd pr) sz) ((fun u : Int → Int => cw a cI cL cD cS nf ns da be ui ul cn ss mf sd (nw pr k u)) u)) (va_A (cw a cI cL cD cS nf ns da be ui ul cn ss mf sd pr) sz)) 0 0 (va_A (cw a cI cL cD cS nf ns da be ui ul cn ss mf sd pr) sz) := by
  refine Met.ofW (cc := b_S_raises) (maxL := 9) (ret := (some .boolean)) (by decide) rfl ?_
  intro p e s m args below meth c s₁ B hml hv
  obtain ⟨rfl, hsz, hP, hD0, hE⟩ := hv
  have hx := B.exec
  have hb := B.bytes
  have hr := B.returns
  have hts := atoms_spec (ws := w_S_raises) B.pre
  have ht : ∀ w ∈ pn_W, w.before _ s = true := fun w h => hts w (List.mem_cons_of_mem _ h)
  have hown : s.vm.findClass R_S = some m.cls := findClass_of_methodNamed B.named
  have hlocks := B.notSynchronized
  have hK := hE.1
  subst hsz
  have hD := hD0.self (sz := s.heap.size)
  generalize hAe : va_A (cw a cI cL cD cS nf ns da be ui ul cn ss mf sd pr) s.heap.size = A at hD ⊢
  have hA : ∀ q : Nat, s.heap.size ≤ q → A q := fun q h => by rw [← hAe]; exact Or.inr h
  have hS : va_S A s.heap s.heap [] := va_S.rf
  have hl := lv_entry ([.ref (a 27), .ref (a (36 + 2 * k)), .int (iI (((z : Nat) : Int)))]) (n := 9) (Nat.le_of_ble_eq_true rfl)
  rw [lg_entry_eq]
  generalize (lg_sl ([.ref (a 27), .ref (a (36 + 2 * k)), .int (iI (((z : Nat) : Int)))]) ++ List.replicate (9 - (lg_sl ([.ref (a 27), .ref (a (36 + 2 * k)), .int (iI (((z : Nat) : Int)))])).length) Slot.unset).toArray = ls at hl ⊢
  have hl : lv_has ls 9 [(0, .ref (a 27)), (1, .ref (a (36 + 2 * k))), (2, .int (iI (((z : Nat) : Int))))] := hl
  obtain ⟨o_zc, o_lc, o_fc, o_ve, o_wi, o_wa, o_vo, o_fr, o_to, o_he, o_ar, o_ki, o_st, o_ff, o_sl, o_dc, o_da⟩ := id hOk
  have p1 := hPr ((z + 4 : Nat) : Int) (by omega) (by omega)
  have loop : ∀ (n : Nat) (i : Nat) (x : Int) (lo : Int) (hi : Int) (rc : Int) (H : Heap) (locs : List Loc) (ls : Array Slot), (i ≤ 64) → (pr k ((z + 4 : Nat) : Int) ≤ lo) → (lo < hi) → (hi ≤ 5001) → (pn_J i rc (hi - lo)) → (0 < m_gain nf da (ss k) (pu (pr k) ((z + 4 : Nat) : Int) (lo)) ((z + 4 : Nat) : Int)) → (64 - i) < n → va_P D pn_cl (cw a cI cL cD cS nf ns da be ui ul cn ss mf sd (nw pr k (pu (pr k) ((z + 4 : Nat) : Int) (x)))) H → va_D A (cw a cI cL cD cS nf ns da be ui ul cn ss mf sd (nw pr k (pu (pr k) ((z + 4 : Nat) : Int) (x)))) → va_S A s.heap H locs → lv_has ls 9 [(0, .ref (a 27)), (1, .ref (a (36 + 2 * k))), (2, .int (iI (((z : Nat) : Int)))), (3, .int (iI (((z + 4 : Nat) : Int)))), (4, .int (iI (lo))), (5, .int (iI (hi))), (6, .int (iI (rc))), (7, .int (iI (((i : Nat) : Int))))] → W p l e (headSpec w_S_raises ({ frames := 3, cells := 0, slots := 0, locals := 85 })).room s m ([.ref (a 27), .ref (a (36 + 2 * k)), .int (iI (((z : Nat) : Int)))] : List Value).toArray below meth c H locs 0 0 (MQ below (va_Qi (fun (r : Int32) (u : Int → Int) => (r = iI 0 ∧ u = pr k ∧ (5000 < pr k ((z + 4 : Nat) : Int) ∨ m_gain nf da (ss k) (pr k) ((z + 4 : Nat) : Int) ≤ 0)) ∨ (r = iI 1 ∧ ∃ v : Int, u = pu (pr k) ((z + 4 : Nat) : Int) v ∧ pr k ((z + 4 : Nat) : Int) < v ∧ v ≤ 5001 ∧ 0 < m_gain nf da (ss k) (pu (pr k) ((z + 4 : Nat) : Int) (v - 1)) ((z + 4 : Nat) : Int))) (fun u t => va_P D pn_cl ((fun u : Int → Int => cw a cI cL cD cS nf ns da be ui ul cn ss mf sd (nw pr k u)) u) t.heap ∧ va_D A ((fun u : Int → Int => cw a cI cL cD cS nf ns da be ui ul cn ss mf sd (nw pr k u)) u)) A) ([.ref (a 27), .ref (a (36 + 2 * k)), .int (iI (((z : Nat) : Int)))] : List Value).toArray s 0 0 A) (F0 m 46 ls []) := by
    intro n
    induction n with
    | zero => intro i x lo hi rc H locs ls _ _ _ _ _ _ hm; exact absurd hm (Nat.not_lt_zero _)
    | succ n ih =>
      intro i x lo hi rc H locs ls q0 q1 q2 q3 q4 q5 hm hP hD hS hl
      refine lv_iload hx hb d_S_raises_46 (lv_at hl 7 rfl) ?_
      refine lv_bipush (v := iI (64)) hx hb d_S_raises_48 (by decide) ?_
      refine pr_icmp_ge (tgt := 122) hx hb (i3_of (by omega) (by omega)) (i3_of (by decide) (by decide)) d_S_raises_50 (by decide) (fun c_1 => ?_) (fun c_1 => ?_)
      · skip
        have hh : hi - lo = 1 := by first | exact pn_J_end q4 (by omega) | omega
        refine lv_aload_n hx hb d_S_raises_122 rfl (lv_at hl 1 rfl) ?_
        refine va_get (D := D) (ci := 3) (v := .ref (a (37 + 2 * k))) (C := R_T) (T := T_T) (N := 4) hx hb hts (in_T _) hown hK hP (36 + 2 * k) (cw_so k hk) rfl 0 (by decide) (ht _ m_175) (fun _ h9 => h9) rfl d_S_raises_123 ?_
        refine lv_iload_n hx hb d_S_raises_126 rfl (lv_at hl 3 rfl) ?_
        refine lv_iload hx hb d_S_raises_127 (lv_at hl 5 rfl) ?_
        refine pr_iast (ws' := cw a cI cL cD cS nf ns da be ui ul cn ss mf sd (nw (nw pr k (pu (pr k) ((z + 4 : Nat) : Int) (x))) k (pu ((nw pr k (pu (pr k) ((z + 4 : Nat) : Int) (x))) k) (((z + 4 : Nat) : Int)) (hi)))) hx hb hK hP hD hS (37 + 2 * k) 0 (cw_sp k hk) rfl (by decide) (by omega) (by omega) (cw_upr _ hk) d_S_raises_129 (fun H locs hP hD hS => ?_)
        have e9 : nw (nw pr k (pu (pr k) ((z + 4 : Nat) : Int) (x))) k (pu ((nw pr k (pu (pr k) ((z + 4 : Nat) : Int) (x))) k) (((z + 4 : Nat) : Int)) (hi)) = nw pr k (pu (pr k) ((z + 4 : Nat) : Int) (hi)) := pn_npu _ _ _ _ _ _
        rw [e9] at hP hD
        clear e9
        refine lv_iconst (v := iI (1)) hx hb d_S_raises_130 rfl ?_
        exact W.zret (v := iI (1)) hx hb hr (by decide) (fun t ht hW => ⟨⟨iI (1), (pu (pr k) ((z + 4 : Nat) : Int) hi), rfl, Or.inr ⟨rfl, hi, rfl, by omega, by omega, by rw [show hi - 1 = lo by omega]; exact q5⟩, by rw [ht]; exact hP, hD⟩, hS.F ht⟩) hS.2.2 d_S_raises_131
      · skip
        refine lv_iload hx hb d_S_raises_53 (lv_at hl 5 rfl) ?_
        refine lv_iload hx hb d_S_raises_55 (lv_at hl 4 rfl) ?_
        refine pr_isub hx hb d_S_raises_57 ?_
        refine lv_iconst (v := iI (1)) hx hb d_S_raises_58 rfl ?_
        refine pr_icmp_le (tgt := 122) hx hb (i3_of (by omega) (by omega)) (i3_of (by decide) (by decide)) d_S_raises_59 (by decide) (fun c_2 => ?_) (fun c_2 => ?_)
        · skip
          have hh : hi - lo = 1 := by first | exact pn_J_end q4 (by omega) | omega
          refine lv_aload_n hx hb d_S_raises_122 rfl (lv_at hl 1 rfl) ?_
          refine va_get (D := D) (ci := 3) (v := .ref (a (37 + 2 * k))) (C := R_T) (T := T_T) (N := 4) hx hb hts (in_T _) hown hK hP (36 + 2 * k) (cw_so k hk) rfl 0 (by decide) (ht _ m_175) (fun _ h9 => h9) rfl d_S_raises_123 ?_
          refine lv_iload_n hx hb d_S_raises_126 rfl (lv_at hl 3 rfl) ?_
          refine lv_iload hx hb d_S_raises_127 (lv_at hl 5 rfl) ?_
          refine pr_iast (ws' := cw a cI cL cD cS nf ns da be ui ul cn ss mf sd (nw (nw pr k (pu (pr k) ((z + 4 : Nat) : Int) (x))) k (pu ((nw pr k (pu (pr k) ((z + 4 : Nat) : Int) (x))) k) (((z + 4 : Nat) : Int)) (hi)))) hx hb hK hP hD hS (37 + 2 * k) 0 (cw_sp k hk) rfl (by decide) (by omega) (by omega) (cw_upr _ hk) d_S_raises_129 (fun H locs hP hD hS => ?_)
          have e9 : nw (nw pr k (pu (pr k) ((z + 4 : Nat) : Int) (x))) k (pu ((nw pr k (pu (pr k) ((z + 4 : Nat) : Int) (x))) k) (((z + 4 : Nat) : Int)) (hi)) = nw pr k (pu (pr k) ((z + 4 : Nat) : Int) (hi)) := pn_npu _ _ _ _ _ _
          rw [e9] at hP hD
          clear e9
          refine lv_iconst (v := iI (1)) hx hb d_S_raises_130 rfl ?_
          exact W.zret (v := iI (1)) hx hb hr (by decide) (fun t ht hW => ⟨⟨iI (1), (pu (pr k) ((z + 4 : Nat) : Int) hi), rfl, Or.inr ⟨rfl, hi, rfl, by omega, by omega, by rw [show hi - 1 = lo by omega]; exact q5⟩, by rw [ht]; exact hP, hD⟩, hS.F ht⟩) hS.2.2 d_S_raises_131
        · skip
          have j1 := pn_J_rc q4 (by omega)
          have j2 := q4.1
          refine lv_iload hx hb d_S_raises_62 (lv_at hl 4 rfl) ?_
          refine lv_iload hx hb d_S_raises_64 (lv_at hl 6 rfl) ?_
          refine lv_iload hx hb d_S_raises_66 (lv_at hl 5 rfl) ?_
          refine lv_iload hx hb d_S_raises_68 (lv_at hl 4 rfl) ?_
          refine pr_isub hx hb d_S_raises_70 ?_
          refine lv_iconst (v := iI (2)) hx hb d_S_raises_71 rfl ?_
          refine pr_idiv hx hb (i3_of (by omega) (by omega)) (i3_of (by decide) (by decide)) (by omega) d_S_raises_72 ?_
          refine pr_ire (B := (hi - lo) / 2) (Int.tdiv_eq_ediv_of_nonneg (by omega)) ?_
          refine va_mmin hx hb (hml.trans hl.1.symm) hown (ht _ m_470) (ht _ m_457) (ht _ m_46) (ht _ m_458) (Nat.le_of_ble_eq_true rfl) (Nat.le_of_ble_eq_true rfl) (Nat.le_of_ble_eq_true rfl) (Nat.le_of_ble_eq_true rfl) d_S_raises_73 ?_
          refine pr_ixe (B := min (rc) ((hi - lo) / 2)) (iI_min (i3_of (by omega) (by omega)) (i3_of (by omega) (by omega))) ?_
          refine pr_iadd hx hb d_S_raises_76 ?_
          refine pr_ire (B := (lo + min rc ((hi - lo) / 2))) rfl ?_
          refine lv_istore (lv' := [(8, .int (iI ((lo + min rc ((hi - lo) / 2))))), (0, .ref (a 27)), (1, .ref (a (36 + 2 * k))), (2, .int (iI (((z : Nat) : Int)))), (3, .int (iI (((z + 4 : Nat) : Int)))), (4, .int (iI (lo))), (5, .int (iI (hi))), (6, .int (iI (rc))), (7, .int (iI (((i : Nat) : Int))))]) hx hb d_S_raises_77 hl (by decide) rfl (fun ls hl => ?_)
          refine lv_aload_n hx hb d_S_raises_79 rfl (lv_at hl 2 rfl) ?_
          refine va_get (D := D) (ci := 3) (v := .ref (a (37 + 2 * k))) (C := R_T) (T := T_T) (N := 4) hx hb hts (in_T _) hown hK hP (36 + 2 * k) (cw_so k hk) rfl 0 (by decide) (ht _ m_175) (fun _ h9 => h9) rfl d_S_raises_80 ?_
          refine lv_iload_n hx hb d_S_raises_83 rfl (lv_at hl 4 rfl) ?_
          refine lv_iload hx hb d_S_raises_84 (lv_at hl 0 rfl) ?_
          refine pr_iast (ws' := cw a cI cL cD cS nf ns da be ui ul cn ss mf sd (nw (nw pr k (pu (pr k) ((z + 4 : Nat) : Int) (x))) k (pu ((nw pr k (pu (pr k) ((z + 4 : Nat) : Int) (x))) k) (((z + 4 : Nat) : Int)) ((lo + min rc ((hi - lo) / 2)))))) hx hb hK hP hD hS (37 + 2 * k) 0 (cw_sp k hk) rfl (by decide) (by omega) (by omega) (cw_upr _ hk) d_S_raises_86 (fun H locs hP hD hS => ?_)
          have e9 : nw (nw pr k (pu (pr k) ((z + 4 : Nat) : Int) (x))) k (pu ((nw pr k (pu (pr k) ((z + 4 : Nat) : Int) (x))) k) (((z + 4 : Nat) : Int)) ((lo + min rc ((hi - lo) / 2)))) = nw pr k (pu (pr k) ((z + 4 : Nat) : Int) (lo + min rc ((hi - lo) / 2))) := pn_npu _ _ _ _ _ _
          rw [e9] at hP hD
          clear e9
          have hPr2 : pn_Pr ((nw pr k (pu (pr k) ((z + 4 : Nat) : Int) (lo + min rc ((hi - lo) / 2)))) k) := by rw [nw_s]; exact pn_Pr_pu hPr (by omega) (by omega)
          refine lv_aload_n hx hb d_S_raises_87 rfl (lv_at hl 1 rfl) ?_
          refine va_get (D := D) (ci := 2) (v := .ref (a 1)) (C := R_S) (T := T_S) (N := 2) hx hb hts (in_S _) hown hK hP 27 rfl rfl 0 (by decide) (ht _ m_133) (fun _ h9 => h9) rfl d_S_raises_88 ?_
          refine lv_iload_n hx hb d_S_raises_91 rfl (lv_at hl 3 rfl) ?_
          refine lv_aload_n hx hb d_S_raises_92 rfl (lv_at hl 2 rfl) ?_
          refine pr_pi (va_runV (As := [.int (iI (((z : Nat) : Int))), .ref (a (36 + 2 * k))]) (rest := []) ⟨hx, hb, hml, hown, hts⟩ (c_N_gainOf l k z hOk hk hPr2 hss (by omega)) (cwV 2 hts (pn_gV m_448 m_449 m_450 m_34 m_451) rfl rfl rfl (by decide +kernel) ⟨Nat.le_of_ble_eq_true rfl, Nat.le_of_ble_eq_true rfl⟩) (pn_preV (q0 := 1) (ci := 1) (q := (R_N, T_N, 17)) hP hE rfl rfl) rfl rfl hl.1 rfl (lv_room (Nat.le_of_ble_eq_true rfl)) d_S_raises_93 ⟨Nat.le_of_ble_eq_true rfl, Nat.le_of_ble_eq_true rfl⟩) ?_
          refine pr_ire (B := m_gain nf da (ss k) (pu (pr k) ((z + 4 : Nat) : Int) ((lo + min rc ((hi - lo) / 2)))) ((z + 4 : Nat) : Int)) (by rw [nw_s]) ?_
          have hgb := m_gain_b (z := z) (S := ss k) (P := pu (pr k) ((z + 4 : Nat) : Int) (lo + min rc ((hi - lo) / 2))) hOk (by rw [nw_s] at hPr2; exact hPr2) hz
          refine pr_if_le (tgt := 112) hx hb (i3_of (by omega) (by omega)) d_S_raises_96 (by decide) (fun c_3 => ?_) (fun c_3 => ?_)
          · skip
            refine lv_iload hx hb d_S_raises_112 (lv_at hl 0 rfl) ?_
            refine lv_istore (lv' := [(5, .int (iI ((lo + min rc ((hi - lo) / 2))))), (8, .int (iI ((lo + min rc ((hi - lo) / 2))))), (0, .ref (a 27)), (1, .ref (a (36 + 2 * k))), (2, .int (iI (((z : Nat) : Int)))), (3, .int (iI (((z + 4 : Nat) : Int)))), (4, .int (iI (lo))), (6, .int (iI (rc))), (7, .int (iI (((i : Nat) : Int))))]) hx hb d_S_raises_114 hl (by decide) rfl (fun ls hl => ?_)
            refine lv_iinc (v := iI (((i : Nat) : Int) + 1)) (lv' := [(7, .int (iI (((i : Nat) : Int) + 1))), (5, .int (iI ((lo + min rc ((hi - lo) / 2))))), (8, .int (iI ((lo + min rc ((hi - lo) / 2))))), (0, .ref (a 27)), (1, .ref (a (36 + 2 * k))), (2, .int (iI (((z : Nat) : Int)))), (3, .int (iI (((z + 4 : Nat) : Int)))), (4, .int (iI (lo))), (6, .int (iI (rc)))]) hx hb d_S_raises_116 hl (k := 8) rfl (iI_add _ _).symm (by decide) rfl (fun ls hl => ?_)
            refine lv_goto (tgt := 46) hx hb d_S_raises_119 (by decide) ?_
            exact ih (i + 1) ((lo + min rc ((hi - lo) / 2))) (lo) ((lo + min rc ((hi - lo) / 2))) (rc) _ _ ls (by omega) (by omega) (by omega) (by omega) (by rw [show lo + min rc ((hi - lo) / 2) - lo = min rc ((hi - lo) / 2) by omega]; exact pn_J_high q4 (by omega)) q5 (by omega) hP hD hS (lv_sub hl [3, 4, 5, 6, 7, 1, 8, 0] rfl)
          · skip
            refine lv_iload hx hb d_S_raises_99 (lv_at hl 0 rfl) ?_
            refine lv_istore (lv' := [(4, .int (iI ((lo + min rc ((hi - lo) / 2))))), (8, .int (iI ((lo + min rc ((hi - lo) / 2))))), (0, .ref (a 27)), (1, .ref (a (36 + 2 * k))), (2, .int (iI (((z : Nat) : Int)))), (3, .int (iI (((z + 4 : Nat) : Int)))), (5, .int (iI (hi))), (6, .int (iI (rc))), (7, .int (iI (((i : Nat) : Int))))]) hx hb d_S_raises_101 hl (by decide) rfl (fun ls hl => ?_)
            refine lv_iload hx hb d_S_raises_103 (lv_at hl 7 rfl) ?_
            refine lv_iconst (v := iI (2)) hx hb d_S_raises_105 rfl ?_
            refine pr_imul hx hb d_S_raises_106 ?_
            refine lv_istore (lv' := [(6, .int (iI (rc * 2))), (4, .int (iI ((lo + min rc ((hi - lo) / 2))))), (8, .int (iI ((lo + min rc ((hi - lo) / 2))))), (0, .ref (a 27)), (1, .ref (a (36 + 2 * k))), (2, .int (iI (((z : Nat) : Int)))), (3, .int (iI (((z + 4 : Nat) : Int)))), (5, .int (iI (hi))), (7, .int (iI (((i : Nat) : Int))))]) hx hb d_S_raises_107 hl (by decide) rfl (fun ls hl => ?_)
            refine lv_goto (tgt := 116) hx hb d_S_raises_109 (by decide) ?_
            refine lv_iinc (v := iI (((i : Nat) : Int) + 1)) (lv' := [(7, .int (iI (((i : Nat) : Int) + 1))), (6, .int (iI (rc * 2))), (4, .int (iI ((lo + min rc ((hi - lo) / 2))))), (8, .int (iI ((lo + min rc ((hi - lo) / 2))))), (0, .ref (a 27)), (1, .ref (a (36 + 2 * k))), (2, .int (iI (((z : Nat) : Int)))), (3, .int (iI (((z + 4 : Nat) : Int)))), (5, .int (iI (hi)))]) hx hb d_S_raises_116 hl (k := 8) rfl (iI_add _ _).symm (by decide) rfl (fun ls hl => ?_)
            refine lv_goto (tgt := 46) hx hb d_S_raises_119 (by decide) ?_
            exact ih (i + 1) ((lo + min rc ((hi - lo) / 2))) ((lo + min rc ((hi - lo) / 2))) (hi) (rc * 2) _ _ ls (by omega) (by omega) (by omega) (by omega) (by rw [show hi - (lo + min rc ((hi - lo) / 2)) = hi - lo - min rc ((hi - lo) / 2) by omega]; exact pn_J_low q4 (by omega)) (by assumption) (by omega) hP hD hS (lv_sub hl [4, 5, 6, 7, 2, 8, 1, 0] rfl)
  refine lv_iload_n hx hb d_S_raises_0 rfl (lv_at hl 2 rfl) ?_
  refine pr_pi (va_runSN (As := [.int (iI (((z : Nat) : Int)))]) (rest := []) ⟨hx, hb, hml, hown, hts⟩ (c_P_rowOf l (((z : Nat) : Int))) ⟨va_cnB 1 hts (pn_g m_326) rfl rfl rfl (hE.2 _ (List.mem_of_getElem? (i := 4) rfl)) (ht _ m_33) (by decide +kernel) ⟨Nat.le_of_ble_eq_true rfl, Nat.le_of_ble_eq_true rfl⟩, ht _ m_325, trivial⟩ pn_pre0 rfl rfl hl.1 rfl (lv_room (Nat.le_of_ble_eq_true rfl)) d_S_raises_1 ⟨Nat.le_of_ble_eq_true rfl, Nat.le_of_ble_eq_true rfl⟩) ?_
  refine pr_ire (B := ((z + 4 : Nat) : Int)) (by omega) ?_
  refine lv_istore_n (lv' := [(3, .int (iI (((z + 4 : Nat) : Int)))), (0, .ref (a 27)), (1, .ref (a (36 + 2 * k))), (2, .int (iI (((z : Nat) : Int))))]) hx hb d_S_raises_4 rfl hl (by decide) rfl (fun ls hl => ?_)
  refine lv_aload_n hx hb d_S_raises_5 rfl (lv_at hl 2 rfl) ?_
  refine va_get (D := D) (ci := 3) (v := .ref (a (37 + 2 * k))) (C := R_T) (T := T_T) (N := 4) hx hb hts (in_T _) hown hK hP (36 + 2 * k) (cw_so k hk) rfl 0 (by decide) (ht _ m_175) (fun _ h9 => h9) rfl d_S_raises_6 ?_
  refine lv_iload_n hx hb d_S_raises_9 rfl (lv_at hl 0 rfl) ?_
  refine pr_iald hx hb hK hP (37 + 2 * k) 0 (cw_sp k hk) rfl (by decide) (by omega) (by omega) d_S_raises_10 ?_
  refine pr_ire (B := pr k ((z + 4 : Nat) : Int)) rfl ?_
  refine lv_istore (lv' := [(4, .int (iI (pr k ((z + 4 : Nat) : Int)))), (3, .int (iI (((z + 4 : Nat) : Int)))), (0, .ref (a 27)), (1, .ref (a (36 + 2 * k))), (2, .int (iI (((z : Nat) : Int))))]) hx hb d_S_raises_11 hl (by decide) rfl (fun ls hl => ?_)
  refine lv_iload hx hb d_S_raises_13 (lv_at hl 0 rfl) ?_
  refine lv_sipush (v := iI (5000)) hx hb d_S_raises_15 (by decide) ?_
  refine pr_icmp_gt (tgt := 33) hx hb (i3_of (by omega) (by omega)) (i3_of (by decide) (by decide)) d_S_raises_18 (by decide) (fun c_4 => ?_) (fun c_4 => ?_)
  · skip
    refine lv_iconst (v := iI (0)) hx hb d_S_raises_33 rfl ?_
    have hP : va_P D pn_cl (cw a cI cL cD cS nf ns da be ui ul cn ss mf sd (nw pr k (pr k))) s.heap := by rw [nw_self]; exact hP
    have hD : va_D A (cw a cI cL cD cS nf ns da be ui ul cn ss mf sd (nw pr k (pr k))) := by rw [nw_self]; exact hD
    exact W.zret (v := iI (0)) hx hb hr (by decide) (fun t ht hW => ⟨⟨iI (0), pr k, rfl, Or.inl ⟨rfl, rfl, by omega⟩, by rw [ht]; exact hP, hD⟩, hS.F ht⟩) hS.2.2 d_S_raises_34
  · skip
    refine lv_aload_n hx hb d_S_raises_21 rfl (lv_at hl 2 rfl) ?_
    refine va_get (D := D) (ci := 2) (v := .ref (a 1)) (C := R_S) (T := T_S) (N := 2) hx hb hts (in_S _) hown hK hP 27 rfl rfl 0 (by decide) (ht _ m_133) (fun _ h9 => h9) rfl d_S_raises_22 ?_
    refine lv_iload_n hx hb d_S_raises_25 rfl (lv_at hl 4 rfl) ?_
    refine lv_aload_n hx hb d_S_raises_26 rfl (lv_at hl 3 rfl) ?_
    refine pr_pi (va_runV (As := [.int (iI (((z : Nat) : Int))), .ref (a (36 + 2 * k))]) (rest := []) ⟨hx, hb, hml, hown, hts⟩ (c_N_gainOf l k z hOk hk hPr hss (by omega)) (cwV 2 hts (pn_gV m_448 m_449 m_450 m_34 m_451) rfl rfl rfl (by decide +kernel) ⟨Nat.le_of_ble_eq_true rfl, Nat.le_of_ble_eq_true rfl⟩) (pn_preV (q0 := 1) (ci := 1) (q := (R_N, T_N, 17)) hP hE rfl rfl) rfl rfl hl.1 rfl (lv_room (Nat.le_of_ble_eq_true rfl)) d_S_raises_27 ⟨Nat.le_of_ble_eq_true rfl, Nat.le_of_ble_eq_true rfl⟩) ?_
    have hgb := m_gain_b (z := z) (S := ss k) hOk hPr hz
    refine pr_ire (B := m_gain nf da (ss k) (pr k) ((z + 4 : Nat) : Int)) rfl ?_
    refine pr_if_gt (tgt := 35) hx hb (i3_of (by omega) (by omega)) d_S_raises_30 (by decide) (fun c_5 => ?_) (fun c_5 => ?_)
    · skip
      refine lv_sipush (v := iI (5001)) hx hb d_S_raises_35 (by decide) ?_
      refine lv_istore (lv' := [(5, .int (iI (5001))), (4, .int (iI (pr k ((z + 4 : Nat) : Int)))), (3, .int (iI (((z + 4 : Nat) : Int)))), (0, .ref (a 27)), (1, .ref (a (36 + 2 * k))), (2, .int (iI (((z : Nat) : Int))))]) hx hb d_S_raises_38 hl (by decide) rfl (fun ls hl => ?_)
      refine lv_iconst (v := iI (1)) hx hb d_S_raises_40 rfl ?_
      refine lv_istore (lv' := [(6, .int (iI (1))), (5, .int (iI (5001))), (4, .int (iI (pr k ((z + 4 : Nat) : Int)))), (3, .int (iI (((z + 4 : Nat) : Int)))), (0, .ref (a 27)), (1, .ref (a (36 + 2 * k))), (2, .int (iI (((z : Nat) : Int))))]) hx hb d_S_raises_41 hl (by decide) rfl (fun ls hl => ?_)
      refine lv_iconst (v := iI (0)) hx hb d_S_raises_43 rfl ?_
      refine lv_istore (lv' := [(7, .int (iI (0))), (6, .int (iI (1))), (5, .int (iI (5001))), (4, .int (iI (pr k ((z + 4 : Nat) : Int)))), (3, .int (iI (((z + 4 : Nat) : Int)))), (0, .ref (a 27)), (1, .ref (a (36 + 2 * k))), (2, .int (iI (((z : Nat) : Int))))]) hx hb d_S_raises_44 hl (by decide) rfl (fun ls hl => ?_)
      have hP : va_P D pn_cl (cw a cI cL cD cS nf ns da be ui ul cn ss mf sd (nw pr k (pu (pr k) ((z + 4 : Nat) : Int) (pr k ((z + 4 : Nat) : Int))))) s.heap := by rw [pu_self, nw_self]; exact hP
      have hD : va_D A (cw a cI cL cD cS nf ns da be ui ul cn ss mf sd (nw pr k (pu (pr k) ((z + 4 : Nat) : Int) (pr k ((z + 4 : Nat) : Int))))) := by rw [pu_self, nw_self]; exact hD
      exact loop _ (0) (pr k ((z + 4 : Nat) : Int)) (pr k ((z + 4 : Nat) : Int)) (5001) (1) _ _ ls (by omega) (by omega) (by omega) (by omega) (pn_J_0 (by omega) (by omega)) (by rw [pu_self]; omega) (Nat.lt_succ_self _) hP hD hS (lv_sub hl [5, 6, 7, 4, 3, 2, 1, 0] rfl)
    · skip
      refine lv_iconst (v := iI (0)) hx hb d_S_raises_33 rfl ?_
      have hP : va_P D pn_cl (cw a cI cL cD cS nf ns da be ui ul cn ss mf sd (nw pr k (pr k))) s.heap := by rw [nw_self]; exact hP
      have hD : va_D A (cw a cI cL cD cS nf ns da be ui ul cn ss mf sd (nw pr k (pr k))) := by rw [nw_self]; exact hD
      exact W.zret (v := iI (0)) hx hb hr (by decide) (fun t ht hW => ⟨⟨iI (0), pr k, rfl, Or.inl ⟨rfl, rfl, by omega⟩, by rw [ht]; exact hP, hD⟩, hS.F ht⟩) hS.2.2 d_S_raises_34
