/-! the reference's steps and worst -/
abbrev w_M_steps : List Cond := .code y_M_steps b_M_steps 3 (some .int) :: pn_W
set_option maxHeartbeats 4000000 in
set_option maxRecDepth 100000 in
theorem c_M_steps (l : Launch) {D : va_G} {b : Nat → Nat} {cI cL cZ : ClassId} {mi ml : Nat → Int → Int} {mz : Int → Int} {ms : Nat → Int} (sz : Nat) (nf : Nat → Int → Int) (ns : Nat → Int) (da : Int → Int → Int) (S : Nat) (x : Int) (hOk : pn_Ok nf ns da) (hR : mn_R nf ns mi ms) (hN : mn_Ok ms) (hSb : S < 2 ^ 20) (hSm : pn_Sm nf ns da) (hM : pn_Mono (ns 0) (m_G nf da S)) (hSo : S < 2 ^ (ns 1).toNat) (hz : ∀ t : Nat, t < 20 → mz (t : Int) = b2 (S.testBit t = true)) (hW : pn_Rw nf ns) (hV : s_V nf (ns 0)) (so hq : Int → Int) (hso : ∀ z, 0 ≤ z → z < 8 → mi 3 z = so (z + 4)) (hsb : ∀ j, 0 ≤ j → j < 12 → 0 ≤ so j ∧ so j ≤ 1000000) (hs0 : ∀ j, 4 + ns 0 ≤ j → j < 12 → so j = 0) (hB : s_B hq) (hag : s_ag (mH ml) hq) (gx : i3 x) : Met l y_M_steps w_M_steps ({ frames := 7, cells := 0, slots := 0, locals := 161 }) (va_Pc [.ref (b 0), .int (iI (x))] (fun U => U.heap.size = sz ∧ va_P D pn_cl (mw b cI cL cZ mi ml mz ms) U.heap ∧ va_D (fun _ => True) (mw b cI cL cZ mi ml mz ms) ∧ mn_E D cI cL cZ U)) (va_Qi (fun (r : Int32) (u : (Nat → Int → Int) × (Nat → Int → Int) × (Int → Int) × (Nat → Int)) => (¬ (1 ≤ x ∧ x ≤ 200) ∧ r = iI 0 ∧ u = (mi, ml, mz, nw ms 0 (1))) ∨ ((1 ≤ x ∧ x ≤ 200) ∧ ∃ (f : Int → Int) (bo : Int) (mlx : Nat → Int → Int), m_s5 f ∧ pn_Le (ns 0) (nf 0) (m_G nf da S) bo (mP (nw mi 14 f)) ∧ u = (nw mi 14 f, mlx, mz, nw (nw ms 0 (0)) 6 (((S : Nat) : Int))) ∧ ((bo = 0 ∧ mlx = ml ∧ r = iI 0) ∨ (bo = 1 ∧ s_ag (mH mlx) (s_it (s_nx nf (m_F nf ns S (mP (nw mi 14 f))) so) (s_ok nf (m_F nf ns S (mP (nw mi 14 f))) so) x.toNat hq).2 ∧ r = iI (((s_it (s_nx nf (m_F nf ns S (mP (nw mi 14 f))) so) (s_ok nf (m_F nf ns S (mP (nw mi 14 f))) so) x.toNat hq).1 : Nat) : Int))))) (fun u t => va_P D pn_cl ((fun u : (Nat → Int → Int) × (Nat → Int → Int) × (Int → Int) × (Nat → Int) => mw b cI cL cZ u.1 u.2.1 u.2.2.1 u.2.2.2) u) t.heap ∧ va_D (va_A (mw b cI cL cZ mi ml mz ms) sz) ((fun u : (Nat → Int → Int) × (Nat → Int → Int) × (Int → Int) × (Nat → Int) => mw b cI cL cZ u.1 u.2.1 u.2.2.1 u.2.2.2) u)) (va_A (mw b cI cL cZ mi ml mz ms) sz)) 0 0 (va_A (mw b cI cL cZ mi ml mz ms) sz) := by
  refine Met.ofW (cc := b_M_steps) (maxL := 3) (ret := (some .int)) (by decide) rfl ?_
  intro p e s m args below meth c s₁ B hml hv
  obtain ⟨rfl, hsz, hP, hD0, hE⟩ := hv
  have hx := B.exec
  have hb := B.bytes
  have hr := B.returns
  have hts := atoms_spec (ws := w_M_steps) B.pre
  have ht : ∀ w ∈ pn_W, w.before _ s = true := fun w h => hts w (List.mem_cons_of_mem _ h)
  have hown : s.vm.findClass R_M = some m.cls := findClass_of_methodNamed B.named
  have hlocks := B.notSynchronized
  have hK := hE
  subst hsz
  have hD := hD0.self (sz := s.heap.size)
  generalize hAe : va_A (mw b cI cL cZ mi ml mz ms) s.heap.size = A at hD ⊢
  have hA : ∀ q : Nat, s.heap.size ≤ q → A q := fun q h => by rw [← hAe]; exact Or.inr h
  have hS : va_S A s.heap s.heap [] := va_S.rf
  have hl := lv_entry ([.ref (b 0), .int (iI (x))]) (n := 3) (Nat.le_of_ble_eq_true rfl)
  rw [lg_entry_eq]
  generalize (lg_sl ([.ref (b 0), .int (iI (x))]) ++ List.replicate (3 - (lg_sl ([.ref (b 0), .int (iI (x))])).length) Slot.unset).toArray = ls at hl ⊢
  have hl : lv_has ls 3 [(0, .ref (b 0)), (1, .int (iI (x)))] := hl
  obtain ⟨o_zc, o_lc, o_fc, o_ve, o_wi, o_wa, o_vo, o_fr, o_to, o_he, o_ar, o_ki, o_st, o_ff, o_sl, o_dc, o_da⟩ := id hOk
  obtain ⟨r_zo, r_le, r_fa, r_wi, r_ai, r_wa, r_vo, r_lk, r_fn⟩ := id hR
  obtain ⟨n_zo, n_le, n_fa, n_ca⟩ := id hN
  obtain ⟨gx1, gx2⟩ := gx
  refine lv_aload_n hx hb d_M_steps_0 rfl (lv_at hl 0 rfl) ?_
  refine lv_iload_n hx hb d_M_steps_1 rfl (lv_at hl 1 rfl) ?_
  refine pr_i2l hx hb (i3_of (by omega) (by omega)) d_M_steps_2 ?_
  refine lv_lconst (v := lI 1) hx hb d_M_steps_3 (by decide) ?_
  refine lv_ldc2 (v := lI (200)) hx hb hown (ht (.constantLong _ 182 (lI (200))) m_809) d_M_steps_4 ?_
  refine pr_pi (va_runS (As := [.long (lI (x)), .long (lI (1)), .long (lI (200))]) (rest := [.ref (b 0)]) ⟨hx, hb, hml, hown, hts⟩ (c_M_in l (x) (1) (200) (i6_of (by omega) (by omega)) (i6_of (by decide) (by decide)) (i6_of (by decide) (by decide))) (cwS 3 hts (pn_gS m_683 m_684 m_38 m_685) rfl rfl rfl (by decide +kernel) ⟨Nat.le_of_ble_eq_true rfl, Nat.le_of_ble_eq_true rfl⟩) pn_pre0 rfl rfl hl.1 rfl (lv_room (Nat.le_of_ble_eq_true rfl)) d_M_steps_7 ⟨Nat.le_of_ble_eq_true rfl, Nat.le_of_ble_eq_true rfl⟩) ?_
  refine pr_if_eq (tgt := 17) hx hb (i3_b2 _) d_M_steps_10 (by decide) (fun c_1 => ?_) (fun c_1 => ?_)
  · replace c_1 := b2_0 c_1
    refine lv_iconst (v := iI (1)) hx hb d_M_steps_17 rfl ?_
    refine va_put (D := D) (ci := 5) (v := .int (iI (1))) (ty := .int) (C := R_M) (T := T_M) (N := 27) hx hb hts (in_M _) ty_M ty_M_ok nm_M hown hK hP hD hS 0 rfl rfl 0 (by decide) (ht _ m_590) (fun _ h9 => h9) rfl (by decide +kernel) rfl rfl (Nat.le_of_ble_eq_true rfl) d_M_steps_18 (fun H locs hP hD hS => ?_)
    have hP : va_P D pn_cl (mw b cI cL cZ mi ml mz (nw ms 0 (1))) H := hP
    have hD : va_D A (mw b cI cL cZ mi ml mz (nw ms 0 (1))) := hD
    refine lv_aload_n hx hb d_M_steps_21 rfl (lv_at hl 0 rfl) ?_
    refine va_get (D := D) (ci := 5) (v := .int (iI ((1)))) (C := R_M) (T := T_M) (N := 27) hx hb hts (in_M _) hown hK hP 0 rfl rfl 0 (by decide) (ht _ m_590) (fun _ h9 => h9) rfl d_M_steps_22 ?_
    refine pr_ire (B := 1) rfl ?_
    refine pr_if_gt (tgt := 35) hx hb (i3_of (by decide) (by decide)) d_M_steps_25 (by decide) (fun c_2 => ?_) (fun c_2 => ?_)
    · skip
      refine lv_iconst (v := iI (0)) hx hb d_M_steps_35 rfl ?_
      exact W.iret (v := iI (0)) hx hb hr (fun t9 ht9 hW9 => ⟨⟨iI (0), (mi, ml, mz, nw ms 0 (1)), rfl, Or.inl (⟨by omega, rfl, rfl⟩), by rw [ht9]; exact hP, hD⟩, hS.F ht9⟩) hS.2.2 d_M_steps_36
    · skip
      exact absurd c_2 (by decide)
  · replace c_1 := b2_n1 c_1
    refine lv_iconst (v := iI (0)) hx hb d_M_steps_13 rfl ?_
    refine lv_goto (tgt := 18) hx hb d_M_steps_14 (by decide) ?_
    refine va_put (D := D) (ci := 5) (v := .int (iI (0))) (ty := .int) (C := R_M) (T := T_M) (N := 27) hx hb hts (in_M _) ty_M ty_M_ok nm_M hown hK hP hD hS 0 rfl rfl 0 (by decide) (ht _ m_590) (fun _ h9 => h9) rfl (by decide +kernel) rfl rfl (Nat.le_of_ble_eq_true rfl) d_M_steps_18 (fun H locs hP hD hS => ?_)
    have hP : va_P D pn_cl (mw b cI cL cZ mi ml mz (nw ms 0 (0))) H := hP
    have hD : va_D A (mw b cI cL cZ mi ml mz (nw ms 0 (0))) := hD
    refine lv_aload_n hx hb d_M_steps_21 rfl (lv_at hl 0 rfl) ?_
    refine va_get (D := D) (ci := 5) (v := .int (iI ((0)))) (C := R_M) (T := T_M) (N := 27) hx hb hts (in_M _) hown hK hP 0 rfl rfl 0 (by decide) (ht _ m_590) (fun _ h9 => h9) rfl d_M_steps_22 ?_
    refine pr_ire (B := 0) rfl ?_
    refine pr_if_gt (tgt := 35) hx hb (i3_of (by decide) (by decide)) d_M_steps_25 (by decide) (fun c_3 => ?_) (fun c_3 => ?_)
    · skip
      exact absurd c_3 (by decide)
    · skip
      refine lv_aload_n hx hb d_M_steps_28 rfl (lv_at hl 0 rfl) ?_
      refine pr_ci (va_runV (As := []) (rest := []) ⟨hx, hb, hml, hown, hts⟩ (c_M_makeNow l (mi := mi) (ms := nw ms 0 (0)) H.size nf ns da S hOk hR hSb hSm hM hSo hz) (cwV 0 hts (pn_gV m_727 m_729 m_19 m_38 m_730) rfl rfl rfl (by decide +kernel) ⟨Nat.le_of_ble_eq_true rfl, Nat.le_of_ble_eq_true rfl⟩) (mn_preW (q0 := 0) (ci := 5) (q := (R_M, T_M, 27)) hP hD hE rfl rfl) rfl rfl hl.1 rfl (lv_room (Nat.le_of_ble_eq_true rfl)) d_M_steps_29 ⟨Nat.le_of_ble_eq_true rfl, Nat.le_of_ble_eq_true rfl⟩) hD hS hA (fun r u H locs hw hP hD hS => ?_)
      obtain ⟨f, bo⟩ := u
      obtain ⟨rfl, hf5, hLe⟩ := hw
      try dsimp only at hP hD hf5 hLe
      have hP : va_P D pn_cl (mw b cI cL cZ (nw mi 14 f) ml mz (nw (nw ms 0 (0)) 6 (((S : Nat) : Int)))) H := hP
      have hD : va_D A (mw b cI cL cZ (nw mi 14 f) ml mz (nw (nw ms 0 (0)) 6 (((S : Nat) : Int)))) := hD
      have hbo := pn_Le_01 hLe
      refine pr_if_ne (tgt := 37) hx hb (i3_of (by omega) (by omega)) d_M_steps_32 (by decide) (fun c_4 => ?_) (fun c_4 => ?_)
      · skip
        refine lv_iconst (v := iI (0)) hx hb d_M_steps_37 rfl ?_
        refine lv_istore_n (lv' := [(2, .int (iI (0))), (0, .ref (b 0)), (1, .int (iI (x)))]) hx hb d_M_steps_38 rfl hl (by decide) rfl (fun ls hl => ?_)
        have hRr : s_R nf (m_F nf ns S (mP (nw mi 14 f))) (ns 0) := m_F_R hOk hW
        have hGv : ∀ d, 0 ≤ d → d < 24 → 0 ≤ m_gv nf (m_F nf ns S (mP (nw mi 14 f))) d ∧ m_gv nf (m_F nf ns S (mP (nw mi 14 f))) d < 12 := fun d a9 b9 => (m_gv_b (m_F nf ns S (mP (nw mi 14 f))) hOk a9 b9).1
        have loop : ∀ (n : Nat) (dn : Nat) (hc : Int → Int) (mlx : Nat → Int → Int) (H : Heap) (locs : List Loc) (ls : Array Slot), (dn ≤ x.toNat) → (s_B hc) → (s_ag (mH mlx) hc) → ((s_it (s_nx nf (m_F nf ns S (mP (nw mi 14 f))) so) (s_ok nf (m_F nf ns S (mP (nw mi 14 f))) so) x.toNat hq).1 = dn + (s_it (s_nx nf (m_F nf ns S (mP (nw mi 14 f))) so) (s_ok nf (m_F nf ns S (mP (nw mi 14 f))) so) (x.toNat - dn) hc).1) → ((s_it (s_nx nf (m_F nf ns S (mP (nw mi 14 f))) so) (s_ok nf (m_F nf ns S (mP (nw mi 14 f))) so) x.toNat hq).2 = (s_it (s_nx nf (m_F nf ns S (mP (nw mi 14 f))) so) (s_ok nf (m_F nf ns S (mP (nw mi 14 f))) so) (x.toNat - dn) hc).2) → (x.toNat - dn) < n → va_P D pn_cl (mw b cI cL cZ (nw mi 14 f) mlx mz (nw (nw ms 0 (0)) 6 (((S : Nat) : Int)))) H → va_D A (mw b cI cL cZ (nw mi 14 f) mlx mz (nw (nw ms 0 (0)) 6 (((S : Nat) : Int)))) → va_S A s.heap H locs → lv_has ls 3 [(0, .ref (b 0)), (1, .int (iI (x))), (2, .int (iI (((dn : Nat) : Int))))] → W p l e (headSpec w_M_steps ({ frames := 7, cells := 0, slots := 0, locals := 161 })).room s m ([.ref (b 0), .int (iI (x))] : List Value).toArray below meth c H locs 0 0 (MQ below (va_Qi (fun (r : Int32) (u : (Nat → Int → Int) × (Nat → Int → Int) × (Int → Int) × (Nat → Int)) => (¬ (1 ≤ x ∧ x ≤ 200) ∧ r = iI 0 ∧ u = (mi, ml, mz, nw ms 0 (1))) ∨ ((1 ≤ x ∧ x ≤ 200) ∧ ∃ (f : Int → Int) (bo : Int) (mlx : Nat → Int → Int), m_s5 f ∧ pn_Le (ns 0) (nf 0) (m_G nf da S) bo (mP (nw mi 14 f)) ∧ u = (nw mi 14 f, mlx, mz, nw (nw ms 0 (0)) 6 (((S : Nat) : Int))) ∧ ((bo = 0 ∧ mlx = ml ∧ r = iI 0) ∨ (bo = 1 ∧ s_ag (mH mlx) (s_it (s_nx nf (m_F nf ns S (mP (nw mi 14 f))) so) (s_ok nf (m_F nf ns S (mP (nw mi 14 f))) so) x.toNat hq).2 ∧ r = iI (((s_it (s_nx nf (m_F nf ns S (mP (nw mi 14 f))) so) (s_ok nf (m_F nf ns S (mP (nw mi 14 f))) so) x.toNat hq).1 : Nat) : Int))))) (fun u t => va_P D pn_cl ((fun u : (Nat → Int → Int) × (Nat → Int → Int) × (Int → Int) × (Nat → Int) => mw b cI cL cZ u.1 u.2.1 u.2.2.1 u.2.2.2) u) t.heap ∧ va_D A ((fun u : (Nat → Int → Int) × (Nat → Int → Int) × (Int → Int) × (Nat → Int) => mw b cI cL cZ u.1 u.2.1 u.2.2.1 u.2.2.2) u)) A) ([.ref (b 0), .int (iI (x))] : List Value).toArray s 0 0 A) (F0 m 39 ls []) := by
          intro n
          induction n with
          | zero => intro dn hc mlx H locs ls _ _ _ _ _ hm; exact absurd hm (Nat.not_lt_zero _)
          | succ n ih =>
            intro dn hc mlx H locs ls p1 hBc hagc hi1 hi2 hm hP hD hS hl
            refine lv_iload_n hx hb d_M_steps_39 rfl (lv_at hl 2 rfl) ?_
            refine lv_iload_n hx hb d_M_steps_40 rfl (lv_at hl 1 rfl) ?_
            refine pr_icmp_ge (tgt := 57) hx hb (i3_of (by omega) (by omega)) (i3_of (by omega) (by omega)) d_M_steps_41 (by decide) (fun c_5 => ?_) (fun c_5 => ?_)
            · skip
              refine lv_iload_n hx hb d_M_steps_57 rfl (lv_at hl 2 rfl) ?_
              exact W.iret (v := iI (((dn : Nat) : Int))) hx hb hr (fun t9 ht9 hW9 => ⟨⟨iI (((dn : Nat) : Int)), (nw mi 14 f, mlx, mz, nw (nw ms 0 (0)) 6 (((S : Nat) : Int))), rfl, Or.inr (⟨by omega, f, bo, mlx, hf5, hLe, rfl, Or.inr ⟨by omega, by rw [hi2, show x.toNat - dn = 0 by omega, s_it_0]; exact hagc, by rw [hi1, show x.toNat - dn = 0 by omega, s_it_0]; rfl⟩⟩), by rw [ht9]; exact hP, hD⟩, hS.F ht9⟩) hS.2.2 d_M_steps_58
            · skip
              refine lv_aload_n hx hb d_M_steps_44 rfl (lv_at hl 0 rfl) ?_
              refine pr_ci (va_runV (As := []) (rest := []) ⟨hx, hb, hml, hown, hts⟩ (c_M_step l (mi := nw mi 14 f) (ml := mlx) (ms := nw (nw ms 0 (0)) 6 (((S : Nat) : Int))) H.size nf ns da S hOk hR rfl hSb (mP_pr hOk hR hf5) hW hV so hc hso hsb hs0 hBc hagc) (cwV 0 hts (pn_gV m_810 m_812 m_29 m_38 m_813) rfl rfl rfl (by decide +kernel) ⟨Nat.le_of_ble_eq_true rfl, Nat.le_of_ble_eq_true rfl⟩) (mn_preW (q0 := 0) (ci := 5) (q := (R_M, T_M, 27)) hP hD hE rfl rfl) rfl rfl hl.1 rfl (lv_room (Nat.le_of_ble_eq_true rfl)) d_M_steps_45 ⟨Nat.le_of_ble_eq_true rfl, Nat.le_of_ble_eq_true rfl⟩) hD hS hA (fun r mly H locs hw hP hD hS => ?_)
              try dsimp only at hP hD hw
              have hP : va_P D pn_cl (mw b cI cL cZ (nw mi 14 f) mly mz (nw (nw ms 0 (0)) 6 (((S : Nat) : Int)))) H := hP
              have hD : va_D A (mw b cI cL cZ (nw mi 14 f) mly mz (nw (nw ms 0 (0)) 6 (((S : Nat) : Int)))) := hD
              rcases hw with ⟨rfl, hok, hnx⟩ | ⟨rfl, hno, hm0, hm1⟩
              · skip
                refine pr_if_eq (tgt := 57) hx hb (i3_of (by decide) (by decide)) d_M_steps_48 (by decide) (fun c_6 => ?_) (fun c_6 => ?_)
                · skip
                  exact absurd c_6 (by decide)
                · skip
                  refine lv_iinc (v := iI (((dn : Nat) : Int) + 1)) (lv' := [(2, .int (iI (((dn : Nat) : Int) + 1))), (0, .ref (b 0)), (1, .int (iI (x)))]) hx hb d_M_steps_51 hl (k := 2) rfl (iI_add _ _).symm (by decide) rfl (fun ls hl => ?_)
                  refine lv_goto (tgt := 39) hx hb d_M_steps_54 (by decide) ?_
                  exact ih (dn + 1) ((s_nx nf (m_F nf ns S (mP (nw mi 14 f))) so) hc) (mly) _ _ ls (by omega) (s_nx_B o_zc.2 hRr hV hGv hBc (fun j a9 b9 => (hsb j a9 b9).1) hok) hnx (by rw [hi1, show x.toNat - dn = (x.toNat - (dn + 1)) + 1 by omega, s_it_t hok]; show dn + ((s_it _ _ _ _).1 + 1) = _; omega) (by rw [hi2, show x.toNat - dn = (x.toNat - (dn + 1)) + 1 by omega, s_it_t hok]) (by omega) hP hD hS (lv_sub hl [1, 2, 0] rfl)
              · skip
                refine pr_if_eq (tgt := 57) hx hb (i3_of (by decide) (by decide)) d_M_steps_48 (by decide) (fun c_7 => ?_) (fun c_7 => ?_)
                · skip
                  refine lv_iload_n hx hb d_M_steps_57 rfl (lv_at hl 2 rfl) ?_
                  exact W.iret (v := iI (((dn : Nat) : Int))) hx hb hr (fun t9 ht9 hW9 => ⟨⟨iI (((dn : Nat) : Int)), (nw mi 14 f, mly, mz, nw (nw ms 0 (0)) 6 (((S : Nat) : Int))), rfl, Or.inr (⟨by omega, f, bo, mly, hf5, hLe, rfl, Or.inr ⟨by omega, by rw [hi2, s_it_f hno]; show s_ag (mH mly) hc; unfold mH; rw [hm0, hm1]; exact hagc, by rw [hi1, s_it_f hno]; rfl⟩⟩), by rw [ht9]; exact hP, hD⟩, hS.F ht9⟩) hS.2.2 d_M_steps_58
                · skip
                  exact absurd c_7 (by decide)
        have hl : lv_has ls 3 [(2, .int (iI (((0 : Nat) : Int)))), (0, .ref (b 0)), (1, .int (iI (x)))] := hl
        exact loop _ (0) (hq) (ml) _ _ ls (by omega) hB hag (by rw [Nat.sub_zero, Nat.zero_add]) (by rw [Nat.sub_zero]) (Nat.lt_succ_self _) hP hD hS (lv_sub hl [1, 2, 0] rfl)
      · skip
        refine lv_iconst (v := iI (0)) hx hb d_M_steps_35 rfl ?_
        exact W.iret (v := iI (0)) hx hb hr (fun t9 ht9 hW9 => ⟨⟨iI (0), (nw mi 14 f, ml, mz, nw (nw ms 0 (0)) 6 (((S : Nat) : Int))), rfl, Or.inr (⟨by omega, f, bo, ml, hf5, hLe, rfl, Or.inl ⟨by omega, rfl, rfl⟩⟩), by rw [ht9]; exact hP, hD⟩, hS.F ht9⟩) hS.2.2 d_M_steps_36
abbrev w_M_worst : List Cond := .code y_M_worst b_M_worst 9 (some .int) :: pn_W
set_option maxHeartbeats 4000000 in
set_option maxRecDepth 100000 in
theorem c_M_worst (l : Launch) {D : va_G} {b : Nat → Nat} {cI cL cZ : ClassId} {mi ml : Nat → Int → Int} {mz : Int → Int} {ms : Nat → Int} (sz : Nat) (nf : Nat → Int → Int) (ns : Nat → Int) (da : Int → Int → Int) (x y : Int) (hOk : pn_Ok nf ns da) (hR : mn_R nf ns mi ms) (hN : mn_Ok ms) (hSm : pn_Sm nf ns da) (hMm : ∀ S : Nat, pn_Mono (ns 0) (m_G nf da S)) (hW : pn_Rw nf ns) (T : Nat → Nat) (hT : ∀ c : Nat, (c : Int) < ms 5 → mi 13 (c : Int) = ((T c : Nat) : Int) ∧ T c < 2 ^ 20) (gx : i3 x) (gy : i3 y) : Met l y_M_worst w_M_worst ({ frames := 6, cells := 0, slots := 0, locals := 141 }) (va_Pc [.ref (b 0), .int (iI (x)), .int (iI (y))] (fun U => U.heap.size = sz ∧ va_P D pn_cl (mw b cI cL cZ mi ml mz ms) U.heap ∧ va_D (fun _ => True) (mw b cI cL cZ mi ml mz ms) ∧ mn_E D cI cL cZ U)) (va_Qi (fun (r : Int32) (u : (Nat → Int → Int) × (Nat → Int → Int) × (Int → Int) × (Nat → Int)) => (¬ ((0 ≤ x ∧ x ≤ ms 3 - 1) ∧ (0 ≤ y ∧ y ≤ 3)) ∧ r = iI 0 ∧ u = (mi, ml, mz, nw ms 0 (1))) ∨ (((0 ≤ x ∧ x ≤ ms 3 - 1) ∧ (0 ≤ y ∧ y ≤ 3)) ∧ ∃ (f : Int → Int) (q6 : Int), u = (nw mi 14 f, ml, mz, nw (nw ms 0 (0)) 6 (q6)) ∧ (((∃ c : Nat, (c : Int) < ms 5 ∧ ¬ m_has nf ns da (T c)) ∧ r = iI (-1000000)) ∨ ((∀ c : Nat, (c : Int) < ms 5 → m_has nf ns da (T c)) ∧ r = iI (m_wv (m_dr nf ns da T x) (ms 5).toNat y))))) (fun u t => va_P D pn_cl ((fun u : (Nat → Int → Int) × (Nat → Int → Int) × (Int → Int) × (Nat → Int) => mw b cI cL cZ u.1 u.2.1 u.2.2.1 u.2.2.2) u) t.heap ∧ va_D (va_A (mw b cI cL cZ mi ml mz ms) sz) ((fun u : (Nat → Int → Int) × (Nat → Int → Int) × (Int → Int) × (Nat → Int) => mw b cI cL cZ u.1 u.2.1 u.2.2.1 u.2.2.2) u)) (va_A (mw b cI cL cZ mi ml mz ms) sz)) 0 0 (va_A (mw b cI cL cZ mi ml mz ms) sz) := by
  refine Met.ofW (cc := b_M_worst) (maxL := 9) (ret := (some .int)) (by decide) rfl ?_
  intro p e s m args below meth c s₁ B hml hv
  obtain ⟨rfl, hsz, hP, hD0, hE⟩ := hv
  have hx := B.exec
  have hb := B.bytes
  have hr := B.returns
  have hts := atoms_spec (ws := w_M_worst) B.pre
  have ht : ∀ w ∈ pn_W, w.before _ s = true := fun w h => hts w (List.mem_cons_of_mem _ h)
  have hown : s.vm.findClass R_M = some m.cls := findClass_of_methodNamed B.named
  have hlocks := B.notSynchronized
  have hK := hE
  subst hsz
  have hD := hD0.self (sz := s.heap.size)
  generalize hAe : va_A (mw b cI cL cZ mi ml mz ms) s.heap.size = A at hD ⊢
  have hA : ∀ q : Nat, s.heap.size ≤ q → A q := fun q h => by rw [← hAe]; exact Or.inr h
  have hS : va_S A s.heap s.heap [] := va_S.rf
  have hl := lv_entry ([.ref (b 0), .int (iI (x)), .int (iI (y))]) (n := 9) (Nat.le_of_ble_eq_true rfl)
  rw [lg_entry_eq]
  generalize (lg_sl ([.ref (b 0), .int (iI (x)), .int (iI (y))]) ++ List.replicate (9 - (lg_sl ([.ref (b 0), .int (iI (x)), .int (iI (y))])).length) Slot.unset).toArray = ls at hl ⊢
  have hl : lv_has ls 9 [(0, .ref (b 0)), (1, .int (iI (x))), (2, .int (iI (y)))] := hl
  obtain ⟨o_zc, o_lc, o_fc, o_ve, o_wi, o_wa, o_vo, o_fr, o_to, o_he, o_ar, o_ki, o_st, o_ff, o_sl, o_dc, o_da⟩ := id hOk
  obtain ⟨r_zo, r_le, r_fa, r_wi, r_ai, r_wa, r_vo, r_lk, r_fn⟩ := id hR
  obtain ⟨n_zo, n_le, n_fa, n_ca⟩ := id hN
  obtain ⟨gx1, gx2⟩ := gx
  obtain ⟨gy1, gy2⟩ := gy
  refine lv_aload_n hx hb d_M_worst_0 rfl (lv_at hl 0 rfl) ?_
  refine lv_iload_n hx hb d_M_worst_1 rfl (lv_at hl 1 rfl) ?_
  refine pr_i2l hx hb (i3_of (by omega) (by omega)) d_M_worst_2 ?_
  refine lv_lconst (v := lI 0) hx hb d_M_worst_3 (by decide) ?_
  refine lv_aload_n hx hb d_M_worst_4 rfl (lv_at hl 0 rfl) ?_
  refine va_get (D := D) (ci := 5) (v := .int (iI (ms 3))) (C := R_M) (T := T_M) (N := 27) hx hb hts (in_M _) hown hK hP 0 rfl rfl 8 (by decide) (ht _ m_598) (fun _ h9 => h9) rfl d_M_worst_5 ?_
  refine lv_iconst (v := iI (1)) hx hb d_M_worst_8 rfl ?_
  refine pr_isub hx hb d_M_worst_9 ?_
  refine pr_i2l hx hb (i3_of (by omega) (by omega)) d_M_worst_10 ?_
  refine pr_pi (va_runS (As := [.long (lI (x)), .long (lI (0)), .long (lI ((ms 3) - (1)))]) (rest := [.ref (b 0)]) ⟨hx, hb, hml, hown, hts⟩ (c_M_in l (x) (0) ((ms 3) - (1)) (i6_of (by omega) (by omega)) (i6_of (by decide) (by decide)) (i6_of (by omega) (by omega))) (cwS 3 hts (pn_gS m_683 m_684 m_38 m_685) rfl rfl rfl (by decide +kernel) ⟨Nat.le_of_ble_eq_true rfl, Nat.le_of_ble_eq_true rfl⟩) pn_pre0 rfl rfl hl.1 rfl (lv_room (Nat.le_of_ble_eq_true rfl)) d_M_worst_11 ⟨Nat.le_of_ble_eq_true rfl, Nat.le_of_ble_eq_true rfl⟩) ?_
  refine pr_if_eq (tgt := 33) hx hb (i3_b2 _) d_M_worst_14 (by decide) (fun c_1 => ?_) (fun c_1 => ?_)
  · replace c_1 := b2_0 c_1
    refine lv_iconst (v := iI (1)) hx hb d_M_worst_33 rfl ?_
    refine va_put (D := D) (ci := 5) (v := .int (iI (1))) (ty := .int) (C := R_M) (T := T_M) (N := 27) hx hb hts (in_M _) ty_M ty_M_ok nm_M hown hK hP hD hS 0 rfl rfl 0 (by decide) (ht _ m_590) (fun _ h9 => h9) rfl (by decide +kernel) rfl rfl (Nat.le_of_ble_eq_true rfl) d_M_worst_34 (fun H locs hP hD hS => ?_)
    have hP : va_P D pn_cl (mw b cI cL cZ mi ml mz (nw ms 0 (1))) H := hP
    have hD : va_D A (mw b cI cL cZ mi ml mz (nw ms 0 (1))) := hD
    refine lv_aload_n hx hb d_M_worst_37 rfl (lv_at hl 0 rfl) ?_
    refine va_get (D := D) (ci := 5) (v := .int (iI ((1)))) (C := R_M) (T := T_M) (N := 27) hx hb hts (in_M _) hown hK hP 0 rfl rfl 0 (by decide) (ht _ m_590) (fun _ h9 => h9) rfl d_M_worst_38 ?_
    refine pr_ire (B := 1) rfl ?_
    refine pr_if_le (tgt := 46) hx hb (i3_of (by decide) (by decide)) d_M_worst_41 (by decide) (fun c_2 => ?_) (fun c_2 => ?_)
    · skip
      exact absurd c_2 (by decide)
    · skip
      refine lv_iconst (v := iI (0)) hx hb d_M_worst_44 rfl ?_
      exact W.iret (v := iI (0)) hx hb hr (fun t9 ht9 hW9 => ⟨⟨iI (0), (mi, ml, mz, nw ms 0 (1)), rfl, Or.inl (⟨by omega, rfl, rfl⟩), by rw [ht9]; exact hP, hD⟩, hS.F ht9⟩) hS.2.2 d_M_worst_45
  · replace c_1 := b2_n1 c_1
    refine lv_iload_n hx hb d_M_worst_17 rfl (lv_at hl 2 rfl) ?_
    refine pr_i2l hx hb (i3_of (by omega) (by omega)) d_M_worst_18 ?_
    refine lv_lconst (v := lI 0) hx hb d_M_worst_19 (by decide) ?_
    refine lv_ldc2 (v := lI (3)) hx hb hown (ht (.constantLong _ 166 (lI (3))) m_793) d_M_worst_20 ?_
    refine pr_pi (va_runS (As := [.long (lI (y)), .long (lI (0)), .long (lI (3))]) (rest := [.ref (b 0)]) ⟨hx, hb, hml, hown, hts⟩ (c_M_in l (y) (0) (3) (i6_of (by omega) (by omega)) (i6_of (by decide) (by decide)) (i6_of (by decide) (by decide))) (cwS 3 hts (pn_gS m_683 m_684 m_38 m_685) rfl rfl rfl (by decide +kernel) ⟨Nat.le_of_ble_eq_true rfl, Nat.le_of_ble_eq_true rfl⟩) pn_pre0 rfl rfl hl.1 rfl (lv_room (Nat.le_of_ble_eq_true rfl)) d_M_worst_23 ⟨Nat.le_of_ble_eq_true rfl, Nat.le_of_ble_eq_true rfl⟩) ?_
    refine pr_if_eq (tgt := 33) hx hb (i3_b2 _) d_M_worst_26 (by decide) (fun c_3 => ?_) (fun c_3 => ?_)
    · replace c_3 := b2_0 c_3
      refine lv_iconst (v := iI (1)) hx hb d_M_worst_33 rfl ?_
      refine va_put (D := D) (ci := 5) (v := .int (iI (1))) (ty := .int) (C := R_M) (T := T_M) (N := 27) hx hb hts (in_M _) ty_M ty_M_ok nm_M hown hK hP hD hS 0 rfl rfl 0 (by decide) (ht _ m_590) (fun _ h9 => h9) rfl (by decide +kernel) rfl rfl (Nat.le_of_ble_eq_true rfl) d_M_worst_34 (fun H locs hP hD hS => ?_)
      have hP : va_P D pn_cl (mw b cI cL cZ mi ml mz (nw ms 0 (1))) H := hP
      have hD : va_D A (mw b cI cL cZ mi ml mz (nw ms 0 (1))) := hD
      refine lv_aload_n hx hb d_M_worst_37 rfl (lv_at hl 0 rfl) ?_
      refine va_get (D := D) (ci := 5) (v := .int (iI ((1)))) (C := R_M) (T := T_M) (N := 27) hx hb hts (in_M _) hown hK hP 0 rfl rfl 0 (by decide) (ht _ m_590) (fun _ h9 => h9) rfl d_M_worst_38 ?_
      refine pr_ire (B := 1) rfl ?_
      refine pr_if_le (tgt := 46) hx hb (i3_of (by decide) (by decide)) d_M_worst_41 (by decide) (fun c_4 => ?_) (fun c_4 => ?_)
      · skip
        exact absurd c_4 (by decide)
      · skip
        refine lv_iconst (v := iI (0)) hx hb d_M_worst_44 rfl ?_
        exact W.iret (v := iI (0)) hx hb hr (fun t9 ht9 hW9 => ⟨⟨iI (0), (mi, ml, mz, nw ms 0 (1)), rfl, Or.inl (⟨by omega, rfl, rfl⟩), by rw [ht9]; exact hP, hD⟩, hS.F ht9⟩) hS.2.2 d_M_worst_45
    · replace c_3 := b2_n1 c_3
      refine lv_iconst (v := iI (0)) hx hb d_M_worst_29 rfl ?_
      refine lv_goto (tgt := 34) hx hb d_M_worst_30 (by decide) ?_
      refine va_put (D := D) (ci := 5) (v := .int (iI (0))) (ty := .int) (C := R_M) (T := T_M) (N := 27) hx hb hts (in_M _) ty_M ty_M_ok nm_M hown hK hP hD hS 0 rfl rfl 0 (by decide) (ht _ m_590) (fun _ h9 => h9) rfl (by decide +kernel) rfl rfl (Nat.le_of_ble_eq_true rfl) d_M_worst_34 (fun H locs hP hD hS => ?_)
      have hP : va_P D pn_cl (mw b cI cL cZ mi ml mz (nw ms 0 (0))) H := hP
      have hD : va_D A (mw b cI cL cZ mi ml mz (nw ms 0 (0))) := hD
      refine lv_aload_n hx hb d_M_worst_37 rfl (lv_at hl 0 rfl) ?_
      refine va_get (D := D) (ci := 5) (v := .int (iI ((0)))) (C := R_M) (T := T_M) (N := 27) hx hb hts (in_M _) hown hK hP 0 rfl rfl 0 (by decide) (ht _ m_590) (fun _ h9 => h9) rfl d_M_worst_38 ?_
      refine pr_ire (B := 0) rfl ?_
      refine pr_if_le (tgt := 46) hx hb (i3_of (by decide) (by decide)) d_M_worst_41 (by decide) (fun c_5 => ?_) (fun c_5 => ?_)
      · skip
        refine lv_iconst (v := iI (0)) hx hb d_M_worst_46 rfl ?_
        refine lv_istore_n (lv' := [(3, .int (iI (0))), (0, .ref (b 0)), (1, .int (iI (x))), (2, .int (iI (y)))]) hx hb d_M_worst_47 rfl hl (by decide) rfl (fun ls hl => ?_)
        refine lv_iconst (v := iI (0)) hx hb d_M_worst_48 rfl ?_
        refine lv_istore (lv' := [(4, .int (iI (0))), (3, .int (iI (0))), (0, .ref (b 0)), (1, .int (iI (x))), (2, .int (iI (y)))]) hx hb d_M_worst_49 hl (by decide) rfl (fun ls hl => ?_)
        refine lv_ldc (v := iI (-1000000)) hx hb hown (ht (.constant _ 159 (iI (-1000000))) m_768) d_M_worst_51 ?_
        refine lv_istore (lv' := [(5, .int (iI (-1000000))), (4, .int (iI (0))), (3, .int (iI (0))), (0, .ref (b 0)), (1, .int (iI (x))), (2, .int (iI (y)))]) hx hb d_M_worst_53 hl (by decide) rfl (fun ls hl => ?_)
        refine lv_ldc (v := iI (-1000000)) hx hb hown (ht (.constant _ 159 (iI (-1000000))) m_768) d_M_worst_55 ?_
        refine lv_istore (lv' := [(6, .int (iI (-1000000))), (5, .int (iI (-1000000))), (4, .int (iI (0))), (3, .int (iI (0))), (0, .ref (b 0)), (1, .int (iI (x))), (2, .int (iI (y)))]) hx hb d_M_worst_57 hl (by decide) rfl (fun ls hl => ?_)
        refine lv_iconst (v := iI (0)) hx hb d_M_worst_59 rfl ?_
        refine lv_istore (lv' := [(7, .int (iI (0))), (6, .int (iI (-1000000))), (5, .int (iI (-1000000))), (4, .int (iI (0))), (3, .int (iI (0))), (0, .ref (b 0)), (1, .int (iI (x))), (2, .int (iI (y)))]) hx hb d_M_worst_60 hl (by decide) rfl (fun ls hl => ?_)
        have loop : ∀ (n : Nat) (t : Nat) (le : Int) (mo : Int) (lc : Int) (mc : Int) (f : Int → Int) (q6 : Int) (H : Heap) (locs : List Loc) (ls : Array Slot), ((t : Int) ≤ ms 5) → (∀ c : Nat, c < t → m_has nf ns da (T c)) → (∀ c : Nat, c < t → -40000 ≤ m_dr nf ns da T x c ∧ m_dr nf ns da T x c ≤ 40000) → ((t = 0 ∧ le = 0 ∧ mo = 0 ∧ lc = -1000000 ∧ mc = -1000000) ∨ (0 < t ∧ le = (m_ws false (m_dr nf ns da T x) t).2 ∧ lc = (m_ws false (m_dr nf ns da T x) t).1 ∧ mo = (m_ws true (m_dr nf ns da T x) t).2 ∧ mc = (m_ws true (m_dr nf ns da T x) t).1)) → ((ms 5).toNat - t) < n → va_P D pn_cl (mw b cI cL cZ (nw mi 14 f) ml mz (nw (nw ms 0 (0)) 6 (q6))) H → va_D A (mw b cI cL cZ (nw mi 14 f) ml mz (nw (nw ms 0 (0)) 6 (q6))) → va_S A s.heap H locs → lv_has ls 9 [(0, .ref (b 0)), (1, .int (iI (x))), (2, .int (iI (y))), (3, .int (iI (le))), (4, .int (iI (mo))), (5, .int (iI (lc))), (6, .int (iI (mc))), (7, .int (iI (((t : Nat) : Int))))] → W p l e (headSpec w_M_worst ({ frames := 6, cells := 0, slots := 0, locals := 141 })).room s m ([.ref (b 0), .int (iI (x)), .int (iI (y))] : List Value).toArray below meth c H locs 0 0 (MQ below (va_Qi (fun (r : Int32) (u : (Nat → Int → Int) × (Nat → Int → Int) × (Int → Int) × (Nat → Int)) => (¬ ((0 ≤ x ∧ x ≤ ms 3 - 1) ∧ (0 ≤ y ∧ y ≤ 3)) ∧ r = iI 0 ∧ u = (mi, ml, mz, nw ms 0 (1))) ∨ (((0 ≤ x ∧ x ≤ ms 3 - 1) ∧ (0 ≤ y ∧ y ≤ 3)) ∧ ∃ (f : Int → Int) (q6 : Int), u = (nw mi 14 f, ml, mz, nw (nw ms 0 (0)) 6 (q6)) ∧ (((∃ c : Nat, (c : Int) < ms 5 ∧ ¬ m_has nf ns da (T c)) ∧ r = iI (-1000000)) ∨ ((∀ c : Nat, (c : Int) < ms 5 → m_has nf ns da (T c)) ∧ r = iI (m_wv (m_dr nf ns da T x) (ms 5).toNat y))))) (fun u t => va_P D pn_cl ((fun u : (Nat → Int → Int) × (Nat → Int → Int) × (Int → Int) × (Nat → Int) => mw b cI cL cZ u.1 u.2.1 u.2.2.1 u.2.2.2) u) t.heap ∧ va_D A ((fun u : (Nat → Int → Int) × (Nat → Int → Int) × (Int → Int) × (Nat → Int) => mw b cI cL cZ u.1 u.2.1 u.2.2.1 u.2.2.2) u)) A) ([.ref (b 0), .int (iI (x)), .int (iI (y))] : List Value).toArray s 0 0 A) (F0 m 62 ls []) := by
          intro n
          induction n with
          | zero => intro t le mo lc mc f q6 H locs ls _ _ _ _ hm; exact absurd hm (Nat.not_lt_zero _)
          | succ n ih =>
            intro t le mo lc mc f q6 H locs ls p1 hall hdr hle hm hP hD hS hl
            have hle2 : t ≠ 0 → le = (m_ws false (m_dr nf ns da T x) t).2 ∧ lc = (m_ws false (m_dr nf ns da T x) t).1 ∧ mo = (m_ws true (m_dr nf ns da T x) t).2 ∧ mc = (m_ws true (m_dr nf ns da T x) t).1 := fun h9 => by rcases hle with ⟨h8, -⟩ | ⟨-, h8⟩; exact absurd h8 h9; exact h8
            have wsf := m_ws_b (g := false) hdr
            have wst := m_ws_b (g := true) hdr
            have leb : (-40000 ≤ le ∧ le ≤ 40000) ∧ (-40000 ≤ mo ∧ mo ≤ 40000) := by rcases hle with ⟨h1, h2, h3, h4, h5⟩ | ⟨h1, h2, h3, h4, h5⟩; omega; rcases wsf with ⟨w1, -⟩ | wsf; omega; rcases wst with ⟨w1, -⟩ | wst; omega; rw [h2, h4]; omega
            refine lv_iload hx hb d_M_worst_62 (lv_at hl 7 rfl) ?_
            refine lv_aload_n hx hb d_M_worst_64 rfl (lv_at hl 0 rfl) ?_
            refine va_get (D := D) (ci := 5) (v := .int (iI (ms 5))) (C := R_M) (T := T_M) (N := 27) hx hb hts (in_M _) hown hK hP 0 rfl rfl 20 (by decide) (ht _ m_610) (fun _ h9 => h9) rfl d_M_worst_65 ?_
            refine pr_icmp_ge (tgt := 139) hx hb (i3_of (by omega) (by omega)) (i3_of (by omega) (by omega)) d_M_worst_68 (by decide) (fun c_6 => ?_) (fun c_6 => ?_)
            · skip
              refine lv_aload_n hx hb d_M_worst_139 rfl (lv_at hl 0 rfl) ?_
              refine va_get (D := D) (ci := 5) (v := .int (iI (ms 5))) (C := R_M) (T := T_M) (N := 27) hx hb hts (in_M _) hown hK hP 0 rfl rfl 20 (by decide) (ht _ m_610) (fun _ h9 => h9) rfl d_M_worst_140 ?_
              refine pr_if_ne (tgt := 151) hx hb (i3_of (by omega) (by omega)) d_M_worst_143 (by decide) (fun c_7 => ?_) (fun c_7 => ?_)
              · skip
                refine lv_iload_n hx hb d_M_worst_151 rfl (lv_at hl 2 rfl) ?_
                refine pr_if_ne (tgt := 159) hx hb (i3_of (by omega) (by omega)) d_M_worst_152 (by decide) (fun c_8 => ?_) (fun c_8 => ?_)
                · skip
                  refine lv_iload_n hx hb d_M_worst_159 rfl (lv_at hl 2 rfl) ?_
                  refine lv_iconst (v := iI (1)) hx hb d_M_worst_160 rfl ?_
                  refine pr_icmp_ne (tgt := 169) hx hb (i3_of (by omega) (by omega)) (i3_of (by decide) (by decide)) d_M_worst_161 (by decide) (fun c_9 => ?_) (fun c_9 => ?_)
                  · skip
                    refine lv_iload_n hx hb d_M_worst_169 rfl (lv_at hl 2 rfl) ?_
                    refine lv_iconst (v := iI (2)) hx hb d_M_worst_170 rfl ?_
                    refine pr_icmp_ne (tgt := 179) hx hb (i3_of (by omega) (by omega)) (i3_of (by decide) (by decide)) d_M_worst_171 (by decide) (fun c_10 => ?_) (fun c_10 => ?_)
                    · skip
                      refine lv_iload hx hb d_M_worst_179 (lv_at hl 6 rfl) ?_
                      exact W.iret (v := iI (mc)) hx hb hr (fun t9 ht9 hW9 => ⟨⟨iI (mc), (nw mi 14 f, ml, mz, nw (nw ms 0 (0)) 6 (q6)), rfl, Or.inr (⟨by omega, f, q6, rfl, Or.inr ⟨fun c9 q9 => hall c9 (by omega), by rw [show (ms 5).toNat = t by omega]; unfold m_wv; (repeat' (first | rw [if_pos (by omega)] | rw [if_neg (by omega)])); rw [(hle2 (by omega)).2.2.2]⟩⟩), by rw [ht9]; exact hP, hD⟩, hS.F ht9⟩) hS.2.2 d_M_worst_181
                    · skip
                      refine lv_iload hx hb d_M_worst_174 (lv_at hl 5 rfl) ?_
                      refine lv_goto (tgt := 181) hx hb d_M_worst_176 (by decide) ?_
                      exact W.iret (v := iI (lc)) hx hb hr (fun t9 ht9 hW9 => ⟨⟨iI (lc), (nw mi 14 f, ml, mz, nw (nw ms 0 (0)) 6 (q6)), rfl, Or.inr (⟨by omega, f, q6, rfl, Or.inr ⟨fun c9 q9 => hall c9 (by omega), by rw [show (ms 5).toNat = t by omega]; unfold m_wv; (repeat' (first | rw [if_pos (by omega)] | rw [if_neg (by omega)])); rw [(hle2 (by omega)).2.1]⟩⟩), by rw [ht9]; exact hP, hD⟩, hS.F ht9⟩) hS.2.2 d_M_worst_181
                  · skip
                    refine lv_iload hx hb d_M_worst_164 (lv_at hl 4 rfl) ?_
                    refine lv_goto (tgt := 181) hx hb d_M_worst_166 (by decide) ?_
                    exact W.iret (v := iI (mo)) hx hb hr (fun t9 ht9 hW9 => ⟨⟨iI (mo), (nw mi 14 f, ml, mz, nw (nw ms 0 (0)) 6 (q6)), rfl, Or.inr (⟨by omega, f, q6, rfl, Or.inr ⟨fun c9 q9 => hall c9 (by omega), by rw [show (ms 5).toNat = t by omega]; unfold m_wv; (repeat' (first | rw [if_pos (by omega)] | rw [if_neg (by omega)])); rw [(hle2 (by omega)).2.2.1]⟩⟩), by rw [ht9]; exact hP, hD⟩, hS.F ht9⟩) hS.2.2 d_M_worst_181
                · skip
                  refine lv_iload_n hx hb d_M_worst_155 rfl (lv_at hl 3 rfl) ?_
                  refine lv_goto (tgt := 181) hx hb d_M_worst_156 (by decide) ?_
                  exact W.iret (v := iI (le)) hx hb hr (fun t9 ht9 hW9 => ⟨⟨iI (le), (nw mi 14 f, ml, mz, nw (nw ms 0 (0)) 6 (q6)), rfl, Or.inr (⟨by omega, f, q6, rfl, Or.inr ⟨fun c9 q9 => hall c9 (by omega), by rw [show (ms 5).toNat = t by omega]; unfold m_wv; (repeat' (first | rw [if_pos (by omega)] | rw [if_neg (by omega)])); rw [(hle2 (by omega)).1]⟩⟩), by rw [ht9]; exact hP, hD⟩, hS.F ht9⟩) hS.2.2 d_M_worst_181
              · skip
                refine lv_ldc (v := iI (-1000000)) hx hb hown (ht (.constant _ 159 (iI (-1000000))) m_768) d_M_worst_146 ?_
                refine lv_goto (tgt := 181) hx hb d_M_worst_148 (by decide) ?_
                exact W.iret (v := iI (-1000000)) hx hb hr (fun t9 ht9 hW9 => ⟨⟨iI (-1000000), (nw mi 14 f, ml, mz, nw (nw ms 0 (0)) 6 (q6)), rfl, Or.inr (⟨by omega, f, q6, rfl, Or.inr ⟨fun c9 q9 => hall c9 (by omega), by rw [show (ms 5).toNat = 0 by omega, m_wv_0]⟩⟩), by rw [ht9]; exact hP, hD⟩, hS.F ht9⟩) hS.2.2 d_M_worst_181
            · skip
              refine lv_aload_n hx hb d_M_worst_71 rfl (lv_at hl 0 rfl) ?_
              refine lv_aload_n hx hb d_M_worst_72 rfl (lv_at hl 0 rfl) ?_
              refine va_get (D := D) (ci := 5) (v := .ref (b 16)) (C := R_M) (T := T_M) (N := 27) hx hb hts (in_M _) hown hK hP 0 rfl rfl 21 (by decide) (ht _ m_611) (fun _ h9 => h9) rfl d_M_worst_73 ?_
              refine lv_iload hx hb d_M_worst_76 (lv_at hl 7 rfl) ?_
              refine pr_iald hx hb hK hP 16 0 rfl rfl (by decide) (by omega) (by omega) d_M_worst_78 ?_
              refine pr_ire (B := ((T t : Nat) : Int)) (hT t (by omega)).1 ?_
              refine pr_ci (va_runV (As := [.int (iI (((T t : Nat) : Int)))]) (rest := []) ⟨hx, hb, hml, hown, hts⟩ (c_M_make l (mi := nw mi 14 f) (ms := nw (nw ms 0 (0)) 6 (q6)) H.size nf ns da (T t) hOk hR (hT t (by omega)).2 hSm (hMm _)) (cwV 1 hts (pn_gV m_735 m_737 m_21 m_38 m_738) rfl rfl rfl (by decide +kernel) ⟨Nat.le_of_ble_eq_true rfl, Nat.le_of_ble_eq_true rfl⟩) (mn_preW (q0 := 0) (ci := 5) (q := (R_M, T_M, 27)) hP hD hE rfl rfl) rfl rfl hl.1 rfl (lv_room (Nat.le_of_ble_eq_true rfl)) d_M_worst_79 ⟨Nat.le_of_ble_eq_true rfl, Nat.le_of_ble_eq_true rfl⟩) hD hS hA (fun r u H locs hw hP hD hS => ?_)
              obtain ⟨f2, bo⟩ := u
              obtain ⟨rfl, hf5, hLe⟩ := hw
              try dsimp only at hP hD hf5 hLe
              rw [nw_nw, nw_nw] at hP hD
              rw [nw_nw] at hLe
              have hP : va_P D pn_cl (mw b cI cL cZ (nw mi 14 f2) ml mz (nw (nw ms 0 (0)) 6 (((T t : Nat) : Int)))) H := hP
              have hD : va_D A (mw b cI cL cZ (nw mi 14 f2) ml mz (nw (nw ms 0 (0)) 6 (((T t : Nat) : Int)))) := hD
              rcases hLe with ⟨rfl, hSt, hBe⟩ | ⟨rfl, hNo⟩
              · refine pr_ire (B := 1) rfl ?_
                refine pr_if_ne (tgt := 88) hx hb (i3_of (by decide) (by decide)) d_M_worst_82 (by decide) (fun c_11 => ?_) (fun c_11 => ?_)
                · skip
                  refine lv_aload_n hx hb d_M_worst_88 rfl (lv_at hl 0 rfl) ?_
                  refine lv_iload_n hx hb d_M_worst_89 rfl (lv_at hl 1 rfl) ?_
                  refine pr_pi (va_runV (As := [.int (iI (x))]) (rest := []) ⟨hx, hb, hml, hown, hts⟩ (c_M_driveOf l nf ns da (mi := nw mi 14 f2) (ms := nw (nw ms 0 (0)) 6 (((T t : Nat) : Int))) (x) hOk hR ⟨by omega, by omega⟩) (cwV 1 hts (pn_gV m_747 m_749 m_24 m_38 m_750) rfl rfl rfl (by decide +kernel) ⟨Nat.le_of_ble_eq_true rfl, Nat.le_of_ble_eq_true rfl⟩) (mn_preV (q0 := 0) (ci := 5) (q := (R_M, T_M, 27)) hP hE rfl rfl) rfl rfl hl.1 rfl (lv_room (Nat.le_of_ble_eq_true rfl)) d_M_worst_90 ⟨Nat.le_of_ble_eq_true rfl, Nat.le_of_ble_eq_true rfl⟩) ?_
                  refine pr_ire (B := m_dr nf ns da T x t) (m_drive_cg hOk hW (by omega) (by omega) (m_ls_eq hSt hBe)) ?_
                  have hdb0 := m_drive_b (j := x) hOk (mP_pr hOk hR hf5) (by omega) (by omega)
                  have hdb : -40000 ≤ m_dr nf ns da T x t ∧ m_dr nf ns da T x t ≤ 40000 := by rw [show m_dr nf ns da T x t = m_drive nf (mP (nw mi 14 f2)) x from (m_drive_cg hOk hW (by omega) (by omega) (m_ls_eq hSt hBe)).symm]; omega
                  refine lv_istore (lv' := [(8, .int (iI (m_dr nf ns da T x t))), (0, .ref (b 0)), (1, .int (iI (x))), (2, .int (iI (y))), (3, .int (iI (le))), (4, .int (iI (mo))), (5, .int (iI (lc))), (6, .int (iI (mc))), (7, .int (iI (((t : Nat) : Int))))]) hx hb d_M_worst_93 hl (by decide) rfl (fun ls hl => ?_)
                  refine lv_iload hx hb d_M_worst_95 (lv_at hl 8 rfl) ?_
                  refine pr_if_eq (tgt := 106) hx hb (i3_of (by omega) (by omega)) d_M_worst_97 (by decide) (fun c_12 => ?_) (fun c_12 => ?_)
                  · skip
                    refine lv_iload hx hb d_M_worst_106 (lv_at hl 0 rfl) ?_
                    refine lv_istore_n (lv' := [(3, .int (iI (m_dr nf ns da T x t))), (8, .int (iI (m_dr nf ns da T x t))), (0, .ref (b 0)), (1, .int (iI (x))), (2, .int (iI (y))), (4, .int (iI (mo))), (5, .int (iI (lc))), (6, .int (iI (mc))), (7, .int (iI (((t : Nat) : Int))))]) hx hb d_M_worst_108 rfl hl (by decide) rfl (fun ls hl => ?_)
                    refine lv_iload hx hb d_M_worst_109 (lv_at hl 8 rfl) ?_
                    refine lv_istore (lv' := [(5, .int (iI (((t : Nat) : Int)))), (3, .int (iI (m_dr nf ns da T x t))), (8, .int (iI (m_dr nf ns da T x t))), (0, .ref (b 0)), (1, .int (iI (x))), (2, .int (iI (y))), (4, .int (iI (mo))), (6, .int (iI (mc))), (7, .int (iI (((t : Nat) : Int))))]) hx hb d_M_worst_111 hl (by decide) rfl (fun ls hl => ?_)
                    refine lv_iload hx hb d_M_worst_113 (lv_at hl 8 rfl) ?_
                    refine pr_if_eq (tgt := 125) hx hb (i3_of (by omega) (by omega)) d_M_worst_115 (by decide) (fun c_13 => ?_) (fun c_13 => ?_)
                    · skip
                      refine lv_iload hx hb d_M_worst_125 (lv_at hl 2 rfl) ?_
                      refine lv_istore (lv' := [(4, .int (iI (m_dr nf ns da T x t))), (5, .int (iI (((t : Nat) : Int)))), (3, .int (iI (m_dr nf ns da T x t))), (8, .int (iI (m_dr nf ns da T x t))), (0, .ref (b 0)), (1, .int (iI (x))), (2, .int (iI (y))), (6, .int (iI (mc))), (7, .int (iI (((t : Nat) : Int))))]) hx hb d_M_worst_127 hl (by decide) rfl (fun ls hl => ?_)
                      refine lv_iload hx hb d_M_worst_129 (lv_at hl 8 rfl) ?_
                      refine lv_istore (lv' := [(6, .int (iI (((t : Nat) : Int)))), (4, .int (iI (m_dr nf ns da T x t))), (5, .int (iI (((t : Nat) : Int)))), (3, .int (iI (m_dr nf ns da T x t))), (8, .int (iI (m_dr nf ns da T x t))), (0, .ref (b 0)), (1, .int (iI (x))), (2, .int (iI (y))), (7, .int (iI (((t : Nat) : Int))))]) hx hb d_M_worst_131 hl (by decide) rfl (fun ls hl => ?_)
                      refine lv_iinc (v := iI (((t : Nat) : Int) + 1)) (lv' := [(7, .int (iI (((t : Nat) : Int) + 1))), (6, .int (iI (((t : Nat) : Int)))), (4, .int (iI (m_dr nf ns da T x t))), (5, .int (iI (((t : Nat) : Int)))), (3, .int (iI (m_dr nf ns da T x t))), (8, .int (iI (m_dr nf ns da T x t))), (0, .ref (b 0)), (1, .int (iI (x))), (2, .int (iI (y)))]) hx hb d_M_worst_133 hl (k := 8) rfl (iI_add _ _).symm (by decide) rfl (fun ls hl => ?_)
                      refine lv_goto (tgt := 62) hx hb d_M_worst_136 (by decide) ?_
                      exact ih (t + 1) (m_dr nf ns da T x t) (m_dr nf ns da T x t) (((t : Nat) : Int)) (((t : Nat) : Int)) (f2) (((T t : Nat) : Int)) _ _ ls (by omega) (fun c9 q9 => if e9 : c9 = t then (by rw [e9]; exact ⟨_, hSt⟩) else hall c9 (by omega)) (fun c9 q9 => if e9 : c9 = t then (by rw [e9]; exact hdb) else hdr c9 (by omega)) (Or.inr ⟨by omega, by rw [m_ws_ft (by by_cases h9 : t = 0; exact Or.inl h9; have q9 := (hle2 h9).1; exact Or.inr (by omega))], by rw [m_ws_ft (by by_cases h9 : t = 0; exact Or.inl h9; have q9 := (hle2 h9).1; exact Or.inr (by omega))], by rw [m_ws_tt (by by_cases h9 : t = 0; exact Or.inl h9; have q9 := (hle2 h9).2.2.1; exact Or.inr (by omega))], by rw [m_ws_tt (by by_cases h9 : t = 0; exact Or.inl h9; have q9 := (hle2 h9).2.2.1; exact Or.inr (by omega))]⟩) (by omega) hP hD hS (lv_sub hl [6, 7, 8, 4, 2, 3, 1, 0] rfl)
                    · skip
                      refine lv_iload hx hb d_M_worst_118 (lv_at hl 2 rfl) ?_
                      refine lv_iload hx hb d_M_worst_120 (lv_at hl 6 rfl) ?_
                      refine pr_icmp_le (tgt := 133) hx hb (i3_of (by omega) (by omega)) (i3_of (by omega) (by omega)) d_M_worst_122 (by decide) (fun c_14 => ?_) (fun c_14 => ?_)
                      · skip
                        refine lv_iinc (v := iI (((t : Nat) : Int) + 1)) (lv' := [(7, .int (iI (((t : Nat) : Int) + 1))), (5, .int (iI (((t : Nat) : Int)))), (3, .int (iI (m_dr nf ns da T x t))), (8, .int (iI (m_dr nf ns da T x t))), (0, .ref (b 0)), (1, .int (iI (x))), (2, .int (iI (y))), (4, .int (iI (mo))), (6, .int (iI (mc)))]) hx hb d_M_worst_133 hl (k := 8) rfl (iI_add _ _).symm (by decide) rfl (fun ls hl => ?_)
                        refine lv_goto (tgt := 62) hx hb d_M_worst_136 (by decide) ?_
                        exact ih (t + 1) (m_dr nf ns da T x t) (mo) (((t : Nat) : Int)) (mc) (f2) (((T t : Nat) : Int)) _ _ ls (by omega) (fun c9 q9 => if e9 : c9 = t then (by rw [e9]; exact ⟨_, hSt⟩) else hall c9 (by omega)) (fun c9 q9 => if e9 : c9 = t then (by rw [e9]; exact hdb) else hdr c9 (by omega)) (Or.inr ⟨by omega, by rw [m_ws_ft (by by_cases h9 : t = 0; exact Or.inl h9; have q9 := (hle2 h9).1; exact Or.inr (by omega))], by rw [m_ws_ft (by by_cases h9 : t = 0; exact Or.inl h9; have q9 := (hle2 h9).1; exact Or.inr (by omega))], by rw [m_ws_tf (by omega) (by have q9 := (hle2 (by omega)).2.2.1; omega)]; exact (hle2 (by omega)).2.2.1, by rw [m_ws_tf (by omega) (by have q9 := (hle2 (by omega)).2.2.1; omega)]; exact (hle2 (by omega)).2.2.2⟩) (by omega) hP hD hS (lv_sub hl [4, 5, 6, 2, 7, 1, 8, 0] rfl)
                      · skip
                        refine lv_iload hx hb d_M_worst_125 (lv_at hl 2 rfl) ?_
                        refine lv_istore (lv' := [(4, .int (iI (m_dr nf ns da T x t))), (5, .int (iI (((t : Nat) : Int)))), (3, .int (iI (m_dr nf ns da T x t))), (8, .int (iI (m_dr nf ns da T x t))), (0, .ref (b 0)), (1, .int (iI (x))), (2, .int (iI (y))), (6, .int (iI (mc))), (7, .int (iI (((t : Nat) : Int))))]) hx hb d_M_worst_127 hl (by decide) rfl (fun ls hl => ?_)
                        refine lv_iload hx hb d_M_worst_129 (lv_at hl 8 rfl) ?_
                        refine lv_istore (lv' := [(6, .int (iI (((t : Nat) : Int)))), (4, .int (iI (m_dr nf ns da T x t))), (5, .int (iI (((t : Nat) : Int)))), (3, .int (iI (m_dr nf ns da T x t))), (8, .int (iI (m_dr nf ns da T x t))), (0, .ref (b 0)), (1, .int (iI (x))), (2, .int (iI (y))), (7, .int (iI (((t : Nat) : Int))))]) hx hb d_M_worst_131 hl (by decide) rfl (fun ls hl => ?_)
                        refine lv_iinc (v := iI (((t : Nat) : Int) + 1)) (lv' := [(7, .int (iI (((t : Nat) : Int) + 1))), (6, .int (iI (((t : Nat) : Int)))), (4, .int (iI (m_dr nf ns da T x t))), (5, .int (iI (((t : Nat) : Int)))), (3, .int (iI (m_dr nf ns da T x t))), (8, .int (iI (m_dr nf ns da T x t))), (0, .ref (b 0)), (1, .int (iI (x))), (2, .int (iI (y)))]) hx hb d_M_worst_133 hl (k := 8) rfl (iI_add _ _).symm (by decide) rfl (fun ls hl => ?_)
                        refine lv_goto (tgt := 62) hx hb d_M_worst_136 (by decide) ?_
                        exact ih (t + 1) (m_dr nf ns da T x t) (m_dr nf ns da T x t) (((t : Nat) : Int)) (((t : Nat) : Int)) (f2) (((T t : Nat) : Int)) _ _ ls (by omega) (fun c9 q9 => if e9 : c9 = t then (by rw [e9]; exact ⟨_, hSt⟩) else hall c9 (by omega)) (fun c9 q9 => if e9 : c9 = t then (by rw [e9]; exact hdb) else hdr c9 (by omega)) (Or.inr ⟨by omega, by rw [m_ws_ft (by by_cases h9 : t = 0; exact Or.inl h9; have q9 := (hle2 h9).1; exact Or.inr (by omega))], by rw [m_ws_ft (by by_cases h9 : t = 0; exact Or.inl h9; have q9 := (hle2 h9).1; exact Or.inr (by omega))], by rw [m_ws_tt (by by_cases h9 : t = 0; exact Or.inl h9; have q9 := (hle2 h9).2.2.1; exact Or.inr (by omega))], by rw [m_ws_tt (by by_cases h9 : t = 0; exact Or.inl h9; have q9 := (hle2 h9).2.2.1; exact Or.inr (by omega))]⟩) (by omega) hP hD hS (lv_sub hl [6, 7, 8, 4, 2, 3, 1, 0] rfl)
                  · skip
                    refine lv_iload hx hb d_M_worst_100 (lv_at hl 0 rfl) ?_
                    refine lv_iload_n hx hb d_M_worst_102 rfl (lv_at hl 4 rfl) ?_
                    refine pr_icmp_ge (tgt := 113) hx hb (i3_of (by omega) (by omega)) (i3_of (by omega) (by omega)) d_M_worst_103 (by decide) (fun c_15 => ?_) (fun c_15 => ?_)
                    · skip
                      refine lv_iload hx hb d_M_worst_113 (lv_at hl 8 rfl) ?_
                      refine pr_if_eq (tgt := 125) hx hb (i3_of (by omega) (by omega)) d_M_worst_115 (by decide) (fun c_16 => ?_) (fun c_16 => ?_)
                      · skip
                        refine lv_iload hx hb d_M_worst_125 (lv_at hl 0 rfl) ?_
                        refine lv_istore (lv' := [(4, .int (iI (m_dr nf ns da T x t))), (8, .int (iI (m_dr nf ns da T x t))), (0, .ref (b 0)), (1, .int (iI (x))), (2, .int (iI (y))), (3, .int (iI (le))), (5, .int (iI (lc))), (6, .int (iI (mc))), (7, .int (iI (((t : Nat) : Int))))]) hx hb d_M_worst_127 hl (by decide) rfl (fun ls hl => ?_)
                        refine lv_iload hx hb d_M_worst_129 (lv_at hl 8 rfl) ?_
                        refine lv_istore (lv' := [(6, .int (iI (((t : Nat) : Int)))), (4, .int (iI (m_dr nf ns da T x t))), (8, .int (iI (m_dr nf ns da T x t))), (0, .ref (b 0)), (1, .int (iI (x))), (2, .int (iI (y))), (3, .int (iI (le))), (5, .int (iI (lc))), (7, .int (iI (((t : Nat) : Int))))]) hx hb d_M_worst_131 hl (by decide) rfl (fun ls hl => ?_)
                        refine lv_iinc (v := iI (((t : Nat) : Int) + 1)) (lv' := [(7, .int (iI (((t : Nat) : Int) + 1))), (6, .int (iI (((t : Nat) : Int)))), (4, .int (iI (m_dr nf ns da T x t))), (8, .int (iI (m_dr nf ns da T x t))), (0, .ref (b 0)), (1, .int (iI (x))), (2, .int (iI (y))), (3, .int (iI (le))), (5, .int (iI (lc)))]) hx hb d_M_worst_133 hl (k := 8) rfl (iI_add _ _).symm (by decide) rfl (fun ls hl => ?_)
                        refine lv_goto (tgt := 62) hx hb d_M_worst_136 (by decide) ?_
                        exact ih (t + 1) (le) (m_dr nf ns da T x t) (lc) (((t : Nat) : Int)) (f2) (((T t : Nat) : Int)) _ _ ls (by omega) (fun c9 q9 => if e9 : c9 = t then (by rw [e9]; exact ⟨_, hSt⟩) else hall c9 (by omega)) (fun c9 q9 => if e9 : c9 = t then (by rw [e9]; exact hdb) else hdr c9 (by omega)) (Or.inr ⟨by omega, by rw [m_ws_ff (by omega) (by have q9 := (hle2 (by omega)).1; omega)]; exact (hle2 (by omega)).1, by rw [m_ws_ff (by omega) (by have q9 := (hle2 (by omega)).1; omega)]; exact (hle2 (by omega)).2.1, by rw [m_ws_tt (by by_cases h9 : t = 0; exact Or.inl h9; have q9 := (hle2 h9).2.2.1; exact Or.inr (by omega))], by rw [m_ws_tt (by by_cases h9 : t = 0; exact Or.inl h9; have q9 := (hle2 h9).2.2.1; exact Or.inr (by omega))]⟩) (by omega) hP hD hS (lv_sub hl [4, 5, 6, 7, 2, 8, 1, 0] rfl)
                      · skip
                        refine lv_iload hx hb d_M_worst_118 (lv_at hl 0 rfl) ?_
                        refine lv_iload hx hb d_M_worst_120 (lv_at hl 5 rfl) ?_
                        refine pr_icmp_le (tgt := 133) hx hb (i3_of (by omega) (by omega)) (i3_of (by omega) (by omega)) d_M_worst_122 (by decide) (fun c_17 => ?_) (fun c_17 => ?_)
                        · skip
                          refine lv_iinc (v := iI (((t : Nat) : Int) + 1)) (lv' := [(7, .int (iI (((t : Nat) : Int) + 1))), (8, .int (iI (m_dr nf ns da T x t))), (0, .ref (b 0)), (1, .int (iI (x))), (2, .int (iI (y))), (3, .int (iI (le))), (4, .int (iI (mo))), (5, .int (iI (lc))), (6, .int (iI (mc)))]) hx hb d_M_worst_133 hl (k := 8) rfl (iI_add _ _).symm (by decide) rfl (fun ls hl => ?_)
                          refine lv_goto (tgt := 62) hx hb d_M_worst_136 (by decide) ?_
                          exact ih (t + 1) (le) (mo) (lc) (mc) (f2) (((T t : Nat) : Int)) _ _ ls (by omega) (fun c9 q9 => if e9 : c9 = t then (by rw [e9]; exact ⟨_, hSt⟩) else hall c9 (by omega)) (fun c9 q9 => if e9 : c9 = t then (by rw [e9]; exact hdb) else hdr c9 (by omega)) (Or.inr ⟨by omega, by rw [m_ws_ff (by omega) (by have q9 := (hle2 (by omega)).1; omega)]; exact (hle2 (by omega)).1, by rw [m_ws_ff (by omega) (by have q9 := (hle2 (by omega)).1; omega)]; exact (hle2 (by omega)).2.1, by rw [m_ws_tf (by omega) (by have q9 := (hle2 (by omega)).2.2.1; omega)]; exact (hle2 (by omega)).2.2.1, by rw [m_ws_tf (by omega) (by have q9 := (hle2 (by omega)).2.2.1; omega)]; exact (hle2 (by omega)).2.2.2⟩) (by omega) hP hD hS (lv_sub hl [2, 3, 4, 5, 6, 7, 8, 0] rfl)
                        · skip
                          refine lv_iload hx hb d_M_worst_125 (lv_at hl 0 rfl) ?_
                          refine lv_istore (lv' := [(4, .int (iI (m_dr nf ns da T x t))), (8, .int (iI (m_dr nf ns da T x t))), (0, .ref (b 0)), (1, .int (iI (x))), (2, .int (iI (y))), (3, .int (iI (le))), (5, .int (iI (lc))), (6, .int (iI (mc))), (7, .int (iI (((t : Nat) : Int))))]) hx hb d_M_worst_127 hl (by decide) rfl (fun ls hl => ?_)
                          refine lv_iload hx hb d_M_worst_129 (lv_at hl 8 rfl) ?_
                          refine lv_istore (lv' := [(6, .int (iI (((t : Nat) : Int)))), (4, .int (iI (m_dr nf ns da T x t))), (8, .int (iI (m_dr nf ns da T x t))), (0, .ref (b 0)), (1, .int (iI (x))), (2, .int (iI (y))), (3, .int (iI (le))), (5, .int (iI (lc))), (7, .int (iI (((t : Nat) : Int))))]) hx hb d_M_worst_131 hl (by decide) rfl (fun ls hl => ?_)
                          refine lv_iinc (v := iI (((t : Nat) : Int) + 1)) (lv' := [(7, .int (iI (((t : Nat) : Int) + 1))), (6, .int (iI (((t : Nat) : Int)))), (4, .int (iI (m_dr nf ns da T x t))), (8, .int (iI (m_dr nf ns da T x t))), (0, .ref (b 0)), (1, .int (iI (x))), (2, .int (iI (y))), (3, .int (iI (le))), (5, .int (iI (lc)))]) hx hb d_M_worst_133 hl (k := 8) rfl (iI_add _ _).symm (by decide) rfl (fun ls hl => ?_)
                          refine lv_goto (tgt := 62) hx hb d_M_worst_136 (by decide) ?_
                          exact ih (t + 1) (le) (m_dr nf ns da T x t) (lc) (((t : Nat) : Int)) (f2) (((T t : Nat) : Int)) _ _ ls (by omega) (fun c9 q9 => if e9 : c9 = t then (by rw [e9]; exact ⟨_, hSt⟩) else hall c9 (by omega)) (fun c9 q9 => if e9 : c9 = t then (by rw [e9]; exact hdb) else hdr c9 (by omega)) (Or.inr ⟨by omega, by rw [m_ws_ff (by omega) (by have q9 := (hle2 (by omega)).1; omega)]; exact (hle2 (by omega)).1, by rw [m_ws_ff (by omega) (by have q9 := (hle2 (by omega)).1; omega)]; exact (hle2 (by omega)).2.1, by rw [m_ws_tt (by by_cases h9 : t = 0; exact Or.inl h9; have q9 := (hle2 h9).2.2.1; exact Or.inr (by omega))], by rw [m_ws_tt (by by_cases h9 : t = 0; exact Or.inl h9; have q9 := (hle2 h9).2.2.1; exact Or.inr (by omega))]⟩) (by omega) hP hD hS (lv_sub hl [4, 5, 6, 7, 2, 8, 1, 0] rfl)
                    · skip
                      refine lv_iload hx hb d_M_worst_106 (lv_at hl 0 rfl) ?_
                      refine lv_istore_n (lv' := [(3, .int (iI (m_dr nf ns da T x t))), (8, .int (iI (m_dr nf ns da T x t))), (0, .ref (b 0)), (1, .int (iI (x))), (2, .int (iI (y))), (4, .int (iI (mo))), (5, .int (iI (lc))), (6, .int (iI (mc))), (7, .int (iI (((t : Nat) : Int))))]) hx hb d_M_worst_108 rfl hl (by decide) rfl (fun ls hl => ?_)
                      refine lv_iload hx hb d_M_worst_109 (lv_at hl 8 rfl) ?_
                      refine lv_istore (lv' := [(5, .int (iI (((t : Nat) : Int)))), (3, .int (iI (m_dr nf ns da T x t))), (8, .int (iI (m_dr nf ns da T x t))), (0, .ref (b 0)), (1, .int (iI (x))), (2, .int (iI (y))), (4, .int (iI (mo))), (6, .int (iI (mc))), (7, .int (iI (((t : Nat) : Int))))]) hx hb d_M_worst_111 hl (by decide) rfl (fun ls hl => ?_)
                      refine lv_iload hx hb d_M_worst_113 (lv_at hl 8 rfl) ?_
                      refine pr_if_eq (tgt := 125) hx hb (i3_of (by omega) (by omega)) d_M_worst_115 (by decide) (fun c_18 => ?_) (fun c_18 => ?_)
                      · skip
                        refine lv_iload hx hb d_M_worst_125 (lv_at hl 2 rfl) ?_
                        refine lv_istore (lv' := [(4, .int (iI (m_dr nf ns da T x t))), (5, .int (iI (((t : Nat) : Int)))), (3, .int (iI (m_dr nf ns da T x t))), (8, .int (iI (m_dr nf ns da T x t))), (0, .ref (b 0)), (1, .int (iI (x))), (2, .int (iI (y))), (6, .int (iI (mc))), (7, .int (iI (((t : Nat) : Int))))]) hx hb d_M_worst_127 hl (by decide) rfl (fun ls hl => ?_)
                        refine lv_iload hx hb d_M_worst_129 (lv_at hl 8 rfl) ?_
                        refine lv_istore (lv' := [(6, .int (iI (((t : Nat) : Int)))), (4, .int (iI (m_dr nf ns da T x t))), (5, .int (iI (((t : Nat) : Int)))), (3, .int (iI (m_dr nf ns da T x t))), (8, .int (iI (m_dr nf ns da T x t))), (0, .ref (b 0)), (1, .int (iI (x))), (2, .int (iI (y))), (7, .int (iI (((t : Nat) : Int))))]) hx hb d_M_worst_131 hl (by decide) rfl (fun ls hl => ?_)
                        refine lv_iinc (v := iI (((t : Nat) : Int) + 1)) (lv' := [(7, .int (iI (((t : Nat) : Int) + 1))), (6, .int (iI (((t : Nat) : Int)))), (4, .int (iI (m_dr nf ns da T x t))), (5, .int (iI (((t : Nat) : Int)))), (3, .int (iI (m_dr nf ns da T x t))), (8, .int (iI (m_dr nf ns da T x t))), (0, .ref (b 0)), (1, .int (iI (x))), (2, .int (iI (y)))]) hx hb d_M_worst_133 hl (k := 8) rfl (iI_add _ _).symm (by decide) rfl (fun ls hl => ?_)
                        refine lv_goto (tgt := 62) hx hb d_M_worst_136 (by decide) ?_
                        exact ih (t + 1) (m_dr nf ns da T x t) (m_dr nf ns da T x t) (((t : Nat) : Int)) (((t : Nat) : Int)) (f2) (((T t : Nat) : Int)) _ _ ls (by omega) (fun c9 q9 => if e9 : c9 = t then (by rw [e9]; exact ⟨_, hSt⟩) else hall c9 (by omega)) (fun c9 q9 => if e9 : c9 = t then (by rw [e9]; exact hdb) else hdr c9 (by omega)) (Or.inr ⟨by omega, by rw [m_ws_ft (by by_cases h9 : t = 0; exact Or.inl h9; have q9 := (hle2 h9).1; exact Or.inr (by omega))], by rw [m_ws_ft (by by_cases h9 : t = 0; exact Or.inl h9; have q9 := (hle2 h9).1; exact Or.inr (by omega))], by rw [m_ws_tt (by by_cases h9 : t = 0; exact Or.inl h9; have q9 := (hle2 h9).2.2.1; exact Or.inr (by omega))], by rw [m_ws_tt (by by_cases h9 : t = 0; exact Or.inl h9; have q9 := (hle2 h9).2.2.1; exact Or.inr (by omega))]⟩) (by omega) hP hD hS (lv_sub hl [6, 7, 8, 4, 2, 3, 1, 0] rfl)
                      · skip
                        refine lv_iload hx hb d_M_worst_118 (lv_at hl 2 rfl) ?_
                        refine lv_iload hx hb d_M_worst_120 (lv_at hl 6 rfl) ?_
                        refine pr_icmp_le (tgt := 133) hx hb (i3_of (by omega) (by omega)) (i3_of (by omega) (by omega)) d_M_worst_122 (by decide) (fun c_19 => ?_) (fun c_19 => ?_)
                        · skip
                          refine lv_iinc (v := iI (((t : Nat) : Int) + 1)) (lv' := [(7, .int (iI (((t : Nat) : Int) + 1))), (5, .int (iI (((t : Nat) : Int)))), (3, .int (iI (m_dr nf ns da T x t))), (8, .int (iI (m_dr nf ns da T x t))), (0, .ref (b 0)), (1, .int (iI (x))), (2, .int (iI (y))), (4, .int (iI (mo))), (6, .int (iI (mc)))]) hx hb d_M_worst_133 hl (k := 8) rfl (iI_add _ _).symm (by decide) rfl (fun ls hl => ?_)
                          refine lv_goto (tgt := 62) hx hb d_M_worst_136 (by decide) ?_
                          exact ih (t + 1) (m_dr nf ns da T x t) (mo) (((t : Nat) : Int)) (mc) (f2) (((T t : Nat) : Int)) _ _ ls (by omega) (fun c9 q9 => if e9 : c9 = t then (by rw [e9]; exact ⟨_, hSt⟩) else hall c9 (by omega)) (fun c9 q9 => if e9 : c9 = t then (by rw [e9]; exact hdb) else hdr c9 (by omega)) (Or.inr ⟨by omega, by rw [m_ws_ft (by by_cases h9 : t = 0; exact Or.inl h9; have q9 := (hle2 h9).1; exact Or.inr (by omega))], by rw [m_ws_ft (by by_cases h9 : t = 0; exact Or.inl h9; have q9 := (hle2 h9).1; exact Or.inr (by omega))], by rw [m_ws_tf (by omega) (by have q9 := (hle2 (by omega)).2.2.1; omega)]; exact (hle2 (by omega)).2.2.1, by rw [m_ws_tf (by omega) (by have q9 := (hle2 (by omega)).2.2.1; omega)]; exact (hle2 (by omega)).2.2.2⟩) (by omega) hP hD hS (lv_sub hl [4, 5, 6, 2, 7, 1, 8, 0] rfl)
                        · skip
                          refine lv_iload hx hb d_M_worst_125 (lv_at hl 2 rfl) ?_
                          refine lv_istore (lv' := [(4, .int (iI (m_dr nf ns da T x t))), (5, .int (iI (((t : Nat) : Int)))), (3, .int (iI (m_dr nf ns da T x t))), (8, .int (iI (m_dr nf ns da T x t))), (0, .ref (b 0)), (1, .int (iI (x))), (2, .int (iI (y))), (6, .int (iI (mc))), (7, .int (iI (((t : Nat) : Int))))]) hx hb d_M_worst_127 hl (by decide) rfl (fun ls hl => ?_)
                          refine lv_iload hx hb d_M_worst_129 (lv_at hl 8 rfl) ?_
                          refine lv_istore (lv' := [(6, .int (iI (((t : Nat) : Int)))), (4, .int (iI (m_dr nf ns da T x t))), (5, .int (iI (((t : Nat) : Int)))), (3, .int (iI (m_dr nf ns da T x t))), (8, .int (iI (m_dr nf ns da T x t))), (0, .ref (b 0)), (1, .int (iI (x))), (2, .int (iI (y))), (7, .int (iI (((t : Nat) : Int))))]) hx hb d_M_worst_131 hl (by decide) rfl (fun ls hl => ?_)
                          refine lv_iinc (v := iI (((t : Nat) : Int) + 1)) (lv' := [(7, .int (iI (((t : Nat) : Int) + 1))), (6, .int (iI (((t : Nat) : Int)))), (4, .int (iI (m_dr nf ns da T x t))), (5, .int (iI (((t : Nat) : Int)))), (3, .int (iI (m_dr nf ns da T x t))), (8, .int (iI (m_dr nf ns da T x t))), (0, .ref (b 0)), (1, .int (iI (x))), (2, .int (iI (y)))]) hx hb d_M_worst_133 hl (k := 8) rfl (iI_add _ _).symm (by decide) rfl (fun ls hl => ?_)
                          refine lv_goto (tgt := 62) hx hb d_M_worst_136 (by decide) ?_
                          exact ih (t + 1) (m_dr nf ns da T x t) (m_dr nf ns da T x t) (((t : Nat) : Int)) (((t : Nat) : Int)) (f2) (((T t : Nat) : Int)) _ _ ls (by omega) (fun c9 q9 => if e9 : c9 = t then (by rw [e9]; exact ⟨_, hSt⟩) else hall c9 (by omega)) (fun c9 q9 => if e9 : c9 = t then (by rw [e9]; exact hdb) else hdr c9 (by omega)) (Or.inr ⟨by omega, by rw [m_ws_ft (by by_cases h9 : t = 0; exact Or.inl h9; have q9 := (hle2 h9).1; exact Or.inr (by omega))], by rw [m_ws_ft (by by_cases h9 : t = 0; exact Or.inl h9; have q9 := (hle2 h9).1; exact Or.inr (by omega))], by rw [m_ws_tt (by by_cases h9 : t = 0; exact Or.inl h9; have q9 := (hle2 h9).2.2.1; exact Or.inr (by omega))], by rw [m_ws_tt (by by_cases h9 : t = 0; exact Or.inl h9; have q9 := (hle2 h9).2.2.1; exact Or.inr (by omega))]⟩) (by omega) hP hD hS (lv_sub hl [6, 7, 8, 4, 2, 3, 1, 0] rfl)
                · skip
                  exact absurd c_11 (by decide)
              · refine pr_ire (B := 0) rfl ?_
                refine pr_if_ne (tgt := 88) hx hb (i3_of (by decide) (by decide)) d_M_worst_82 (by decide) (fun c_20 => ?_) (fun c_20 => ?_)
                · skip
                  exact absurd c_20 (by decide)
                · skip
                  refine lv_ldc (v := iI (-1000000)) hx hb hown (ht (.constant _ 159 (iI (-1000000))) m_768) d_M_worst_85 ?_
                  exact W.iret (v := iI (-1000000)) hx hb hr (fun t9 ht9 hW9 => ⟨⟨iI (-1000000), (nw mi 14 f2, ml, mz, nw (nw ms 0 (0)) 6 (((T t : Nat) : Int))), rfl, Or.inr (⟨by omega, f2, _, rfl, Or.inl ⟨⟨t, by omega, hNo⟩, rfl⟩⟩), by rw [ht9]; exact hP, hD⟩, hS.F ht9⟩) hS.2.2 d_M_worst_87
        have e9 : mi = nw mi 14 (mi 14) := (nw_self mi 14).symm
        rw [e9] at hP hD
        clear e9
        have e9 : nw ms 0 (0) = nw (nw ms 0 (0)) 6 (ms 6) := (nw_self (nw ms 0 (0)) 6).symm
        rw [e9] at hP hD
        clear e9
        have hl : lv_has ls 9 [(7, .int (iI (((0 : Nat) : Int)))), (6, .int (iI (-1000000))), (5, .int (iI (-1000000))), (4, .int (iI (0))), (3, .int (iI (0))), (0, .ref (b 0)), (1, .int (iI (x))), (2, .int (iI (y)))] := hl
        exact loop _ (0) (0) (0) (-1000000) (-1000000) (mi 14) (ms 6) _ _ ls (by omega) (fun c9 q9 => absurd q9 (by omega)) (fun c9 q9 => absurd q9 (by omega)) (Or.inl ⟨rfl, rfl, rfl, rfl, rfl⟩) (Nat.lt_succ_self _) hP hD hS (lv_sub hl [5, 6, 7, 4, 3, 2, 1, 0] rfl)
      · skip
        exact absurd c_5 (by decide)
