theorem m_F_or (nf : Nat → Int → Int) (ns : Nat → Int) (S : Nat) (P : Int → Int) (d : Int) : (((d < 20 ∧ d < ns 1) ∨ (20 ≤ d ∧ d - 20 < ns 2)) ∧ m_F nf ns S P d = m_flow nf S P d) ∨ (¬ ((d < 20 ∧ d < ns 1) ∨ (20 ≤ d ∧ d - 20 < ns 2)) ∧ m_F nf ns S P d = 0) := by
  by_cases h : (d < 20 ∧ d < ns 1) ∨ (20 ≤ d ∧ d - 20 < ns 2)
  · exact Or.inl ⟨h, if_pos h⟩
  · exact Or.inr ⟨h, if_neg h⟩
abbrev w_M_outBy : List Cond := .code y_M_outBy b_M_outBy 6 (some .long) :: pn_W
set_option maxHeartbeats 4000000 in
set_option maxRecDepth 100000 in
theorem c_M_outBy (l : Launch) {D : va_G} {b : Nat → Nat} {cI cL cZ : ClassId} {mi ml : Nat → Int → Int} {mz : Int → Int} {ms : Nat → Int} (nf : Nat → Int → Int) (ns : Nat → Int) (da : Int → Int → Int) (S : Nat) (x y : Int) (hOk : pn_Ok nf ns da) (hR : mn_R nf ns mi ms) (hS6 : ms 6 = ((S : Nat) : Int)) (hS : S < 2 ^ 20) (hPr : pn_Pr (mP mi)) (gx : 0 ≤ x ∧ x < 8) (gy : 0 ≤ y ∧ y < 24) : Met l y_M_outBy w_M_outBy ({ frames := 3, cells := 0, slots := 0, locals := 70 }) (va_Pc [.ref (b 0), .int (iI (x)), .int (iI (y))] (fun U => va_P D pn_cl (mw b cI cL cZ mi ml mz ms) U.heap ∧ mn_E D cI cL cZ U)) (vp_Sl (fun r => r = lI (mo_out nf (m_F nf ns S (mP mi)) x y))) 0 0 (fun _ => False) := by
  refine Met.ofW (cc := b_M_outBy) (maxL := 6) (ret := (some .long)) (by decide) rfl ?_
  intro p e s m args below meth c s₁ B hml hv
  obtain ⟨rfl, hP, hE⟩ := hv
  have hx := B.exec
  have hb := B.bytes
  have hr := B.returns
  have hts := atoms_spec (ws := w_M_outBy) B.pre
  have ht : ∀ w ∈ pn_W, w.before _ s = true := fun w h => hts w (List.mem_cons_of_mem _ h)
  have hown : s.vm.findClass R_M = some m.cls := findClass_of_methodNamed B.named
  have hlocks := B.notSynchronized
  have hK := hE
  have hl := lv_entry ([.ref (b 0), .int (iI (x)), .int (iI (y))]) (n := 6) (Nat.le_of_ble_eq_true rfl)
  rw [lg_entry_eq]
  generalize (lg_sl ([.ref (b 0), .int (iI (x)), .int (iI (y))]) ++ List.replicate (6 - (lg_sl ([.ref (b 0), .int (iI (x)), .int (iI (y))])).length) Slot.unset).toArray = ls at hl ⊢
  have hl : lv_has ls 6 [(0, .ref (b 0)), (1, .int (iI (x))), (2, .int (iI (y)))] := hl
  obtain ⟨o_zc, o_lc, o_fc, o_ve, o_wi, o_wa, o_vo, o_fr, o_to, o_he, o_ar, o_ki, o_st, o_ff, o_sl, o_dc, o_da⟩ := id hOk
  obtain ⟨r_zo, r_le, r_fa, r_wi, r_ai, r_wa, r_vo, r_lk, r_fn⟩ := id hR
  refine lv_iload_n hx hb d_M_outBy_0 rfl (lv_at hl 2 rfl) ?_
  refine lv_bipush (v := iI (20)) hx hb d_M_outBy_1 (by decide) ?_
  refine pr_icmp_ge (tgt := 93) hx hb (i3_of (by omega) (by omega)) (i3_of (by decide) (by decide)) d_M_outBy_3 (by decide) (fun c_1 => ?_) (fun c_1 => ?_)
  · skip
    have f0 : 0 ≤ m_flow nf S (mP mi) y := m_flow_fnn (by omega)
    have a1 := o_fr y gy.1 gy.2
    have a2 := o_to y gy.1 gy.2
    refine lv_iload_n hx hb d_M_outBy_93 rfl (lv_at hl 2 rfl) ?_
    refine lv_bipush (v := iI (20)) hx hb d_M_outBy_94 (by decide) ?_
    refine pr_isub hx hb d_M_outBy_96 ?_
    refine lv_aload_n hx hb d_M_outBy_97 rfl (lv_at hl 0 rfl) ?_
    refine va_get (D := D) (ci := 5) (v := .int (iI (ms 4))) (C := R_M) (T := T_M) (N := 27) hx hb hts (in_M _) hown hK hP 0 rfl rfl 15 (by decide) (ht _ m_605) (fun _ h9 => h9) rfl d_M_outBy_98 ?_
    refine pr_icmp_ge (tgt := 128) hx hb (i3_of (by omega) (by omega)) (i3_of (by omega) (by omega)) d_M_outBy_101 (by decide) (fun c_2 => ?_) (fun c_2 => ?_)
    · skip
      refine lv_lconst (v := lI 0) hx hb d_M_outBy_128 (by decide) ?_
      exact pr_rl hx hb hr hlocks d_M_outBy_129 (by unfold mo_out m_gv m_abs; rcases m_F_or nf ns S (mP mi) y with ⟨hc, hF⟩ | ⟨hc, hF⟩ <;> rw [hF] <;> (repeat' split) <;> omega)
    · skip
      obtain ⟨k1, k2, -⟩ := r_fn (y - 20) (by omega) (by omega)
      rw [show 20 + (y - 20) = y by omega] at k1 k2
      refine lv_aload_n hx hb d_M_outBy_104 rfl (lv_at hl 0 rfl) ?_
      refine va_get (D := D) (ci := 5) (v := .ref (b 12)) (C := R_M) (T := T_M) (N := 27) hx hb hts (in_M _) hown hK hP 0 rfl rfl 16 (by decide) (ht _ m_606) (fun _ h9 => h9) rfl d_M_outBy_105 ?_
      refine lv_iload_n hx hb d_M_outBy_108 rfl (lv_at hl 2 rfl) ?_
      refine lv_bipush (v := iI (20)) hx hb d_M_outBy_109 (by decide) ?_
      refine pr_isub hx hb d_M_outBy_111 ?_
      refine pr_iald hx hb hK hP 12 0 rfl rfl (by decide) (by omega) (by omega) d_M_outBy_112 ?_
      refine lv_iload_n hx hb d_M_outBy_113 rfl (lv_at hl 1 rfl) ?_
      refine pr_icmp_ne (tgt := 128) hx hb (i3_of (by omega) (by omega)) (i3_of (by omega) (by omega)) d_M_outBy_114 (by decide) (fun c_3 => ?_) (fun c_3 => ?_)
      · skip
        refine lv_lconst (v := lI 0) hx hb d_M_outBy_128 (by decide) ?_
        exact pr_rl hx hb hr hlocks d_M_outBy_129 (by unfold mo_out m_gv m_abs; rcases m_F_or nf ns S (mP mi) y with ⟨hc, hF⟩ | ⟨hc, hF⟩ <;> rw [hF] <;> (repeat' split) <;> omega)
      · skip
        refine lv_aload_n hx hb d_M_outBy_117 rfl (lv_at hl 0 rfl) ?_
        refine lv_iload_n hx hb d_M_outBy_118 rfl (lv_at hl 2 rfl) ?_
        refine lv_bipush (v := iI (20)) hx hb d_M_outBy_119 (by decide) ?_
        refine pr_isub hx hb d_M_outBy_121 ?_
        refine pr_pl (va_runV (As := [.int (iI (y - 20))]) (rest := []) ⟨hx, hb, hml, hown, hts⟩ (c_M_blown l nf ns da (mi := mi) (ms := ms) S (y - 20) hOk hR hPr ⟨by omega, by omega⟩) (cwV 1 hts (pn_gV m_760 m_762 m_26 m_38 m_763) rfl rfl rfl (by decide +kernel) ⟨Nat.le_of_ble_eq_true rfl, Nat.le_of_ble_eq_true rfl⟩) (mn_preV (q0 := 0) (ci := 5) (q := (R_M, T_M, 27)) hP hE rfl rfl) rfl rfl hl.1 rfl (lv_room (Nat.le_of_ble_eq_true rfl)) d_M_outBy_122 ⟨Nat.le_of_ble_eq_true rfl, Nat.le_of_ble_eq_true rfl⟩) ?_
        refine pr_lre (B := m_flow nf S (mP mi) y) (by rw [show 20 + (y - 20) = y by omega]) ?_
        refine lv_goto (tgt := 129) hx hb d_M_outBy_125 (by decide) ?_
        exact pr_rl hx hb hr hlocks d_M_outBy_129 (by unfold mo_out m_gv m_abs; rcases m_F_or nf ns S (mP mi) y with ⟨hc, hF⟩ | ⟨hc, hF⟩ <;> rw [hF] <;> (repeat' split) <;> omega)
  · skip
    have hk1 := r_lk y gy.1
    have fb := m_flow_b (S := S) (d := y) hOk hPr gy.1 (by omega)
    have a1 := o_fr y gy.1 gy.2
    have a2 := o_to y gy.1 gy.2
    refine lv_iload_n hx hb d_M_outBy_6 rfl (lv_at hl 2 rfl) ?_
    refine lv_aload_n hx hb d_M_outBy_7 rfl (lv_at hl 0 rfl) ?_
    refine va_get (D := D) (ci := 5) (v := .int (iI (ms 3))) (C := R_M) (T := T_M) (N := 27) hx hb hts (in_M _) hown hK hP 0 rfl rfl 8 (by decide) (ht _ m_598) (fun _ h9 => h9) rfl d_M_outBy_8 ?_
    refine pr_icmp_ge (tgt := 22) hx hb (i3_of (by omega) (by omega)) (i3_of (by omega) (by omega)) d_M_outBy_11 (by decide) (fun c_4 => ?_) (fun c_4 => ?_)
    · skip
      refine lv_lconst (v := lI 0) hx hb d_M_outBy_22 (by decide) ?_
      refine lv_lstore_n (lv' := [(3, .long (lI (0))), (0, .ref (b 0)), (1, .int (iI (x))), (2, .int (iI (y)))]) hx hb d_M_outBy_23 rfl hl (by decide) rfl (fun ls hl => ?_)
      refine lv_iload_n hx hb d_M_outBy_24 rfl (lv_at hl 3 rfl) ?_
      refine lv_aload_n hx hb d_M_outBy_25 rfl (lv_at hl 1 rfl) ?_
      refine va_get (D := D) (ci := 5) (v := .int (iI (ms 3))) (C := R_M) (T := T_M) (N := 27) hx hb hts (in_M _) hown hK hP 0 rfl rfl 8 (by decide) (ht _ m_598) (fun _ h9 => h9) rfl d_M_outBy_26 ?_
      refine pr_icmp_ge (tgt := 68) hx hb (i3_of (by omega) (by omega)) (i3_of (by omega) (by omega)) d_M_outBy_29 (by decide) (fun c_5 => ?_) (fun c_5 => ?_)
      · skip
        refine lv_iconst (v := iI (0)) hx hb d_M_outBy_68 rfl ?_
        refine lv_istore (lv' := [(5, .int (iI (0))), (3, .long (lI (0))), (0, .ref (b 0)), (1, .int (iI (x))), (2, .int (iI (y)))]) hx hb d_M_outBy_69 hl (by decide) rfl (fun ls hl => ?_)
        refine lv_iload hx hb d_M_outBy_71 (lv_at hl 0 rfl) ?_
        refine pr_if_ne (tgt := 80) hx hb (i3_of (by decide) (by decide)) d_M_outBy_73 (by decide) (fun c_6 => ?_) (fun c_6 => ?_)
        · skip
          exact absurd c_6 (by decide)
        · skip
          refine lv_lconst (v := lI 0) hx hb d_M_outBy_76 (by decide) ?_
          refine lv_goto (tgt := 92) hx hb d_M_outBy_77 (by decide) ?_
          exact pr_rl hx hb hr hlocks d_M_outBy_92 (by unfold mo_out m_gv m_abs; rcases m_F_or nf ns S (mP mi) y with ⟨hc, hF⟩ | ⟨hc, hF⟩ <;> rw [hF] <;> (repeat' split) <;> omega)
      · skip
        refine lv_aload_n hx hb d_M_outBy_32 rfl (lv_at hl 1 rfl) ?_
        refine va_get (D := D) (ci := 5) (v := .ref (b 6)) (C := R_M) (T := T_M) (N := 27) hx hb hts (in_M _) hown hK hP 0 rfl rfl 9 (by decide) (ht _ m_599) (fun _ h9 => h9) rfl d_M_outBy_33 ?_
        refine lv_iload_n hx hb d_M_outBy_36 rfl (lv_at hl 3 rfl) ?_
        refine pr_iald hx hb hK hP 6 0 rfl rfl (by decide) (by omega) (by omega) d_M_outBy_37 ?_
        refine lv_iload_n hx hb d_M_outBy_38 rfl (lv_at hl 2 rfl) ?_
        refine pr_icmp_ne (tgt := 48) hx hb (i3_of (by omega) (by omega)) (i3_of (by omega) (by omega)) d_M_outBy_39 (by decide) (fun c_7 => ?_) (fun c_7 => ?_)
        · skip
          refine lv_aload_n hx hb d_M_outBy_48 rfl (lv_at hl 1 rfl) ?_
          refine va_get (D := D) (ci := 5) (v := .ref (b 7)) (C := R_M) (T := T_M) (N := 27) hx hb hts (in_M _) hown hK hP 0 rfl rfl 10 (by decide) (ht _ m_600) (fun _ h9 => h9) rfl d_M_outBy_49 ?_
          refine lv_iload_n hx hb d_M_outBy_52 rfl (lv_at hl 3 rfl) ?_
          refine pr_iald hx hb hK hP 7 0 rfl rfl (by decide) (by omega) (by omega) d_M_outBy_53 ?_
          refine lv_iload_n hx hb d_M_outBy_54 rfl (lv_at hl 2 rfl) ?_
          refine pr_icmp_ne (tgt := 68) hx hb (i3_of (by omega) (by omega)) (i3_of (by omega) (by omega)) d_M_outBy_55 (by decide) (fun c_8 => ?_) (fun c_8 => ?_)
          · skip
            refine lv_iconst (v := iI (0)) hx hb d_M_outBy_68 rfl ?_
            refine lv_istore (lv' := [(5, .int (iI (0))), (3, .long (lI (0))), (0, .ref (b 0)), (1, .int (iI (x))), (2, .int (iI (y)))]) hx hb d_M_outBy_69 hl (by decide) rfl (fun ls hl => ?_)
            refine lv_iload hx hb d_M_outBy_71 (lv_at hl 0 rfl) ?_
            refine pr_if_ne (tgt := 80) hx hb (i3_of (by decide) (by decide)) d_M_outBy_73 (by decide) (fun c_9 => ?_) (fun c_9 => ?_)
            · skip
              exact absurd c_9 (by decide)
            · skip
              refine lv_lconst (v := lI 0) hx hb d_M_outBy_76 (by decide) ?_
              refine lv_goto (tgt := 92) hx hb d_M_outBy_77 (by decide) ?_
              exact pr_rl hx hb hr hlocks d_M_outBy_92 (by unfold mo_out m_gv m_abs; rcases m_F_or nf ns S (mP mi) y with ⟨hc, hF⟩ | ⟨hc, hF⟩ <;> rw [hF] <;> (repeat' split) <;> omega)
          · skip
            refine lv_lload_n hx hb d_M_outBy_58 rfl (lv_at hl 0 rfl) ?_
            refine lv_lconst (v := lI 0) hx hb d_M_outBy_59 (by decide) ?_
            refine pr_lcmp_ge (tgt := 68) hx hb (i6_of (by decide) (by decide)) (i6_of (by decide) (by decide)) d_M_outBy_60 d_M_outBy_61 (by decide) (fun c_10 => ?_) (fun c_10 => ?_)
            · skip
              refine lv_iconst (v := iI (0)) hx hb d_M_outBy_68 rfl ?_
              refine lv_istore (lv' := [(5, .int (iI (0))), (3, .long (lI (0))), (0, .ref (b 0)), (1, .int (iI (x))), (2, .int (iI (y)))]) hx hb d_M_outBy_69 hl (by decide) rfl (fun ls hl => ?_)
              refine lv_iload hx hb d_M_outBy_71 (lv_at hl 0 rfl) ?_
              refine pr_if_ne (tgt := 80) hx hb (i3_of (by decide) (by decide)) d_M_outBy_73 (by decide) (fun c_11 => ?_) (fun c_11 => ?_)
              · skip
                exact absurd c_11 (by decide)
              · skip
                refine lv_lconst (v := lI 0) hx hb d_M_outBy_76 (by decide) ?_
                refine lv_goto (tgt := 92) hx hb d_M_outBy_77 (by decide) ?_
                exact pr_rl hx hb hr hlocks d_M_outBy_92 (by unfold mo_out m_gv m_abs; rcases m_F_or nf ns S (mP mi) y with ⟨hc, hF⟩ | ⟨hc, hF⟩ <;> rw [hF] <;> (repeat' split) <;> omega)
            · skip
              refine lv_iconst (v := iI (1)) hx hb d_M_outBy_64 rfl ?_
              refine lv_goto (tgt := 69) hx hb d_M_outBy_65 (by decide) ?_
              refine lv_istore (lv' := [(5, .int (iI (1))), (3, .long (lI (0))), (0, .ref (b 0)), (1, .int (iI (x))), (2, .int (iI (y)))]) hx hb d_M_outBy_69 hl (by decide) rfl (fun ls hl => ?_)
              refine lv_iload hx hb d_M_outBy_71 (lv_at hl 0 rfl) ?_
              refine pr_if_ne (tgt := 80) hx hb (i3_of (by decide) (by decide)) d_M_outBy_73 (by decide) (fun c_12 => ?_) (fun c_12 => ?_)
              · skip
                refine lv_lload_n hx hb d_M_outBy_80 rfl (lv_at hl 1 rfl) ?_
                refine lv_lconst (v := lI 0) hx hb d_M_outBy_81 (by decide) ?_
                refine pr_lcmp_ge (tgt := 91) hx hb (i6_of (by decide) (by decide)) (i6_of (by decide) (by decide)) d_M_outBy_82 d_M_outBy_83 (by decide) (fun c_13 => ?_) (fun c_13 => ?_)
                · skip
                  refine lv_lload_n hx hb d_M_outBy_91 rfl (lv_at hl 1 rfl) ?_
                  exact pr_rl hx hb hr hlocks d_M_outBy_92 (by unfold mo_out m_gv m_abs; rcases m_F_or nf ns S (mP mi) y with ⟨hc, hF⟩ | ⟨hc, hF⟩ <;> rw [hF] <;> (repeat' split) <;> omega)
                · skip
                  refine lv_lload_n hx hb d_M_outBy_86 rfl (lv_at hl 1 rfl) ?_
                  refine pr_lneg hx hb d_M_outBy_87 ?_
                  refine lv_goto (tgt := 92) hx hb d_M_outBy_88 (by decide) ?_
                  exact pr_rl hx hb hr hlocks d_M_outBy_92 (by unfold mo_out m_gv m_abs; rcases m_F_or nf ns S (mP mi) y with ⟨hc, hF⟩ | ⟨hc, hF⟩ <;> rw [hF] <;> (repeat' split) <;> omega)
              · skip
                exact absurd c_12 (by decide)
        · skip
          refine lv_lload_n hx hb d_M_outBy_42 rfl (lv_at hl 0 rfl) ?_
          refine lv_lconst (v := lI 0) hx hb d_M_outBy_43 (by decide) ?_
          refine pr_lcmp_gt (tgt := 64) hx hb (i6_of (by decide) (by decide)) (i6_of (by decide) (by decide)) d_M_outBy_44 d_M_outBy_45 (by decide) (fun c_14 => ?_) (fun c_14 => ?_)
          · skip
            refine lv_iconst (v := iI (1)) hx hb d_M_outBy_64 rfl ?_
            refine lv_goto (tgt := 69) hx hb d_M_outBy_65 (by decide) ?_
            refine lv_istore (lv' := [(5, .int (iI (1))), (3, .long (lI (0))), (0, .ref (b 0)), (1, .int (iI (x))), (2, .int (iI (y)))]) hx hb d_M_outBy_69 hl (by decide) rfl (fun ls hl => ?_)
            refine lv_iload hx hb d_M_outBy_71 (lv_at hl 0 rfl) ?_
            refine pr_if_ne (tgt := 80) hx hb (i3_of (by decide) (by decide)) d_M_outBy_73 (by decide) (fun c_15 => ?_) (fun c_15 => ?_)
            · skip
              refine lv_lload_n hx hb d_M_outBy_80 rfl (lv_at hl 1 rfl) ?_
              refine lv_lconst (v := lI 0) hx hb d_M_outBy_81 (by decide) ?_
              refine pr_lcmp_ge (tgt := 91) hx hb (i6_of (by decide) (by decide)) (i6_of (by decide) (by decide)) d_M_outBy_82 d_M_outBy_83 (by decide) (fun c_16 => ?_) (fun c_16 => ?_)
              · skip
                refine lv_lload_n hx hb d_M_outBy_91 rfl (lv_at hl 1 rfl) ?_
                exact pr_rl hx hb hr hlocks d_M_outBy_92 (by unfold mo_out m_gv m_abs; rcases m_F_or nf ns S (mP mi) y with ⟨hc, hF⟩ | ⟨hc, hF⟩ <;> rw [hF] <;> (repeat' split) <;> omega)
              · skip
                refine lv_lload_n hx hb d_M_outBy_86 rfl (lv_at hl 1 rfl) ?_
                refine pr_lneg hx hb d_M_outBy_87 ?_
                refine lv_goto (tgt := 92) hx hb d_M_outBy_88 (by decide) ?_
                exact pr_rl hx hb hr hlocks d_M_outBy_92 (by unfold mo_out m_gv m_abs; rcases m_F_or nf ns S (mP mi) y with ⟨hc, hF⟩ | ⟨hc, hF⟩ <;> rw [hF] <;> (repeat' split) <;> omega)
            · skip
              exact absurd c_15 (by decide)
          · skip
            refine lv_aload_n hx hb d_M_outBy_48 rfl (lv_at hl 1 rfl) ?_
            refine va_get (D := D) (ci := 5) (v := .ref (b 7)) (C := R_M) (T := T_M) (N := 27) hx hb hts (in_M _) hown hK hP 0 rfl rfl 10 (by decide) (ht _ m_600) (fun _ h9 => h9) rfl d_M_outBy_49 ?_
            refine lv_iload_n hx hb d_M_outBy_52 rfl (lv_at hl 3 rfl) ?_
            refine pr_iald hx hb hK hP 7 0 rfl rfl (by decide) (by omega) (by omega) d_M_outBy_53 ?_
            refine lv_iload_n hx hb d_M_outBy_54 rfl (lv_at hl 2 rfl) ?_
            refine pr_icmp_ne (tgt := 68) hx hb (i3_of (by omega) (by omega)) (i3_of (by omega) (by omega)) d_M_outBy_55 (by decide) (fun c_17 => ?_) (fun c_17 => ?_)
            · skip
              refine lv_iconst (v := iI (0)) hx hb d_M_outBy_68 rfl ?_
              refine lv_istore (lv' := [(5, .int (iI (0))), (3, .long (lI (0))), (0, .ref (b 0)), (1, .int (iI (x))), (2, .int (iI (y)))]) hx hb d_M_outBy_69 hl (by decide) rfl (fun ls hl => ?_)
              refine lv_iload hx hb d_M_outBy_71 (lv_at hl 0 rfl) ?_
              refine pr_if_ne (tgt := 80) hx hb (i3_of (by decide) (by decide)) d_M_outBy_73 (by decide) (fun c_18 => ?_) (fun c_18 => ?_)
              · skip
                exact absurd c_18 (by decide)
              · skip
                refine lv_lconst (v := lI 0) hx hb d_M_outBy_76 (by decide) ?_
                refine lv_goto (tgt := 92) hx hb d_M_outBy_77 (by decide) ?_
                exact pr_rl hx hb hr hlocks d_M_outBy_92 (by unfold mo_out m_gv m_abs; rcases m_F_or nf ns S (mP mi) y with ⟨hc, hF⟩ | ⟨hc, hF⟩ <;> rw [hF] <;> (repeat' split) <;> omega)
            · skip
              refine lv_lload_n hx hb d_M_outBy_58 rfl (lv_at hl 0 rfl) ?_
              refine lv_lconst (v := lI 0) hx hb d_M_outBy_59 (by decide) ?_
              refine pr_lcmp_ge (tgt := 68) hx hb (i6_of (by decide) (by decide)) (i6_of (by decide) (by decide)) d_M_outBy_60 d_M_outBy_61 (by decide) (fun c_19 => ?_) (fun c_19 => ?_)
              · skip
                refine lv_iconst (v := iI (0)) hx hb d_M_outBy_68 rfl ?_
                refine lv_istore (lv' := [(5, .int (iI (0))), (3, .long (lI (0))), (0, .ref (b 0)), (1, .int (iI (x))), (2, .int (iI (y)))]) hx hb d_M_outBy_69 hl (by decide) rfl (fun ls hl => ?_)
                refine lv_iload hx hb d_M_outBy_71 (lv_at hl 0 rfl) ?_
                refine pr_if_ne (tgt := 80) hx hb (i3_of (by decide) (by decide)) d_M_outBy_73 (by decide) (fun c_20 => ?_) (fun c_20 => ?_)
                · skip
                  exact absurd c_20 (by decide)
                · skip
                  refine lv_lconst (v := lI 0) hx hb d_M_outBy_76 (by decide) ?_
                  refine lv_goto (tgt := 92) hx hb d_M_outBy_77 (by decide) ?_
                  exact pr_rl hx hb hr hlocks d_M_outBy_92 (by unfold mo_out m_gv m_abs; rcases m_F_or nf ns S (mP mi) y with ⟨hc, hF⟩ | ⟨hc, hF⟩ <;> rw [hF] <;> (repeat' split) <;> omega)
              · skip
                refine lv_iconst (v := iI (1)) hx hb d_M_outBy_64 rfl ?_
                refine lv_goto (tgt := 69) hx hb d_M_outBy_65 (by decide) ?_
                refine lv_istore (lv' := [(5, .int (iI (1))), (3, .long (lI (0))), (0, .ref (b 0)), (1, .int (iI (x))), (2, .int (iI (y)))]) hx hb d_M_outBy_69 hl (by decide) rfl (fun ls hl => ?_)
                refine lv_iload hx hb d_M_outBy_71 (lv_at hl 0 rfl) ?_
                refine pr_if_ne (tgt := 80) hx hb (i3_of (by decide) (by decide)) d_M_outBy_73 (by decide) (fun c_21 => ?_) (fun c_21 => ?_)
                · skip
                  refine lv_lload_n hx hb d_M_outBy_80 rfl (lv_at hl 1 rfl) ?_
                  refine lv_lconst (v := lI 0) hx hb d_M_outBy_81 (by decide) ?_
                  refine pr_lcmp_ge (tgt := 91) hx hb (i6_of (by decide) (by decide)) (i6_of (by decide) (by decide)) d_M_outBy_82 d_M_outBy_83 (by decide) (fun c_22 => ?_) (fun c_22 => ?_)
                  · skip
                    refine lv_lload_n hx hb d_M_outBy_91 rfl (lv_at hl 1 rfl) ?_
                    exact pr_rl hx hb hr hlocks d_M_outBy_92 (by unfold mo_out m_gv m_abs; rcases m_F_or nf ns S (mP mi) y with ⟨hc, hF⟩ | ⟨hc, hF⟩ <;> rw [hF] <;> (repeat' split) <;> omega)
                  · skip
                    refine lv_lload_n hx hb d_M_outBy_86 rfl (lv_at hl 1 rfl) ?_
                    refine pr_lneg hx hb d_M_outBy_87 ?_
                    refine lv_goto (tgt := 92) hx hb d_M_outBy_88 (by decide) ?_
                    exact pr_rl hx hb hr hlocks d_M_outBy_92 (by unfold mo_out m_gv m_abs; rcases m_F_or nf ns S (mP mi) y with ⟨hc, hF⟩ | ⟨hc, hF⟩ <;> rw [hF] <;> (repeat' split) <;> omega)
                · skip
                  exact absurd c_21 (by decide)
    · skip
      obtain ⟨k1, k2, -⟩ := hk1 (by omega)
      refine lv_aload_n hx hb d_M_outBy_14 rfl (lv_at hl 0 rfl) ?_
      refine lv_iload_n hx hb d_M_outBy_15 rfl (lv_at hl 2 rfl) ?_
      refine pr_pl (va_runV (As := [.int (iI (y))]) (rest := []) ⟨hx, hb, hml, hown, hts⟩ (c_M_flowOf l nf ns da (mi := mi) (ms := ms) S (y) hOk hR hS6 hS hPr ⟨by omega, by omega⟩) (cwV 1 hts (pn_gV m_743 m_745 m_23 m_38 m_746) rfl rfl rfl (by decide +kernel) ⟨Nat.le_of_ble_eq_true rfl, Nat.le_of_ble_eq_true rfl⟩) (mn_preV (q0 := 0) (ci := 5) (q := (R_M, T_M, 27)) hP hE rfl rfl) rfl rfl hl.1 rfl (lv_room (Nat.le_of_ble_eq_true rfl)) d_M_outBy_16 ⟨Nat.le_of_ble_eq_true rfl, Nat.le_of_ble_eq_true rfl⟩) ?_
      refine lv_goto (tgt := 23) hx hb d_M_outBy_19 (by decide) ?_
      refine lv_lstore_n (lv' := [(3, .long (lI (m_flow nf S (mP mi) (y)))), (0, .ref (b 0)), (1, .int (iI (x))), (2, .int (iI (y)))]) hx hb d_M_outBy_23 rfl hl (by decide) rfl (fun ls hl => ?_)
      refine lv_iload_n hx hb d_M_outBy_24 rfl (lv_at hl 3 rfl) ?_
      refine lv_aload_n hx hb d_M_outBy_25 rfl (lv_at hl 1 rfl) ?_
      refine va_get (D := D) (ci := 5) (v := .int (iI (ms 3))) (C := R_M) (T := T_M) (N := 27) hx hb hts (in_M _) hown hK hP 0 rfl rfl 8 (by decide) (ht _ m_598) (fun _ h9 => h9) rfl d_M_outBy_26 ?_
      refine pr_icmp_ge (tgt := 68) hx hb (i3_of (by omega) (by omega)) (i3_of (by omega) (by omega)) d_M_outBy_29 (by decide) (fun c_23 => ?_) (fun c_23 => ?_)
      · skip
        refine lv_iconst (v := iI (0)) hx hb d_M_outBy_68 rfl ?_
        refine lv_istore (lv' := [(5, .int (iI (0))), (3, .long (lI (m_flow nf S (mP mi) (y)))), (0, .ref (b 0)), (1, .int (iI (x))), (2, .int (iI (y)))]) hx hb d_M_outBy_69 hl (by decide) rfl (fun ls hl => ?_)
        refine lv_iload hx hb d_M_outBy_71 (lv_at hl 0 rfl) ?_
        refine pr_if_ne (tgt := 80) hx hb (i3_of (by decide) (by decide)) d_M_outBy_73 (by decide) (fun c_24 => ?_) (fun c_24 => ?_)
        · skip
          exact absurd c_24 (by decide)
        · skip
          refine lv_lconst (v := lI 0) hx hb d_M_outBy_76 (by decide) ?_
          refine lv_goto (tgt := 92) hx hb d_M_outBy_77 (by decide) ?_
          exact pr_rl hx hb hr hlocks d_M_outBy_92 (by unfold mo_out m_gv m_abs; rcases m_F_or nf ns S (mP mi) y with ⟨hc, hF⟩ | ⟨hc, hF⟩ <;> rw [hF] <;> (repeat' split) <;> omega)
      · skip
        refine lv_aload_n hx hb d_M_outBy_32 rfl (lv_at hl 1 rfl) ?_
        refine va_get (D := D) (ci := 5) (v := .ref (b 6)) (C := R_M) (T := T_M) (N := 27) hx hb hts (in_M _) hown hK hP 0 rfl rfl 9 (by decide) (ht _ m_599) (fun _ h9 => h9) rfl d_M_outBy_33 ?_
        refine lv_iload_n hx hb d_M_outBy_36 rfl (lv_at hl 3 rfl) ?_
        refine pr_iald hx hb hK hP 6 0 rfl rfl (by decide) (by omega) (by omega) d_M_outBy_37 ?_
        refine lv_iload_n hx hb d_M_outBy_38 rfl (lv_at hl 2 rfl) ?_
        refine pr_icmp_ne (tgt := 48) hx hb (i3_of (by omega) (by omega)) (i3_of (by omega) (by omega)) d_M_outBy_39 (by decide) (fun c_25 => ?_) (fun c_25 => ?_)
        · skip
          refine lv_aload_n hx hb d_M_outBy_48 rfl (lv_at hl 1 rfl) ?_
          refine va_get (D := D) (ci := 5) (v := .ref (b 7)) (C := R_M) (T := T_M) (N := 27) hx hb hts (in_M _) hown hK hP 0 rfl rfl 10 (by decide) (ht _ m_600) (fun _ h9 => h9) rfl d_M_outBy_49 ?_
          refine lv_iload_n hx hb d_M_outBy_52 rfl (lv_at hl 3 rfl) ?_
          refine pr_iald hx hb hK hP 7 0 rfl rfl (by decide) (by omega) (by omega) d_M_outBy_53 ?_
          refine lv_iload_n hx hb d_M_outBy_54 rfl (lv_at hl 2 rfl) ?_
          refine pr_icmp_ne (tgt := 68) hx hb (i3_of (by omega) (by omega)) (i3_of (by omega) (by omega)) d_M_outBy_55 (by decide) (fun c_26 => ?_) (fun c_26 => ?_)
          · skip
            refine lv_iconst (v := iI (0)) hx hb d_M_outBy_68 rfl ?_
            refine lv_istore (lv' := [(5, .int (iI (0))), (3, .long (lI (m_flow nf S (mP mi) (y)))), (0, .ref (b 0)), (1, .int (iI (x))), (2, .int (iI (y)))]) hx hb d_M_outBy_69 hl (by decide) rfl (fun ls hl => ?_)
            refine lv_iload hx hb d_M_outBy_71 (lv_at hl 0 rfl) ?_
            refine pr_if_ne (tgt := 80) hx hb (i3_of (by decide) (by decide)) d_M_outBy_73 (by decide) (fun c_27 => ?_) (fun c_27 => ?_)
            · skip
              exact absurd c_27 (by decide)
            · skip
              refine lv_lconst (v := lI 0) hx hb d_M_outBy_76 (by decide) ?_
              refine lv_goto (tgt := 92) hx hb d_M_outBy_77 (by decide) ?_
              exact pr_rl hx hb hr hlocks d_M_outBy_92 (by unfold mo_out m_gv m_abs; rcases m_F_or nf ns S (mP mi) y with ⟨hc, hF⟩ | ⟨hc, hF⟩ <;> rw [hF] <;> (repeat' split) <;> omega)
          · skip
            refine lv_lload_n hx hb d_M_outBy_58 rfl (lv_at hl 0 rfl) ?_
            refine lv_lconst (v := lI 0) hx hb d_M_outBy_59 (by decide) ?_
            refine pr_lcmp_ge (tgt := 68) hx hb (i6_of (by omega) (by omega)) (i6_of (by decide) (by decide)) d_M_outBy_60 d_M_outBy_61 (by decide) (fun c_28 => ?_) (fun c_28 => ?_)
            · skip
              refine lv_iconst (v := iI (0)) hx hb d_M_outBy_68 rfl ?_
              refine lv_istore (lv' := [(5, .int (iI (0))), (3, .long (lI (m_flow nf S (mP mi) (y)))), (0, .ref (b 0)), (1, .int (iI (x))), (2, .int (iI (y)))]) hx hb d_M_outBy_69 hl (by decide) rfl (fun ls hl => ?_)
              refine lv_iload hx hb d_M_outBy_71 (lv_at hl 0 rfl) ?_
              refine pr_if_ne (tgt := 80) hx hb (i3_of (by decide) (by decide)) d_M_outBy_73 (by decide) (fun c_29 => ?_) (fun c_29 => ?_)
              · skip
                exact absurd c_29 (by decide)
              · skip
                refine lv_lconst (v := lI 0) hx hb d_M_outBy_76 (by decide) ?_
                refine lv_goto (tgt := 92) hx hb d_M_outBy_77 (by decide) ?_
                exact pr_rl hx hb hr hlocks d_M_outBy_92 (by unfold mo_out m_gv m_abs; rcases m_F_or nf ns S (mP mi) y with ⟨hc, hF⟩ | ⟨hc, hF⟩ <;> rw [hF] <;> (repeat' split) <;> omega)
            · skip
              refine lv_iconst (v := iI (1)) hx hb d_M_outBy_64 rfl ?_
              refine lv_goto (tgt := 69) hx hb d_M_outBy_65 (by decide) ?_
              refine lv_istore (lv' := [(5, .int (iI (1))), (3, .long (lI (m_flow nf S (mP mi) (y)))), (0, .ref (b 0)), (1, .int (iI (x))), (2, .int (iI (y)))]) hx hb d_M_outBy_69 hl (by decide) rfl (fun ls hl => ?_)
              refine lv_iload hx hb d_M_outBy_71 (lv_at hl 0 rfl) ?_
              refine pr_if_ne (tgt := 80) hx hb (i3_of (by decide) (by decide)) d_M_outBy_73 (by decide) (fun c_30 => ?_) (fun c_30 => ?_)
              · skip
                refine lv_lload_n hx hb d_M_outBy_80 rfl (lv_at hl 1 rfl) ?_
                refine lv_lconst (v := lI 0) hx hb d_M_outBy_81 (by decide) ?_
                refine pr_lcmp_ge (tgt := 91) hx hb (i6_of (by omega) (by omega)) (i6_of (by decide) (by decide)) d_M_outBy_82 d_M_outBy_83 (by decide) (fun c_31 => ?_) (fun c_31 => ?_)
                · skip
                  refine lv_lload_n hx hb d_M_outBy_91 rfl (lv_at hl 1 rfl) ?_
                  exact pr_rl hx hb hr hlocks d_M_outBy_92 (by unfold mo_out m_gv m_abs; rcases m_F_or nf ns S (mP mi) y with ⟨hc, hF⟩ | ⟨hc, hF⟩ <;> rw [hF] <;> (repeat' split) <;> omega)
                · skip
                  refine lv_lload_n hx hb d_M_outBy_86 rfl (lv_at hl 1 rfl) ?_
                  refine pr_lneg hx hb d_M_outBy_87 ?_
                  refine lv_goto (tgt := 92) hx hb d_M_outBy_88 (by decide) ?_
                  exact pr_rl hx hb hr hlocks d_M_outBy_92 (by unfold mo_out m_gv m_abs; rcases m_F_or nf ns S (mP mi) y with ⟨hc, hF⟩ | ⟨hc, hF⟩ <;> rw [hF] <;> (repeat' split) <;> omega)
              · skip
                exact absurd c_30 (by decide)
        · skip
          refine lv_lload_n hx hb d_M_outBy_42 rfl (lv_at hl 0 rfl) ?_
          refine lv_lconst (v := lI 0) hx hb d_M_outBy_43 (by decide) ?_
          refine pr_lcmp_gt (tgt := 64) hx hb (i6_of (by omega) (by omega)) (i6_of (by decide) (by decide)) d_M_outBy_44 d_M_outBy_45 (by decide) (fun c_32 => ?_) (fun c_32 => ?_)
          · skip
            refine lv_iconst (v := iI (1)) hx hb d_M_outBy_64 rfl ?_
            refine lv_goto (tgt := 69) hx hb d_M_outBy_65 (by decide) ?_
            refine lv_istore (lv' := [(5, .int (iI (1))), (3, .long (lI (m_flow nf S (mP mi) (y)))), (0, .ref (b 0)), (1, .int (iI (x))), (2, .int (iI (y)))]) hx hb d_M_outBy_69 hl (by decide) rfl (fun ls hl => ?_)
            refine lv_iload hx hb d_M_outBy_71 (lv_at hl 0 rfl) ?_
            refine pr_if_ne (tgt := 80) hx hb (i3_of (by decide) (by decide)) d_M_outBy_73 (by decide) (fun c_33 => ?_) (fun c_33 => ?_)
            · skip
              refine lv_lload_n hx hb d_M_outBy_80 rfl (lv_at hl 1 rfl) ?_
              refine lv_lconst (v := lI 0) hx hb d_M_outBy_81 (by decide) ?_
              refine pr_lcmp_ge (tgt := 91) hx hb (i6_of (by omega) (by omega)) (i6_of (by decide) (by decide)) d_M_outBy_82 d_M_outBy_83 (by decide) (fun c_34 => ?_) (fun c_34 => ?_)
              · skip
                refine lv_lload_n hx hb d_M_outBy_91 rfl (lv_at hl 1 rfl) ?_
                exact pr_rl hx hb hr hlocks d_M_outBy_92 (by unfold mo_out m_gv m_abs; rcases m_F_or nf ns S (mP mi) y with ⟨hc, hF⟩ | ⟨hc, hF⟩ <;> rw [hF] <;> (repeat' split) <;> omega)
              · skip
                refine lv_lload_n hx hb d_M_outBy_86 rfl (lv_at hl 1 rfl) ?_
                refine pr_lneg hx hb d_M_outBy_87 ?_
                refine lv_goto (tgt := 92) hx hb d_M_outBy_88 (by decide) ?_
                exact pr_rl hx hb hr hlocks d_M_outBy_92 (by unfold mo_out m_gv m_abs; rcases m_F_or nf ns S (mP mi) y with ⟨hc, hF⟩ | ⟨hc, hF⟩ <;> rw [hF] <;> (repeat' split) <;> omega)
            · skip
              exact absurd c_33 (by decide)
          · skip
            refine lv_aload_n hx hb d_M_outBy_48 rfl (lv_at hl 1 rfl) ?_
            refine va_get (D := D) (ci := 5) (v := .ref (b 7)) (C := R_M) (T := T_M) (N := 27) hx hb hts (in_M _) hown hK hP 0 rfl rfl 10 (by decide) (ht _ m_600) (fun _ h9 => h9) rfl d_M_outBy_49 ?_
            refine lv_iload_n hx hb d_M_outBy_52 rfl (lv_at hl 3 rfl) ?_
            refine pr_iald hx hb hK hP 7 0 rfl rfl (by decide) (by omega) (by omega) d_M_outBy_53 ?_
            refine lv_iload_n hx hb d_M_outBy_54 rfl (lv_at hl 2 rfl) ?_
            refine pr_icmp_ne (tgt := 68) hx hb (i3_of (by omega) (by omega)) (i3_of (by omega) (by omega)) d_M_outBy_55 (by decide) (fun c_35 => ?_) (fun c_35 => ?_)
            · skip
              refine lv_iconst (v := iI (0)) hx hb d_M_outBy_68 rfl ?_
              refine lv_istore (lv' := [(5, .int (iI (0))), (3, .long (lI (m_flow nf S (mP mi) (y)))), (0, .ref (b 0)), (1, .int (iI (x))), (2, .int (iI (y)))]) hx hb d_M_outBy_69 hl (by decide) rfl (fun ls hl => ?_)
              refine lv_iload hx hb d_M_outBy_71 (lv_at hl 0 rfl) ?_
              refine pr_if_ne (tgt := 80) hx hb (i3_of (by decide) (by decide)) d_M_outBy_73 (by decide) (fun c_36 => ?_) (fun c_36 => ?_)
              · skip
                exact absurd c_36 (by decide)
              · skip
                refine lv_lconst (v := lI 0) hx hb d_M_outBy_76 (by decide) ?_
                refine lv_goto (tgt := 92) hx hb d_M_outBy_77 (by decide) ?_
                exact pr_rl hx hb hr hlocks d_M_outBy_92 (by unfold mo_out m_gv m_abs; rcases m_F_or nf ns S (mP mi) y with ⟨hc, hF⟩ | ⟨hc, hF⟩ <;> rw [hF] <;> (repeat' split) <;> omega)
            · skip
              refine lv_lload_n hx hb d_M_outBy_58 rfl (lv_at hl 0 rfl) ?_
              refine lv_lconst (v := lI 0) hx hb d_M_outBy_59 (by decide) ?_
              refine pr_lcmp_ge (tgt := 68) hx hb (i6_of (by omega) (by omega)) (i6_of (by decide) (by decide)) d_M_outBy_60 d_M_outBy_61 (by decide) (fun c_37 => ?_) (fun c_37 => ?_)
              · skip
                refine lv_iconst (v := iI (0)) hx hb d_M_outBy_68 rfl ?_
                refine lv_istore (lv' := [(5, .int (iI (0))), (3, .long (lI (m_flow nf S (mP mi) (y)))), (0, .ref (b 0)), (1, .int (iI (x))), (2, .int (iI (y)))]) hx hb d_M_outBy_69 hl (by decide) rfl (fun ls hl => ?_)
                refine lv_iload hx hb d_M_outBy_71 (lv_at hl 0 rfl) ?_
                refine pr_if_ne (tgt := 80) hx hb (i3_of (by decide) (by decide)) d_M_outBy_73 (by decide) (fun c_38 => ?_) (fun c_38 => ?_)
                · skip
                  exact absurd c_38 (by decide)
                · skip
                  refine lv_lconst (v := lI 0) hx hb d_M_outBy_76 (by decide) ?_
                  refine lv_goto (tgt := 92) hx hb d_M_outBy_77 (by decide) ?_
                  exact pr_rl hx hb hr hlocks d_M_outBy_92 (by unfold mo_out m_gv m_abs; rcases m_F_or nf ns S (mP mi) y with ⟨hc, hF⟩ | ⟨hc, hF⟩ <;> rw [hF] <;> (repeat' split) <;> omega)
              · skip
                refine lv_iconst (v := iI (1)) hx hb d_M_outBy_64 rfl ?_
                refine lv_goto (tgt := 69) hx hb d_M_outBy_65 (by decide) ?_
                refine lv_istore (lv' := [(5, .int (iI (1))), (3, .long (lI (m_flow nf S (mP mi) (y)))), (0, .ref (b 0)), (1, .int (iI (x))), (2, .int (iI (y)))]) hx hb d_M_outBy_69 hl (by decide) rfl (fun ls hl => ?_)
                refine lv_iload hx hb d_M_outBy_71 (lv_at hl 0 rfl) ?_
                refine pr_if_ne (tgt := 80) hx hb (i3_of (by decide) (by decide)) d_M_outBy_73 (by decide) (fun c_39 => ?_) (fun c_39 => ?_)
                · skip
                  refine lv_lload_n hx hb d_M_outBy_80 rfl (lv_at hl 1 rfl) ?_
                  refine lv_lconst (v := lI 0) hx hb d_M_outBy_81 (by decide) ?_
                  refine pr_lcmp_ge (tgt := 91) hx hb (i6_of (by omega) (by omega)) (i6_of (by decide) (by decide)) d_M_outBy_82 d_M_outBy_83 (by decide) (fun c_40 => ?_) (fun c_40 => ?_)
                  · skip
                    refine lv_lload_n hx hb d_M_outBy_91 rfl (lv_at hl 1 rfl) ?_
                    exact pr_rl hx hb hr hlocks d_M_outBy_92 (by unfold mo_out m_gv m_abs; rcases m_F_or nf ns S (mP mi) y with ⟨hc, hF⟩ | ⟨hc, hF⟩ <;> rw [hF] <;> (repeat' split) <;> omega)
                  · skip
                    refine lv_lload_n hx hb d_M_outBy_86 rfl (lv_at hl 1 rfl) ?_
                    refine pr_lneg hx hb d_M_outBy_87 ?_
                    refine lv_goto (tgt := 92) hx hb d_M_outBy_88 (by decide) ?_
                    exact pr_rl hx hb hr hlocks d_M_outBy_92 (by unfold mo_out m_gv m_abs; rcases m_F_or nf ns S (mP mi) y with ⟨hc, hF⟩ | ⟨hc, hF⟩ <;> rw [hF] <;> (repeat' split) <;> omega)
                · skip
                  exact absurd c_39 (by decide)
abbrev w_M_other : List Cond := .code y_M_other b_M_other 3 (some .int) :: pn_W
set_option maxHeartbeats 4000000 in
set_option maxRecDepth 100000 in
theorem c_M_other (l : Launch) {D : va_G} {b : Nat → Nat} {cI cL cZ : ClassId} {mi ml : Nat → Int → Int} {mz : Int → Int} {ms : Nat → Int} (nf : Nat → Int → Int) (ns : Nat → Int) (da : Int → Int → Int) (S : Nat) (x y : Int) (hOk : pn_Ok nf ns da) (hR : mn_R nf ns mi ms) (hne : ∀ k, 0 ≤ k → k < ns 1 → nf 3 k ≠ nf 4 k) (gx : 0 ≤ x ∧ x < 8) (gy : 0 ≤ y ∧ y < 24) (hg : m_gv nf (m_F nf ns S (mP mi)) y = x + 4) (hF : m_F nf ns S (mP mi) y ≠ 0) : Met l y_M_other w_M_other ({ frames := 0, cells := 0, slots := 0, locals := 0 }) (va_Pc [.ref (b 0), .int (iI (x)), .int (iI (y))] (fun U => va_P D pn_cl (mw b cI cL cZ mi ml mz ms) U.heap ∧ mn_E D cI cL cZ U)) (vp_Si (fun r => r = iI (m_tk nf (m_F nf ns S (mP mi)) y - 4))) 0 0 (fun _ => False) := by
  refine Met.ofW (cc := b_M_other) (maxL := 3) (ret := (some .int)) (by decide) rfl ?_
  intro p e s m args below meth c s₁ B hml hv
  obtain ⟨rfl, hP, hE⟩ := hv
  have hx := B.exec
  have hb := B.bytes
  have hr := B.returns
  have hts := atoms_spec (ws := w_M_other) B.pre
  have ht : ∀ w ∈ pn_W, w.before _ s = true := fun w h => hts w (List.mem_cons_of_mem _ h)
  have hown : s.vm.findClass R_M = some m.cls := findClass_of_methodNamed B.named
  have hlocks := B.notSynchronized
  have hK := hE
  have hl := lv_entry ([.ref (b 0), .int (iI (x)), .int (iI (y))]) (n := 3) (Nat.le_of_ble_eq_true rfl)
  rw [lg_entry_eq]
  generalize (lg_sl ([.ref (b 0), .int (iI (x)), .int (iI (y))]) ++ List.replicate (3 - (lg_sl ([.ref (b 0), .int (iI (x)), .int (iI (y))])).length) Slot.unset).toArray = ls at hl ⊢
  have hl : lv_has ls 3 [(0, .ref (b 0)), (1, .int (iI (x))), (2, .int (iI (y)))] := hl
  obtain ⟨o_zc, o_lc, o_fc, o_ve, o_wi, o_wa, o_vo, o_fr, o_to, o_he, o_ar, o_ki, o_st, o_ff, o_sl, o_dc, o_da⟩ := id hOk
  obtain ⟨r_zo, r_le, r_fa, r_wi, r_ai, r_wa, r_vo, r_lk, r_fn⟩ := id hR
  have hk : (y < 20 ∧ y < ns 1) ∨ (20 ≤ y ∧ y - 20 < ns 2) := Classical.byContradiction (fun q => hF (if_neg q))
  have a1 := o_fr y gy.1 gy.2
  have a2 := o_to y gy.1 gy.2
  have hv : m_F nf ns S (mP mi) y = m_flow nf S (mP mi) y := if_pos hk
  unfold m_gv at hg
  rw [hv] at hg hF
  refine lv_iload_n hx hb d_M_other_0 rfl (lv_at hl 2 rfl) ?_
  refine lv_bipush (v := iI (20)) hx hb d_M_other_1 (by decide) ?_
  refine pr_icmp_ge (tgt := 34) hx hb (i3_of (by omega) (by omega)) (i3_of (by decide) (by decide)) d_M_other_3 (by decide) (fun c_1 => ?_) (fun c_1 => ?_)
  · skip
    obtain ⟨k1, k2, -⟩ := r_fn (y - 20) (by omega) (by omega)
    rw [show 20 + (y - 20) = y by omega] at k1 k2
    have f0 : 0 ≤ m_flow nf S (mP mi) y := m_flow_fnn (by omega)
    refine lv_aload_n hx hb d_M_other_34 rfl (lv_at hl 0 rfl) ?_
    refine va_get (D := D) (ci := 5) (v := .ref (b 13)) (C := R_M) (T := T_M) (N := 27) hx hb hts (in_M _) hown hK hP 0 rfl rfl 17 (by decide) (ht _ m_607) (fun _ h9 => h9) rfl d_M_other_35 ?_
    refine lv_iload_n hx hb d_M_other_38 rfl (lv_at hl 2 rfl) ?_
    refine lv_bipush (v := iI (20)) hx hb d_M_other_39 (by decide) ?_
    refine pr_isub hx hb d_M_other_41 ?_
    refine pr_iald hx hb hK hP 13 0 rfl rfl (by decide) (by omega) (by omega) d_M_other_42 ?_
    exact pr_ri hx hb hr hlocks d_M_other_43 (by unfold m_tk; rw [hv]; by_cases cF : m_flow nf S (mP mi) y < 0; rw [if_pos cF] at hg ⊢; omega; rw [if_neg cF] at hg ⊢; omega)
  · skip
    obtain ⟨k1, k2, -⟩ := r_lk y (by omega) (by omega)
    have ne := hne y (by omega) (by omega)
    refine lv_aload_n hx hb d_M_other_6 rfl (lv_at hl 0 rfl) ?_
    refine va_get (D := D) (ci := 5) (v := .ref (b 6)) (C := R_M) (T := T_M) (N := 27) hx hb hts (in_M _) hown hK hP 0 rfl rfl 9 (by decide) (ht _ m_599) (fun _ h9 => h9) rfl d_M_other_7 ?_
    refine lv_iload_n hx hb d_M_other_10 rfl (lv_at hl 2 rfl) ?_
    refine pr_iald hx hb hK hP 6 0 rfl rfl (by decide) (by omega) (by omega) d_M_other_11 ?_
    refine lv_iload_n hx hb d_M_other_12 rfl (lv_at hl 1 rfl) ?_
    refine pr_icmp_ne (tgt := 25) hx hb (i3_of (by omega) (by omega)) (i3_of (by omega) (by omega)) d_M_other_13 (by decide) (fun c_2 => ?_) (fun c_2 => ?_)
    · skip
      refine lv_aload_n hx hb d_M_other_25 rfl (lv_at hl 0 rfl) ?_
      refine va_get (D := D) (ci := 5) (v := .ref (b 6)) (C := R_M) (T := T_M) (N := 27) hx hb hts (in_M _) hown hK hP 0 rfl rfl 9 (by decide) (ht _ m_599) (fun _ h9 => h9) rfl d_M_other_26 ?_
      refine lv_iload_n hx hb d_M_other_29 rfl (lv_at hl 2 rfl) ?_
      refine pr_iald hx hb hK hP 6 0 rfl rfl (by decide) (by omega) (by omega) d_M_other_30 ?_
      refine lv_goto (tgt := 43) hx hb d_M_other_31 (by decide) ?_
      exact pr_ri hx hb hr hlocks d_M_other_43 (by unfold m_tk; rw [hv]; by_cases cF : m_flow nf S (mP mi) y < 0; rw [if_pos cF] at hg ⊢; omega; rw [if_neg cF] at hg ⊢; omega)
    · skip
      refine lv_aload_n hx hb d_M_other_16 rfl (lv_at hl 0 rfl) ?_
      refine va_get (D := D) (ci := 5) (v := .ref (b 7)) (C := R_M) (T := T_M) (N := 27) hx hb hts (in_M _) hown hK hP 0 rfl rfl 10 (by decide) (ht _ m_600) (fun _ h9 => h9) rfl d_M_other_17 ?_
      refine lv_iload_n hx hb d_M_other_20 rfl (lv_at hl 2 rfl) ?_
      refine pr_iald hx hb hK hP 7 0 rfl rfl (by decide) (by omega) (by omega) d_M_other_21 ?_
      refine lv_goto (tgt := 43) hx hb d_M_other_22 (by decide) ?_
      exact pr_ri hx hb hr hlocks d_M_other_43 (by unfold m_tk; rw [hv]; by_cases cF : m_flow nf S (mP mi) y < 0; rw [if_pos cF] at hg ⊢; omega; rw [if_neg cF] at hg ⊢; omega)
abbrev w_M_thrown : List Cond := .code y_M_thrown b_M_thrown 1 (some .int) :: pn_W
set_option maxHeartbeats 4000000 in
set_option maxRecDepth 100000 in
theorem c_M_thrown (l : Launch) {D : va_G} {b : Nat → Nat} {cI cL cZ : ClassId} {mi ml : Nat → Int → Int} {mz : Int → Int} {ms : Nat → Int}   : Met l y_M_thrown w_M_thrown ({ frames := 0, cells := 0, slots := 0, locals := 0 }) (va_Pc [.ref (b 0)] (fun U => va_P D pn_cl (mw b cI cL cZ mi ml mz ms) U.heap ∧ mn_E D cI cL cZ U)) (vp_Si (fun r => r = iI (ms 0))) 0 0 (fun _ => False) := by
  refine Met.ofW (cc := b_M_thrown) (maxL := 1) (ret := (some .int)) (by decide) rfl ?_
  intro p e s m args below meth c s₁ B hml hv
  obtain ⟨rfl, hP, hE⟩ := hv
  have hx := B.exec
  have hb := B.bytes
  have hr := B.returns
  have hts := atoms_spec (ws := w_M_thrown) B.pre
  have ht : ∀ w ∈ pn_W, w.before _ s = true := fun w h => hts w (List.mem_cons_of_mem _ h)
  have hown : s.vm.findClass R_M = some m.cls := findClass_of_methodNamed B.named
  have hlocks := B.notSynchronized
  have hK := hE
  have hl := lv_entry ([.ref (b 0)]) (n := 1) (Nat.le_of_ble_eq_true rfl)
  rw [lg_entry_eq]
  generalize (lg_sl ([.ref (b 0)]) ++ List.replicate (1 - (lg_sl ([.ref (b 0)])).length) Slot.unset).toArray = ls at hl ⊢
  have hl : lv_has ls 1 [(0, .ref (b 0))] := hl
  refine lv_aload_n hx hb d_M_thrown_0 rfl (lv_at hl 0 rfl) ?_
  refine va_get (D := D) (ci := 5) (v := .int (iI (ms 0))) (C := R_M) (T := T_M) (N := 27) hx hb hts (in_M _) hown hK hP 0 rfl rfl 0 (by decide) (ht _ m_590) (fun _ h9 => h9) rfl d_M_thrown_1 ?_
  exact pr_ri hx hb hr hlocks d_M_thrown_4 (by first | rfl | exact (b2_t (by omega)).symm | exact (b2_f (by omega)).symm)
abbrev w_M_shutOnes : List Cond := .code y_M_shutOnes b_M_shutOnes 3 (some .int) :: pn_W
set_option maxHeartbeats 4000000 in
set_option maxRecDepth 100000 in
theorem c_M_shutOnes (l : Launch) {D : va_G} {b : Nat → Nat} {cI cL cZ : ClassId} {mi ml : Nat → Int → Int} {mz : Int → Int} {ms : Nat → Int} (nf : Nat → Int → Int) (ns : Nat → Int) (da : Int → Int → Int) (S : Nat)  (hOk : pn_Ok nf ns da) (hR : mn_R nf ns mi ms) (hS : S < 2 ^ (ns 1).toNat) (hz : ∀ t : Nat, t < 20 → mz (t : Int) = b2 (S.testBit t = true)) : Met l y_M_shutOnes w_M_shutOnes ({ frames := 0, cells := 0, slots := 0, locals := 0 }) (va_Pc [.ref (b 0)] (fun U => va_P D pn_cl (mw b cI cL cZ mi ml mz ms) U.heap ∧ mn_E D cI cL cZ U)) (vp_Si (fun r => r = iI (((S : Nat) : Int)))) 0 0 (fun _ => False) := by
  refine Met.ofW (cc := b_M_shutOnes) (maxL := 3) (ret := (some .int)) (by decide) rfl ?_
  intro p e s m args below meth c s₁ B hml hv
  obtain ⟨rfl, hP, hE⟩ := hv
  have hx := B.exec
  have hb := B.bytes
  have hr := B.returns
  have hts := atoms_spec (ws := w_M_shutOnes) B.pre
  have ht : ∀ w ∈ pn_W, w.before _ s = true := fun w h => hts w (List.mem_cons_of_mem _ h)
  have hown : s.vm.findClass R_M = some m.cls := findClass_of_methodNamed B.named
  have hlocks := B.notSynchronized
  have hK := hE
  have hl := lv_entry ([.ref (b 0)]) (n := 3) (Nat.le_of_ble_eq_true rfl)
  rw [lg_entry_eq]
  generalize (lg_sl ([.ref (b 0)]) ++ List.replicate (3 - (lg_sl ([.ref (b 0)])).length) Slot.unset).toArray = ls at hl ⊢
  have hl : lv_has ls 3 [(0, .ref (b 0))] := hl
  obtain ⟨o_zc, o_lc, o_fc, o_ve, o_wi, o_wa, o_vo, o_fr, o_to, o_he, o_ar, o_ki, o_st, o_ff, o_sl, o_dc, o_da⟩ := id hOk
  obtain ⟨r_zo, r_le, r_fa, r_wi, r_ai, r_wa, r_vo, r_lk, r_fn⟩ := id hR
  have loop : ∀ (n : Nat) (t : Nat) (ls : Array Slot), ((t : Int) ≤ ns 1) → ((ns 1).toNat - t) < n → lv_has ls 3 [(0, .ref (b 0)), (1, .int (iI (((S % 2 ^ t : Nat) : Int)))), (2, .int (iI (((t : Nat) : Int))))] → W p l e (headSpec w_M_shutOnes ({ frames := 0, cells := 0, slots := 0, locals := 0 })).room s m ([.ref (b 0)] : List Value).toArray below meth c s.heap [] 0 0 (MQ below (vp_Si (fun r => r = iI (((S : Nat) : Int)))) ([.ref (b 0)] : List Value).toArray s 0 0 (fun _ => False)) (F0 m 4 ls []) := by
    intro n
    induction n with
    | zero => intro t ls _ hm; exact absurd hm (Nat.not_lt_zero _)
    | succ n ih =>
      intro t ls q1 hm hl
      refine lv_iload_n hx hb d_M_shutOnes_4 rfl (lv_at hl 2 rfl) ?_
      refine lv_aload_n hx hb d_M_shutOnes_5 rfl (lv_at hl 0 rfl) ?_
      refine va_get (D := D) (ci := 5) (v := .int (iI (ms 3))) (C := R_M) (T := T_M) (N := 27) hx hb hts (in_M _) hown hK hP 0 rfl rfl 8 (by decide) (ht _ m_598) (fun _ h9 => h9) rfl d_M_shutOnes_6 ?_
      refine pr_icmp_ge (tgt := 37) hx hb (i3_of (by omega) (by omega)) (i3_of (by omega) (by omega)) d_M_shutOnes_9 (by decide) (fun c_1 => ?_) (fun c_1 => ?_)
      · skip
        have ht9 : t = (ns 1).toNat := by omega
        refine lv_iload_n hx hb d_M_shutOnes_37 rfl (lv_at hl 1 rfl) ?_
        exact pr_ri hx hb hr hlocks d_M_shutOnes_38 (by rw [ht9, Nat.mod_eq_of_lt hS])
      · skip
        refine lv_iload_n hx hb d_M_shutOnes_12 rfl (lv_at hl 1 rfl) ?_
        refine lv_aload_n hx hb d_M_shutOnes_13 rfl (lv_at hl 0 rfl) ?_
        refine va_get (D := D) (ci := 5) (v := .ref (b 11)) (C := R_M) (T := T_M) (N := 27) hx hb hts (in_M _) hown hK hP 0 rfl rfl 14 (by decide) (ht _ m_604) (fun _ h9 => h9) rfl d_M_shutOnes_14 ?_
        refine lv_iload_n hx hb d_M_shutOnes_17 rfl (lv_at hl 2 rfl) ?_
        refine pr_zald hx hb hK hP 11 2 rfl rfl (by decide) (by omega) (by omega) d_M_shutOnes_18 ?_
        refine pr_ire (B := b2 ((S).testBit (t) = true)) (hz t (by omega)) ?_
        refine pr_if_eq (tgt := 28) hx hb (i3_b2 _) d_M_shutOnes_19 (by decide) (fun c_2 => ?_) (fun c_2 => ?_)
        · replace c_2 := b2_0 c_2
          refine lv_iconst (v := iI (0)) hx hb d_M_shutOnes_28 rfl ?_
          refine lv_ior hx hb d_M_shutOnes_29 ?_
          refine pr_ixe (B := ((S % 2 ^ (t + 1) : Nat) : Int)) (by rw [show (0 : Int) = ((0 : Nat) : Int) from rfl, iI_or, ← nb_modor, if_neg (by assumption)]) ?_
          refine lv_istore_n (lv' := [(1, .int (iI (((S % 2 ^ (t + 1) : Nat) : Int)))), (0, .ref (b 0)), (2, .int (iI (((t : Nat) : Int))))]) hx hb d_M_shutOnes_30 rfl hl (by decide) rfl (fun ls hl => ?_)
          refine lv_iinc (v := iI (((t : Nat) : Int) + 1)) (lv' := [(2, .int (iI (((t : Nat) : Int) + 1))), (1, .int (iI (((S % 2 ^ (t + 1) : Nat) : Int)))), (0, .ref (b 0))]) hx hb d_M_shutOnes_31 hl (k := 2) rfl (iI_add _ _).symm (by decide) rfl (fun ls hl => ?_)
          refine lv_goto (tgt := 4) hx hb d_M_shutOnes_34 (by decide) ?_
          exact ih (t + 1) ls (by omega) (by omega) (lv_sub hl [2, 1, 0] rfl)
        · replace c_2 := b2_n1 c_2
          refine lv_iconst (v := iI (1)) hx hb d_M_shutOnes_22 rfl ?_
          refine lv_iload_n hx hb d_M_shutOnes_23 rfl (lv_at hl 2 rfl) ?_
          refine lv_ishl hx hb d_M_shutOnes_24 ?_
          refine pr_ixe (B := ((2 ^ t : Nat) : Int)) (nb_sh (by omega)) ?_
          refine lv_goto (tgt := 29) hx hb d_M_shutOnes_25 (by decide) ?_
          refine lv_ior hx hb d_M_shutOnes_29 ?_
          refine pr_ixe (B := ((S % 2 ^ (t + 1) : Nat) : Int)) (by rw [iI_or, ← nb_modor, if_pos (by assumption)]) ?_
          refine lv_istore_n (lv' := [(1, .int (iI (((S % 2 ^ (t + 1) : Nat) : Int)))), (0, .ref (b 0)), (2, .int (iI (((t : Nat) : Int))))]) hx hb d_M_shutOnes_30 rfl hl (by decide) rfl (fun ls hl => ?_)
          refine lv_iinc (v := iI (((t : Nat) : Int) + 1)) (lv' := [(2, .int (iI (((t : Nat) : Int) + 1))), (1, .int (iI (((S % 2 ^ (t + 1) : Nat) : Int)))), (0, .ref (b 0))]) hx hb d_M_shutOnes_31 hl (k := 2) rfl (iI_add _ _).symm (by decide) rfl (fun ls hl => ?_)
          refine lv_goto (tgt := 4) hx hb d_M_shutOnes_34 (by decide) ?_
          exact ih (t + 1) ls (by omega) (by omega) (lv_sub hl [2, 1, 0] rfl)
  refine lv_iconst (v := iI (0)) hx hb d_M_shutOnes_0 rfl ?_
  refine pr_ire (B := ((S % 2 ^ 0 : Nat) : Int)) (by rw [Nat.pow_zero, Nat.mod_one]; rfl) ?_
  refine lv_istore_n (lv' := [(1, .int (iI (((S % 2 ^ 0 : Nat) : Int)))), (0, .ref (b 0))]) hx hb d_M_shutOnes_1 rfl hl (by decide) rfl (fun ls hl => ?_)
  refine lv_iconst (v := iI (0)) hx hb d_M_shutOnes_2 rfl ?_
  refine lv_istore_n (lv' := [(2, .int (iI (0))), (1, .int (iI (((S % 2 ^ 0 : Nat) : Int)))), (0, .ref (b 0))]) hx hb d_M_shutOnes_3 rfl hl (by decide) rfl (fun ls hl => ?_)
  exact loop _ (0) ls (by omega) (Nat.lt_succ_self _) (lv_sub hl [2, 1, 0] rfl)
