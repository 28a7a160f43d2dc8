theorem m_flow_ref {nf : Nat → Int → Int} {S : Nat} {P : Int → Int} {d : Int} (h : d < 20) (b : ¬ S.testBit d.toNat = true) : m_flow nf S P d = m_leak (nf 6 d) (nf 7 d) (m_drive nf P d) := by
  unfold m_flow
  rw [if_neg (by omega), if_neg b]
theorem m_flow_fnn {nf : Nat → Int → Int} {S : Nat} {P : Int → Int} {d : Int} (h : 20 ≤ d) : 0 ≤ m_flow nf S P d := by
  rw [m_flow_fan h]
  omega
theorem nb_modor (S t : Nat) : (S % 2 ^ t) ||| (if S.testBit t = true then 2 ^ t else 0) = S % 2 ^ (t + 1) := by
  apply Nat.eq_of_testBit_eq
  intro i
  rw [Nat.testBit_or, Nat.testBit_mod_two_pow, Nat.testBit_mod_two_pow]
  by_cases h : S.testBit t = true
  · rw [if_pos h, Nat.testBit_two_pow]
    by_cases e : t = i
    · subst e; simp [h]
    · have : (i < t) ↔ (i < t + 1) := by omega
      simp [e, this]
  · rw [if_neg h, Nat.zero_testBit]
    by_cases e : t = i
    · subst e; simp [h]
    · have : (i < t) ↔ (i < t + 1) := by omega
      simp [this]
/-- what a zone gives by a duct -/
def mo_out (nf : Nat → Int → Int) (F : Int → Int) (z d : Int) : Int := if m_gv nf F d = z + 4 then m_abs (F d) else 0
section PZ
variable {p : Program} {l : Launch} {e : Env} {R : Room} {s : State} {m : MethodId} {args : Array Value} {below : List Frame} {meth : Method} {c : Code} {H : Heap} {locs : List Loc} {cells slots : Nat} {Q : State → Prop}
variable {cc : ByteArray} {pc : Nat} {ls : Array Slot} {rest : List Value} {D : va_G} {cl : List vw_C} {A0 : Nat → Prop} {a : Nat} {tys : List (ClassId × FieldType)} {ws : va_W} {H0 : Heap}
theorem pr_zald (hx : p.tables.exec = Jvm.exec) (hb : c.code = cc) (hK : va_K D cl tys s) (hP : va_P D cl ws H) (q0 t0 : Nat) {cA : ClassId} {n : Nat} {f : Int → Int} (ha : ws[q0]? = some (a, .inl (cA, n, .inl (ai f)))) (ht : tys[t0]? = some (cA, .boolean)) {V : Int} (hn : n ≤ 2147483647) (h0 : 0 ≤ V) (h1 : V < n) (hd : decode cc pc = .ok (.baload, 1))
    (k : W p l e R s m args below meth c H locs cells slots Q (F0 m (pc + 1) ls (.int (iI (f V)) :: rest))) : W p l e R s m args below meth c H locs cells slots Q (F0 m pc ls (.int (iI V) :: .ref a :: rest)) :=
  va_zald hx hb hK hP q0 t0 ha ht (iI_in hn h0 h1) hd (by rw [iI_clamp h0 (by omega), ai_at f h0]; exact k)
theorem pr_zast (hx : p.tables.exec = Jvm.exec) (hb : c.code = cc) (hK : va_K D cl tys s) (hP : va_P D cl ws H) (hD : va_D A0 ws) (hS : va_S A0 H0 H locs) (q0 t0 : Nat) {cA : ClassId} {n : Nat} {f : Int → Int} (ha : ws[q0]? = some (a, .inl (cA, n, .inl (ai f)))) (ht : tys[t0]? = some (cA, .boolean)) {V x : Int} {ws' : va_W} (hz : x = 0 ∨ x = 1) (hn : n ≤ 2147483647) (h0 : 0 ≤ V) (h1 : V < n) (hw : ws.set q0 (a, .inl (cA, n, .inl (ai (pu f V x)))) = ws') (hd : decode cc pc = .ok (.bastore, 1))
    (k : ∀ (H1 : Heap) (locs1 : List Loc), va_P D cl ws' H1 → va_D A0 ws' → va_S A0 H0 H1 locs1 → W p l e R s m args below meth c H1 locs1 cells slots Q (F0 m (pc + 1) ls rest)) : W p l e R s m args below meth c H locs cells slots Q (F0 m pc ls (.int (iI x) :: .int (iI V) :: .ref a :: rest)) := by
  subst hw
  refine va_zast hx hb hK hP hD hS q0 t0 ha ht (iI_in hn h0 h1) hd (fun H1 locs1 q1 q2 q3 => ?_)
  have hv : vp_nar .boolean (iI x) = iI x := by rcases hz with h | h <;> rw [h] <;> decide
  rw [hv, iI_clamp h0 (by omega), ai_up f x h0] at q1 q2
  exact k H1 locs1 q1 q2 q3
end PZ
abbrev w_M_flowOf : List Cond := .code y_M_flowOf b_M_flowOf 8 (some .long) :: pn_W
set_option maxHeartbeats 4000000 in
set_option maxRecDepth 100000 in
theorem c_M_flowOf (l : Launch) {D : va_G} {b : Nat → Nat} {cI cL cZ : ClassId} {mi ml : Nat → Int → Int} {mz : Int → Int} {ms : Nat → Int} (nf : Nat → Int → Int) (ns : Nat → Int) (da : Int → Int → Int) (S : Nat) (x : Int) (hOk : pn_Ok nf ns da) (hR : mn_R nf ns mi ms) (hS6 : ms 6 = ((S : Nat) : Int)) (hS : S < 2 ^ 20) (hPr : pn_Pr (mP mi)) (gx : 0 ≤ x ∧ x < ns 1) : Met l y_M_flowOf w_M_flowOf ({ frames := 2, cells := 0, slots := 0, locals := 43 }) (va_Pc [.ref (b 0), .int (iI (x))] (fun U => va_P D pn_cl (mw b cI cL cZ mi ml mz ms) U.heap ∧ mn_E D cI cL cZ U)) (vp_Sl (fun r => r = lI (m_flow nf S (mP mi) x))) 0 0 (fun _ => False) := by
  refine Met.ofW (cc := b_M_flowOf) (maxL := 8) (ret := (some .long)) (by decide) rfl ?_
  intro p e s m args below meth c s₁ B hml hv
  obtain ⟨rfl, hP, hE⟩ := hv
  have hx := B.exec
  have hb := B.bytes
  have hr := B.returns
  have hts := atoms_spec (ws := w_M_flowOf) B.pre
  have ht : ∀ w ∈ pn_W, w.before _ s = true := fun w h => hts w (List.mem_cons_of_mem _ h)
  have hown : s.vm.findClass R_M = some m.cls := findClass_of_methodNamed B.named
  have hlocks := B.notSynchronized
  have hK := hE
  have hl := lv_entry ([.ref (b 0), .int (iI (x))]) (n := 8) (Nat.le_of_ble_eq_true rfl)
  rw [lg_entry_eq]
  generalize (lg_sl ([.ref (b 0), .int (iI (x))]) ++ List.replicate (8 - (lg_sl ([.ref (b 0), .int (iI (x))])).length) Slot.unset).toArray = ls at hl ⊢
  have hl : lv_has ls 8 [(0, .ref (b 0)), (1, .int (iI (x)))] := hl
  obtain ⟨o_zc, o_lc, o_fc, o_ve, o_wi, o_wa, o_vo, o_fr, o_to, o_he, o_ar, o_ki, o_st, o_ff, o_sl, o_dc, o_da⟩ := id hOk
  obtain ⟨r_zo, r_le, r_fa, r_wi, r_ai, r_wa, r_vo, r_lk, r_fn⟩ := id hR
  obtain ⟨k1, k2, k3, k4, k5, k6⟩ := r_lk x gx.1 gx.2
  have dr := m_drive_b (j := x) hOk hPr gx.1 (by omega)
  have a5 := o_ki x gx.1 (by omega)
  have a6 := o_ar x gx.1 (by omega)
  rw [← k4] at a6
  rw [← k5] at a5
  refine lv_aload_n hx hb d_M_flowOf_0 rfl (lv_at hl 0 rfl) ?_
  refine va_get (D := D) (ci := 5) (v := .int (iI (ms 6))) (C := R_M) (T := T_M) (N := 27) hx hb hts (in_M _) hown hK hP 0 rfl rfl 24 (by decide) (ht _ m_614) (fun _ h9 => h9) rfl d_M_flowOf_1 ?_
  refine pr_ire (B := ((S : Nat) : Int)) hS6 ?_
  refine lv_iload_n hx hb d_M_flowOf_4 rfl (lv_at hl 1 rfl) ?_
  refine pr_ire (B := ((x.toNat : Nat) : Int)) (Int.toNat_of_nonneg gx.1).symm ?_
  refine lv_ishr hx hb d_M_flowOf_5 ?_
  refine lv_iconst (v := iI 1) hx hb d_M_flowOf_6 rfl ?_
  refine lv_iand hx hb d_M_flowOf_7 ?_
  refine pr_ixe (B := b2 ((S).testBit (x.toNat) = true)) (nb_bit (by omega) (by omega)) ?_
  by_cases hB : (S).testBit (x.toNat) = true
  · refine pr_ire (B := 1) (b2_t hB) ?_
    refine lv_iconst (v := iI (1)) hx hb d_M_flowOf_8 rfl ?_
    refine pr_icmp_ne (tgt := 14) hx hb (i3_of (by decide) (by decide)) (i3_of (by decide) (by decide)) d_M_flowOf_9 (by decide) (fun c_1 => ?_) (fun c_1 => ?_)
    · skip
      exact absurd rfl c_1
    · skip
      refine lv_lconst (v := lI 0) hx hb d_M_flowOf_12 (by decide) ?_
      exact pr_rl hx hb hr hlocks d_M_flowOf_13 (by first | (exfalso; omega) | exact (m_flow_shut (by omega) (by assumption)).symm | (rw [m_flow_ref (by omega) (by assumption)]; unfold m_leak m_root; rw [← k4, ← k5]; first | (rw [if_pos (by assumption), Int.mul_neg, Int.neg_neg]; done) | (rw [if_pos (by assumption)]; done) | (rw [if_neg (by assumption), if_pos (by assumption)]; done) | (rw [if_neg (by assumption), if_neg (by omega)]; done)))
  · refine pr_ire (B := 0) (b2_f hB) ?_
    refine lv_iconst (v := iI (1)) hx hb d_M_flowOf_8 rfl ?_
    refine pr_icmp_ne (tgt := 14) hx hb (i3_of (by decide) (by decide)) (i3_of (by decide) (by decide)) d_M_flowOf_9 (by decide) (fun c_2 => ?_) (fun c_2 => ?_)
    · skip
      refine lv_aload_n hx hb d_M_flowOf_14 rfl (lv_at hl 0 rfl) ?_
      refine lv_iload_n hx hb d_M_flowOf_15 rfl (lv_at hl 1 rfl) ?_
      refine pr_pi (va_runV (As := [.int (iI (x))]) (rest := []) ⟨hx, hb, hml, hown, hts⟩ (c_M_driveOf l nf ns da (mi := mi) (ms := ms) (x) hOk hR ⟨by omega, by omega⟩) (cwV 1 hts (pn_gV m_747 m_749 m_24 m_38 m_750) rfl rfl rfl (by decide +kernel) ⟨Nat.le_of_ble_eq_true rfl, Nat.le_of_ble_eq_true rfl⟩) (mn_preV (q0 := 0) (ci := 5) (q := (R_M, T_M, 27)) hP hE rfl rfl) rfl rfl hl.1 rfl (lv_room (Nat.le_of_ble_eq_true rfl)) d_M_flowOf_16 ⟨Nat.le_of_ble_eq_true rfl, Nat.le_of_ble_eq_true rfl⟩) ?_
      refine pr_i2l hx hb (i3_of (by omega) (by omega)) d_M_flowOf_19 ?_
      refine lv_lstore_n (lv' := [(2, .long (lI (m_drive nf (mP mi) (x)))), (0, .ref (b 0)), (1, .int (iI (x)))]) hx hb d_M_flowOf_20 rfl hl (by decide) rfl (fun ls hl => ?_)
      refine lv_lload_n hx hb d_M_flowOf_21 rfl (lv_at hl 0 rfl) ?_
      refine lv_lconst (v := lI 0) hx hb d_M_flowOf_22 (by decide) ?_
      refine pr_lcmp_ge (tgt := 32) hx hb (i6_of (by omega) (by omega)) (i6_of (by decide) (by decide)) d_M_flowOf_23 d_M_flowOf_24 (by decide) (fun c_3 => ?_) (fun c_3 => ?_)
      · skip
        refine lv_lload_n hx hb d_M_flowOf_32 rfl (lv_at hl 0 rfl) ?_
        refine lv_lstore (lv' := [(4, .long (lI (m_drive nf (mP mi) (x)))), (2, .long (lI (m_drive nf (mP mi) (x)))), (0, .ref (b 0)), (1, .int (iI (x)))]) hx hb d_M_flowOf_33 hl (by decide) rfl (fun ls hl => ?_)
        refine lv_aload_n hx hb d_M_flowOf_35 rfl (lv_at hl 2 rfl) ?_
        refine va_get (D := D) (ci := 5) (v := .ref (b 10)) (C := R_M) (T := T_M) (N := 27) hx hb hts (in_M _) hown hK hP 0 rfl rfl 13 (by decide) (ht _ m_603) (fun _ h9 => h9) rfl d_M_flowOf_36 ?_
        refine lv_iload_n hx hb d_M_flowOf_39 rfl (lv_at hl 3 rfl) ?_
        refine pr_iald hx hb hK hP 10 0 rfl rfl (by decide) (by omega) (by omega) d_M_flowOf_40 ?_
        refine lv_iconst (v := iI (1)) hx hb d_M_flowOf_41 rfl ?_
        refine pr_icmp_ne (tgt := 58) hx hb (i3_of (by omega) (by omega)) (i3_of (by decide) (by decide)) d_M_flowOf_42 (by decide) (fun c_4 => ?_) (fun c_4 => ?_)
        · skip
          refine lv_aload_n hx hb d_M_flowOf_58 rfl (lv_at hl 2 rfl) ?_
          refine va_get (D := D) (ci := 5) (v := .ref (b 9)) (C := R_M) (T := T_M) (N := 27) hx hb hts (in_M _) hown hK hP 0 rfl rfl 12 (by decide) (ht _ m_602) (fun _ h9 => h9) rfl d_M_flowOf_59 ?_
          refine lv_iload_n hx hb d_M_flowOf_62 rfl (lv_at hl 3 rfl) ?_
          refine pr_iald hx hb hK hP 9 0 rfl rfl (by decide) (by omega) (by omega) d_M_flowOf_63 ?_
          refine pr_i2l hx hb (i3_of (by omega) (by omega)) d_M_flowOf_64 ?_
          refine lv_aload_n hx hb d_M_flowOf_65 rfl (lv_at hl 2 rfl) ?_
          refine va_get (D := D) (ci := 5) (v := .ref (b 9)) (C := R_M) (T := T_M) (N := 27) hx hb hts (in_M _) hown hK hP 0 rfl rfl 12 (by decide) (ht _ m_602) (fun _ h9 => h9) rfl d_M_flowOf_66 ?_
          refine lv_iload_n hx hb d_M_flowOf_69 rfl (lv_at hl 3 rfl) ?_
          refine pr_iald hx hb hK hP 9 0 rfl rfl (by decide) (by omega) (by omega) d_M_flowOf_70 ?_
          refine pr_i2l hx hb (i3_of (by omega) (by omega)) d_M_flowOf_71 ?_
          refine pr_lmul hx hb d_M_flowOf_72 ?_
          refine lv_lload hx hb d_M_flowOf_73 (lv_at hl 0 rfl) ?_
          refine pr_lmul hx hb d_M_flowOf_75 ?_
          have n1 := Int.mul_nonneg (Int.mul_nonneg a6.1 a6.1) (show (0 : Int) ≤ m_drive nf (mP mi) (x) by omega)
          have n0 := mul_b (x := mi 7 (x)) (y := mi 7 (x)) (X := 1000) (Y := 1000) (by omega) (by omega) (by omega) (by omega)
          have n2 := mul_b (x := (mi 7 (x)) * (mi 7 (x))) (y := m_drive nf (mP mi) (x)) (X := 1000000) (Y := 30000) (by omega) (by omega) (by omega) (by omega)
          refine pr_pl (va_runS (As := [.long (lI (((mi 7 (x)) * (mi 7 (x))) * (m_drive nf (mP mi) (x))))]) (rest := []) ⟨hx, hb, hml, hown, hts⟩ (c_M_rootOf l (((mi 7 (x)) * (mi 7 (x))) * (m_drive nf (mP mi) (x))) ⟨by omega, by omega⟩) (cwS 1 hts (pn_gS m_755 m_756 m_38 m_757) rfl rfl rfl (by decide +kernel) ⟨Nat.le_of_ble_eq_true rfl, Nat.le_of_ble_eq_true rfl⟩) pn_pre0 rfl rfl hl.1 rfl (lv_room (Nat.le_of_ble_eq_true rfl)) d_M_flowOf_76 ⟨Nat.le_of_ble_eq_true rfl, Nat.le_of_ble_eq_true rfl⟩) ?_
          refine lv_lstore (lv' := [(6, .long (lI (((pn_sq (((mi 7 (x)) * (mi 7 (x))) * (m_drive nf (mP mi) (x))).toNat : Nat) : Int)))), (4, .long (lI (m_drive nf (mP mi) (x)))), (2, .long (lI (m_drive nf (mP mi) (x)))), (0, .ref (b 0)), (1, .int (iI (x)))]) hx hb d_M_flowOf_79 hl (by decide) rfl (fun ls hl => ?_)
          refine lv_lload_n hx hb d_M_flowOf_81 rfl (lv_at hl 2 rfl) ?_
          refine lv_lconst (v := lI 0) hx hb d_M_flowOf_82 (by decide) ?_
          refine pr_lcmp_ge (tgt := 93) hx hb (i6_of (by omega) (by omega)) (i6_of (by decide) (by decide)) d_M_flowOf_83 d_M_flowOf_84 (by decide) (fun c_5 => ?_) (fun c_5 => ?_)
          · skip
            refine lv_lload hx hb d_M_flowOf_93 (lv_at hl 0 rfl) ?_
            exact pr_rl hx hb hr hlocks d_M_flowOf_95 (by first | (exfalso; omega) | exact (m_flow_shut (by omega) (by assumption)).symm | (rw [m_flow_ref (by omega) (by assumption)]; unfold m_leak m_root; rw [← k4, ← k5]; first | (rw [if_pos (by assumption), Int.mul_neg, Int.neg_neg]; done) | (rw [if_pos (by assumption)]; done) | (rw [if_neg (by assumption), if_pos (by assumption)]; done) | (rw [if_neg (by assumption), if_neg (by omega)]; done)))
          · skip
            refine lv_lload hx hb d_M_flowOf_87 (lv_at hl 0 rfl) ?_
            refine pr_lneg hx hb d_M_flowOf_89 ?_
            refine lv_goto (tgt := 95) hx hb d_M_flowOf_90 (by decide) ?_
            exact pr_rl hx hb hr hlocks d_M_flowOf_95 (by first | (exfalso; omega) | exact (m_flow_shut (by omega) (by assumption)).symm | (rw [m_flow_ref (by omega) (by assumption)]; unfold m_leak m_root; rw [← k4, ← k5]; first | (rw [if_pos (by assumption), Int.mul_neg, Int.neg_neg]; done) | (rw [if_pos (by assumption)]; done) | (rw [if_neg (by assumption), if_pos (by assumption)]; done) | (rw [if_neg (by assumption), if_neg (by omega)]; done)))
        · skip
          refine lv_aload_n hx hb d_M_flowOf_45 rfl (lv_at hl 2 rfl) ?_
          refine va_get (D := D) (ci := 5) (v := .ref (b 9)) (C := R_M) (T := T_M) (N := 27) hx hb hts (in_M _) hown hK hP 0 rfl rfl 12 (by decide) (ht _ m_602) (fun _ h9 => h9) rfl d_M_flowOf_46 ?_
          refine lv_iload_n hx hb d_M_flowOf_49 rfl (lv_at hl 3 rfl) ?_
          refine pr_iald hx hb hK hP 9 0 rfl rfl (by decide) (by omega) (by omega) d_M_flowOf_50 ?_
          refine pr_i2l hx hb (i3_of (by omega) (by omega)) d_M_flowOf_51 ?_
          refine lv_lload hx hb d_M_flowOf_52 (lv_at hl 0 rfl) ?_
          refine pr_lmul hx hb d_M_flowOf_54 ?_
          refine lv_goto (tgt := 79) hx hb d_M_flowOf_55 (by decide) ?_
          refine lv_lstore (lv' := [(6, .long (lI ((mi 7 (x)) * (m_drive nf (mP mi) (x))))), (4, .long (lI (m_drive nf (mP mi) (x)))), (2, .long (lI (m_drive nf (mP mi) (x)))), (0, .ref (b 0)), (1, .int (iI (x)))]) hx hb d_M_flowOf_79 hl (by decide) rfl (fun ls hl => ?_)
          refine lv_lload_n hx hb d_M_flowOf_81 rfl (lv_at hl 2 rfl) ?_
          refine lv_lconst (v := lI 0) hx hb d_M_flowOf_82 (by decide) ?_
          refine pr_lcmp_ge (tgt := 93) hx hb (i6_of (by omega) (by omega)) (i6_of (by decide) (by decide)) d_M_flowOf_83 d_M_flowOf_84 (by decide) (fun c_6 => ?_) (fun c_6 => ?_)
          · skip
            refine lv_lload hx hb d_M_flowOf_93 (lv_at hl 0 rfl) ?_
            exact pr_rl hx hb hr hlocks d_M_flowOf_95 (by first | (exfalso; omega) | exact (m_flow_shut (by omega) (by assumption)).symm | (rw [m_flow_ref (by omega) (by assumption)]; unfold m_leak m_root; rw [← k4, ← k5]; first | (rw [if_pos (by assumption), Int.mul_neg, Int.neg_neg]; done) | (rw [if_pos (by assumption)]; done) | (rw [if_neg (by assumption), if_pos (by assumption)]; done) | (rw [if_neg (by assumption), if_neg (by omega)]; done)))
          · skip
            refine lv_lload hx hb d_M_flowOf_87 (lv_at hl 0 rfl) ?_
            refine pr_lneg hx hb d_M_flowOf_89 ?_
            refine lv_goto (tgt := 95) hx hb d_M_flowOf_90 (by decide) ?_
            exact pr_rl hx hb hr hlocks d_M_flowOf_95 (by first | (exfalso; omega) | exact (m_flow_shut (by omega) (by assumption)).symm | (rw [m_flow_ref (by omega) (by assumption)]; unfold m_leak m_root; rw [← k4, ← k5]; first | (rw [if_pos (by assumption), Int.mul_neg, Int.neg_neg]; done) | (rw [if_pos (by assumption)]; done) | (rw [if_neg (by assumption), if_pos (by assumption)]; done) | (rw [if_neg (by assumption), if_neg (by omega)]; done)))
      · skip
        refine lv_lload_n hx hb d_M_flowOf_27 rfl (lv_at hl 0 rfl) ?_
        refine pr_lneg hx hb d_M_flowOf_28 ?_
        refine lv_goto (tgt := 33) hx hb d_M_flowOf_29 (by decide) ?_
        refine lv_lstore (lv' := [(4, .long (lI (-(m_drive nf (mP mi) (x))))), (2, .long (lI (m_drive nf (mP mi) (x)))), (0, .ref (b 0)), (1, .int (iI (x)))]) hx hb d_M_flowOf_33 hl (by decide) rfl (fun ls hl => ?_)
        refine lv_aload_n hx hb d_M_flowOf_35 rfl (lv_at hl 2 rfl) ?_
        refine va_get (D := D) (ci := 5) (v := .ref (b 10)) (C := R_M) (T := T_M) (N := 27) hx hb hts (in_M _) hown hK hP 0 rfl rfl 13 (by decide) (ht _ m_603) (fun _ h9 => h9) rfl d_M_flowOf_36 ?_
        refine lv_iload_n hx hb d_M_flowOf_39 rfl (lv_at hl 3 rfl) ?_
        refine pr_iald hx hb hK hP 10 0 rfl rfl (by decide) (by omega) (by omega) d_M_flowOf_40 ?_
        refine lv_iconst (v := iI (1)) hx hb d_M_flowOf_41 rfl ?_
        refine pr_icmp_ne (tgt := 58) hx hb (i3_of (by omega) (by omega)) (i3_of (by decide) (by decide)) d_M_flowOf_42 (by decide) (fun c_7 => ?_) (fun c_7 => ?_)
        · skip
          refine lv_aload_n hx hb d_M_flowOf_58 rfl (lv_at hl 2 rfl) ?_
          refine va_get (D := D) (ci := 5) (v := .ref (b 9)) (C := R_M) (T := T_M) (N := 27) hx hb hts (in_M _) hown hK hP 0 rfl rfl 12 (by decide) (ht _ m_602) (fun _ h9 => h9) rfl d_M_flowOf_59 ?_
          refine lv_iload_n hx hb d_M_flowOf_62 rfl (lv_at hl 3 rfl) ?_
          refine pr_iald hx hb hK hP 9 0 rfl rfl (by decide) (by omega) (by omega) d_M_flowOf_63 ?_
          refine pr_i2l hx hb (i3_of (by omega) (by omega)) d_M_flowOf_64 ?_
          refine lv_aload_n hx hb d_M_flowOf_65 rfl (lv_at hl 2 rfl) ?_
          refine va_get (D := D) (ci := 5) (v := .ref (b 9)) (C := R_M) (T := T_M) (N := 27) hx hb hts (in_M _) hown hK hP 0 rfl rfl 12 (by decide) (ht _ m_602) (fun _ h9 => h9) rfl d_M_flowOf_66 ?_
          refine lv_iload_n hx hb d_M_flowOf_69 rfl (lv_at hl 3 rfl) ?_
          refine pr_iald hx hb hK hP 9 0 rfl rfl (by decide) (by omega) (by omega) d_M_flowOf_70 ?_
          refine pr_i2l hx hb (i3_of (by omega) (by omega)) d_M_flowOf_71 ?_
          refine pr_lmul hx hb d_M_flowOf_72 ?_
          refine lv_lload hx hb d_M_flowOf_73 (lv_at hl 0 rfl) ?_
          refine pr_lmul hx hb d_M_flowOf_75 ?_
          have n1 := Int.mul_nonneg (Int.mul_nonneg a6.1 a6.1) (show (0 : Int) ≤ -(m_drive nf (mP mi) (x)) by omega)
          have n0 := mul_b (x := mi 7 (x)) (y := mi 7 (x)) (X := 1000) (Y := 1000) (by omega) (by omega) (by omega) (by omega)
          have n2 := mul_b (x := (mi 7 (x)) * (mi 7 (x))) (y := -(m_drive nf (mP mi) (x))) (X := 1000000) (Y := 30000) (by omega) (by omega) (by omega) (by omega)
          refine pr_pl (va_runS (As := [.long (lI (((mi 7 (x)) * (mi 7 (x))) * (-(m_drive nf (mP mi) (x)))))]) (rest := []) ⟨hx, hb, hml, hown, hts⟩ (c_M_rootOf l (((mi 7 (x)) * (mi 7 (x))) * (-(m_drive nf (mP mi) (x)))) ⟨by omega, by omega⟩) (cwS 1 hts (pn_gS m_755 m_756 m_38 m_757) rfl rfl rfl (by decide +kernel) ⟨Nat.le_of_ble_eq_true rfl, Nat.le_of_ble_eq_true rfl⟩) pn_pre0 rfl rfl hl.1 rfl (lv_room (Nat.le_of_ble_eq_true rfl)) d_M_flowOf_76 ⟨Nat.le_of_ble_eq_true rfl, Nat.le_of_ble_eq_true rfl⟩) ?_
          refine lv_lstore (lv' := [(6, .long (lI (((pn_sq (((mi 7 (x)) * (mi 7 (x))) * (-(m_drive nf (mP mi) (x)))).toNat : Nat) : Int)))), (4, .long (lI (-(m_drive nf (mP mi) (x))))), (2, .long (lI (m_drive nf (mP mi) (x)))), (0, .ref (b 0)), (1, .int (iI (x)))]) hx hb d_M_flowOf_79 hl (by decide) rfl (fun ls hl => ?_)
          refine lv_lload_n hx hb d_M_flowOf_81 rfl (lv_at hl 2 rfl) ?_
          refine lv_lconst (v := lI 0) hx hb d_M_flowOf_82 (by decide) ?_
          refine pr_lcmp_ge (tgt := 93) hx hb (i6_of (by omega) (by omega)) (i6_of (by decide) (by decide)) d_M_flowOf_83 d_M_flowOf_84 (by decide) (fun c_8 => ?_) (fun c_8 => ?_)
          · skip
            refine lv_lload hx hb d_M_flowOf_93 (lv_at hl 0 rfl) ?_
            exact pr_rl hx hb hr hlocks d_M_flowOf_95 (by first | (exfalso; omega) | exact (m_flow_shut (by omega) (by assumption)).symm | (rw [m_flow_ref (by omega) (by assumption)]; unfold m_leak m_root; rw [← k4, ← k5]; first | (rw [if_pos (by assumption), Int.mul_neg, Int.neg_neg]; done) | (rw [if_pos (by assumption)]; done) | (rw [if_neg (by assumption), if_pos (by assumption)]; done) | (rw [if_neg (by assumption), if_neg (by omega)]; done)))
          · skip
            refine lv_lload hx hb d_M_flowOf_87 (lv_at hl 0 rfl) ?_
            refine pr_lneg hx hb d_M_flowOf_89 ?_
            refine lv_goto (tgt := 95) hx hb d_M_flowOf_90 (by decide) ?_
            exact pr_rl hx hb hr hlocks d_M_flowOf_95 (by first | (exfalso; omega) | exact (m_flow_shut (by omega) (by assumption)).symm | (rw [m_flow_ref (by omega) (by assumption)]; unfold m_leak m_root; rw [← k4, ← k5]; first | (rw [if_pos (by assumption), Int.mul_neg, Int.neg_neg]; done) | (rw [if_pos (by assumption)]; done) | (rw [if_neg (by assumption), if_pos (by assumption)]; done) | (rw [if_neg (by assumption), if_neg (by omega)]; done)))
        · skip
          refine lv_aload_n hx hb d_M_flowOf_45 rfl (lv_at hl 2 rfl) ?_
          refine va_get (D := D) (ci := 5) (v := .ref (b 9)) (C := R_M) (T := T_M) (N := 27) hx hb hts (in_M _) hown hK hP 0 rfl rfl 12 (by decide) (ht _ m_602) (fun _ h9 => h9) rfl d_M_flowOf_46 ?_
          refine lv_iload_n hx hb d_M_flowOf_49 rfl (lv_at hl 3 rfl) ?_
          refine pr_iald hx hb hK hP 9 0 rfl rfl (by decide) (by omega) (by omega) d_M_flowOf_50 ?_
          refine pr_i2l hx hb (i3_of (by omega) (by omega)) d_M_flowOf_51 ?_
          refine lv_lload hx hb d_M_flowOf_52 (lv_at hl 0 rfl) ?_
          refine pr_lmul hx hb d_M_flowOf_54 ?_
          refine lv_goto (tgt := 79) hx hb d_M_flowOf_55 (by decide) ?_
          refine lv_lstore (lv' := [(6, .long (lI ((mi 7 (x)) * (-(m_drive nf (mP mi) (x)))))), (4, .long (lI (-(m_drive nf (mP mi) (x))))), (2, .long (lI (m_drive nf (mP mi) (x)))), (0, .ref (b 0)), (1, .int (iI (x)))]) hx hb d_M_flowOf_79 hl (by decide) rfl (fun ls hl => ?_)
          refine lv_lload_n hx hb d_M_flowOf_81 rfl (lv_at hl 2 rfl) ?_
          refine lv_lconst (v := lI 0) hx hb d_M_flowOf_82 (by decide) ?_
          refine pr_lcmp_ge (tgt := 93) hx hb (i6_of (by omega) (by omega)) (i6_of (by decide) (by decide)) d_M_flowOf_83 d_M_flowOf_84 (by decide) (fun c_9 => ?_) (fun c_9 => ?_)
          · skip
            refine lv_lload hx hb d_M_flowOf_93 (lv_at hl 0 rfl) ?_
            exact pr_rl hx hb hr hlocks d_M_flowOf_95 (by first | (exfalso; omega) | exact (m_flow_shut (by omega) (by assumption)).symm | (rw [m_flow_ref (by omega) (by assumption)]; unfold m_leak m_root; rw [← k4, ← k5]; first | (rw [if_pos (by assumption), Int.mul_neg, Int.neg_neg]; done) | (rw [if_pos (by assumption)]; done) | (rw [if_neg (by assumption), if_pos (by assumption)]; done) | (rw [if_neg (by assumption), if_neg (by omega)]; done)))
          · skip
            refine lv_lload hx hb d_M_flowOf_87 (lv_at hl 0 rfl) ?_
            refine pr_lneg hx hb d_M_flowOf_89 ?_
            refine lv_goto (tgt := 95) hx hb d_M_flowOf_90 (by decide) ?_
            exact pr_rl hx hb hr hlocks d_M_flowOf_95 (by first | (exfalso; omega) | exact (m_flow_shut (by omega) (by assumption)).symm | (rw [m_flow_ref (by omega) (by assumption)]; unfold m_leak m_root; rw [← k4, ← k5]; first | (rw [if_pos (by assumption), Int.mul_neg, Int.neg_neg]; done) | (rw [if_pos (by assumption)]; done) | (rw [if_neg (by assumption), if_pos (by assumption)]; done) | (rw [if_neg (by assumption), if_neg (by omega)]; done)))
    · skip
      exact absurd c_2 (by decide)
abbrev w_M_blown : List Cond := .code y_M_blown b_M_blown 4 (some .long) :: pn_W
set_option maxHeartbeats 4000000 in
set_option maxRecDepth 100000 in
theorem c_M_blown (l : Launch) {D : va_G} {b : Nat → Nat} {cI cL cZ : ClassId} {mi ml : Nat → Int → Int} {mz : Int → Int} {ms : Nat → Int} (nf : Nat → Int → Int) (ns : Nat → Int) (da : Int → Int → Int) (S : Nat) (x : Int) (hOk : pn_Ok nf ns da) (hR : mn_R nf ns mi ms) (hPr : pn_Pr (mP mi)) (gx : 0 ≤ x ∧ x < ns 2) : Met l y_M_blown w_M_blown ({ frames := 1, cells := 0, slots := 0, locals := 21 }) (va_Pc [.ref (b 0), .int (iI (x))] (fun U => va_P D pn_cl (mw b cI cL cZ mi ml mz ms) U.heap ∧ mn_E D cI cL cZ U)) (vp_Sl (fun r => r = lI (m_flow nf S (mP mi) (20 + x)))) 0 0 (fun _ => False) := by
  refine Met.ofW (cc := b_M_blown) (maxL := 4) (ret := (some .long)) (by decide) rfl ?_
  intro p e s m args below meth c s₁ B hml hv
  obtain ⟨rfl, hP, hE⟩ := hv
  have hx := B.exec
  have hb := B.bytes
  have hr := B.returns
  have hts := atoms_spec (ws := w_M_blown) B.pre
  have ht : ∀ w ∈ pn_W, w.before _ s = true := fun w h => hts w (List.mem_cons_of_mem _ h)
  have hown : s.vm.findClass R_M = some m.cls := findClass_of_methodNamed B.named
  have hlocks := B.notSynchronized
  have hK := hE
  have hl := lv_entry ([.ref (b 0), .int (iI (x))]) (n := 4) (Nat.le_of_ble_eq_true rfl)
  rw [lg_entry_eq]
  generalize (lg_sl ([.ref (b 0), .int (iI (x))]) ++ List.replicate (4 - (lg_sl ([.ref (b 0), .int (iI (x))])).length) Slot.unset).toArray = ls at hl ⊢
  have hl : lv_has ls 4 [(0, .ref (b 0)), (1, .int (iI (x)))] := hl
  obtain ⟨o_zc, o_lc, o_fc, o_ve, o_wi, o_wa, o_vo, o_fr, o_to, o_he, o_ar, o_ki, o_st, o_ff, o_sl, o_dc, o_da⟩ := id hOk
  obtain ⟨r_zo, r_le, r_fa, r_wi, r_ai, r_wa, r_vo, r_lk, r_fn⟩ := id hR
  obtain ⟨k1, k2, k3, k4⟩ := r_fn x gx.1 gx.2
  have a1 := o_fr (20 + x) (by omega) (by omega)
  have a2 := o_to (20 + x) (by omega) (by omega)
  have a3 := o_ff x (by omega) (by omega)
  have a4 := o_sl x (by omega) (by omega)
  have p1 := hPr (mi 9 x + 4) (by omega) (by omega)
  have p2 := hPr (mi 10 x + 4) (by omega) (by omega)
  have b1 := mul_b (x := mi 12 (x)) (y := (mP mi ((mi 10 (x)) + 4)) - (mP mi ((mi 9 (x)) + 4))) (X := 100) (Y := 25000) (by omega) (by omega) (by omega) (by omega)
  refine lv_aload_n hx hb d_M_blown_0 rfl (lv_at hl 0 rfl) ?_
  refine va_get (D := D) (ci := 5) (v := .ref (b 14)) (C := R_M) (T := T_M) (N := 27) hx hb hts (in_M _) hown hK hP 0 rfl rfl 18 (by decide) (ht _ m_608) (fun _ h9 => h9) rfl d_M_blown_1 ?_
  refine lv_iload_n hx hb d_M_blown_4 rfl (lv_at hl 1 rfl) ?_
  refine pr_iald hx hb hK hP 14 0 rfl rfl (by decide) (by omega) (by omega) d_M_blown_5 ?_
  refine pr_i2l hx hb (i3_of (by omega) (by omega)) d_M_blown_6 ?_
  refine lv_aload_n hx hb d_M_blown_7 rfl (lv_at hl 0 rfl) ?_
  refine va_get (D := D) (ci := 5) (v := .ref (b 15)) (C := R_M) (T := T_M) (N := 27) hx hb hts (in_M _) hown hK hP 0 rfl rfl 19 (by decide) (ht _ m_609) (fun _ h9 => h9) rfl d_M_blown_8 ?_
  refine lv_iload_n hx hb d_M_blown_11 rfl (lv_at hl 1 rfl) ?_
  refine pr_iald hx hb hK hP 15 0 rfl rfl (by decide) (by omega) (by omega) d_M_blown_12 ?_
  refine pr_i2l hx hb (i3_of (by omega) (by omega)) d_M_blown_13 ?_
  refine lv_aload_n hx hb d_M_blown_14 rfl (lv_at hl 0 rfl) ?_
  refine lv_aload_n hx hb d_M_blown_15 rfl (lv_at hl 0 rfl) ?_
  refine va_get (D := D) (ci := 5) (v := .ref (b 13)) (C := R_M) (T := T_M) (N := 27) hx hb hts (in_M _) hown hK hP 0 rfl rfl 17 (by decide) (ht _ m_607) (fun _ h9 => h9) rfl d_M_blown_16 ?_
  refine lv_iload_n hx hb d_M_blown_19 rfl (lv_at hl 1 rfl) ?_
  refine pr_iald hx hb hK hP 13 0 rfl rfl (by decide) (by omega) (by omega) d_M_blown_20 ?_
  refine pr_pi (va_runV (As := [.int (iI (mi 10 (x)))]) (rest := [.long (lI (mi 12 (x))), .long (lI (mi 11 (x)))]) ⟨hx, hb, hml, hown, hts⟩ (c_M_pressureOf l nf ns da (mi := mi) (ms := ms) (mi 10 (x)) hOk hR ⟨by omega, by omega⟩) (cwV 1 hts (pn_gV m_751 m_753 m_25 m_38 m_754) rfl rfl rfl (by decide +kernel) ⟨Nat.le_of_ble_eq_true rfl, Nat.le_of_ble_eq_true rfl⟩) (mn_preV (q0 := 0) (ci := 5) (q := (R_M, T_M, 27)) hP hE rfl rfl) rfl rfl hl.1 rfl (lv_room (Nat.le_of_ble_eq_true rfl)) d_M_blown_21 ⟨Nat.le_of_ble_eq_true rfl, Nat.le_of_ble_eq_true rfl⟩) ?_
  refine lv_aload_n hx hb d_M_blown_24 rfl (lv_at hl 0 rfl) ?_
  refine lv_aload_n hx hb d_M_blown_25 rfl (lv_at hl 0 rfl) ?_
  refine va_get (D := D) (ci := 5) (v := .ref (b 12)) (C := R_M) (T := T_M) (N := 27) hx hb hts (in_M _) hown hK hP 0 rfl rfl 16 (by decide) (ht _ m_606) (fun _ h9 => h9) rfl d_M_blown_26 ?_
  refine lv_iload_n hx hb d_M_blown_29 rfl (lv_at hl 1 rfl) ?_
  refine pr_iald hx hb hK hP 12 0 rfl rfl (by decide) (by omega) (by omega) d_M_blown_30 ?_
  refine pr_pi (va_runV (As := [.int (iI (mi 9 (x)))]) (rest := [.int (iI (mP mi ((mi 10 (x)) + 4))), .long (lI (mi 12 (x))), .long (lI (mi 11 (x)))]) ⟨hx, hb, hml, hown, hts⟩ (c_M_pressureOf l nf ns da (mi := mi) (ms := ms) (mi 9 (x)) hOk hR ⟨by omega, by omega⟩) (cwV 1 hts (pn_gV m_751 m_753 m_25 m_38 m_754) rfl rfl rfl (by decide +kernel) ⟨Nat.le_of_ble_eq_true rfl, Nat.le_of_ble_eq_true rfl⟩) (mn_preV (q0 := 0) (ci := 5) (q := (R_M, T_M, 27)) hP hE rfl rfl) rfl rfl hl.1 rfl (lv_room (Nat.le_of_ble_eq_true rfl)) d_M_blown_31 ⟨Nat.le_of_ble_eq_true rfl, Nat.le_of_ble_eq_true rfl⟩) ?_
  refine pr_isub hx hb d_M_blown_34 ?_
  refine pr_i2l hx hb (i3_of (by omega) (by omega)) d_M_blown_35 ?_
  refine pr_lmul hx hb d_M_blown_36 ?_
  refine pr_lsub hx hb d_M_blown_37 ?_
  refine lv_lstore_n (lv' := [(2, .long (lI ((mi 11 (x)) - ((mi 12 (x)) * ((mP mi ((mi 10 (x)) + 4)) - (mP mi ((mi 9 (x)) + 4))))))), (0, .ref (b 0)), (1, .int (iI (x)))]) hx hb d_M_blown_38 rfl hl (by decide) rfl (fun ls hl => ?_)
  refine lv_lload_n hx hb d_M_blown_39 rfl (lv_at hl 0 rfl) ?_
  refine lv_lconst (v := lI 0) hx hb d_M_blown_40 (by decide) ?_
  refine pr_lcmp_ge (tgt := 49) hx hb (i6_of (by omega) (by omega)) (i6_of (by decide) (by decide)) d_M_blown_41 d_M_blown_42 (by decide) (fun c_1 => ?_) (fun c_1 => ?_)
  · skip
    refine lv_lload_n hx hb d_M_blown_49 rfl (lv_at hl 0 rfl) ?_
    refine lv_ldc2 (v := lI (2)) hx hb hown (ht (.constantLong _ 123 (lI (2))) m_759) d_M_blown_50 ?_
    refine lv_aload_n hx hb d_M_blown_53 rfl (lv_at hl 1 rfl) ?_
    refine va_get (D := D) (ci := 5) (v := .ref (b 14)) (C := R_M) (T := T_M) (N := 27) hx hb hts (in_M _) hown hK hP 0 rfl rfl 18 (by decide) (ht _ m_608) (fun _ h9 => h9) rfl d_M_blown_54 ?_
    refine lv_iload_n hx hb d_M_blown_57 rfl (lv_at hl 2 rfl) ?_
    refine pr_iald hx hb hK hP 14 0 rfl rfl (by decide) (by omega) (by omega) d_M_blown_58 ?_
    refine pr_i2l hx hb (i3_of (by omega) (by omega)) d_M_blown_59 ?_
    refine pr_lmul hx hb d_M_blown_60 ?_
    refine pr_lcmp_le (tgt := 79) hx hb (i6_of (by omega) (by omega)) (i6_of (by omega) (by omega)) d_M_blown_61 d_M_blown_62 (by decide) (fun c_2 => ?_) (fun c_2 => ?_)
    · skip
      refine lv_lload_n hx hb d_M_blown_79 rfl (lv_at hl 0 rfl) ?_
      exact pr_rl hx hb hr hlocks d_M_blown_80 (by rw [m_flow_fan (by omega), show 20 + x - 20 = x by omega, ← k1, ← k2, ← k3, ← k4]; omega)
    · skip
      refine lv_ldc2 (v := lI (2)) hx hb hown (ht (.constantLong _ 123 (lI (2))) m_759) d_M_blown_65 ?_
      refine lv_aload_n hx hb d_M_blown_68 rfl (lv_at hl 1 rfl) ?_
      refine va_get (D := D) (ci := 5) (v := .ref (b 14)) (C := R_M) (T := T_M) (N := 27) hx hb hts (in_M _) hown hK hP 0 rfl rfl 18 (by decide) (ht _ m_608) (fun _ h9 => h9) rfl d_M_blown_69 ?_
      refine lv_iload_n hx hb d_M_blown_72 rfl (lv_at hl 2 rfl) ?_
      refine pr_iald hx hb hK hP 14 0 rfl rfl (by decide) (by omega) (by omega) d_M_blown_73 ?_
      refine pr_i2l hx hb (i3_of (by omega) (by omega)) d_M_blown_74 ?_
      refine pr_lmul hx hb d_M_blown_75 ?_
      refine lv_goto (tgt := 80) hx hb d_M_blown_76 (by decide) ?_
      exact pr_rl hx hb hr hlocks d_M_blown_80 (by rw [m_flow_fan (by omega), show 20 + x - 20 = x by omega, ← k1, ← k2, ← k3, ← k4]; omega)
  · skip
    refine lv_lconst (v := lI 0) hx hb d_M_blown_45 (by decide) ?_
    refine lv_goto (tgt := 80) hx hb d_M_blown_46 (by decide) ?_
    exact pr_rl hx hb hr hlocks d_M_blown_80 (by rw [m_flow_fan (by omega), show 20 + x - 20 = x by omega, ← k1, ← k2, ← k3, ← k4]; omega)
abbrev w_M_gainOf : List Cond := .code y_M_gainOf b_M_gainOf 5 (some .long) :: pn_W
set_option maxHeartbeats 4000000 in
set_option maxRecDepth 100000 in
theorem c_M_gainOf (l : Launch) {D : va_G} {b : Nat → Nat} {cI cL cZ : ClassId} {mi ml : Nat → Int → Int} {mz : Int → Int} {ms : Nat → Int} (nf : Nat → Int → Int) (ns : Nat → Int) (da : Int → Int → Int) (S : Nat) (x : Int) (hOk : pn_Ok nf ns da) (hR : mn_R nf ns mi ms) (hS6 : ms 6 = ((S : Nat) : Int)) (hS : S < 2 ^ 20) (hPr : pn_Pr (mP mi)) (hSm : pn_Sm nf ns da) (gx : 0 ≤ x ∧ x < 8) : Met l y_M_gainOf w_M_gainOf ({ frames := 3, cells := 0, slots := 0, locals := 70 }) (va_Pc [.ref (b 0), .int (iI (x))] (fun U => va_P D pn_cl (mw b cI cL cZ mi ml mz ms) U.heap ∧ mn_E D cI cL cZ U)) (vp_Sl (fun r => r = lI (m_gain nf da S (mP mi) (x + 4)))) 0 0 (fun _ => False) := by
  refine Met.ofW (cc := b_M_gainOf) (maxL := 5) (ret := (some .long)) (by decide) rfl ?_
  intro p e s m args below meth c s₁ B hml hv
  obtain ⟨rfl, hP, hE⟩ := hv
  have hx := B.exec
  have hb := B.bytes
  have hr := B.returns
  have hts := atoms_spec (ws := w_M_gainOf) B.pre
  have ht : ∀ w ∈ pn_W, w.before _ s = true := fun w h => hts w (List.mem_cons_of_mem _ h)
  have hown : s.vm.findClass R_M = some m.cls := findClass_of_methodNamed B.named
  have hlocks := B.notSynchronized
  have hK := hE
  have hl := lv_entry ([.ref (b 0), .int (iI (x))]) (n := 5) (Nat.le_of_ble_eq_true rfl)
  rw [lg_entry_eq]
  generalize (lg_sl ([.ref (b 0), .int (iI (x))]) ++ List.replicate (5 - (lg_sl ([.ref (b 0), .int (iI (x))])).length) Slot.unset).toArray = ls at hl ⊢
  have hl : lv_has ls 5 [(0, .ref (b 0)), (1, .int (iI (x)))] := hl
  obtain ⟨o_zc, o_lc, o_fc, o_ve, o_wi, o_wa, o_vo, o_fr, o_to, o_he, o_ar, o_ki, o_st, o_ff, o_sl, o_dc, o_da⟩ := id hOk
  obtain ⟨r_zo, r_le, r_fa, r_wi, r_ai, r_wa, r_vo, r_lk, r_fn⟩ := id hR
  have loop2 : ∀ (n : Nat) (t : Nat) (ls : Array Slot), ((t : Int) ≤ ns 2) → ((ns 2).toNat - t) < n → lv_has ls 5 [(0, .ref (b 0)), (1, .int (iI (x))), (2, .long (lI (m_sum (fun d => if m_tch nf (x + 4) d then m_term nf S (mP mi) (x + 4) d else 0) (ns 1).toNat + m_sum (fun f => if m_tch nf (x + 4) (20 + f) then m_term nf S (mP mi) (x + 4) (20 + f) else 0) t))), (4, .int (iI (((t : Nat) : Int))))] → W p l e (headSpec w_M_gainOf ({ frames := 3, cells := 0, slots := 0, locals := 70 })).room s m ([.ref (b 0), .int (iI (x))] : List Value).toArray below meth c s.heap [] 0 0 (MQ below (vp_Sl (fun r => r = lI (m_gain nf da S (mP mi) (x + 4)))) ([.ref (b 0), .int (iI (x))] : List Value).toArray s 0 0 (fun _ => False)) (F0 m 75 ls []) := by
    intro n
    induction n with
    | zero => intro t ls _ hm; exact absurd hm (Nat.not_lt_zero _)
    | succ n ih =>
      intro t ls q1 hm hl
      refine lv_iload hx hb d_M_gainOf_75 (lv_at hl 3 rfl) ?_
      refine lv_aload_n hx hb d_M_gainOf_77 rfl (lv_at hl 0 rfl) ?_
      refine va_get (D := D) (ci := 5) (v := .int (iI (ms 4))) (C := R_M) (T := T_M) (N := 27) hx hb hts (in_M _) hown hK hP 0 rfl rfl 15 (by decide) (ht _ m_605) (fun _ h9 => h9) rfl d_M_gainOf_78 ?_
      refine pr_icmp_ge (tgt := 135) hx hb (i3_of (by omega) (by omega)) (i3_of (by omega) (by omega)) d_M_gainOf_81 (by decide) (fun c_1 => ?_) (fun c_1 => ?_)
      · skip
        have ht9 : t = (ns 2).toNat := by omega
        refine lv_lload_n hx hb d_M_gainOf_135 rfl (lv_at hl 2 rfl) ?_
        exact pr_rl hx hb hr hlocks d_M_gainOf_136 (by rw [ht9]; exact (hSm (x + 4) (by omega) (by omega) (fun d => m_term nf S (mP mi) (x + 4) d)).symm)
      · skip
        obtain ⟨k1, k2, k3, k4⟩ := r_fn t (by omega) (by omega)
        have a1 := o_fr (20 + t) (by omega) (by omega)
        have a2 := o_to (20 + t) (by omega) (by omega)
        refine lv_lload_n hx hb d_M_gainOf_84 rfl (lv_at hl 2 rfl) ?_
        refine lv_aload_n hx hb d_M_gainOf_85 rfl (lv_at hl 0 rfl) ?_
        refine va_get (D := D) (ci := 5) (v := .ref (b 13)) (C := R_M) (T := T_M) (N := 27) hx hb hts (in_M _) hown hK hP 0 rfl rfl 17 (by decide) (ht _ m_607) (fun _ h9 => h9) rfl d_M_gainOf_86 ?_
        refine lv_iload hx hb d_M_gainOf_89 (lv_at hl 3 rfl) ?_
        refine pr_iald hx hb hK hP 13 0 rfl rfl (by decide) (by omega) (by omega) d_M_gainOf_91 ?_
        refine lv_iload_n hx hb d_M_gainOf_92 rfl (lv_at hl 1 rfl) ?_
        refine pr_icmp_ne (tgt := 105) hx hb (i3_of (by omega) (by omega)) (i3_of (by omega) (by omega)) d_M_gainOf_93 (by decide) (fun c_2 => ?_) (fun c_2 => ?_)
        · skip
          refine lv_aload_n hx hb d_M_gainOf_105 rfl (lv_at hl 0 rfl) ?_
          refine va_get (D := D) (ci := 5) (v := .ref (b 12)) (C := R_M) (T := T_M) (N := 27) hx hb hts (in_M _) hown hK hP 0 rfl rfl 16 (by decide) (ht _ m_606) (fun _ h9 => h9) rfl d_M_gainOf_106 ?_
          refine lv_iload hx hb d_M_gainOf_109 (lv_at hl 3 rfl) ?_
          refine pr_iald hx hb hK hP 12 0 rfl rfl (by decide) (by omega) (by omega) d_M_gainOf_111 ?_
          refine lv_iload_n hx hb d_M_gainOf_112 rfl (lv_at hl 1 rfl) ?_
          refine pr_icmp_ne (tgt := 126) hx hb (i3_of (by omega) (by omega)) (i3_of (by omega) (by omega)) d_M_gainOf_113 (by decide) (fun c_3 => ?_) (fun c_3 => ?_)
          · skip
            refine lv_lconst (v := lI 0) hx hb d_M_gainOf_126 (by decide) ?_
            refine pr_ladd hx hb d_M_gainOf_127 ?_
            refine pr_lre (B := m_sum (fun d => if m_tch nf (x + 4) d then m_term nf S (mP mi) (x + 4) d else 0) (ns 1).toNat + m_sum (fun f => if m_tch nf (x + 4) (20 + f) then m_term nf S (mP mi) (x + 4) (20 + f) else 0) (t + 1)) (by rw [show m_sum (fun f => if m_tch nf (x + 4) (20 + f) then m_term nf S (mP mi) (x + 4) (20 + f) else 0) (t + 1) = m_sum (fun f => if m_tch nf (x + 4) (20 + f) then m_term nf S (mP mi) (x + 4) (20 + f) else 0) t + (if m_tch nf (x + 4) (20 + (t : Int)) then m_term nf S (mP mi) (x + 4) (20 + (t : Int)) else 0) from rfl]; unfold m_term; first | rw [if_pos (Or.inl (by omega)), if_pos (by omega), Int.add_assoc] | rw [if_pos (Or.inr (by omega)), if_neg (by omega), Int.add_assoc] | rw [if_neg (by rintro (q | q) <;> omega), Int.add_assoc]) ?_
            refine lv_lstore_n (lv' := [(2, .long (lI (m_sum (fun d => if m_tch nf (x + 4) d then m_term nf S (mP mi) (x + 4) d else 0) (ns 1).toNat + m_sum (fun f => if m_tch nf (x + 4) (20 + f) then m_term nf S (mP mi) (x + 4) (20 + f) else 0) (t + 1)))), (0, .ref (b 0)), (1, .int (iI (x))), (4, .int (iI (((t : Nat) : Int))))]) hx hb d_M_gainOf_128 rfl hl (by decide) rfl (fun ls hl => ?_)
            refine lv_iinc (v := iI (((t : Nat) : Int) + 1)) (lv' := [(4, .int (iI (((t : Nat) : Int) + 1))), (2, .long (lI (m_sum (fun d => if m_tch nf (x + 4) d then m_term nf S (mP mi) (x + 4) d else 0) (ns 1).toNat + m_sum (fun f => if m_tch nf (x + 4) (20 + f) then m_term nf S (mP mi) (x + 4) (20 + f) else 0) (t + 1)))), (0, .ref (b 0)), (1, .int (iI (x)))]) hx hb d_M_gainOf_129 hl (k := 3) rfl (iI_add _ _).symm (by decide) rfl (fun ls hl => ?_)
            refine lv_goto (tgt := 75) hx hb d_M_gainOf_132 (by decide) ?_
            exact ih (t + 1) ls (by omega) (by omega) (lv_sub hl [2, 3, 1, 0] rfl)
          · skip
            refine lv_aload_n hx hb d_M_gainOf_116 rfl (lv_at hl 0 rfl) ?_
            refine lv_iload hx hb d_M_gainOf_117 (lv_at hl 3 rfl) ?_
            refine pr_pl (va_runV (As := [.int (iI (((t : Nat) : Int)))]) (rest := [.long (lI (m_sum (fun d => if m_tch nf (x + 4) d then m_term nf S (mP mi) (x + 4) d else 0) (ns 1).toNat + m_sum (fun f => if m_tch nf (x + 4) (20 + f) then m_term nf S (mP mi) (x + 4) (20 + f) else 0) t))]) ⟨hx, hb, hml, hown, hts⟩ (c_M_blown l nf ns da (mi := mi) (ms := ms) S (((t : Nat) : Int)) hOk hR hPr ⟨by omega, by omega⟩) (cwV 1 hts (pn_gV m_760 m_762 m_26 m_38 m_763) rfl rfl rfl (by decide +kernel) ⟨Nat.le_of_ble_eq_true rfl, Nat.le_of_ble_eq_true rfl⟩) (mn_preV (q0 := 0) (ci := 5) (q := (R_M, T_M, 27)) hP hE rfl rfl) rfl rfl hl.1 rfl (lv_room (Nat.le_of_ble_eq_true rfl)) d_M_gainOf_119 ⟨Nat.le_of_ble_eq_true rfl, Nat.le_of_ble_eq_true rfl⟩) ?_
            refine pr_lneg hx hb d_M_gainOf_122 ?_
            refine lv_goto (tgt := 127) hx hb d_M_gainOf_123 (by decide) ?_
            refine pr_ladd hx hb d_M_gainOf_127 ?_
            refine pr_lre (B := m_sum (fun d => if m_tch nf (x + 4) d then m_term nf S (mP mi) (x + 4) d else 0) (ns 1).toNat + m_sum (fun f => if m_tch nf (x + 4) (20 + f) then m_term nf S (mP mi) (x + 4) (20 + f) else 0) (t + 1)) (by rw [show m_sum (fun f => if m_tch nf (x + 4) (20 + f) then m_term nf S (mP mi) (x + 4) (20 + f) else 0) (t + 1) = m_sum (fun f => if m_tch nf (x + 4) (20 + f) then m_term nf S (mP mi) (x + 4) (20 + f) else 0) t + (if m_tch nf (x + 4) (20 + (t : Int)) then m_term nf S (mP mi) (x + 4) (20 + (t : Int)) else 0) from rfl]; unfold m_term; first | rw [if_pos (Or.inl (by omega)), if_pos (by omega), Int.add_assoc] | rw [if_pos (Or.inr (by omega)), if_neg (by omega), Int.add_assoc] | rw [if_neg (by rintro (q | q) <;> omega), Int.add_assoc]) ?_
            refine lv_lstore_n (lv' := [(2, .long (lI (m_sum (fun d => if m_tch nf (x + 4) d then m_term nf S (mP mi) (x + 4) d else 0) (ns 1).toNat + m_sum (fun f => if m_tch nf (x + 4) (20 + f) then m_term nf S (mP mi) (x + 4) (20 + f) else 0) (t + 1)))), (0, .ref (b 0)), (1, .int (iI (x))), (4, .int (iI (((t : Nat) : Int))))]) hx hb d_M_gainOf_128 rfl hl (by decide) rfl (fun ls hl => ?_)
            refine lv_iinc (v := iI (((t : Nat) : Int) + 1)) (lv' := [(4, .int (iI (((t : Nat) : Int) + 1))), (2, .long (lI (m_sum (fun d => if m_tch nf (x + 4) d then m_term nf S (mP mi) (x + 4) d else 0) (ns 1).toNat + m_sum (fun f => if m_tch nf (x + 4) (20 + f) then m_term nf S (mP mi) (x + 4) (20 + f) else 0) (t + 1)))), (0, .ref (b 0)), (1, .int (iI (x)))]) hx hb d_M_gainOf_129 hl (k := 3) rfl (iI_add _ _).symm (by decide) rfl (fun ls hl => ?_)
            refine lv_goto (tgt := 75) hx hb d_M_gainOf_132 (by decide) ?_
            exact ih (t + 1) ls (by omega) (by omega) (lv_sub hl [2, 3, 1, 0] rfl)
        · skip
          refine lv_aload_n hx hb d_M_gainOf_96 rfl (lv_at hl 0 rfl) ?_
          refine lv_iload hx hb d_M_gainOf_97 (lv_at hl 3 rfl) ?_
          refine pr_pl (va_runV (As := [.int (iI (((t : Nat) : Int)))]) (rest := [.long (lI (m_sum (fun d => if m_tch nf (x + 4) d then m_term nf S (mP mi) (x + 4) d else 0) (ns 1).toNat + m_sum (fun f => if m_tch nf (x + 4) (20 + f) then m_term nf S (mP mi) (x + 4) (20 + f) else 0) t))]) ⟨hx, hb, hml, hown, hts⟩ (c_M_blown l nf ns da (mi := mi) (ms := ms) S (((t : Nat) : Int)) hOk hR hPr ⟨by omega, by omega⟩) (cwV 1 hts (pn_gV m_760 m_762 m_26 m_38 m_763) rfl rfl rfl (by decide +kernel) ⟨Nat.le_of_ble_eq_true rfl, Nat.le_of_ble_eq_true rfl⟩) (mn_preV (q0 := 0) (ci := 5) (q := (R_M, T_M, 27)) hP hE rfl rfl) rfl rfl hl.1 rfl (lv_room (Nat.le_of_ble_eq_true rfl)) d_M_gainOf_99 ⟨Nat.le_of_ble_eq_true rfl, Nat.le_of_ble_eq_true rfl⟩) ?_
          refine lv_goto (tgt := 127) hx hb d_M_gainOf_102 (by decide) ?_
          refine pr_ladd hx hb d_M_gainOf_127 ?_
          refine pr_lre (B := m_sum (fun d => if m_tch nf (x + 4) d then m_term nf S (mP mi) (x + 4) d else 0) (ns 1).toNat + m_sum (fun f => if m_tch nf (x + 4) (20 + f) then m_term nf S (mP mi) (x + 4) (20 + f) else 0) (t + 1)) (by rw [show m_sum (fun f => if m_tch nf (x + 4) (20 + f) then m_term nf S (mP mi) (x + 4) (20 + f) else 0) (t + 1) = m_sum (fun f => if m_tch nf (x + 4) (20 + f) then m_term nf S (mP mi) (x + 4) (20 + f) else 0) t + (if m_tch nf (x + 4) (20 + (t : Int)) then m_term nf S (mP mi) (x + 4) (20 + (t : Int)) else 0) from rfl]; unfold m_term; first | rw [if_pos (Or.inl (by omega)), if_pos (by omega), Int.add_assoc] | rw [if_pos (Or.inr (by omega)), if_neg (by omega), Int.add_assoc] | rw [if_neg (by rintro (q | q) <;> omega), Int.add_assoc]) ?_
          refine lv_lstore_n (lv' := [(2, .long (lI (m_sum (fun d => if m_tch nf (x + 4) d then m_term nf S (mP mi) (x + 4) d else 0) (ns 1).toNat + m_sum (fun f => if m_tch nf (x + 4) (20 + f) then m_term nf S (mP mi) (x + 4) (20 + f) else 0) (t + 1)))), (0, .ref (b 0)), (1, .int (iI (x))), (4, .int (iI (((t : Nat) : Int))))]) hx hb d_M_gainOf_128 rfl hl (by decide) rfl (fun ls hl => ?_)
          refine lv_iinc (v := iI (((t : Nat) : Int) + 1)) (lv' := [(4, .int (iI (((t : Nat) : Int) + 1))), (2, .long (lI (m_sum (fun d => if m_tch nf (x + 4) d then m_term nf S (mP mi) (x + 4) d else 0) (ns 1).toNat + m_sum (fun f => if m_tch nf (x + 4) (20 + f) then m_term nf S (mP mi) (x + 4) (20 + f) else 0) (t + 1)))), (0, .ref (b 0)), (1, .int (iI (x)))]) hx hb d_M_gainOf_129 hl (k := 3) rfl (iI_add _ _).symm (by decide) rfl (fun ls hl => ?_)
          refine lv_goto (tgt := 75) hx hb d_M_gainOf_132 (by decide) ?_
          exact ih (t + 1) ls (by omega) (by omega) (lv_sub hl [2, 3, 1, 0] rfl)
  have loop1 : ∀ (n : Nat) (t : Nat) (ls : Array Slot), ((t : Int) ≤ ns 1) → ((ns 1).toNat - t) < n → lv_has ls 5 [(0, .ref (b 0)), (1, .int (iI (x))), (2, .long (lI (m_sum (fun d => if m_tch nf (x + 4) d then m_term nf S (mP mi) (x + 4) d else 0) t))), (4, .int (iI (((t : Nat) : Int))))] → W p l e (headSpec w_M_gainOf ({ frames := 3, cells := 0, slots := 0, locals := 70 })).room s m ([.ref (b 0), .int (iI (x))] : List Value).toArray below meth c s.heap [] 0 0 (MQ below (vp_Sl (fun r => r = lI (m_gain nf da S (mP mi) (x + 4)))) ([.ref (b 0), .int (iI (x))] : List Value).toArray s 0 0 (fun _ => False)) (F0 m 5 ls []) := by
    intro n
    induction n with
    | zero => intro t ls _ hm; exact absurd hm (Nat.not_lt_zero _)
    | succ n ih =>
      intro t ls q1 hm hl
      refine lv_iload hx hb d_M_gainOf_5 (lv_at hl 3 rfl) ?_
      refine lv_aload_n hx hb d_M_gainOf_7 rfl (lv_at hl 0 rfl) ?_
      refine va_get (D := D) (ci := 5) (v := .int (iI (ms 3))) (C := R_M) (T := T_M) (N := 27) hx hb hts (in_M _) hown hK hP 0 rfl rfl 8 (by decide) (ht _ m_598) (fun _ h9 => h9) rfl d_M_gainOf_8 ?_
      refine pr_icmp_ge (tgt := 72) hx hb (i3_of (by omega) (by omega)) (i3_of (by omega) (by omega)) d_M_gainOf_11 (by decide) (fun c_4 => ?_) (fun c_4 => ?_)
      · skip
        have e8 : t = (ns 1).toNat := by omega
        have e9 : m_sum (fun d => if m_tch nf (x + 4) d then m_term nf S (mP mi) (x + 4) d else 0) t = m_sum (fun d => if m_tch nf (x + 4) d then m_term nf S (mP mi) (x + 4) d else 0) (ns 1).toNat + m_sum (fun f => if m_tch nf (x + 4) (20 + f) then m_term nf S (mP mi) (x + 4) (20 + f) else 0) 0 := (by rw [e8]; show _ = _ + (0 : Int); rw [Int.add_zero])
        rw [e9] at hl
        clear e9
        refine lv_iconst (v := iI (0)) hx hb d_M_gainOf_72 rfl ?_
        refine lv_istore (lv' := [(4, .int (iI (0))), (0, .ref (b 0)), (1, .int (iI (x))), (2, .long (lI (m_sum (fun d => if m_tch nf (x + 4) d then m_term nf S (mP mi) (x + 4) d else 0) (ns 1).toNat + m_sum (fun f => if m_tch nf (x + 4) (20 + f) then m_term nf S (mP mi) (x + 4) (20 + f) else 0) 0)))]) hx hb d_M_gainOf_73 hl (by decide) rfl (fun ls hl => ?_)
        exact loop2 _ (0) ls (by omega) (Nat.lt_succ_self _) (lv_sub hl [1, 2, 3, 0] rfl)
      · skip
        obtain ⟨k1, k2, k3, k4, k5, k6⟩ := r_lk t (by omega) (by omega)
        have a1 := o_fr t (by omega) (by omega)
        have a2 := o_to t (by omega) (by omega)
        refine lv_aload_n hx hb d_M_gainOf_14 rfl (lv_at hl 0 rfl) ?_
        refine va_get (D := D) (ci := 5) (v := .ref (b 6)) (C := R_M) (T := T_M) (N := 27) hx hb hts (in_M _) hown hK hP 0 rfl rfl 9 (by decide) (ht _ m_599) (fun _ h9 => h9) rfl d_M_gainOf_15 ?_
        refine lv_iload hx hb d_M_gainOf_18 (lv_at hl 3 rfl) ?_
        refine pr_iald hx hb hK hP 6 0 rfl rfl (by decide) (by omega) (by omega) d_M_gainOf_20 ?_
        refine lv_iload_n hx hb d_M_gainOf_21 rfl (lv_at hl 1 rfl) ?_
        refine pr_icmp_eq (tgt := 36) hx hb (i3_of (by omega) (by omega)) (i3_of (by omega) (by omega)) d_M_gainOf_22 (by decide) (fun c_5 => ?_) (fun c_5 => ?_)
        · skip
          refine lv_lload_n hx hb d_M_gainOf_36 rfl (lv_at hl 2 rfl) ?_
          refine lv_aload_n hx hb d_M_gainOf_37 rfl (lv_at hl 0 rfl) ?_
          refine va_get (D := D) (ci := 5) (v := .ref (b 7)) (C := R_M) (T := T_M) (N := 27) hx hb hts (in_M _) hown hK hP 0 rfl rfl 10 (by decide) (ht _ m_600) (fun _ h9 => h9) rfl d_M_gainOf_38 ?_
          refine lv_iload hx hb d_M_gainOf_41 (lv_at hl 3 rfl) ?_
          refine pr_iald hx hb hK hP 7 0 rfl rfl (by decide) (by omega) (by omega) d_M_gainOf_43 ?_
          refine lv_iload_n hx hb d_M_gainOf_44 rfl (lv_at hl 1 rfl) ?_
          refine pr_icmp_ne (tgt := 57) hx hb (i3_of (by omega) (by omega)) (i3_of (by omega) (by omega)) d_M_gainOf_45 (by decide) (fun c_6 => ?_) (fun c_6 => ?_)
          · skip
            refine lv_aload_n hx hb d_M_gainOf_57 rfl (lv_at hl 0 rfl) ?_
            refine lv_iload hx hb d_M_gainOf_58 (lv_at hl 3 rfl) ?_
            refine pr_pl (va_runV (As := [.int (iI (((t : Nat) : Int)))]) (rest := [.long (lI (m_sum (fun d => if m_tch nf (x + 4) d then m_term nf S (mP mi) (x + 4) d else 0) t))]) ⟨hx, hb, hml, hown, hts⟩ (c_M_flowOf l nf ns da (mi := mi) (ms := ms) S (((t : Nat) : Int)) hOk hR hS6 hS hPr ⟨by omega, by omega⟩) (cwV 1 hts (pn_gV m_743 m_745 m_23 m_38 m_746) rfl rfl rfl (by decide +kernel) ⟨Nat.le_of_ble_eq_true rfl, Nat.le_of_ble_eq_true rfl⟩) (mn_preV (q0 := 0) (ci := 5) (q := (R_M, T_M, 27)) hP hE rfl rfl) rfl rfl hl.1 rfl (lv_room (Nat.le_of_ble_eq_true rfl)) d_M_gainOf_60 ⟨Nat.le_of_ble_eq_true rfl, Nat.le_of_ble_eq_true rfl⟩) ?_
            refine pr_lneg hx hb d_M_gainOf_63 ?_
            refine pr_ladd hx hb d_M_gainOf_64 ?_
            refine pr_lre (B := m_sum (fun d => if m_tch nf (x + 4) d then m_term nf S (mP mi) (x + 4) d else 0) (t + 1)) (by first | (exfalso; omega) | skip; rw [show m_sum (fun d => if m_tch nf (x + 4) d then m_term nf S (mP mi) (x + 4) d else 0) (t + 1) = m_sum (fun d => if m_tch nf (x + 4) d then m_term nf S (mP mi) (x + 4) d else 0) t + (if m_tch nf (x + 4) (t : Int) then m_term nf S (mP mi) (x + 4) (t : Int) else 0) from rfl]; unfold m_term; first | rw [if_pos (Or.inl (by omega)), if_pos (by omega)] | rw [if_pos (Or.inr (by omega)), if_neg (by omega)]) ?_
            refine lv_lstore_n (lv' := [(2, .long (lI (m_sum (fun d => if m_tch nf (x + 4) d then m_term nf S (mP mi) (x + 4) d else 0) (t + 1)))), (0, .ref (b 0)), (1, .int (iI (x))), (4, .int (iI (((t : Nat) : Int))))]) hx hb d_M_gainOf_65 rfl hl (by decide) rfl (fun ls hl => ?_)
            refine lv_iinc (v := iI (((t : Nat) : Int) + 1)) (lv' := [(4, .int (iI (((t : Nat) : Int) + 1))), (2, .long (lI (m_sum (fun d => if m_tch nf (x + 4) d then m_term nf S (mP mi) (x + 4) d else 0) (t + 1)))), (0, .ref (b 0)), (1, .int (iI (x)))]) hx hb d_M_gainOf_66 hl (k := 3) rfl (iI_add _ _).symm (by decide) rfl (fun ls hl => ?_)
            refine lv_goto (tgt := 5) hx hb d_M_gainOf_69 (by decide) ?_
            exact ih (t + 1) ls (by omega) (by omega) (lv_sub hl [2, 3, 1, 0] rfl)
          · skip
            refine lv_aload_n hx hb d_M_gainOf_48 rfl (lv_at hl 0 rfl) ?_
            refine lv_iload hx hb d_M_gainOf_49 (lv_at hl 3 rfl) ?_
            refine pr_pl (va_runV (As := [.int (iI (((t : Nat) : Int)))]) (rest := [.long (lI (m_sum (fun d => if m_tch nf (x + 4) d then m_term nf S (mP mi) (x + 4) d else 0) t))]) ⟨hx, hb, hml, hown, hts⟩ (c_M_flowOf l nf ns da (mi := mi) (ms := ms) S (((t : Nat) : Int)) hOk hR hS6 hS hPr ⟨by omega, by omega⟩) (cwV 1 hts (pn_gV m_743 m_745 m_23 m_38 m_746) rfl rfl rfl (by decide +kernel) ⟨Nat.le_of_ble_eq_true rfl, Nat.le_of_ble_eq_true rfl⟩) (mn_preV (q0 := 0) (ci := 5) (q := (R_M, T_M, 27)) hP hE rfl rfl) rfl rfl hl.1 rfl (lv_room (Nat.le_of_ble_eq_true rfl)) d_M_gainOf_51 ⟨Nat.le_of_ble_eq_true rfl, Nat.le_of_ble_eq_true rfl⟩) ?_
            refine lv_goto (tgt := 64) hx hb d_M_gainOf_54 (by decide) ?_
            refine pr_ladd hx hb d_M_gainOf_64 ?_
            refine pr_lre (B := m_sum (fun d => if m_tch nf (x + 4) d then m_term nf S (mP mi) (x + 4) d else 0) (t + 1)) (by first | (exfalso; omega) | skip; rw [show m_sum (fun d => if m_tch nf (x + 4) d then m_term nf S (mP mi) (x + 4) d else 0) (t + 1) = m_sum (fun d => if m_tch nf (x + 4) d then m_term nf S (mP mi) (x + 4) d else 0) t + (if m_tch nf (x + 4) (t : Int) then m_term nf S (mP mi) (x + 4) (t : Int) else 0) from rfl]; unfold m_term; first | rw [if_pos (Or.inl (by omega)), if_pos (by omega)] | rw [if_pos (Or.inr (by omega)), if_neg (by omega)]) ?_
            refine lv_lstore_n (lv' := [(2, .long (lI (m_sum (fun d => if m_tch nf (x + 4) d then m_term nf S (mP mi) (x + 4) d else 0) (t + 1)))), (0, .ref (b 0)), (1, .int (iI (x))), (4, .int (iI (((t : Nat) : Int))))]) hx hb d_M_gainOf_65 rfl hl (by decide) rfl (fun ls hl => ?_)
            refine lv_iinc (v := iI (((t : Nat) : Int) + 1)) (lv' := [(4, .int (iI (((t : Nat) : Int) + 1))), (2, .long (lI (m_sum (fun d => if m_tch nf (x + 4) d then m_term nf S (mP mi) (x + 4) d else 0) (t + 1)))), (0, .ref (b 0)), (1, .int (iI (x)))]) hx hb d_M_gainOf_66 hl (k := 3) rfl (iI_add _ _).symm (by decide) rfl (fun ls hl => ?_)
            refine lv_goto (tgt := 5) hx hb d_M_gainOf_69 (by decide) ?_
            exact ih (t + 1) ls (by omega) (by omega) (lv_sub hl [2, 3, 1, 0] rfl)
        · skip
          refine lv_aload_n hx hb d_M_gainOf_25 rfl (lv_at hl 0 rfl) ?_
          refine va_get (D := D) (ci := 5) (v := .ref (b 7)) (C := R_M) (T := T_M) (N := 27) hx hb hts (in_M _) hown hK hP 0 rfl rfl 10 (by decide) (ht _ m_600) (fun _ h9 => h9) rfl d_M_gainOf_26 ?_
          refine lv_iload hx hb d_M_gainOf_29 (lv_at hl 3 rfl) ?_
          refine pr_iald hx hb hK hP 7 0 rfl rfl (by decide) (by omega) (by omega) d_M_gainOf_31 ?_
          refine lv_iload_n hx hb d_M_gainOf_32 rfl (lv_at hl 1 rfl) ?_
          refine pr_icmp_ne (tgt := 66) hx hb (i3_of (by omega) (by omega)) (i3_of (by omega) (by omega)) d_M_gainOf_33 (by decide) (fun c_7 => ?_) (fun c_7 => ?_)
          · skip
            have e9 : m_sum (fun d => if m_tch nf (x + 4) d then m_term nf S (mP mi) (x + 4) d else 0) t = m_sum (fun d => if m_tch nf (x + 4) d then m_term nf S (mP mi) (x + 4) d else 0) (t + 1) := (by rw [show m_sum (fun d => if m_tch nf (x + 4) d then m_term nf S (mP mi) (x + 4) d else 0) (t + 1) = m_sum (fun d => if m_tch nf (x + 4) d then m_term nf S (mP mi) (x + 4) d else 0) t + (if m_tch nf (x + 4) (t : Int) then m_term nf S (mP mi) (x + 4) (t : Int) else 0) from rfl, if_neg (by rintro (q | q) <;> omega), Int.add_zero])
            rw [e9] at hl
            clear e9
            refine lv_iinc (v := iI (((t : Nat) : Int) + 1)) (lv' := [(4, .int (iI (((t : Nat) : Int) + 1))), (0, .ref (b 0)), (1, .int (iI (x))), (2, .long (lI (m_sum (fun d => if m_tch nf (x + 4) d then m_term nf S (mP mi) (x + 4) d else 0) (t + 1))))]) hx hb d_M_gainOf_66 hl (k := 3) rfl (iI_add _ _).symm (by decide) rfl (fun ls hl => ?_)
            refine lv_goto (tgt := 5) hx hb d_M_gainOf_69 (by decide) ?_
            exact ih (t + 1) ls (by omega) (by omega) (lv_sub hl [1, 2, 3, 0] rfl)
          · skip
            refine lv_lload_n hx hb d_M_gainOf_36 rfl (lv_at hl 2 rfl) ?_
            refine lv_aload_n hx hb d_M_gainOf_37 rfl (lv_at hl 0 rfl) ?_
            refine va_get (D := D) (ci := 5) (v := .ref (b 7)) (C := R_M) (T := T_M) (N := 27) hx hb hts (in_M _) hown hK hP 0 rfl rfl 10 (by decide) (ht _ m_600) (fun _ h9 => h9) rfl d_M_gainOf_38 ?_
            refine lv_iload hx hb d_M_gainOf_41 (lv_at hl 3 rfl) ?_
            refine pr_iald hx hb hK hP 7 0 rfl rfl (by decide) (by omega) (by omega) d_M_gainOf_43 ?_
            refine lv_iload_n hx hb d_M_gainOf_44 rfl (lv_at hl 1 rfl) ?_
            refine pr_icmp_ne (tgt := 57) hx hb (i3_of (by omega) (by omega)) (i3_of (by omega) (by omega)) d_M_gainOf_45 (by decide) (fun c_8 => ?_) (fun c_8 => ?_)
            · skip
              refine lv_aload_n hx hb d_M_gainOf_57 rfl (lv_at hl 0 rfl) ?_
              refine lv_iload hx hb d_M_gainOf_58 (lv_at hl 3 rfl) ?_
              refine pr_pl (va_runV (As := [.int (iI (((t : Nat) : Int)))]) (rest := [.long (lI (m_sum (fun d => if m_tch nf (x + 4) d then m_term nf S (mP mi) (x + 4) d else 0) t))]) ⟨hx, hb, hml, hown, hts⟩ (c_M_flowOf l nf ns da (mi := mi) (ms := ms) S (((t : Nat) : Int)) hOk hR hS6 hS hPr ⟨by omega, by omega⟩) (cwV 1 hts (pn_gV m_743 m_745 m_23 m_38 m_746) rfl rfl rfl (by decide +kernel) ⟨Nat.le_of_ble_eq_true rfl, Nat.le_of_ble_eq_true rfl⟩) (mn_preV (q0 := 0) (ci := 5) (q := (R_M, T_M, 27)) hP hE rfl rfl) rfl rfl hl.1 rfl (lv_room (Nat.le_of_ble_eq_true rfl)) d_M_gainOf_60 ⟨Nat.le_of_ble_eq_true rfl, Nat.le_of_ble_eq_true rfl⟩) ?_
              refine pr_lneg hx hb d_M_gainOf_63 ?_
              refine pr_ladd hx hb d_M_gainOf_64 ?_
              refine pr_lre (B := m_sum (fun d => if m_tch nf (x + 4) d then m_term nf S (mP mi) (x + 4) d else 0) (t + 1)) (by first | (exfalso; omega) | skip; rw [show m_sum (fun d => if m_tch nf (x + 4) d then m_term nf S (mP mi) (x + 4) d else 0) (t + 1) = m_sum (fun d => if m_tch nf (x + 4) d then m_term nf S (mP mi) (x + 4) d else 0) t + (if m_tch nf (x + 4) (t : Int) then m_term nf S (mP mi) (x + 4) (t : Int) else 0) from rfl]; unfold m_term; first | rw [if_pos (Or.inl (by omega)), if_pos (by omega)] | rw [if_pos (Or.inr (by omega)), if_neg (by omega)]) ?_
              refine lv_lstore_n (lv' := [(2, .long (lI (m_sum (fun d => if m_tch nf (x + 4) d then m_term nf S (mP mi) (x + 4) d else 0) (t + 1)))), (0, .ref (b 0)), (1, .int (iI (x))), (4, .int (iI (((t : Nat) : Int))))]) hx hb d_M_gainOf_65 rfl hl (by decide) rfl (fun ls hl => ?_)
              refine lv_iinc (v := iI (((t : Nat) : Int) + 1)) (lv' := [(4, .int (iI (((t : Nat) : Int) + 1))), (2, .long (lI (m_sum (fun d => if m_tch nf (x + 4) d then m_term nf S (mP mi) (x + 4) d else 0) (t + 1)))), (0, .ref (b 0)), (1, .int (iI (x)))]) hx hb d_M_gainOf_66 hl (k := 3) rfl (iI_add _ _).symm (by decide) rfl (fun ls hl => ?_)
              refine lv_goto (tgt := 5) hx hb d_M_gainOf_69 (by decide) ?_
              exact ih (t + 1) ls (by omega) (by omega) (lv_sub hl [2, 3, 1, 0] rfl)
            · skip
              refine lv_aload_n hx hb d_M_gainOf_48 rfl (lv_at hl 0 rfl) ?_
              refine lv_iload hx hb d_M_gainOf_49 (lv_at hl 3 rfl) ?_
              refine pr_pl (va_runV (As := [.int (iI (((t : Nat) : Int)))]) (rest := [.long (lI (m_sum (fun d => if m_tch nf (x + 4) d then m_term nf S (mP mi) (x + 4) d else 0) t))]) ⟨hx, hb, hml, hown, hts⟩ (c_M_flowOf l nf ns da (mi := mi) (ms := ms) S (((t : Nat) : Int)) hOk hR hS6 hS hPr ⟨by omega, by omega⟩) (cwV 1 hts (pn_gV m_743 m_745 m_23 m_38 m_746) rfl rfl rfl (by decide +kernel) ⟨Nat.le_of_ble_eq_true rfl, Nat.le_of_ble_eq_true rfl⟩) (mn_preV (q0 := 0) (ci := 5) (q := (R_M, T_M, 27)) hP hE rfl rfl) rfl rfl hl.1 rfl (lv_room (Nat.le_of_ble_eq_true rfl)) d_M_gainOf_51 ⟨Nat.le_of_ble_eq_true rfl, Nat.le_of_ble_eq_true rfl⟩) ?_
              refine lv_goto (tgt := 64) hx hb d_M_gainOf_54 (by decide) ?_
              refine pr_ladd hx hb d_M_gainOf_64 ?_
              refine pr_lre (B := m_sum (fun d => if m_tch nf (x + 4) d then m_term nf S (mP mi) (x + 4) d else 0) (t + 1)) (by first | (exfalso; omega) | skip; rw [show m_sum (fun d => if m_tch nf (x + 4) d then m_term nf S (mP mi) (x + 4) d else 0) (t + 1) = m_sum (fun d => if m_tch nf (x + 4) d then m_term nf S (mP mi) (x + 4) d else 0) t + (if m_tch nf (x + 4) (t : Int) then m_term nf S (mP mi) (x + 4) (t : Int) else 0) from rfl]; unfold m_term; first | rw [if_pos (Or.inl (by omega)), if_pos (by omega)] | rw [if_pos (Or.inr (by omega)), if_neg (by omega)]) ?_
              refine lv_lstore_n (lv' := [(2, .long (lI (m_sum (fun d => if m_tch nf (x + 4) d then m_term nf S (mP mi) (x + 4) d else 0) (t + 1)))), (0, .ref (b 0)), (1, .int (iI (x))), (4, .int (iI (((t : Nat) : Int))))]) hx hb d_M_gainOf_65 rfl hl (by decide) rfl (fun ls hl => ?_)
              refine lv_iinc (v := iI (((t : Nat) : Int) + 1)) (lv' := [(4, .int (iI (((t : Nat) : Int) + 1))), (2, .long (lI (m_sum (fun d => if m_tch nf (x + 4) d then m_term nf S (mP mi) (x + 4) d else 0) (t + 1)))), (0, .ref (b 0)), (1, .int (iI (x)))]) hx hb d_M_gainOf_66 hl (k := 3) rfl (iI_add _ _).symm (by decide) rfl (fun ls hl => ?_)
              refine lv_goto (tgt := 5) hx hb d_M_gainOf_69 (by decide) ?_
              exact ih (t + 1) ls (by omega) (by omega) (lv_sub hl [2, 3, 1, 0] rfl)
  refine lv_lconst (v := lI 0) hx hb d_M_gainOf_0 (by decide) ?_
  refine lv_lstore_n (lv' := [(2, .long (lI (0))), (0, .ref (b 0)), (1, .int (iI (x)))]) hx hb d_M_gainOf_1 rfl hl (by decide) rfl (fun ls hl => ?_)
  refine lv_iconst (v := iI (0)) hx hb d_M_gainOf_2 rfl ?_
  refine lv_istore (lv' := [(4, .int (iI (0))), (2, .long (lI (0))), (0, .ref (b 0)), (1, .int (iI (x)))]) hx hb d_M_gainOf_3 hl (by decide) rfl (fun ls hl => ?_)
  exact loop1 _ (0) ls (by omega) (Nat.lt_succ_self _) (lv_sub hl [2, 3, 1, 0] rfl)
