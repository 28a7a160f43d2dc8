abbrev w_N_gainOf : List Cond := .code y_N_gainOf b_N_gainOf 10 (some .int) :: pn_W
set_option maxHeartbeats 4000000 in
set_option maxRecDepth 100000 in
theorem c_N_gainOf (l : Launch) {D : va_G} {a : Nat → Nat} {cI cL cD cS : ClassId} {nf : Nat → Int → Int} {ns : Nat → Int} {da : Int → Int → Int} {be : Int → Int} {ui ul : Nat → Int → Int} {cn : Int} {ss : Nat → Nat} {mf sd : Nat → Int} {pr : Nat → Int → Int} (k z : Nat) (hOk : pn_Ok nf ns da) (hk : k < 9) (hPr : pn_Pr (pr k)) (hss : ss k < 2 ^ 20) (hz : z < 8) : Met l y_N_gainOf w_N_gainOf ({ frames := 2, cells := 0, slots := 0, locals := 56 }) (va_Pc [.ref (a 1), .int (iI (((z : Nat) : Int))), .ref (a (36 + 2 * k))] (fun U => va_P D pn_cl (cw a cI cL cD cS nf ns da be ui ul cn ss mf sd pr) U.heap ∧ pn_E D cI cL cD cS U)) (vp_Si (fun r => r = iI (m_gain nf da (ss k) (pr k) ((z + 4 : Nat) : Int)))) 0 0 (fun _ => False) := by
  refine Met.ofW (cc := b_N_gainOf) (maxL := 10) (ret := (some .int)) (by decide) rfl ?_
  intro p e s m args below meth c s₁ B hml hv
  obtain ⟨rfl, hP, hE⟩ := hv
  have hx := B.exec
  have hb := B.bytes
  have hr := B.returns
  have hts := atoms_spec (ws := w_N_gainOf) B.pre
  have ht : ∀ w ∈ pn_W, w.before _ s = true := fun w h => hts w (List.mem_cons_of_mem _ h)
  have hown : s.vm.findClass R_N = some m.cls := findClass_of_methodNamed B.named
  have hlocks := B.notSynchronized
  have hK := hE.1
  have hl := lv_entry ([.ref (a 1), .int (iI (((z : Nat) : Int))), .ref (a (36 + 2 * k))]) (n := 10) (Nat.le_of_ble_eq_true rfl)
  rw [lg_entry_eq]
  generalize (lg_sl ([.ref (a 1), .int (iI (((z : Nat) : Int))), .ref (a (36 + 2 * k))]) ++ List.replicate (10 - (lg_sl ([.ref (a 1), .int (iI (((z : Nat) : Int))), .ref (a (36 + 2 * k))])).length) Slot.unset).toArray = ls at hl ⊢
  have hl : lv_has ls 10 [(0, .ref (a 1)), (1, .int (iI (((z : Nat) : Int)))), (2, .ref (a (36 + 2 * k)))] := hl
  obtain ⟨o_zc, o_lc, o_fc, o_ve, o_wi, o_wa, o_vo, o_fr, o_to, o_he, o_ar, o_ki, o_st, o_ff, o_sl, o_dc, o_da⟩ := id hOk
  have a1 := o_dc ((z + 4 : Nat) : Int) (by omega) (by omega)
  have loop : ∀ (n : Nat) (t : Nat) (ls : Array Slot), ((t : Int) ≤ nf 11 (((z + 4 : Nat) : Int))) → ((nf 11 (((z + 4 : Nat) : Int))).toNat - t) < n → lv_has ls 10 [(0, .ref (a 1)), (2, .ref (a (36 + 2 * k))), (3, .int (iI (((z + 4 : Nat) : Int)))), (4, .ref (a (15 + (z + 4)))), (5, .int (iI (nf 11 (((z + 4 : Nat) : Int))))), (6, .int (iI (m_sum (fun t => m_term nf (ss k) (pr k) ((z + 4 : Nat) : Int) (da ((z + 4 : Nat) : Int) t)) t))), (7, .int (iI (((t : Nat) : Int))))] → W p l e (headSpec w_N_gainOf ({ frames := 2, cells := 0, slots := 0, locals := 56 })).room s m ([.ref (a 1), .int (iI (((z : Nat) : Int))), .ref (a (36 + 2 * k))] : List Value).toArray below meth c s.heap [] 0 0 (MQ below (vp_Si (fun r => r = iI (m_gain nf da (ss k) (pr k) ((z + 4 : Nat) : Int)))) ([.ref (a 1), .int (iI (((z : Nat) : Int))), .ref (a (36 + 2 * k))] : List Value).toArray s 0 0 (fun _ => False)) (F0 m 27 ls []) := by
    intro n
    induction n with
    | zero => intro t ls _ hm; exact absurd hm (Nat.not_lt_zero _)
    | succ n ih =>
      intro t ls q1 hm hl
      refine lv_iload hx hb d_N_gainOf_27 (lv_at hl 6 rfl) ?_
      refine lv_iload hx hb d_N_gainOf_29 (lv_at hl 4 rfl) ?_
      refine pr_icmp_ge (tgt := 80) hx hb (i3_of (by omega) (by omega)) (i3_of (by omega) (by omega)) d_N_gainOf_31 (by decide) (fun c_1 => ?_) (fun c_1 => ?_)
      · skip
        have ht9 : t = (nf 11 (((z + 4 : Nat) : Int))).toNat := by omega
        refine lv_iload hx hb d_N_gainOf_80 (lv_at hl 5 rfl) ?_
        exact pr_ri hx hb hr hlocks d_N_gainOf_82 (by rw [ht9]; rfl)
      · skip
        have a2 := o_da ((z + 4 : Nat) : Int) t (by omega) (by omega) (by omega) (by omega)
        have a3 := o_to (da ((z + 4 : Nat) : Int) t) (by omega) (by omega)
        refine lv_aload hx hb d_N_gainOf_34 (lv_at hl 3 rfl) ?_
        refine lv_iload hx hb d_N_gainOf_36 (lv_at hl 6 rfl) ?_
        refine pr_iald hx hb hK hP (15 + (z + 4)) 0 (cw_row ((z + 4)) (by omega)) rfl (by decide) (by omega) (by omega) d_N_gainOf_38 ?_
        refine lv_istore (lv' := [(8, .int (iI (da (((z + 4) : Nat) : Int) (((t : Nat) : Int))))), (0, .ref (a 1)), (2, .ref (a (36 + 2 * k))), (3, .int (iI (((z + 4 : Nat) : Int)))), (4, .ref (a (15 + (z + 4)))), (5, .int (iI (nf 11 (((z + 4 : Nat) : Int))))), (6, .int (iI (m_sum (fun t => m_term nf (ss k) (pr k) ((z + 4 : Nat) : Int) (da ((z + 4 : Nat) : Int) t)) t))), (7, .int (iI (((t : Nat) : Int))))]) hx hb d_N_gainOf_39 hl (by decide) rfl (fun ls hl => ?_)
        refine lv_aload_n hx hb d_N_gainOf_41 rfl (lv_at hl 1 rfl) ?_
        refine lv_iload hx hb d_N_gainOf_42 (lv_at hl 0 rfl) ?_
        refine lv_aload_n hx hb d_N_gainOf_44 rfl (lv_at hl 2 rfl) ?_
        refine pr_pi (va_runV (As := [.int (iI (da (((z + 4) : Nat) : Int) (((t : Nat) : Int)))), .ref (a (36 + 2 * k))]) (rest := []) ⟨hx, hb, hml, hown, hts⟩ (c_N_flowOf l k (da (((z + 4) : Nat) : Int) (((t : Nat) : Int))) hOk hk hPr hss ⟨by omega, by omega⟩) (cwV 2 hts (pn_gV m_452 m_453 m_454 m_34 m_455) rfl rfl rfl (by decide +kernel) ⟨Nat.le_of_ble_eq_true rfl, Nat.le_of_ble_eq_true rfl⟩) (pn_preV (q0 := 1) (ci := 1) (q := (R_N, T_N, 17)) hP hE rfl rfl) rfl rfl hl.1 rfl (lv_room (Nat.le_of_ble_eq_true rfl)) d_N_gainOf_45 ⟨Nat.le_of_ble_eq_true rfl, Nat.le_of_ble_eq_true rfl⟩) ?_
        refine lv_istore (lv' := [(9, .int (iI (m_flow nf (ss k) (pr k) (da (((z + 4) : Nat) : Int) (((t : Nat) : Int)))))), (8, .int (iI (da (((z + 4) : Nat) : Int) (((t : Nat) : Int))))), (0, .ref (a 1)), (2, .ref (a (36 + 2 * k))), (3, .int (iI (((z + 4 : Nat) : Int)))), (4, .ref (a (15 + (z + 4)))), (5, .int (iI (nf 11 (((z + 4 : Nat) : Int))))), (6, .int (iI (m_sum (fun t => m_term nf (ss k) (pr k) ((z + 4 : Nat) : Int) (da ((z + 4 : Nat) : Int) t)) t))), (7, .int (iI (((t : Nat) : Int))))]) hx hb d_N_gainOf_48 hl (by decide) rfl (fun ls hl => ?_)
        refine lv_iload hx hb d_N_gainOf_50 (lv_at hl 7 rfl) ?_
        refine lv_aload_n hx hb d_N_gainOf_52 rfl (lv_at hl 2 rfl) ?_
        refine va_get (D := D) (ci := 1) (v := .ref (a 6)) (C := R_N) (T := T_N) (N := 17) hx hb hts (in_N _) hown hK hP 1 rfl rfl 4 (by decide) (ht _ m_71) (fun _ h9 => h9) rfl d_N_gainOf_53 ?_
        refine lv_iload hx hb d_N_gainOf_56 (lv_at hl 1 rfl) ?_
        refine pr_iald hx hb hK hP 6 0 rfl rfl (by decide) (by omega) (by omega) d_N_gainOf_58 ?_
        refine lv_iload_n hx hb d_N_gainOf_59 rfl (lv_at hl 4 rfl) ?_
        refine pr_icmp_ne (tgt := 68) hx hb (i3_of (by omega) (by omega)) (i3_of (by omega) (by omega)) d_N_gainOf_60 (by decide) (fun c_2 => ?_) (fun c_2 => ?_)
        · skip
          refine lv_iload hx hb d_N_gainOf_68 (lv_at hl 0 rfl) ?_
          refine pr_ineg hx hb d_N_gainOf_70 ?_
          refine pr_iadd hx hb d_N_gainOf_71 ?_
          refine pr_ire (B := m_sum (fun t => m_term nf (ss k) (pr k) ((z + 4 : Nat) : Int) (da ((z + 4 : Nat) : Int) t)) (t + 1)) (by show _ = m_sum _ t + m_term _ _ _ _ _; unfold m_term; first | rw [if_pos (by assumption)] | rw [if_neg (by assumption)]) ?_
          refine lv_istore (lv' := [(6, .int (iI (m_sum (fun t => m_term nf (ss k) (pr k) ((z + 4 : Nat) : Int) (da ((z + 4 : Nat) : Int) t)) (t + 1)))), (9, .int (iI (m_flow nf (ss k) (pr k) (da (((z + 4) : Nat) : Int) (((t : Nat) : Int)))))), (8, .int (iI (da (((z + 4) : Nat) : Int) (((t : Nat) : Int))))), (0, .ref (a 1)), (2, .ref (a (36 + 2 * k))), (3, .int (iI (((z + 4 : Nat) : Int)))), (4, .ref (a (15 + (z + 4)))), (5, .int (iI (nf 11 (((z + 4 : Nat) : Int))))), (7, .int (iI (((t : Nat) : Int))))]) hx hb d_N_gainOf_72 hl (by decide) rfl (fun ls hl => ?_)
          refine lv_iinc (v := iI (((t : Nat) : Int) + 1)) (lv' := [(7, .int (iI (((t : Nat) : Int) + 1))), (6, .int (iI (m_sum (fun t => m_term nf (ss k) (pr k) ((z + 4 : Nat) : Int) (da ((z + 4 : Nat) : Int) t)) (t + 1)))), (9, .int (iI (m_flow nf (ss k) (pr k) (da (((z + 4) : Nat) : Int) (((t : Nat) : Int)))))), (8, .int (iI (da (((z + 4) : Nat) : Int) (((t : Nat) : Int))))), (0, .ref (a 1)), (2, .ref (a (36 + 2 * k))), (3, .int (iI (((z + 4 : Nat) : Int)))), (4, .ref (a (15 + (z + 4)))), (5, .int (iI (nf 11 (((z + 4 : Nat) : Int)))))]) hx hb d_N_gainOf_74 hl (k := 8) rfl (iI_add _ _).symm (by decide) rfl (fun ls hl => ?_)
          refine lv_goto (tgt := 27) hx hb d_N_gainOf_77 (by decide) ?_
          exact ih (t + 1) ls (by omega) (by omega) (lv_sub hl [4, 5, 6, 7, 8, 1, 0] rfl)
        · skip
          refine lv_iload hx hb d_N_gainOf_63 (lv_at hl 0 rfl) ?_
          refine lv_goto (tgt := 71) hx hb d_N_gainOf_65 (by decide) ?_
          refine pr_iadd hx hb d_N_gainOf_71 ?_
          refine pr_ire (B := m_sum (fun t => m_term nf (ss k) (pr k) ((z + 4 : Nat) : Int) (da ((z + 4 : Nat) : Int) t)) (t + 1)) (by show _ = m_sum _ t + m_term _ _ _ _ _; unfold m_term; first | rw [if_pos (by assumption)] | rw [if_neg (by assumption)]) ?_
          refine lv_istore (lv' := [(6, .int (iI (m_sum (fun t => m_term nf (ss k) (pr k) ((z + 4 : Nat) : Int) (da ((z + 4 : Nat) : Int) t)) (t + 1)))), (9, .int (iI (m_flow nf (ss k) (pr k) (da (((z + 4) : Nat) : Int) (((t : Nat) : Int)))))), (8, .int (iI (da (((z + 4) : Nat) : Int) (((t : Nat) : Int))))), (0, .ref (a 1)), (2, .ref (a (36 + 2 * k))), (3, .int (iI (((z + 4 : Nat) : Int)))), (4, .ref (a (15 + (z + 4)))), (5, .int (iI (nf 11 (((z + 4 : Nat) : Int))))), (7, .int (iI (((t : Nat) : Int))))]) hx hb d_N_gainOf_72 hl (by decide) rfl (fun ls hl => ?_)
          refine lv_iinc (v := iI (((t : Nat) : Int) + 1)) (lv' := [(7, .int (iI (((t : Nat) : Int) + 1))), (6, .int (iI (m_sum (fun t => m_term nf (ss k) (pr k) ((z + 4 : Nat) : Int) (da ((z + 4 : Nat) : Int) t)) (t + 1)))), (9, .int (iI (m_flow nf (ss k) (pr k) (da (((z + 4) : Nat) : Int) (((t : Nat) : Int)))))), (8, .int (iI (da (((z + 4) : Nat) : Int) (((t : Nat) : Int))))), (0, .ref (a 1)), (2, .ref (a (36 + 2 * k))), (3, .int (iI (((z + 4 : Nat) : Int)))), (4, .ref (a (15 + (z + 4)))), (5, .int (iI (nf 11 (((z + 4 : Nat) : Int)))))]) hx hb d_N_gainOf_74 hl (k := 8) rfl (iI_add _ _).symm (by decide) rfl (fun ls hl => ?_)
          refine lv_goto (tgt := 27) hx hb d_N_gainOf_77 (by decide) ?_
          exact ih (t + 1) ls (by omega) (by omega) (lv_sub hl [4, 5, 6, 7, 8, 1, 0] rfl)
  refine lv_iload_n hx hb d_N_gainOf_0 rfl (lv_at hl 1 rfl) ?_
  refine pr_pi (va_runSN (As := [.int (iI (((z : Nat) : Int)))]) (rest := []) ⟨hx, hb, hml, hown, hts⟩ (c_P_rowOf l (((z : Nat) : Int))) ⟨va_cnB 1 hts (pn_g m_326) rfl rfl rfl (hE.2 _ (List.mem_of_getElem? (i := 2) rfl)) (ht _ m_33) (by decide +kernel) ⟨Nat.le_of_ble_eq_true rfl, Nat.le_of_ble_eq_true rfl⟩, ht _ m_325, trivial⟩ pn_pre0 rfl rfl hl.1 rfl (lv_room (Nat.le_of_ble_eq_true rfl)) d_N_gainOf_1 ⟨Nat.le_of_ble_eq_true rfl, Nat.le_of_ble_eq_true rfl⟩) ?_
  refine pr_ire (B := ((z + 4 : Nat) : Int)) (by omega) ?_
  refine lv_istore_n (lv' := [(3, .int (iI (((z + 4 : Nat) : Int)))), (0, .ref (a 1)), (1, .int (iI (((z : Nat) : Int)))), (2, .ref (a (36 + 2 * k)))]) hx hb d_N_gainOf_4 rfl hl (by decide) rfl (fun ls hl => ?_)
  refine lv_aload_n hx hb d_N_gainOf_5 rfl (lv_at hl 1 rfl) ?_
  refine va_get (D := D) (ci := 1) (v := .ref (a 14)) (C := R_N) (T := T_N) (N := 17) hx hb hts (in_N _) hown hK hP 1 rfl rfl 11 (by decide) (ht _ m_79) (fun _ h9 => h9) rfl d_N_gainOf_6 ?_
  refine lv_iload_n hx hb d_N_gainOf_9 rfl (lv_at hl 0 rfl) ?_
  refine pr_aald hx hb hK hP 14 2 rfl rfl rfl (z + 4) (a (15 + (z + 4))) (by omega) (by decide) (by omega) (if_pos (by omega)) d_N_gainOf_10 ?_
  refine lv_astore (lv' := [(4, .ref (a (15 + (z + 4)))), (3, .int (iI (((z + 4 : Nat) : Int)))), (0, .ref (a 1)), (1, .int (iI (((z : Nat) : Int)))), (2, .ref (a (36 + 2 * k)))]) hx hb d_N_gainOf_11 hl (by decide) rfl (fun ls hl => ?_)
  refine lv_aload_n hx hb d_N_gainOf_13 rfl (lv_at hl 2 rfl) ?_
  refine va_get (D := D) (ci := 1) (v := .ref (a 13)) (C := R_N) (T := T_N) (N := 17) hx hb hts (in_N _) hown hK hP 1 rfl rfl 12 (by decide) (ht _ m_80) (fun _ h9 => h9) rfl d_N_gainOf_14 ?_
  refine lv_iload_n hx hb d_N_gainOf_17 rfl (lv_at hl 1 rfl) ?_
  refine pr_iald hx hb hK hP 13 0 rfl rfl (by decide) (by omega) (by omega) d_N_gainOf_18 ?_
  refine lv_istore (lv' := [(5, .int (iI (nf 11 (((z + 4 : Nat) : Int))))), (4, .ref (a (15 + (z + 4)))), (3, .int (iI (((z + 4 : Nat) : Int)))), (0, .ref (a 1)), (1, .int (iI (((z : Nat) : Int)))), (2, .ref (a (36 + 2 * k)))]) hx hb d_N_gainOf_19 hl (by decide) rfl (fun ls hl => ?_)
  refine lv_iconst (v := iI (0)) hx hb d_N_gainOf_21 rfl ?_
  refine lv_istore (lv' := [(6, .int (iI (0))), (5, .int (iI (nf 11 (((z + 4 : Nat) : Int))))), (4, .ref (a (15 + (z + 4)))), (3, .int (iI (((z + 4 : Nat) : Int)))), (0, .ref (a 1)), (1, .int (iI (((z : Nat) : Int)))), (2, .ref (a (36 + 2 * k)))]) hx hb d_N_gainOf_22 hl (by decide) rfl (fun ls hl => ?_)
  refine lv_iconst (v := iI (0)) hx hb d_N_gainOf_24 rfl ?_
  refine lv_istore (lv' := [(7, .int (iI (0))), (6, .int (iI (0))), (5, .int (iI (nf 11 (((z + 4 : Nat) : Int))))), (4, .ref (a (15 + (z + 4)))), (3, .int (iI (((z + 4 : Nat) : Int)))), (0, .ref (a 1)), (1, .int (iI (((z : Nat) : Int)))), (2, .ref (a (36 + 2 * k)))]) hx hb d_N_gainOf_25 hl (by decide) rfl (fun ls hl => ?_)
  exact loop _ (0) ls (by omega) (Nat.lt_succ_self _) (lv_sub hl [5, 7, 4, 3, 2, 1, 0] rfl)
