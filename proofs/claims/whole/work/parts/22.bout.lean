abbrev w_S_isPastHighest : List Cond := .code y_S_isPastHighest b_S_isPastHighest 3 (some .boolean) :: pn_W
set_option maxHeartbeats 4000000 in
set_option maxRecDepth 100000 in
theorem c_S_isPastHighest (l : Launch) {D : va_G} {a : Nat → Nat} {cI cL cD cS : ClassId} {nf : Nat → Int → Int} {ns : Nat → Int} {da : Int → Int → Int} {be : Int → Int} {ui ul : Nat → Int → Int} {cn : Int} {ss : Nat → Nat} {mf sd : Nat → Int} {pr : Nat → Int → Int} (k : Nat) (hk : k < 9) (hPr : pn_Pr (pr k)) : Met l y_S_isPastHighest w_S_isPastHighest ({ frames := 0, cells := 0, slots := 0, locals := 0 }) (va_Pc [.ref (a 27), .ref (a (36 + 2 * k))] (fun U => va_P D pn_cl (cw a cI cL cD cS nf ns da be ui ul cn ss mf sd pr) U.heap ∧ pn_E D cI cL cD cS U)) (vp_Si (fun r => r = iI (m_pb (pr k)))) 0 0 (fun _ => False) := by
  refine Met.ofW (cc := b_S_isPastHighest) (maxL := 3) (ret := (some .boolean)) (by decide) rfl ?_
  intro p e s m args below meth c s₁ B hml hv
  obtain ⟨rfl, hP, hE⟩ := hv
  have hx := B.exec
  have hb := B.bytes
  have hr := B.returns
  have hts := atoms_spec (ws := w_S_isPastHighest) B.pre
  have ht : ∀ w ∈ pn_W, w.before _ s = true := fun w h => hts w (List.mem_cons_of_mem _ h)
  have hown : s.vm.findClass R_S = some m.cls := findClass_of_methodNamed B.named
  have hlocks := B.notSynchronized
  have hK := hE.1
  have hl := lv_entry ([.ref (a 27), .ref (a (36 + 2 * k))]) (n := 3) (Nat.le_of_ble_eq_true rfl)
  rw [lg_entry_eq]
  generalize (lg_sl ([.ref (a 27), .ref (a (36 + 2 * k))]) ++ List.replicate (3 - (lg_sl ([.ref (a 27), .ref (a (36 + 2 * k))])).length) Slot.unset).toArray = ls at hl ⊢
  have hl : lv_has ls 3 [(0, .ref (a 27)), (1, .ref (a (36 + 2 * k)))] := hl
  have loop : ∀ (n : Nat) (t : Int) (ls : Array Slot), (4 ≤ t) → (t ≤ 12) → (∀ j : Int, 4 ≤ j → j < t → pr k j ≤ 5000) → ((12 - t).toNat) < n → lv_has ls 3 [(1, .ref (a (36 + 2 * k))), (2, .int (iI (t)))] → W p l e (headSpec w_S_isPastHighest ({ frames := 0, cells := 0, slots := 0, locals := 0 })).room s m ([.ref (a 27), .ref (a (36 + 2 * k))] : List Value).toArray below meth c s.heap [] 0 0 (MQ below (vp_Si (fun r => r = iI (m_pb (pr k)))) ([.ref (a 27), .ref (a (36 + 2 * k))] : List Value).toArray s 0 0 (fun _ => False)) (F0 m 2 ls []) := by
    intro n
    induction n with
    | zero => intro t ls _ _ _ hm; exact absurd hm (Nat.not_lt_zero _)
    | succ n ih =>
      intro t ls q1 q2 q3 hm hl
      refine lv_iload_n hx hb d_S_isPastHighest_2 rfl (lv_at hl 1 rfl) ?_
      refine lv_bipush (v := iI (12)) hx hb d_S_isPastHighest_3 (by decide) ?_
      refine pr_icmp_ge (tgt := 28) hx hb (i3_of (by omega) (by omega)) (i3_of (by decide) (by decide)) d_S_isPastHighest_5 (by decide) (fun c_1 => ?_) (fun c_1 => ?_)
      · skip
        refine lv_iconst (v := iI (0)) hx hb d_S_isPastHighest_28 rfl ?_
        exact pr_rz hx hb hr hlocks d_S_isPastHighest_29 (by first | exact Or.inl rfl | exact Or.inr rfl | exact b2_01 _) (m_pb_f (m_past_no (fun j a b => q3 j a (by omega)))).symm
      · skip
        have a1 := hPr t (by omega) (by omega)
        refine lv_aload_n hx hb d_S_isPastHighest_8 rfl (lv_at hl 0 rfl) ?_
        refine va_get (D := D) (ci := 3) (v := .ref (a (37 + 2 * k))) (C := R_T) (T := T_T) (N := 4) hx hb hts (in_T _) hown hK hP (36 + 2 * k) (cw_so k hk) rfl 0 (by decide) (ht _ m_175) (fun _ h9 => h9) rfl d_S_isPastHighest_9 ?_
        refine lv_iload_n hx hb d_S_isPastHighest_12 rfl (lv_at hl 1 rfl) ?_
        refine pr_iald hx hb hK hP (37 + 2 * k) 0 (cw_sp k hk) rfl (by decide) (by omega) (by omega) d_S_isPastHighest_13 ?_
        refine lv_sipush (v := iI (5000)) hx hb d_S_isPastHighest_14 (by decide) ?_
        refine pr_icmp_le (tgt := 22) hx hb (i3_of (by omega) (by omega)) (i3_of (by decide) (by decide)) d_S_isPastHighest_17 (by decide) (fun c_2 => ?_) (fun c_2 => ?_)
        · skip
          refine lv_iinc (v := iI (t + 1)) (lv' := [(2, .int (iI (t + 1))), (1, .ref (a (36 + 2 * k)))]) hx hb d_S_isPastHighest_22 hl (k := 1) rfl (iI_add _ _).symm (by decide) rfl (fun ls hl => ?_)
          refine lv_goto (tgt := 2) hx hb d_S_isPastHighest_25 (by decide) ?_
          exact ih (t + 1) ls (by omega) (by omega) (fun j a b => by rcases (by omega : j < t ∨ j = t) with z | z; exact q3 j a z; rw [z]; omega) (by omega) (lv_sub hl [1, 0] rfl)
        · skip
          refine lv_iconst (v := iI (1)) hx hb d_S_isPastHighest_20 rfl ?_
          exact pr_rz hx hb hr hlocks d_S_isPastHighest_21 (by first | exact Or.inl rfl | exact Or.inr rfl | exact b2_01 _) (m_pb_t (m_past_of q1 (by omega) (by omega))).symm
  refine lv_iconst (v := iI (4)) hx hb d_S_isPastHighest_0 rfl ?_
  refine lv_istore_n (lv' := [(2, .int (iI (4))), (0, .ref (a 27)), (1, .ref (a (36 + 2 * k)))]) hx hb d_S_isPastHighest_1 rfl hl (by decide) rfl (fun ls hl => ?_)
  exact loop _ (4) ls (by omega) (by omega) (fun j a b => by omega) (Nat.lt_succ_self _) (lv_sub hl [2, 0] rfl)
abbrev w_S_doBout : List Cond := .code y_S_doBout b_S_doBout 7 (some .int) :: pn_W
set_option maxHeartbeats 4000000 in
set_option maxRecDepth 100000 in
theorem c_S_doBout (l : Launch) {D : va_G} {a : Nat → Nat} {cI cL cD cS : ClassId} {nf : Nat → Int → Int} {ns : Nat → Int} {da : Int → Int → Int} {be : Int → Int} {ui ul : Nat → Int → Int} {cn : Int} {ss : Nat → Nat} {mf sd : Nat → Int} {pr : Nat → Int → Int} (sz : Nat) (k am : Nat) (hOk : pn_Ok nf ns da) (hk : k < 9) (hPr : pn_Pr (pr k)) (hss : ss k < 2 ^ 20) (ham : am < 256) : Met l y_S_doBout w_S_doBout ({ frames := 4, cells := 0, slots := 0, locals := 113 }) (va_Pc [.ref (a 27), .ref (a (36 + 2 * k)), .int (iI (((am : Nat) : Int)))] (fun U => U.heap.size = sz ∧ va_P D pn_cl (cw a cI cL cD cS nf ns da be ui ul cn ss mf sd pr) U.heap ∧ va_D (fun _ => True) (cw a cI cL cD cS nf ns da be ui ul cn ss mf sd pr) ∧ pn_E D cI cL cD cS U)) (va_Qi (fun (r : Int32) (u : Nat × (Int → Int)) => r = iI ((u.1 : Nat) : Int) ∧ pn_Bo (ns 0) (m_G nf da (ss k)) am u.1 (pr k) u.2 ∧ (u.1 = 0 → pn_no (ns 0) (m_G nf da (ss k)) am 8 (pr k) ∧ u.2 = pr k)) (fun u t => va_P D pn_cl ((fun u : Nat × (Int → Int) => cw a cI cL cD cS nf ns da be ui ul cn ss mf sd (nw pr k u.2)) u) t.heap ∧ va_D (va_A (cw a cI cL cD cS nf ns da be ui ul cn ss mf sd pr) sz) ((fun u : Nat × (Int → Int) => cw a cI cL cD cS nf ns da be ui ul cn ss mf sd (nw pr k u.2)) u)) (va_A (cw a cI cL cD cS nf ns da be ui ul cn ss mf sd pr) sz)) 0 0 (va_A (cw a cI cL cD cS nf ns da be ui ul cn ss mf sd pr) sz) := by
  refine Met.ofW (cc := b_S_doBout) (maxL := 7) (ret := (some .int)) (by decide) rfl ?_
  intro p e s m args below meth c s₁ B hml hv
  obtain ⟨rfl, hsz, hP, hD0, hE⟩ := hv
  have hx := B.exec
  have hb := B.bytes
  have hr := B.returns
  have hts := atoms_spec (ws := w_S_doBout) B.pre
  have ht : ∀ w ∈ pn_W, w.before _ s = true := fun w h => hts w (List.mem_cons_of_mem _ h)
  have hown : s.vm.findClass R_S = some m.cls := findClass_of_methodNamed B.named
  have hlocks := B.notSynchronized
  have hK := hE.1
  subst hsz
  have hD := hD0.self (sz := s.heap.size)
  generalize hAe : va_A (cw a cI cL cD cS nf ns da be ui ul cn ss mf sd pr) s.heap.size = A at hD ⊢
  have hA : ∀ q : Nat, s.heap.size ≤ q → A q := fun q h => by rw [← hAe]; exact Or.inr h
  have hS : va_S A s.heap s.heap [] := va_S.rf
  have hl := lv_entry ([.ref (a 27), .ref (a (36 + 2 * k)), .int (iI (((am : Nat) : Int)))]) (n := 7) (Nat.le_of_ble_eq_true rfl)
  rw [lg_entry_eq]
  generalize (lg_sl ([.ref (a 27), .ref (a (36 + 2 * k)), .int (iI (((am : Nat) : Int)))]) ++ List.replicate (7 - (lg_sl ([.ref (a 27), .ref (a (36 + 2 * k)), .int (iI (((am : Nat) : Int)))])).length) Slot.unset).toArray = ls at hl ⊢
  have hl : lv_has ls 7 [(0, .ref (a 27)), (1, .ref (a (36 + 2 * k))), (2, .int (iI (((am : Nat) : Int))))] := hl
  obtain ⟨o_zc, o_lc, o_fc, o_ve, o_wi, o_wa, o_vo, o_fr, o_to, o_he, o_ar, o_ki, o_st, o_ff, o_sl, o_dc, o_da⟩ := id hOk
  have outer : ∀ (n : Nat) (sw : Nat) (ro : Nat) (go : Int) (Q : Int → Int) (H : Heap) (locs : List Loc) (ls : Array Slot), (sw ≤ 4) → (pn_Bo (ns 0) (m_G nf da (ss k)) am ro (pr k) Q) → (go = 0 ∨ go = 1) → (go = 0 → pn_no (ns 0) (m_G nf da (ss k)) am 8 Q) → (go = 1 → sw = 0 ∨ ro ≠ 0) → (ro = 0 → Q = pr k) → (4 - sw) < n → va_P D pn_cl (cw a cI cL cD cS nf ns da be ui ul cn ss mf sd (nw pr k Q)) H → va_D A (cw a cI cL cD cS nf ns da be ui ul cn ss mf sd (nw pr k Q)) → va_S A s.heap H locs → lv_has ls 7 [(0, .ref (a 27)), (1, .ref (a (36 + 2 * k))), (2, .int (iI (((am : Nat) : Int)))), (3, .int (iI (((ro : Nat) : Int)))), (4, .int (iI (go))), (5, .int (iI (((sw : Nat) : Int))))] → W p l e (headSpec w_S_doBout ({ frames := 4, cells := 0, slots := 0, locals := 113 })).room s m ([.ref (a 27), .ref (a (36 + 2 * k)), .int (iI (((am : Nat) : Int)))] : List Value).toArray below meth c H locs 0 0 (MQ below (va_Qi (fun (r : Int32) (u : Nat × (Int → Int)) => r = iI ((u.1 : Nat) : Int) ∧ pn_Bo (ns 0) (m_G nf da (ss k)) am u.1 (pr k) u.2 ∧ (u.1 = 0 → pn_no (ns 0) (m_G nf da (ss k)) am 8 (pr k) ∧ u.2 = pr k)) (fun u t => va_P D pn_cl ((fun u : Nat × (Int → Int) => cw a cI cL cD cS nf ns da be ui ul cn ss mf sd (nw pr k u.2)) u) t.heap ∧ va_D A ((fun u : Nat × (Int → Int) => cw a cI cL cD cS nf ns da be ui ul cn ss mf sd (nw pr k u.2)) u)) A) ([.ref (a 27), .ref (a (36 + 2 * k)), .int (iI (((am : Nat) : Int)))] : List Value).toArray s 0 0 A) (F0 m 8 ls []) := by
    intro n
    induction n with
    | zero => intro sw ro go Q H locs ls _ _ _ _ _ _ hm; exact absurd hm (Nat.not_lt_zero _)
    | succ n ih =>
      intro sw ro go Q H locs ls q1 q2 q3 q4 q5 q6 hm hP hD hS hl
      have b1 := q2.2.2.2
      refine lv_iload hx hb d_S_doBout_8 (lv_at hl 5 rfl) ?_
      refine lv_iconst (v := iI (4)) hx hb d_S_doBout_10 rfl ?_
      refine pr_icmp_ge (tgt := 83) hx hb (i3_of (by omega) (by omega)) (i3_of (by decide) (by decide)) d_S_doBout_11 (by decide) (fun c_1 => ?_) (fun c_1 => ?_)
      · skip
        have q8 := pn_q8 (sw := sw) (am := am) (by omega) q3 q4 q5 q6
        refine lv_iload_n hx hb d_S_doBout_83 rfl (lv_at hl 3 rfl) ?_
        exact W.iret (v := iI (((ro : Nat) : Int))) hx hb hr (fun t ht hW => ⟨⟨iI (((ro : Nat) : Int)), (ro, Q), rfl, ⟨rfl, q2, q8⟩, by rw [ht]; exact hP, hD⟩, hS.F ht⟩) hS.2.2 d_S_doBout_84
      · skip
        refine lv_iload hx hb d_S_doBout_14 (lv_at hl 4 rfl) ?_
        refine pr_if_eq (tgt := 83) hx hb (i3_of (by omega) (by omega)) d_S_doBout_16 (by decide) (fun c_2 => ?_) (fun c_2 => ?_)
        · skip
          have q8 := pn_q8 (sw := sw) (am := am) (by omega) q3 q4 q5 q6
          refine lv_iload_n hx hb d_S_doBout_83 rfl (lv_at hl 3 rfl) ?_
          exact W.iret (v := iI (((ro : Nat) : Int))) hx hb hr (fun t ht hW => ⟨⟨iI (((ro : Nat) : Int)), (ro, Q), rfl, ⟨rfl, q2, q8⟩, by rw [ht]; exact hP, hD⟩, hS.F ht⟩) hS.2.2 d_S_doBout_84
        · skip
          refine lv_iload_n hx hb d_S_doBout_19 rfl (lv_at hl 3 rfl) ?_
          refine lv_iload_n hx hb d_S_doBout_20 rfl (lv_at hl 2 rfl) ?_
          refine pr_icmp_eq (tgt := 83) hx hb (i3_of (by omega) (by omega)) (i3_of (by omega) (by omega)) d_S_doBout_21 (by decide) (fun c_3 => ?_) (fun c_3 => ?_)
          · skip
            have q8 := pn_q8 (sw := sw) (am := am) (by omega) q3 q4 q5 q6
            refine lv_iload_n hx hb d_S_doBout_83 rfl (lv_at hl 3 rfl) ?_
            exact W.iret (v := iI (((ro : Nat) : Int))) hx hb hr (fun t ht hW => ⟨⟨iI (((ro : Nat) : Int)), (ro, Q), rfl, ⟨rfl, q2, q8⟩, by rw [ht]; exact hP, hD⟩, hS.F ht⟩) hS.2.2 d_S_doBout_84
          · skip
            refine lv_iconst (v := iI (0)) hx hb d_S_doBout_24 rfl ?_
            refine lv_istore (lv' := [(4, .int (iI (0))), (0, .ref (a 27)), (1, .ref (a (36 + 2 * k))), (2, .int (iI (((am : Nat) : Int)))), (3, .int (iI (((ro : Nat) : Int)))), (5, .int (iI (((sw : Nat) : Int))))]) hx hb d_S_doBout_25 hl (by decide) rfl (fun ls hl => ?_)
            refine lv_iconst (v := iI (0)) hx hb d_S_doBout_27 rfl ?_
            refine lv_istore (lv' := [(6, .int (iI (0))), (4, .int (iI (0))), (0, .ref (a 27)), (1, .ref (a (36 + 2 * k))), (2, .int (iI (((am : Nat) : Int)))), (3, .int (iI (((ro : Nat) : Int)))), (5, .int (iI (((sw : Nat) : Int))))]) hx hb d_S_doBout_28 hl (by decide) rfl (fun ls hl => ?_)
            have iho := ih
            clear ih
            have inner : ∀ (n : Nat) (zz : Nat) (ro : Nat) (go : Int) (Q : Int → Int) (H : Heap) (locs : List Loc) (ls : Array Slot), (sw < 4) → (pn_Bo (ns 0) (m_G nf da (ss k)) am ro (pr k) Q) → (go = 0 ∨ go = 1) → (go = 0 → pn_no (ns 0) (m_G nf da (ss k)) am zz Q) → (go = 1 → ro ≠ 0) → (ro = 0 → Q = pr k) → ((zz : Int) ≤ ns 0) → (8 - zz) < n → va_P D pn_cl (cw a cI cL cD cS nf ns da be ui ul cn ss mf sd (nw pr k Q)) H → va_D A (cw a cI cL cD cS nf ns da be ui ul cn ss mf sd (nw pr k Q)) → va_S A s.heap H locs → lv_has ls 7 [(0, .ref (a 27)), (1, .ref (a (36 + 2 * k))), (2, .int (iI (((am : Nat) : Int)))), (3, .int (iI (((ro : Nat) : Int)))), (4, .int (iI (go))), (5, .int (iI (((sw : Nat) : Int)))), (6, .int (iI (((zz : Nat) : Int))))] → W p l e (headSpec w_S_doBout ({ frames := 4, cells := 0, slots := 0, locals := 113 })).room s m ([.ref (a 27), .ref (a (36 + 2 * k)), .int (iI (((am : Nat) : Int)))] : List Value).toArray below meth c H locs 0 0 (MQ below (va_Qi (fun (r : Int32) (u : Nat × (Int → Int)) => r = iI ((u.1 : Nat) : Int) ∧ pn_Bo (ns 0) (m_G nf da (ss k)) am u.1 (pr k) u.2 ∧ (u.1 = 0 → pn_no (ns 0) (m_G nf da (ss k)) am 8 (pr k) ∧ u.2 = pr k)) (fun u t => va_P D pn_cl ((fun u : Nat × (Int → Int) => cw a cI cL cD cS nf ns da be ui ul cn ss mf sd (nw pr k u.2)) u) t.heap ∧ va_D A ((fun u : Nat × (Int → Int) => cw a cI cL cD cS nf ns da be ui ul cn ss mf sd (nw pr k u.2)) u)) A) ([.ref (a 27), .ref (a (36 + 2 * k)), .int (iI (((am : Nat) : Int)))] : List Value).toArray s 0 0 A) (F0 m 30 ls []) := by
              intro n
              induction n with
              | zero => intro zz ro go Q H locs ls _ _ _ _ _ _ _ hm; exact absurd hm (Nat.not_lt_zero _)
              | succ n ih =>
                intro zz ro go Q H locs ls q1 q2 q3 q4 q5 q6 q7 hm hP hD hS hl
                refine lv_iload hx hb d_S_doBout_30 (lv_at hl 6 rfl) ?_
                refine lv_aload_n hx hb d_S_doBout_32 rfl (lv_at hl 0 rfl) ?_
                refine va_get (D := D) (ci := 2) (v := .ref (a 1)) (C := R_S) (T := T_S) (N := 2) hx hb hts (in_S _) hown hK hP 27 rfl rfl 0 (by decide) (ht _ m_133) (fun _ h9 => h9) rfl d_S_doBout_33 ?_
                refine va_get (D := D) (ci := 1) (v := .int (iI (ns 0))) (C := R_N) (T := T_N) (N := 17) hx hb hts (in_N _) hown hK hP 1 rfl rfl 13 (by decide) (ht _ m_83) (fun _ h9 => h9) rfl d_S_doBout_36 ?_
                refine pr_icmp_ge (tgt := 77) hx hb (i3_of (by omega) (by omega)) (i3_of (by omega) (by omega)) d_S_doBout_39 (by decide) (fun c_4 => ?_) (fun c_4 => ?_)
                · skip
                  refine lv_iinc (v := iI (((sw : Nat) : Int) + 1)) (lv' := [(5, .int (iI (((sw : Nat) : Int) + 1))), (0, .ref (a 27)), (1, .ref (a (36 + 2 * k))), (2, .int (iI (((am : Nat) : Int)))), (3, .int (iI (((ro : Nat) : Int)))), (4, .int (iI (go))), (6, .int (iI (((zz : Nat) : Int))))]) hx hb d_S_doBout_77 hl (k := 5) rfl (iI_add _ _).symm (by decide) rfl (fun ls hl => ?_)
                  refine lv_goto (tgt := 8) hx hb d_S_doBout_80 (by decide) ?_
                  exact iho (sw + 1) ro go Q _ _ ls (by omega) q2 q3 (fun h z hz8 h8 hn hb => q4 h z (by omega) h8 hn hb) (fun h => Or.inr (q5 h)) q6 (by omega) hP hD hS (lv_sub hl [1, 2, 3, 4, 5, 0] rfl)
                · skip
                  have hPrQ : pn_Pr ((nw pr k Q) k) := by rw [nw_s]; exact pn_Bo_pr q2 hPr
                  refine lv_iload_n hx hb d_S_doBout_42 rfl (lv_at hl 2 rfl) ?_
                  refine lv_iload hx hb d_S_doBout_43 (lv_at hl 6 rfl) ?_
                  refine lv_ishr hx hb d_S_doBout_45 ?_
                  refine lv_iconst (v := iI 1) hx hb d_S_doBout_46 rfl ?_
                  refine lv_iand hx hb d_S_doBout_47 ?_
                  refine pr_ixe (B := b2 ((am).testBit (zz) = true)) (nb_bit (by omega) (by omega)) ?_
                  refine pr_if_eq (tgt := 71) hx hb (i3_b2 _) d_S_doBout_48 (by decide) (fun c_5 => ?_) (fun c_5 => ?_)
                  · replace c_5 := b2_0 c_5
                    refine lv_iinc (v := iI (((zz : Nat) : Int) + 1)) (lv' := [(6, .int (iI (((zz : Nat) : Int) + 1))), (0, .ref (a 27)), (1, .ref (a (36 + 2 * k))), (2, .int (iI (((am : Nat) : Int)))), (3, .int (iI (((ro : Nat) : Int)))), (4, .int (iI (go))), (5, .int (iI (((sw : Nat) : Int))))]) hx hb d_S_doBout_71 hl (k := 6) rfl (iI_add _ _).symm (by decide) rfl (fun ls hl => ?_)
                    refine lv_goto (tgt := 30) hx hb d_S_doBout_74 (by decide) ?_
                    exact ih (zz + 1) (ro) (go) (Q) _ _ ls q1 q2 q3 (fun h => pn_no_s (q4 h) (fun hb => by first | exact absurd hb (by assumption) | exact hf)) q5 q6 (by omega) (by omega) hP hD hS (lv_sub hl [1, 2, 3, 4, 5, 6, 0] rfl)
                  · replace c_5 := b2_n1 c_5
                    refine lv_aload_n hx hb d_S_doBout_51 rfl (lv_at hl 0 rfl) ?_
                    refine lv_aload_n hx hb d_S_doBout_52 rfl (lv_at hl 1 rfl) ?_
                    refine lv_iload hx hb d_S_doBout_53 (lv_at hl 6 rfl) ?_
                    refine pr_ci (va_runV (As := [.ref (a (36 + 2 * k)), .int (iI (((zz : Nat) : Int)))]) (rest := []) ⟨hx, hb, hml, hown, hts⟩ (c_S_raises l (pr := nw pr k Q) H.size k zz hOk hk hPrQ hss (by omega)) (cwV 2 hts (pn_gV m_443 m_445 m_11 m_35 m_446) rfl rfl rfl (by decide +kernel) ⟨Nat.le_of_ble_eq_true rfl, Nat.le_of_ble_eq_true rfl⟩) (pn_preW (q0 := 27) (ci := 2) (q := (R_S, T_S, 2)) hP hD hE rfl rfl) rfl rfl hl.1 rfl (lv_room (Nat.le_of_ble_eq_true rfl)) d_S_doBout_55 ⟨Nat.le_of_ble_eq_true rfl, Nat.le_of_ble_eq_true rfl⟩) hD hS hA (fun r u H locs hw hP hD hS => ?_)
                    simp only [nw_s] at hw
                    try dsimp only at hP hD
                    rw [nw_nw] at hP hD
                    rcases hw with ⟨rfl, hu, hf⟩ | ⟨rfl, v, hu, h1, h2, h3⟩
                    · rw [hu] at hP hD
                      refine pr_if_eq (tgt := 71) hx hb (i3_of (by decide) (by decide)) d_S_doBout_58 (by decide) (fun c_6 => ?_) (fun c_6 => ?_)
                      · skip
                        refine lv_iinc (v := iI (((zz : Nat) : Int) + 1)) (lv' := [(6, .int (iI (((zz : Nat) : Int) + 1))), (0, .ref (a 27)), (1, .ref (a (36 + 2 * k))), (2, .int (iI (((am : Nat) : Int)))), (3, .int (iI (((ro : Nat) : Int)))), (4, .int (iI (go))), (5, .int (iI (((sw : Nat) : Int))))]) hx hb d_S_doBout_71 hl (k := 6) rfl (iI_add _ _).symm (by decide) rfl (fun ls hl => ?_)
                        refine lv_goto (tgt := 30) hx hb d_S_doBout_74 (by decide) ?_
                        exact ih (zz + 1) (ro) (go) (Q) _ _ ls q1 q2 q3 (fun h => pn_no_s (q4 h) (fun hb => by first | exact absurd hb (by assumption) | exact hf)) q5 q6 (by omega) (by omega) hP hD hS (lv_sub hl [1, 2, 3, 4, 5, 6, 0] rfl)
                      · skip
                        exact absurd c_6 (by decide)
                    · skip
                      refine pr_if_eq (tgt := 71) hx hb (i3_of (by decide) (by decide)) d_S_doBout_58 (by decide) (fun c_7 => ?_) (fun c_7 => ?_)
                      · skip
                        exact absurd c_7 (by decide)
                      · skip
                        refine lv_iload_n hx hb d_S_doBout_61 rfl (lv_at hl 3 rfl) ?_
                        refine lv_iconst (v := iI (1)) hx hb d_S_doBout_62 rfl ?_
                        refine lv_iload hx hb d_S_doBout_63 (lv_at hl 6 rfl) ?_
                        refine lv_ishl hx hb d_S_doBout_65 ?_
                        refine lv_ior hx hb d_S_doBout_66 ?_
                        refine pr_ixe (B := ((ro ||| 2 ^ zz : Nat) : Int)) (iI_sh1 (by omega)) ?_
                        refine lv_istore_n (lv' := [(3, .int (iI (((ro ||| 2 ^ zz : Nat) : Int)))), (0, .ref (a 27)), (1, .ref (a (36 + 2 * k))), (2, .int (iI (((am : Nat) : Int)))), (4, .int (iI (go))), (5, .int (iI (((sw : Nat) : Int)))), (6, .int (iI (((zz : Nat) : Int))))]) hx hb d_S_doBout_67 rfl hl (by decide) rfl (fun ls hl => ?_)
                        refine lv_iconst (v := iI (1)) hx hb d_S_doBout_68 rfl ?_
                        refine lv_istore (lv' := [(4, .int (iI (1))), (3, .int (iI (((ro ||| 2 ^ zz : Nat) : Int)))), (0, .ref (a 27)), (1, .ref (a (36 + 2 * k))), (2, .int (iI (((am : Nat) : Int)))), (5, .int (iI (((sw : Nat) : Int)))), (6, .int (iI (((zz : Nat) : Int))))]) hx hb d_S_doBout_69 hl (by decide) rfl (fun ls hl => ?_)
                        refine lv_iinc (v := iI (((zz : Nat) : Int) + 1)) (lv' := [(6, .int (iI (((zz : Nat) : Int) + 1))), (4, .int (iI (1))), (3, .int (iI (((ro ||| 2 ^ zz : Nat) : Int)))), (0, .ref (a 27)), (1, .ref (a (36 + 2 * k))), (2, .int (iI (((am : Nat) : Int)))), (5, .int (iI (((sw : Nat) : Int))))]) hx hb d_S_doBout_71 hl (k := 6) rfl (iI_add _ _).symm (by decide) rfl (fun ls hl => ?_)
                        refine lv_goto (tgt := 30) hx hb d_S_doBout_74 (by decide) ?_
                        exact ih (zz + 1) (ro ||| 2 ^ zz) (1) (u) _ _ ls q1 (by rw [hu]; exact pn_Bo_step q2 (by assumption) (by omega) (by omega) h1 h2 h3) (Or.inr rfl) (fun h => by cases h) (fun _ => pn_or_ne) (fun h => absurd h pn_or_ne) (by omega) (by omega) hP hD hS (lv_sub hl [3, 4, 5, 2, 1, 6, 0] rfl)
            exact inner _ (0) (ro) (0) (Q) _ _ ls (by omega) q2 (Or.inl rfl) (fun _ => pn_no_0) (fun h => by cases h) q6 (by omega) (Nat.lt_succ_self _) hP hD hS (lv_sub hl [2, 3, 4, 5, 1, 6, 0] rfl)
  refine lv_iconst (v := iI (0)) hx hb d_S_doBout_0 rfl ?_
  refine lv_istore_n (lv' := [(3, .int (iI (0))), (0, .ref (a 27)), (1, .ref (a (36 + 2 * k))), (2, .int (iI (((am : Nat) : Int))))]) hx hb d_S_doBout_1 rfl hl (by decide) rfl (fun ls hl => ?_)
  refine lv_iconst (v := iI (1)) hx hb d_S_doBout_2 rfl ?_
  refine lv_istore (lv' := [(4, .int (iI (1))), (3, .int (iI (0))), (0, .ref (a 27)), (1, .ref (a (36 + 2 * k))), (2, .int (iI (((am : Nat) : Int))))]) hx hb d_S_doBout_3 hl (by decide) rfl (fun ls hl => ?_)
  refine lv_iconst (v := iI (0)) hx hb d_S_doBout_5 rfl ?_
  refine lv_istore (lv' := [(5, .int (iI (0))), (4, .int (iI (1))), (3, .int (iI (0))), (0, .ref (a 27)), (1, .ref (a (36 + 2 * k))), (2, .int (iI (((am : Nat) : Int))))]) hx hb d_S_doBout_6 hl (by decide) rfl (fun ls hl => ?_)
  have hP : va_P D pn_cl (cw a cI cL cD cS nf ns da be ui ul cn ss mf sd (nw pr k (pr k))) s.heap := by rw [nw_self]; exact hP
  have hD : va_D A (cw a cI cL cD cS nf ns da be ui ul cn ss mf sd (nw pr k (pr k))) := by rw [nw_self]; exact hD
  exact outer _ (0) (0) (1) (pr k) _ _ ls (by omega) pn_Bo_0 (Or.inr rfl) (fun h => by cases h) (fun _ => Or.inl rfl) (fun _ => rfl) (Nat.lt_succ_self _) hP hD hS (lv_sub hl [3, 4, 5, 2, 1, 0] rfl)
