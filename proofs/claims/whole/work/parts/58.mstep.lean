/-! the reference's step -/
abbrev w_M_step : List Cond := .code y_M_step b_M_step 12 (some .boolean) :: pn_W
set_option maxHeartbeats 4000000 in
set_option maxRecDepth 100000 in
theorem c_M_step (l : Launch) {D : va_G} {b : Nat → Nat} {cI cL cZ : ClassId} {mi ml : Nat → Int → Int} {mz : Int → Int} {ms : Nat → Int} (sz : Nat) (nf : Nat → Int → Int) (ns : Nat → Int) (da : Int → Int → Int) (S : Nat)  (hOk : pn_Ok nf ns da) (hR : mn_R nf ns mi ms) (hS6 : ms 6 = ((S : Nat) : Int)) (hSb : S < 2 ^ 20) (hPr : pn_Pr (mP mi)) (hW : pn_Rw nf ns) (hV : s_V nf (ns 0)) (so hq : Int → Int) (hso : ∀ z, 0 ≤ z → z < 8 → mi 3 z = so (z + 4)) (hsb : ∀ j, 0 ≤ j → j < 12 → 0 ≤ so j ∧ so j ≤ 1000000) (hs0 : ∀ j, 4 + ns 0 ≤ j → j < 12 → so j = 0) (hB : s_B hq) (hag : s_ag (mH ml) hq)  : Met l y_M_step w_M_step ({ frames := 4, cells := 0, slots := 0, locals := 95 }) (va_Pc [.ref (b 0)] (fun U => U.heap.size = sz ∧ va_P D pn_cl (mw b cI cL cZ mi ml mz ms) U.heap ∧ va_D (fun _ => True) (mw b cI cL cZ mi ml mz ms) ∧ mn_E D cI cL cZ U)) (va_Qi (fun (r : Int32) (u : Nat → Int → Int) => (r = iI 1 ∧ s_ok nf (m_F nf ns S (mP mi)) so hq ∧ s_ag (mH u) (s_nx nf (m_F nf ns S (mP mi)) so hq)) ∨ (r = iI 0 ∧ ¬ s_ok nf (m_F nf ns S (mP mi)) so hq ∧ u 0 = ml 0 ∧ u 1 = ml 1)) (fun u t => va_P D pn_cl ((fun u : Nat → Int → Int => mw b cI cL cZ mi u mz ms) u) t.heap ∧ va_D (va_A (mw b cI cL cZ mi ml mz ms) sz) ((fun u : Nat → Int → Int => mw b cI cL cZ mi u mz ms) u)) (va_A (mw b cI cL cZ mi ml mz ms) sz)) 0 0 (va_A (mw b cI cL cZ mi ml mz ms) sz) := by
  refine Met.ofW (cc := b_M_step) (maxL := 12) (ret := (some .boolean)) (by decide) rfl ?_
  intro p e s m args below meth c s₁ B hml hv
  obtain ⟨rfl, hsz, hP, hD0, hE⟩ := hv
  have hx := B.exec
  have hb := B.bytes
  have hr := B.returns
  have hts := atoms_spec (ws := w_M_step) B.pre
  have ht : ∀ w ∈ pn_W, w.before _ s = true := fun w h => hts w (List.mem_cons_of_mem _ h)
  have hown : s.vm.findClass R_M = some m.cls := findClass_of_methodNamed B.named
  have hlocks := B.notSynchronized
  have hK := hE
  subst hsz
  have hD := hD0.self (sz := s.heap.size)
  generalize hAe : va_A (mw b cI cL cZ mi ml mz ms) s.heap.size = A at hD ⊢
  have hA : ∀ q : Nat, s.heap.size ≤ q → A q := fun q h => by rw [← hAe]; exact Or.inr h
  have hS : va_S A s.heap s.heap [] := va_S.rf
  have hl := lv_entry ([.ref (b 0)]) (n := 12) (Nat.le_of_ble_eq_true rfl)
  rw [lg_entry_eq]
  generalize (lg_sl ([.ref (b 0)]) ++ List.replicate (12 - (lg_sl ([.ref (b 0)])).length) Slot.unset).toArray = ls at hl ⊢
  have hl : lv_has ls 12 [(0, .ref (b 0))] := hl
  obtain ⟨o_zc, o_lc, o_fc, o_ve, o_wi, o_wa, o_vo, o_fr, o_to, o_he, o_ar, o_ki, o_st, o_ff, o_sl, o_dc, o_da⟩ := id hOk
  obtain ⟨r_zo, r_le, r_fa, r_wi, r_ai, r_wa, r_vo, r_lk, r_fn⟩ := id hR
  have hne : ∀ k, 0 ≤ k → k < ns 1 → nf 3 k ≠ nf 4 k := fun k a9 b9 => (hW k (Or.inl ⟨a9, b9⟩)).2.2
  have hFb := m_F_b (S := S) hOk hPr
  have hRr : s_R nf (m_F nf ns S (mP mi)) (ns 0) := m_F_R hOk hW
  have hGv : ∀ d, 0 ≤ d → d < 24 → 0 ≤ m_gv nf (m_F nf ns S (mP mi)) d ∧ m_gv nf (m_F nf ns S (mP mi)) d < 12 := fun d a9 b9 => (m_gv_b (m_F nf ns S (mP mi)) hOk a9 b9).1
  have hmz : ∀ z, 0 ≤ z → z < 8 → ml 0 z = hq (z + 4) := fun z a9 b9 => by rw [← hag (z + 4) (by omega) (by omega)]; unfold mH; rw [if_neg (by omega), show z + 4 - 4 = z by omega]
  have hms : ∀ j, 0 ≤ j → j < 4 → ml 1 j = hq j := fun j a9 b9 => by rw [← hag j a9 (by omega)]; unfold mH; rw [if_pos b9]
  have l6 : ∀ (n : Nat) (N : Int → Int) (G : Int → Int) (H0 : Int → Int) (G0 : Int → Int) (t : Int) (H : Heap) (locs : List Loc) (ls : Array Slot), (∀ j, 0 ≤ j → j < 8 → N j = if j < ns 0 then s_T nf (m_F nf ns S (mP mi)) hq (s_wh nf (m_F nf ns S (mP mi))) (j + 4) + so (j + 4) else s_T nf (m_F nf ns S (mP mi)) hq (s_wh nf (m_F nf ns S (mP mi))) (j + 4)) → (∀ j, 0 ≤ j → j < 4 → G j = s_T nf (m_F nf ns S (mP mi)) hq (s_wh nf (m_F nf ns S (mP mi))) (j)) → (∀ j, 0 ≤ j → j < ns 0 → s_T nf (m_F nf ns S (mP mi)) hq (s_wh nf (m_F nf ns S (mP mi))) (j + 4) + so (j + 4) ≤ 1000000000) → (∀ j, 0 ≤ j → j < 8 → H0 j = N j) → (∀ j, 0 ≤ j → j < t → G0 j = G j) → (0 ≤ t) → (t ≤ 4) → ((4 - t).toNat) < n → va_P D pn_cl (mw b cI cL cZ mi (nw (nw (nw (nw ml 2 N) 3 G) 0 H0) 1 G0) mz ms) H → va_D A (mw b cI cL cZ mi (nw (nw (nw (nw ml 2 N) 3 G) 0 H0) 1 G0) mz ms) → va_S A s.heap H locs → lv_has ls 12 [(0, .ref (b 0)), (1, .int (iI (1))), (2, .int (iI (t)))] → W p l e (headSpec w_M_step ({ frames := 4, cells := 0, slots := 0, locals := 95 })).room s m ([.ref (b 0)] : List Value).toArray below meth c H locs 0 0 (MQ below (va_Qi (fun (r : Int32) (u : Nat → Int → Int) => (r = iI 1 ∧ s_ok nf (m_F nf ns S (mP mi)) so hq ∧ s_ag (mH u) (s_nx nf (m_F nf ns S (mP mi)) so hq)) ∨ (r = iI 0 ∧ ¬ s_ok nf (m_F nf ns S (mP mi)) so hq ∧ u 0 = ml 0 ∧ u 1 = ml 1)) (fun u t => va_P D pn_cl ((fun u : Nat → Int → Int => mw b cI cL cZ mi u mz ms) u) t.heap ∧ va_D A ((fun u : Nat → Int → Int => mw b cI cL cZ mi u mz ms) u)) A) ([.ref (b 0)] : List Value).toArray s 0 0 A) (F0 m 320 ls []) := by
    intro n
    induction n with
    | zero => intro N G H0 G0 t H locs ls _ _ _ _ _ _ _ hm; exact absurd hm (Nat.not_lt_zero _)
    | succ n ih =>
      intro N G H0 G0 t H locs ls hN hG h1 e1 e2 p1 p2 hm hP hD hS hl
      refine lv_iload_n hx hb d_M_step_320 rfl (lv_at hl 2 rfl) ?_
      refine lv_iconst (v := iI (4)) hx hb d_M_step_321 rfl ?_
      refine pr_icmp_ge (tgt := 343) hx hb (i3_of (by omega) (by omega)) (i3_of (by decide) (by decide)) d_M_step_322 (by decide) (fun c_1 => ?_) (fun c_1 => ?_)
      · skip
        refine lv_iload_n hx hb d_M_step_343 rfl (lv_at hl 1 rfl) ?_
        exact W.zret (v := iI (1)) hx hb hr (by decide) (fun t ht hW => ⟨⟨iI (1), (nw (nw (nw (nw ml 2 N) 3 G) 0 H0) 1 G0), rfl, Or.inl ⟨rfl, s_okn hRr hB hs0 (by intro j a9 b9; exact h1 j a9 (by omega)), s_fin1 o_zc.2 (by intro j a9 b9; rw [← hN j a9 b9]; exact e1 j a9 b9) (by intro j a9 b9; rw [← hG j a9 b9]; exact e2 j a9 (by omega)) hs0⟩, by rw [ht]; exact hP, hD⟩, hS.F ht⟩) hS.2.2 d_M_step_344
      · skip
        refine lv_aload_n hx hb d_M_step_325 rfl (lv_at hl 0 rfl) ?_
        refine va_get (D := D) (ci := 5) (v := .ref (b 17)) (C := R_M) (T := T_M) (N := 27) hx hb hts (in_M _) hown hK hP 0 rfl rfl 22 (by decide) (ht _ m_612) (fun _ h9 => h9) rfl d_M_step_326 ?_
        refine lv_iload_n hx hb d_M_step_329 rfl (lv_at hl 2 rfl) ?_
        refine lv_aload_n hx hb d_M_step_330 rfl (lv_at hl 0 rfl) ?_
        refine va_get (D := D) (ci := 5) (v := .ref (b 20)) (C := R_M) (T := T_M) (N := 27) hx hb hts (in_M _) hown hK hP 0 rfl rfl 26 (by decide) (ht _ m_616) (fun _ h9 => h9) rfl d_M_step_331 ?_
        refine lv_iload_n hx hb d_M_step_334 rfl (lv_at hl 2 rfl) ?_
        refine pr_lald hx hb hK hP 20 1 rfl rfl (by decide) (by omega) (by omega) d_M_step_335 ?_
        refine pr_last (ws' := mw b cI cL cZ mi (nw (nw (nw (nw (nw ml 2 N) 3 G) 0 H0) 1 G0) 1 (pu (G0) (t) (G (t)))) mz ms) hx hb hK hP hD hS 17 1 rfl rfl (by decide) (by omega) (by omega) rfl d_M_step_336 (fun H locs hP hD hS => ?_)
        have e9 : nw (nw (nw (nw (nw ml 2 N) 3 G) 0 H0) 1 G0) 1 (pu (G0) (t) (G (t))) = nw (nw (nw (nw ml 2 N) 3 G) 0 H0) 1 (pu G0 t (G t)) := by rw [nw_nw]
        rw [e9] at hP hD
        clear e9
        refine lv_iinc (v := iI (t + 1)) (lv' := [(2, .int (iI (t + 1))), (0, .ref (b 0)), (1, .int (iI (1)))]) hx hb d_M_step_337 hl (k := 2) rfl (iI_add _ _).symm (by decide) rfl (fun ls hl => ?_)
        refine lv_goto (tgt := 320) hx hb d_M_step_340 (by decide) ?_
        exact ih (N) (G) (H0) (pu G0 t (G t)) (t + 1) _ _ ls hN hG h1 e1 (by intro j a9 b9; unfold pu; by_cases c9 : j = t; rw [if_pos c9, c9]; rw [if_neg c9]; exact e2 j a9 (by omega)) (by omega) (by omega) (by omega) hP hD hS (lv_sub hl [1, 2, 0] rfl)
  have l5 : ∀ (n : Nat) (N : Int → Int) (G : Int → Int) (H0 : Int → Int) (t : Int) (H : Heap) (locs : List Loc) (ls : Array Slot), (∀ j, 0 ≤ j → j < 8 → N j = if j < ns 0 then s_T nf (m_F nf ns S (mP mi)) hq (s_wh nf (m_F nf ns S (mP mi))) (j + 4) + so (j + 4) else s_T nf (m_F nf ns S (mP mi)) hq (s_wh nf (m_F nf ns S (mP mi))) (j + 4)) → (∀ j, 0 ≤ j → j < 4 → G j = s_T nf (m_F nf ns S (mP mi)) hq (s_wh nf (m_F nf ns S (mP mi))) (j)) → (∀ j, 0 ≤ j → j < ns 0 → s_T nf (m_F nf ns S (mP mi)) hq (s_wh nf (m_F nf ns S (mP mi))) (j + 4) + so (j + 4) ≤ 1000000000) → (∀ j, 0 ≤ j → j < t → H0 j = N j) → (0 ≤ t) → (t ≤ 8) → ((8 - t).toNat) < n → va_P D pn_cl (mw b cI cL cZ mi (nw (nw (nw ml 2 N) 3 G) 0 H0) mz ms) H → va_D A (mw b cI cL cZ mi (nw (nw (nw ml 2 N) 3 G) 0 H0) mz ms) → va_S A s.heap H locs → lv_has ls 12 [(0, .ref (b 0)), (1, .int (iI (1))), (2, .int (iI (t)))] → W p l e (headSpec w_M_step ({ frames := 4, cells := 0, slots := 0, locals := 95 })).room s m ([.ref (b 0)] : List Value).toArray below meth c H locs 0 0 (MQ below (va_Qi (fun (r : Int32) (u : Nat → Int → Int) => (r = iI 1 ∧ s_ok nf (m_F nf ns S (mP mi)) so hq ∧ s_ag (mH u) (s_nx nf (m_F nf ns S (mP mi)) so hq)) ∨ (r = iI 0 ∧ ¬ s_ok nf (m_F nf ns S (mP mi)) so hq ∧ u 0 = ml 0 ∧ u 1 = ml 1)) (fun u t => va_P D pn_cl ((fun u : Nat → Int → Int => mw b cI cL cZ mi u mz ms) u) t.heap ∧ va_D A ((fun u : Nat → Int → Int => mw b cI cL cZ mi u mz ms) u)) A) ([.ref (b 0)] : List Value).toArray s 0 0 A) (F0 m 294 ls []) := by
    intro n
    induction n with
    | zero => intro N G H0 t H locs ls _ _ _ _ _ _ hm; exact absurd hm (Nat.not_lt_zero _)
    | succ n ih =>
      intro N G H0 t H locs ls hN hG h1 e1 p1 p2 hm hP hD hS hl
      refine lv_iload_n hx hb d_M_step_294 rfl (lv_at hl 2 rfl) ?_
      refine lv_bipush (v := iI (8)) hx hb d_M_step_295 (by decide) ?_
      refine pr_icmp_ge (tgt := 318) hx hb (i3_of (by omega) (by omega)) (i3_of (by decide) (by decide)) d_M_step_297 (by decide) (fun c_2 => ?_) (fun c_2 => ?_)
      · skip
        refine lv_iconst (v := iI (0)) hx hb d_M_step_318 rfl ?_
        refine lv_istore_n (lv' := [(2, .int (iI (0))), (0, .ref (b 0)), (1, .int (iI (1)))]) hx hb d_M_step_319 rfl hl (by decide) rfl (fun ls hl => ?_)
        have e9 : nw (nw (nw ml 2 N) 3 G) 0 H0 = nw (nw (nw (nw ml 2 N) 3 G) 0 H0) 1 (ml 1) := (nw_self (nw (nw (nw ml 2 N) 3 G) 0 H0) 1).symm
        rw [e9] at hP hD
        clear e9
        exact l6 _ (N) (G) (H0) (ml 1) (0) _ _ ls hN hG h1 (fun j a9 b9 => e1 j a9 (by omega)) (fun j a9 b9 => absurd b9 (by omega)) (by omega) (by omega) (Nat.lt_succ_self _) hP hD hS (lv_sub hl [1, 2, 0] rfl)
      · skip
        refine lv_aload_n hx hb d_M_step_300 rfl (lv_at hl 0 rfl) ?_
        refine va_get (D := D) (ci := 5) (v := .ref (b 4)) (C := R_M) (T := T_M) (N := 27) hx hb hts (in_M _) hown hK hP 0 rfl rfl 6 (by decide) (ht _ m_596) (fun _ h9 => h9) rfl d_M_step_301 ?_
        refine lv_iload_n hx hb d_M_step_304 rfl (lv_at hl 2 rfl) ?_
        refine lv_aload_n hx hb d_M_step_305 rfl (lv_at hl 0 rfl) ?_
        refine va_get (D := D) (ci := 5) (v := .ref (b 19)) (C := R_M) (T := T_M) (N := 27) hx hb hts (in_M _) hown hK hP 0 rfl rfl 25 (by decide) (ht _ m_615) (fun _ h9 => h9) rfl d_M_step_306 ?_
        refine lv_iload_n hx hb d_M_step_309 rfl (lv_at hl 2 rfl) ?_
        refine pr_lald hx hb hK hP 19 1 rfl rfl (by decide) (by omega) (by omega) d_M_step_310 ?_
        refine pr_last (ws' := mw b cI cL cZ mi (nw (nw (nw (nw ml 2 N) 3 G) 0 H0) 0 (pu (H0) (t) (N (t)))) mz ms) hx hb hK hP hD hS 4 1 rfl rfl (by decide) (by omega) (by omega) rfl d_M_step_311 (fun H locs hP hD hS => ?_)
        have e9 : nw (nw (nw (nw ml 2 N) 3 G) 0 H0) 0 (pu (H0) (t) (N (t))) = nw (nw (nw ml 2 N) 3 G) 0 (pu H0 t (N t)) := by rw [nw_nw]
        rw [e9] at hP hD
        clear e9
        refine lv_iinc (v := iI (t + 1)) (lv' := [(2, .int (iI (t + 1))), (0, .ref (b 0)), (1, .int (iI (1)))]) hx hb d_M_step_312 hl (k := 2) rfl (iI_add _ _).symm (by decide) rfl (fun ls hl => ?_)
        refine lv_goto (tgt := 294) hx hb d_M_step_315 (by decide) ?_
        exact ih (N) (G) (pu H0 t (N t)) (t + 1) _ _ ls hN hG h1 (by intro j a9 b9; unfold pu; by_cases c9 : j = t; rw [if_pos c9, c9]; rw [if_neg c9]; exact e1 j a9 (by omega)) (by omega) (by omega) (by omega) hP hD hS (lv_sub hl [1, 2, 0] rfl)
  have l4 : ∀ (n : Nat) (z : Nat) (fi : Int) (N : Int → Int) (G : Int → Int) (H : Heap) (locs : List Loc) (ls : Array Slot), ((z : Int) ≤ ns 0) → (∀ j, 0 ≤ j → j < 8 → N j = if j < (z : Int) then s_T nf (m_F nf ns S (mP mi)) hq (s_wh nf (m_F nf ns S (mP mi))) (j + 4) + so (j + 4) else s_T nf (m_F nf ns S (mP mi)) hq (s_wh nf (m_F nf ns S (mP mi))) (j + 4)) → (((fi = 1 ∧ ∀ j, 0 ≤ j → j < (z : Int) → s_T nf (m_F nf ns S (mP mi)) hq (s_wh nf (m_F nf ns S (mP mi))) (j + 4) + so (j + 4) ≤ 1000000000) ∨ (fi = 0 ∧ ∃ j, 0 ≤ j ∧ j < (z : Int) ∧ 1000000000 < s_T nf (m_F nf ns S (mP mi)) hq (s_wh nf (m_F nf ns S (mP mi))) (j + 4) + so (j + 4)))) → (∀ j, 0 ≤ j → j < 4 → G j = s_T nf (m_F nf ns S (mP mi)) hq (s_wh nf (m_F nf ns S (mP mi))) (j)) → ((ns 0).toNat - z) < n → va_P D pn_cl (mw b cI cL cZ mi (nw (nw ml 2 N) 3 G) mz ms) H → va_D A (mw b cI cL cZ mi (nw (nw ml 2 N) 3 G) mz ms) → va_S A s.heap H locs → lv_has ls 12 [(0, .ref (b 0)), (1, .int (iI (fi))), (2, .int (iI (((z : Nat) : Int))))] → W p l e (headSpec w_M_step ({ frames := 4, cells := 0, slots := 0, locals := 95 })).room s m ([.ref (b 0)] : List Value).toArray below meth c H locs 0 0 (MQ below (va_Qi (fun (r : Int32) (u : Nat → Int → Int) => (r = iI 1 ∧ s_ok nf (m_F nf ns S (mP mi)) so hq ∧ s_ag (mH u) (s_nx nf (m_F nf ns S (mP mi)) so hq)) ∨ (r = iI 0 ∧ ¬ s_ok nf (m_F nf ns S (mP mi)) so hq ∧ u 0 = ml 0 ∧ u 1 = ml 1)) (fun u t => va_P D pn_cl ((fun u : Nat → Int → Int => mw b cI cL cZ mi u mz ms) u) t.heap ∧ va_D A ((fun u : Nat → Int → Int => mw b cI cL cZ mi u mz ms) u)) A) ([.ref (b 0)] : List Value).toArray s 0 0 A) (F0 m 235 ls []) := by
    intro n
    induction n with
    | zero => intro z fi N G H locs ls _ _ _ _ hm; exact absurd hm (Nat.not_lt_zero _)
    | succ n ih =>
      intro z fi N G H locs ls p2 hN4 hfi hG hm hP hD hS hl
      refine lv_iload_n hx hb d_M_step_235 rfl (lv_at hl 2 rfl) ?_
      refine lv_aload_n hx hb d_M_step_236 rfl (lv_at hl 0 rfl) ?_
      refine va_get (D := D) (ci := 5) (v := .int (iI (ms 2))) (C := R_M) (T := T_M) (N := 27) hx hb hts (in_M _) hown hK hP 0 rfl rfl 3 (by decide) (ht _ m_593) (fun _ h9 => h9) rfl d_M_step_237 ?_
      refine pr_icmp_ge (tgt := 288) hx hb (i3_of (by omega) (by omega)) (i3_of (by omega) (by omega)) d_M_step_240 (by decide) (fun c_3 => ?_) (fun c_3 => ?_)
      · skip
        have hzn : (z : Int) = ns 0 := by omega
        have hN : ∀ j, 0 ≤ j → j < 8 → N j = if j < ns 0 then s_T nf (m_F nf ns S (mP mi)) hq (s_wh nf (m_F nf ns S (mP mi))) (j + 4) + so (j + 4) else s_T nf (m_F nf ns S (mP mi)) hq (s_wh nf (m_F nf ns S (mP mi))) (j + 4) := by rw [← hzn]; exact hN4
        rcases hfi with ⟨rfl, h1⟩ | ⟨rfl, h0⟩
        · skip
          rw [hzn] at h1
          refine lv_iload_n hx hb d_M_step_288 rfl (lv_at hl 1 rfl) ?_
          refine pr_if_eq (tgt := 343) hx hb (i3_of (by decide) (by decide)) d_M_step_289 (by decide) (fun c_4 => ?_) (fun c_4 => ?_)
          · skip
            exact absurd c_4 (by decide)
          · skip
            refine lv_iconst (v := iI (0)) hx hb d_M_step_292 rfl ?_
            refine lv_istore_n (lv' := [(2, .int (iI (0))), (0, .ref (b 0)), (1, .int (iI (1)))]) hx hb d_M_step_293 rfl hl (by decide) rfl (fun ls hl => ?_)
            have e9 : nw (nw ml 2 N) 3 G = nw (nw (nw ml 2 N) 3 G) 0 (ml 0) := (nw_self (nw (nw ml 2 N) 3 G) 0).symm
            rw [e9] at hP hD
            clear e9
            exact l5 _ (N) (G) (ml 0) (0) _ _ ls hN hG h1 (fun j a9 b9 => absurd b9 (by omega)) (by omega) (by omega) (Nat.lt_succ_self _) hP hD hS (lv_sub hl [1, 2, 0] rfl)
        · skip
          refine lv_iload_n hx hb d_M_step_288 rfl (lv_at hl 1 rfl) ?_
          refine pr_if_eq (tgt := 343) hx hb (i3_of (by decide) (by decide)) d_M_step_289 (by decide) (fun c_5 => ?_) (fun c_5 => ?_)
          · skip
            refine lv_iload_n hx hb d_M_step_343 rfl (lv_at hl 1 rfl) ?_
            exact W.zret (v := iI (0)) hx hb hr (by decide) (fun t ht hW => ⟨⟨iI (0), (nw (nw ml 2 N) 3 G), rfl, Or.inr ⟨rfl, s_okx o_zc.2 (by obtain ⟨j, a9, b9, c9⟩ := h0; exact ⟨j, a9, by omega, c9⟩), rfl, rfl⟩, by rw [ht]; exact hP, hD⟩, hS.F ht⟩) hS.2.2 d_M_step_344
          · skip
            exact absurd c_5 (by decide)
      · skip
        have hz8 : (z : Int) < 8 := by omega
        have nz := hN4 z (by omega) hz8
        rw [if_neg (by omega)] at nz
        have soz := hso z (by omega) hz8
        have sbz := hsb ((z : Int) + 4) (by omega) (by omega)
        have tb := s_T_bd hRr hV hFb hGv hB (j := (z : Int) + 4) (by omega) (by omega)
        have fi3 : fi = 0 ∨ fi = 1 := by rcases hfi with ⟨q8, -⟩ | ⟨q8, -⟩ <;> omega
        refine lv_aload_n hx hb d_M_step_243 rfl (lv_at hl 0 rfl) ?_
        refine va_get (D := D) (ci := 5) (v := .ref (b 19)) (C := R_M) (T := T_M) (N := 27) hx hb hts (in_M _) hown hK hP 0 rfl rfl 25 (by decide) (ht _ m_615) (fun _ h9 => h9) rfl d_M_step_244 ?_
        refine lv_iload_n hx hb d_M_step_247 rfl (lv_at hl 2 rfl) ?_
        refine lv_dup2_11 hx hb d_M_step_248 rfl rfl ?_
        refine pr_lald hx hb hK hP 19 1 rfl rfl (by decide) (by omega) (by omega) d_M_step_249 ?_
        refine lv_aload_n hx hb d_M_step_250 rfl (lv_at hl 0 rfl) ?_
        refine va_get (D := D) (ci := 5) (v := .ref (b 5)) (C := R_M) (T := T_M) (N := 27) hx hb hts (in_M _) hown hK hP 0 rfl rfl 7 (by decide) (ht _ m_597) (fun _ h9 => h9) rfl d_M_step_251 ?_
        refine lv_iload_n hx hb d_M_step_254 rfl (lv_at hl 2 rfl) ?_
        refine pr_iald hx hb hK hP 5 0 rfl rfl (by decide) (by omega) (by omega) d_M_step_255 ?_
        refine pr_i2l hx hb (i3_of (by omega) (by omega)) d_M_step_256 ?_
        refine pr_ladd hx hb d_M_step_257 ?_
        refine pr_lre (B := s_T nf (m_F nf ns S (mP mi)) hq (s_wh nf (m_F nf ns S (mP mi))) ((z : Int) + 4) + so ((z : Int) + 4)) (by show N _ + mi 3 _ = _; rw [nz, soz]) ?_
        refine pr_last (ws' := mw b cI cL cZ mi (nw (nw (nw ml 2 N) 3 G) 2 (pu (N) (((z : Nat) : Int)) (s_T nf (m_F nf ns S (mP mi)) hq (s_wh nf (m_F nf ns S (mP mi))) ((z : Int) + 4) + so ((z : Int) + 4)))) mz ms) hx hb hK hP hD hS 19 1 rfl rfl (by decide) (by omega) (by omega) rfl d_M_step_258 (fun H locs hP hD hS => ?_)
        have e9 : nw (nw (nw ml 2 N) 3 G) 2 (pu (N) (((z : Nat) : Int)) (s_T nf (m_F nf ns S (mP mi)) hq (s_wh nf (m_F nf ns S (mP mi))) ((z : Int) + 4) + so ((z : Int) + 4))) = nw (nw ml 2 (pu N (((z : Nat) : Int)) (s_T nf (m_F nf ns S (mP mi)) hq (s_wh nf (m_F nf ns S (mP mi))) ((z : Int) + 4) + so ((z : Int) + 4)))) 3 G := nw_cm _ _ _ _ (by decide)
        rw [e9] at hP hD
        clear e9
        refine lv_iload_n hx hb d_M_step_259 rfl (lv_at hl 1 rfl) ?_
        refine pr_if_eq (tgt := 280) hx hb (i3_of (by omega) (by omega)) d_M_step_260 (by decide) (fun c_6 => ?_) (fun c_6 => ?_)
        · skip
          refine lv_iconst (v := iI (0)) hx hb d_M_step_280 rfl ?_
          refine lv_istore_n (lv' := [(1, .int (iI (0))), (0, .ref (b 0)), (2, .int (iI (((z : Nat) : Int))))]) hx hb d_M_step_281 rfl hl (by decide) rfl (fun ls hl => ?_)
          refine lv_iinc (v := iI (((z : Nat) : Int) + 1)) (lv' := [(2, .int (iI (((z : Nat) : Int) + 1))), (1, .int (iI (0))), (0, .ref (b 0))]) hx hb d_M_step_282 hl (k := 2) rfl (iI_add _ _).symm (by decide) rfl (fun ls hl => ?_)
          refine lv_goto (tgt := 235) hx hb d_M_step_285 (by decide) ?_
          exact ih (z + 1) (0) (pu N (((z : Nat) : Int)) (s_T nf (m_F nf ns S (mP mi)) hq (s_wh nf (m_F nf ns S (mP mi))) ((z : Int) + 4) + so ((z : Int) + 4))) (G) _ _ ls (by omega) (by intro j a9 b9; unfold pu; by_cases c9 : j = (z : Int); rw [if_pos c9, if_pos (by omega), c9]; rw [if_neg c9, hN4 j a9 b9]; by_cases d9 : j < (z : Int); rw [if_pos d9, if_pos (by omega)]; rw [if_neg d9, if_neg (by omega)]) (Or.inr ⟨rfl, by rcases hfi with ⟨q8, -⟩ | ⟨-, j, a9, b9, q9⟩; exact ⟨(z : Int), by omega, by omega, by omega⟩; exact ⟨j, a9, by omega, q9⟩⟩) hG (by omega) hP hD hS (lv_sub hl [2, 1, 0] rfl)
        · skip
          refine lv_aload_n hx hb d_M_step_263 rfl (lv_at hl 0 rfl) ?_
          refine va_get (D := D) (ci := 5) (v := .ref (b 19)) (C := R_M) (T := T_M) (N := 27) hx hb hts (in_M _) hown hK hP 0 rfl rfl 25 (by decide) (ht _ m_615) (fun _ h9 => h9) rfl d_M_step_264 ?_
          refine lv_iload_n hx hb d_M_step_267 rfl (lv_at hl 2 rfl) ?_
          refine pr_lald hx hb hK hP 19 1 rfl rfl (by decide) (by omega) (by omega) d_M_step_268 ?_
          refine pr_lre (B := s_T nf (m_F nf ns S (mP mi)) hq (s_wh nf (m_F nf ns S (mP mi))) ((z : Int) + 4) + so ((z : Int) + 4)) (pu_s _ _ _) ?_
          refine lv_ldc2 (v := lI (1000000000)) hx hb hown (ht (.constantLong _ 170 (lI (1000000000))) m_799) d_M_step_269 ?_
          refine pr_lcmp_gt (tgt := 280) hx hb (i6_of (by omega) (by omega)) (i6_of (by decide) (by decide)) d_M_step_272 d_M_step_273 (by decide) (fun c_7 => ?_) (fun c_7 => ?_)
          · skip
            refine lv_iconst (v := iI (0)) hx hb d_M_step_280 rfl ?_
            refine lv_istore_n (lv' := [(1, .int (iI (0))), (0, .ref (b 0)), (2, .int (iI (((z : Nat) : Int))))]) hx hb d_M_step_281 rfl hl (by decide) rfl (fun ls hl => ?_)
            refine lv_iinc (v := iI (((z : Nat) : Int) + 1)) (lv' := [(2, .int (iI (((z : Nat) : Int) + 1))), (1, .int (iI (0))), (0, .ref (b 0))]) hx hb d_M_step_282 hl (k := 2) rfl (iI_add _ _).symm (by decide) rfl (fun ls hl => ?_)
            refine lv_goto (tgt := 235) hx hb d_M_step_285 (by decide) ?_
            exact ih (z + 1) (0) (pu N (((z : Nat) : Int)) (s_T nf (m_F nf ns S (mP mi)) hq (s_wh nf (m_F nf ns S (mP mi))) ((z : Int) + 4) + so ((z : Int) + 4))) (G) _ _ ls (by omega) (by intro j a9 b9; unfold pu; by_cases c9 : j = (z : Int); rw [if_pos c9, if_pos (by omega), c9]; rw [if_neg c9, hN4 j a9 b9]; by_cases d9 : j < (z : Int); rw [if_pos d9, if_pos (by omega)]; rw [if_neg d9, if_neg (by omega)]) (Or.inr ⟨rfl, by rcases hfi with ⟨q8, -⟩ | ⟨-, j, a9, b9, q9⟩; exact ⟨(z : Int), by omega, by omega, by omega⟩; exact ⟨j, a9, by omega, q9⟩⟩) hG (by omega) hP hD hS (lv_sub hl [2, 1, 0] rfl)
          · skip
            refine lv_iconst (v := iI (1)) hx hb d_M_step_276 rfl ?_
            refine lv_goto (tgt := 281) hx hb d_M_step_277 (by decide) ?_
            refine lv_istore_n (lv' := [(1, .int (iI (1))), (0, .ref (b 0)), (2, .int (iI (((z : Nat) : Int))))]) hx hb d_M_step_281 rfl hl (by decide) rfl (fun ls hl => ?_)
            refine lv_iinc (v := iI (((z : Nat) : Int) + 1)) (lv' := [(2, .int (iI (((z : Nat) : Int) + 1))), (1, .int (iI (1))), (0, .ref (b 0))]) hx hb d_M_step_282 hl (k := 2) rfl (iI_add _ _).symm (by decide) rfl (fun ls hl => ?_)
            refine lv_goto (tgt := 235) hx hb d_M_step_285 (by decide) ?_
            exact ih (z + 1) (1) (pu N (((z : Nat) : Int)) (s_T nf (m_F nf ns S (mP mi)) hq (s_wh nf (m_F nf ns S (mP mi))) ((z : Int) + 4) + so ((z : Int) + 4))) (G) _ _ ls (by omega) (by intro j a9 b9; unfold pu; by_cases c9 : j = (z : Int); rw [if_pos c9, if_pos (by omega), c9]; rw [if_neg c9, hN4 j a9 b9]; by_cases d9 : j < (z : Int); rw [if_pos d9, if_pos (by omega)]; rw [if_neg d9, if_neg (by omega)]) (Or.inl ⟨rfl, by intro j a9 b9; rcases hfi with ⟨-, q9⟩ | ⟨q8, -⟩; (by_cases c9 : j = (z : Int); rw [c9]; omega; exact q9 j a9 (by omega)); exact absurd q8 (by omega)⟩) hG (by omega) hP hD hS (lv_sub hl [2, 1, 0] rfl)
  have l3 : ∀ (n : Nat) (z : Nat) (N : Int → Int) (G : Int → Int) (H : Heap) (locs : List Loc) (ls : Array Slot), ((z : Int) ≤ ns 0) → (∀ j, 0 ≤ j → j < 8 → N j = s_X nf (m_F nf ns S (mP mi)) hq (s_wh nf (m_F nf ns S (mP mi))) z 0 (j + 4)) → (∀ j, 0 ≤ j → j < 4 → G j = s_X nf (m_F nf ns S (mP mi)) hq (s_wh nf (m_F nf ns S (mP mi))) z 0 (j)) → ((ns 0).toNat - z) < n → va_P D pn_cl (mw b cI cL cZ mi (nw (nw ml 2 N) 3 G) mz ms) H → va_D A (mw b cI cL cZ mi (nw (nw ml 2 N) 3 G) mz ms) → va_S A s.heap H locs → lv_has ls 12 [(0, .ref (b 0)), (1, .int (iI (((z : Nat) : Int))))] → W p l e (headSpec w_M_step ({ frames := 4, cells := 0, slots := 0, locals := 95 })).room s m ([.ref (b 0)] : List Value).toArray below meth c H locs 0 0 (MQ below (va_Qi (fun (r : Int32) (u : Nat → Int → Int) => (r = iI 1 ∧ s_ok nf (m_F nf ns S (mP mi)) so hq ∧ s_ag (mH u) (s_nx nf (m_F nf ns S (mP mi)) so hq)) ∨ (r = iI 0 ∧ ¬ s_ok nf (m_F nf ns S (mP mi)) so hq ∧ u 0 = ml 0 ∧ u 1 = ml 1)) (fun u t => va_P D pn_cl ((fun u : Nat → Int → Int => mw b cI cL cZ mi u mz ms) u) t.heap ∧ va_D A ((fun u : Nat → Int → Int => mw b cI cL cZ mi u mz ms) u)) A) ([.ref (b 0)] : List Value).toArray s 0 0 A) (F0 m 53 ls []) := by
    intro n
    induction n with
    | zero => intro z N G H locs ls _ _ _ hm; exact absurd hm (Nat.not_lt_zero _)
    | succ n ih =>
      intro z N G H locs ls p2 hNx hGx hm hP hD hS hl
      refine lv_iload_n hx hb d_M_step_53 rfl (lv_at hl 1 rfl) ?_
      refine lv_aload_n hx hb d_M_step_54 rfl (lv_at hl 0 rfl) ?_
      refine va_get (D := D) (ci := 5) (v := .int (iI (ms 2))) (C := R_M) (T := T_M) (N := 27) hx hb hts (in_M _) hown hK hP 0 rfl rfl 3 (by decide) (ht _ m_593) (fun _ h9 => h9) rfl d_M_step_55 ?_
      refine pr_icmp_ge (tgt := 231) hx hb (i3_of (by omega) (by omega)) (i3_of (by omega) (by omega)) d_M_step_58 (by decide) (fun c_8 => ?_) (fun c_8 => ?_)
      · skip
        have hzn : z = (ns 0).toNat := by omega
        have hTx : ∀ j, s_X nf (m_F nf ns S (mP mi)) hq (s_wh nf (m_F nf ns S (mP mi))) z 0 (j) = s_T nf (m_F nf ns S (mP mi)) hq (s_wh nf (m_F nf ns S (mP mi))) (j) := fun j => by rw [hzn]; exact s_X_T o_zc.1 hRr j
        refine lv_iconst (v := iI (1)) hx hb d_M_step_231 rfl ?_
        refine lv_istore_n (lv' := [(1, .int (iI (1))), (0, .ref (b 0))]) hx hb d_M_step_232 rfl hl (by decide) rfl (fun ls hl => ?_)
        refine lv_iconst (v := iI (0)) hx hb d_M_step_233 rfl ?_
        refine lv_istore_n (lv' := [(2, .int (iI (0))), (1, .int (iI (1))), (0, .ref (b 0))]) hx hb d_M_step_234 rfl hl (by decide) rfl (fun ls hl => ?_)
        exact l4 _ (0) (1) (N) (G) _ _ ls (by omega) (fun j a9 b9 => by rw [if_neg (by omega), hNx j a9 b9, hTx]) (Or.inl ⟨rfl, fun j a9 b9 => absurd b9 (by omega)⟩) (fun j a9 b9 => by rw [hGx j a9 b9, hTx]) (Nat.lt_succ_self _) hP hD hS (lv_sub hl [2, 1, 0] rfl)
      · skip
        refine lv_lconst (v := lI 0) hx hb d_M_step_61 (by decide) ?_
        refine lv_lstore_n (lv' := [(2, .long (lI (0))), (0, .ref (b 0)), (1, .int (iI (((z : Nat) : Int))))]) hx hb d_M_step_62 rfl hl (by decide) rfl (fun ls hl => ?_)
        refine lv_iconst (v := iI (0)) hx hb d_M_step_63 rfl ?_
        refine lv_istore (lv' := [(4, .int (iI (0))), (2, .long (lI (0))), (0, .ref (b 0)), (1, .int (iI (((z : Nat) : Int))))]) hx hb d_M_step_64 hl (by decide) rfl (fun ls hl => ?_)
        have ihm := ih
        clear ih
        have hz8 : (z : Int) < 8 := by omega
        have hvz := r_vo z (by omega) hz8
        have ovz := o_vo z (by omega) hz8
        have hlz := hmz z (by omega) hz8
        have hbz := hB ((z : Int) + 4) (by omega) (by omega)
        have hwp : 0 < s_wh nf (m_F nf ns S (mP mi)) ((z : Int) + 4) := s_wh_pos hV (by omega) (by omega)
        have hab := m_ab_b (nf := nf) (F := (m_F nf ns S (mP mi))) (g := (z : Int) + 4) (n := 24) hFb (by omega)
        have hwb : s_wh nf (m_F nf ns S (mP mi)) ((z : Int) + 4) ≤ 700000000 := by unfold s_wh; rw [show (z : Int) + 4 - 4 = z by omega]; omega
        have lb : ∀ (n : Nat) (k : Nat) (N2 : Int → Int) (G2 : Int → Int) (H : Heap) (locs : List Loc) (ls : Array Slot), (k ≤ 24) → (∀ j, 0 ≤ j → j < 8 → N2 j = s_X nf (m_F nf ns S (mP mi)) hq (s_wh nf (m_F nf ns S (mP mi))) z k (j + 4)) → (∀ j, 0 ≤ j → j < 4 → G2 j = s_X nf (m_F nf ns S (mP mi)) hq (s_wh nf (m_F nf ns S (mP mi))) z k (j)) → (24 - k) < n → va_P D pn_cl (mw b cI cL cZ mi (nw (nw ml 2 N2) 3 G2) mz ms) H → va_D A (mw b cI cL cZ mi (nw (nw ml 2 N2) 3 G2) mz ms) → va_S A s.heap H locs → lv_has ls 12 [(0, .ref (b 0)), (1, .int (iI (((z : Nat) : Int)))), (4, .long (lI (s_wh nf (m_F nf ns S (mP mi)) ((z : Int) + 4)))), (6, .int (iI (((k : Nat) : Int))))] → W p l e (headSpec w_M_step ({ frames := 4, cells := 0, slots := 0, locals := 95 })).room s m ([.ref (b 0)] : List Value).toArray below meth c H locs 0 0 (MQ below (va_Qi (fun (r : Int32) (u : Nat → Int → Int) => (r = iI 1 ∧ s_ok nf (m_F nf ns S (mP mi)) so hq ∧ s_ag (mH u) (s_nx nf (m_F nf ns S (mP mi)) so hq)) ∨ (r = iI 0 ∧ ¬ s_ok nf (m_F nf ns S (mP mi)) so hq ∧ u 0 = ml 0 ∧ u 1 = ml 1)) (fun u t => va_P D pn_cl ((fun u : Nat → Int → Int => mw b cI cL cZ mi u mz ms) u) t.heap ∧ va_D A ((fun u : Nat → Int → Int => mw b cI cL cZ mi u mz ms) u)) A) ([.ref (b 0)] : List Value).toArray s 0 0 A) (F0 m 117 ls []) := by
          intro n
          induction n with
          | zero => intro k N2 G2 H locs ls _ _ _ hm; exact absurd hm (Nat.not_lt_zero _)
          | succ n ih =>
            intro k N2 G2 H locs ls p9 hN2 hG2 hm hP hD hS hl
            refine lv_iload hx hb d_M_step_117 (lv_at hl 3 rfl) ?_
            refine lv_bipush (v := iI (24)) hx hb d_M_step_119 (by decide) ?_
            refine pr_icmp_ge (tgt := 225) hx hb (i3_of (by omega) (by omega)) (i3_of (by decide) (by decide)) d_M_step_121 (by decide) (fun c_9 => ?_) (fun c_9 => ?_)
            · skip
              refine lv_iinc (v := iI (((z : Nat) : Int) + 1)) (lv' := [(1, .int (iI (((z : Nat) : Int) + 1))), (0, .ref (b 0)), (4, .long (lI (s_wh nf (m_F nf ns S (mP mi)) ((z : Int) + 4)))), (6, .int (iI (((k : Nat) : Int))))]) hx hb d_M_step_225 hl (k := 1) rfl (iI_add _ _).symm (by decide) rfl (fun ls hl => ?_)
              refine lv_goto (tgt := 53) hx hb d_M_step_228 (by decide) ?_
              have k24 : k = 24 := by omega
              exact ihm (z + 1) N2 G2 _ _ ls (by omega) (fun j a9 b9 => by rw [s_X_z, ← k24]; exact hN2 j a9 b9) (fun j a9 b9 => by rw [s_X_z, ← k24]; exact hG2 j a9 b9) (by omega) hP hD hS (lv_sub hl [1, 0] rfl)
            · skip
              refine lv_aload_n hx hb d_M_step_124 rfl (lv_at hl 0 rfl) ?_
              refine lv_iload_n hx hb d_M_step_125 rfl (lv_at hl 1 rfl) ?_
              refine lv_iload hx hb d_M_step_126 (lv_at hl 3 rfl) ?_
              refine pr_pl (va_runV (As := [.int (iI (((z : Nat) : Int))), .int (iI (((k : Nat) : Int)))]) (rest := []) ⟨hx, hb, hml, hown, hts⟩ (c_M_outBy l nf ns da (mi := mi) (ms := ms) S (((z : Nat) : Int)) (((k : Nat) : Int)) hOk hR hS6 hSb hPr ⟨by omega, by omega⟩ ⟨by omega, by omega⟩) (cwV 2 hts (pn_gV m_814 m_816 m_30 m_38 m_817) rfl rfl rfl (by decide +kernel) ⟨Nat.le_of_ble_eq_true rfl, Nat.le_of_ble_eq_true rfl⟩) (mn_preV (q0 := 0) (ci := 5) (q := (R_M, T_M, 27)) hP hE rfl rfl) rfl rfl hl.1 rfl (lv_room (Nat.le_of_ble_eq_true rfl)) d_M_step_128 ⟨Nat.le_of_ble_eq_true rfl, Nat.le_of_ble_eq_true rfl⟩) ?_
              have fb := mo_out_b (nf := nf) (z := (z : Int)) (hFb ((k : Nat) : Int) (by omega) (by omega))
              refine lv_lstore (lv' := [(7, .long (lI (mo_out nf (m_F nf ns S (mP mi)) (((z : Nat) : Int)) (((k : Nat) : Int))))), (0, .ref (b 0)), (1, .int (iI (((z : Nat) : Int)))), (4, .long (lI (s_wh nf (m_F nf ns S (mP mi)) ((z : Int) + 4)))), (6, .int (iI (((k : Nat) : Int))))]) hx hb d_M_step_131 hl (by decide) rfl (fun ls hl => ?_)
              refine lv_lload hx hb d_M_step_133 (lv_at hl 0 rfl) ?_
              refine lv_lconst (v := lI 0) hx hb d_M_step_135 (by decide) ?_
              refine pr_lcmp_ne (tgt := 144) hx hb (i6_of (by omega) (by omega)) (i6_of (by decide) (by decide)) d_M_step_136 d_M_step_137 (by decide) (fun c_10 => ?_) (fun c_10 => ?_)
              · skip
                obtain ⟨hg, hF, hmo, hpt, he⟩ := s_e_1 (nf := nf) (F := (m_F nf ns S (mP mi))) (hl := hq) (wh := (s_wh nf (m_F nf ns S (mP mi)))) (z := (z : Int)) (d := ((k : Nat) : Int)) (by omega) (by assumption)
                have pb := mul_b (x := hq ((z : Int) + 4)) (y := mo_out nf (m_F nf ns S (mP mi)) ((z : Nat) : Int) ((k : Nat) : Int)) (X := 1000000000) (Y := 27000000) (by omega) (by omega) (by omega) (by omega)
                have pn := Int.mul_nonneg hbz.1 fb.1
                have tkb := (m_gv_b (m_F nf ns S (mP mi)) hOk (d := ((k : Nat) : Int)) (by omega) (by omega)).2
                refine lv_aload_n hx hb d_M_step_144 rfl (lv_at hl 1 rfl) ?_
                refine va_get (D := D) (ci := 5) (v := .ref (b 4)) (C := R_M) (T := T_M) (N := 27) hx hb hts (in_M _) hown hK hP 0 rfl rfl 6 (by decide) (ht _ m_596) (fun _ h9 => h9) rfl d_M_step_145 ?_
                refine lv_iload_n hx hb d_M_step_148 rfl (lv_at hl 2 rfl) ?_
                refine pr_lald hx hb hK hP 4 1 rfl rfl (by decide) (by omega) (by omega) d_M_step_149 ?_
                refine pr_lre (B := hq ((z : Int) + 4)) hlz ?_
                refine lv_lload hx hb d_M_step_150 (lv_at hl 0 rfl) ?_
                refine pr_lmul hx hb d_M_step_152 ?_
                refine lv_lload hx hb d_M_step_153 (lv_at hl 3 rfl) ?_
                refine pr_ldiv hx hb (i6_of (by omega) (by omega)) (i6_of (by omega) (by omega)) (by omega) d_M_step_155 ?_
                refine pr_lre (B := m_part nf (m_F nf ns S (mP mi)) hq (s_wh nf (m_F nf ns S (mP mi))) ((k : Nat) : Int)) (by rw [← hpt, Int.tdiv_eq_ediv_of_nonneg pn]) ?_
                refine lv_lstore (lv' := [(9, .long (lI (m_part nf (m_F nf ns S (mP mi)) hq (s_wh nf (m_F nf ns S (mP mi))) ((k : Nat) : Int)))), (7, .long (lI (mo_out nf (m_F nf ns S (mP mi)) (((z : Nat) : Int)) (((k : Nat) : Int))))), (0, .ref (b 0)), (1, .int (iI (((z : Nat) : Int)))), (4, .long (lI (s_wh nf (m_F nf ns S (mP mi)) ((z : Int) + 4)))), (6, .int (iI (((k : Nat) : Int))))]) hx hb d_M_step_156 hl (by decide) rfl (fun ls hl => ?_)
                refine lv_lload hx hb d_M_step_158 (lv_at hl 1 rfl) ?_
                refine lv_lconst (v := lI 0) hx hb d_M_step_160 (by decide) ?_
                refine pr_lcmp_le (tgt := 219) hx hb (i6_of (by omega) (by omega)) (i6_of (by decide) (by decide)) d_M_step_161 d_M_step_162 (by decide) (fun c_11 => ?_) (fun c_11 => ?_)
                · skip
                  exfalso; omega
                · skip
                  refine lv_aload_n hx hb d_M_step_165 rfl (lv_at hl 2 rfl) ?_
                  refine lv_iload_n hx hb d_M_step_166 rfl (lv_at hl 3 rfl) ?_
                  refine lv_iload hx hb d_M_step_167 (lv_at hl 5 rfl) ?_
                  refine pr_pi (va_runV (As := [.int (iI (((z : Nat) : Int))), .int (iI (((k : Nat) : Int)))]) (rest := []) ⟨hx, hb, hml, hown, hts⟩ (c_M_other l nf ns da (mi := mi) (ms := ms) S (((z : Nat) : Int)) (((k : Nat) : Int)) hOk hR hne ⟨by omega, by omega⟩ ⟨by omega, by omega⟩ hg hF) (cwV 2 hts (pn_gV m_818 m_820 m_31 m_38 m_821) rfl rfl rfl (by decide +kernel) ⟨Nat.le_of_ble_eq_true rfl, Nat.le_of_ble_eq_true rfl⟩) (mn_preV (q0 := 0) (ci := 5) (q := (R_M, T_M, 27)) hP hE rfl rfl) rfl rfl hl.1 rfl (lv_room (Nat.le_of_ble_eq_true rfl)) d_M_step_169 ⟨Nat.le_of_ble_eq_true rfl, Nat.le_of_ble_eq_true rfl⟩) ?_
                  refine lv_istore (lv' := [(11, .int (iI (m_tk nf (m_F nf ns S (mP mi)) (((k : Nat) : Int)) - 4))), (9, .long (lI (m_part nf (m_F nf ns S (mP mi)) hq (s_wh nf (m_F nf ns S (mP mi))) ((k : Nat) : Int)))), (7, .long (lI (mo_out nf (m_F nf ns S (mP mi)) (((z : Nat) : Int)) (((k : Nat) : Int))))), (0, .ref (b 0)), (1, .int (iI (((z : Nat) : Int)))), (4, .long (lI (s_wh nf (m_F nf ns S (mP mi)) ((z : Int) + 4)))), (6, .int (iI (((k : Nat) : Int))))]) hx hb d_M_step_172 hl (by decide) rfl (fun ls hl => ?_)
                  refine lv_aload_n hx hb d_M_step_174 rfl (lv_at hl 3 rfl) ?_
                  refine va_get (D := D) (ci := 5) (v := .ref (b 19)) (C := R_M) (T := T_M) (N := 27) hx hb hts (in_M _) hown hK hP 0 rfl rfl 25 (by decide) (ht _ m_615) (fun _ h9 => h9) rfl d_M_step_175 ?_
                  refine lv_iload_n hx hb d_M_step_178 rfl (lv_at hl 4 rfl) ?_
                  refine lv_dup2_11 hx hb d_M_step_179 rfl rfl ?_
                  refine pr_lald hx hb hK hP 19 1 rfl rfl (by decide) (by omega) (by omega) d_M_step_180 ?_
                  refine lv_lload hx hb d_M_step_181 (lv_at hl 1 rfl) ?_
                  refine pr_lsub hx hb d_M_step_183 ?_
                  refine pr_last (ws' := mw b cI cL cZ mi (nw (nw (nw ml 2 N2) 3 G2) 2 (pu (N2) (((z : Nat) : Int)) ((N2 (((z : Nat) : Int))) - (m_part nf (m_F nf ns S (mP mi)) hq (s_wh nf (m_F nf ns S (mP mi))) ((k : Nat) : Int))))) mz ms) hx hb hK hP hD hS 19 1 rfl rfl (by decide) (by omega) (by omega) rfl d_M_step_184 (fun H locs hP hD hS => ?_)
                  have e9 : nw (nw (nw ml 2 N2) 3 G2) 2 (pu (N2) (((z : Nat) : Int)) ((N2 (((z : Nat) : Int))) - (m_part nf (m_F nf ns S (mP mi)) hq (s_wh nf (m_F nf ns S (mP mi))) ((k : Nat) : Int)))) = nw (nw ml 2 (pu N2 (((z : Nat) : Int)) (N2 (((z : Nat) : Int)) - m_part nf (m_F nf ns S (mP mi)) hq (s_wh nf (m_F nf ns S (mP mi))) ((k : Nat) : Int)))) 3 G2 := nw_cm _ _ _ _ (by decide)
                  rw [e9] at hP hD
                  clear e9
                  refine lv_iload hx hb d_M_step_185 (lv_at hl 0 rfl) ?_
                  refine pr_if_ge (tgt := 207) hx hb (i3_of (by omega) (by omega)) d_M_step_187 (by decide) (fun c_12 => ?_) (fun c_12 => ?_)
                  · skip
                    refine lv_aload_n hx hb d_M_step_207 rfl (lv_at hl 3 rfl) ?_
                    refine va_get (D := D) (ci := 5) (v := .ref (b 19)) (C := R_M) (T := T_M) (N := 27) hx hb hts (in_M _) hown hK hP 0 rfl rfl 25 (by decide) (ht _ m_615) (fun _ h9 => h9) rfl d_M_step_208 ?_
                    refine lv_iload hx hb d_M_step_211 (lv_at hl 0 rfl) ?_
                    refine lv_dup2_11 hx hb d_M_step_213 rfl rfl ?_
                    refine pr_lald hx hb hK hP 19 1 rfl rfl (by decide) (by omega) (by omega) d_M_step_214 ?_
                    refine lv_lload hx hb d_M_step_215 (lv_at hl 1 rfl) ?_
                    refine pr_ladd hx hb d_M_step_217 ?_
                    refine pr_last (ws' := mw b cI cL cZ mi (nw (nw (nw ml 2 (pu N2 (((z : Nat) : Int)) (N2 (((z : Nat) : Int)) - m_part nf (m_F nf ns S (mP mi)) hq (s_wh nf (m_F nf ns S (mP mi))) ((k : Nat) : Int)))) 3 G2) 2 (pu ((pu N2 (((z : Nat) : Int)) (N2 (((z : Nat) : Int)) - m_part nf (m_F nf ns S (mP mi)) hq (s_wh nf (m_F nf ns S (mP mi))) ((k : Nat) : Int)))) (m_tk nf (m_F nf ns S (mP mi)) (((k : Nat) : Int)) - 4) (((pu N2 (((z : Nat) : Int)) (N2 (((z : Nat) : Int)) - m_part nf (m_F nf ns S (mP mi)) hq (s_wh nf (m_F nf ns S (mP mi))) ((k : Nat) : Int))) (m_tk nf (m_F nf ns S (mP mi)) (((k : Nat) : Int)) - 4)) + (m_part nf (m_F nf ns S (mP mi)) hq (s_wh nf (m_F nf ns S (mP mi))) ((k : Nat) : Int))))) mz ms) hx hb hK hP hD hS 19 1 rfl rfl (by decide) (by omega) (by omega) rfl d_M_step_218 (fun H locs hP hD hS => ?_)
                    have e9 : nw (nw (nw ml 2 (pu N2 (((z : Nat) : Int)) (N2 (((z : Nat) : Int)) - m_part nf (m_F nf ns S (mP mi)) hq (s_wh nf (m_F nf ns S (mP mi))) ((k : Nat) : Int)))) 3 G2) 2 (pu ((pu N2 (((z : Nat) : Int)) (N2 (((z : Nat) : Int)) - m_part nf (m_F nf ns S (mP mi)) hq (s_wh nf (m_F nf ns S (mP mi))) ((k : Nat) : Int)))) (m_tk nf (m_F nf ns S (mP mi)) (((k : Nat) : Int)) - 4) (((pu N2 (((z : Nat) : Int)) (N2 (((z : Nat) : Int)) - m_part nf (m_F nf ns S (mP mi)) hq (s_wh nf (m_F nf ns S (mP mi))) ((k : Nat) : Int))) (m_tk nf (m_F nf ns S (mP mi)) (((k : Nat) : Int)) - 4)) + (m_part nf (m_F nf ns S (mP mi)) hq (s_wh nf (m_F nf ns S (mP mi))) ((k : Nat) : Int)))) = nw (nw ml 2 (pu (pu N2 (((z : Nat) : Int)) (N2 (((z : Nat) : Int)) - m_part nf (m_F nf ns S (mP mi)) hq (s_wh nf (m_F nf ns S (mP mi))) ((k : Nat) : Int))) (m_tk nf (m_F nf ns S (mP mi)) ((k : Nat) : Int) - 4) (pu N2 (((z : Nat) : Int)) (N2 (((z : Nat) : Int)) - m_part nf (m_F nf ns S (mP mi)) hq (s_wh nf (m_F nf ns S (mP mi))) ((k : Nat) : Int)) (m_tk nf (m_F nf ns S (mP mi)) ((k : Nat) : Int) - 4) + m_part nf (m_F nf ns S (mP mi)) hq (s_wh nf (m_F nf ns S (mP mi))) ((k : Nat) : Int)))) 3 G2 := nw_cm _ _ _ _ (by decide)
                    rw [e9] at hP hD
                    clear e9
                    refine lv_iinc (v := iI (((k : Nat) : Int) + 1)) (lv' := [(6, .int (iI (((k : Nat) : Int) + 1))), (11, .int (iI (m_tk nf (m_F nf ns S (mP mi)) (((k : Nat) : Int)) - 4))), (9, .long (lI (m_part nf (m_F nf ns S (mP mi)) hq (s_wh nf (m_F nf ns S (mP mi))) ((k : Nat) : Int)))), (7, .long (lI (mo_out nf (m_F nf ns S (mP mi)) (((z : Nat) : Int)) (((k : Nat) : Int))))), (0, .ref (b 0)), (1, .int (iI (((z : Nat) : Int)))), (4, .long (lI (s_wh nf (m_F nf ns S (mP mi)) ((z : Int) + 4))))]) hx hb d_M_step_219 hl (k := 6) rfl (iI_add _ _).symm (by decide) rfl (fun ls hl => ?_)
                    refine lv_goto (tgt := 117) hx hb d_M_step_222 (by decide) ?_
                    exact ih (k + 1) (pu (pu N2 (((z : Nat) : Int)) (N2 (((z : Nat) : Int)) - m_part nf (m_F nf ns S (mP mi)) hq (s_wh nf (m_F nf ns S (mP mi))) ((k : Nat) : Int))) (m_tk nf (m_F nf ns S (mP mi)) ((k : Nat) : Int) - 4) (pu N2 (((z : Nat) : Int)) (N2 (((z : Nat) : Int)) - m_part nf (m_F nf ns S (mP mi)) hq (s_wh nf (m_F nf ns S (mP mi))) ((k : Nat) : Int)) (m_tk nf (m_F nf ns S (mP mi)) ((k : Nat) : Int) - 4) + m_part nf (m_F nf ns S (mP mi)) hq (s_wh nf (m_F nf ns S (mP mi))) ((k : Nat) : Int))) (G2) _ _ ls (by omega) (s_up1 hN2 hG2 (fun j => by rw [s_X_k, he j]) ⟨by omega, hz8⟩ (by omega)).1 (s_up1 hN2 hG2 (fun j => by rw [s_X_k, he j]) ⟨by omega, hz8⟩ (by omega)).2 (by omega) hP hD hS (lv_sub hl [4, 5, 6, 0] rfl)
                  · skip
                    refine lv_aload_n hx hb d_M_step_190 rfl (lv_at hl 3 rfl) ?_
                    refine va_get (D := D) (ci := 5) (v := .ref (b 20)) (C := R_M) (T := T_M) (N := 27) hx hb hts (in_M _) hown hK hP 0 rfl rfl 26 (by decide) (ht _ m_616) (fun _ h9 => h9) rfl d_M_step_191 ?_
                    refine lv_iload hx hb d_M_step_194 (lv_at hl 0 rfl) ?_
                    refine lv_iconst (v := iI (4)) hx hb d_M_step_196 rfl ?_
                    refine pr_iadd hx hb d_M_step_197 ?_
                    refine pr_ire (B := m_tk nf (m_F nf ns S (mP mi)) ((k : Nat) : Int)) (by omega) ?_
                    refine lv_dup2_11 hx hb d_M_step_198 rfl rfl ?_
                    refine pr_lald hx hb hK hP 20 1 rfl rfl (by decide) (by omega) (by omega) d_M_step_199 ?_
                    refine lv_lload hx hb d_M_step_200 (lv_at hl 1 rfl) ?_
                    refine pr_ladd hx hb d_M_step_202 ?_
                    refine pr_last (ws' := mw b cI cL cZ mi (nw (nw (nw ml 2 (pu N2 (((z : Nat) : Int)) (N2 (((z : Nat) : Int)) - m_part nf (m_F nf ns S (mP mi)) hq (s_wh nf (m_F nf ns S (mP mi))) ((k : Nat) : Int)))) 3 G2) 3 (pu (G2) (m_tk nf (m_F nf ns S (mP mi)) ((k : Nat) : Int)) ((G2 (m_tk nf (m_F nf ns S (mP mi)) ((k : Nat) : Int))) + (m_part nf (m_F nf ns S (mP mi)) hq (s_wh nf (m_F nf ns S (mP mi))) ((k : Nat) : Int))))) mz ms) hx hb hK hP hD hS 20 1 rfl rfl (by decide) (by omega) (by omega) rfl d_M_step_203 (fun H locs hP hD hS => ?_)
                    have e9 : nw (nw (nw ml 2 (pu N2 (((z : Nat) : Int)) (N2 (((z : Nat) : Int)) - m_part nf (m_F nf ns S (mP mi)) hq (s_wh nf (m_F nf ns S (mP mi))) ((k : Nat) : Int)))) 3 G2) 3 (pu (G2) (m_tk nf (m_F nf ns S (mP mi)) ((k : Nat) : Int)) ((G2 (m_tk nf (m_F nf ns S (mP mi)) ((k : Nat) : Int))) + (m_part nf (m_F nf ns S (mP mi)) hq (s_wh nf (m_F nf ns S (mP mi))) ((k : Nat) : Int)))) = nw (nw ml 2 (pu N2 (((z : Nat) : Int)) (N2 (((z : Nat) : Int)) - m_part nf (m_F nf ns S (mP mi)) hq (s_wh nf (m_F nf ns S (mP mi))) ((k : Nat) : Int)))) 3 (pu G2 (m_tk nf (m_F nf ns S (mP mi)) ((k : Nat) : Int)) (G2 (m_tk nf (m_F nf ns S (mP mi)) ((k : Nat) : Int)) + m_part nf (m_F nf ns S (mP mi)) hq (s_wh nf (m_F nf ns S (mP mi))) ((k : Nat) : Int))) := by rw [nw_nw]
                    rw [e9] at hP hD
                    clear e9
                    refine lv_goto (tgt := 219) hx hb d_M_step_204 (by decide) ?_
                    refine lv_iinc (v := iI (((k : Nat) : Int) + 1)) (lv' := [(6, .int (iI (((k : Nat) : Int) + 1))), (11, .int (iI (m_tk nf (m_F nf ns S (mP mi)) (((k : Nat) : Int)) - 4))), (9, .long (lI (m_part nf (m_F nf ns S (mP mi)) hq (s_wh nf (m_F nf ns S (mP mi))) ((k : Nat) : Int)))), (7, .long (lI (mo_out nf (m_F nf ns S (mP mi)) (((z : Nat) : Int)) (((k : Nat) : Int))))), (0, .ref (b 0)), (1, .int (iI (((z : Nat) : Int)))), (4, .long (lI (s_wh nf (m_F nf ns S (mP mi)) ((z : Int) + 4))))]) hx hb d_M_step_219 hl (k := 6) rfl (iI_add _ _).symm (by decide) rfl (fun ls hl => ?_)
                    refine lv_goto (tgt := 117) hx hb d_M_step_222 (by decide) ?_
                    exact ih (k + 1) (pu N2 (((z : Nat) : Int)) (N2 (((z : Nat) : Int)) - m_part nf (m_F nf ns S (mP mi)) hq (s_wh nf (m_F nf ns S (mP mi))) ((k : Nat) : Int))) (pu G2 (m_tk nf (m_F nf ns S (mP mi)) ((k : Nat) : Int)) (G2 (m_tk nf (m_F nf ns S (mP mi)) ((k : Nat) : Int)) + m_part nf (m_F nf ns S (mP mi)) hq (s_wh nf (m_F nf ns S (mP mi))) ((k : Nat) : Int))) _ _ ls (by omega) (s_up2 hN2 hG2 (fun j => by rw [s_X_k, he j]) ⟨by omega, hz8⟩ (by omega)).1 (s_up2 hN2 hG2 (fun j => by rw [s_X_k, he j]) ⟨by omega, hz8⟩ (by omega)).2 (by omega) hP hD hS (lv_sub hl [4, 5, 6, 0] rfl)
              · skip
                have hfl : mo_out nf (m_F nf ns S (mP mi)) ((z : Nat) : Int) ((k : Nat) : Int) = 0 := by omega
                refine lv_lconst (v := lI 0) hx hb d_M_step_140 (by decide) ?_
                refine lv_goto (tgt := 156) hx hb d_M_step_141 (by decide) ?_
                refine lv_lstore (lv' := [(9, .long (lI (0))), (7, .long (lI (mo_out nf (m_F nf ns S (mP mi)) (((z : Nat) : Int)) (((k : Nat) : Int))))), (0, .ref (b 0)), (1, .int (iI (((z : Nat) : Int)))), (4, .long (lI (s_wh nf (m_F nf ns S (mP mi)) ((z : Int) + 4)))), (6, .int (iI (((k : Nat) : Int))))]) hx hb d_M_step_156 hl (by decide) rfl (fun ls hl => ?_)
                refine lv_lload hx hb d_M_step_158 (lv_at hl 1 rfl) ?_
                refine lv_lconst (v := lI 0) hx hb d_M_step_160 (by decide) ?_
                refine pr_lcmp_le (tgt := 219) hx hb (i6_of (by omega) (by omega)) (i6_of (by decide) (by decide)) d_M_step_161 d_M_step_162 (by decide) (fun c_13 => ?_) (fun c_13 => ?_)
                · skip
                  refine lv_iinc (v := iI (((k : Nat) : Int) + 1)) (lv' := [(6, .int (iI (((k : Nat) : Int) + 1))), (9, .long (lI (0))), (7, .long (lI (mo_out nf (m_F nf ns S (mP mi)) (((z : Nat) : Int)) (((k : Nat) : Int))))), (0, .ref (b 0)), (1, .int (iI (((z : Nat) : Int)))), (4, .long (lI (s_wh nf (m_F nf ns S (mP mi)) ((z : Int) + 4))))]) hx hb d_M_step_219 hl (k := 5) rfl (iI_add _ _).symm (by decide) rfl (fun ls hl => ?_)
                  refine lv_goto (tgt := 117) hx hb d_M_step_222 (by decide) ?_
                  exact ih (k + 1) (N2) (G2) _ _ ls (by omega) (fun j a9 b9 => by rw [s_X_k, s_e_0 hfl, Int.add_zero]; exact hN2 j a9 b9) (fun j a9 b9 => by rw [s_X_k, s_e_0 hfl, Int.add_zero]; exact hG2 j a9 b9) (by omega) hP hD hS (lv_sub hl [3, 4, 5, 0] rfl)
                · skip
                  exfalso; omega
        have la : ∀ (n : Nat) (k : Nat) (H : Heap) (locs : List Loc) (ls : Array Slot), (k ≤ 24) → (24 - k) < n → va_P D pn_cl (mw b cI cL cZ mi (nw (nw ml 2 N) 3 G) mz ms) H → va_D A (mw b cI cL cZ mi (nw (nw ml 2 N) 3 G) mz ms) → va_S A s.heap H locs → lv_has ls 12 [(0, .ref (b 0)), (1, .int (iI (((z : Nat) : Int)))), (2, .long (lI (m_ab nf (m_F nf ns S (mP mi)) ((z : Int) + 4) k))), (4, .int (iI (((k : Nat) : Int))))] → W p l e (headSpec w_M_step ({ frames := 4, cells := 0, slots := 0, locals := 95 })).room s m ([.ref (b 0)] : List Value).toArray below meth c H locs 0 0 (MQ below (va_Qi (fun (r : Int32) (u : Nat → Int → Int) => (r = iI 1 ∧ s_ok nf (m_F nf ns S (mP mi)) so hq ∧ s_ag (mH u) (s_nx nf (m_F nf ns S (mP mi)) so hq)) ∨ (r = iI 0 ∧ ¬ s_ok nf (m_F nf ns S (mP mi)) so hq ∧ u 0 = ml 0 ∧ u 1 = ml 1)) (fun u t => va_P D pn_cl ((fun u : Nat → Int → Int => mw b cI cL cZ mi u mz ms) u) t.heap ∧ va_D A ((fun u : Nat → Int → Int => mw b cI cL cZ mi u mz ms) u)) A) ([.ref (b 0)] : List Value).toArray s 0 0 A) (F0 m 66 ls []) := by
          intro n
          induction n with
          | zero => intro k H locs ls _ hm; exact absurd hm (Nat.not_lt_zero _)
          | succ n ih =>
            intro k H locs ls p9 hm hP hD hS hl
            refine lv_iload hx hb d_M_step_66 (lv_at hl 3 rfl) ?_
            refine lv_bipush (v := iI (24)) hx hb d_M_step_68 (by decide) ?_
            refine pr_icmp_ge (tgt := 89) hx hb (i3_of (by omega) (by omega)) (i3_of (by decide) (by decide)) d_M_step_70 (by decide) (fun c_14 => ?_) (fun c_14 => ?_)
            · skip
              rw [show k = 24 by omega] at hl
              refine lv_aload_n hx hb d_M_step_89 rfl (lv_at hl 0 rfl) ?_
              refine va_get (D := D) (ci := 5) (v := .ref (b 3)) (C := R_M) (T := T_M) (N := 27) hx hb hts (in_M _) hown hK hP 0 rfl rfl 5 (by decide) (ht _ m_595) (fun _ h9 => h9) rfl d_M_step_90 ?_
              refine lv_iload_n hx hb d_M_step_93 rfl (lv_at hl 1 rfl) ?_
              refine pr_iald hx hb hK hP 3 0 rfl rfl (by decide) (by omega) (by omega) d_M_step_94 ?_
              refine pr_i2l hx hb (i3_of (by omega) (by omega)) d_M_step_95 ?_
              refine lv_lload_n hx hb d_M_step_96 rfl (lv_at hl 2 rfl) ?_
              refine pr_lcmp_le (tgt := 111) hx hb (i6_of (by omega) (by omega)) (i6_of (by omega) (by omega)) d_M_step_97 d_M_step_98 (by decide) (fun c_15 => ?_) (fun c_15 => ?_)
              · skip
                refine lv_lload_n hx hb d_M_step_111 rfl (lv_at hl 2 rfl) ?_
                refine pr_lre (B := s_wh nf (m_F nf ns S (mP mi)) ((z : Int) + 4)) (by unfold s_wh; rw [show (z : Int) + 4 - 4 = z by omega]; omega) ?_
                refine lv_lstore (lv' := [(4, .long (lI (s_wh nf (m_F nf ns S (mP mi)) ((z : Int) + 4)))), (0, .ref (b 0)), (1, .int (iI (((z : Nat) : Int)))), (2, .long (lI (m_ab nf (m_F nf ns S (mP mi)) ((z : Int) + 4) 24)))]) hx hb d_M_step_112 hl (by decide) rfl (fun ls hl => ?_)
                refine lv_iconst (v := iI (0)) hx hb d_M_step_114 rfl ?_
                refine lv_istore (lv' := [(6, .int (iI (0))), (4, .long (lI (s_wh nf (m_F nf ns S (mP mi)) ((z : Int) + 4)))), (0, .ref (b 0)), (1, .int (iI (((z : Nat) : Int)))), (2, .long (lI (m_ab nf (m_F nf ns S (mP mi)) ((z : Int) + 4) 24)))]) hx hb d_M_step_115 hl (by decide) rfl (fun ls hl => ?_)
                exact lb _ (0) (N) (G) _ _ ls (by omega) hNx hGx (Nat.lt_succ_self _) hP hD hS (lv_sub hl [2, 3, 1, 0] rfl)
              · skip
                refine lv_aload_n hx hb d_M_step_101 rfl (lv_at hl 0 rfl) ?_
                refine va_get (D := D) (ci := 5) (v := .ref (b 3)) (C := R_M) (T := T_M) (N := 27) hx hb hts (in_M _) hown hK hP 0 rfl rfl 5 (by decide) (ht _ m_595) (fun _ h9 => h9) rfl d_M_step_102 ?_
                refine lv_iload_n hx hb d_M_step_105 rfl (lv_at hl 1 rfl) ?_
                refine pr_iald hx hb hK hP 3 0 rfl rfl (by decide) (by omega) (by omega) d_M_step_106 ?_
                refine pr_i2l hx hb (i3_of (by omega) (by omega)) d_M_step_107 ?_
                refine lv_goto (tgt := 112) hx hb d_M_step_108 (by decide) ?_
                refine pr_lre (B := s_wh nf (m_F nf ns S (mP mi)) ((z : Int) + 4)) (by unfold s_wh; rw [show (z : Int) + 4 - 4 = z by omega]; omega) ?_
                refine lv_lstore (lv' := [(4, .long (lI (s_wh nf (m_F nf ns S (mP mi)) ((z : Int) + 4)))), (0, .ref (b 0)), (1, .int (iI (((z : Nat) : Int)))), (2, .long (lI (m_ab nf (m_F nf ns S (mP mi)) ((z : Int) + 4) 24)))]) hx hb d_M_step_112 hl (by decide) rfl (fun ls hl => ?_)
                refine lv_iconst (v := iI (0)) hx hb d_M_step_114 rfl ?_
                refine lv_istore (lv' := [(6, .int (iI (0))), (4, .long (lI (s_wh nf (m_F nf ns S (mP mi)) ((z : Int) + 4)))), (0, .ref (b 0)), (1, .int (iI (((z : Nat) : Int)))), (2, .long (lI (m_ab nf (m_F nf ns S (mP mi)) ((z : Int) + 4) 24)))]) hx hb d_M_step_115 hl (by decide) rfl (fun ls hl => ?_)
                exact lb _ (0) (N) (G) _ _ ls (by omega) hNx hGx (Nat.lt_succ_self _) hP hD hS (lv_sub hl [2, 3, 1, 0] rfl)
            · skip
              refine lv_lload_n hx hb d_M_step_73 rfl (lv_at hl 2 rfl) ?_
              refine lv_aload_n hx hb d_M_step_74 rfl (lv_at hl 0 rfl) ?_
              refine lv_iload_n hx hb d_M_step_75 rfl (lv_at hl 1 rfl) ?_
              refine lv_iload hx hb d_M_step_76 (lv_at hl 3 rfl) ?_
              refine pr_pl (va_runV (As := [.int (iI (((z : Nat) : Int))), .int (iI (((k : Nat) : Int)))]) (rest := [.long (lI (m_ab nf (m_F nf ns S (mP mi)) ((z : Int) + 4) k))]) ⟨hx, hb, hml, hown, hts⟩ (c_M_outBy l nf ns da (mi := mi) (ms := ms) S (((z : Nat) : Int)) (((k : Nat) : Int)) hOk hR hS6 hSb hPr ⟨by omega, by omega⟩ ⟨by omega, by omega⟩) (cwV 2 hts (pn_gV m_814 m_816 m_30 m_38 m_817) rfl rfl rfl (by decide +kernel) ⟨Nat.le_of_ble_eq_true rfl, Nat.le_of_ble_eq_true rfl⟩) (mn_preV (q0 := 0) (ci := 5) (q := (R_M, T_M, 27)) hP hE rfl rfl) rfl rfl hl.1 rfl (lv_room (Nat.le_of_ble_eq_true rfl)) d_M_step_78 ⟨Nat.le_of_ble_eq_true rfl, Nat.le_of_ble_eq_true rfl⟩) ?_
              refine pr_ladd hx hb d_M_step_81 ?_
              refine pr_lre (B := m_ab nf (m_F nf ns S (mP mi)) ((z : Int) + 4) (k + 1)) (s_ab_sum nf _ _ k).symm ?_
              refine lv_lstore_n (lv' := [(2, .long (lI (m_ab nf (m_F nf ns S (mP mi)) ((z : Int) + 4) (k + 1)))), (0, .ref (b 0)), (1, .int (iI (((z : Nat) : Int)))), (4, .int (iI (((k : Nat) : Int))))]) hx hb d_M_step_82 rfl hl (by decide) rfl (fun ls hl => ?_)
              refine lv_iinc (v := iI (((k : Nat) : Int) + 1)) (lv' := [(4, .int (iI (((k : Nat) : Int) + 1))), (2, .long (lI (m_ab nf (m_F nf ns S (mP mi)) ((z : Int) + 4) (k + 1)))), (0, .ref (b 0)), (1, .int (iI (((z : Nat) : Int))))]) hx hb d_M_step_83 hl (k := 3) rfl (iI_add _ _).symm (by decide) rfl (fun ls hl => ?_)
              refine lv_goto (tgt := 66) hx hb d_M_step_86 (by decide) ?_
              exact ih (k + 1) _ _ ls (by omega) (by omega) hP hD hS (lv_sub hl [2, 3, 1, 0] rfl)
        have hl : lv_has ls 12 [(4, .int (iI (((0 : Nat) : Int)))), (2, .long (lI (m_ab nf (m_F nf ns S (mP mi)) ((z : Int) + 4) 0))), (0, .ref (b 0)), (1, .int (iI (((z : Nat) : Int))))] := hl
        exact la _ (0) _ _ ls (by omega) (Nat.lt_succ_self _) hP hD hS (lv_sub hl [2, 3, 1, 0] rfl)
  have l2 : ∀ (n : Nat) (N : Int → Int) (G : Int → Int) (t : Int) (H : Heap) (locs : List Loc) (ls : Array Slot), (∀ j, 0 ≤ j → j < 8 → N j = ml 0 j) → (∀ j, 0 ≤ j → j < t → G j = ml 1 j) → (0 ≤ t) → (t ≤ 4) → ((4 - t).toNat) < n → va_P D pn_cl (mw b cI cL cZ mi (nw (nw ml 2 N) 3 G) mz ms) H → va_D A (mw b cI cL cZ mi (nw (nw ml 2 N) 3 G) mz ms) → va_S A s.heap H locs → lv_has ls 12 [(0, .ref (b 0)), (1, .int (iI (t)))] → W p l e (headSpec w_M_step ({ frames := 4, cells := 0, slots := 0, locals := 95 })).room s m ([.ref (b 0)] : List Value).toArray below meth c H locs 0 0 (MQ below (va_Qi (fun (r : Int32) (u : Nat → Int → Int) => (r = iI 1 ∧ s_ok nf (m_F nf ns S (mP mi)) so hq ∧ s_ag (mH u) (s_nx nf (m_F nf ns S (mP mi)) so hq)) ∨ (r = iI 0 ∧ ¬ s_ok nf (m_F nf ns S (mP mi)) so hq ∧ u 0 = ml 0 ∧ u 1 = ml 1)) (fun u t => va_P D pn_cl ((fun u : Nat → Int → Int => mw b cI cL cZ mi u mz ms) u) t.heap ∧ va_D A ((fun u : Nat → Int → Int => mw b cI cL cZ mi u mz ms) u)) A) ([.ref (b 0)] : List Value).toArray s 0 0 A) (F0 m 28 ls []) := by
    intro n
    induction n with
    | zero => intro N G t H locs ls _ _ _ _ hm; exact absurd hm (Nat.not_lt_zero _)
    | succ n ih =>
      intro N G t H locs ls eN eG p1 p2 hm hP hD hS hl
      refine lv_iload_n hx hb d_M_step_28 rfl (lv_at hl 1 rfl) ?_
      refine lv_iconst (v := iI (4)) hx hb d_M_step_29 rfl ?_
      refine pr_icmp_ge (tgt := 51) hx hb (i3_of (by omega) (by omega)) (i3_of (by decide) (by decide)) d_M_step_30 (by decide) (fun c_16 => ?_) (fun c_16 => ?_)
      · skip
        refine lv_iconst (v := iI (0)) hx hb d_M_step_51 rfl ?_
        refine lv_istore_n (lv' := [(1, .int (iI (0))), (0, .ref (b 0))]) hx hb d_M_step_52 rfl hl (by decide) rfl (fun ls hl => ?_)
        exact l3 _ (0) (N) (G) _ _ ls (by omega) (fun j a9 b9 => by rw [s_X_0, eN j a9 b9, hmz j a9 b9]) (fun j a9 b9 => by rw [s_X_0, eG j a9 (by omega), hms j a9 b9]) (Nat.lt_succ_self _) hP hD hS (lv_sub hl [1, 0] rfl)
      · skip
        refine lv_aload_n hx hb d_M_step_33 rfl (lv_at hl 0 rfl) ?_
        refine va_get (D := D) (ci := 5) (v := .ref (b 20)) (C := R_M) (T := T_M) (N := 27) hx hb hts (in_M _) hown hK hP 0 rfl rfl 26 (by decide) (ht _ m_616) (fun _ h9 => h9) rfl d_M_step_34 ?_
        refine lv_iload_n hx hb d_M_step_37 rfl (lv_at hl 1 rfl) ?_
        refine lv_aload_n hx hb d_M_step_38 rfl (lv_at hl 0 rfl) ?_
        refine va_get (D := D) (ci := 5) (v := .ref (b 17)) (C := R_M) (T := T_M) (N := 27) hx hb hts (in_M _) hown hK hP 0 rfl rfl 22 (by decide) (ht _ m_612) (fun _ h9 => h9) rfl d_M_step_39 ?_
        refine lv_iload_n hx hb d_M_step_42 rfl (lv_at hl 1 rfl) ?_
        refine pr_lald hx hb hK hP 17 1 rfl rfl (by decide) (by omega) (by omega) d_M_step_43 ?_
        refine pr_last (ws' := mw b cI cL cZ mi (nw (nw (nw ml 2 N) 3 G) 3 (pu (G) (t) (ml 1 (t)))) mz ms) hx hb hK hP hD hS 20 1 rfl rfl (by decide) (by omega) (by omega) rfl d_M_step_44 (fun H locs hP hD hS => ?_)
        have e9 : nw (nw (nw ml 2 N) 3 G) 3 (pu (G) (t) (ml 1 (t))) = nw (nw ml 2 N) 3 (pu G t (ml 1 t)) := by rw [nw_nw]
        rw [e9] at hP hD
        clear e9
        refine lv_iinc (v := iI (t + 1)) (lv' := [(1, .int (iI (t + 1))), (0, .ref (b 0))]) hx hb d_M_step_45 hl (k := 1) rfl (iI_add _ _).symm (by decide) rfl (fun ls hl => ?_)
        refine lv_goto (tgt := 28) hx hb d_M_step_48 (by decide) ?_
        exact ih (N) (pu G t (ml 1 t)) (t + 1) _ _ ls eN (by intro j a9 b9; unfold pu; by_cases c9 : j = t; rw [if_pos c9, c9]; rw [if_neg c9]; exact eG j a9 (by omega)) (by omega) (by omega) (by omega) hP hD hS (lv_sub hl [1, 0] rfl)
  have l1 : ∀ (n : Nat) (N : Int → Int) (t : Int) (H : Heap) (locs : List Loc) (ls : Array Slot), (∀ j, 0 ≤ j → j < t → N j = ml 0 j) → (0 ≤ t) → (t ≤ 8) → ((8 - t).toNat) < n → va_P D pn_cl (mw b cI cL cZ mi (nw (nw ml 2 N) 3 (ml 3)) mz ms) H → va_D A (mw b cI cL cZ mi (nw (nw ml 2 N) 3 (ml 3)) mz ms) → va_S A s.heap H locs → lv_has ls 12 [(0, .ref (b 0)), (1, .int (iI (t)))] → W p l e (headSpec w_M_step ({ frames := 4, cells := 0, slots := 0, locals := 95 })).room s m ([.ref (b 0)] : List Value).toArray below meth c H locs 0 0 (MQ below (va_Qi (fun (r : Int32) (u : Nat → Int → Int) => (r = iI 1 ∧ s_ok nf (m_F nf ns S (mP mi)) so hq ∧ s_ag (mH u) (s_nx nf (m_F nf ns S (mP mi)) so hq)) ∨ (r = iI 0 ∧ ¬ s_ok nf (m_F nf ns S (mP mi)) so hq ∧ u 0 = ml 0 ∧ u 1 = ml 1)) (fun u t => va_P D pn_cl ((fun u : Nat → Int → Int => mw b cI cL cZ mi u mz ms) u) t.heap ∧ va_D A ((fun u : Nat → Int → Int => mw b cI cL cZ mi u mz ms) u)) A) ([.ref (b 0)] : List Value).toArray s 0 0 A) (F0 m 2 ls []) := by
    intro n
    induction n with
    | zero => intro N t H locs ls _ _ _ hm; exact absurd hm (Nat.not_lt_zero _)
    | succ n ih =>
      intro N t H locs ls eN p1 p2 hm hP hD hS hl
      refine lv_iload_n hx hb d_M_step_2 rfl (lv_at hl 1 rfl) ?_
      refine lv_bipush (v := iI (8)) hx hb d_M_step_3 (by decide) ?_
      refine pr_icmp_ge (tgt := 26) hx hb (i3_of (by omega) (by omega)) (i3_of (by decide) (by decide)) d_M_step_5 (by decide) (fun c_17 => ?_) (fun c_17 => ?_)
      · skip
        refine lv_iconst (v := iI (0)) hx hb d_M_step_26 rfl ?_
        refine lv_istore_n (lv' := [(1, .int (iI (0))), (0, .ref (b 0))]) hx hb d_M_step_27 rfl hl (by decide) rfl (fun ls hl => ?_)
        exact l2 _ (N) (ml 3) (0) _ _ ls (fun j a9 b9 => eN j a9 (by omega)) (fun j a9 b9 => absurd b9 (by omega)) (by omega) (by omega) (Nat.lt_succ_self _) hP hD hS (lv_sub hl [1, 0] rfl)
      · skip
        refine lv_aload_n hx hb d_M_step_8 rfl (lv_at hl 0 rfl) ?_
        refine va_get (D := D) (ci := 5) (v := .ref (b 19)) (C := R_M) (T := T_M) (N := 27) hx hb hts (in_M _) hown hK hP 0 rfl rfl 25 (by decide) (ht _ m_615) (fun _ h9 => h9) rfl d_M_step_9 ?_
        refine lv_iload_n hx hb d_M_step_12 rfl (lv_at hl 1 rfl) ?_
        refine lv_aload_n hx hb d_M_step_13 rfl (lv_at hl 0 rfl) ?_
        refine va_get (D := D) (ci := 5) (v := .ref (b 4)) (C := R_M) (T := T_M) (N := 27) hx hb hts (in_M _) hown hK hP 0 rfl rfl 6 (by decide) (ht _ m_596) (fun _ h9 => h9) rfl d_M_step_14 ?_
        refine lv_iload_n hx hb d_M_step_17 rfl (lv_at hl 1 rfl) ?_
        refine pr_lald hx hb hK hP 4 1 rfl rfl (by decide) (by omega) (by omega) d_M_step_18 ?_
        refine pr_last (ws' := mw b cI cL cZ mi (nw (nw (nw ml 2 N) 3 (ml 3)) 2 (pu (N) (t) (ml 0 (t)))) mz ms) hx hb hK hP hD hS 19 1 rfl rfl (by decide) (by omega) (by omega) rfl d_M_step_19 (fun H locs hP hD hS => ?_)
        have e9 : nw (nw (nw ml 2 N) 3 (ml 3)) 2 (pu (N) (t) (ml 0 (t))) = nw (nw ml 2 (pu N t (ml 0 t))) 3 (ml 3) := nw_cm _ _ _ _ (by decide)
        rw [e9] at hP hD
        clear e9
        refine lv_iinc (v := iI (t + 1)) (lv' := [(1, .int (iI (t + 1))), (0, .ref (b 0))]) hx hb d_M_step_20 hl (k := 1) rfl (iI_add _ _).symm (by decide) rfl (fun ls hl => ?_)
        refine lv_goto (tgt := 2) hx hb d_M_step_23 (by decide) ?_
        exact ih (pu N t (ml 0 t)) (t + 1) _ _ ls (by intro j a9 b9; unfold pu; by_cases c9 : j = t; rw [if_pos c9, c9]; rw [if_neg c9]; exact eN j a9 (by omega)) (by omega) (by omega) (by omega) hP hD hS (lv_sub hl [1, 0] rfl)
  refine lv_iconst (v := iI (0)) hx hb d_M_step_0 rfl ?_
  refine lv_istore_n (lv' := [(1, .int (iI (0))), (0, .ref (b 0))]) hx hb d_M_step_1 rfl hl (by decide) rfl (fun ls hl => ?_)
  have e9 : ml = nw (nw ml 2 (ml 2)) 3 (ml 3) := by rw [nw_self, nw_self]
  rw [e9] at hP hD
  clear e9
  exact l1 _ (ml 2) (0) _ _ ls (fun j a9 b9 => absurd b9 (by omega)) (by omega) (by omega) (Nat.lt_succ_self _) hP hD hS (lv_sub hl [1, 0] rfl)
