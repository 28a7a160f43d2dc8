/-! the reference's search for the state -/
theorem pu_id (f : Int → Int) (k : Int) : pu f k (f k) = f := by
  funext j
  unfold pu
  by_cases h : j = k
  · rw [if_pos h, h]
  · rw [if_neg h]
theorem mP_up (mi : Nat → Int → Int) (g : Int → Int) {x : Int} (h : 0 ≤ x) (v : Int) : mP (nw mi 14 (pu g x v)) = pn_up (mP (nw mi 14 g)) (x + 4) v := by
  funext j
  unfold mP pn_up
  by_cases e : j = x + 4
  · rw [if_pos e, if_neg (by omega)]
    show pu g x v (j - 4) = v
    unfold pu
    exact if_pos (by omega)
  · rw [if_neg e]
    by_cases c : j < 4
    · show (if j < 4 then _ else _) = (if j < 4 then _ else _)
      rw [if_pos c, if_pos c]; rfl
    · show (if j < 4 then _ else _) = (if j < 4 then _ else _)
      rw [if_neg c, if_neg c]
      show pu g x v (j - 4) = g (j - 4)
      unfold pu
      exact if_neg (by omega)
theorem mP_14 (mi : Nat → Int → Int) : nw mi 14 (mi 14) = mi := nw_self mi 14
def m_s5 (f : Int → Int) : Prop := ∀ j, 0 ≤ j → j < 8 → -5000 ≤ f j ∧ f j ≤ 5000
theorem m_s5.pu {f : Int → Int} (h : m_s5 f) {x v : Int} (h1 : -5000 ≤ v) (h2 : v ≤ 5000) : m_s5 (pu f x v) := by
  intro j a b
  show -5000 ≤ (if j = x then v else f j) ∧ (if j = x then v else f j) ≤ 5000
  by_cases e : j = x
  · rw [if_pos e]; exact ⟨h1, h2⟩
  · rw [if_neg e]; exact h j a b
theorem mP_pr {nf : Nat → Int → Int} {ns : Nat → Int} {da : Int → Int → Int} {mi : Nat → Int → Int} {ms : Nat → Int} {g : Int → Int} (hOk : pn_Ok nf ns da) (hR : mn_R nf ns mi ms) (h : m_s5 g) : pn_Pr (mP (nw mi 14 g)) := by
  obtain ⟨o_zc, o_lc, o_fc, o_ve, o_wi, -⟩ := hOk
  obtain ⟨r_zo, r_le, r_fa, r_wi, -⟩ := hR
  intro j a b
  unfold mP
  by_cases c : j < 4
  · rw [if_pos c]
    show -5000 ≤ mi 0 j ∧ mi 0 j ≤ 20000
    have := r_wi j a c
    have := o_wi j a c
    omega
  · rw [if_neg c]
    show -5000 ≤ g (j - 4) ∧ g (j - 4) ≤ 20000
    have := h (j - 4) (by omega) (by omega)
    omega
theorem m_gain_bi {nf : Nat → Int → Int} {ns : Nat → Int} {da : Int → Int → Int} {S : Nat} {P : Int → Int} {x : Int} (hOk : pn_Ok nf ns da) (hPr : pn_Pr P) (h0 : 0 ≤ x) (h1 : x < 8) : -648000000 ≤ m_gain nf da S P (x + 4) ∧ m_gain nf da S P (x + 4) ≤ 648000000 := by
  have := m_gain_b (S := S) (z := x.toNat) hOk hPr (by omega)
  rw [show ((x.toNat + 4 : Nat) : Int) = x + 4 by omega] at this
  exact this
theorem pn_up_id (P : Int → Int) (z : Int) : pn_up P z (P z) = P := by
  funext j
  unfold pn_up
  by_cases h : j = z
  · rw [if_pos h, h]
  · rw [if_neg h]
theorem mP_at (mi : Nat → Int → Int) (g : Int → Int) {x : Int} (h : 0 ≤ x) : mP (nw mi 14 g) (x + 4) = g x := by
  unfold mP
  rw [if_neg (by omega), show x + 4 - 4 = x by omega]
  rfl
theorem m_s8_5 {nf : Nat → Int → Int} {mi : Nat → Int → Int} {g : Int → Int} (h : m_s5 g) : m_s8 (mP (nw mi 14 g)) ≤ 40000 := by
  unfold m_s8
  have e := fun (x : Int) (q : 0 ≤ x) => mP_at mi g q
  have e0 := e 0 (by omega); have e1 := e 1 (by omega); have e2 := e 2 (by omega); have e3 := e 3 (by omega); have e4 := e 4 (by omega); have e5 := e 5 (by omega); have e6 := e 6 (by omega); have e7 := e 7 (by omega)
  have h0 := h 0 (by omega) (by omega); have h1 := h 1 (by omega) (by omega); have h2 := h 2 (by omega) (by omega); have h3 := h 3 (by omega) (by omega); have h4 := h 4 (by omega) (by omega); have h5 := h 5 (by omega) (by omega); have h6 := h 6 (by omega) (by omega); have h7 := h 7 (by omega) (by omega)
  simp only [show (0 : Int) + 4 = 4 from rfl, show (1 : Int) + 4 = 5 from rfl, show (2 : Int) + 4 = 6 from rfl, show (3 : Int) + 4 = 7 from rfl, show (4 : Int) + 4 = 8 from rfl, show (5 : Int) + 4 = 9 from rfl, show (6 : Int) + 4 = 10 from rfl, show (7 : Int) + 4 = 11 from rfl] at e0 e1 e2 e3 e4 e5 e6 e7
  omega

abbrev w_M_rise : List Cond := .code y_M_rise b_M_rise 5 (some .boolean) :: pn_W
set_option maxHeartbeats 4000000 in
set_option maxRecDepth 100000 in
theorem c_M_rise (l : Launch) {D : va_G} {b : Nat → Nat} {cI cL cZ : ClassId} {mi ml : Nat → Int → Int} {mz : Int → Int} {ms : Nat → Int} (sz : Nat) (nf : Nat → Int → Int) (ns : Nat → Int) (da : Int → Int → Int) (S : Nat) (x : Int) (hOk : pn_Ok nf ns da) (hR : mn_R nf ns mi ms) (hS6 : ms 6 = ((S : Nat) : Int)) (hSb : S < 2 ^ 20) (hSm : pn_Sm nf ns da) (hs5 : m_s5 (mi 14)) (gx : 0 ≤ x ∧ x < 8) : Met l y_M_rise w_M_rise ({ frames := 4, cells := 0, slots := 0, locals := 94 }) (va_Pc [.ref (b 0), .int (iI (x))] (fun U => U.heap.size = sz ∧ va_P D pn_cl (mw b cI cL cZ mi ml mz ms) U.heap ∧ va_D (fun _ => True) (mw b cI cL cZ mi ml mz ms) ∧ mn_E D cI cL cZ U)) (va_Qi (fun (r : Int32) (u : Int) => (r = iI 0 ∧ u = 5000 ∧ 0 < m_gain nf da S (pn_up (mP mi) (x + 4) (5000)) (x + 4)) ∨ (r = iI 1 ∧ mi 14 x ≤ u ∧ u ≤ 5000 ∧ m_gain nf da S (pn_up (mP mi) (x + 4) (u)) (x + 4) ≤ 0 ∧ (u = mi 14 x ∨ 0 < m_gain nf da S (pn_up (mP mi) (x + 4) (u - 1)) (x + 4)))) (fun u t => va_P D pn_cl ((fun u : Int => mw b cI cL cZ (nw mi 14 (pu (mi 14) (x) (u))) ml mz ms) u) t.heap ∧ va_D (va_A (mw b cI cL cZ mi ml mz ms) sz) ((fun u : Int => mw b cI cL cZ (nw mi 14 (pu (mi 14) (x) (u))) ml mz ms) u)) (va_A (mw b cI cL cZ mi ml mz ms) sz)) 0 0 (va_A (mw b cI cL cZ mi ml mz ms) sz) := by
  refine Met.ofW (cc := b_M_rise) (maxL := 5) (ret := (some .boolean)) (by decide) rfl ?_
  intro p e s m args below meth c s₁ B hml hv
  obtain ⟨rfl, hsz, hP, hD0, hE⟩ := hv
  have hx := B.exec
  have hb := B.bytes
  have hr := B.returns
  have hts := atoms_spec (ws := w_M_rise) B.pre
  have ht : ∀ w ∈ pn_W, w.before _ s = true := fun w h => hts w (List.mem_cons_of_mem _ h)
  have hown : s.vm.findClass R_M = some m.cls := findClass_of_methodNamed B.named
  have hlocks := B.notSynchronized
  have hK := hE
  subst hsz
  have hD := hD0.self (sz := s.heap.size)
  generalize hAe : va_A (mw b cI cL cZ mi ml mz ms) s.heap.size = A at hD ⊢
  have hA : ∀ q : Nat, s.heap.size ≤ q → A q := fun q h => by rw [← hAe]; exact Or.inr h
  have hS : va_S A s.heap s.heap [] := va_S.rf
  have hl := lv_entry ([.ref (b 0), .int (iI (x))]) (n := 5) (Nat.le_of_ble_eq_true rfl)
  rw [lg_entry_eq]
  generalize (lg_sl ([.ref (b 0), .int (iI (x))]) ++ List.replicate (5 - (lg_sl ([.ref (b 0), .int (iI (x))])).length) Slot.unset).toArray = ls at hl ⊢
  have hl : lv_has ls 5 [(0, .ref (b 0)), (1, .int (iI (x)))] := hl
  obtain ⟨o_zc, o_lc, o_fc, o_ve, o_wi, o_wa, o_vo, o_fr, o_to, o_he, o_ar, o_ki, o_st, o_ff, o_sl, o_dc, o_da⟩ := id hOk
  obtain ⟨r_zo, r_le, r_fa, r_wi, r_ai, r_wa, r_vo, r_lk, r_fn⟩ := id hR
  have h14 := hs5 x gx.1 gx.2
  have hup : ∀ v : Int, mP (nw mi 14 (pu (mi 14) x v)) = pn_up (mP mi) (x + 4) v := fun v => by rw [mP_up mi (mi 14) gx.1 v, mP_14]
  have hpr : ∀ v : Int, -5000 ≤ v → v ≤ 5000 → pn_Pr (mP (nw mi 14 (pu (mi 14) x v))) := fun v a b => mP_pr hOk hR (hs5.pu a b)
  have hgb : ∀ v : Int, -5000 ≤ v → v ≤ 5000 → -648000000 ≤ m_gain nf da S (pn_up (mP mi) (x + 4) (v)) (x + 4) ∧ m_gain nf da S (pn_up (mP mi) (x + 4) (v)) (x + 4) ≤ 648000000 := fun v a b => by rw [← hup v]; exact m_gain_bi hOk (hpr v a b) gx.1 gx.2
  have loop : ∀ (n : Nat) (lo : Int) (hi : Int) (cu : Int) (H : Heap) (locs : List Loc) (ls : Array Slot), (mi 14 x ≤ lo) → (lo ≤ hi) → (hi ≤ 5000) → (m_gain nf da S (pn_up (mP mi) (x + 4) (hi)) (x + 4) ≤ 0) → (lo = mi 14 x ∨ 0 < m_gain nf da S (pn_up (mP mi) (x + 4) (lo - 1)) (x + 4)) → (-5000 ≤ cu) → (cu ≤ 5000) → ((hi - lo).toNat) < n → va_P D pn_cl (mw b cI cL cZ (nw mi 14 (pu (mi 14) (x) (cu))) ml mz ms) H → va_D A (mw b cI cL cZ (nw mi 14 (pu (mi 14) (x) (cu))) ml mz ms) → va_S A s.heap H locs → lv_has ls 5 [(0, .ref (b 0)), (1, .int (iI (x))), (2, .int (iI (lo))), (3, .int (iI (hi)))] → W p l e (headSpec w_M_rise ({ frames := 4, cells := 0, slots := 0, locals := 94 })).room s m ([.ref (b 0), .int (iI (x))] : List Value).toArray below meth c H locs 0 0 (MQ below (va_Qi (fun (r : Int32) (u : Int) => (r = iI 0 ∧ u = 5000 ∧ 0 < m_gain nf da S (pn_up (mP mi) (x + 4) (5000)) (x + 4)) ∨ (r = iI 1 ∧ mi 14 x ≤ u ∧ u ≤ 5000 ∧ m_gain nf da S (pn_up (mP mi) (x + 4) (u)) (x + 4) ≤ 0 ∧ (u = mi 14 x ∨ 0 < m_gain nf da S (pn_up (mP mi) (x + 4) (u - 1)) (x + 4)))) (fun u t => va_P D pn_cl ((fun u : Int => mw b cI cL cZ (nw mi 14 (pu (mi 14) (x) (u))) ml mz ms) u) t.heap ∧ va_D A ((fun u : Int => mw b cI cL cZ (nw mi 14 (pu (mi 14) (x) (u))) ml mz ms) u)) A) ([.ref (b 0), .int (iI (x))] : List Value).toArray s 0 0 A) (F0 m 32 ls []) := by
    intro n
    induction n with
    | zero => intro lo hi cu H locs ls _ _ _ _ _ _ _ hm; exact absurd hm (Nat.not_lt_zero _)
    | succ n ih =>
      intro lo hi cu H locs ls q1 q2 q3 q4 q5 q6 q7 hm hP hD hS hl
      refine lv_iload_n hx hb d_M_rise_32 rfl (lv_at hl 2 rfl) ?_
      refine lv_iload_n hx hb d_M_rise_33 rfl (lv_at hl 3 rfl) ?_
      refine pr_icmp_ge (tgt := 78) hx hb (i3_of (by omega) (by omega)) (i3_of (by omega) (by omega)) d_M_rise_34 (by decide) (fun c_1 => ?_) (fun c_1 => ?_)
      · skip
        refine lv_aload_n hx hb d_M_rise_78 rfl (lv_at hl 0 rfl) ?_
        refine va_get (D := D) (ci := 5) (v := .ref (b 18)) (C := R_M) (T := T_M) (N := 27) hx hb hts (in_M _) hown hK hP 0 rfl rfl 23 (by decide) (ht _ m_613) (fun _ h9 => h9) rfl d_M_rise_79 ?_
        refine lv_iload_n hx hb d_M_rise_82 rfl (lv_at hl 1 rfl) ?_
        refine lv_iload_n hx hb d_M_rise_83 rfl (lv_at hl 2 rfl) ?_
        refine pr_iast (ws' := mw b cI cL cZ (nw (nw mi 14 (pu (mi 14) (x) (cu))) 14 (pu ((pu (mi 14) (x) (cu))) (x) (lo))) ml mz ms) hx hb hK hP hD hS 18 0 rfl rfl (by decide) (by omega) (by omega) rfl d_M_rise_84 (fun H locs hP hD hS => ?_)
        have e9 : nw (nw mi 14 (pu (mi 14) (x) (cu))) 14 (pu ((pu (mi 14) (x) (cu))) (x) (lo)) = nw mi 14 (pu (mi 14) (x) (lo)) := by rw [nw_nw, pu_pu]
        rw [e9] at hP hD
        clear e9
        refine lv_iconst (v := iI (1)) hx hb d_M_rise_85 rfl ?_
        exact W.zret (v := iI (1)) hx hb hr (by decide) (fun t ht hW => ⟨⟨iI (1), lo, rfl, Or.inr ⟨rfl, q1, by omega, by rw [show lo = hi by omega]; exact q4, q5⟩, by rw [ht]; exact hP, hD⟩, hS.F ht⟩) hS.2.2 d_M_rise_86
      · skip
        refine lv_iload_n hx hb d_M_rise_37 rfl (lv_at hl 2 rfl) ?_
        refine lv_iload_n hx hb d_M_rise_38 rfl (lv_at hl 3 rfl) ?_
        refine lv_iload_n hx hb d_M_rise_39 rfl (lv_at hl 2 rfl) ?_
        refine pr_isub hx hb d_M_rise_40 ?_
        refine lv_iconst (v := iI (2)) hx hb d_M_rise_41 rfl ?_
        refine pr_idiv hx hb (i3_of (by omega) (by omega)) (i3_of (by decide) (by decide)) (by omega) d_M_rise_42 ?_
        refine pr_iadd hx hb d_M_rise_43 ?_
        refine pr_ire (B := lo + (hi - lo) / 2) (by rw [Int.tdiv_eq_ediv_of_nonneg (by omega)]) ?_
        refine lv_istore (lv' := [(4, .int (iI (lo + (hi - lo) / 2))), (0, .ref (b 0)), (1, .int (iI (x))), (2, .int (iI (lo))), (3, .int (iI (hi)))]) hx hb d_M_rise_44 hl (by decide) rfl (fun ls hl => ?_)
        refine lv_aload_n hx hb d_M_rise_46 rfl (lv_at hl 1 rfl) ?_
        refine va_get (D := D) (ci := 5) (v := .ref (b 18)) (C := R_M) (T := T_M) (N := 27) hx hb hts (in_M _) hown hK hP 0 rfl rfl 23 (by decide) (ht _ m_613) (fun _ h9 => h9) rfl d_M_rise_47 ?_
        refine lv_iload_n hx hb d_M_rise_50 rfl (lv_at hl 2 rfl) ?_
        refine lv_iload hx hb d_M_rise_51 (lv_at hl 0 rfl) ?_
        refine pr_iast (ws' := mw b cI cL cZ (nw (nw mi 14 (pu (mi 14) (x) (cu))) 14 (pu ((pu (mi 14) (x) (cu))) (x) (lo + (hi - lo) / 2))) ml mz ms) hx hb hK hP hD hS 18 0 rfl rfl (by decide) (by omega) (by omega) rfl d_M_rise_53 (fun H locs hP hD hS => ?_)
        have e9 : nw (nw mi 14 (pu (mi 14) (x) (cu))) 14 (pu ((pu (mi 14) (x) (cu))) (x) (lo + (hi - lo) / 2)) = nw mi 14 (pu (mi 14) (x) (lo + (hi - lo) / 2)) := by rw [nw_nw, pu_pu]
        rw [e9] at hP hD
        clear e9
        have gb := hgb (lo + (hi - lo) / 2) (by omega) (by omega)
        refine lv_aload_n hx hb d_M_rise_54 rfl (lv_at hl 1 rfl) ?_
        refine lv_iload_n hx hb d_M_rise_55 rfl (lv_at hl 2 rfl) ?_
        refine pr_pl (va_runV (As := [.int (iI (x))]) (rest := []) ⟨hx, hb, hml, hown, hts⟩ (c_M_gainOf l nf ns da (mi := nw mi 14 (pu (mi 14) (x) (lo + (hi - lo) / 2))) (ms := ms) S (x) hOk hR hS6 hSb (hpr _ (by omega) (by omega)) hSm ⟨by omega, by omega⟩) (cwV 1 hts (pn_gV m_739 m_741 m_22 m_38 m_742) rfl rfl rfl (by decide +kernel) ⟨Nat.le_of_ble_eq_true rfl, Nat.le_of_ble_eq_true rfl⟩) (mn_preV (q0 := 0) (ci := 5) (q := (R_M, T_M, 27)) hP hE rfl rfl) rfl rfl hl.1 rfl (lv_room (Nat.le_of_ble_eq_true rfl)) d_M_rise_56 ⟨Nat.le_of_ble_eq_true rfl, Nat.le_of_ble_eq_true rfl⟩) ?_
        refine pr_lre (B := m_gain nf da S (pn_up (mP mi) (x + 4) (lo + (hi - lo) / 2)) (x + 4)) (by rw [hup]) ?_
        refine lv_lconst (v := lI 0) hx hb d_M_rise_59 (by decide) ?_
        refine pr_lcmp_le (tgt := 72) hx hb (i6_of (by omega) (by omega)) (i6_of (by decide) (by decide)) d_M_rise_60 d_M_rise_61 (by decide) (fun c_2 => ?_) (fun c_2 => ?_)
        · skip
          refine lv_iload hx hb d_M_rise_72 (lv_at hl 0 rfl) ?_
          refine lv_istore_n (lv' := [(3, .int (iI (lo + (hi - lo) / 2))), (4, .int (iI (lo + (hi - lo) / 2))), (0, .ref (b 0)), (1, .int (iI (x))), (2, .int (iI (lo)))]) hx hb d_M_rise_74 rfl hl (by decide) rfl (fun ls hl => ?_)
          refine lv_goto (tgt := 32) hx hb d_M_rise_75 (by decide) ?_
          exact ih (lo) (lo + (hi - lo) / 2) (lo + (hi - lo) / 2) _ _ ls q1 (by omega) (by omega) (by omega) q5 (by omega) (by omega) (by omega) hP hD hS (lv_sub hl [2, 3, 4, 0] rfl)
        · skip
          refine lv_iload hx hb d_M_rise_64 (lv_at hl 0 rfl) ?_
          refine lv_iconst (v := iI (1)) hx hb d_M_rise_66 rfl ?_
          refine pr_iadd hx hb d_M_rise_67 ?_
          refine lv_istore_n (lv' := [(2, .int (iI ((lo + (hi - lo) / 2) + (1)))), (4, .int (iI (lo + (hi - lo) / 2))), (0, .ref (b 0)), (1, .int (iI (x))), (3, .int (iI (hi)))]) hx hb d_M_rise_68 rfl hl (by decide) rfl (fun ls hl => ?_)
          refine lv_goto (tgt := 75) hx hb d_M_rise_69 (by decide) ?_
          refine lv_goto (tgt := 32) hx hb d_M_rise_75 (by decide) ?_
          exact ih (lo + (hi - lo) / 2 + 1) (hi) (lo + (hi - lo) / 2) _ _ ls (by omega) (by omega) q3 q4 (Or.inr (by rw [show lo + (hi - lo) / 2 + 1 - 1 = lo + (hi - lo) / 2 by omega]; omega)) (by omega) (by omega) (by omega) hP hD hS (lv_sub hl [2, 3, 0, 4] rfl)
  refine lv_aload_n hx hb d_M_rise_0 rfl (lv_at hl 0 rfl) ?_
  refine va_get (D := D) (ci := 5) (v := .ref (b 18)) (C := R_M) (T := T_M) (N := 27) hx hb hts (in_M _) hown hK hP 0 rfl rfl 23 (by decide) (ht _ m_613) (fun _ h9 => h9) rfl d_M_rise_1 ?_
  refine lv_iload_n hx hb d_M_rise_4 rfl (lv_at hl 1 rfl) ?_
  refine pr_iald hx hb hK hP 18 0 rfl rfl (by decide) (by omega) (by omega) d_M_rise_5 ?_
  refine lv_istore_n (lv' := [(2, .int (iI (mi 14 (x)))), (0, .ref (b 0)), (1, .int (iI (x)))]) hx hb d_M_rise_6 rfl hl (by decide) rfl (fun ls hl => ?_)
  refine lv_sipush (v := iI (5000)) hx hb d_M_rise_7 (by decide) ?_
  refine lv_istore_n (lv' := [(3, .int (iI (5000))), (2, .int (iI (mi 14 (x)))), (0, .ref (b 0)), (1, .int (iI (x)))]) hx hb d_M_rise_10 rfl hl (by decide) rfl (fun ls hl => ?_)
  refine lv_aload_n hx hb d_M_rise_11 rfl (lv_at hl 2 rfl) ?_
  refine va_get (D := D) (ci := 5) (v := .ref (b 18)) (C := R_M) (T := T_M) (N := 27) hx hb hts (in_M _) hown hK hP 0 rfl rfl 23 (by decide) (ht _ m_613) (fun _ h9 => h9) rfl d_M_rise_12 ?_
  refine lv_iload_n hx hb d_M_rise_15 rfl (lv_at hl 3 rfl) ?_
  refine lv_sipush (v := iI (5000)) hx hb d_M_rise_16 (by decide) ?_
  refine pr_iast (ws' := mw b cI cL cZ (nw mi 14 (pu (mi 14) (x) (5000))) ml mz ms) hx hb hK hP hD hS 18 0 rfl rfl (by decide) (by omega) (by omega) rfl d_M_rise_19 (fun H locs hP hD hS => ?_)
  have gb := hgb 5000 (by omega) (by omega)
  refine lv_aload_n hx hb d_M_rise_20 rfl (lv_at hl 2 rfl) ?_
  refine lv_iload_n hx hb d_M_rise_21 rfl (lv_at hl 3 rfl) ?_
  refine pr_pl (va_runV (As := [.int (iI (x))]) (rest := []) ⟨hx, hb, hml, hown, hts⟩ (c_M_gainOf l nf ns da (mi := nw mi 14 (pu (mi 14) (x) (5000))) (ms := ms) S (x) hOk hR hS6 hSb (hpr _ (by omega) (by omega)) hSm ⟨by omega, by omega⟩) (cwV 1 hts (pn_gV m_739 m_741 m_22 m_38 m_742) rfl rfl rfl (by decide +kernel) ⟨Nat.le_of_ble_eq_true rfl, Nat.le_of_ble_eq_true rfl⟩) (mn_preV (q0 := 0) (ci := 5) (q := (R_M, T_M, 27)) hP hE rfl rfl) rfl rfl hl.1 rfl (lv_room (Nat.le_of_ble_eq_true rfl)) d_M_rise_22 ⟨Nat.le_of_ble_eq_true rfl, Nat.le_of_ble_eq_true rfl⟩) ?_
  refine pr_lre (B := m_gain nf da S (pn_up (mP mi) (x + 4) (5000)) (x + 4)) (by rw [hup]) ?_
  refine lv_lconst (v := lI 0) hx hb d_M_rise_25 (by decide) ?_
  refine pr_lcmp_le (tgt := 32) hx hb (i6_of (by omega) (by omega)) (i6_of (by decide) (by decide)) d_M_rise_26 d_M_rise_27 (by decide) (fun c_3 => ?_) (fun c_3 => ?_)
  · skip
    exact loop _ (mi 14 x) (5000) (5000) _ _ ls (by omega) (by omega) (by omega) (by omega) (Or.inl rfl) (by omega) (by omega) (Nat.lt_succ_self _) hP hD hS (lv_sub hl [2, 3, 1, 0] rfl)
  · skip
    refine lv_iconst (v := iI (0)) hx hb d_M_rise_30 rfl ?_
    exact W.zret (v := iI (0)) hx hb hr (by decide) (fun t ht hW => ⟨⟨iI (0), 5000, rfl, Or.inl ⟨rfl, rfl, by omega⟩, by rw [ht]; exact hP, hD⟩, hS.F ht⟩) hS.2.2 d_M_rise_31
