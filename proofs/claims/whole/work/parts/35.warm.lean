/-! warmth -/
def m_wt (r : Int) : Int := if r < 4 then 4 else 0
def m_wa (r v : Int) (f : Int → Int) : Int → Int := fl (m_wt r) v (pu f r v)
theorem m_wa_b {r v : Int} {f : Int → Int} (hv : -1000 ≤ v ∧ v ≤ 1000) (h : ∀ j, 0 ≤ j → j < 12 → -1000 ≤ f j ∧ f j ≤ 1000) : ∀ j, 0 ≤ j → j < 12 → -1000 ≤ m_wa r v f j ∧ m_wa r v f j ≤ 1000 := by
  intro j a b
  unfold m_wa fl pu
  by_cases c : 0 ≤ j ∧ j < m_wt r
  · rw [if_pos c]; exact hv
  · rw [if_neg c]
    by_cases e : j = r
    · rw [if_pos e]; exact hv
    · rw [if_neg e]; exact h j a b
def m_stk (nf : Nat → Int → Int) (W : Int → Int) (t : Int) : Int → Int := fun j => if 0 ≤ j ∧ j < t then (nf 5 j * (W (nf 3 j) - W (nf 4 j))).tdiv 100 else nf 8 j
theorem m_stk_0 (nf : Nat → Int → Int) (W : Int → Int) : m_stk nf W 0 = nf 8 := by
  funext j
  unfold m_stk
  exact if_neg (by omega)
theorem m_stk_pu (nf : Nat → Int → Int) (W : Int → Int) {t : Int} (h : 0 ≤ t) : pu (m_stk nf W t) t ((nf 5 t * (W (nf 3 t) - W (nf 4 t))).tdiv 100) = m_stk nf W (t + 1) := by
  funext j
  unfold pu m_stk
  by_cases e : j = t
  · rw [if_pos e, if_pos (by omega), e]
  · rw [if_neg e]
    by_cases q : 0 ≤ j ∧ j < t
    · rw [if_pos q, if_pos (by omega)]
    · rw [if_neg q, if_neg (by omega)]
abbrev m_nw (nf : Nat → Int → Int) (W S : Int → Int) : Nat → Int → Int := nw (nw nf 1 W) 8 S
theorem m_nw_0 (nf : Nat → Int → Int) (W : Int → Int) : m_nw nf W (nf 8) = nw nf 1 W := by
  have h := nw_self (nw nf 1 W) 8
  exact h
theorem m_nw_s (nf : Nat → Int → Int) (W : Int → Int) {t : Int} (h : 0 ≤ t) : nw (m_nw nf W (m_stk nf W t)) 8 (pu (m_nw nf W (m_stk nf W t) 8) t ((m_nw nf W (m_stk nf W t) 5 t * (m_nw nf W (m_stk nf W t) 1 (m_nw nf W (m_stk nf W t) 3 t) - m_nw nf W (m_stk nf W t) 1 (m_nw nf W (m_stk nf W t) 4 t))).tdiv 100)) = m_nw nf W (m_stk nf W (t + 1)) := by
  rw [← m_stk_pu nf W h]
  unfold m_nw
  rw [nw_nw, nw_s]
  rfl
abbrev w_N_changeWarmth : List Cond := .code y_N_changeWarmth b_N_changeWarmth 5 (some .int) :: pn_W
set_option maxHeartbeats 4000000 in
set_option maxRecDepth 100000 in
theorem c_N_changeWarmth (l : Launch) {D : va_G} {a : Nat → Nat} {cI cL cD cS : ClassId} {nf : Nat → Int → Int} {ns : Nat → Int} {da : Int → Int → Int} {be : Int → Int} {ui ul : Nat → Int → Int} {cn : Int} {ss : Nat → Nat} {mf sd : Nat → Int} {pr : Nat → Int → Int} (sz : Nat) (x y : Int) (hOk : pn_Ok nf ns da) (hx0 : 0 ≤ x ∧ x < 12) (hy0 : -1000 ≤ y ∧ y ≤ 1000) : Met l y_N_changeWarmth w_N_changeWarmth ({ frames := 1, cells := 0, slots := 0, locals := 21 }) (va_Pc [.ref (a 1), .int (iI (x)), .int (iI (y))] (fun U => U.heap.size = sz ∧ va_P D pn_cl (cw a cI cL cD cS nf ns da be ui ul cn ss mf sd pr) U.heap ∧ va_D (fun _ => True) (cw a cI cL cD cS nf ns da be ui ul cn ss mf sd pr) ∧ pn_E D cI cL cD cS U)) (va_Qi (fun (r : Int32) (_ : Unit) => r = iI (nf 1 x)) (fun u t => va_P D pn_cl ((fun _ : Unit => cw a cI cL cD cS (m_nw nf (m_wa x y (nf 1)) (m_stk nf (m_wa x y (nf 1)) (ns 1))) (nw ns 3 (ns 3 + 1)) da be ui ul cn ss mf sd pr) u) t.heap ∧ va_D (va_A (cw a cI cL cD cS nf ns da be ui ul cn ss mf sd pr) sz) ((fun _ : Unit => cw a cI cL cD cS (m_nw nf (m_wa x y (nf 1)) (m_stk nf (m_wa x y (nf 1)) (ns 1))) (nw ns 3 (ns 3 + 1)) da be ui ul cn ss mf sd pr) u)) (va_A (cw a cI cL cD cS nf ns da be ui ul cn ss mf sd pr) sz)) 0 0 (va_A (cw a cI cL cD cS nf ns da be ui ul cn ss mf sd pr) sz) := by
  refine Met.ofW (cc := b_N_changeWarmth) (maxL := 5) (ret := (some .int)) (by decide) rfl ?_
  intro p e s m args below meth c s₁ B hml hv
  obtain ⟨rfl, hsz, hP, hD0, hE⟩ := hv
  have hx := B.exec
  have hb := B.bytes
  have hr := B.returns
  have hts := atoms_spec (ws := w_N_changeWarmth) B.pre
  have ht : ∀ w ∈ pn_W, w.before _ s = true := fun w h => hts w (List.mem_cons_of_mem _ h)
  have hown : s.vm.findClass R_N = some m.cls := findClass_of_methodNamed B.named
  have hlocks := B.notSynchronized
  have hK := hE.1
  subst hsz
  have hD := hD0.self (sz := s.heap.size)
  generalize hAe : va_A (cw a cI cL cD cS nf ns da be ui ul cn ss mf sd pr) s.heap.size = A at hD ⊢
  have hA : ∀ q : Nat, s.heap.size ≤ q → A q := fun q h => by rw [← hAe]; exact Or.inr h
  have hS : va_S A s.heap s.heap [] := va_S.rf
  have hl := lv_entry ([.ref (a 1), .int (iI (x)), .int (iI (y))]) (n := 5) (Nat.le_of_ble_eq_true rfl)
  rw [lg_entry_eq]
  generalize (lg_sl ([.ref (a 1), .int (iI (x)), .int (iI (y))]) ++ List.replicate (5 - (lg_sl ([.ref (a 1), .int (iI (x)), .int (iI (y))])).length) Slot.unset).toArray = ls at hl ⊢
  have hl : lv_has ls 5 [(0, .ref (a 1)), (1, .int (iI (x))), (2, .int (iI (y)))] := hl
  obtain ⟨o_zc, o_lc, o_fc, o_ve, o_wi, o_wa, o_vo, o_fr, o_to, o_he, o_ar, o_ki, o_st, o_ff, o_sl, o_dc, o_da⟩ := id hOk
  have hwb := m_wa_b (r := x) hy0 o_wa
  have loop2 : ∀ (n : Nat) (t : Int) (H : Heap) (locs : List Loc) (ls : Array Slot), (0 ≤ t) → (t ≤ ns 1) → ((ns 1 - t).toNat) < n → va_P D pn_cl (cw a cI cL cD cS (m_nw nf (m_wa x y (nf 1)) (m_stk nf (m_wa x y (nf 1)) t)) ns da be ui ul cn ss mf sd pr) H → va_D A (cw a cI cL cD cS (m_nw nf (m_wa x y (nf 1)) (m_stk nf (m_wa x y (nf 1)) t)) ns da be ui ul cn ss mf sd pr) → va_S A s.heap H locs → lv_has ls 5 [(0, .ref (a 1)), (3, .int (iI (nf 1 (x)))), (4, .int (iI (t)))] → W p l e (headSpec w_N_changeWarmth ({ frames := 1, cells := 0, slots := 0, locals := 21 })).room s m ([.ref (a 1), .int (iI (x)), .int (iI (y))] : List Value).toArray below meth c H locs 0 0 (MQ below (va_Qi (fun (r : Int32) (_ : Unit) => r = iI (nf 1 x)) (fun u t => va_P D pn_cl ((fun _ : Unit => cw a cI cL cD cS (m_nw nf (m_wa x y (nf 1)) (m_stk nf (m_wa x y (nf 1)) (ns 1))) (nw ns 3 (ns 3 + 1)) da be ui ul cn ss mf sd pr) u) t.heap ∧ va_D A ((fun _ : Unit => cw a cI cL cD cS (m_nw nf (m_wa x y (nf 1)) (m_stk nf (m_wa x y (nf 1)) (ns 1))) (nw ns 3 (ns 3 + 1)) da be ui ul cn ss mf sd pr) u)) A) ([.ref (a 1), .int (iI (x)), .int (iI (y))] : List Value).toArray s 0 0 A) (F0 m 45 ls []) := by
    intro n
    induction n with
    | zero => intro t H locs ls _ _ hm; exact absurd hm (Nat.not_lt_zero _)
    | succ n ih =>
      intro t H locs ls q1 q2 hm hP hD hS hl
      refine lv_iload hx hb d_N_changeWarmth_45 (lv_at hl 2 rfl) ?_
      refine lv_aload_n hx hb d_N_changeWarmth_47 rfl (lv_at hl 0 rfl) ?_
      refine va_get (D := D) (ci := 1) (v := .int (iI (ns 1))) (C := R_N) (T := T_N) (N := 17) hx hb hts (in_N _) hown hK hP 1 rfl rfl 14 (by decide) (ht _ m_85) (fun _ h9 => h9) rfl d_N_changeWarmth_48 ?_
      refine pr_icmp_ge (tgt := 66) hx hb (i3_of (by omega) (by omega)) (i3_of (by omega) (by omega)) d_N_changeWarmth_51 (by decide) (fun c_1 => ?_) (fun c_1 => ?_)
      · skip
        have e8 : t = ns 1 := by omega
        rw [e8] at hP hD
        refine lv_aload_n hx hb d_N_changeWarmth_66 rfl (lv_at hl 0 rfl) ?_
        refine lv_dup hx hb d_N_changeWarmth_67 rfl ?_
        refine va_get (D := D) (ci := 1) (v := .int (iI (ns 3))) (C := R_N) (T := T_N) (N := 17) hx hb hts (in_N _) hown hK hP 1 rfl rfl 16 (by decide) (ht _ m_89) (fun _ h9 => h9) rfl d_N_changeWarmth_68 ?_
        refine lv_iconst (v := iI (1)) hx hb d_N_changeWarmth_71 rfl ?_
        refine pr_iadd hx hb d_N_changeWarmth_72 ?_
        refine va_put (D := D) (ci := 1) (v := .int (iI ((ns 3) + (1)))) (ty := .int) (C := R_N) (T := T_N) (N := 17) hx hb hts (in_N _) ty_N ty_N_ok nm_N hown hK hP hD hS 1 rfl rfl 16 (by decide) (ht _ m_89) (fun _ h9 => h9) rfl (by decide +kernel) rfl rfl (Nat.le_of_ble_eq_true rfl) d_N_changeWarmth_73 (fun H locs hP hD hS => ?_)
        have hP : va_P D pn_cl (cw a cI cL cD cS (m_nw nf (m_wa x y (nf 1)) (m_stk nf (m_wa x y (nf 1)) (ns 1))) (nw ns 3 ((ns 3) + (1))) da be ui ul cn ss mf sd pr) H := hP
        have hD : va_D A (cw a cI cL cD cS (m_nw nf (m_wa x y (nf 1)) (m_stk nf (m_wa x y (nf 1)) (ns 1))) (nw ns 3 ((ns 3) + (1))) da be ui ul cn ss mf sd pr) := hD
        refine lv_iload_n hx hb d_N_changeWarmth_76 rfl (lv_at hl 1 rfl) ?_
        exact W.iret (v := iI (nf 1 (x))) hx hb hr (fun t ht hW => ⟨⟨iI (nf 1 (x)), (), rfl, rfl, by rw [ht]; exact hP, hD⟩, hS.F ht⟩) hS.2.2 d_N_changeWarmth_77
      · skip
        have f3 : 0 ≤ nf 3 t ∧ nf 3 t < 12 := by have := o_fr t (by omega) (by omega); omega
        have f4 : 0 ≤ nf 4 t ∧ nf 4 t < 12 := by have := o_to t (by omega) (by omega); omega
        have f5 := o_he t (by omega) (by omega)
        refine lv_aload_n hx hb d_N_changeWarmth_54 rfl (lv_at hl 0 rfl) ?_
        refine lv_iload hx hb d_N_changeWarmth_55 (lv_at hl 2 rfl) ?_
        refine pr_cv (va_runV (As := [.int (iI (t))]) (rest := []) ⟨hx, hb, hml, hown, hts⟩ (c_N_measureStack l (nf := m_nw nf (m_wa x y (nf 1)) (m_stk nf (m_wa x y (nf 1)) t)) H.size t ⟨by omega, by omega⟩ f3 f4 f5 (hwb _ f3.1 f3.2) (hwb _ f4.1 f4.2)) (cwV 1 hts (pn_gV m_361 m_363 m_3 m_34 m_364) rfl rfl rfl (by decide +kernel) ⟨Nat.le_of_ble_eq_true rfl, Nat.le_of_ble_eq_true rfl⟩) (pn_preW (q0 := 1) (ci := 1) (q := (R_N, T_N, 17)) hP hD hE rfl rfl) rfl rfl hl.1 rfl (lv_room (Nat.le_of_ble_eq_true rfl)) d_N_changeWarmth_57 ⟨Nat.le_of_ble_eq_true rfl, Nat.le_of_ble_eq_true rfl⟩) hD hS hA (fun u H locs hw hP hD hS => ?_)
        try dsimp only at hP hD
        have hP : va_P D pn_cl (cw a cI cL cD cS (nw (m_nw nf (m_wa x y (nf 1)) (m_stk nf (m_wa x y (nf 1)) t)) 8 (pu ((m_nw nf (m_wa x y (nf 1)) (m_stk nf (m_wa x y (nf 1)) t)) 8) (t) ((((m_nw nf (m_wa x y (nf 1)) (m_stk nf (m_wa x y (nf 1)) t)) 5 (t)) * (((m_nw nf (m_wa x y (nf 1)) (m_stk nf (m_wa x y (nf 1)) t)) 1 ((m_nw nf (m_wa x y (nf 1)) (m_stk nf (m_wa x y (nf 1)) t)) 3 (t))) - ((m_nw nf (m_wa x y (nf 1)) (m_stk nf (m_wa x y (nf 1)) t)) 1 ((m_nw nf (m_wa x y (nf 1)) (m_stk nf (m_wa x y (nf 1)) t)) 4 (t))))).tdiv (100)))) ns da be ui ul cn ss mf sd pr) H := hP
        have hD : va_D A (cw a cI cL cD cS (nw (m_nw nf (m_wa x y (nf 1)) (m_stk nf (m_wa x y (nf 1)) t)) 8 (pu ((m_nw nf (m_wa x y (nf 1)) (m_stk nf (m_wa x y (nf 1)) t)) 8) (t) ((((m_nw nf (m_wa x y (nf 1)) (m_stk nf (m_wa x y (nf 1)) t)) 5 (t)) * (((m_nw nf (m_wa x y (nf 1)) (m_stk nf (m_wa x y (nf 1)) t)) 1 ((m_nw nf (m_wa x y (nf 1)) (m_stk nf (m_wa x y (nf 1)) t)) 3 (t))) - ((m_nw nf (m_wa x y (nf 1)) (m_stk nf (m_wa x y (nf 1)) t)) 1 ((m_nw nf (m_wa x y (nf 1)) (m_stk nf (m_wa x y (nf 1)) t)) 4 (t))))).tdiv (100)))) ns da be ui ul cn ss mf sd pr) := hD
        have e9 : nw (m_nw nf (m_wa x y (nf 1)) (m_stk nf (m_wa x y (nf 1)) t)) 8 (pu ((m_nw nf (m_wa x y (nf 1)) (m_stk nf (m_wa x y (nf 1)) t)) 8) (t) ((((m_nw nf (m_wa x y (nf 1)) (m_stk nf (m_wa x y (nf 1)) t)) 5 (t)) * (((m_nw nf (m_wa x y (nf 1)) (m_stk nf (m_wa x y (nf 1)) t)) 1 ((m_nw nf (m_wa x y (nf 1)) (m_stk nf (m_wa x y (nf 1)) t)) 3 (t))) - ((m_nw nf (m_wa x y (nf 1)) (m_stk nf (m_wa x y (nf 1)) t)) 1 ((m_nw nf (m_wa x y (nf 1)) (m_stk nf (m_wa x y (nf 1)) t)) 4 (t))))).tdiv (100))) = m_nw nf (m_wa x y (nf 1)) (m_stk nf (m_wa x y (nf 1)) (t + 1)) := m_nw_s nf (m_wa x y (nf 1)) q1
        rw [e9] at hP hD
        clear e9
        refine lv_iinc (v := iI (t + 1)) (lv' := [(4, .int (iI (t + 1))), (0, .ref (a 1)), (3, .int (iI (nf 1 (x))))]) hx hb d_N_changeWarmth_60 hl (k := 2) rfl (iI_add _ _).symm (by decide) rfl (fun ls hl => ?_)
        refine lv_goto (tgt := 45) hx hb d_N_changeWarmth_63 (by decide) ?_
        exact ih (t + 1) _ _ ls (by omega) (by omega) (by omega) hP hD hS (lv_sub hl [1, 2, 0] rfl)
  have loop1 : ∀ (n : Nat) (t : Int) (H : Heap) (locs : List Loc) (ls : Array Slot), (0 ≤ t) → (t ≤ 4) → (x < 4 ∨ t = 0) → ((4 - t).toNat) < n → va_P D pn_cl (cw a cI cL cD cS (nw nf 1 (fl t y (pu (nf 1) x y))) ns da be ui ul cn ss mf sd pr) H → va_D A (cw a cI cL cD cS (nw nf 1 (fl t y (pu (nf 1) x y))) ns da be ui ul cn ss mf sd pr) → va_S A s.heap H locs → lv_has ls 5 [(0, .ref (a 1)), (1, .int (iI (x))), (2, .int (iI (y))), (3, .int (iI (nf 1 (x)))), (4, .int (iI (t)))] → W p l e (headSpec w_N_changeWarmth ({ frames := 1, cells := 0, slots := 0, locals := 21 })).room s m ([.ref (a 1), .int (iI (x)), .int (iI (y))] : List Value).toArray below meth c H locs 0 0 (MQ below (va_Qi (fun (r : Int32) (_ : Unit) => r = iI (nf 1 x)) (fun u t => va_P D pn_cl ((fun _ : Unit => cw a cI cL cD cS (m_nw nf (m_wa x y (nf 1)) (m_stk nf (m_wa x y (nf 1)) (ns 1))) (nw ns 3 (ns 3 + 1)) da be ui ul cn ss mf sd pr) u) t.heap ∧ va_D A ((fun _ : Unit => cw a cI cL cD cS (m_nw nf (m_wa x y (nf 1)) (m_stk nf (m_wa x y (nf 1)) (ns 1))) (nw ns 3 (ns 3 + 1)) da be ui ul cn ss mf sd pr) u)) A) ([.ref (a 1), .int (iI (x)), .int (iI (y))] : List Value).toArray s 0 0 A) (F0 m 17 ls []) := by
    intro n
    induction n with
    | zero => intro t H locs ls _ _ _ hm; exact absurd hm (Nat.not_lt_zero _)
    | succ n ih =>
      intro t H locs ls q1 q2 q3 hm hP hD hS hl
      refine lv_iload hx hb d_N_changeWarmth_17 (lv_at hl 4 rfl) ?_
      refine lv_iconst (v := iI (4)) hx hb d_N_changeWarmth_19 rfl ?_
      refine pr_icmp_ge (tgt := 42) hx hb (i3_of (by omega) (by omega)) (i3_of (by decide) (by decide)) d_N_changeWarmth_20 (by decide) (fun c_2 => ?_) (fun c_2 => ?_)
      · skip
        have e7 : t = m_wt x := by unfold m_wt; by_cases c : x < 4; rw [if_pos c]; omega; rw [if_neg c]; omega
        have e9 : nw nf 1 (fl t y (pu (nf 1) x y)) = m_nw nf (m_wa x y (nf 1)) (m_stk nf (m_wa x y (nf 1)) 0) := by rw [m_stk_0, m_nw_0, e7]; rfl
        rw [e9] at hP hD
        clear e9
        refine lv_iconst (v := iI (0)) hx hb d_N_changeWarmth_42 rfl ?_
        refine lv_istore (lv' := [(4, .int (iI (0))), (0, .ref (a 1)), (1, .int (iI (x))), (2, .int (iI (y))), (3, .int (iI (nf 1 (x))))]) hx hb d_N_changeWarmth_43 hl (by decide) rfl (fun ls hl => ?_)
        exact loop2 _ (0) _ _ ls (by omega) (by omega) (Nat.lt_succ_self _) hP hD hS (lv_sub hl [1, 4, 0] rfl)
      · skip
        refine lv_iload_n hx hb d_N_changeWarmth_23 rfl (lv_at hl 1 rfl) ?_
        refine lv_iconst (v := iI (4)) hx hb d_N_changeWarmth_24 rfl ?_
        refine pr_icmp_ge (tgt := 42) hx hb (i3_of (by omega) (by omega)) (i3_of (by decide) (by decide)) d_N_changeWarmth_25 (by decide) (fun c_3 => ?_) (fun c_3 => ?_)
        · skip
          have e7 : t = m_wt x := by unfold m_wt; by_cases c : x < 4; rw [if_pos c]; omega; rw [if_neg c]; omega
          have e9 : nw nf 1 (fl t y (pu (nf 1) x y)) = m_nw nf (m_wa x y (nf 1)) (m_stk nf (m_wa x y (nf 1)) 0) := by rw [m_stk_0, m_nw_0, e7]; rfl
          rw [e9] at hP hD
          clear e9
          refine lv_iconst (v := iI (0)) hx hb d_N_changeWarmth_42 rfl ?_
          refine lv_istore (lv' := [(4, .int (iI (0))), (0, .ref (a 1)), (1, .int (iI (x))), (2, .int (iI (y))), (3, .int (iI (nf 1 (x))))]) hx hb d_N_changeWarmth_43 hl (by decide) rfl (fun ls hl => ?_)
          exact loop2 _ (0) _ _ ls (by omega) (by omega) (Nat.lt_succ_self _) hP hD hS (lv_sub hl [1, 4, 0] rfl)
        · skip
          refine lv_aload_n hx hb d_N_changeWarmth_28 rfl (lv_at hl 0 rfl) ?_
          refine va_get (D := D) (ci := 1) (v := .ref (a 3)) (C := R_N) (T := T_N) (N := 17) hx hb hts (in_N _) hown hK hP 1 rfl rfl 1 (by decide) (ht _ m_66) (fun _ h9 => h9) rfl d_N_changeWarmth_29 ?_
          refine lv_iload hx hb d_N_changeWarmth_32 (lv_at hl 4 rfl) ?_
          refine lv_iload_n hx hb d_N_changeWarmth_34 rfl (lv_at hl 2 rfl) ?_
          refine pr_iast (ws' := cw a cI cL cD cS (nw (nw nf 1 (fl t y (pu (nf 1) x y))) 1 (pu ((nw nf 1 (fl t y (pu (nf 1) x y))) 1) (t) (y))) ns da be ui ul cn ss mf sd pr) hx hb hK hP hD hS 3 0 rfl rfl (by decide) (by omega) (by omega) rfl d_N_changeWarmth_35 (fun H locs hP hD hS => ?_)
          have e9 : nw (nw nf 1 (fl t y (pu (nf 1) x y))) 1 (pu ((nw nf 1 (fl t y (pu (nf 1) x y))) 1) (t) (y)) = nw nf 1 (fl (t + 1) y (pu (nf 1) x y)) := by rw [nw_nw, nw_s, fl_s q1]
          rw [e9] at hP hD
          clear e9
          refine lv_iinc (v := iI (t + 1)) (lv' := [(4, .int (iI (t + 1))), (0, .ref (a 1)), (1, .int (iI (x))), (2, .int (iI (y))), (3, .int (iI (nf 1 (x))))]) hx hb d_N_changeWarmth_36 hl (k := 4) rfl (iI_add _ _).symm (by decide) rfl (fun ls hl => ?_)
          refine lv_goto (tgt := 17) hx hb d_N_changeWarmth_39 (by decide) ?_
          exact ih (t + 1) _ _ ls (by omega) (by omega) (by omega) (by omega) hP hD hS (lv_sub hl [1, 2, 3, 4, 0] rfl)
  refine lv_aload_n hx hb d_N_changeWarmth_0 rfl (lv_at hl 0 rfl) ?_
  refine va_get (D := D) (ci := 1) (v := .ref (a 3)) (C := R_N) (T := T_N) (N := 17) hx hb hts (in_N _) hown hK hP 1 rfl rfl 1 (by decide) (ht _ m_66) (fun _ h9 => h9) rfl d_N_changeWarmth_1 ?_
  refine lv_iload_n hx hb d_N_changeWarmth_4 rfl (lv_at hl 1 rfl) ?_
  refine pr_iald hx hb hK hP 3 0 rfl rfl (by decide) (by omega) (by omega) d_N_changeWarmth_5 ?_
  refine lv_istore_n (lv' := [(3, .int (iI (nf 1 (x)))), (0, .ref (a 1)), (1, .int (iI (x))), (2, .int (iI (y)))]) hx hb d_N_changeWarmth_6 rfl hl (by decide) rfl (fun ls hl => ?_)
  refine lv_aload_n hx hb d_N_changeWarmth_7 rfl (lv_at hl 1 rfl) ?_
  refine va_get (D := D) (ci := 1) (v := .ref (a 3)) (C := R_N) (T := T_N) (N := 17) hx hb hts (in_N _) hown hK hP 1 rfl rfl 1 (by decide) (ht _ m_66) (fun _ h9 => h9) rfl d_N_changeWarmth_8 ?_
  refine lv_iload_n hx hb d_N_changeWarmth_11 rfl (lv_at hl 2 rfl) ?_
  refine lv_iload_n hx hb d_N_changeWarmth_12 rfl (lv_at hl 3 rfl) ?_
  refine pr_iast (ws' := cw a cI cL cD cS (nw nf 1 (pu (nf 1) (x) (y))) ns da be ui ul cn ss mf sd pr) hx hb hK hP hD hS 3 0 rfl rfl (by decide) (by omega) (by omega) rfl d_N_changeWarmth_13 (fun H locs hP hD hS => ?_)
  refine lv_iconst (v := iI (0)) hx hb d_N_changeWarmth_14 rfl ?_
  refine lv_istore (lv' := [(4, .int (iI (0))), (3, .int (iI (nf 1 (x)))), (0, .ref (a 1)), (1, .int (iI (x))), (2, .int (iI (y)))]) hx hb d_N_changeWarmth_15 hl (by decide) rfl (fun ls hl => ?_)
  have e9 : nw nf 1 (pu (nf 1) (x) (y)) = nw nf 1 (fl 0 y (pu (nf 1) x y)) := by rw [fl_0]
  rw [e9] at hP hD
  clear e9
  exact loop1 _ (0) _ _ ls (by omega) (by omega) (by omega) (Nat.lt_succ_self _) hP hD hS (lv_sub hl [2, 3, 4, 1, 0] rfl)
abbrev w_P_warmth : List Cond := .code y_P_warmth b_P_warmth 3 (some .int) :: pn_W
set_option maxHeartbeats 4000000 in
set_option maxRecDepth 100000 in
theorem c_P_warmth (l : Launch) (hst : l.stackTraces = false) {D : va_G} {a : Nat → Nat} {cI cL cD cS : ClassId} {nf : Nat → Int → Int} {ns : Nat → Int} {da : Int → Int → Int} {be : Int → Int} {ui ul : Nat → Int → Int} {cn : Int} {ss : Nat → Nat} {mf sd : Nat → Int} {pr : Nat → Int → Int} (sz : Nat) (x y : Int) (hOk : pn_Ok nf ns da) (gx : i3 x) (gy : i3 y) : vx_Met l y_P_warmth w_P_warmth ({ frames := 7, cells := 1, slots := 6, locals := 110 }) (va_Pc [.ref (a 0), .int (iI (x)), .int (iI (y))] (fun U => U.heap.size = sz ∧ va_P D pn_cl (cw a cI cL cD cS nf ns da be ui ul cn ss mf sd pr) U.heap ∧ va_D (fun _ => True) (cw a cI cL cD cS nf ns da be ui ul cn ss mf sd pr) ∧ pn_E D cI cL cD cS U ∧ pn_X (va_A (cw a cI cL cD cS nf ns da be ui ul cn ss mf sd pr) sz) U)) (va_Qi (fun (r : Int32) (_ : Unit) => ((-4 ≤ x ∧ x ≤ ns 0 - 1) ∧ (-1000 ≤ y ∧ y ≤ 1000)) ∧ r = iI (nf 1 ((x) + 4))) (fun u t => va_P D pn_cl ((fun _ : Unit => cw a cI cL cD cS (m_nw nf (m_wa ((x) + 4) (y) (nf 1)) (m_stk nf (m_wa ((x) + 4) (y) (nf 1)) (ns 1))) (nw ns 3 (ns 3 + 1)) da be ui ul cn ss mf sd pr) u) t.heap ∧ va_D (va_A (cw a cI cL cD cS nf ns da be ui ul cn ss mf sd pr) sz) ((fun _ : Unit => cw a cI cL cD cS (m_nw nf (m_wa ((x) + 4) (y) (nf 1)) (m_stk nf (m_wa ((x) + 4) (y) (nf 1)) (ns 1))) (nw ns 3 (ns 3 + 1)) da be ui ul cn ss mf sd pr) u)) (va_A (cw a cI cL cD cS nf ns da be ui ul cn ss mf sd pr) sz)) (vx_X (fun _ : Unit => True) (fun E _ t => (E = "java/lang/IllegalArgumentException" ∧ ¬ ((-4 ≤ x ∧ x ≤ ns 0 - 1) ∧ (-1000 ≤ y ∧ y ≤ 1000))) ∧ va_P D pn_cl (cw a cI cL cD cS nf ns da be ui ul cn ss mf sd pr) t.heap) (va_A (cw a cI cL cD cS nf ns da be ui ul cn ss mf sd pr) sz)) 1 6 (va_A (cw a cI cL cD cS nf ns da be ui ul cn ss mf sd pr) sz) := by
  refine vx_ofW (cc := b_P_warmth) (maxL := 3) (ret := (some .int)) (by decide) rfl ?_
  intro p e s m args below meth c s₁ B hml htab hv
  obtain ⟨rfl, hsz, hP, hD0, hE, hX⟩ := hv
  have hx := B.exec
  have hb := B.bytes
  have hr := B.returns
  have hts := atoms_spec (ws := w_P_warmth) B.pre
  have ht : ∀ w ∈ pn_W, w.before _ s = true := fun w h => hts w (List.mem_cons_of_mem _ h)
  have hown : s.vm.findClass R_P = some m.cls := findClass_of_methodNamed B.named
  have hlocks := B.notSynchronized
  have hK := hE.1
  subst hsz
  have hD := hD0.self (sz := s.heap.size)
  generalize hAe : va_A (cw a cI cL cD cS nf ns da be ui ul cn ss mf sd pr) s.heap.size = A at hD hX ⊢
  have hA : ∀ q : Nat, s.heap.size ≤ q → A q := fun q h => by rw [← hAe]; exact Or.inr h
  have hS : va_S A s.heap s.heap [] := va_S.rf
  have hl := lv_entry ([.ref (a 0), .int (iI (x)), .int (iI (y))]) (n := 3) (Nat.le_of_ble_eq_true rfl)
  rw [lg_entry_eq]
  generalize (lg_sl ([.ref (a 0), .int (iI (x)), .int (iI (y))]) ++ List.replicate (3 - (lg_sl ([.ref (a 0), .int (iI (x)), .int (iI (y))])).length) Slot.unset).toArray = ls at hl ⊢
  have hl : lv_has ls 3 [(0, .ref (a 0)), (1, .int (iI (x))), (2, .int (iI (y)))] := hl
  obtain ⟨o_zc, o_lc, o_fc, o_ve, o_wi, o_wa, o_vo, o_fr, o_to, o_he, o_ar, o_ki, o_st, o_ff, o_sl, o_dc, o_da⟩ := id hOk
  obtain ⟨gx1, gx2⟩ := gx
  obtain ⟨gy1, gy2⟩ := gy
  refine lv_aload_n hx hb d_P_warmth_0 rfl (lv_at hl 0 rfl) ?_
  refine lv_iload_n hx hb d_P_warmth_1 rfl (lv_at hl 1 rfl) ?_
  refine pr_pi (va_runV (As := [.int (iI (x))]) (rest := []) ⟨hx, hb, hml, hown, hts⟩ (c_P_isPlace l (x) hOk (i3_of (by omega) (by omega))) (cwV 1 hts (pn_gV m_349 m_351 m_1 m_33 m_352) rfl rfl rfl (by decide +kernel) ⟨Nat.le_of_ble_eq_true rfl, Nat.le_of_ble_eq_true rfl⟩) (pn_preV (q0 := 0) (ci := 0) (q := (R_P, T_P, 6)) hP hE rfl rfl) rfl rfl hl.1 rfl (lv_room (Nat.le_of_ble_eq_true rfl)) d_P_warmth_2 ⟨Nat.le_of_ble_eq_true rfl, Nat.le_of_ble_eq_true rfl⟩) ?_
  refine pr_if_eq (tgt := 19) hx hb (i3_b2 _) d_P_warmth_5 (by decide) (fun c_1 => ?_) (fun c_1 => ?_)
  · replace c_1 := b2_0 c_1
    refine lv_iconst (v := iI (0)) hx hb d_P_warmth_19 rfl ?_
    exact px_throw (cls := "java/lang/IllegalArgumentException") (vx_runS (As := [.int (iI 0)]) (rest := []) ⟨hx, hb, hml, hown, hts⟩ (x_P_demandLegal l hst s.heap.size) (cwS 1 hts (pn_gS m_231 m_232 m_33 m_233) rfl rfl rfl (by decide +kernel) ⟨Nat.le_of_ble_eq_true rfl, Nat.le_of_ble_eq_true rfl⟩) (pn_preX hX hS hA) rfl rfl hl.1 rfl (lv_room (Nat.le_of_ble_eq_true rfl)) d_P_warmth_20 ⟨Nat.le_of_ble_eq_true rfl, Nat.le_of_ble_eq_true rfl⟩) hS hA (fun x hx9 => (htab x hx9).elim) hlocks (by decide) (by decide) (fun q h => h) (fun t H1 locs1 hh hk hS1 => ⟨(), trivial, ⟨⟨rfl, by omega⟩, by rw [hh]; exact hP.kept (fun k9 q9 h9 => hk q9.1 ((hP k9 q9 h9).lt))⟩, hS1.F hh⟩)
  · replace c_1 := b2_n1 c_1
    refine lv_iload_n hx hb d_P_warmth_8 rfl (lv_at hl 2 rfl) ?_
    refine pr_pi (va_runS (As := [.int (iI (y))]) (rest := []) ⟨hx, hb, hml, hown, hts⟩ (c_P_isWarmth l (y) (i3_of (by omega) (by omega))) (cwS 1 hts (pn_gS m_224 m_225 m_33 m_226) rfl rfl rfl (by decide +kernel) ⟨Nat.le_of_ble_eq_true rfl, Nat.le_of_ble_eq_true rfl⟩) pn_pre0 rfl rfl hl.1 rfl (lv_room (Nat.le_of_ble_eq_true rfl)) d_P_warmth_9 ⟨Nat.le_of_ble_eq_true rfl, Nat.le_of_ble_eq_true rfl⟩) ?_
    refine pr_if_eq (tgt := 19) hx hb (i3_b2 _) d_P_warmth_12 (by decide) (fun c_2 => ?_) (fun c_2 => ?_)
    · replace c_2 := b2_0 c_2
      refine lv_iconst (v := iI (0)) hx hb d_P_warmth_19 rfl ?_
      exact px_throw (cls := "java/lang/IllegalArgumentException") (vx_runS (As := [.int (iI 0)]) (rest := []) ⟨hx, hb, hml, hown, hts⟩ (x_P_demandLegal l hst s.heap.size) (cwS 1 hts (pn_gS m_231 m_232 m_33 m_233) rfl rfl rfl (by decide +kernel) ⟨Nat.le_of_ble_eq_true rfl, Nat.le_of_ble_eq_true rfl⟩) (pn_preX hX hS hA) rfl rfl hl.1 rfl (lv_room (Nat.le_of_ble_eq_true rfl)) d_P_warmth_20 ⟨Nat.le_of_ble_eq_true rfl, Nat.le_of_ble_eq_true rfl⟩) hS hA (fun x hx9 => (htab x hx9).elim) hlocks (by decide) (by decide) (fun q h => h) (fun t H1 locs1 hh hk hS1 => ⟨(), trivial, ⟨⟨rfl, by omega⟩, by rw [hh]; exact hP.kept (fun k9 q9 h9 => hk q9.1 ((hP k9 q9 h9).lt))⟩, hS1.F hh⟩)
    · replace c_2 := b2_n1 c_2
      refine lv_iconst (v := iI (1)) hx hb d_P_warmth_15 rfl ?_
      refine lv_goto (tgt := 20) hx hb d_P_warmth_16 (by decide) ?_
      refine pr_pv (va_runS (As := [.int (iI 1)]) (rest := []) ⟨hx, hb, hml, hown, hts⟩ (c_P_demandLegal l) (cwS 1 hts (pn_gS m_231 m_232 m_33 m_233) rfl rfl rfl (by decide +kernel) ⟨Nat.le_of_ble_eq_true rfl, Nat.le_of_ble_eq_true rfl⟩) pn_pre0 rfl rfl hl.1 rfl (lv_room (Nat.le_of_ble_eq_true rfl)) d_P_warmth_20 ⟨Nat.le_of_ble_eq_true rfl, Nat.le_of_ble_eq_true rfl⟩) ?_
      refine lv_aload_n hx hb d_P_warmth_23 rfl (lv_at hl 0 rfl) ?_
      refine va_get (D := D) (ci := 0) (v := .ref (a 1)) (C := R_P) (T := T_P) (N := 6) hx hb hts (in_P _) hown hK hP 0 rfl rfl 0 (by decide) (ht _ m_196) (fun _ h9 => h9) rfl d_P_warmth_24 ?_
      refine lv_iload_n hx hb d_P_warmth_27 rfl (lv_at hl 1 rfl) ?_
      refine pr_pi (va_runS (As := [.int (iI (x))]) (rest := [.ref (a 1)]) ⟨hx, hb, hml, hown, hts⟩ (c_P_rowOf l (x)) (cwS 1 hts (pn_gS m_337 m_325 m_33 m_326) rfl rfl rfl (by decide +kernel) ⟨Nat.le_of_ble_eq_true rfl, Nat.le_of_ble_eq_true rfl⟩) pn_pre0 rfl rfl hl.1 rfl (lv_room (Nat.le_of_ble_eq_true rfl)) d_P_warmth_28 ⟨Nat.le_of_ble_eq_true rfl, Nat.le_of_ble_eq_true rfl⟩) ?_
      refine lv_iload_n hx hb d_P_warmth_31 rfl (lv_at hl 2 rfl) ?_
      refine pr_ci (va_runV (As := [.int (iI ((x) + 4)), .int (iI (y))]) (rest := []) ⟨hx, hb, hml, hown, hts⟩ (c_N_changeWarmth l s.heap.size ((x) + 4) (y) hOk ⟨by omega, by omega⟩ ⟨by omega, by omega⟩) (cwV 2 hts (pn_gV m_357 m_358 m_359 m_34 m_360) rfl rfl rfl (by decide +kernel) ⟨Nat.le_of_ble_eq_true rfl, Nat.le_of_ble_eq_true rfl⟩) (pn_preW (q0 := 1) (ci := 1) (q := (R_N, T_N, 17)) hP hD hE rfl rfl) rfl rfl hl.1 rfl (lv_room (Nat.le_of_ble_eq_true rfl)) d_P_warmth_32 ⟨Nat.le_of_ble_eq_true rfl, Nat.le_of_ble_eq_true rfl⟩) hD hS hA (fun r u H locs hw hP hD hS => ?_)
      subst hw
      try dsimp only at hP hD
      have hP : va_P D pn_cl (cw a cI cL cD cS (m_nw nf (m_wa ((x) + 4) (y) (nf 1)) (m_stk nf (m_wa ((x) + 4) (y) (nf 1)) (ns 1))) (nw ns 3 (ns 3 + 1)) da be ui ul cn ss mf sd pr) H := hP
      have hD : va_D A (cw a cI cL cD cS (m_nw nf (m_wa ((x) + 4) (y) (nf 1)) (m_stk nf (m_wa ((x) + 4) (y) (nf 1)) (ns 1))) (nw ns 3 (ns 3 + 1)) da be ui ul cn ss mf sd pr) := hD
      refine vx_ret ?_
      refine W.widen (k := 1) (n := 6) (by decide) (by decide) ?_
      exact W.iret (v := iI (nf 1 ((x) + 4))) hx hb hr (fun t ht hW => ⟨⟨iI (nf 1 ((x) + 4)), (), rfl, ⟨by omega, rfl⟩, by rw [ht]; exact hP, hD⟩, hS.F ht⟩) hS.2.2 d_P_warmth_35
