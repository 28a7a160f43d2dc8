/-! the reference's making of a state -/
theorem mk_r0 {n : Int} {wd : Int → Int} {G : (Int → Int) → Int → Int} (hM : pn_Mono n G) {P : Int → Int} (hB : pn_Be n wd G P) {z : Int} (hz : pn_zone n z) (hg : 0 < G (pn_up P z 5000) z) : ¬ ∃ Q, pn_St n wd G Q := by
  rintro ⟨Q, hQ⟩
  have B := (pn_raise hM hB hz hg).2 Q hQ z hz
  rw [pn_up_s] at B
  have := (hQ.2 z hz).2.1
  omega
theorem mk_r1 {n : Int} {wd : Int → Int} {G : (Int → Int) → Int → Int} (hM : pn_Mono n G) {P : Int → Int} (hB : pn_Be n wd G P) {z v : Int} (hz : pn_zone n z) (hg : 0 < G P z) (h1 : P z ≤ v) (h2 : G (pn_up P z v) z ≤ 0) (h3 : v = P z ∨ 0 < G (pn_up P z (v - 1)) z) : pn_Be n wd G (pn_up P z v) ∧ P z < v := by
  have hne : v ≠ P z := fun e => by rw [e, pn_up_id] at h2; omega
  rcases h3 with h3 | h3
  · exact absurd h3 hne
  · have B := pn_raise hM hB hz h3
    rw [show v - 1 + 1 = v by omega] at B
    exact ⟨B, by omega⟩
theorem mk_st {n : Int} {wd : Int → Int} {G : (Int → Int) → Int → Int} {mi : Nat → Int → Int} {f : Int → Int} (hn : n ≤ 8) (hB : pn_Be n wd G (mP (nw mi 14 f))) (h5 : m_s5 f) (hq : ∀ z, 0 ≤ z → z < n → G (mP (nw mi 14 f)) (z + 4) ≤ 0) : pn_St n wd G (mP (nw mi 14 f)) := by
  refine ⟨hB.1, fun z hz => ?_⟩
  obtain ⟨a, b⟩ := hz
  have e := mP_at mi f (x := z - 4) (by omega)
  have q := h5 (z - 4) (by omega) (by omega)
  have g := hq (z - 4) (by omega) (by omega)
  rw [show z - 4 + 4 = z by omega] at e g
  rw [e]
  exact ⟨q.1, q.2, g⟩
theorem mk_beg {nf : Nat → Int → Int} {ns : Nat → Int} {da : Int → Int → Int} {mi : Nat → Int → Int} {ms : Nat → Int} {G : (Int → Int) → Int → Int} (hOk : pn_Ok nf ns da) (hR : mn_R nf ns mi ms) : pn_Be (ns 0) (nf 0) G (mP (nw mi 14 (fl 8 (-5000) (mi 14)))) := by
  obtain ⟨o_zc, -⟩ := hOk
  obtain ⟨r_zo, r_le, r_fa, r_wi, -⟩ := hR
  refine ⟨fun w a b => ?_, fun Q hQ z hz => ?_⟩
  · unfold mP
    rw [if_pos b]
    exact r_wi w a b
  · have q := (hQ.2 z hz).1
    obtain ⟨a, b⟩ := hz
    have e := mP_at mi (fl 8 (-5000) (mi 14)) (x := z - 4) (by omega)
    rw [show z - 4 + 4 = z by omega] at e
    rw [e]
    unfold fl
    rw [if_pos (by omega)]
    exact q
theorem mk_s5 (f : Int → Int) : m_s5 (fl 8 (-5000) f) := by
  intro j a b
  unfold fl
  rw [if_pos ⟨a, b⟩]
  decide
theorem mk_s8 (P : Int → Int) {z v : Int} (h1 : 4 ≤ z) (h2 : z < 12) (h : P z < v) : m_s8 P < m_s8 (pn_up P z v) :=
  m_s8_lt (fun w => by
    by_cases e : w = z
    · rw [e, pn_up_s]; omega
    · rw [pn_up_n P v e]; exact Int.le_refl _) h1 h2 (by rw [pn_up_s]; exact h)

abbrev w_M_make : List Cond := .code y_M_make b_M_make 4 (some .boolean) :: pn_W
set_option maxHeartbeats 4000000 in
set_option maxRecDepth 100000 in
theorem c_M_make (l : Launch) {D : va_G} {b : Nat → Nat} {cI cL cZ : ClassId} {mi ml : Nat → Int → Int} {mz : Int → Int} {ms : Nat → Int} (sz : Nat) (nf : Nat → Int → Int) (ns : Nat → Int) (da : Int → Int → Int) (S : Nat)  (hOk : pn_Ok nf ns da) (hR : mn_R nf ns mi ms) (hSb : S < 2 ^ 20) (hSm : pn_Sm nf ns da) (hM : pn_Mono (ns 0) (m_G nf da S)) : Met l y_M_make w_M_make ({ frames := 5, cells := 0, slots := 0, locals := 118 }) (va_Pc [.ref (b 0), .int (iI (((S : Nat) : Int)))] (fun U => U.heap.size = sz ∧ va_P D pn_cl (mw b cI cL cZ mi ml mz ms) U.heap ∧ va_D (fun _ => True) (mw b cI cL cZ mi ml mz ms) ∧ mn_E D cI cL cZ U)) (va_Qi (fun (r : Int32) (u : (Int → Int) × Int) => r = iI u.2 ∧ m_s5 u.1 ∧ pn_Le (ns 0) (nf 0) (m_G nf da S) u.2 (mP (nw mi 14 u.1))) (fun u t => va_P D pn_cl ((fun u : (Int → Int) × Int => mw b cI cL cZ (nw mi 14 u.1) ml mz (nw ms 6 ((S : Nat) : Int))) u) t.heap ∧ va_D (va_A (mw b cI cL cZ mi ml mz ms) sz) ((fun u : (Int → Int) × Int => mw b cI cL cZ (nw mi 14 u.1) ml mz (nw ms 6 ((S : Nat) : Int))) u)) (va_A (mw b cI cL cZ mi ml mz ms) sz)) 0 0 (va_A (mw b cI cL cZ mi ml mz ms) sz) := by
  refine Met.ofW (cc := b_M_make) (maxL := 4) (ret := (some .boolean)) (by decide) rfl ?_
  intro p e s m args below meth c s₁ B hml hv
  obtain ⟨rfl, hsz, hP, hD0, hE⟩ := hv
  have hx := B.exec
  have hb := B.bytes
  have hr := B.returns
  have hts := atoms_spec (ws := w_M_make) B.pre
  have ht : ∀ w ∈ pn_W, w.before _ s = true := fun w h => hts w (List.mem_cons_of_mem _ h)
  have hown : s.vm.findClass R_M = some m.cls := findClass_of_methodNamed B.named
  have hlocks := B.notSynchronized
  have hK := hE
  subst hsz
  have hD := hD0.self (sz := s.heap.size)
  generalize hAe : va_A (mw b cI cL cZ mi ml mz ms) s.heap.size = A at hD ⊢
  have hA : ∀ q : Nat, s.heap.size ≤ q → A q := fun q h => by rw [← hAe]; exact Or.inr h
  have hS : va_S A s.heap s.heap [] := va_S.rf
  have hl := lv_entry ([.ref (b 0), .int (iI (((S : Nat) : Int)))]) (n := 4) (Nat.le_of_ble_eq_true rfl)
  rw [lg_entry_eq]
  generalize (lg_sl ([.ref (b 0), .int (iI (((S : Nat) : Int)))]) ++ List.replicate (4 - (lg_sl ([.ref (b 0), .int (iI (((S : Nat) : Int)))])).length) Slot.unset).toArray = ls at hl ⊢
  have hl : lv_has ls 4 [(0, .ref (b 0)), (1, .int (iI (((S : Nat) : Int))))] := hl
  obtain ⟨o_zc, o_lc, o_fc, o_ve, o_wi, o_wa, o_vo, o_fr, o_to, o_he, o_ar, o_ki, o_st, o_ff, o_sl, o_dc, o_da⟩ := id hOk
  obtain ⟨r_zo, r_le, r_fa, r_wi, r_ai, r_wa, r_vo, r_lk, r_fn⟩ := id hR
  have outer : ∀ (n : Nat) (f : Int → Int) (mo : Int) (H : Heap) (locs : List Loc) (ls : Array Slot), (pn_Be (ns 0) (nf 0) (m_G nf da S) (mP (nw mi 14 (f)))) → (m_s5 f) → (mo = 0 ∨ mo = 1) → (mo = 0 → ∀ z, 0 ≤ z → z < ns 0 → (m_G nf da S) (mP (nw mi 14 (f))) (z + 4) ≤ 0) → ((2 * (40000 - m_s8 (mP (nw mi 14 (f))))).toNat + (mo).toNat) < n → va_P D pn_cl (mw b cI cL cZ (nw mi 14 f) ml mz (nw ms 6 (((S : Nat) : Int)))) H → va_D A (mw b cI cL cZ (nw mi 14 f) ml mz (nw ms 6 (((S : Nat) : Int)))) → va_S A s.heap H locs → lv_has ls 4 [(0, .ref (b 0)), (1, .int (iI (((S : Nat) : Int)))), (2, .int (iI (mo)))] → W p l e (headSpec w_M_make ({ frames := 5, cells := 0, slots := 0, locals := 118 })).room s m ([.ref (b 0), .int (iI (((S : Nat) : Int)))] : List Value).toArray below meth c H locs 0 0 (MQ below (va_Qi (fun (r : Int32) (u : (Int → Int) × Int) => r = iI u.2 ∧ m_s5 u.1 ∧ pn_Le (ns 0) (nf 0) (m_G nf da S) u.2 (mP (nw mi 14 u.1))) (fun u t => va_P D pn_cl ((fun u : (Int → Int) × Int => mw b cI cL cZ (nw mi 14 u.1) ml mz (nw ms 6 ((S : Nat) : Int))) u) t.heap ∧ va_D A ((fun u : (Int → Int) × Int => mw b cI cL cZ (nw mi 14 u.1) ml mz (nw ms 6 ((S : Nat) : Int))) u)) A) ([.ref (b 0), .int (iI (((S : Nat) : Int)))] : List Value).toArray s 0 0 A) (F0 m 30 ls []) := by
    intro n
    induction n with
    | zero => intro f mo H locs ls _ _ _ _ hm; exact absurd hm (Nat.not_lt_zero _)
    | succ n ih =>
      intro f mo H locs ls q1 q2 q3 q4 hm hP hD hS hl
      refine lv_iload_n hx hb d_M_make_30 rfl (lv_at hl 2 rfl) ?_
      refine pr_if_eq (tgt := 77) hx hb (i3_of (by omega) (by omega)) d_M_make_31 (by decide) (fun c_1 => ?_) (fun c_1 => ?_)
      · skip
        refine lv_iconst (v := iI (1)) hx hb d_M_make_77 rfl ?_
        exact W.zret (v := iI (1)) hx hb hr (by decide) (fun t ht hW => ⟨⟨iI (1), (f, 1), rfl, ⟨rfl, q2, Or.inl ⟨rfl, mk_st o_zc.2 q1 q2 (q4 (by omega)), q1⟩⟩, by rw [ht]; exact hP, hD⟩, hS.F ht⟩) hS.2.2 d_M_make_78
      · skip
        refine lv_iconst (v := iI (0)) hx hb d_M_make_34 rfl ?_
        refine lv_istore_n (lv' := [(2, .int (iI (0))), (0, .ref (b 0)), (1, .int (iI (((S : Nat) : Int))))]) hx hb d_M_make_35 rfl hl (by decide) rfl (fun ls hl => ?_)
        refine lv_iconst (v := iI (0)) hx hb d_M_make_36 rfl ?_
        refine lv_istore_n (lv' := [(3, .int (iI (0))), (2, .int (iI (0))), (0, .ref (b 0)), (1, .int (iI (((S : Nat) : Int))))]) hx hb d_M_make_37 rfl hl (by decide) rfl (fun ls hl => ?_)
        have ihm := ih
        clear ih
        have s8f := m_s8_5 (nf := nf) (mi := mi) q2
        have inner : ∀ (n : Nat) (g : Int → Int) (mo2 : Int) (z : Int) (H : Heap) (locs : List Loc) (ls : Array Slot), (pn_Be (ns 0) (nf 0) (m_G nf da S) (mP (nw mi 14 (g)))) → (m_s5 g) → ((mo2 = 0 ∧ g = f ∧ ∀ y, 0 ≤ y → y < z → (m_G nf da S) (mP (nw mi 14 (g))) (y + 4) ≤ 0) ∨ (mo2 = 1 ∧ m_s8 (mP (nw mi 14 (f))) < m_s8 (mP (nw mi 14 (g))))) → (0 ≤ z) → (z ≤ ns 0) → ((ns 0 - z).toNat) < n → va_P D pn_cl (mw b cI cL cZ (nw mi 14 g) ml mz (nw ms 6 (((S : Nat) : Int)))) H → va_D A (mw b cI cL cZ (nw mi 14 g) ml mz (nw ms 6 (((S : Nat) : Int)))) → va_S A s.heap H locs → lv_has ls 4 [(0, .ref (b 0)), (1, .int (iI (((S : Nat) : Int)))), (2, .int (iI (mo2))), (3, .int (iI (z)))] → W p l e (headSpec w_M_make ({ frames := 5, cells := 0, slots := 0, locals := 118 })).room s m ([.ref (b 0), .int (iI (((S : Nat) : Int)))] : List Value).toArray below meth c H locs 0 0 (MQ below (va_Qi (fun (r : Int32) (u : (Int → Int) × Int) => r = iI u.2 ∧ m_s5 u.1 ∧ pn_Le (ns 0) (nf 0) (m_G nf da S) u.2 (mP (nw mi 14 u.1))) (fun u t => va_P D pn_cl ((fun u : (Int → Int) × Int => mw b cI cL cZ (nw mi 14 u.1) ml mz (nw ms 6 ((S : Nat) : Int))) u) t.heap ∧ va_D A ((fun u : (Int → Int) × Int => mw b cI cL cZ (nw mi 14 u.1) ml mz (nw ms 6 ((S : Nat) : Int))) u)) A) ([.ref (b 0), .int (iI (((S : Nat) : Int)))] : List Value).toArray s 0 0 A) (F0 m 38 ls []) := by
          intro n
          induction n with
          | zero => intro g mo2 z H locs ls _ _ _ _ _ hm; exact absurd hm (Nat.not_lt_zero _)
          | succ n ih =>
            intro g mo2 z H locs ls e1 e2 e3 e4 e5 hm hP hD hS hl
            refine lv_iload_n hx hb d_M_make_38 rfl (lv_at hl 3 rfl) ?_
            refine lv_aload_n hx hb d_M_make_39 rfl (lv_at hl 0 rfl) ?_
            refine va_get (D := D) (ci := 5) (v := .int (iI (ms 2))) (C := R_M) (T := T_M) (N := 27) hx hb hts (in_M _) hown hK hP 0 rfl rfl 3 (by decide) (ht _ m_593) (fun _ h9 => h9) rfl d_M_make_40 ?_
            refine pr_icmp_ge (tgt := 74) hx hb (i3_of (by omega) (by omega)) (i3_of (by omega) (by omega)) d_M_make_43 (by decide) (fun c_2 => ?_) (fun c_2 => ?_)
            · skip
              refine lv_goto (tgt := 30) hx hb d_M_make_74 (by decide) ?_
              have s8g := m_s8_5 (nf := nf) (mi := mi) e2
              exact ihm (g) (mo2) _ _ ls e1 e2 (by rcases e3 with ⟨a9, -⟩ | ⟨a9, -⟩; exact Or.inl a9; exact Or.inr a9) (fun h9 => by rcases e3 with ⟨a9, b9, c9⟩ | ⟨a9, b9⟩; exact (fun y y0 y1 => c9 y y0 (by omega)); exact absurd h9 (by omega)) (by rcases e3 with ⟨a9, b9, c9⟩ | ⟨a9, b9⟩; rw [b9]; omega; omega) hP hD hS (lv_sub hl [0, 1, 2] rfl)
            · skip
              refine lv_aload_n hx hb d_M_make_46 rfl (lv_at hl 0 rfl) ?_
              refine lv_iload_n hx hb d_M_make_47 rfl (lv_at hl 3 rfl) ?_
              refine pr_pl (va_runV (As := [.int (iI (z))]) (rest := []) ⟨hx, hb, hml, hown, hts⟩ (c_M_gainOf l nf ns da (mi := nw mi 14 g) (ms := nw ms 6 (((S : Nat) : Int))) S (z) hOk hR rfl hSb (mP_pr hOk hR e2) hSm ⟨by omega, by omega⟩) (cwV 1 hts (pn_gV m_739 m_741 m_22 m_38 m_742) rfl rfl rfl (by decide +kernel) ⟨Nat.le_of_ble_eq_true rfl, Nat.le_of_ble_eq_true rfl⟩) (mn_preV (q0 := 0) (ci := 5) (q := (R_M, T_M, 27)) hP hE rfl rfl) rfl rfl hl.1 rfl (lv_room (Nat.le_of_ble_eq_true rfl)) d_M_make_48 ⟨Nat.le_of_ble_eq_true rfl, Nat.le_of_ble_eq_true rfl⟩) ?_
              have gb := m_gain_bi (S := S) (x := z) hOk (mP_pr hOk hR e2) (by omega) (by omega)
              refine lv_lconst (v := lI 0) hx hb d_M_make_51 (by decide) ?_
              refine pr_lcmp_le (tgt := 68) hx hb (i6_of (by omega) (by omega)) (i6_of (by decide) (by decide)) d_M_make_52 d_M_make_53 (by decide) (fun c_3 => ?_) (fun c_3 => ?_)
              · skip
                refine lv_iinc (v := iI (z + 1)) (lv' := [(3, .int (iI (z + 1))), (0, .ref (b 0)), (1, .int (iI (((S : Nat) : Int)))), (2, .int (iI (mo2)))]) hx hb d_M_make_68 hl (k := 3) rfl (iI_add _ _).symm (by decide) rfl (fun ls hl => ?_)
                refine lv_goto (tgt := 38) hx hb d_M_make_71 (by decide) ?_
                exact ih (g) (mo2) (z + 1) _ _ ls e1 e2 (by rcases e3 with ⟨a9, b9, c9⟩ | e3; exact Or.inl ⟨a9, b9, fun y y0 y1 => if e : y = z then (by rw [e]; omega) else c9 y y0 (by omega)⟩; exact Or.inr e3) (by omega) (by omega) (by omega) hP hD hS (lv_sub hl [1, 2, 3, 0] rfl)
              · skip
                refine lv_iconst (v := iI (1)) hx hb d_M_make_56 rfl ?_
                refine lv_istore_n (lv' := [(2, .int (iI (1))), (0, .ref (b 0)), (1, .int (iI (((S : Nat) : Int)))), (3, .int (iI (z)))]) hx hb d_M_make_57 rfl hl (by decide) rfl (fun ls hl => ?_)
                refine lv_aload_n hx hb d_M_make_58 rfl (lv_at hl 1 rfl) ?_
                refine lv_iload_n hx hb d_M_make_59 rfl (lv_at hl 3 rfl) ?_
                have hgp : 0 < (m_G nf da S) (mP (nw mi 14 (g))) (z + 4) := by assumption
                refine pr_ci (va_runV (As := [.int (iI (z))]) (rest := []) ⟨hx, hb, hml, hown, hts⟩ (c_M_rise l (mi := nw mi 14 g) (ms := nw ms 6 (((S : Nat) : Int))) H.size nf ns da S (z) hOk (mn_R.c6 (mn_R.st hR)) rfl hSb hSm e2 ⟨by omega, by omega⟩) (cwV 1 hts (pn_gV m_764 m_766 m_27 m_38 m_767) rfl rfl rfl (by decide +kernel) ⟨Nat.le_of_ble_eq_true rfl, Nat.le_of_ble_eq_true rfl⟩) (mn_preW (q0 := 0) (ci := 5) (q := (R_M, T_M, 27)) hP hD hE rfl rfl) rfl rfl hl.1 rfl (lv_room (Nat.le_of_ble_eq_true rfl)) d_M_make_60 ⟨Nat.le_of_ble_eq_true rfl, Nat.le_of_ble_eq_true rfl⟩) hD hS hA (fun r v H locs hw hP hD hS => ?_)
                try dsimp only at hP hD hw
                rw [nw_nw, nw_s] at hP hD
                rw [nw_s] at hw
                have hP : va_P D pn_cl (mw b cI cL cZ (nw mi 14 (pu g z v)) ml mz (nw ms 6 (((S : Nat) : Int)))) H := hP
                have hD : va_D A (mw b cI cL cZ (nw mi 14 (pu g z v)) ml mz (nw ms 6 (((S : Nat) : Int)))) := hD
                have hzn : pn_zone (ns 0) (z + 4) := ⟨by omega, by omega⟩
                have hat := mP_at mi g (x := z) (by omega)
                rcases hw with ⟨rfl, hv, hw1⟩ | ⟨rfl, hv, hv5, hw1, hw2⟩
                · skip
                  refine pr_if_ne (tgt := 68) hx hb (i3_of (by decide) (by decide)) d_M_make_63 (by decide) (fun c_4 => ?_) (fun c_4 => ?_)
                  · skip
                    exact absurd c_4 (by decide)
                  · skip
                    refine lv_iconst (v := iI (0)) hx hb d_M_make_66 rfl ?_
                    exact W.zret (v := iI (0)) hx hb hr (by decide) (fun t ht hW => ⟨⟨iI (0), (pu g z v, 0), rfl, ⟨rfl, e2.pu (by omega) (by omega), Or.inr ⟨rfl, mk_r0 hM e1 hzn hw1⟩⟩, by rw [ht]; exact hP, hD⟩, hS.F ht⟩) hS.2.2 d_M_make_67
                · obtain ⟨hB2, hlt⟩ := mk_r1 hM e1 hzn hgp (by rw [hat]; exact hv) hw1 (by rw [hat]; exact hw2)
                  have h8 := mk_s8 (mP (nw mi 14 g)) (z := z + 4) (v := v) (by omega) (by omega) hlt
                  rw [← mP_up mi g (by omega : 0 ≤ z) v] at hB2 h8
                  have g5 := e2 z (by omega) (by omega)
                  refine pr_if_ne (tgt := 68) hx hb (i3_of (by decide) (by decide)) d_M_make_63 (by decide) (fun c_5 => ?_) (fun c_5 => ?_)
                  · skip
                    refine lv_iinc (v := iI (z + 1)) (lv' := [(3, .int (iI (z + 1))), (2, .int (iI (1))), (0, .ref (b 0)), (1, .int (iI (((S : Nat) : Int))))]) hx hb d_M_make_68 hl (k := 3) rfl (iI_add _ _).symm (by decide) rfl (fun ls hl => ?_)
                    refine lv_goto (tgt := 38) hx hb d_M_make_71 (by decide) ?_
                    exact ih (pu g z v) (1) (z + 1) _ _ ls hB2 (e2.pu (by omega) (by omega)) (Or.inr ⟨rfl, by rcases e3 with ⟨a9, b9, c9⟩ | ⟨a9, b9⟩; rw [← b9]; exact h8; exact Int.lt_trans b9 h8⟩) (by omega) (by omega) (by omega) hP hD hS (lv_sub hl [2, 3, 1, 0] rfl)
                  · skip
                    exact absurd c_5 (by decide)
        exact inner _ (f) (0) (0) _ _ ls q1 q2 (Or.inl ⟨rfl, rfl, fun y y0 y1 => absurd y1 (by omega)⟩) (by omega) (by omega) (Nat.lt_succ_self _) hP hD hS (lv_sub hl [2, 3, 1, 0] rfl)
  have fill : ∀ (n : Nat) (t : Int) (H : Heap) (locs : List Loc) (ls : Array Slot), (0 ≤ t) → (t ≤ 8) → ((8 - t).toNat) < n → va_P D pn_cl (mw b cI cL cZ (nw mi 14 (fl t (-5000) (mi 14))) ml mz (nw ms 6 (((S : Nat) : Int)))) H → va_D A (mw b cI cL cZ (nw mi 14 (fl t (-5000) (mi 14))) ml mz (nw ms 6 (((S : Nat) : Int)))) → va_S A s.heap H locs → lv_has ls 4 [(0, .ref (b 0)), (1, .int (iI (((S : Nat) : Int)))), (2, .int (iI (t)))] → W p l e (headSpec w_M_make ({ frames := 5, cells := 0, slots := 0, locals := 118 })).room s m ([.ref (b 0), .int (iI (((S : Nat) : Int)))] : List Value).toArray below meth c H locs 0 0 (MQ below (va_Qi (fun (r : Int32) (u : (Int → Int) × Int) => r = iI u.2 ∧ m_s5 u.1 ∧ pn_Le (ns 0) (nf 0) (m_G nf da S) u.2 (mP (nw mi 14 u.1))) (fun u t => va_P D pn_cl ((fun u : (Int → Int) × Int => mw b cI cL cZ (nw mi 14 u.1) ml mz (nw ms 6 ((S : Nat) : Int))) u) t.heap ∧ va_D A ((fun u : (Int → Int) × Int => mw b cI cL cZ (nw mi 14 u.1) ml mz (nw ms 6 ((S : Nat) : Int))) u)) A) ([.ref (b 0), .int (iI (((S : Nat) : Int)))] : List Value).toArray s 0 0 A) (F0 m 7 ls []) := by
    intro n
    induction n with
    | zero => intro t H locs ls _ _ hm; exact absurd hm (Nat.not_lt_zero _)
    | succ n ih =>
      intro t H locs ls p1 p2 hm hP hD hS hl
      refine lv_iload_n hx hb d_M_make_7 rfl (lv_at hl 2 rfl) ?_
      refine lv_bipush (v := iI (8)) hx hb d_M_make_8 (by decide) ?_
      refine pr_icmp_ge (tgt := 28) hx hb (i3_of (by omega) (by omega)) (i3_of (by decide) (by decide)) d_M_make_10 (by decide) (fun c_6 => ?_) (fun c_6 => ?_)
      · skip
        refine lv_iconst (v := iI (1)) hx hb d_M_make_28 rfl ?_
        refine lv_istore_n (lv' := [(2, .int (iI (1))), (0, .ref (b 0)), (1, .int (iI (((S : Nat) : Int))))]) hx hb d_M_make_29 rfl hl (by decide) rfl (fun ls hl => ?_)
        rw [show t = 8 by omega] at hP hD
        exact outer _ (fl 8 (-5000) (mi 14)) (1) _ _ ls (mk_beg hOk hR) (mk_s5 _) (Or.inr rfl) (fun h => absurd h (by decide)) (Nat.lt_succ_self _) hP hD hS (lv_sub hl [1, 2, 0] rfl)
      · skip
        refine lv_aload_n hx hb d_M_make_13 rfl (lv_at hl 0 rfl) ?_
        refine va_get (D := D) (ci := 5) (v := .ref (b 18)) (C := R_M) (T := T_M) (N := 27) hx hb hts (in_M _) hown hK hP 0 rfl rfl 23 (by decide) (ht _ m_613) (fun _ h9 => h9) rfl d_M_make_14 ?_
        refine lv_iload_n hx hb d_M_make_17 rfl (lv_at hl 2 rfl) ?_
        refine lv_sipush (v := iI (-5000)) hx hb d_M_make_18 (by decide) ?_
        refine pr_iast (ws' := mw b cI cL cZ (nw (nw mi 14 (fl t (-5000) (mi 14))) 14 (pu ((fl t (-5000) (mi 14))) (t) (-5000))) ml mz (nw ms 6 (((S : Nat) : Int)))) hx hb hK hP hD hS 18 0 rfl rfl (by decide) (by omega) (by omega) rfl d_M_make_21 (fun H locs hP hD hS => ?_)
        have e9 : nw (nw mi 14 (fl t (-5000) (mi 14))) 14 (pu ((fl t (-5000) (mi 14))) (t) (-5000)) = nw mi 14 (fl (t + 1) (-5000) (mi 14)) := by rw [nw_nw, fl_s (by omega)]
        rw [e9] at hP hD
        clear e9
        refine lv_iinc (v := iI (t + 1)) (lv' := [(2, .int (iI (t + 1))), (0, .ref (b 0)), (1, .int (iI (((S : Nat) : Int))))]) hx hb d_M_make_22 hl (k := 2) rfl (iI_add _ _).symm (by decide) rfl (fun ls hl => ?_)
        refine lv_goto (tgt := 7) hx hb d_M_make_25 (by decide) ?_
        exact ih (t + 1) _ _ ls (by omega) (by omega) (by omega) hP hD hS (lv_sub hl [1, 2, 0] rfl)
  refine lv_aload_n hx hb d_M_make_0 rfl (lv_at hl 0 rfl) ?_
  refine lv_iload_n hx hb d_M_make_1 rfl (lv_at hl 1 rfl) ?_
  refine va_put (D := D) (ci := 5) (v := .int (iI (((S : Nat) : Int)))) (ty := .int) (C := R_M) (T := T_M) (N := 27) hx hb hts (in_M _) ty_M ty_M_ok nm_M hown hK hP hD hS 0 rfl rfl 24 (by decide) (ht _ m_614) (fun _ h9 => h9) rfl (by decide +kernel) rfl rfl (Nat.le_of_ble_eq_true rfl) d_M_make_2 (fun H locs hP hD hS => ?_)
  have hP : va_P D pn_cl (mw b cI cL cZ mi ml mz (nw ms 6 (((S : Nat) : Int)))) H := hP
  have hD : va_D A (mw b cI cL cZ mi ml mz (nw ms 6 (((S : Nat) : Int)))) := hD
  refine lv_iconst (v := iI (0)) hx hb d_M_make_5 rfl ?_
  refine lv_istore_n (lv' := [(2, .int (iI (0))), (0, .ref (b 0)), (1, .int (iI (((S : Nat) : Int))))]) hx hb d_M_make_6 rfl hl (by decide) rfl (fun ls hl => ?_)
  have e9 : mi = nw mi 14 (fl 0 (-5000) (mi 14)) := by rw [fl_0, nw_self]
  rw [e9] at hP hD
  clear e9
  exact fill _ (0) _ _ ls (by omega) (by omega) (Nat.lt_succ_self _) hP hD hS (lv_sub hl [1, 2, 0] rfl)
theorem pn_Le_01 {n : Int} {wd : Int → Int} {G : (Int → Int) → Int → Int} {b : Int} {P : Int → Int} (h : pn_Le n wd G b P) : b = 0 ∨ b = 1 := by
  rcases h with ⟨h, -⟩ | ⟨h, -⟩
  · exact Or.inr h
  · exact Or.inl h
abbrev w_M_makeNow : List Cond := .code y_M_makeNow b_M_makeNow 1 (some .boolean) :: pn_W
set_option maxHeartbeats 4000000 in
set_option maxRecDepth 100000 in
theorem c_M_makeNow (l : Launch) {D : va_G} {b : Nat → Nat} {cI cL cZ : ClassId} {mi ml : Nat → Int → Int} {mz : Int → Int} {ms : Nat → Int} (sz : Nat) (nf : Nat → Int → Int) (ns : Nat → Int) (da : Int → Int → Int) (S : Nat)  (hOk : pn_Ok nf ns da) (hR : mn_R nf ns mi ms) (hSb : S < 2 ^ 20) (hSm : pn_Sm nf ns da) (hM : pn_Mono (ns 0) (m_G nf da S)) (hSo : S < 2 ^ (ns 1).toNat) (hz : ∀ t : Nat, t < 20 → mz (t : Int) = b2 (S.testBit t = true)) : Met l y_M_makeNow w_M_makeNow ({ frames := 6, cells := 0, slots := 0, locals := 141 }) (va_Pc [.ref (b 0)] (fun U => U.heap.size = sz ∧ va_P D pn_cl (mw b cI cL cZ mi ml mz ms) U.heap ∧ va_D (fun _ => True) (mw b cI cL cZ mi ml mz ms) ∧ mn_E D cI cL cZ U)) (va_Qi (fun (r : Int32) (u : (Int → Int) × Int) => r = iI u.2 ∧ m_s5 u.1 ∧ pn_Le (ns 0) (nf 0) (m_G nf da S) u.2 (mP (nw mi 14 u.1))) (fun u t => va_P D pn_cl ((fun u : (Int → Int) × Int => mw b cI cL cZ (nw mi 14 u.1) ml mz (nw ms 6 ((S : Nat) : Int))) u) t.heap ∧ va_D (va_A (mw b cI cL cZ mi ml mz ms) sz) ((fun u : (Int → Int) × Int => mw b cI cL cZ (nw mi 14 u.1) ml mz (nw ms 6 ((S : Nat) : Int))) u)) (va_A (mw b cI cL cZ mi ml mz ms) sz)) 0 0 (va_A (mw b cI cL cZ mi ml mz ms) sz) := by
  refine Met.ofW (cc := b_M_makeNow) (maxL := 1) (ret := (some .boolean)) (by decide) rfl ?_
  intro p e s m args below meth c s₁ B hml hv
  obtain ⟨rfl, hsz, hP, hD0, hE⟩ := hv
  have hx := B.exec
  have hb := B.bytes
  have hr := B.returns
  have hts := atoms_spec (ws := w_M_makeNow) B.pre
  have ht : ∀ w ∈ pn_W, w.before _ s = true := fun w h => hts w (List.mem_cons_of_mem _ h)
  have hown : s.vm.findClass R_M = some m.cls := findClass_of_methodNamed B.named
  have hlocks := B.notSynchronized
  have hK := hE
  subst hsz
  have hD := hD0.self (sz := s.heap.size)
  generalize hAe : va_A (mw b cI cL cZ mi ml mz ms) s.heap.size = A at hD ⊢
  have hA : ∀ q : Nat, s.heap.size ≤ q → A q := fun q h => by rw [← hAe]; exact Or.inr h
  have hS : va_S A s.heap s.heap [] := va_S.rf
  have hl := lv_entry ([.ref (b 0)]) (n := 1) (Nat.le_of_ble_eq_true rfl)
  rw [lg_entry_eq]
  generalize (lg_sl ([.ref (b 0)]) ++ List.replicate (1 - (lg_sl ([.ref (b 0)])).length) Slot.unset).toArray = ls at hl ⊢
  have hl : lv_has ls 1 [(0, .ref (b 0))] := hl
  obtain ⟨o_zc, o_lc, o_fc, o_ve, o_wi, o_wa, o_vo, o_fr, o_to, o_he, o_ar, o_ki, o_st, o_ff, o_sl, o_dc, o_da⟩ := id hOk
  obtain ⟨r_zo, r_le, r_fa, r_wi, r_ai, r_wa, r_vo, r_lk, r_fn⟩ := id hR
  refine lv_aload_n hx hb d_M_makeNow_0 rfl (lv_at hl 0 rfl) ?_
  refine lv_aload_n hx hb d_M_makeNow_1 rfl (lv_at hl 0 rfl) ?_
  refine pr_pi (va_runV (As := []) (rest := [.ref (b 0)]) ⟨hx, hb, hml, hown, hts⟩ (c_M_shutOnes l nf ns da (mi := mi) (ms := ms) S hOk hR hSo hz) (cwV 0 hts (pn_gV m_731 m_733 m_20 m_38 m_734) rfl rfl rfl (by decide +kernel) ⟨Nat.le_of_ble_eq_true rfl, Nat.le_of_ble_eq_true rfl⟩) (mn_preV (q0 := 0) (ci := 5) (q := (R_M, T_M, 27)) hP hE rfl rfl) rfl rfl hl.1 rfl (lv_room (Nat.le_of_ble_eq_true rfl)) d_M_makeNow_2 ⟨Nat.le_of_ble_eq_true rfl, Nat.le_of_ble_eq_true rfl⟩) ?_
  refine pr_ci (va_runV (As := [.int (iI (((S : Nat) : Int)))]) (rest := []) ⟨hx, hb, hml, hown, hts⟩ (c_M_make l (mi := mi) (ms := ms) s.heap.size nf ns da S hOk hR hSb hSm hM) (cwV 1 hts (pn_gV m_735 m_737 m_21 m_38 m_738) rfl rfl rfl (by decide +kernel) ⟨Nat.le_of_ble_eq_true rfl, Nat.le_of_ble_eq_true rfl⟩) (mn_preW (q0 := 0) (ci := 5) (q := (R_M, T_M, 27)) hP hD hE rfl rfl) rfl rfl hl.1 rfl (lv_room (Nat.le_of_ble_eq_true rfl)) d_M_makeNow_5 ⟨Nat.le_of_ble_eq_true rfl, Nat.le_of_ble_eq_true rfl⟩) hD hS hA (fun r u H locs hw hP hD hS => ?_)
  obtain ⟨f, bo⟩ := u
  obtain ⟨rfl, hf5, hLe⟩ := hw
  try dsimp only at hP hD hf5 hLe
  have hP : va_P D pn_cl (mw b cI cL cZ (nw mi 14 f) ml mz (nw ms 6 (((S : Nat) : Int)))) H := hP
  have hD : va_D A (mw b cI cL cZ (nw mi 14 f) ml mz (nw ms 6 (((S : Nat) : Int)))) := hD
  have hbo := pn_Le_01 hLe
  exact W.zret (v := iI (bo)) hx hb hr (by rcases hbo with h | h <;> rw [h] <;> decide) (fun t ht hW => ⟨⟨iI (bo), (f, bo), rfl, ⟨rfl, hf5, hLe⟩, by rw [ht]; exact hP, hD⟩, hS.F ht⟩) hS.2.2 d_M_makeNow_8
