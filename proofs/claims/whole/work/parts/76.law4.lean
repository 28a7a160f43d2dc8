/-! where all begins -/
theorem v_J_0 : v_J (fun _ _ => 0) (fun _ => 0) (fun _ _ => 0) (fun _ _ => 0) (fun _ _ => 0) 0 (fun _ => 0) (fun _ => -1) (fun _ => 0) (fun _ _ => 0) (fun _ _ => 0) (fun _ _ => 0) (fun _ => 0) (fun _ => 0) := by
  have z : (0 : Int) ≤ 0 ∧ (0 : Int) ≤ 0 := ⟨Int.le_refl _, Int.le_refl _⟩
  refine ⟨⟨⟨by first | omega | (dsimp only; omega), by first | omega | (dsimp only; omega), by first | omega | (dsimp only; omega), by first | omega | (dsimp only; omega), fun j _ _ => by first | omega | (dsimp only; omega), fun j _ _ => by first | omega | (dsimp only; omega), fun j _ _ => by first | omega | (dsimp only; omega), fun j _ _ => by first | omega | (dsimp only; omega), fun j _ _ => by first | omega | (dsimp only; omega), fun j _ _ => by first | omega | (dsimp only; omega), fun j _ _ => by first | omega | (dsimp only; omega), fun j _ _ => by first | omega | (dsimp only; omega), fun j _ _ => by first | omega | (dsimp only; omega), fun j _ _ => by first | omega | (dsimp only; omega), fun j _ _ => by first | omega | (dsimp only; omega), fun j _ _ => by first | omega | (dsimp only; omega), fun r j _ _ _ _ => by first | omega | (dsimp only; omega)⟩, fun j _ _ => by first | omega | (dsimp only; omega), fun r _ _ t a b => ?_, fun r _ _ g => rfl, fun k h => ?_, fun r t _ _ a b => ?_, fun z a b => ?_⟩, by first | omega | (dsimp only; omega), ⟨by decide, fun k _ => by dsimp only; decide⟩, fun k hk => ⟨Or.inl rfl, by first | omega | (dsimp only; omega), fun _ => rfl, fun h => ?_⟩, ⟨fun j _ _ => by first | omega | (dsimp only; omega), fun j _ _ => by first | omega | (dsimp only; omega), fun j _ _ => rfl, fun j _ _ => by first | omega | (dsimp only; omega)⟩, ⟨⟨rfl, rfl, rfl, fun j _ _ => rfl, fun j _ _ => rfl, fun z _ _ => rfl, fun z _ _ => rfl, fun k a b => ?_, fun f a b => ?_⟩, rfl, fun j _ _ => ?_, fun z _ _ => rfl, fun t _ => ?_, fun c h => ?_⟩⟩
  · have b : t < 0 := b
    omega
  · have h : (0 ≤ k ∧ k < 0) ∨ (20 ≤ k ∧ k < 20 + 0) := h
    omega
  · have b : t < 0 := b
    omega
  · have b : z < 0 := b
    omega
  · dsimp only at h
    omega
  · have b : k < 0 := b
    omega
  · have b : f < 0 := b
    omega
  · unfold mH
    by_cases c : j < 4
    · rw [if_pos c]
    · rw [if_neg c]
  · rw [Nat.zero_testBit]
    rfl
  · have h : (c : Int) < 0 := h
    omega
theorem mn_preWS {s : State} {H : Heap} {D : va_G} {cI cL cZ : ClassId} {ws : va_W} {As : List Value} {A : Nat → Prop} (hP : va_P D pn_cl ws H) (hD : va_D A ws) (hE : mn_E D cI cL cZ s) : PreS s H (va_Pc As (fun U => U.heap.size = H.size ∧ va_P D pn_cl ws U.heap ∧ va_D (fun _ => True) ws ∧ mn_E D cI cL cZ U)) As :=
  ⟨fun _ _ _ _ q => ⟨q.1, q.2.1, q.2.2.1, q.2.2.2.1, mn_E.same rfl q.2.2.2.2⟩, fun U hU hW => ⟨rfl, by rw [hU], by rw [hU]; exact hP, hD.weaken (fun _ _ _ _ => trivial), mn_E.warm hW hE⟩⟩
theorem wn_nest : ∀ q ∈ pn_nest, Cond.methodLinkNest q.1 q.2.1 q.2.2 "PressureNets" ∈ lw_tbl := by decide +kernel
theorem wn_decl : ∀ y ∈ pn_decl, Cond.declares y ∈ lw_tbl := by decide +kernel
/-- what the law's entry gives: the classes' numbers, the arrays' classes, what a throw needs -/
theorem lw_env {p : Program} {s : State} {m : MethodId} {meth : Method} {c : Code} {b L : Nat} {xs : Nat → Int32} (C0 : lw_At p s m meth c b L xs) : ∃ (D : va_G) (cI cL cD cS cZ : ClassId), pn_Ec D cI cL cD cS s ∧ mn_E D cI cL cZ s ∧ pn_X (fun q => s.heap.size ≤ q) s ∧ pn_Nc s := by
  obtain ⟨hx, hb, hr, hml, hown, htl, hXs, hbl, hlocks, hgv⟩ := C0
  have ht : ∀ w ∈ pn_W, w.before #[Value.ref b] s = true := fun w h => htl w (List.mem_filter.mp h).1
  have hs := flat_of_before _ hgv
  obtain ⟨c0, i0, k0⟩ := u_known (C := R_P) (T := T_P) (N := 6) (n := 6) htl in0_P (ht _ m_48)
  obtain ⟨c1, i1, k1⟩ := u_known (C := R_N) (T := T_N) (N := 17) (n := 17) htl in0_N (ht _ m_56)
  obtain ⟨c2, i2, k2⟩ := u_known (C := R_S) (T := T_S) (N := 2) (n := 2) htl in0_S (ht _ m_128)
  obtain ⟨c3, i3, k3⟩ := u_known (C := R_T) (T := T_T) (N := 4) (n := 4) htl in0_T (ht _ m_169)
  obtain ⟨c4, i4, k4⟩ := u_known (C := R_U) (T := T_U) (N := 6) (n := 6) htl in0_U (ht _ m_141)
  obtain ⟨c5, i5, k5⟩ := u_known (C := R_M) (T := T_M) (N := 27) (n := 27) htl in0_M (ht _ m_585)
  obtain ⟨cI, kI, pI, hI1, hI2, hI3⟩ := Cond.arrayClass_spec (ht _ m_126)
  obtain ⟨cL, kL, pL, hL1, hL2, hL3⟩ := Cond.arrayClass_spec (ht _ m_167)
  obtain ⟨cZ, kZ, pZ, hZ1, hZ2, hZ3⟩ := Cond.arrayClass_spec (ht _ m_672)
  have hAm : (Cond.arrayOver (.array .int)).before #[Value.ref b] s = true := htl _ (by decide +kernel)
  have hAq : (Cond.arrayOver (.object "PressureNets$State")).before #[Value.ref b] s = true := htl _ (by decide +kernel)
  obtain ⟨pD, cD, kD, hD1, hD2, hD3, hD4⟩ := Cond.arrayOver_specA hAm
  obtain ⟨pS, cS, kS, hS1, -, hS2, hS3, hS4⟩ := Cond.arrayOver_spec hAq
  have hK1 : ∀ (k : Nat) (q : vw_C), pn_cl[k]? = some q → u_Kn s q.1 q.2.1 q.2.2 (([c0, c1, c2, c3, c4, c5] : List ClassId).getD k c0) (([i0, i1, i2, i3, i4, i5] : List (Nat → Nat)).getD k i0) := by
    intro k q hq
    have hlt : k < 6 := (List.getElem?_eq_some_iff.mp hq).1
    rcases (show k = 0 ∨ k = 1 ∨ k = 2 ∨ k = 3 ∨ k = 4 ∨ k = 5 by omega) with rfl | rfl | rfl | rfl | rfl | rfl <;> cases hq
    · exact k0
    · exact k1
    · exact k2
    · exact k3
    · exact k4
    · exact k5
  have aI : ArrOfT s cI .int ∧ va_RA s cI .int := ⟨fun n z => ⟨fun k h => (by cases h), kI, hI2, pI, hI3⟩, hI1⟩
  have aL : ArrOfT s cL .long ∧ va_RA s cL .long := ⟨fun n z => ⟨fun k h => (by cases h), kL, hL2, pL, hL3⟩, hL1⟩
  have aZ : ArrOfT s cZ .boolean ∧ va_RA s cZ .boolean := ⟨fun n z => ⟨fun k h => (by cases h), kZ, hZ2, pZ, hZ3⟩, hZ1⟩
  have aD : ArrOfT s cD (.array .int) ∧ va_RA s cD (.array .int) := ⟨fun n z => ⟨fun k h => (by cases h), kD, hD2, pD, hD3⟩, hD4⟩
  have aS : ArrOfT s cS (.object "PressureNets$State") ∧ va_RA s cS (.object "PressureNets$State") := ⟨fun n z => ⟨fun k h => (by cases h), kS, hS2, pS, hS3⟩, kS, pS, hS2, hS3, hS1, hS4⟩
  refine ⟨(fun k => ([c0, c1, c2, c3, c4, c5] : List ClassId).getD k c0, fun k => ([i0, i1, i2, i3, i4, i5] : List (Nat → Nat)).getD k i0), cI, cL, cD, cS, cZ, ⟨⟨⟨hK1, ?_⟩, fun q hq => va_Nw.of rfl (htl _ (wn_nest q hq))⟩, hAm, hAq⟩, ⟨hK1, ?_⟩, ?_, va_Nc.of (hs _ (by decide +kernel))⟩
  · intro k q hq
    have hlt : k < 4 := (List.getElem?_eq_some_iff.mp hq).1
    rcases (show k = 0 ∨ k = 1 ∨ k = 2 ∨ k = 3 by omega) with rfl | rfl | rfl | rfl <;> cases hq
    · exact aI
    · exact aL
    · exact aD
    · exact aS
  · intro k q hq
    have hlt : k < 3 := (List.getElem?_eq_some_iff.mp hq).1
    rcases (show k = 0 ∨ k = 1 ∨ k = 2 by omega) with rfl | rfl | rfl <;> cases hq
    · exact aI
    · exact aL
    · exact aZ
  · have hA : ∀ a : Nat, a < s.heap.size → ¬ (fun q => s.heap.size ≤ q) a := fun a h q => by have q : s.heap.size ≤ a := q; omega
    obtain ⟨s1, _, _, _, e1, -⟩ := Cond.exactly_spec (t := .string "PressureNets" 164) (cls := "java/lang/String") (hs _ (by decide +kernel))
    obtain ⟨s2, _, _, _, e2, -⟩ := Cond.exactly_spec (t := .string "PressureNets" 171) (cls := "java/lang/String") (hs _ (by decide +kernel))
    exact ⟨vx_Zqof (htl _ (by decide +kernel)) (htl _ (by decide +kernel)) (hs _ (by decide +kernel)) hA, vx_Zqof (htl _ (by decide +kernel)) (htl _ (by decide +kernel)) (hs _ (by decide +kernel)) hA, ⟨s1, vk_R.of (htl _ (by decide +kernel)) e1⟩, ⟨s2, vk_R.of (htl _ (by decide +kernel)) e2⟩, va_Nw.of rfl (htl _ (by decide +kernel)), va_Nw.of rfl (htl _ (by decide +kernel)), fun y hy => va_Nw.of rfl (htl _ (wn_decl y hy))⟩
set_option maxHeartbeats 4000000 in
set_option maxRecDepth 100000 in
theorem whole_start {p : Program} {e : Env} {s : State} {m : MethodId} {below : List Frame} {meth : Method} {c : Code} (l : Launch) (hst : l.stackTraces = false) {b L : Nat} {xs : Nat → Int32} (hL : L ≤ 3072) (C0 : lw_At p s m meth c b L xs) : W p l e room_1 s m #[Value.ref b] below meth c s.heap [] 0 0 (lw_Z below #[Value.ref b] s) (entryFrame m ([Value.ref b] : List Value).toArray 8) := by
  obtain ⟨D, cI, cL, cD, cS, cZ, hEc, hEm, hX, hNc⟩ := lw_env C0
  obtain ⟨hx, hb, hr, hml, hown, htl, hXs, hbl, hlocks, hgv⟩ := id C0
  have hE := hEc.1
  have hK := hE.1
  have ht : ∀ w ∈ pn_W, w.before #[Value.ref b] s = true := fun w h => htl w (List.mem_filter.mp h).1
  have hts : ∀ w ∈ (Cond.initialized "PressureNets" :: pn_W), w.before #[Value.ref b] s = true := fun w h => (List.mem_cons.mp h).elim (fun q => by rw [q]; exact ht _ m_33) (ht w)
  obtain ⟨A, hAe⟩ : ∃ A : Nat → Prop, A = (fun q => s.heap.size ≤ q) := ⟨_, rfl⟩
  have hA : ∀ q : Nat, s.heap.size ≤ q → A q := fun q h => by rw [hAe]; exact h
  have hS : va_S A s.heap s.heap [] := va_S.rf
  have hP : va_P D pn_cl [] s.heap := fun k q h => by cases h
  have hD : va_D A [] := ⟨fun i j p q h => (by cases h), fun k q h => (by cases h)⟩
  have hl := lv_entry ([Value.ref b]) (n := 8) (Nat.le_of_ble_eq_true rfl)
  rw [lg_entry_eq]
  generalize (lg_sl ([Value.ref b]) ++ List.replicate (8 - (lg_sl ([Value.ref b])).length) Slot.unset).toArray = ls at hl ⊢
  have hl : lv_has ls 8 [(0, .ref b)] := hl
  refine va_new (ci := 0) (fs := [.null, .null, .null, .null, .null, .int (iI 0)]) (C := R_P) (T := T_P) (N := 6) hx hb hts (in_P _) ty_P ty_P_ok hown (ht _ m_47) (ht _ m_48) (ht _ m_33) hK hP hD hS hA rfl vc_P (Nat.le_of_ble_eq_true rfl) (Nat.le_of_ble_eq_true rfl) d_L_law_0 (fun q1 H hP hD hS => ?_)
  have hP : va_P D pn_cl [(q1, .inr (0, [.null, .null, .null, .null, .null, .int (iI 0)]))] H := hP
  have hD : va_D A [(q1, .inr (0, [.null, .null, .null, .null, .null, .int (iI 0)]))] := hD
  refine W.widen (k := 1) (n := 6) (by decide) (by decide) ?_
  refine lv_dup hx hb d_L_law_3 rfl ?_
  refine va_callv (va_runI (As := []) (rest := [.ref q1]) ⟨hx, hb, hml, hown, hts⟩ (c_P_init l H.size q1) (cwI 0 hts (pn_g m_51) rfl rfl rfl (ht _ m_33) (ht _ m_49) (ht _ m_50) rfl (by decide +kernel) ⟨Nat.le_of_ble_eq_true rfl, Nat.le_of_ble_eq_true rfl⟩) (pn_preEc hP hD hEc) rfl rfl hl.1 rfl (lv_room (Nat.le_of_ble_eq_true rfl)) d_L_law_4 ⟨(Nat.le_of_ble_eq_true rfl), (Nat.le_of_ble_eq_true rfl)⟩) hS (fun q _ h => pr_all hD hS hA q h) (fun q h => pr_all hD hS hA q h) (fun a t H1 locs1 ht1 hvm hw hB hz1 hk1 hS1 => ?_)
  obtain ⟨hP1, hD1⟩ := hB
  rw [ht1] at hP1
  have hD3 : va_D A (cw a cI cL cD cS (fun _ _ => 0) (fun _ => 0) (fun _ _ => 0) (fun _ => 0) (fun _ _ => 0) (fun _ _ => 0) 0 (fun _ => 0) (fun _ => -1) (fun _ => 0) (fun _ _ => 0)) := hD1.weaken (fun k q _ h => pr_all hD hS hA q.1 h)
  have hP3 : va_P D pn_cl (cw a cI cL cD cS (fun _ _ => 0) (fun _ => 0) (fun _ _ => 0) (fun _ => 0) (fun _ _ => 0) (fun _ _ => 0) 0 (fun _ => 0) (fun _ => -1) (fun _ => 0) (fun _ _ => 0)) H1 := hP1
  clear hP hD hS hk1 hz1 hvm hD1 hP1
  subst hw
  refine W.widen (k := 54) (n := 739) (by decide) (by decide) ?_
  refine lv_astore_n (lv' := [(1, .ref (a 0)), (0, .ref b)]) hx hb d_L_law_7 rfl hl (by decide) rfl (fun ls hl => ?_)
  refine va_new (ci := 5) (fs := [.int (iI 0), .null, .int (iI 0), .int (iI 0), .null, .null, .null, .null, .int (iI 0), .null, .null, .null, .null, .null, .null, .int (iI 0), .null, .null, .null, .null, .int (iI 0), .null, .null, .null, .int (iI 0), .null, .null]) (C := R_M) (T := T_M) (N := 27) hx hb hts (in_M _) ty_M ty_M_ok hown (ht _ m_584) (ht _ m_585) (ht _ m_38) hK hP3 hD3 hS1 hA rfl vc_M (Nat.le_of_ble_eq_true rfl) (Nat.le_of_ble_eq_true rfl) d_L_law_8 (fun q2 H hP hD hS => ?_)
  have hP := vj_swP hP
  have hD := vj_swD hD
  refine W.widen (k := 55) (n := 766) (by decide) (by decide) ?_
  refine lv_dup hx hb d_L_law_11 rfl ?_
  refine va_callv (va_runI (As := []) (rest := [.ref q2]) ⟨hx, hb, hml, hown, hts⟩ (c_M_init l H.size q2) (cwI 0 hts (pn_g m_588) rfl rfl rfl (ht _ m_38) (ht _ m_586) (ht _ m_587) rfl (by decide +kernel) ⟨Nat.le_of_ble_eq_true rfl, Nat.le_of_ble_eq_true rfl⟩) (mn_preWS (vj_PL hP) (vj_DL hD) hEm) rfl rfl hl.1 rfl (lv_room (Nat.le_of_ble_eq_true rfl)) d_L_law_12 ⟨(Nat.le_of_ble_eq_true rfl), (Nat.le_of_ble_eq_true rfl)⟩) hS (fun q _ h => pr_all (vj_DL hD) hS hA q h) (fun q h => pr_all (vj_DL hD) hS hA q h) (fun b9 t H2 locs2 ht2 hvm hw hB hz1 hk1 hS2 => ?_)
  obtain ⟨hP2, hD2⟩ := hB
  rw [ht2] at hP2
  obtain ⟨hP4, hD4⟩ := vj_app hP hD hk1 (fun q h => pr_all (vj_DL hD) hS hA q h) hP2 hD2
  clear hP hD hS hP2 hD2 hk1 hz1 hvm
  subst hw
  refine W.widen (k := 75) (n := 970) (by decide) (by decide) ?_
  refine lv_astore_n (lv' := [(2, .ref (b9 0)), (1, .ref (a 0)), (0, .ref b)]) hx hb d_L_law_15 rfl hl (by decide) rfl (fun ls hl => ?_)
  refine lv_iconst (v := iI (1)) hx hb d_L_law_16 rfl ?_
  refine va_newa (R := room_1) (cells := 75) (slots := 970) (n := iI (1)) (atype := .long) (ty := .long) (N' := 1) (a0 := (1, .inr (.inl (al (fun _ => 0))))) hx hb (ht _ m_167) rfl hK hP4 hD4 hS2 hA (fun cA => vc_l cA 1) (by decide) (by decide) (by decide) (Nat.le_of_ble_eq_true rfl) (Nat.le_of_ble_eq_true rfl) d_L_law_17 (fun o cA9 H hK9 hP hD hS => ?_)
  obtain rfl : cL = cA9 := (vc_lu hK9 (hK.2 1 _ rfl).2).symm
  clear hK9
  rw [List.append_assoc] at hP hD
  have hP : va_P D pn_cl ((cwv a cI cL cD cS ((fun _ _ => 0), (fun _ => 0), (fun _ _ => 0), (fun _ => 0), (fun _ _ => 0), (fun _ _ => 0), 0, (fun _ => 0), (fun _ => -1), (fun _ => 0), (fun _ _ => 0)) ++ vo cL o (fun _ => 0)) ++ mwv b9 cI cL cZ ((fun _ _ => 0), (fun _ _ => 0), (fun _ => 0), (fun _ => 0))) H := vj_swP hP
  have hD : va_D A ((cwv a cI cL cD cS ((fun _ _ => 0), (fun _ => 0), (fun _ _ => 0), (fun _ => 0), (fun _ _ => 0), (fun _ _ => 0), 0, (fun _ => 0), (fun _ => -1), (fun _ => 0), (fun _ _ => 0)) ++ vo cL o (fun _ => 0)) ++ mwv b9 cI cL cZ ((fun _ _ => 0), (fun _ _ => 0), (fun _ => 0), (fun _ => 0))) := vj_swD hD
  refine W.widen (k := 76) (n := 971) (by decide) (by decide) ?_
  refine lv_astore_n (lv' := [(3, .ref o), (2, .ref (b9 0)), (1, .ref (a 0)), (0, .ref b)]) hx hb d_L_law_19 rfl hl (by decide) rfl (fun ls hl => ?_)
  refine lv_iconst (v := iI (0)) hx hb d_L_law_20 rfl ?_
  refine lv_istore (lv' := [(4, .int (iI (0))), (3, .ref o), (2, .ref (b9 0)), (1, .ref (a 0)), (0, .ref b)]) hx hb d_L_law_21 hl (by decide) rfl (fun ls hl => ?_)
  subst hAe
  have hl : lv_has ls 8 [(4, .int (iI (6 * ((0 : Nat) : Int)))), (3, .ref o), (2, .ref (b9 0)), (1, .ref (a 0)), (0, .ref b)] := hl
  exact lw_loop l hst hL C0 hE hEm hX hNc 3073 0 76 971 ((fun _ _ => 0), (fun _ => 0), (fun _ _ => 0), (fun _ => 0), (fun _ _ => 0), (fun _ _ => 0), 0, (fun _ => 0), (fun _ => -1), (fun _ => 0), (fun _ _ => 0)) ((fun _ _ => 0), (fun _ _ => 0), (fun _ => 0), (fun _ => 0)) (fun _ => 0) H _ ls (by omega) (by omega) (by decide) (by decide) hP hD hS v_J_0 (by show (0 : Int) ≤ ((0 : Nat) : Int); omega) (lv_sub hl [4, 3, 2, 1, 0] rfl)
