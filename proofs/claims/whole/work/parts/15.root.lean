abbrev w_N_rootFlow : List Cond := .code y_N_rootFlow b_N_rootFlow 11 (some .int) :: pn_W
set_option maxHeartbeats 4000000 in
set_option maxRecDepth 100000 in
theorem c_N_rootFlow (l : Launch) (A d : Int) (gA : 0 ≤ A ∧ A ≤ 1000) (gd : -30000 ≤ d ∧ d ≤ 30000) : Met l y_N_rootFlow w_N_rootFlow ({ frames := 0, cells := 0, slots := 0, locals := 0 }) (va_Pc [.int (iI (A)), .int (iI (d))] (fun _ => True)) (vp_Si (fun r => r = iI (m_root A d))) 0 0 (fun _ => False) := by
  refine Met.ofW (cc := b_N_rootFlow) (maxL := 11) (ret := (some .int)) (by decide) rfl ?_
  intro p e s m args below meth c s₁ B hml hv
  obtain ⟨rfl, -⟩ := hv
  have hx := B.exec
  have hb := B.bytes
  have hr := B.returns
  have hts := atoms_spec (ws := w_N_rootFlow) B.pre
  have ht : ∀ w ∈ pn_W, w.before _ s = true := fun w h => hts w (List.mem_cons_of_mem _ h)
  have hown : s.vm.findClass R_N = some m.cls := findClass_of_methodNamed B.named
  have hlocks := B.notSynchronized
  have hl := lv_entry ([.int (iI (A)), .int (iI (d))]) (n := 11) (Nat.le_of_ble_eq_true rfl)
  rw [lg_entry_eq]
  generalize (lg_sl ([.int (iI (A)), .int (iI (d))]) ++ List.replicate (11 - (lg_sl ([.int (iI (A)), .int (iI (d))])).length) Slot.unset).toArray = ls at hl ⊢
  have hl : lv_has ls 11 [(0, .int (iI (A))), (1, .int (iI (d)))] := hl
  obtain ⟨gd1, gd2⟩ := gd
  by_cases hd0 : d ≤ 0
  · skip
    refine lv_iload_n hx hb d_N_rootFlow_0 rfl (lv_at hl 1 rfl) ?_
    refine pr_if_gt (tgt := 6) hx hb (i3_of (by omega) (by omega)) d_N_rootFlow_1 (by decide) (fun c_1 => ?_) (fun c_1 => ?_)
    · skip
      exact absurd c_1 (by omega)
    · skip
      refine lv_iconst (v := iI (0)) hx hb d_N_rootFlow_4 rfl ?_
      exact pr_ri hx hb hr hlocks d_N_rootFlow_5 (m_root_0 A hd0).symm
  · skip
    have hd1 : 0 < d := by omega
    obtain ⟨a1, a2, a3, a4⟩ := pn_aad gA ⟨hd1, gd2⟩
    have hN : A * A * d = (((A * A * d).toNat : Nat) : Int) := (Int.toNat_of_nonneg a3).symm
    have hN2 : (A * A * d).toNat ≤ 30000000000 := by omega
    have loop2 : ∀ (n : Nat) (i : Nat) (x : Nat) (ls : Array Slot), (i ≤ 64) → (pn_sq (A * A * d).toNat ≤ x) → (x ≤ 40000000000) → ((x - pn_sq (A * A * d).toNat) * 2 ^ i ≤ 400000) → (64 - i) < n → lv_has ls 11 [(4, .long (lI ((((A * A * d).toNat : Nat) : Int)))), (6, .long (lI (((x : Nat) : Int)))), (8, .int (iI (((i : Nat) : Int))))] → W p l e (headSpec w_N_rootFlow ({ frames := 0, cells := 0, slots := 0, locals := 0 })).room s m ([.int (iI (A)), .int (iI (d))] : List Value).toArray below meth c s.heap [] 0 0 (MQ below (vp_Si (fun r => r = iI (m_root A d))) ([.int (iI (A)), .int (iI (d))] : List Value).toArray s 0 0 (fun _ => False)) (F0 m 58 ls []) := by
      intro n
      induction n with
      | zero => intro i x ls _ _ _ _ hm; exact absurd hm (Nat.not_lt_zero _)
      | succ n ih =>
        intro i x ls q0 q1 q2 q3 hm hl
        refine lv_iload hx hb d_N_rootFlow_58 (lv_at hl 2 rfl) ?_
        refine lv_bipush (v := iI (64)) hx hb d_N_rootFlow_60 (by decide) ?_
        refine pr_icmp_ge (tgt := 107) hx hb (i3_of (by omega) (by omega)) (i3_of (by decide) (by decide)) d_N_rootFlow_62 (by decide) (fun c_2 => ?_) (fun c_2 => ?_)
        · skip
          have hxr : x = pn_sq (A * A * d).toNat := by first | exact pn_exit1 q3 (by omega) q1 | exact (by omega : x = 0).trans (by omega) | exact pn_newton_stop (by omega) q1 (by rw [← hg]; omega)
          refine lv_lload hx hb d_N_rootFlow_107 (lv_at hl 1 rfl) ?_
          refine pr_l2i hx hb d_N_rootFlow_109 ?_
          exact pr_ri hx hb hr hlocks d_N_rootFlow_110 (by rw [hxr]; rfl)
        · skip
          refine lv_lload hx hb d_N_rootFlow_65 (lv_at hl 1 rfl) ?_
          refine lv_lconst (v := lI 0) hx hb d_N_rootFlow_67 (by decide) ?_
          refine pr_lcmp_le (tgt := 107) hx hb (i6_of (by omega) (by omega)) (i6_of (by decide) (by decide)) d_N_rootFlow_68 d_N_rootFlow_69 (by decide) (fun c_3 => ?_) (fun c_3 => ?_)
          · skip
            have hxr : x = pn_sq (A * A * d).toNat := by first | exact pn_exit1 q3 (by omega) q1 | exact (by omega : x = 0).trans (by omega) | exact pn_newton_stop (by omega) q1 (by rw [← hg]; omega)
            refine lv_lload hx hb d_N_rootFlow_107 (lv_at hl 1 rfl) ?_
            refine pr_l2i hx hb d_N_rootFlow_109 ?_
            exact pr_ri hx hb hr hlocks d_N_rootFlow_110 (by rw [hxr]; rfl)
          · skip
            have hxp : 0 < x := by omega
            obtain ⟨g, hg⟩ : ∃ g : Nat, g = (A * A * d).toNat / x := ⟨_, rfl⟩
            have hdl : g ≤ (A * A * d).toNat := by rw [hg]; exact Nat.div_le_self _ _
            refine lv_lload hx hb d_N_rootFlow_72 (lv_at hl 1 rfl) ?_
            refine lv_lload hx hb d_N_rootFlow_74 (lv_at hl 0 rfl) ?_
            refine lv_lload hx hb d_N_rootFlow_76 (lv_at hl 1 rfl) ?_
            refine pr_ldiv hx hb (i6_of (by omega) (by omega)) (i6_of (by omega) (by omega)) (by omega) d_N_rootFlow_78 ?_
            refine pr_lre (B := ((g : Nat) : Int)) (by rw [hg, ← Int.ofNat_tdiv]) ?_
            refine pr_ladd hx hb d_N_rootFlow_79 ?_
            refine pr_lre (B := ((x + g : Nat) : Int)) (by rw [Int.natCast_add]) ?_
            refine lv_ldc2 (v := lI (2)) hx hb hown (ht (.constantLong _ 113 (lI (2))) m_469) d_N_rootFlow_80 ?_
            refine pr_ldiv hx hb (i6_of (by omega) (by omega)) (i6_of (by decide) (by decide)) (by omega) d_N_rootFlow_83 ?_
            refine pr_lre (B := (((x + g) / 2 : Nat) : Int)) (Int.ofNat_tdiv _ _).symm ?_
            refine lv_lstore (lv' := [(9, .long (lI ((((x + g) / 2 : Nat) : Int)))), (4, .long (lI ((((A * A * d).toNat : Nat) : Int)))), (6, .long (lI (((x : Nat) : Int)))), (8, .int (iI (((i : Nat) : Int))))]) hx hb d_N_rootFlow_84 hl (by decide) rfl (fun ls hl => ?_)
            refine lv_lload hx hb d_N_rootFlow_86 (lv_at hl 0 rfl) ?_
            refine lv_lload hx hb d_N_rootFlow_88 (lv_at hl 2 rfl) ?_
            refine pr_lcmp_lt (tgt := 97) hx hb (i6_of (by omega) (by omega)) (i6_of (by omega) (by omega)) d_N_rootFlow_90 d_N_rootFlow_91 (by decide) (fun c_4 => ?_) (fun c_4 => ?_)
            · skip
              refine lv_lload hx hb d_N_rootFlow_97 (lv_at hl 0 rfl) ?_
              refine lv_lstore (lv' := [(6, .long (lI ((((x + g) / 2 : Nat) : Int)))), (9, .long (lI ((((x + g) / 2 : Nat) : Int)))), (4, .long (lI ((((A * A * d).toNat : Nat) : Int)))), (8, .int (iI (((i : Nat) : Int))))]) hx hb d_N_rootFlow_99 hl (by decide) rfl (fun ls hl => ?_)
              refine lv_iinc (v := iI (((i : Nat) : Int) + 1)) (lv' := [(8, .int (iI (((i : Nat) : Int) + 1))), (6, .long (lI ((((x + g) / 2 : Nat) : Int)))), (9, .long (lI ((((x + g) / 2 : Nat) : Int)))), (4, .long (lI ((((A * A * d).toNat : Nat) : Int))))]) hx hb d_N_rootFlow_101 hl (k := 3) rfl (iI_add _ _).symm (by decide) rfl (fun ls hl => ?_)
              refine lv_goto (tgt := 58) hx hb d_N_rootFlow_104 (by decide) ?_
              exact ih (i + 1) ((x + g) / 2) ls (by omega) (by rw [hg]; exact pn_newton_ge (by omega)) (by omega) (by rw [hg]; exact pn_gapN q3 q1 (by rw [← hg]; omega)) (by omega) (lv_sub hl [3, 1, 0] rfl)
            · skip
              refine lv_goto (tgt := 107) hx hb d_N_rootFlow_94 (by decide) ?_
              have hxr : x = pn_sq (A * A * d).toNat := by first | exact pn_exit1 q3 (by omega) q1 | exact (by omega : x = 0).trans (by omega) | exact pn_newton_stop (by omega) q1 (by rw [← hg]; omega)
              refine lv_lload hx hb d_N_rootFlow_107 (lv_at hl 2 rfl) ?_
              refine pr_l2i hx hb d_N_rootFlow_109 ?_
              exact pr_ri hx hb hr hlocks d_N_rootFlow_110 (by rw [hxr]; rfl)
    have loop1 : ∀ (n : Nat) (ab : Nat) (kk : Nat) (ls : Array Slot), (1 ≤ ab) → (ab ≤ 400) → (ab = 2 ^ kk) → (400 - ab) < n → lv_has ls 11 [(0, .int (iI (A))), (1, .int (iI (d))), (2, .long (lI (((ab : Nat) : Int)))), (4, .int (iI (((kk : Nat) : Int))))] → W p l e (headSpec w_N_rootFlow ({ frames := 0, cells := 0, slots := 0, locals := 0 })).room s m ([.int (iI (A)), .int (iI (d))] : List Value).toArray below meth c s.heap [] 0 0 (MQ below (vp_Si (fun r => r = iI (m_root A d))) ([.int (iI (A)), .int (iI (d))] : List Value).toArray s 0 0 (fun _ => False)) (F0 m 11 ls []) := by
      intro n
      induction n with
      | zero => intro ab kk ls _ _ _ hm; exact absurd hm (Nat.not_lt_zero _)
      | succ n ih =>
        intro ab kk ls q4 q5 q7 hm hl
        obtain ⟨b1, b2⟩ := pn_abs q5
        obtain ⟨b3, b4⟩ := pn_aab gA q5
        have q8 : kk < 9 := Nat.lt_of_not_le (fun h9 => absurd (Nat.pow_le_pow_right (n := 2) (by decide) h9) (by rw [← q7]; omega))
        refine lv_iload hx hb d_N_rootFlow_11 (lv_at hl 3 rfl) ?_
        refine lv_bipush (v := iI (32)) hx hb d_N_rootFlow_13 (by decide) ?_
        refine pr_icmp_ge (tgt := 39) hx hb (i3_of (by omega) (by omega)) (i3_of (by decide) (by decide)) d_N_rootFlow_15 (by decide) (fun c_5 => ?_) (fun c_5 => ?_)
        · skip
          exact absurd c_5 (by omega)
        · skip
          refine lv_lload_n hx hb d_N_rootFlow_18 rfl (lv_at hl 2 rfl) ?_
          refine lv_lload_n hx hb d_N_rootFlow_19 rfl (lv_at hl 2 rfl) ?_
          refine pr_lmul hx hb d_N_rootFlow_20 ?_
          refine lv_iload_n hx hb d_N_rootFlow_21 rfl (lv_at hl 1 rfl) ?_
          refine pr_i2l hx hb (i3_of (by omega) (by omega)) d_N_rootFlow_22 ?_
          refine pr_lcmp_ge (tgt := 39) hx hb (i6_of (by omega) (by omega)) (i6_of (by omega) (by omega)) d_N_rootFlow_23 d_N_rootFlow_24 (by decide) (fun c_6 => ?_) (fun c_6 => ?_)
          · skip
            refine lv_iload_n hx hb d_N_rootFlow_39 rfl (lv_at hl 0 rfl) ?_
            refine pr_i2l hx hb (i3_of (by omega) (by omega)) d_N_rootFlow_40 ?_
            refine lv_iload_n hx hb d_N_rootFlow_41 rfl (lv_at hl 0 rfl) ?_
            refine pr_i2l hx hb (i3_of (by omega) (by omega)) d_N_rootFlow_42 ?_
            refine pr_lmul hx hb d_N_rootFlow_43 ?_
            refine lv_iload_n hx hb d_N_rootFlow_44 rfl (lv_at hl 1 rfl) ?_
            refine pr_i2l hx hb (i3_of (by omega) (by omega)) d_N_rootFlow_45 ?_
            refine pr_lmul hx hb d_N_rootFlow_46 ?_
            refine pr_lre (B := (((A * A * d).toNat : Nat) : Int)) hN ?_
            refine lv_lstore (lv' := [(4, .long (lI ((((A * A * d).toNat : Nat) : Int)))), (0, .int (iI (A))), (1, .int (iI (d))), (2, .long (lI (((ab : Nat) : Int))))]) hx hb d_N_rootFlow_47 hl (by decide) rfl (fun ls hl => ?_)
            refine lv_iload_n hx hb d_N_rootFlow_49 rfl (lv_at hl 1 rfl) ?_
            refine pr_i2l hx hb (i3_of (by omega) (by omega)) d_N_rootFlow_50 ?_
            refine lv_lload_n hx hb d_N_rootFlow_51 rfl (lv_at hl 3 rfl) ?_
            refine pr_lmul hx hb d_N_rootFlow_52 ?_
            refine pr_lre (B := ((((A * ab).toNat : Nat)) : Int)) (Int.toNat_of_nonneg b3).symm ?_
            refine lv_lstore (lv' := [(6, .long (lI (((((A * ab).toNat : Nat)) : Int)))), (4, .long (lI ((((A * A * d).toNat : Nat) : Int)))), (0, .int (iI (A))), (1, .int (iI (d))), (2, .long (lI (((ab : Nat) : Int))))]) hx hb d_N_rootFlow_53 hl (by decide) rfl (fun ls hl => ?_)
            refine lv_iconst (v := iI (0)) hx hb d_N_rootFlow_55 rfl ?_
            refine lv_istore (lv' := [(8, .int (iI (0))), (6, .long (lI (((((A * ab).toNat : Nat)) : Int)))), (4, .long (lI ((((A * A * d).toNat : Nat) : Int)))), (0, .int (iI (A))), (1, .int (iI (d))), (2, .long (lI (((ab : Nat) : Int))))]) hx hb d_N_rootFlow_56 hl (by decide) rfl (fun ls hl => ?_)
            exact loop2 _ (0) ((A * ab).toNat) ls (by omega) (pn_root0 gA.1 (by omega)) (by omega) (by rw [Nat.pow_zero, Nat.mul_one]; omega) (Nat.lt_succ_self _) (lv_sub hl [2, 1, 0] rfl)
          · skip
            have q6 := pn_lt174 (ab := ab) (by omega)
            refine lv_lload_n hx hb d_N_rootFlow_27 rfl (lv_at hl 2 rfl) ?_
            refine lv_ldc2 (v := lI (2)) hx hb hown (ht (.constantLong _ 113 (lI (2))) m_469) d_N_rootFlow_28 ?_
            refine pr_lmul hx hb d_N_rootFlow_31 ?_
            refine lv_lstore_n (lv' := [(2, .long (lI ((((ab : Nat) : Int)) * (2)))), (0, .int (iI (A))), (1, .int (iI (d))), (4, .int (iI (((kk : Nat) : Int))))]) hx hb d_N_rootFlow_32 rfl hl (by decide) rfl (fun ls hl => ?_)
            refine lv_iinc (v := iI (((kk : Nat) : Int) + 1)) (lv' := [(4, .int (iI (((kk : Nat) : Int) + 1))), (2, .long (lI ((((ab : Nat) : Int)) * (2)))), (0, .int (iI (A))), (1, .int (iI (d)))]) hx hb d_N_rootFlow_33 hl (k := 3) rfl (iI_add _ _).symm (by decide) rfl (fun ls hl => ?_)
            refine lv_goto (tgt := 11) hx hb d_N_rootFlow_36 (by decide) ?_
            exact ih (ab * 2) (kk + 1) ls (by omega) (by omega) (by rw [Nat.pow_succ, ← q7]) (by omega) (lv_sub hl [2, 3, 1, 0] rfl)
    refine lv_iload_n hx hb d_N_rootFlow_0 rfl (lv_at hl 1 rfl) ?_
    refine pr_if_gt (tgt := 6) hx hb (i3_of (by omega) (by omega)) d_N_rootFlow_1 (by decide) (fun c_7 => ?_) (fun c_7 => ?_)
    · skip
      refine lv_lconst (v := lI 1) hx hb d_N_rootFlow_6 (by decide) ?_
      refine lv_lstore_n (lv' := [(2, .long (lI (1))), (0, .int (iI (A))), (1, .int (iI (d)))]) hx hb d_N_rootFlow_7 rfl hl (by decide) rfl (fun ls hl => ?_)
      refine lv_iconst (v := iI (0)) hx hb d_N_rootFlow_8 rfl ?_
      refine lv_istore (lv' := [(4, .int (iI (0))), (2, .long (lI (1))), (0, .int (iI (A))), (1, .int (iI (d)))]) hx hb d_N_rootFlow_9 hl (by decide) rfl (fun ls hl => ?_)
      exact loop1 _ (1) (0) ls (by omega) (by omega) (by decide) (Nat.lt_succ_self _) (lv_sub hl [2, 3, 1, 0] rfl)
    · skip
      exact absurd c_7 (by omega)
