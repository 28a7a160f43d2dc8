/-! the law's loop and its start -/
theorem and15 (v : Int32) : 0 ≤ (v &&& 15).toInt ∧ (v &&& 15).toInt ≤ 15 := by
  have h1 : (v &&& 15).toBitVec.toNat ≤ 15 := by
    show (v.toBitVec &&& (15 : Int32).toBitVec).toNat ≤ 15
    rw [BitVec.toNat_and]
    exact Nat.and_le_right
  have h2 : (v &&& 15).toInt = ((v &&& 15).toBitVec.toNat : Int) := by
    show (v &&& 15).toBitVec.toInt = _
    exact BitVec.toInt_eq_toNat_of_lt (by omega)
  omega
set_option maxHeartbeats 4000000 in
set_option maxRecDepth 100000 in
theorem lw_loop {p : Program} {e : Env} {s : State} {m : MethodId} {below : List Frame} {meth : Method} {c : Code} (l : Launch) (hst : l.stackTraces = false) {bs L : Nat} {xs : Nat → Int32} (hL : L ≤ 3072) (C0 : lw_At p s m meth c bs L xs) {D : va_G} {a b9 : Nat → Nat} {cI cL cD cS cZ : ClassId} {o : Nat} (hE : pn_E D cI cL cD cS s) (hEm : mn_E D cI cL cZ s) (hX : pn_X (fun q => s.heap.size ≤ q) s) (hNc : pn_Nc s)  : ∀ (n i K S : Nat) (v : vS) (u : vM) (g : Int → Int) (H : Heap) (locs : List Loc) (ls : Array Slot), 3072 - 6 * i < n → 6 * i ≤ L → K + (512 - i) ≤ 627858 → S + 6 * (512 - i) ≤ 7212529 → va_P D pn_cl ((cwv a cI cL cD cS v ++ vo cL o g) ++ mwv b9 cI cL cZ u) H → va_D (fun q => s.heap.size ≤ q) ((cwv a cI cL cD cS v ++ vo cL o g) ++ mwv b9 cI cL cZ u) → va_S (fun q => s.heap.size ≤ q) s.heap H locs → vJt v u → v.2.1 3 ≤ (i : Int) → lv_has ls 8 [(0, .ref bs), (1, .ref (a 0)), (2, .ref (b9 0)), (3, .ref o), (4, .int (iI (6 * (i : Int))))] → W p l e room_1 s m #[Value.ref bs] below meth c H locs K S (lw_Z below #[Value.ref bs] s) (F0 m 23 ls []) := by
  obtain ⟨hx, hb, hr, hml, hown, htl, hXs, hbl, hlocks, hgv⟩ := id C0
  have hA : ∀ q, s.heap.size ≤ q → (fun q => s.heap.size ≤ q) q := fun q h => h
  have hbA : ¬ (fun q => s.heap.size ≤ q) bs := fun h => by have : s.heap.size ≤ bs := h; omega
  intro n
  induction n with
  | zero => intro i K S v u g H locs ls hm; exact absurd hm (Nat.not_lt_zero _)
  | succ n ih =>
    intro i K S v u g H locs ls hm h6 hK hSl hP hD hS hJ hn hl
    refine lv_iload hx hb d_L_law_23 (lv_at hl 4 rfl) ?_
    refine lv_aload_n hx hb d_L_law_25 rfl (lv_at hl 0 rfl) ?_
    refine va_slen hx hb hXs hbl hbA hS d_L_law_26 ?_
    refine pr_ixe (B := (L : Int)) (nb_nI L).symm ?_
    refine lv_bipush (v := iI (6)) hx hb d_L_law_27 (by decide) ?_
    refine pr_isub hx hb d_L_law_29 ?_
    refine pr_icmp_gt (tgt := 1224) hx hb (i3_of (by omega) (by omega)) (i3_of (by omega) (by omega)) d_L_law_30 (by decide) (fun c9 => ?_) (fun c9 => ?_)
    · refine lv_iconst (v := 1) hx hb d_L_law_1224 (by decide) ?_
      refine va_forget (fun q hq => hS.2.2 q hq) ?_
      refine W.widen (k := 627858) (n := 7212529) (by omega) (by omega) ?_
      exact lw_ret hx hb hr hlocks d_L_law_1225
    · have hi : 6 * i + 6 ≤ L := by omega
      have kk : ∀ (v' : vS) (u' : vM) (g' : Int → Int) (H' : Heap) (locs' : List Loc) (ls' : Array Slot), va_P D pn_cl ((cwv a cI cL cD cS v' ++ vo cL o g') ++ mwv b9 cI cL cZ u') H' → va_D (fun q => s.heap.size ≤ q) ((cwv a cI cL cD cS v' ++ vo cL o g') ++ mwv b9 cI cL cZ u') → va_S (fun q => s.heap.size ≤ q) s.heap H' locs' → vJt v' u' → v'.2.1 3 ≤ (i : Int) + 1 → lv_has ls' 8 [(0, .ref bs), (1, .ref (a 0)), (2, .ref (b9 0)), (3, .ref o), (4, .int (iI (6 * (i : Int))))] → W p l e room_1 s m #[Value.ref bs] below meth c H' locs' (K + 1) (S + 6) (lw_Z below #[Value.ref bs] s) (F0 m 1218 ls' []) := by
        intro v' u' g' H' locs' ls' hP hD hS hJ hn hl
        refine lv_iinc (v := iI (6 * ((i + 1 : Nat) : Int))) (lv' := [(4, .int (iI (6 * ((i + 1 : Nat) : Int)))), (0, .ref bs), (1, .ref (a 0)), (2, .ref (b9 0)), (3, .ref o)]) hx hb d_L_law_1218 hl (k := 4) rfl (by rw [show 6 * ((i + 1 : Nat) : Int) = 6 * (i : Int) + 6 by omega]; exact (iI_add _ _).symm) (by decide) rfl (fun ls hl => ?_)
        refine lv_goto (tgt := 23) hx hb d_L_law_1221 (by decide) ?_
        exact ih (i + 1) (K + 1) (S + 6) v' u' g' H' locs' ls (by omega) (by omega) (by omega) (by omega) hP hD hS hJ (by omega) (lv_sub hl [1, 2, 3, 4, 0] rfl)
      refine lv_aload_n hx hb d_L_law_33 rfl (lv_at hl 0 rfl) ?_
      refine lv_iload hx hb d_L_law_34 (lv_at hl 4 rfl) ?_
      refine pr_sld (X := (xs (6 * i)).toInt) (n := 6 * i) hx hb hXs hbl hbA hS (by omega) (by omega) hL rfl d_L_law_36 ?_
      refine lv_bipush (v := 15) hx hb d_L_law_37 (by decide) ?_
      refine lv_iand hx hb d_L_law_39 ?_
      have hy := and15 (iI (xs (6 * i)).toInt)
      generalize iI (xs (6 * i)).toInt &&& 15 = y at hy ⊢
      rcases (show y.toInt = 0 ∨ y.toInt = 1 ∨ y.toInt = 2 ∨ y.toInt = 3 ∨ y.toInt = 4 ∨ y.toInt = 5 ∨ y.toInt = 6 ∨ y.toInt = 7 ∨ y.toInt = 8 ∨ y.toInt = 9 ∨ y.toInt = 10 ∨ y.toInt = 11 ∨ y.toInt = 12 ∨ y.toInt = 13 ∨ y.toInt = 14 ∨ y.toInt = 15 by omega) with hy9 | hy9 | hy9 | hy9 | hy9 | hy9 | hy9 | hy9 | hy9 | hy9 | hy9 | hy9 | hy9 | hy9 | hy9 | hy9
      · refine lv_tableIn (off := 80) (tgt := 120) hx hb d_L_law_40 (by omega) (by omega) (by rw [hy9]; rfl) (by decide) ?_
        exact lw_zone l hst hL C0 hE hEm hX hNc hA hbA hi hP hD hS hJ hn hl (by omega) (by omega) kk
      · refine lv_tableIn (off := 148) (tgt := 188) hx hb d_L_law_40 (by omega) (by omega) (by rw [hy9]; rfl) (by decide) ?_
        exact lw_wind l hst hL C0 hE hEm hX hNc hA hbA hi hP hD hS hJ hn hl (by omega) (by omega) kk
      · refine lv_tableIn (off := 216) (tgt := 256) hx hb d_L_law_40 (by omega) (by omega) (by rw [hy9]; rfl) (by decide) ?_
        exact lw_warmth l hst hL C0 hE hEm hX hNc hA hbA hi hP hD hS hJ hn hl (by omega) (by omega) kk
      · refine lv_tableIn (off := 284) (tgt := 324) hx hb d_L_law_40 (by omega) (by omega) (by rw [hy9]; rfl) (by decide) ?_
        exact lw_leak l hst hL C0 hE hEm hX hNc hA hbA hi hP hD hS hJ hn hl (by omega) (by omega) kk
      · refine lv_tableIn (off := 388) (tgt := 428) hx hb d_L_law_40 (by omega) (by omega) (by rw [hy9]; rfl) (by decide) ?_
        exact lw_shut l hst hL C0 hE hEm hX hNc hA hbA hi hP hD hS hJ hn hl (by omega) (by omega) kk
      · refine lv_tableIn (off := 479) (tgt := 519) hx hb d_L_law_40 (by omega) (by omega) (by rw [hy9]; rfl) (by decide) ?_
        exact lw_fan l hst hL C0 hE hEm hX hNc hA hbA hi hP hD hS hJ hn hl (by omega) (by omega) kk
      · refine lv_tableIn (off := 571) (tgt := 611) hx hb d_L_law_40 (by omega) (by omega) (by rw [hy9]; rfl) (by decide) ?_
        exact lw_pressure l hst hL C0 hE hEm hX hNc hA hbA hi hP hD hS hJ hn hl (by omega) (by omega) kk
      · refine lv_tableIn (off := 627) (tgt := 667) hx hb d_L_law_40 (by omega) (by omega) (by rw [hy9]; rfl) (by decide) ?_
        exact lw_told l hst hL C0 hE hEm hX hNc hA hbA hi hP hD hS hJ hn hl (by omega) (by omega) kk
      · refine lv_tableIn (off := 695) (tgt := 735) hx hb d_L_law_40 (by omega) (by omega) (by rw [hy9]; rfl) (by decide) ?_
        exact lw_blows l hst hL C0 hE hEm hX hNc hA hbA hi hP hD hS hJ hn hl (by omega) (by omega) kk
      · refine lv_tableIn (off := 751) (tgt := 791) hx hb d_L_law_40 (by omega) (by omega) (by rw [hy9]; rfl) (by decide) ?_
        exact lw_gain l hst hL C0 hE hEm hX hNc hA hbA hi hP hD hS hJ hn hl (by omega) (by omega) kk
      · refine lv_tableIn (off := 807) (tgt := 847) hx hb d_L_law_40 (by omega) (by omega) (by rw [hy9]; rfl) (by decide) ?_
        exact lw_caseOf l hst hL C0 hE hEm hX hNc hA hbA hi hP hD hS hJ hn hl (by omega) (by omega) kk
      · refine lv_tableIn (off := 863) (tgt := 903) hx hb d_L_law_40 (by omega) (by omega) (by rw [hy9]; rfl) (by decide) ?_
        exact lw_worst l hst hL C0 hE hEm hX hNc hA hbA hi hP hD hS hJ hn hl (by omega) (by omega) kk
      · refine lv_tableIn (off := 931) (tgt := 971) hx hb d_L_law_40 (by omega) (by omega) (by rw [hy9]; rfl) (by decide) ?_
        exact lw_put l hst hL C0 hE hEm hX hNc hA hbA hi hP hD hS hJ hn hl (by omega) (by omega) kk
      · refine lv_tableIn (off := 999) (tgt := 1039) hx hb d_L_law_40 (by omega) (by omega) (by rw [hy9]; rfl) (by decide) ?_
        exact lw_source l hst hL C0 hE hEm hX hNc hA hbA hi hP hD hS hJ hn hl (by omega) (by omega) kk
      · refine lv_tableIn (off := 1067) (tgt := 1107) hx hb d_L_law_40 (by omega) (by omega) (by rw [hy9]; rfl) (by decide) ?_
        exact lw_steps l hst hL C0 hE hEm hX hNc hA hbA hi hP hD hS hJ hn hl (by omega) (by omega) kk
      · refine lv_tableIn (off := 1123) (tgt := 1163) hx hb d_L_law_40 (by omega) (by omega) (by rw [hy9]; rfl) (by decide) ?_
        exact lw_gone l hst hL C0 hE hEm hX hNc hA hbA hi hP hD hS hJ hn hl (by omega) (by omega) kk
