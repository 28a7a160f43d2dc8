def pn_decl : List MethodName := [⟨"java/lang/RuntimeException", "<init>", "()V"⟩, ⟨"java/lang/RuntimeException", "<init>", "(Ljava/lang/String;)V"⟩, ⟨"java/lang/Exception", "<init>", "()V"⟩, ⟨"java/lang/Exception", "<init>", "(Ljava/lang/String;)V"⟩, ⟨"java/lang/Throwable", "<init>", "()V"⟩, ⟨"java/lang/Throwable", "<init>", "(Ljava/lang/String;)V"⟩]
def pn_Sv : Array Value → State → Outcome → State → Prop := fun _ st o t => o = .returned none ∧ t.heap = st.heap
/-! throws -/
def pn_X (A : Nat → Prop) (U : State) : Prop := vx_Zq Bundle.tN "UNASSIGNED_STACK" Bundle.steD A U U.heap ∧ vx_Zq Bundle.tN "SUPPRESSED_SENTINEL" Bundle.listD A U U.heap ∧ (∃ sa, vk_R "PressureNets" 164 "out of bounds, or there is no such thing" sa U) ∧ (∃ sa, vk_R "PressureNets" 171 "there are as many as there can be" sa U) ∧ va_Nw (.castable "java/lang/IllegalArgumentException" "java/lang/IllegalArgumentException") U ∧ va_Nw (.castable "java/lang/IllegalStateException" "java/lang/IllegalStateException") U ∧ ∀ y ∈ pn_decl, va_Nw (.declares y) U
theorem pn_X.same {A : Nat → Prop} {s U : State} (hv : U.vm = s.vm) (hh : U.heap = s.heap) (h : pn_X A s) : pn_X A U := by
  have ha : s.vm.Alike U.vm := by rw [hv]; exact Vm.Alike.refl s.vm
  obtain ⟨h1, h2, ⟨a, h3⟩, ⟨b, h4⟩, h5, h6, h7⟩ := h
  exact ⟨by rw [hh]; exact vx_Zq.moved ha h1, by rw [hh]; exact vx_Zq.moved ha h2, ⟨a, vk_R.same hv h3⟩, ⟨b, vk_R.same hv h4⟩, va_Nw.same rfl hv.symm h5, va_Nw.same rfl hv.symm h6, fun y hy => va_Nw.same rfl hv.symm (h7 y hy)⟩
theorem pn_X.move {A B : Nat → Prop} {s U : State} {H : Heap} {locs : List Loc} (hW : s.WarmedH U.vm) (hH : U.heap = H) (hS : va_S A s.heap H locs) (hB : ∀ q, B q → A q) (h : pn_X A s) : pn_X B U := by
  obtain ⟨h1, h2, ⟨a, h3⟩, ⟨b, h4⟩, h5, h6, h7⟩ := h
  exact ⟨by rw [hH]; exact (vx_Zq.moved hW.alike (h1.kept hS.2.1)).narrow hB, by rw [hH]; exact (vx_Zq.moved hW.alike (h2.kept hS.2.1)).narrow hB, ⟨a, vk_R.warm hW h3⟩, ⟨b, vk_R.warm hW h4⟩, va_Nw.warmC hW h5, va_Nw.warmC hW h6, fun y hy => va_Nw.warmD hW (h7 y hy)⟩
section PX
variable {p : Program} {l : Launch} {e : Env} {R : Room} {s : State} {m : MethodId} {args : Array Value} {below : List Frame} {meth : Method} {c : Code} {H : Heap} {locs : List Loc} {cells slots : Nat}
variable {pc : Nat} {ls : Array Slot} {rest st0 : List Value} {A0 : Nat → Prop} {a : Array Value} {H0 : Heap} {mc ms : Nat} {free : Addr → Prop} {Qc : Array Value → State → Outcome → State → Prop} {XC : String → State → State → Prop} {cls : String}
theorem px_throw (hr : vx_Run p l e R s m args below meth c H locs cells slots 1 6 (F0 m pc ls st0) rest (va_Qv (fun _ : Unit => False) (fun _ _ => True) (fun q => H.size ≤ q) a) (vx_X (fun _ : Unit => True) (fun E _ _ => E = cls) (fun q => H.size ≤ q)) (fun q => H.size ≤ q)) (hS : va_S A0 H0 H locs) (hA : ∀ q, H0.size ≤ q → A0 q) (hout : ∀ x ∈ c.exceptionTable.toList, covers x pc = false) (hlocks : meth.locks = false) (hc : cells + 1 ≤ mc) (hs : slots + 6 ≤ ms) (hfree : ∀ q, A0 q → free q)
    (hx : ∀ (t : State) (H1 : Heap) (locs1 : List Loc), t.heap = H1 → (∀ q : Nat, q < H.size → H1[q]? = H[q]?) → va_S A0 H0 H1 locs1 → XC cls s t) : W p l e R s m args below meth c H locs cells slots (vx_MQ below Qc XC args s mc ms free) (F0 m pc ls st0) := by
  have hA2 : ∀ q, H.size ≤ q → A0 q := fun q h => hA q (Nat.le_trans hS.1 h)
  refine vx_callv hr hS (fun q h1 h2 => hA2 q h2) (fun q h => hA2 q h) (fun q h1 h2 => hA2 q h2) (fun E ce q9 u t H1 locs1 ht hvm _ hE hz hk hS1 hce hcv hcl => ?_) (fun u t H1 locs1 _ _ hp => absurd hp id)
  subst hE
  exact vx_out hout hlocks hce hcv hcl (fun t2 ht2 _ => hx t2 H1 locs1 ht2 (fun q hq => hk q hq (Nat.not_le.mpr hq)) hS1) (fun z hz2 => hfree _ (hS1.2.2 z hz2)) hc hs
theorem pr_pv {Q : State → Prop} (hr : va_Run p l e R s m args below meth c H locs cells slots 0 0 (F0 m pc ls st0) rest (pn_Sv a) (fun _ => False)) (k : W p l e R s m args below meth c H locs cells slots Q (F0 m (pc + 3) ls rest)) : W p l e R s m args below meth c H locs cells slots Q (F0 m pc ls st0) := by
  intro T hT X
  obtain ⟨v, st₀, t, T', L, h0, X', hL, e1, e2, ⟨hv, hh⟩, st⟩ := hr T hT X
  cases hv
  obtain ⟨t2, a1, b1⟩ := k T' (by rw [e1, hh, h0]) (Stand.forget X' (fun q h => (hL q h).elim))
  exact ⟨t2, st t2 a1, b1⟩
end PX
theorem xa_P_demandLegal : ∀ w ∈ (vx_atS R_P 166 "java/lang/IllegalArgumentException" ["java/lang/RuntimeException", "java/lang/Exception"]).filter goodWord, w ∈ lw_tbl := by decide +kernel
theorem xb_P_demandLegal : ∀ w ∈ (vx_atS R_P 166 "java/lang/IllegalArgumentException" ["java/lang/RuntimeException", "java/lang/Exception"]).filter (fun w => !goodWord w), w ∈ Cond.castable "java/lang/IllegalArgumentException" "java/lang/IllegalArgumentException" :: pn_decl.map Cond.declares := by decide +kernel
theorem xg_P_demandLegal : ∀ w ∈ Cond.classLink R_P 162 "java/lang/IllegalArgumentException" :: Cond.initialized "java/lang/IllegalArgumentException" :: vx_atS R_P 166 "java/lang/IllegalArgumentException" ["java/lang/RuntimeException", "java/lang/Exception"], vx_ot w = true := by decide +kernel
abbrev w_P_demandLegal : List Cond := .code y_P_demandLegal b_P_demandLegal 1 none :: pn_W
set_option maxHeartbeats 4000000 in
set_option maxRecDepth 100000 in
theorem c_P_demandLegal (l : Launch) : Met l y_P_demandLegal w_P_demandLegal ({ frames := 6, cells := 0, slots := 0, locals := 90 }) (va_Pc [.int (iI 1)] (fun _ => True)) pn_Sv 0 0 (fun _ => False) := by
  refine Met.ofW (cc := b_P_demandLegal) (maxL := 1) (ret := none) (by decide) rfl ?_
  intro p e s m args below meth c s₁ B hml hv
  obtain ⟨rfl, -⟩ := hv
  have hx := B.exec
  have hb := B.bytes
  have hr := B.returns
  have hlocks := B.notSynchronized
  have hl := lv_entry ([.int (iI 1)]) (n := 1) (Nat.le_of_ble_eq_true rfl)
  rw [lg_entry_eq]
  generalize (lg_sl ([.int (iI 1)]) ++ List.replicate (1 - (lg_sl ([.int (iI 1)])).length) Slot.unset).toArray = ls at hl ⊢
  have hl : lv_has ls 1 [(0, .int (iI 1))] := hl
  refine lv_iload_n hx hb d_P_demandLegal_0 rfl (lv_at hl 0 rfl) ?_
  refine pr_if_ne (tgt := 14) hx hb (i3_of (by decide) (by decide)) d_P_demandLegal_1 (by decide) (fun c_1 => ?_) (fun c_1 => absurd c_1 (by decide))
  exact W.vret hx hb hr (fun t ht hW => ⟨rfl, ht⟩) (fun q h => nomatch h) d_P_demandLegal_14
set_option maxHeartbeats 4000000 in
set_option maxRecDepth 100000 in
theorem x_P_demandLegal (l : Launch) (hst : l.stackTraces = false) (sz : Nat) : vx_Met l y_P_demandLegal w_P_demandLegal ({ frames := 6, cells := 1, slots := 6, locals := 90 }) (va_Pc [.int (iI 0)] (fun U => U.heap.size = sz ∧ pn_X (fun q => sz ≤ q) U)) (va_Qv (fun _ : Unit => False) (fun _ _ => True) (fun q => sz ≤ q)) (vx_X (fun _ : Unit => True) (fun E _ _ => E = "java/lang/IllegalArgumentException") (fun q => sz ≤ q)) 1 6 (fun q => sz ≤ q) := by
  refine vx_ofW (cc := b_P_demandLegal) (maxL := 1) (ret := none) (by decide) rfl ?_
  intro p e s m args below meth c s₁ B hml htab hv
  obtain ⟨rfl, hsz, h1, h2, ⟨sa, h3⟩, ⟨sb, h4⟩, h5, h6, h7⟩ := hv
  subst hsz
  have hx := B.exec
  have hb := B.bytes
  have hr := B.returns
  have hts := atoms_spec (ws := w_P_demandLegal) B.pre
  have ht : ∀ w ∈ pn_W, w.before _ s = true := fun w h => hts w (List.mem_cons_of_mem _ h)
  have hown : s.vm.findClass R_P = some m.cls := findClass_of_methodNamed B.named
  have hlocks := B.notSynchronized
  have hS : va_S (fun q : Nat => s.heap.size ≤ q) s.heap s.heap [] := va_S.rf
  have hl := lv_entry ([.int (iI 0)]) (n := 1) (Nat.le_of_ble_eq_true rfl)
  rw [lg_entry_eq]
  generalize (lg_sl ([.int (iI 0)]) ++ List.replicate (1 - (lg_sl ([.int (iI 0)])).length) Slot.unset).toArray = ls at hl ⊢
  have hl : lv_has ls 1 [(0, .int (iI 0))] := hl
  refine lv_iload_n hx hb d_P_demandLegal_0 rfl (lv_at hl 0 rfl) ?_
  refine pr_if_ne (tgt := 14) hx hb (i3_of (by decide) (by decide)) d_P_demandLegal_1 (by decide) (fun c_1 => absurd c_1 (by decide)) (fun c_1 => ?_)
  refine vx_throwS (cls := "java/lang/IllegalArgumentException") (text := "out of bounds, or there is no such thing") (names := ["java/lang/RuntimeException", "java/lang/Exception"]) (ik := 162) (is := 164) (ic := 166) hx hb hst hown (by decide) (by decide) (ht _ m_234) (ht _ m_42) h3 (vx_hat (fun w hw => ht w (List.mem_filter.mpr ⟨xa_P_demandLegal w hw, (List.mem_filter.mp hw).2⟩)) xb_P_demandLegal (vx_c (va_Nw.use rfl h5) (fun w hw => by obtain ⟨y, hy, rfl⟩ := List.mem_map.mp hw; exact va_Nw.use rfl (h7 y hy)))) xg_P_demandLegal h1 h2 hS (hl.1.trans hml.symm) d_P_demandLegal_4 d_P_demandLegal_7 d_P_demandLegal_8 d_P_demandLegal_10 d_P_demandLegal_13 (fun x hx9 => (htab x hx9).elim) (Nat.le_of_ble_eq_true rfl) (Nat.le_of_ble_eq_true rfl) (Nat.le_of_ble_eq_true rfl) (Nat.le_of_ble_eq_true rfl) hlocks (fun t _ hz hq => ⟨(), trivial, rfl, hz, fun q hq2 _ => hq q hq2⟩) (fun z hz => nomatch hz) (Nat.le_refl _) (Nat.le_refl _)
theorem xa_P_demandRoom : ∀ w ∈ (vx_atS R_P 173 "java/lang/IllegalStateException" ["java/lang/RuntimeException", "java/lang/Exception"]).filter goodWord, w ∈ lw_tbl := by decide +kernel
theorem xb_P_demandRoom : ∀ w ∈ (vx_atS R_P 173 "java/lang/IllegalStateException" ["java/lang/RuntimeException", "java/lang/Exception"]).filter (fun w => !goodWord w), w ∈ Cond.castable "java/lang/IllegalStateException" "java/lang/IllegalStateException" :: pn_decl.map Cond.declares := by decide +kernel
theorem xg_P_demandRoom : ∀ w ∈ Cond.classLink R_P 169 "java/lang/IllegalStateException" :: Cond.initialized "java/lang/IllegalStateException" :: vx_atS R_P 173 "java/lang/IllegalStateException" ["java/lang/RuntimeException", "java/lang/Exception"], vx_ot w = true := by decide +kernel
abbrev w_P_demandRoom : List Cond := .code y_P_demandRoom b_P_demandRoom 1 none :: pn_W
set_option maxHeartbeats 4000000 in
set_option maxRecDepth 100000 in
theorem c_P_demandRoom (l : Launch) : Met l y_P_demandRoom w_P_demandRoom ({ frames := 6, cells := 0, slots := 0, locals := 90 }) (va_Pc [.int (iI 1)] (fun _ => True)) pn_Sv 0 0 (fun _ => False) := by
  refine Met.ofW (cc := b_P_demandRoom) (maxL := 1) (ret := none) (by decide) rfl ?_
  intro p e s m args below meth c s₁ B hml hv
  obtain ⟨rfl, -⟩ := hv
  have hx := B.exec
  have hb := B.bytes
  have hr := B.returns
  have hlocks := B.notSynchronized
  have hl := lv_entry ([.int (iI 1)]) (n := 1) (Nat.le_of_ble_eq_true rfl)
  rw [lg_entry_eq]
  generalize (lg_sl ([.int (iI 1)]) ++ List.replicate (1 - (lg_sl ([.int (iI 1)])).length) Slot.unset).toArray = ls at hl ⊢
  have hl : lv_has ls 1 [(0, .int (iI 1))] := hl
  refine lv_iload_n hx hb d_P_demandRoom_0 rfl (lv_at hl 0 rfl) ?_
  refine pr_if_ne (tgt := 14) hx hb (i3_of (by decide) (by decide)) d_P_demandRoom_1 (by decide) (fun c_1 => ?_) (fun c_1 => absurd c_1 (by decide))
  exact W.vret hx hb hr (fun t ht hW => ⟨rfl, ht⟩) (fun q h => nomatch h) d_P_demandRoom_14
set_option maxHeartbeats 4000000 in
set_option maxRecDepth 100000 in
theorem x_P_demandRoom (l : Launch) (hst : l.stackTraces = false) (sz : Nat) : vx_Met l y_P_demandRoom w_P_demandRoom ({ frames := 6, cells := 1, slots := 6, locals := 90 }) (va_Pc [.int (iI 0)] (fun U => U.heap.size = sz ∧ pn_X (fun q => sz ≤ q) U)) (va_Qv (fun _ : Unit => False) (fun _ _ => True) (fun q => sz ≤ q)) (vx_X (fun _ : Unit => True) (fun E _ _ => E = "java/lang/IllegalStateException") (fun q => sz ≤ q)) 1 6 (fun q => sz ≤ q) := by
  refine vx_ofW (cc := b_P_demandRoom) (maxL := 1) (ret := none) (by decide) rfl ?_
  intro p e s m args below meth c s₁ B hml htab hv
  obtain ⟨rfl, hsz, h1, h2, ⟨sa, h3⟩, ⟨sb, h4⟩, h5, h6, h7⟩ := hv
  subst hsz
  have hx := B.exec
  have hb := B.bytes
  have hr := B.returns
  have hts := atoms_spec (ws := w_P_demandRoom) B.pre
  have ht : ∀ w ∈ pn_W, w.before _ s = true := fun w h => hts w (List.mem_cons_of_mem _ h)
  have hown : s.vm.findClass R_P = some m.cls := findClass_of_methodNamed B.named
  have hlocks := B.notSynchronized
  have hS : va_S (fun q : Nat => s.heap.size ≤ q) s.heap s.heap [] := va_S.rf
  have hl := lv_entry ([.int (iI 0)]) (n := 1) (Nat.le_of_ble_eq_true rfl)
  rw [lg_entry_eq]
  generalize (lg_sl ([.int (iI 0)]) ++ List.replicate (1 - (lg_sl ([.int (iI 0)])).length) Slot.unset).toArray = ls at hl ⊢
  have hl : lv_has ls 1 [(0, .int (iI 0))] := hl
  refine lv_iload_n hx hb d_P_demandRoom_0 rfl (lv_at hl 0 rfl) ?_
  refine pr_if_ne (tgt := 14) hx hb (i3_of (by decide) (by decide)) d_P_demandRoom_1 (by decide) (fun c_1 => absurd c_1 (by decide)) (fun c_1 => ?_)
  refine vx_throwS (cls := "java/lang/IllegalStateException") (text := "there are as many as there can be") (names := ["java/lang/RuntimeException", "java/lang/Exception"]) (ik := 169) (is := 171) (ic := 173) hx hb hst hown (by decide) (by decide) (ht _ m_304) (ht _ m_43) h4 (vx_hat (fun w hw => ht w (List.mem_filter.mpr ⟨xa_P_demandRoom w hw, (List.mem_filter.mp hw).2⟩)) xb_P_demandRoom (vx_c (va_Nw.use rfl h6) (fun w hw => by obtain ⟨y, hy, rfl⟩ := List.mem_map.mp hw; exact va_Nw.use rfl (h7 y hy)))) xg_P_demandRoom h1 h2 hS (hl.1.trans hml.symm) d_P_demandRoom_4 d_P_demandRoom_7 d_P_demandRoom_8 d_P_demandRoom_10 d_P_demandRoom_13 (fun x hx9 => (htab x hx9).elim) (Nat.le_of_ble_eq_true rfl) (Nat.le_of_ble_eq_true rfl) (Nat.le_of_ble_eq_true rfl) (Nat.le_of_ble_eq_true rfl) hlocks (fun t _ hz hq => ⟨(), trivial, rfl, hz, fun q hq2 _ => hq q hq2⟩) (fun z hz => nomatch hz) (Nat.le_refl _) (Nat.le_refl _)
