/-! rows for the law: methods with a table of handlers, worlds side by side -/
theorem vl_ofWH {l : Launch} {y : MethodName} {ws ws' : List Cond} {rm : Room} {Pc : Array Value → State → Prop} {Qc : Array Value → State → Outcome → State → Prop} {mc ms : Nat} {free : Addr → Prop} {cc : ByteArray} {maxL : Nat} {ret : Option FieldType} {hh : List (Nat × Nat × Nat × Nat)}
    (hy : plainName y.cls = true) (hw : ws = Cond.codeWith y cc maxL ret hh :: ws')
    (body : ∀ p e s m args below meth c s₁, BodyLoose p l y (headSpec ws rm) cc maxL ret e s m args below meth c s₁ → c.maxLocals = maxL → Pc args s →
      W p l e (headSpec ws rm).room s m args below meth c s.heap [] 0 0 (MQ below Qc args s mc ms free) (entryFrame m args maxL)) : Met l y ws rm Pc Qc mc ms free := by
  refine MetFree.of_bodyS (code := cc) (maxLocals := maxL) (ret := ret) hy ?_ ?_
  · intro args s m h hn
    obtain ⟨m9, meth, c, hn9, h1, h2, h3, h4, -, h5, h6, -⟩ := Cond.codeWith_spec (atoms_spec (ws := ws) h _ (by rw [hw]; exact List.mem_cons_self))
    cases hn.symm.trans hn9
    exact ⟨meth, c, h1, h2, h3, h4, h5, h6⟩
  · intro p e s m args below meth c s₁ B hml hP _
    have hh0 : s₁.heap = s.heap := by rw [B.state]; rfl
    obtain ⟨t, a1, o, b1, b2, b3⟩ := body p e s m args below meth c s₁ B hml hP s₁ hh0 (Stand.of_body B)
    exact ⟨t, o, a1, b1, b2, ⟨b3.1, b3.2⟩⟩
section VJA
variable {D : va_G} {cl : List vw_C} {wc wr w1 : va_W} {H H1 : Heap} {A0 : Nat → Prop}
theorem vj_PL (h : va_P D cl (wc ++ wr) H) : va_P D cl wc H := fun k q hk => h k q (by rw [List.getElem?_append_left (List.getElem?_eq_some_iff.mp hk).1]; exact hk)
theorem vj_PR (h : va_P D cl (wc ++ wr) H) : va_P D cl wr H := fun k q hk => h (wc.length + k) q (by rw [List.getElem?_append_right (by omega), Nat.add_sub_cancel_left]; exact hk)
theorem vj_DL (h : va_D A0 (wc ++ wr)) : va_D A0 wc := ⟨fun i j p q hi hj e => h.1 i j p q (by rw [List.getElem?_append_left (List.getElem?_eq_some_iff.mp hi).1]; exact hi) (by rw [List.getElem?_append_left (List.getElem?_eq_some_iff.mp hj).1]; exact hj) e, fun k q hk => h.2 k q (by rw [List.getElem?_append_left (List.getElem?_eq_some_iff.mp hk).1]; exact hk)⟩
theorem vj_DR (h : va_D A0 (wc ++ wr)) : va_D A0 wr := ⟨fun i j p q hi hj e => by
    have := h.1 (wc.length + i) (wc.length + j) p q (by rw [List.getElem?_append_right (by omega), Nat.add_sub_cancel_left]; exact hi) (by rw [List.getElem?_append_right (by omega), Nat.add_sub_cancel_left]; exact hj) e
    omega, fun k q hk => h.2 (wc.length + k) q (by rw [List.getElem?_append_right (by omega), Nat.add_sub_cancel_left]; exact hk)⟩
theorem vj_ap (h : va_D A0 (wc ++ wr)) : ∀ (i j : Nat) (p q : Nat × va_E), wc[i]? = some p → wr[j]? = some q → p.1 ≠ q.1 := fun i j p q hi hj e => by
  have hl := (List.getElem?_eq_some_iff.mp hi).1
  have := h.1 i (wc.length + j) p q (by rw [List.getElem?_append_left hl]; exact hi) (by rw [List.getElem?_append_right (by omega), Nat.add_sub_cancel_left]; exact hj) e
  omega
/-- a call over the left part: the right part stays -/
theorem vj_app (hP : va_P D cl (wc ++ wr) H) (hD : va_D A0 (wc ++ wr)) (hk : ∀ q : Nat, q < H.size → ¬ va_A wc H.size q → H1[q]? = H[q]?) (hA : ∀ q, va_A wc H.size q → A0 q) (hP1 : va_P D cl w1 H1) (hD1 : va_D (va_A wc H.size) w1) : va_P D cl (w1 ++ wr) H1 ∧ va_D A0 (w1 ++ wr) := by
  have hPr := vj_PR hP
  have hno : ∀ (j : Nat) (q : Nat × va_E), wr[j]? = some q → q.1 < H.size ∧ ¬ va_A wc H.size q.1 := fun j q hq => by
    have hlt := (hPr j q hq).lt
    refine ⟨hlt, fun h => ?_⟩
    rcases h with ⟨k, e, h⟩ | h
    · exact vj_ap hD k j (q.1, e) q h hq rfl
    · omega
  refine ⟨va_P.app hP1 (hPr.kept (fun k q hq => hk q.1 (hno k q hq).1 (hno k q hq).2)), va_D.app (hD1.weaken (fun k q _ h => hA q.1 h)) (vj_DR hD) (fun i j x y hx hy hxy => ?_)⟩
  exact (hno j y hy).2 (by rw [← hxy]; exact hD1.2 i x hx)
theorem vj_swP (h : va_P D cl (wc ++ wr) H) : va_P D cl (wr ++ wc) H := va_P.app (vj_PR h) (vj_PL h)
theorem vj_swD (h : va_D A0 (wc ++ wr)) : va_D A0 (wr ++ wc) := va_D.app (vj_DR h) (vj_DL h) (fun i j x y hx hy e => vj_ap h j i y x hy hx e.symm)
end VJA
/-- the class's parts and the reference's -/
abbrev vS : Type := (Nat → Int → Int) × (Nat → Int) × (Int → Int → Int) × (Int → Int) × (Nat → Int → Int) × (Nat → Int → Int) × Int × (Nat → Nat) × (Nat → Int) × (Nat → Int) × (Nat → Int → Int)
abbrev vM : Type := (Nat → Int → Int) × (Nat → Int → Int) × (Int → Int) × (Nat → Int)
abbrev vo (cL : ClassId) (o : Nat) (g : Int → Int) : va_W := [(o, .inl (cL, 1, .inr (.inl (al g))))]
abbrev cwv (a : Nat → Nat) (cI cL cD cS : ClassId) (v : vS) : va_W := cw a cI cL cD cS v.1 v.2.1 v.2.2.1 v.2.2.2.1 v.2.2.2.2.1 v.2.2.2.2.2.1 v.2.2.2.2.2.2.1 v.2.2.2.2.2.2.2.1 v.2.2.2.2.2.2.2.2.1 v.2.2.2.2.2.2.2.2.2.1 v.2.2.2.2.2.2.2.2.2.2
abbrev mwv (b : Nat → Nat) (cI cL cZ : ClassId) (m : vM) : va_W := mw b cI cL cZ m.1 m.2.1 m.2.2.1 m.2.2.2
theorem lI_toInt (v : Int64) : v = lI v.toInt := (Int64.ofInt_toInt v).symm
section PXL
variable {s : State} {H : Heap} {D : va_G} {cI cL cD cS : ClassId} {ws : va_W} {A : Nat → Prop} {locs : List Loc}
theorem pn_preP {As : List Value} {b q0 ci : Nat} {q : vw_C} {fs : List Value} (hP : va_P D pn_cl ws H) (hD : va_D A ws) (hE : pn_E D cI cL cD cS s) (hX : pn_X A s) (hS : va_S A s.heap H locs) (hA : ∀ q, s.heap.size ≤ q → A q) (hc : pn_cl[ci]? = some q) (he : ws[q0]? = some (b, .inr (ci, fs))) : PreV s H q.1 b (va_Pc (.ref b :: As) (fun U => U.heap.size = H.size ∧ va_P D pn_cl ws U.heap ∧ va_D (fun _ => True) ws ∧ pn_E D cI cL cD cS U ∧ pn_X (va_A ws H.size) U)) As :=
  ⟨fun _ _ _ _ q => ⟨q.1, q.2.1, q.2.2.1, q.2.2.2.1, pn_E.same rfl q.2.2.2.2.1, pn_X.same rfl rfl q.2.2.2.2.2⟩, va_recv hE.1 hP hc he, fun U hU hW => ⟨rfl, by rw [hU], by rw [hU]; exact hP, hD.weaken (fun _ _ _ _ => trivial), pn_E.warm hW hE, pn_X.move hW hU hS (fun q h => pr_all hD hS hA q h) hX⟩⟩
def pn_Nc (U : State) : Prop := va_Nc "java/lang/IllegalStateException" "java/lang/IllegalArgumentException" U
theorem pn_preL {As : List Value} (hP : va_P D pn_cl ws H) (hD : va_D A ws) (hE : pn_E D cI cL cD cS s) (hX : pn_X A s) (hN : pn_Nc s) (hS : va_S A s.heap H locs) (hA : ∀ q, s.heap.size ≤ q → A q) : PreS s H (va_Pc As (fun U => U.heap.size = H.size ∧ va_P D pn_cl ws U.heap ∧ va_D (fun _ => True) ws ∧ pn_E D cI cL cD cS U ∧ pn_X (va_A ws H.size) U ∧ pn_Nc U)) As :=
  ⟨fun _ _ _ _ q => ⟨q.1, q.2.1, q.2.2.1, q.2.2.2.1, pn_E.same rfl q.2.2.2.2.1, pn_X.same rfl rfl q.2.2.2.2.2.1, va_Nc.moved (Vm.Alike.refl _) q.2.2.2.2.2.2⟩, fun U hU hW => ⟨rfl, by rw [hU], by rw [hU]; exact hP, hD.weaken (fun _ _ _ _ => trivial), pn_E.warm hW hE, pn_X.move hW hU hS (fun q h => pr_all hD hS hA q h) hX, va_Nc.moved hW.alike hN⟩⟩
end PXL
/-- a leak more: the class's own parts -/
theorem vl_leak {D : va_G} {a : Nat → Nat} {cI cL cD cS : ClassId} {nf NF : Nat → Int → Int} {ns NS : Nat → Int} {da DA : Int → Int → Int} {be : Int → Int} {ui ul : Nat → Int → Int} {cn : Int} {ss : Nat → Nat} {mf sd : Nat → Int} {pr : Nat → Int → Int} {x y z xa xb : Int} {A : Nat → Prop} {H : Heap} (hB : va_P D pn_cl (cw a cI cL cD cS NF NS DA be ui ul cn ss mf sd pr) H ∧ va_D A (cw a cI cL cD cS NF NS DA be ui ul cn ss mf sd pr)) (h : v_lk nf ns da x y z xa xb NF NS DA) :
    ∃ (nf' : Nat → Int → Int) (ns' : Nat → Int) (da' : Int → Int → Int), v_lk nf ns da x y z xa xb nf' ns' da' ∧ va_P D pn_cl (cw a cI cL cD cS nf' ns' da' be ui ul cn ss mf sd pr) H ∧ va_D A (cw a cI cL cD cS nf' ns' da' be ui ul cn ss mf sd pr) := ⟨NF, NS, DA, h, hB.1, hB.2⟩
theorem vl_fan {D : va_G} {a : Nat → Nat} {cI cL cD cS : ClassId} {nf NF : Nat → Int → Int} {ns NS : Nat → Int} {da DA : Int → Int → Int} {be : Int → Int} {ui ul : Nat → Int → Int} {cn : Int} {ss : Nat → Nat} {mf sd : Nat → Int} {pr : Nat → Int → Int} {x y z xa : Int} {A : Nat → Prop} {H : Heap} (hB : va_P D pn_cl (cw a cI cL cD cS NF NS DA be ui ul cn ss mf sd pr) H ∧ va_D A (cw a cI cL cD cS NF NS DA be ui ul cn ss mf sd pr)) (h : v_fn nf ns da x y z xa NF NS DA) :
    ∃ (nf' : Nat → Int → Int) (ns' : Nat → Int) (da' : Int → Int → Int), v_fn nf ns da x y z xa nf' ns' da' ∧ va_P D pn_cl (cw a cI cL cD cS nf' ns' da' be ui ul cn ss mf sd pr) H ∧ va_D A (cw a cI cL cD cS nf' ns' da' be ui ul cn ss mf sd pr) := ⟨NF, NS, DA, h, hB.1, hB.2⟩
