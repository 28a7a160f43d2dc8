/-! the world of the reference: mi: winds warmths volumes sources leakA leakB heights areas kinds fanA fanB fanFlow slopes sets state; ml: holds gone next nextGone; mz: isShut; ms: code air zones leaks fans cases closed -/
def mw (b : Nat → Nat) (cI cL cZ : ClassId) (mi ml : Nat → Int → Int) (mz : Int → Int) (ms : Nat → Int) : va_W := [
  (b 0, .inr (5, [.int (iI (ms 0)), .ref (b 1), .int (iI (ms 1)), .int (iI (ms 2)), .ref (b 2), .ref (b 3), .ref (b 4), .ref (b 5), .int (iI (ms 3)), .ref (b 6), .ref (b 7), .ref (b 8), .ref (b 9), .ref (b 10), .ref (b 11), .int (iI (ms 4)), .ref (b 12), .ref (b 13), .ref (b 14), .ref (b 15), .int (iI (ms 5)), .ref (b 16), .ref (b 17), .ref (b 18), .int (iI (ms 6)), .ref (b 19), .ref (b 20)])),
  (b 1, .inl (cI, 4, .inl (ai (mi 0)))),
  (b 2, .inl (cI, 8, .inl (ai (mi 1)))),
  (b 3, .inl (cI, 8, .inl (ai (mi 2)))),
  (b 4, .inl (cL, 8, .inr (.inl (al (ml 0))))),
  (b 5, .inl (cI, 8, .inl (ai (mi 3)))),
  (b 6, .inl (cI, 20, .inl (ai (mi 4)))),
  (b 7, .inl (cI, 20, .inl (ai (mi 5)))),
  (b 8, .inl (cI, 20, .inl (ai (mi 6)))),
  (b 9, .inl (cI, 20, .inl (ai (mi 7)))),
  (b 10, .inl (cI, 20, .inl (ai (mi 8)))),
  (b 11, .inl (cZ, 20, .inl (ai mz))),
  (b 12, .inl (cI, 4, .inl (ai (mi 9)))),
  (b 13, .inl (cI, 4, .inl (ai (mi 10)))),
  (b 14, .inl (cI, 4, .inl (ai (mi 11)))),
  (b 15, .inl (cI, 4, .inl (ai (mi 12)))),
  (b 16, .inl (cI, 8, .inl (ai (mi 13)))),
  (b 17, .inl (cL, 4, .inr (.inl (al (ml 1))))),
  (b 18, .inl (cI, 8, .inl (ai (mi 14)))),
  (b 19, .inl (cL, 8, .inr (.inl (al (ml 2))))),
  (b 20, .inl (cL, 4, .inr (.inl (al (ml 3)))))]
abbrev mn_tys (cI cL cZ : ClassId) : List (ClassId × FieldType) := [(cI, .int), (cL, .long), (cZ, .boolean)]
def mn_E (D : va_G) (cI cL cZ : ClassId) (U : State) : Prop := va_K D pn_cl (mn_tys cI cL cZ) U
theorem mn_E.warm {D : va_G} {cI cL cZ : ClassId} {s U : State} (hW : s.WarmedH U.vm) (h : mn_E D cI cL cZ s) : mn_E D cI cL cZ U := va_K.moved hW.alike h
theorem mn_E.same {D : va_G} {cI cL cZ : ClassId} {s U : State} (hv : s.vm = U.vm) (h : mn_E D cI cL cZ s) : mn_E D cI cL cZ U := va_K.moved (by rw [hv]; exact Vm.Alike.refl U.vm) h
section PM
variable {s : State} {H : Heap} {D : va_G} {cI cL cZ : ClassId} {ws : va_W}
theorem mn_preV {As : List Value} {b q0 ci : Nat} {q : vw_C} {fs : List Value} (hP : va_P D pn_cl ws H) (hE : mn_E D cI cL cZ s) (hc : pn_cl[ci]? = some q) (he : ws[q0]? = some (b, .inr (ci, fs))) : PreV s H q.1 b (va_Pc (.ref b :: As) (fun U => va_P D pn_cl ws U.heap ∧ mn_E D cI cL cZ U)) As := ⟨fun _ _ _ _ q => ⟨q.1, q.2.1, mn_E.same rfl q.2.2⟩, va_recv hE hP hc he, fun U hU hW => ⟨rfl, by rw [hU]; exact hP, mn_E.warm hW hE⟩⟩
theorem mn_preW {As : List Value} {b q0 ci : Nat} {q : vw_C} {fs : List Value} {A : Nat → Prop} (hP : va_P D pn_cl ws H) (hD : va_D A ws) (hE : mn_E D cI cL cZ s) (hc : pn_cl[ci]? = some q) (he : ws[q0]? = some (b, .inr (ci, fs))) : PreV s H q.1 b (va_Pc (.ref b :: As) (fun U => U.heap.size = H.size ∧ va_P D pn_cl ws U.heap ∧ va_D (fun _ => True) ws ∧ mn_E D cI cL cZ U)) As :=
  ⟨fun _ _ _ _ q => ⟨q.1, q.2.1, q.2.2.1, q.2.2.2.1, mn_E.same rfl q.2.2.2.2⟩, va_recv hE hP hc he, fun U hU hW => ⟨rfl, by rw [hU], by rw [hU]; exact hP, hD.weaken (fun _ _ _ _ => trivial), mn_E.warm hW hE⟩⟩
end PM
