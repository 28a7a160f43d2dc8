/-! ends of methods, what is given at calls -/
def b2 (P : Prop) [Decidable P] : Int := if P then 1 else 0
theorem b2_t {P : Prop} [Decidable P] (h : P) : b2 P = 1 := if_pos h
theorem b2_f {P : Prop} [Decidable P] (h : ¬ P) : b2 P = 0 := if_neg h
theorem b2_01 (P : Prop) [Decidable P] : b2 P = 0 ∨ b2 P = 1 := by
  by_cases h : P
  · exact Or.inr (b2_t h)
  · exact Or.inl (b2_f h)
theorem b2_r (P : Prop) [Decidable P] : 0 ≤ b2 P ∧ b2 P ≤ 1 := by
  rcases b2_01 P with h | h <;> rw [h] <;> exact ⟨by decide, by decide⟩
theorem i3_b2 (P : Prop) [Decidable P] : i3 (b2 P) := by
  have h := b2_r P
  exact ⟨by omega, by omega⟩
theorem b2_iff {P Q : Prop} [Decidable P] [Decidable Q] (h : P ↔ Q) : b2 P = b2 Q := by
  by_cases p : P
  · rw [b2_t p, b2_t (h.mp p)]
  · rw [b2_f p, b2_f (fun q => p (h.mpr q))]
theorem b2_1 {P : Prop} [Decidable P] (h : b2 P = 1) : P := Classical.byContradiction fun q => by rw [b2_f q] at h; cases h
theorem b2_n1 {P : Prop} [Decidable P] (h : b2 P ≠ 0) : P := Classical.byContradiction fun q => h (b2_f q)
theorem b2_0 {P : Prop} [Decidable P] (h : b2 P = 0) : ¬ P := fun q => by rw [b2_t q] at h; cases h
section PE
variable {p : Program} {l : Launch} {e : Env} {R : Room} {s : State} {m : MethodId} {args : Array Value} {below : List Frame} {meth : Method} {c : Code} {H : Heap} {locs : List Loc} {cells slots : Nat} {Q : State → Prop}
variable {cc : ByteArray} {pc : Nat} {ls : Array Slot} {rest : List Value} {D : va_G} {cl : List vw_C} {A0 : Nat → Prop} {a : Nat} {tys : List (ClassId × FieldType)} {ws : va_W} {H0 : Heap}
theorem pr_ri {v x : Int} (hx : p.tables.exec = Jvm.exec) (hb : c.code = cc) (hr : meth.sig.returnType = some .int) (hlocks : meth.locks = false) (hd : decode cc pc = .ok (.ireturn, 1)) (hv : x = v) : W p l e R s m args below meth c s.heap [] 0 0 (MQ below (vp_Si (fun r => r = iI v)) args s 0 0 (fun _ => False)) (F0 m pc ls [.int (iI x)]) := by
  subst hv
  exact W.iret hx hb hr (fun t ht _ => ⟨_, rfl, rfl, ht⟩) (fun q h => nomatch h) hd
theorem pr_rz {v x : Int} (hx : p.tables.exec = Jvm.exec) (hb : c.code = cc) (hr : meth.sig.returnType = some .boolean) (hlocks : meth.locks = false) (hd : decode cc pc = .ok (.ireturn, 1)) (h01 : x = 0 ∨ x = 1) (hv : x = v) : W p l e R s m args below meth c s.heap [] 0 0 (MQ below (vp_Si (fun r => r = iI v)) args s 0 0 (fun _ => False)) (F0 m pc ls [.int (iI x)]) := by
  subst hv
  exact W.zret hx hb hr (by rcases h01 with h | h <;> rw [h] <;> decide) (fun t ht _ => ⟨_, rfl, rfl, ht⟩) (fun q h => nomatch h) hd
theorem pr_rl {v x : Int} (hx : p.tables.exec = Jvm.exec) (hb : c.code = cc) (hr : meth.sig.returnType = some .long) (hlocks : meth.locks = false) (hd : decode cc pc = .ok (.lreturn, 1)) (hv : x = v) : W p l e R s m args below meth c s.heap [] 0 0 (MQ below (vp_Sl (fun r => r = lI v)) args s 0 0 (fun _ => False)) (F0 m pc ls [.long (lI x)]) := by
  subst hv
  exact W.lret hx hb hr (fun t ht _ => ⟨_, rfl, rfl, ht⟩) (fun q h => nomatch h) hd
theorem pr_aald (hx : p.tables.exec = Jvm.exec) (hb : c.code = cc) (hK : va_K D cl tys s) (hP : va_P D cl ws H) (q0 t0 : Nat) {cA : ClassId} {ty : FieldType} (hty : ty.isReference = true) {n : Nat} {f : Nat → Option Nat} (ha : ws[q0]? = some (a, .inl (cA, n, .inr (.inr (.inr (.inr f)))))) (ht : tys[t0]? = some (cA, ty)) {V : Int} (r q : Nat) (hV : V = (r : Int)) (hn : n ≤ 2147483647) (hr : r < n) (hf : f r = some q) (hd : decode cc pc = .ok (.aaload, 1))
    (k : W p l e R s m args below meth c H locs cells slots Q (F0 m (pc + 1) ls (.ref q :: rest))) : W p l e R s m args below meth c H locs cells slots Q (F0 m pc ls (.int (iI V) :: .ref a :: rest)) := by
  subst hV
  have hc : (iI (r : Int)).toNatClampNeg = r := by rw [iI_clamp (by omega) (by omega)]; exact Int.toNat_natCast r
  have hin := iI_in (V := (r : Int)) (n := n) hn (by omega) (by omega)
  refine W.aald (v := .ref q) (ty := ty) hx hb (hP q0 _ ha) ((hK.2 t0 _ ht).1 n (fun j => va_rf (f j))) hty (fun q => by cases q) (by show ¬ (_ ∨ (arrV _ _ _).slots.size ≤ _); rw [arrV_size]; exact hin) (by show (arrV _ _ _).slots[_]? = _; rw [hc, arrV_read _ _ hr, hf]; rfl) rfl rfl hd k
end PE
section PP
variable {s : State} {H : Heap} {D : va_G} {cI cL cD cS : ClassId} {ws : va_W}
theorem pn_blind {av : List Value} : FrameBlind (va_Pc av (fun U => va_P D pn_cl ws U.heap ∧ pn_E D cI cL cD cS U)) := fun _ _ _ _ q => ⟨q.1, q.2.1, pn_E.same rfl q.2.2⟩
theorem pn_blind0 {av : List Value} : FrameBlind (va_Pc av (fun _ => True)) := fun _ _ _ _ q => ⟨q.1, trivial⟩
theorem pn_pre0 {As : List Value} : PreS s H (va_Pc As (fun _ => True)) As := ⟨pn_blind0, fun _ _ _ => ⟨rfl, trivial⟩⟩
theorem pn_preS {As : List Value} (hP : va_P D pn_cl ws H) (hE : pn_E D cI cL cD cS s) : PreS s H (va_Pc As (fun U => va_P D pn_cl ws U.heap ∧ pn_E D cI cL cD cS U)) As := ⟨pn_blind, fun U hU hW => ⟨rfl, by rw [hU]; exact hP, pn_E.warm hW hE⟩⟩
theorem pn_preV {As : List Value} {b q0 ci : Nat} {q : vw_C} {fs : List Value} (hP : va_P D pn_cl ws H) (hE : pn_E D cI cL cD cS s) (hc : pn_cl[ci]? = some q) (he : ws[q0]? = some (b, .inr (ci, fs))) : PreV s H q.1 b (va_Pc (.ref b :: As) (fun U => va_P D pn_cl ws U.heap ∧ pn_E D cI cL cD cS U)) As := ⟨pn_blind, va_recv hE.1 hP hc he, fun U hU hW => ⟨rfl, by rw [hU]; exact hP, pn_E.warm hW hE⟩⟩
end PP
