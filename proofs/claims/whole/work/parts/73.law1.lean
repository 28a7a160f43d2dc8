/-! THE CLAIM OUT OF ONE WALK OF THE LAW'S BODY. Your part is whole_start (and what it stands on); all else here is the same for every law, but numbers. -/
def R_law : String := "PressureNetsLaw"
def lw_P (b : Addr) (xs : List Int32) (args : Array Value) (s : State) : Prop := args = #[.ref b] ∧ s.IntsAt b xs ∧ xs.length ≤ 3072 ∧ (Jvm.Cond.and given_1 narrow_1).before args s = true
def lw_Q (_ : Array Value) (s : State) (o : Outcome) (t : State) : Prop := o = .returned (some (.int 1)) ∧ Framed s o t [] 627858 7212529
def lw_Z (below : List Frame) (a : Array Value) (s : State) : State → Prop := fun t => ∃ o, t.status = .running ∧ Ended t below o ∧ lw_Q a s o t
/-- the law's own end, with 1 on the stack, nothing written that was there before, its room as the claim has it -/
theorem lw_ret {p : Program} {l : Launch} {e : Env} {s : State} {m : MethodId} {below : List Frame} {meth : Method} {c : Code} {b : Nat} (hx : p.tables.exec = Jvm.exec) (hb : c.code = code) (hr : meth.sig.returnType = ret) (hlocks : meth.locks = false) {pc : Nat} {H : Heap} {ls : Array Slot} (hdg : decode code pc = .ok (.ireturn, 1)) : W p l e room_1 s m #[Value.ref b] below meth c H [] 627858 7212529 (lw_Z below #[Value.ref b] s) (F0 m pc ls [.int 1]) := by
  intro T hT X
  obtain ⟨fs, hret, hrun, hended, hW, hframe⟩ := X.leave (v := some (.int 1)) (hlocks := hlocks) (fun h => by rw [hr] at h; cases h)
  have hmeth' : T.vm.method? m = some meth := X.method'
  refine ⟨T.setFrames fs, ?_, .returned (some (.int 1)), hrun, hended, rfl, ⟨_, rfl⟩, hW, hframe⟩
  jvm_step X.here [X.here.top, hx, hb, hdg, hmeth', hr, ret, narrow_b1]
  (try refine ⟨rfl, ?_⟩); (try refine ⟨rfl, ?_⟩)
  first | (intro acts; rw [hret _ acts rfl rfl rfl]) | rw [hret _ _ rfl rfl rfl]
  exact Steps.refl _
/-- what holds at the law's entry: the machine, the code, the tables' words (any of lw_tbl by 'hts w (by decide +kernel)'), the script of L ints xs at the cell b, what the Statement gives of the start (any of its parts by flat_of_before) -/
def lw_At (p : Program) (s : State) (m : MethodId) (meth : Method) (c : Code) (b L : Nat) (xs : Nat → Int32) : Prop :=
  p.tables.exec = Jvm.exec ∧ c.code = code ∧ meth.sig.returnType = ret ∧ c.maxLocals = 8 ∧ s.vm.findClass R_law = some m.cls ∧ (∀ w ∈ lw_tbl, w.before #[Value.ref b] s = true) ∧ va_X b L xs s s.heap ∧ b < s.heap.size ∧ meth.locks = false ∧ (Jvm.Cond.and given_1 narrow_1).before #[Value.ref b] s = true

/-! rows of the law's body -/
section PSL
variable {p : Program} {l : Launch} {e : Env} {R : Room} {s : State} {m : MethodId} {args : Array Value} {below : List Frame} {meth : Method} {c : Code} {H : Heap} {locs : List Loc} {cells slots : Nat} {Q : State → Prop}
variable {cc : ByteArray} {pc : Nat} {ls : Array Slot} {rest : List Value} {A : Nat → Prop}
theorem pr_sld (hx : p.tables.exec = Jvm.exec) (hb : c.code = cc) {b L : Nat} {xs : Nat → Int32} (hX : va_X b L xs s s.heap) (hbl : b < s.heap.size) (hbA : ¬ A b) (hS : va_S A s.heap H locs) {V X : Int} {n : Nat} (hV : V = (n : Int)) (h1 : n < L) (hL : L ≤ 3072) (he : X = (xs n).toInt) (hdg : decode cc pc = .ok (.iaload, 1))
    (k : W p l e R s m args below meth c H locs cells slots Q (F0 m (pc + 1) ls (.int (iI X) :: rest))) : W p l e R s m args below meth c H locs cells slots Q (F0 m pc ls (.int (iI V) :: .ref b :: rest)) := by
  subst hV
  subst he
  refine va_sld hx hb hX hbl hbA hS (iI_in (by omega) (by omega) (by omega)) hdg ?_
  rw [iI_clamp (by omega) (by omega), Int.toNat_natCast, ← iI_of (xs n)]
  rw [iI_of] at k ⊢
  exact k
theorem pr_lcmps (hx : p.tables.exec = Jvm.exec) (hb : c.code = cc) {x y : Int64} {off : Int} {tgt : Nat} (he : x = y) (hd0 : decode cc pc = .ok (.lcmp, 1)) (hd : decode cc (pc + 1) = .ok (.ifCond .eq off, 3)) (ht : ((pc + 1 : Nat) : Int) + off = (tgt : Int)) (k : W p l e R s m args below meth c H locs cells slots Q (F0 m tgt ls rest)) : W p l e R s m args below meth c H locs cells slots Q (F0 m pc ls (.long y :: .long x :: rest)) := by
  subst he
  refine W.lcmp hx hb hd0 ?_
  refine lv_if_eq hx hb hd ht (fun _ => k) (fun q => absurd ?_ q)
  unfold lg_cmp
  simp
theorem i3_32 (v : Int32) : i3 v.toInt := ⟨Int32.le_toInt v, by have := Int32.toInt_lt v; omega⟩
end PSL
theorem v_J_mz {nf : Nat → Int → Int} {ns : Nat → Int} {da : Int → Int → Int} {ui ul : Nat → Int → Int} {cn : Int} {ss : Nat → Nat} {mf sd : Nat → Int} {pr : Nat → Int → Int} {mi ml : Nat → Int → Int} {mz : Int → Int} {ms : Nat → Int} (h : v_J nf ns da ui ul cn ss mf sd pr mi ml mz ms) : ∀ j, 0 ≤ j → j < 20 → mz j = 0 ∨ mz j = 1 := fun j a b => by
  have q := h.2.2.2.2.2.2.2.2.2.1 j.toNat (by omega)
  rw [Int.toNat_of_nonneg a] at q
  rw [q]
  exact b2_01 _
theorem v_J_hh {nf : Nat → Int → Int} {ns : Nat → Int} {da : Int → Int → Int} {ui ul : Nat → Int → Int} {cn : Int} {ss : Nat → Nat} {mf sd : Nat → Int} {pr : Nat → Int → Int} {mi ml : Nat → Int → Int} {mz : Int → Int} {ms : Nat → Int} (h : v_J nf ns da ui ul cn ss mf sd pr mi ml mz ms) : ∀ j, 0 ≤ j → j < 8 → 0 ≤ ml 0 j ∧ ml 0 j ≤ 1000000000 := fun j a b => by
  have q := h.2.2.2.2.2.2.2.1 (j + 4) (by omega) (by omega)
  unfold mH at q
  rw [if_neg (by omega), show j + 4 - 4 = j by omega] at q
  rw [q]
  exact h.2.2.2.2.1.1 (j + 4) (by omega) (by omega)
theorem v_J_T {nf : Nat → Int → Int} {ns : Nat → Int} {da : Int → Int → Int} {ui ul : Nat → Int → Int} {cn : Int} {ss : Nat → Nat} {mf sd : Nat → Int} {pr : Nat → Int → Int} {mi ml : Nat → Int → Int} {mz : Int → Int} {ms : Nat → Int} (h : v_J nf ns da ui ul cn ss mf sd pr mi ml mz ms) : ∀ c : Nat, (c : Int) < ms 5 → mi 13 (c : Int) = (((fun c => ss (c + 1)) c : Nat) : Int) ∧ (fun c => ss (c + 1)) c < 2 ^ 20 := fun c hc => by
  obtain ⟨-, hcn, ⟨-, s1⟩, -, -, ⟨-, r5, -, -, -, r9⟩⟩ := h
  exact ⟨r9 c (by omega), s1 (c + 1) (by omega)⟩
