def R_A : String := "java/util/Arrays"
abbrev b_A_filli : ByteArray := prog_16_method_103_code
def y_A_filli : MethodName := ⟨"java/util/Arrays", "fill", "([II)V"⟩
theorem d_A_filli_0 : decode b_A_filli 0 = .ok (.iconst 0, 1) := by decide +kernel
theorem d_A_filli_1 : decode b_A_filli 1 = .ok (.istore_n 2, 1) := by decide +kernel
theorem d_A_filli_2 : decode b_A_filli 2 = .ok (.aload_n 0, 1) := by decide +kernel
theorem d_A_filli_3 : decode b_A_filli 3 = .ok (.arraylength, 1) := by decide +kernel
theorem d_A_filli_4 : decode b_A_filli 4 = .ok (.istore_n 3, 1) := by decide +kernel
theorem d_A_filli_5 : decode b_A_filli 5 = .ok (.iload_n 2, 1) := by decide +kernel
theorem d_A_filli_6 : decode b_A_filli 6 = .ok (.iload_n 3, 1) := by decide +kernel
theorem d_A_filli_7 : decode b_A_filli 7 = .ok (.if_icmp .ge 13, 3) := by decide +kernel
theorem d_A_filli_10 : decode b_A_filli 10 = .ok (.aload_n 0, 1) := by decide +kernel
theorem d_A_filli_11 : decode b_A_filli 11 = .ok (.iload_n 2, 1) := by decide +kernel
theorem d_A_filli_12 : decode b_A_filli 12 = .ok (.iload_n 1, 1) := by decide +kernel
theorem d_A_filli_13 : decode b_A_filli 13 = .ok (.iastore, 1) := by decide +kernel
theorem d_A_filli_14 : decode b_A_filli 14 = .ok (.iinc 2 1, 3) := by decide +kernel
theorem d_A_filli_17 : decode b_A_filli 17 = .ok (.goto (-12), 3) := by decide +kernel
theorem d_A_filli_20 : decode b_A_filli 20 = .ok (.return_, 1) := by decide +kernel
abbrev b_A_filll : ByteArray := prog_16_method_101_code
def y_A_filll : MethodName := ⟨"java/util/Arrays", "fill", "([JJ)V"⟩
theorem d_A_filll_0 : decode b_A_filll 0 = .ok (.iconst 0, 1) := by decide +kernel
theorem d_A_filll_1 : decode b_A_filll 1 = .ok (.istore_n 3, 1) := by decide +kernel
theorem d_A_filll_2 : decode b_A_filll 2 = .ok (.aload_n 0, 1) := by decide +kernel
theorem d_A_filll_3 : decode b_A_filll 3 = .ok (.arraylength, 1) := by decide +kernel
theorem d_A_filll_4 : decode b_A_filll 4 = .ok (.istore 4, 2) := by decide +kernel
theorem d_A_filll_6 : decode b_A_filll 6 = .ok (.iload_n 3, 1) := by decide +kernel
theorem d_A_filll_7 : decode b_A_filll 7 = .ok (.iload 4, 2) := by decide +kernel
theorem d_A_filll_9 : decode b_A_filll 9 = .ok (.if_icmp .ge 13, 3) := by decide +kernel
theorem d_A_filll_12 : decode b_A_filll 12 = .ok (.aload_n 0, 1) := by decide +kernel
theorem d_A_filll_13 : decode b_A_filll 13 = .ok (.iload_n 3, 1) := by decide +kernel
theorem d_A_filll_14 : decode b_A_filll 14 = .ok (.lload_n 1, 1) := by decide +kernel
theorem d_A_filll_15 : decode b_A_filll 15 = .ok (.lastore, 1) := by decide +kernel
theorem d_A_filll_16 : decode b_A_filll 16 = .ok (.iinc 3 1, 3) := by decide +kernel
theorem d_A_filll_19 : decode b_A_filll 19 = .ok (.goto (-13), 3) := by decide +kernel
theorem d_A_filll_22 : decode b_A_filll 22 = .ok (.return_, 1) := by decide +kernel
theorem m_nat : (Cond.native arraycopyName) ∈ pn_W := pn_mem 433 (by decide +kernel) (by decide +kernel)
theorem pn_gS2 {c0 c1 : Cond} {own : String} {idx : Nat} {y : MethodName} (h1 : Cond.methodLink own idx y ∈ pn_W) (h2 : Cond.static y ∈ pn_W) (h3 : Cond.initialized y.cls ∈ pn_W) (h : c1 ∈ pn_W) : GoodIn (c0 :: pn_W) (va_wsS own idx y (c1 :: pn_W)) := by
  intro w hw
  unfold va_wsS at hw
  rcases List.mem_append.mp hw with q | q
  · simp only [List.mem_cons, List.not_mem_nil, or_false] at q
    rcases q with rfl | rfl | rfl
    · exact pn_gd h1
    · exact pn_gd h2
    · exact pn_gd h3
  · exact pn_g h w q
/-- the first n places hold v -/
def fl (n : Int) (v : Int) (f : Int → Int) : Int → Int := fun j => if 0 ≤ j ∧ j < n then v else f j
theorem fl_0 (v : Int) (f : Int → Int) : fl 0 v f = f := by
  funext j
  unfold fl
  exact if_neg (by omega)
theorem fl_s {n : Int} (h : 0 ≤ n) (v : Int) (f : Int → Int) : pu (fl n v f) n v = fl (n + 1) v f := by
  funext j
  unfold pu fl
  by_cases e : j = n
  · rw [if_pos e, if_pos (by omega)]
  · rw [if_neg e]
    by_cases q : 0 ≤ j ∧ j < n
    · rw [if_pos q, if_pos (by omega)]
    · rw [if_neg q, if_neg (by omega)]
/-- n places from sp on, laid at dp -/
def cp (f g : Int → Int) (sp dp n : Int) : Int → Int := fun j => if dp ≤ j ∧ j < dp + n then f (sp + (j - dp)) else g j
theorem ai_cp (f g : Int → Int) (sp dp n : Nat) : va_cpy (ai f) (ai g) sp dp n = ai (cp f g sp dp n) := by
  funext j
  unfold va_cpy ai cp
  by_cases h : dp ≤ j ∧ j < dp + n
  · rw [if_pos h, if_pos (by omega)]
    congr 2
    omega
  · rw [if_neg h, if_neg (by omega)]
theorem al_cp (f g : Int → Int) (sp dp n : Nat) : va_cpy (al f) (al g) sp dp n = al (cp f g sp dp n) := by
  funext j
  unfold va_cpy al cp
  by_cases h : dp ≤ j ∧ j < dp + n
  · rw [if_pos h, if_pos (by omega)]
    congr 2
    omega
  · rw [if_neg h, if_neg (by omega)]
section PY
variable {p : Program} {l : Launch} {e : Env} {R : Room} {s : State} {m : MethodId} {args : Array Value} {below : List Frame} {meth : Method} {c : Code} {H : Heap} {locs : List Loc} {cells slots : Nat} {Q : State → Prop}
variable {cc : ByteArray} {pc : Nat} {ls : Array Slot} {rest : List Value} {D : va_G} {cl : List vw_C} {A0 : Nat → Prop} {a : Nat} {tys : List (ClassId × FieldType)} {ws ws' : va_W} {H0 : Heap}
theorem pr_copyi (hx : p.tables.exec = Jvm.exec) (hb : c.code = cc) (hml : c.maxLocals = ls.size) {own : String} {index : Nat} (hown : s.vm.findClass own = some m.cls) (hlink : (Cond.methodLink own index arraycopyName).before args s = true) (hnat : (Cond.native arraycopyName).before args s = true) (hstat : (Cond.static arraycopyName).before args s = true) (hini : (Cond.initialized "java/lang/System").before args s = true)
    (hK : va_K D cl tys s) (hP : va_P D cl ws H) (hD : va_D A0 ws) (hS : va_S A0 H0 H locs) (q0 q1 t0 : Nat) {a0 : Nat} {c0 : ClassId} {n0 n1 : Nat} {f g : Int → Int} (ha0 : ws[q0]? = some (a0, .inl (c0, n0, .inl (ai f)))) (ha1 : ws[q1]? = some (a, .inl (c0, n1, .inl (ai g)))) (ht0 : tys[t0]? = some (c0, .int))
    (sp dp n : Nat) (h3 : sp + n ≤ n0) (h4 : dp + n ≤ n1) (hn0 : n0 ≤ 2147483647) (hn1 : n1 ≤ 2147483647) (hw : ws.set q1 (a, .inl (c0, n1, .inl (ai (cp f g sp dp n)))) = ws') (hframes : 1 ≤ R.frames) (hlocals : (rest.map fun v => v.category).sum + (nativeFrameWords "java/lang/System" "arraycopy" 5 + 11) ≤ R.locals) (hd : decode cc pc = .ok (.invokestatic index, 3))
    (k : ∀ (H1 : Heap) (locs1 : List Loc), va_P D cl ws' H1 → va_D A0 ws' → va_S A0 H0 H1 locs1 → W p l e R s m args below meth c H1 locs1 cells slots Q (F0 m (pc + 3) ls rest)) : W p l e R s m args below meth c H locs cells slots Q (F0 m pc ls (.int (iI (n : Int)) :: .int (iI (dp : Int)) :: .ref a :: .int (iI (sp : Int)) :: .ref a0 :: rest)) := by
  subst hw
  have c1 : (iI (sp : Int)).toNatClampNeg = sp := by rw [iI_clamp (by omega) (by omega)]; exact Int.toNat_natCast sp
  have c2 : (iI (dp : Int)).toNatClampNeg = dp := by rw [iI_clamp (by omega) (by omega)]; exact Int.toNat_natCast dp
  have c3 : (iI (n : Int)).toNatClampNeg = n := by rw [iI_clamp (by omega) (by omega)]; exact Int.toNat_natCast n
  have z : ∀ x : Nat, x ≤ 2147483647 → ¬ iI (x : Int) < 0 := fun x h q => by
    rw [← iI_0] at q
    have := (iI_lt ⟨by omega, by omega⟩ i3_0).mp q
    omega
  refine va_copyi hx hb hml hown hlink hnat hstat hini hK hP hD hS q0 q1 t0 t0 ha0 ha1 ht0 ht0 rfl (z sp (by omega)) (z dp (by omega)) (z n (by omega)) (by rw [c1, c3]; exact h3) (by rw [c2, c3]; exact h4) (fun i _ => rfl) hframes hlocals hd (fun H1 locs1 q1 q2 q3 => ?_)
  rw [c1, c2, c3, ai_cp] at q1 q2
  exact k H1 locs1 q1 q2 q3
end PY
section PW2
variable {s : State} {H : Heap} {D : va_G} {cI cL cD cS : ClassId} {ws : va_W}
theorem pn_preWS {As : List Value} {A : Nat → Prop} (hP : va_P D pn_cl ws H) (hD : va_D A ws) (hE : pn_E D cI cL cD cS s) : PreS s H (va_Pc As (fun U => U.heap.size = H.size ∧ va_P D pn_cl ws U.heap ∧ va_D (fun _ => True) ws ∧ pn_E D cI cL cD cS U)) As :=
  ⟨fun _ _ _ _ q => ⟨q.1, q.2.1, q.2.2.1, q.2.2.2.1, pn_E.same rfl q.2.2.2.2⟩, fun U hU hW => ⟨rfl, by rw [hU], by rw [hU]; exact hP, hD.weaken (fun _ _ _ _ => trivial), pn_E.warm hW hE⟩⟩
end PW2
abbrev w_A_filli : List Cond := .code y_A_filli b_A_filli 4 none :: pn_W
set_option maxHeartbeats 4000000 in
set_option maxRecDepth 100000 in
theorem c_A_filli (l : Launch) {D : va_G} {a : Nat → Nat} {cI cL cD cS : ClassId} {nf : Nat → Int → Int} {ns : Nat → Int} {da : Int → Int → Int} {be : Int → Int} {ui ul : Nat → Int → Int} {cn : Int} {ss : Nat → Nat} {mf sd : Nat → Int} {pr : Nat → Int → Int} (sz : Nat) (k : Nat) (v : Int) (hk : k < 9) : Met l y_A_filli w_A_filli ({ frames := 0, cells := 0, slots := 0, locals := 0 }) (va_Pc [.ref (a (37 + 2 * k)), .int (iI (v))] (fun U => U.heap.size = sz ∧ va_P D pn_cl (cw a cI cL cD cS nf ns da be ui ul cn ss mf sd pr) U.heap ∧ va_D (fun _ => True) (cw a cI cL cD cS nf ns da be ui ul cn ss mf sd pr) ∧ pn_E D cI cL cD cS U)) (va_Qv (fun (_ : Unit) => True) (fun u t => va_P D pn_cl ((fun _ : Unit => cw a cI cL cD cS nf ns da be ui ul cn ss mf sd (nw pr k (fl 12 v (pr k)))) u) t.heap ∧ va_D (va_A (cw a cI cL cD cS nf ns da be ui ul cn ss mf sd pr) sz) ((fun _ : Unit => cw a cI cL cD cS nf ns da be ui ul cn ss mf sd (nw pr k (fl 12 v (pr k)))) u)) (va_A (cw a cI cL cD cS nf ns da be ui ul cn ss mf sd pr) sz)) 0 0 (va_A (cw a cI cL cD cS nf ns da be ui ul cn ss mf sd pr) sz) := by
  refine Met.ofW (cc := b_A_filli) (maxL := 4) (ret := none) (by decide) rfl ?_
  intro p e s m args below meth c s₁ B hml hv
  obtain ⟨rfl, hsz, hP, hD0, hE⟩ := hv
  have hx := B.exec
  have hb := B.bytes
  have hr := B.returns
  have hts := atoms_spec (ws := w_A_filli) B.pre
  have ht : ∀ w ∈ pn_W, w.before _ s = true := fun w h => hts w (List.mem_cons_of_mem _ h)
  have hown : s.vm.findClass R_A = some m.cls := findClass_of_methodNamed B.named
  have hlocks := B.notSynchronized
  have hK := hE.1
  subst hsz
  have hD := hD0.self (sz := s.heap.size)
  generalize hAe : va_A (cw a cI cL cD cS nf ns da be ui ul cn ss mf sd pr) s.heap.size = A at hD ⊢
  have hA : ∀ q : Nat, s.heap.size ≤ q → A q := fun q h => by rw [← hAe]; exact Or.inr h
  have hS : va_S A s.heap s.heap [] := va_S.rf
  have hl := lv_entry ([.ref (a (37 + 2 * k)), .int (iI (v))]) (n := 4) (Nat.le_of_ble_eq_true rfl)
  rw [lg_entry_eq]
  generalize (lg_sl ([.ref (a (37 + 2 * k)), .int (iI (v))]) ++ List.replicate (4 - (lg_sl ([.ref (a (37 + 2 * k)), .int (iI (v))])).length) Slot.unset).toArray = ls at hl ⊢
  have hl : lv_has ls 4 [(0, .ref (a (37 + 2 * k))), (1, .int (iI (v)))] := hl
  have loop : ∀ (n : Nat) (t : Int) (H : Heap) (locs : List Loc) (ls : Array Slot), (0 ≤ t) → (t ≤ 12) → ((12 - t).toNat) < n → va_P D pn_cl (cw a cI cL cD cS nf ns da be ui ul cn ss mf sd (nw pr k (fl t v (pr k)))) H → va_D A (cw a cI cL cD cS nf ns da be ui ul cn ss mf sd (nw pr k (fl t v (pr k)))) → va_S A s.heap H locs → lv_has ls 4 [(0, .ref (a (37 + 2 * k))), (1, .int (iI (v))), (2, .int (iI (t))), (3, .int (iI (12)))] → W p l e (headSpec w_A_filli ({ frames := 0, cells := 0, slots := 0, locals := 0 })).room s m ([.ref (a (37 + 2 * k)), .int (iI (v))] : List Value).toArray below meth c H locs 0 0 (MQ below (va_Qv (fun (_ : Unit) => True) (fun u t => va_P D pn_cl ((fun _ : Unit => cw a cI cL cD cS nf ns da be ui ul cn ss mf sd (nw pr k (fl 12 v (pr k)))) u) t.heap ∧ va_D A ((fun _ : Unit => cw a cI cL cD cS nf ns da be ui ul cn ss mf sd (nw pr k (fl 12 v (pr k)))) u)) A) ([.ref (a (37 + 2 * k)), .int (iI (v))] : List Value).toArray s 0 0 A) (F0 m 5 ls []) := by
    intro n
    induction n with
    | zero => intro t H locs ls _ _ hm; exact absurd hm (Nat.not_lt_zero _)
    | succ n ih =>
      intro t H locs ls q1 q2 hm hP hD hS hl
      refine lv_iload_n hx hb d_A_filli_5 rfl (lv_at hl 2 rfl) ?_
      refine lv_iload_n hx hb d_A_filli_6 rfl (lv_at hl 3 rfl) ?_
      refine pr_icmp_ge (tgt := 20) hx hb (i3_of (by omega) (by omega)) (i3_of (by decide) (by decide)) d_A_filli_7 (by decide) (fun c_1 => ?_) (fun c_1 => ?_)
      · skip
        have e8 : t = 12 := by omega
        rw [e8] at hP hD
        exact W.vret hx hb hr (fun t ht hW => ⟨⟨(), rfl, trivial, by rw [ht]; exact hP, hD⟩, hS.F ht⟩) hS.2.2 d_A_filli_20
      · skip
        refine lv_aload_n hx hb d_A_filli_10 rfl (lv_at hl 0 rfl) ?_
        refine lv_iload_n hx hb d_A_filli_11 rfl (lv_at hl 2 rfl) ?_
        refine lv_iload_n hx hb d_A_filli_12 rfl (lv_at hl 1 rfl) ?_
        refine pr_iast (ws' := cw a cI cL cD cS nf ns da be ui ul cn ss mf sd (nw (nw pr k (fl t v (pr k))) k (pu ((nw pr k (fl t v (pr k))) k) (t) (v)))) hx hb hK hP hD hS (37 + 2 * k) 0 (cw_sp k hk) rfl (by decide) (by omega) (by omega) (cw_upr _ hk) d_A_filli_13 (fun H locs hP hD hS => ?_)
        have e9 : nw (nw pr k (fl t v (pr k))) k (pu ((nw pr k (fl t v (pr k))) k) (t) (v)) = nw pr k (fl (t + 1) v (pr k)) := by rw [nw_nw, nw_s, fl_s q1]
        rw [e9] at hP hD
        clear e9
        refine lv_iinc (v := iI (t + 1)) (lv' := [(2, .int (iI (t + 1))), (0, .ref (a (37 + 2 * k))), (1, .int (iI (v))), (3, .int (iI (12)))]) hx hb d_A_filli_14 hl (k := 2) rfl (iI_add _ _).symm (by decide) rfl (fun ls hl => ?_)
        refine lv_goto (tgt := 5) hx hb d_A_filli_17 (by decide) ?_
        exact ih (t + 1) _ _ ls (by omega) (by omega) (by omega) hP hD hS (lv_sub hl [1, 2, 0, 3] rfl)
  refine lv_iconst (v := iI (0)) hx hb d_A_filli_0 rfl ?_
  refine lv_istore_n (lv' := [(2, .int (iI (0))), (0, .ref (a (37 + 2 * k))), (1, .int (iI (v)))]) hx hb d_A_filli_1 rfl hl (by decide) rfl (fun ls hl => ?_)
  refine lv_aload_n hx hb d_A_filli_2 rfl (lv_at hl 1 rfl) ?_
  refine va_alen (v := iI 12) hx hb hK hP (37 + 2 * k) 0 (cw_sp k hk) rfl (by show Int32.ofNat 12 = iI 12; decide) d_A_filli_3 ?_
  refine lv_istore_n (lv' := [(3, .int (iI (12))), (2, .int (iI (0))), (0, .ref (a (37 + 2 * k))), (1, .int (iI (v)))]) hx hb d_A_filli_4 rfl hl (by decide) rfl (fun ls hl => ?_)
  have hP : va_P D pn_cl (cw a cI cL cD cS nf ns da be ui ul cn ss mf sd (nw pr k (fl 0 v (pr k)))) s.heap := by rw [fl_0, nw_self]; exact hP
  have hD : va_D A (cw a cI cL cD cS nf ns da be ui ul cn ss mf sd (nw pr k (fl 0 v (pr k)))) := by rw [fl_0, nw_self]; exact hD
  exact loop _ (0) _ _ ls (by omega) (by omega) (Nat.lt_succ_self _) hP hD hS (lv_sub hl [2, 3, 1, 0] rfl)
abbrev w_S_begin : List Cond := .code y_S_begin b_S_begin 2 none :: pn_W
set_option maxHeartbeats 4000000 in
set_option maxRecDepth 100000 in
theorem c_S_begin (l : Launch) {D : va_G} {a : Nat → Nat} {cI cL cD cS : ClassId} {nf : Nat → Int → Int} {ns : Nat → Int} {da : Int → Int → Int} {be : Int → Int} {ui ul : Nat → Int → Int} {cn : Int} {ss : Nat → Nat} {mf sd : Nat → Int} {pr : Nat → Int → Int} (sz : Nat) (k : Nat) (hk : k < 9) : Met l y_S_begin w_S_begin ({ frames := 1, cells := 0, slots := 0, locals := 60 }) (va_Pc [.ref (a 27), .ref (a (36 + 2 * k))] (fun U => U.heap.size = sz ∧ va_P D pn_cl (cw a cI cL cD cS nf ns da be ui ul cn ss mf sd pr) U.heap ∧ va_D (fun _ => True) (cw a cI cL cD cS nf ns da be ui ul cn ss mf sd pr) ∧ pn_E D cI cL cD cS U)) (va_Qv (fun (_ : Unit) => True) (fun u t => va_P D pn_cl ((fun _ : Unit => cw a cI cL cD cS nf ns da be ui ul cn ss mf sd (nw pr k (cp (nf 0) (fl 12 (-5000) (pr k)) ((0 : Nat) : Int) ((0 : Nat) : Int) ((4 : Nat) : Int)))) u) t.heap ∧ va_D (va_A (cw a cI cL cD cS nf ns da be ui ul cn ss mf sd pr) sz) ((fun _ : Unit => cw a cI cL cD cS nf ns da be ui ul cn ss mf sd (nw pr k (cp (nf 0) (fl 12 (-5000) (pr k)) ((0 : Nat) : Int) ((0 : Nat) : Int) ((4 : Nat) : Int)))) u)) (va_A (cw a cI cL cD cS nf ns da be ui ul cn ss mf sd pr) sz)) 0 0 (va_A (cw a cI cL cD cS nf ns da be ui ul cn ss mf sd pr) sz) := by
  refine Met.ofW (cc := b_S_begin) (maxL := 2) (ret := none) (by decide) rfl ?_
  intro p e s m args below meth c s₁ B hml hv
  obtain ⟨rfl, hsz, hP, hD0, hE⟩ := hv
  have hx := B.exec
  have hb := B.bytes
  have hr := B.returns
  have hts := atoms_spec (ws := w_S_begin) B.pre
  have ht : ∀ w ∈ pn_W, w.before _ s = true := fun w h => hts w (List.mem_cons_of_mem _ h)
  have hown : s.vm.findClass R_S = some m.cls := findClass_of_methodNamed B.named
  have hlocks := B.notSynchronized
  have hK := hE.1
  subst hsz
  have hD := hD0.self (sz := s.heap.size)
  generalize hAe : va_A (cw a cI cL cD cS nf ns da be ui ul cn ss mf sd pr) s.heap.size = A at hD ⊢
  have hA : ∀ q : Nat, s.heap.size ≤ q → A q := fun q h => by rw [← hAe]; exact Or.inr h
  have hS : va_S A s.heap s.heap [] := va_S.rf
  have hl := lv_entry ([.ref (a 27), .ref (a (36 + 2 * k))]) (n := 2) (Nat.le_of_ble_eq_true rfl)
  rw [lg_entry_eq]
  generalize (lg_sl ([.ref (a 27), .ref (a (36 + 2 * k))]) ++ List.replicate (2 - (lg_sl ([.ref (a 27), .ref (a (36 + 2 * k))])).length) Slot.unset).toArray = ls at hl ⊢
  have hl : lv_has ls 2 [(0, .ref (a 27)), (1, .ref (a (36 + 2 * k)))] := hl
  refine lv_aload_n hx hb d_S_begin_0 rfl (lv_at hl 1 rfl) ?_
  refine va_get (D := D) (ci := 3) (v := .ref (a (37 + 2 * k))) (C := R_T) (T := T_T) (N := 4) hx hb hts (in_T _) hown hK hP (36 + 2 * k) (cw_so k hk) rfl 0 (by decide) (ht _ m_175) (fun _ h9 => h9) rfl d_S_begin_1 ?_
  refine lv_sipush (v := iI (-5000)) hx hb d_S_begin_4 (by decide) ?_
  refine pr_cv (va_runS (As := [.ref (a (37 + 2 * k)), .int (iI (-5000))]) (rest := []) ⟨hx, hb, hml, hown, hts⟩ (c_A_filli l (pr := pr) s.heap.size k (-5000) hk) (va_cwS 2 hts (pn_gS2 m_428 m_429 m_44 m_430) rfl rfl rfl (by decide +kernel) ⟨Nat.le_of_ble_eq_true rfl, Nat.le_of_ble_eq_true rfl⟩) (pn_preWS hP hD hE) rfl rfl hl.1 rfl (lv_room (Nat.le_of_ble_eq_true rfl)) d_S_begin_7 ⟨Nat.le_of_ble_eq_true rfl, Nat.le_of_ble_eq_true rfl⟩) hD hS hA (fun u H locs _ hP hD hS => ?_)
  try dsimp only at hP hD
  have hP : va_P D pn_cl (cw a cI cL cD cS nf ns da be ui ul cn ss mf sd (nw pr k (fl 12 (-5000) (pr k)))) H := hP
  have hD : va_D A (cw a cI cL cD cS nf ns da be ui ul cn ss mf sd (nw pr k (fl 12 (-5000) (pr k)))) := hD
  refine lv_aload_n hx hb d_S_begin_10 rfl (lv_at hl 0 rfl) ?_
  refine va_get (D := D) (ci := 2) (v := .ref (a 1)) (C := R_S) (T := T_S) (N := 2) hx hb hts (in_S _) hown hK hP 27 rfl rfl 0 (by decide) (ht _ m_133) (fun _ h9 => h9) rfl d_S_begin_11 ?_
  refine va_get (D := D) (ci := 1) (v := .ref (a 2)) (C := R_N) (T := T_N) (N := 17) hx hb hts (in_N _) hown hK hP 1 rfl rfl 0 (by decide) (ht _ m_64) (fun _ h9 => h9) rfl d_S_begin_14 ?_
  refine lv_iconst (v := iI (0)) hx hb d_S_begin_17 rfl ?_
  refine lv_aload_n hx hb d_S_begin_18 rfl (lv_at hl 1 rfl) ?_
  refine va_get (D := D) (ci := 3) (v := .ref (a (37 + 2 * k))) (C := R_T) (T := T_T) (N := 4) hx hb hts (in_T _) hown hK hP (36 + 2 * k) (cw_so k hk) rfl 0 (by decide) (ht _ m_175) (fun _ h9 => h9) rfl d_S_begin_19 ?_
  refine lv_iconst (v := iI (0)) hx hb d_S_begin_22 rfl ?_
  refine lv_iconst (v := iI (4)) hx hb d_S_begin_23 rfl ?_
  refine pr_copyi (ws' := cw a cI cL cD cS nf ns da be ui ul cn ss mf sd (nw (nw pr k (fl 12 (-5000) (pr k))) k (cp (nf 0) ((nw pr k (fl 12 (-5000) (pr k))) k) ((0 : Nat) : Int) ((0 : Nat) : Int) ((4 : Nat) : Int)))) hx hb (hml.trans hl.1.symm) hown (ht _ m_431) (ht _ m_nat) (ht _ m_432) (ht _ m_45) hK hP hD hS 2 (37 + 2 * k) 0 rfl (cw_sp k hk) rfl 0 0 4 (by decide) (by decide) (by decide) (by decide) (cw_upr _ hk) (Nat.le_of_ble_eq_true rfl) (Nat.le_of_ble_eq_true rfl) d_S_begin_24 (fun H locs hP hD hS => ?_)
  have e9 : nw (nw pr k (fl 12 (-5000) (pr k))) k (cp (nf 0) ((nw pr k (fl 12 (-5000) (pr k))) k) ((0 : Nat) : Int) ((0 : Nat) : Int) ((4 : Nat) : Int)) = nw pr k (cp (nf 0) (fl 12 (-5000) (pr k)) ((0 : Nat) : Int) ((0 : Nat) : Int) ((4 : Nat) : Int)) := by rw [nw_nw, nw_s]
  rw [e9] at hP hD
  clear e9
  exact W.vret hx hb hr (fun t ht hW => ⟨⟨(), rfl, trivial, by rw [ht]; exact hP, hD⟩, hS.F ht⟩) hS.2.2 d_S_begin_27
