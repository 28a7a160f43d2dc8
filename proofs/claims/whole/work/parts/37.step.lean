section PY2
variable {p : Program} {l : Launch} {e : Env} {R : Room} {s : State} {m : MethodId} {args : Array Value} {below : List Frame} {meth : Method} {c : Code} {H : Heap} {locs : List Loc} {cells slots : Nat} {Q : State → Prop}
variable {cc : ByteArray} {pc : Nat} {ls : Array Slot} {rest : List Value} {D : va_G} {cl : List vw_C} {A0 : Nat → Prop} {a : Nat} {tys : List (ClassId × FieldType)} {ws ws' : va_W} {H0 : Heap}
theorem pr_copyl (hx : p.tables.exec = Jvm.exec) (hb : c.code = cc) (hml : c.maxLocals = ls.size) {own : String} {index : Nat} (hown : s.vm.findClass own = some m.cls) (hlink : (Cond.methodLink own index arraycopyName).before args s = true) (hnat : (Cond.native arraycopyName).before args s = true) (hstat : (Cond.static arraycopyName).before args s = true) (hini : (Cond.initialized "java/lang/System").before args s = true)
    (hK : va_K D cl tys s) (hP : va_P D cl ws H) (hD : va_D A0 ws) (hS : va_S A0 H0 H locs) (q0 q1 t0 : Nat) {a0 : Nat} {c0 : ClassId} {n0 n1 : Nat} {f g : Int → Int} (ha0 : ws[q0]? = some (a0, .inl (c0, n0, .inr (.inl (al f))))) (ha1 : ws[q1]? = some (a, .inl (c0, n1, .inr (.inl (al g))))) (ht0 : tys[t0]? = some (c0, .long))
    (sp dp n : Nat) (h3 : sp + n ≤ n0) (h4 : dp + n ≤ n1) (hn0 : n0 ≤ 2147483647) (hn1 : n1 ≤ 2147483647) (hw : ws.set q1 (a, .inl (c0, n1, .inr (.inl (al (cp f g sp dp n))))) = ws') (hframes : 1 ≤ R.frames) (hlocals : (rest.map fun v => v.category).sum + (nativeFrameWords "java/lang/System" "arraycopy" 5 + 11) ≤ R.locals) (hd : decode cc pc = .ok (.invokestatic index, 3))
    (k : ∀ (H1 : Heap) (locs1 : List Loc), va_P D cl ws' H1 → va_D A0 ws' → va_S A0 H0 H1 locs1 → W p l e R s m args below meth c H1 locs1 cells slots Q (F0 m (pc + 3) ls rest)) : W p l e R s m args below meth c H locs cells slots Q (F0 m pc ls (.int (iI (n : Int)) :: .int (iI (dp : Int)) :: .ref a :: .int (iI (sp : Int)) :: .ref a0 :: rest)) := by
  subst hw
  have c1 : (iI (sp : Int)).toNatClampNeg = sp := by rw [iI_clamp (by omega) (by omega)]; exact Int.toNat_natCast sp
  have c2 : (iI (dp : Int)).toNatClampNeg = dp := by rw [iI_clamp (by omega) (by omega)]; exact Int.toNat_natCast dp
  have c3 : (iI (n : Int)).toNatClampNeg = n := by rw [iI_clamp (by omega) (by omega)]; exact Int.toNat_natCast n
  have z : ∀ x : Nat, x ≤ 2147483647 → ¬ iI (x : Int) < 0 := fun x h q => by
    rw [← iI_0] at q
    have := (iI_lt ⟨by omega, by omega⟩ i3_0).mp q
    omega
  refine va_copyl hx hb hml hown hlink hnat hstat hini hK hP hD hS q0 q1 t0 t0 ha0 ha1 ht0 ht0 rfl (z sp (by omega)) (z dp (by omega)) (z n (by omega)) (by rw [c1, c3]; exact h3) (by rw [c2, c3]; exact h4) (fun i _ => rfl) hframes hlocals hd (fun H1 locs1 q1 q2 q3 => ?_)
  rw [c1, c2, c3, al_cp] at q1 q2
  exact k H1 locs1 q1 q2 q3
end PY2
def m_cars (nf : Nat → Int → Int) (f hl wh th : Int → Int) : Nat → (Int → Int)
  | 0 => th
  | n + 1 => m_car nf f hl wh (m_cars nf f hl wh th n) (n : Int)
theorem m_part_b {nf : Nat → Int → Int} {f hl wh : Int → Int} {d : Int} (hfd : -27000000 ≤ f d ∧ f d ≤ 27000000) (hg : 0 ≤ hl (m_gv nf f d) ∧ hl (m_gv nf f d) ≤ 1000000000) (hw : 0 < wh (m_gv nf f d)) : 0 ≤ m_part nf f hl wh d ∧ m_part nf f hl wh d ≤ 27000000000000000 := by
  have ab : 0 ≤ m_abs (f d) ∧ m_abs (f d) ≤ 27000000 := by
    unfold m_abs
    by_cases c : 0 ≤ f d
    · rw [if_pos c]; omega
    · rw [if_neg c]; omega
  have mb := mul_b (x := hl (m_gv nf f d)) (y := m_abs (f d)) (X := 1000000000) (Y := 27000000) (by omega) (by omega) (by omega) (by omega)
  have mn : 0 ≤ hl (m_gv nf f d) * m_abs (f d) := Int.mul_nonneg hg.1 ab.1
  unfold m_part
  exact ⟨Int.ediv_nonneg mn (by omega), Int.le_trans (Int.ediv_le_self _ mn) (by omega)⟩
theorem m_car_b {nf : Nat → Int → Int} {f hl wh th : Int → Int} {d : Int} (hfd : -27000000 ≤ f d ∧ f d ≤ 27000000) (hg : 4 ≤ m_gv nf f d → 0 ≤ hl (m_gv nf f d) ∧ hl (m_gv nf f d) ≤ 1000000000) (j : Int) : th j - 54000000000000000 ≤ m_car nf f hl wh th d j ∧ m_car nf f hl wh th d j ≤ th j + 54000000000000000 := by
  unfold m_car
  by_cases c : f d = 0 ∨ m_gv nf f d < 4 ∨ wh (m_gv nf f d) ≤ 0
  · rw [if_pos c]; omega
  · rw [if_neg c]
    have hb := m_part_b (nf := nf) (f := f) (hl := hl) (wh := wh) (d := d) hfd (hg (by omega)) (by omega)
    unfold pu
    by_cases e1 : j = m_tk nf f d
    · rw [if_pos e1]
      by_cases e2 : m_tk nf f d = m_gv nf f d
      · rw [if_pos e2, e1, e2]; omega
      · rw [if_neg e2, e1]; omega
    · rw [if_neg e1]
      by_cases e2 : j = m_gv nf f d
      · rw [if_pos e2, e2]; omega
      · rw [if_neg e2]; omega
theorem m_cars_b {nf : Nat → Int → Int} {f hl wh th : Int → Int} {n : Nat} (hf : pn_Fl f) (hg : ∀ d, 0 ≤ d → d < 24 → 4 ≤ m_gv nf f d → 0 ≤ hl (m_gv nf f d) ∧ hl (m_gv nf f d) ≤ 1000000000) (hn : n ≤ 24) (j : Int) : th j - 54000000000000000 * n ≤ m_cars nf f hl wh th n j ∧ m_cars nf f hl wh th n j ≤ th j + 54000000000000000 * n := by
  induction n with
  | zero => simp [m_cars]
  | succ n ih =>
    have h1 := ih (by omega)
    have h2 := m_car_b (nf := nf) (f := f) (hl := hl) (wh := wh) (th := m_cars nf f hl wh th n) (d := (n : Int)) (hf n (by omega) (by omega)) (hg n (by omega) (by omega)) j
    show th j - 54000000000000000 * ((n + 1 : Nat) : Int) ≤ m_car nf f hl wh (m_cars nf f hl wh th n) (n : Int) j ∧ _
    have e : ((n + 1 : Nat) : Int) = (n : Int) + 1 := rfl
    rw [e]
    constructor
    · omega
    · show m_car nf f hl wh (m_cars nf f hl wh th n) (n : Int) j ≤ _
      omega
def m_add (so th : Int → Int) (t : Int) : Int → Int := fun j => if 4 ≤ j ∧ j < t then th j + so j else th j
theorem m_add_4 (so th : Int → Int) : m_add so th 4 = th := by
  funext j
  unfold m_add
  exact if_neg (by omega)
theorem m_add_s (so th : Int → Int) {t : Int} (h : 4 ≤ t) : pu (m_add so th t) t (m_add so th t t + so t) = m_add so th (t + 1) := by
  funext j
  unfold pu m_add
  by_cases e : j = t
  · rw [if_pos e, if_neg (by omega), if_pos (by omega), e]
  · rw [if_neg e]
    by_cases q : 4 ≤ j ∧ j < t
    · rw [if_pos q, if_pos (by omega)]
    · rw [if_neg q, if_neg (by omega)]
abbrev w_U_doesStep : List Cond := .code y_U_doesStep b_U_doesStep 2 (some .boolean) :: pn_W
set_option maxHeartbeats 4000000 in
set_option maxRecDepth 100000 in
theorem c_U_doesStep (l : Launch) {D : va_G} {a : Nat → Nat} {cI cL cD cS : ClassId} {nf : Nat → Int → Int} {ns : Nat → Int} {da : Int → Int → Int} {be : Int → Int} {ui ul : Nat → Int → Int} {cn : Int} {ss : Nat → Nat} {mf sd : Nat → Int} {pr : Nat → Int → Int} (sz : Nat)  (hOk : pn_Ok nf ns da) (hf : pn_Fl (ui 1)) (hh : ∀ j, 4 ≤ j → j < 12 → 0 ≤ ul 0 j ∧ ul 0 j ≤ 1000000000) (hw : ∀ j, 0 ≤ j → j < 12 → 0 ≤ ul 1 j ∧ ul 1 j ≤ 1000000000) (hso : ∀ j, 0 ≤ j → j < 12 → 0 ≤ ui 0 j ∧ ui 0 j ≤ 1000000) : Met l y_U_doesStep w_U_doesStep ({ frames := 2, cells := 0, slots := 0, locals := 60 }) (va_Pc [.ref (a 29)] (fun U => U.heap.size = sz ∧ va_P D pn_cl (cw a cI cL cD cS nf ns da be ui ul cn ss mf sd pr) U.heap ∧ va_D (fun _ => True) (cw a cI cL cD cS nf ns da be ui ul cn ss mf sd pr) ∧ pn_E D cI cL cD cS U)) (va_Qi (fun (r : Int32) (u : (Int → Int) × (Int → Int)) => (r = iI 1 ∧ (∀ j, 4 ≤ j → j < 12 → (m_cars nf (ui 1) (ul 0) (ul 1) (cp (ul 0) (ul 2) ((0 : Nat) : Int) ((0 : Nat) : Int) ((12 : Nat) : Int)) 24) j + ui 0 j ≤ 1000000000) ∧ u.1 = cp (m_add (ui 0) (m_cars nf (ui 1) (ul 0) (ul 1) (cp (ul 0) (ul 2) ((0 : Nat) : Int) ((0 : Nat) : Int) ((12 : Nat) : Int)) 24) 12) (ul 0) ((0 : Nat) : Int) ((0 : Nat) : Int) ((12 : Nat) : Int)) ∨ (r = iI 0 ∧ (∃ j, 4 ≤ j ∧ j < 12 ∧ 1000000000 < (m_cars nf (ui 1) (ul 0) (ul 1) (cp (ul 0) (ul 2) ((0 : Nat) : Int) ((0 : Nat) : Int) ((12 : Nat) : Int)) 24) j + ui 0 j) ∧ u.1 = ul 0)) (fun u t => va_P D pn_cl ((fun u : (Int → Int) × (Int → Int) => cw a cI cL cD cS nf ns da be ui (nw (nw ul 0 u.1) 2 u.2) cn ss mf sd pr) u) t.heap ∧ va_D (va_A (cw a cI cL cD cS nf ns da be ui ul cn ss mf sd pr) sz) ((fun u : (Int → Int) × (Int → Int) => cw a cI cL cD cS nf ns da be ui (nw (nw ul 0 u.1) 2 u.2) cn ss mf sd pr) u)) (va_A (cw a cI cL cD cS nf ns da be ui ul cn ss mf sd pr) sz)) 0 0 (va_A (cw a cI cL cD cS nf ns da be ui ul cn ss mf sd pr) sz) := by
  refine Met.ofW (cc := b_U_doesStep) (maxL := 2) (ret := (some .boolean)) (by decide) rfl ?_
  intro p e s m args below meth c s₁ B hml hv
  obtain ⟨rfl, hsz, hP, hD0, hE⟩ := hv
  have hx := B.exec
  have hb := B.bytes
  have hr := B.returns
  have hts := atoms_spec (ws := w_U_doesStep) B.pre
  have ht : ∀ w ∈ pn_W, w.before _ s = true := fun w h => hts w (List.mem_cons_of_mem _ h)
  have hown : s.vm.findClass R_U = some m.cls := findClass_of_methodNamed B.named
  have hlocks := B.notSynchronized
  have hK := hE.1
  subst hsz
  have hD := hD0.self (sz := s.heap.size)
  generalize hAe : va_A (cw a cI cL cD cS nf ns da be ui ul cn ss mf sd pr) s.heap.size = A at hD ⊢
  have hA : ∀ q : Nat, s.heap.size ≤ q → A q := fun q h => by rw [← hAe]; exact Or.inr h
  have hS : va_S A s.heap s.heap [] := va_S.rf
  have hl := lv_entry ([.ref (a 29)]) (n := 2) (Nat.le_of_ble_eq_true rfl)
  rw [lg_entry_eq]
  generalize (lg_sl ([.ref (a 29)]) ++ List.replicate (2 - (lg_sl ([.ref (a 29)])).length) Slot.unset).toArray = ls at hl ⊢
  have hl : lv_has ls 2 [(0, .ref (a 29))] := hl
  obtain ⟨o_zc, o_lc, o_fc, o_ve, o_wi, o_wa, o_vo, o_fr, o_to, o_he, o_ar, o_ki, o_st, o_ff, o_sl, o_dc, o_da⟩ := id hOk
  have loop2 : ∀ (n : Nat) (tt : Int) (H : Heap) (locs : List Loc) (ls : Array Slot), (4 ≤ tt) → (tt ≤ 12) → (∀ j, 4 ≤ j → j < tt → (m_cars nf (ui 1) (ul 0) (ul 1) (cp (ul 0) (ul 2) ((0 : Nat) : Int) ((0 : Nat) : Int) ((12 : Nat) : Int)) 24) j + ui 0 j ≤ 1000000000) → ((12 - tt).toNat) < n → va_P D pn_cl (cw a cI cL cD cS nf ns da be ui (nw ul 2 (m_add (ui 0) (m_cars nf (ui 1) (ul 0) (ul 1) (cp (ul 0) (ul 2) ((0 : Nat) : Int) ((0 : Nat) : Int) ((12 : Nat) : Int)) 24) tt)) cn ss mf sd pr) H → va_D A (cw a cI cL cD cS nf ns da be ui (nw ul 2 (m_add (ui 0) (m_cars nf (ui 1) (ul 0) (ul 1) (cp (ul 0) (ul 2) ((0 : Nat) : Int) ((0 : Nat) : Int) ((12 : Nat) : Int)) 24) tt)) cn ss mf sd pr) → va_S A s.heap H locs → lv_has ls 2 [(0, .ref (a 29)), (1, .int (iI (tt)))] → W p l e (headSpec w_U_doesStep ({ frames := 2, cells := 0, slots := 0, locals := 60 })).room s m ([.ref (a 29)] : List Value).toArray below meth c H locs 0 0 (MQ below (va_Qi (fun (r : Int32) (u : (Int → Int) × (Int → Int)) => (r = iI 1 ∧ (∀ j, 4 ≤ j → j < 12 → (m_cars nf (ui 1) (ul 0) (ul 1) (cp (ul 0) (ul 2) ((0 : Nat) : Int) ((0 : Nat) : Int) ((12 : Nat) : Int)) 24) j + ui 0 j ≤ 1000000000) ∧ u.1 = cp (m_add (ui 0) (m_cars nf (ui 1) (ul 0) (ul 1) (cp (ul 0) (ul 2) ((0 : Nat) : Int) ((0 : Nat) : Int) ((12 : Nat) : Int)) 24) 12) (ul 0) ((0 : Nat) : Int) ((0 : Nat) : Int) ((12 : Nat) : Int)) ∨ (r = iI 0 ∧ (∃ j, 4 ≤ j ∧ j < 12 ∧ 1000000000 < (m_cars nf (ui 1) (ul 0) (ul 1) (cp (ul 0) (ul 2) ((0 : Nat) : Int) ((0 : Nat) : Int) ((12 : Nat) : Int)) 24) j + ui 0 j) ∧ u.1 = ul 0)) (fun u t => va_P D pn_cl ((fun u : (Int → Int) × (Int → Int) => cw a cI cL cD cS nf ns da be ui (nw (nw ul 0 u.1) 2 u.2) cn ss mf sd pr) u) t.heap ∧ va_D A ((fun u : (Int → Int) × (Int → Int) => cw a cI cL cD cS nf ns da be ui (nw (nw ul 0 u.1) 2 u.2) cn ss mf sd pr) u)) A) ([.ref (a 29)] : List Value).toArray s 0 0 A) (F0 m 36 ls []) := by
    intro n
    induction n with
    | zero => intro tt H locs ls _ _ _ hm; exact absurd hm (Nat.not_lt_zero _)
    | succ n ih =>
      intro tt H locs ls q1 q2 q3 hm hP hD hS hl
      refine lv_iload_n hx hb d_U_doesStep_36 rfl (lv_at hl 1 rfl) ?_
      refine lv_bipush (v := iI (12)) hx hb d_U_doesStep_37 (by decide) ?_
      refine pr_icmp_ge (tgt := 79) hx hb (i3_of (by omega) (by omega)) (i3_of (by decide) (by decide)) d_U_doesStep_39 (by decide) (fun c_1 => ?_) (fun c_1 => ?_)
      · skip
        refine lv_aload_n hx hb d_U_doesStep_79 rfl (lv_at hl 0 rfl) ?_
        refine va_get (D := D) (ci := 4) (v := .ref (a 34)) (C := R_U) (T := T_U) (N := 6) hx hb hts (in_U _) hown hK hP 29 rfl rfl 5 (by decide) (ht _ m_153) (fun _ h9 => h9) rfl d_U_doesStep_80 ?_
        refine lv_iconst (v := iI (0)) hx hb d_U_doesStep_83 rfl ?_
        refine lv_aload_n hx hb d_U_doesStep_84 rfl (lv_at hl 0 rfl) ?_
        refine va_get (D := D) (ci := 4) (v := .ref (a 30)) (C := R_U) (T := T_U) (N := 6) hx hb hts (in_U _) hown hK hP 29 rfl rfl 0 (by decide) (ht _ m_146) (fun _ h9 => h9) rfl d_U_doesStep_85 ?_
        refine lv_iconst (v := iI (0)) hx hb d_U_doesStep_88 rfl ?_
        refine lv_bipush (v := iI (12)) hx hb d_U_doesStep_89 (by decide) ?_
        refine pr_copyl (ws' := cw a cI cL cD cS nf ns da be ui (nw (nw ul 2 (m_add (ui 0) (m_cars nf (ui 1) (ul 0) (ul 1) (cp (ul 0) (ul 2) ((0 : Nat) : Int) ((0 : Nat) : Int) ((12 : Nat) : Int)) 24) tt)) 0 (cp ((nw ul 2 (m_add (ui 0) (m_cars nf (ui 1) (ul 0) (ul 1) (cp (ul 0) (ul 2) ((0 : Nat) : Int) ((0 : Nat) : Int) ((12 : Nat) : Int)) 24) tt)) 2) ((nw ul 2 (m_add (ui 0) (m_cars nf (ui 1) (ul 0) (ul 1) (cp (ul 0) (ul 2) ((0 : Nat) : Int) ((0 : Nat) : Int) ((12 : Nat) : Int)) 24) tt)) 0) ((0 : Nat) : Int) ((0 : Nat) : Int) ((12 : Nat) : Int))) cn ss mf sd pr) hx hb (hml.trans hl.1.symm) hown (ht _ m_567) (ht _ m_nat) (ht _ m_432) (ht _ m_45) hK hP hD hS 34 30 1 rfl rfl rfl 0 0 12 (by decide) (by decide) (by decide) (by decide) rfl (Nat.le_of_ble_eq_true rfl) (Nat.le_of_ble_eq_true rfl) d_U_doesStep_91 (fun H locs hP hD hS => ?_)
        have e8 : tt = 12 := by omega
        have e9 : nw (nw ul 2 (m_add (ui 0) (m_cars nf (ui 1) (ul 0) (ul 1) (cp (ul 0) (ul 2) ((0 : Nat) : Int) ((0 : Nat) : Int) ((12 : Nat) : Int)) 24) tt)) 0 (cp ((nw ul 2 (m_add (ui 0) (m_cars nf (ui 1) (ul 0) (ul 1) (cp (ul 0) (ul 2) ((0 : Nat) : Int) ((0 : Nat) : Int) ((12 : Nat) : Int)) 24) tt)) 2) ((nw ul 2 (m_add (ui 0) (m_cars nf (ui 1) (ul 0) (ul 1) (cp (ul 0) (ul 2) ((0 : Nat) : Int) ((0 : Nat) : Int) ((12 : Nat) : Int)) 24) tt)) 0) ((0 : Nat) : Int) ((0 : Nat) : Int) ((12 : Nat) : Int)) = nw (nw ul 0 (cp (m_add (ui 0) (m_cars nf (ui 1) (ul 0) (ul 1) (cp (ul 0) (ul 2) ((0 : Nat) : Int) ((0 : Nat) : Int) ((12 : Nat) : Int)) 24) 12) (ul 0) ((0 : Nat) : Int) ((0 : Nat) : Int) ((12 : Nat) : Int))) 2 (m_add (ui 0) (m_cars nf (ui 1) (ul 0) (ul 1) (cp (ul 0) (ul 2) ((0 : Nat) : Int) ((0 : Nat) : Int) ((12 : Nat) : Int)) 24) 12) := by rw [e8]; funext i; unfold nw; by_cases c0 : i = 0; rw [if_pos c0, c0]; rfl; by_cases c2 : i = 2; rw [if_neg c0, if_pos c2, if_pos c2]; rw [if_neg c0, if_neg c2, if_neg c2, if_neg c0]
        rw [e9] at hP hD
        clear e9
        refine lv_iconst (v := iI (1)) hx hb d_U_doesStep_94 rfl ?_
        exact W.zret (v := iI (1)) hx hb hr (by decide) (fun t ht hW => ⟨⟨iI (1), (cp (m_add (ui 0) (m_cars nf (ui 1) (ul 0) (ul 1) (cp (ul 0) (ul 2) ((0 : Nat) : Int) ((0 : Nat) : Int) ((12 : Nat) : Int)) 24) 12) (ul 0) ((0 : Nat) : Int) ((0 : Nat) : Int) ((12 : Nat) : Int), m_add (ui 0) (m_cars nf (ui 1) (ul 0) (ul 1) (cp (ul 0) (ul 2) ((0 : Nat) : Int) ((0 : Nat) : Int) ((12 : Nat) : Int)) 24) 12), rfl, Or.inl ⟨rfl, fun j a b => q3 j a (by omega), rfl⟩, by rw [ht]; exact hP, hD⟩, hS.F ht⟩) hS.2.2 d_U_doesStep_95
      · skip
        have s1 := hso tt (by omega) (by omega)
        have h1 := hh tt (by omega) (by omega)
        have cb := m_cars_b (nf := nf) (f := ui 1) (hl := ul 0) (wh := ul 1) (th := cp (ul 0) (ul 2) ((0 : Nat) : Int) ((0 : Nat) : Int) ((12 : Nat) : Int)) (n := 24) hf (fun d a b c => hh _ c (m_gv_b (ui 1) hOk a b).1.2) (by decide) tt
        have c0 : (cp (ul 0) (ul 2) ((0 : Nat) : Int) ((0 : Nat) : Int) ((12 : Nat) : Int)) tt = ul 0 tt := by unfold cp; rw [if_pos (by omega)]; congr 1; omega
        rw [c0] at cb
        refine lv_aload_n hx hb d_U_doesStep_42 rfl (lv_at hl 0 rfl) ?_
        refine va_get (D := D) (ci := 4) (v := .ref (a 34)) (C := R_U) (T := T_U) (N := 6) hx hb hts (in_U _) hown hK hP 29 rfl rfl 5 (by decide) (ht _ m_153) (fun _ h9 => h9) rfl d_U_doesStep_43 ?_
        refine lv_iload_n hx hb d_U_doesStep_46 rfl (lv_at hl 1 rfl) ?_
        refine lv_dup2_11 hx hb d_U_doesStep_47 rfl rfl ?_
        refine pr_lald hx hb hK hP 34 1 rfl rfl (by decide) (by omega) (by omega) d_U_doesStep_48 ?_
        refine lv_aload_n hx hb d_U_doesStep_49 rfl (lv_at hl 0 rfl) ?_
        refine va_get (D := D) (ci := 4) (v := .ref (a 31)) (C := R_U) (T := T_U) (N := 6) hx hb hts (in_U _) hown hK hP 29 rfl rfl 1 (by decide) (ht _ m_148) (fun _ h9 => h9) rfl d_U_doesStep_50 ?_
        refine lv_iload_n hx hb d_U_doesStep_53 rfl (lv_at hl 1 rfl) ?_
        refine pr_iald hx hb hK hP 31 0 rfl rfl (by decide) (by omega) (by omega) d_U_doesStep_54 ?_
        refine pr_i2l hx hb (i3_of (by omega) (by omega)) d_U_doesStep_55 ?_
        refine pr_ladd hx hb d_U_doesStep_56 ?_
        refine pr_last (ws' := cw a cI cL cD cS nf ns da be ui (nw (nw ul 2 (m_add (ui 0) (m_cars nf (ui 1) (ul 0) (ul 1) (cp (ul 0) (ul 2) ((0 : Nat) : Int) ((0 : Nat) : Int) ((12 : Nat) : Int)) 24) tt)) 2 (pu ((nw ul 2 (m_add (ui 0) (m_cars nf (ui 1) (ul 0) (ul 1) (cp (ul 0) (ul 2) ((0 : Nat) : Int) ((0 : Nat) : Int) ((12 : Nat) : Int)) 24) tt)) 2) (tt) (((nw ul 2 (m_add (ui 0) (m_cars nf (ui 1) (ul 0) (ul 1) (cp (ul 0) (ul 2) ((0 : Nat) : Int) ((0 : Nat) : Int) ((12 : Nat) : Int)) 24) tt)) 2 (tt)) + (ui 0 (tt))))) cn ss mf sd pr) hx hb hK hP hD hS 34 1 rfl rfl (by decide) (by omega) (by omega) rfl d_U_doesStep_57 (fun H locs hP hD hS => ?_)
        have e9 : nw (nw ul 2 (m_add (ui 0) (m_cars nf (ui 1) (ul 0) (ul 1) (cp (ul 0) (ul 2) ((0 : Nat) : Int) ((0 : Nat) : Int) ((12 : Nat) : Int)) 24) tt)) 2 (pu ((nw ul 2 (m_add (ui 0) (m_cars nf (ui 1) (ul 0) (ul 1) (cp (ul 0) (ul 2) ((0 : Nat) : Int) ((0 : Nat) : Int) ((12 : Nat) : Int)) 24) tt)) 2) (tt) (((nw ul 2 (m_add (ui 0) (m_cars nf (ui 1) (ul 0) (ul 1) (cp (ul 0) (ul 2) ((0 : Nat) : Int) ((0 : Nat) : Int) ((12 : Nat) : Int)) 24) tt)) 2 (tt)) + (ui 0 (tt)))) = nw ul 2 (m_add (ui 0) (m_cars nf (ui 1) (ul 0) (ul 1) (cp (ul 0) (ul 2) ((0 : Nat) : Int) ((0 : Nat) : Int) ((12 : Nat) : Int)) 24) (tt + 1)) := by rw [nw_nw, nw_s, m_add_s _ _ q1]
        rw [e9] at hP hD
        clear e9
        refine lv_aload_n hx hb d_U_doesStep_58 rfl (lv_at hl 0 rfl) ?_
        refine va_get (D := D) (ci := 4) (v := .ref (a 34)) (C := R_U) (T := T_U) (N := 6) hx hb hts (in_U _) hown hK hP 29 rfl rfl 5 (by decide) (ht _ m_153) (fun _ h9 => h9) rfl d_U_doesStep_59 ?_
        refine lv_iload_n hx hb d_U_doesStep_62 rfl (lv_at hl 1 rfl) ?_
        refine pr_lald hx hb hK hP 34 1 rfl rfl (by decide) (by omega) (by omega) d_U_doesStep_63 ?_
        refine pr_lre (B := (m_cars nf (ui 1) (ul 0) (ul 1) (cp (ul 0) (ul 2) ((0 : Nat) : Int) ((0 : Nat) : Int) ((12 : Nat) : Int)) 24) tt + ui 0 tt) (by show m_add (ui 0) (m_cars nf (ui 1) (ul 0) (ul 1) (cp (ul 0) (ul 2) ((0 : Nat) : Int) ((0 : Nat) : Int) ((12 : Nat) : Int)) 24) (tt + 1) tt = _; unfold m_add; rw [if_pos (by omega)]) ?_
        refine lv_ldc2 (v := lI (1000000000)) hx hb hown (ht (.constantLong _ 87 (lI (1000000000))) m_576) d_U_doesStep_64 ?_
        refine pr_lcmp_le (tgt := 73) hx hb (i6_of (by omega) (by omega)) (i6_of (by decide) (by decide)) d_U_doesStep_67 d_U_doesStep_68 (by decide) (fun c_2 => ?_) (fun c_2 => ?_)
        · skip
          refine lv_iinc (v := iI (tt + 1)) (lv' := [(1, .int (iI (tt + 1))), (0, .ref (a 29))]) hx hb d_U_doesStep_73 hl (k := 1) rfl (iI_add _ _).symm (by decide) rfl (fun ls hl => ?_)
          refine lv_goto (tgt := 36) hx hb d_U_doesStep_76 (by decide) ?_
          exact ih (tt + 1) _ _ ls (by omega) (by omega) (fun j a b => by rcases (by omega : j < tt ∨ j = tt) with z | z; exact q3 j a z; rw [z]; omega) (by omega) hP hD hS (lv_sub hl [1, 0] rfl)
        · skip
          refine lv_iconst (v := iI (0)) hx hb d_U_doesStep_71 rfl ?_
          have hP : va_P D pn_cl (cw a cI cL cD cS nf ns da be ui (nw (nw ul 0 (ul 0)) 2 (m_add (ui 0) (m_cars nf (ui 1) (ul 0) (ul 1) (cp (ul 0) (ul 2) ((0 : Nat) : Int) ((0 : Nat) : Int) ((12 : Nat) : Int)) 24) (tt + 1))) cn ss mf sd pr) H := by rw [nw_self]; exact hP
          have hD : va_D A (cw a cI cL cD cS nf ns da be ui (nw (nw ul 0 (ul 0)) 2 (m_add (ui 0) (m_cars nf (ui 1) (ul 0) (ul 1) (cp (ul 0) (ul 2) ((0 : Nat) : Int) ((0 : Nat) : Int) ((12 : Nat) : Int)) 24) (tt + 1))) cn ss mf sd pr) := by rw [nw_self]; exact hD
          exact W.zret (v := iI (0)) hx hb hr (by decide) (fun t ht hW => ⟨⟨iI (0), (ul 0, m_add (ui 0) (m_cars nf (ui 1) (ul 0) (ul 1) (cp (ul 0) (ul 2) ((0 : Nat) : Int) ((0 : Nat) : Int) ((12 : Nat) : Int)) 24) (tt + 1)), rfl, Or.inr ⟨rfl, ⟨tt, q1, by omega, by omega⟩, rfl⟩, by rw [ht]; exact hP, hD⟩, hS.F ht⟩) hS.2.2 d_U_doesStep_72
  have loop1 : ∀ (n : Nat) (n9 : Nat) (H : Heap) (locs : List Loc) (ls : Array Slot), (n9 ≤ 24) → (24 - n9) < n → va_P D pn_cl (cw a cI cL cD cS nf ns da be ui (nw ul 2 (m_cars nf (ui 1) (ul 0) (ul 1) (cp (ul 0) (ul 2) ((0 : Nat) : Int) ((0 : Nat) : Int) ((12 : Nat) : Int)) n9)) cn ss mf sd pr) H → va_D A (cw a cI cL cD cS nf ns da be ui (nw ul 2 (m_cars nf (ui 1) (ul 0) (ul 1) (cp (ul 0) (ul 2) ((0 : Nat) : Int) ((0 : Nat) : Int) ((12 : Nat) : Int)) n9)) cn ss mf sd pr) → va_S A s.heap H locs → lv_has ls 2 [(0, .ref (a 29)), (1, .int (iI (((n9 : Nat) : Int))))] → W p l e (headSpec w_U_doesStep ({ frames := 2, cells := 0, slots := 0, locals := 60 })).room s m ([.ref (a 29)] : List Value).toArray below meth c H locs 0 0 (MQ below (va_Qi (fun (r : Int32) (u : (Int → Int) × (Int → Int)) => (r = iI 1 ∧ (∀ j, 4 ≤ j → j < 12 → (m_cars nf (ui 1) (ul 0) (ul 1) (cp (ul 0) (ul 2) ((0 : Nat) : Int) ((0 : Nat) : Int) ((12 : Nat) : Int)) 24) j + ui 0 j ≤ 1000000000) ∧ u.1 = cp (m_add (ui 0) (m_cars nf (ui 1) (ul 0) (ul 1) (cp (ul 0) (ul 2) ((0 : Nat) : Int) ((0 : Nat) : Int) ((12 : Nat) : Int)) 24) 12) (ul 0) ((0 : Nat) : Int) ((0 : Nat) : Int) ((12 : Nat) : Int)) ∨ (r = iI 0 ∧ (∃ j, 4 ≤ j ∧ j < 12 ∧ 1000000000 < (m_cars nf (ui 1) (ul 0) (ul 1) (cp (ul 0) (ul 2) ((0 : Nat) : Int) ((0 : Nat) : Int) ((12 : Nat) : Int)) 24) j + ui 0 j) ∧ u.1 = ul 0)) (fun u t => va_P D pn_cl ((fun u : (Int → Int) × (Int → Int) => cw a cI cL cD cS nf ns da be ui (nw (nw ul 0 u.1) 2 u.2) cn ss mf sd pr) u) t.heap ∧ va_D A ((fun u : (Int → Int) × (Int → Int) => cw a cI cL cD cS nf ns da be ui (nw (nw ul 0 u.1) 2 u.2) cn ss mf sd pr) u)) A) ([.ref (a 29)] : List Value).toArray s 0 0 A) (F0 m 17 ls []) := by
    intro n
    induction n with
    | zero => intro n9 H locs ls _ hm; exact absurd hm (Nat.not_lt_zero _)
    | succ n ih =>
      intro n9 H locs ls q1 hm hP hD hS hl
      refine lv_iload_n hx hb d_U_doesStep_17 rfl (lv_at hl 1 rfl) ?_
      refine lv_bipush (v := iI (24)) hx hb d_U_doesStep_18 (by decide) ?_
      refine pr_icmp_ge (tgt := 34) hx hb (i3_of (by omega) (by omega)) (i3_of (by decide) (by decide)) d_U_doesStep_20 (by decide) (fun c_3 => ?_) (fun c_3 => ?_)
      · skip
        have e8 : n9 = 24 := by omega
        have e9 : nw ul 2 (m_cars nf (ui 1) (ul 0) (ul 1) (cp (ul 0) (ul 2) ((0 : Nat) : Int) ((0 : Nat) : Int) ((12 : Nat) : Int)) n9) = nw ul 2 (m_add (ui 0) (m_cars nf (ui 1) (ul 0) (ul 1) (cp (ul 0) (ul 2) ((0 : Nat) : Int) ((0 : Nat) : Int) ((12 : Nat) : Int)) 24) 4) := by rw [e8, m_add_4]
        rw [e9] at hP hD
        clear e9
        refine lv_iconst (v := iI (4)) hx hb d_U_doesStep_34 rfl ?_
        refine lv_istore_n (lv' := [(1, .int (iI (4))), (0, .ref (a 29))]) hx hb d_U_doesStep_35 rfl hl (by decide) rfl (fun ls hl => ?_)
        exact loop2 _ (4) _ _ ls (by omega) (by omega) (fun j a b => by omega) (Nat.lt_succ_self _) hP hD hS (lv_sub hl [1, 0] rfl)
      · skip
        refine lv_aload_n hx hb d_U_doesStep_23 rfl (lv_at hl 0 rfl) ?_
        refine lv_iload_n hx hb d_U_doesStep_24 rfl (lv_at hl 1 rfl) ?_
        refine pr_cv (va_runV (As := [.int (iI (((n9 : Nat) : Int)))]) (rest := []) ⟨hx, hb, hml, hown, hts⟩ (c_U_carry l (ul := nw ul 2 (m_cars nf (ui 1) (ul 0) (ul 1) (cp (ul 0) (ul 2) ((0 : Nat) : Int) ((0 : Nat) : Int) ((12 : Nat) : Int)) n9)) H.size (((n9 : Nat) : Int)) hOk hf ⟨by omega, by omega⟩ hh hw) (cwV 1 hts (pn_gV m_568 m_570 m_14 m_36 m_571) rfl rfl rfl (by decide +kernel) ⟨Nat.le_of_ble_eq_true rfl, Nat.le_of_ble_eq_true rfl⟩) (pn_preW (q0 := 29) (ci := 4) (q := (R_U, T_U, 6)) hP hD hE rfl rfl) rfl rfl hl.1 rfl (lv_room (Nat.le_of_ble_eq_true rfl)) d_U_doesStep_25 ⟨Nat.le_of_ble_eq_true rfl, Nat.le_of_ble_eq_true rfl⟩) hD hS hA (fun u H locs _ hP hD hS => ?_)
        try dsimp only at hP hD
        have hP : va_P D pn_cl (cw a cI cL cD cS nf ns da be ui (nw (nw ul 2 (m_cars nf (ui 1) (ul 0) (ul 1) (cp (ul 0) (ul 2) ((0 : Nat) : Int) ((0 : Nat) : Int) ((12 : Nat) : Int)) n9)) 2 (m_car nf (ui 1) ((nw ul 2 (m_cars nf (ui 1) (ul 0) (ul 1) (cp (ul 0) (ul 2) ((0 : Nat) : Int) ((0 : Nat) : Int) ((12 : Nat) : Int)) n9)) 0) ((nw ul 2 (m_cars nf (ui 1) (ul 0) (ul 1) (cp (ul 0) (ul 2) ((0 : Nat) : Int) ((0 : Nat) : Int) ((12 : Nat) : Int)) n9)) 1) ((nw ul 2 (m_cars nf (ui 1) (ul 0) (ul 1) (cp (ul 0) (ul 2) ((0 : Nat) : Int) ((0 : Nat) : Int) ((12 : Nat) : Int)) n9)) 2) (((n9 : Nat) : Int)))) cn ss mf sd pr) H := hP
        have hD : va_D A (cw a cI cL cD cS nf ns da be ui (nw (nw ul 2 (m_cars nf (ui 1) (ul 0) (ul 1) (cp (ul 0) (ul 2) ((0 : Nat) : Int) ((0 : Nat) : Int) ((12 : Nat) : Int)) n9)) 2 (m_car nf (ui 1) ((nw ul 2 (m_cars nf (ui 1) (ul 0) (ul 1) (cp (ul 0) (ul 2) ((0 : Nat) : Int) ((0 : Nat) : Int) ((12 : Nat) : Int)) n9)) 0) ((nw ul 2 (m_cars nf (ui 1) (ul 0) (ul 1) (cp (ul 0) (ul 2) ((0 : Nat) : Int) ((0 : Nat) : Int) ((12 : Nat) : Int)) n9)) 1) ((nw ul 2 (m_cars nf (ui 1) (ul 0) (ul 1) (cp (ul 0) (ul 2) ((0 : Nat) : Int) ((0 : Nat) : Int) ((12 : Nat) : Int)) n9)) 2) (((n9 : Nat) : Int)))) cn ss mf sd pr) := hD
        have e9 : nw (nw ul 2 (m_cars nf (ui 1) (ul 0) (ul 1) (cp (ul 0) (ul 2) ((0 : Nat) : Int) ((0 : Nat) : Int) ((12 : Nat) : Int)) n9)) 2 (m_car nf (ui 1) ((nw ul 2 (m_cars nf (ui 1) (ul 0) (ul 1) (cp (ul 0) (ul 2) ((0 : Nat) : Int) ((0 : Nat) : Int) ((12 : Nat) : Int)) n9)) 0) ((nw ul 2 (m_cars nf (ui 1) (ul 0) (ul 1) (cp (ul 0) (ul 2) ((0 : Nat) : Int) ((0 : Nat) : Int) ((12 : Nat) : Int)) n9)) 1) ((nw ul 2 (m_cars nf (ui 1) (ul 0) (ul 1) (cp (ul 0) (ul 2) ((0 : Nat) : Int) ((0 : Nat) : Int) ((12 : Nat) : Int)) n9)) 2) (((n9 : Nat) : Int))) = nw ul 2 (m_cars nf (ui 1) (ul 0) (ul 1) (cp (ul 0) (ul 2) ((0 : Nat) : Int) ((0 : Nat) : Int) ((12 : Nat) : Int)) (n9 + 1)) := by rw [nw_nw]; rfl
        rw [e9] at hP hD
        clear e9
        refine lv_iinc (v := iI (((n9 : Nat) : Int) + 1)) (lv' := [(1, .int (iI (((n9 : Nat) : Int) + 1))), (0, .ref (a 29))]) hx hb d_U_doesStep_28 hl (k := 1) rfl (iI_add _ _).symm (by decide) rfl (fun ls hl => ?_)
        refine lv_goto (tgt := 17) hx hb d_U_doesStep_31 (by decide) ?_
        exact ih (n9 + 1) _ _ ls (by omega) (by omega) hP hD hS (lv_sub hl [1, 0] rfl)
  refine lv_aload_n hx hb d_U_doesStep_0 rfl (lv_at hl 0 rfl) ?_
  refine va_get (D := D) (ci := 4) (v := .ref (a 30)) (C := R_U) (T := T_U) (N := 6) hx hb hts (in_U _) hown hK hP 29 rfl rfl 0 (by decide) (ht _ m_146) (fun _ h9 => h9) rfl d_U_doesStep_1 ?_
  refine lv_iconst (v := iI (0)) hx hb d_U_doesStep_4 rfl ?_
  refine lv_aload_n hx hb d_U_doesStep_5 rfl (lv_at hl 0 rfl) ?_
  refine va_get (D := D) (ci := 4) (v := .ref (a 34)) (C := R_U) (T := T_U) (N := 6) hx hb hts (in_U _) hown hK hP 29 rfl rfl 5 (by decide) (ht _ m_153) (fun _ h9 => h9) rfl d_U_doesStep_6 ?_
  refine lv_iconst (v := iI (0)) hx hb d_U_doesStep_9 rfl ?_
  refine lv_bipush (v := iI (12)) hx hb d_U_doesStep_10 (by decide) ?_
  refine pr_copyl (ws' := cw a cI cL cD cS nf ns da be ui (nw ul 2 (cp (ul 0) (ul 2) ((0 : Nat) : Int) ((0 : Nat) : Int) ((12 : Nat) : Int))) cn ss mf sd pr) hx hb (hml.trans hl.1.symm) hown (ht _ m_567) (ht _ m_nat) (ht _ m_432) (ht _ m_45) hK hP hD hS 30 34 1 rfl rfl rfl 0 0 12 (by decide) (by decide) (by decide) (by decide) rfl (Nat.le_of_ble_eq_true rfl) (Nat.le_of_ble_eq_true rfl) d_U_doesStep_12 (fun H locs hP hD hS => ?_)
  refine lv_iconst (v := iI (0)) hx hb d_U_doesStep_15 rfl ?_
  refine lv_istore_n (lv' := [(1, .int (iI (0))), (0, .ref (a 29))]) hx hb d_U_doesStep_16 rfl hl (by decide) rfl (fun ls hl => ?_)
  exact loop1 _ (0) _ _ ls (by omega) (Nat.lt_succ_self _) hP hD hS (lv_sub hl [1, 0] rfl)
