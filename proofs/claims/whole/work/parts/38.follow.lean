/-! the flows that are followed -/
theorem lI_max {A B : Int} (hA : i6 A) (hB : i6 B) : (if lI A < lI B then lI B else lI A) = lI (max A B) := by
  by_cases h : A < B
  · rw [if_pos ((lI_lt hA hB).mpr h), Int.max_eq_right (by omega)]
  · rw [if_neg (fun q => h ((lI_lt hA hB).mp q)), Int.max_eq_left (by omega)]
section PL3
variable {p : Program} {l : Launch} {e : Env} {R : Room} {s : State} {m : MethodId} {args : Array Value} {below : List Frame} {meth : Method} {c : Code} {H : Heap} {locs : List Loc} {cells slots : Nat} {Q : State → Prop} {pc : Nat} {ls : Array Slot} {rest : List Value}
theorem pr_lxe {v : Int64} {B : Int} (h : v = lI B) (k : W p l e R s m args below meth c H locs cells slots Q (F0 m pc ls (.long (lI B) :: rest))) : W p l e R s m args below meth c H locs cells slots Q (F0 m pc ls (.long v :: rest)) := by subst h; exact k
end PL3
def m_F (nf : Nat → Int → Int) (ns : Nat → Int) (S : Nat) (P : Int → Int) (d : Int) : Int := if (d < 20 ∧ d < ns 1) ∨ (20 ≤ d ∧ d - 20 < ns 2) then m_flow nf S P d else 0
def m_fls (F f : Int → Int) (t : Int) : Int → Int := fun j => if 0 ≤ j ∧ j < t then F j else f j
theorem m_fls_0 (F f : Int → Int) : m_fls F f 0 = f := by
  funext j
  unfold m_fls
  exact if_neg (by omega)
theorem m_fls_s (F f : Int → Int) {t : Int} (h : 0 ≤ t) : pu (m_fls F f t) t (F t) = m_fls F f (t + 1) := by
  funext j
  unfold pu m_fls
  by_cases e : j = t
  · rw [if_pos e, if_pos (by omega), e]
  · rw [if_neg e]
    by_cases q : 0 ≤ j ∧ j < t
    · rw [if_pos q, if_pos (by omega)]
    · rw [if_neg q, if_neg (by omega)]
theorem m_fls_b {F f : Int → Int} {t : Int} (hF : ∀ j, 0 ≤ j → j < 24 → -27000000 ≤ F j ∧ F j ≤ 27000000) (hf : pn_Fl f) : pn_Fl (m_fls F f t) := by
  intro j a b
  unfold m_fls
  by_cases q : 0 ≤ j ∧ j < t
  · rw [if_pos q]; exact hF j a b
  · rw [if_neg q]; exact hf j a b
theorem m_fls_t {F f : Int → Int} {t : Int} (h : 0 ≤ t) : m_fls F f (t + 1) t = F t := by
  unfold m_fls
  exact if_pos (by omega)
def m_whs (nf : Nat → Int → Int) (F w0 : Int → Int) : Nat → (Int → Int)
  | 0 => w0
  | n + 1 => pu (m_whs nf F w0 n) (m_gv nf F (n : Int)) (m_whs nf F w0 n (m_gv nf F (n : Int)) + m_abs (F (n : Int)))
theorem m_whs_b {nf : Nat → Int → Int} {F w0 : Int → Int} {n : Nat} (hF : ∀ j, 0 ≤ j → j < 24 → -27000000 ≤ F j ∧ F j ≤ 27000000) (hn : n ≤ 24) (j : Int) (h0 : w0 j = 0) : 0 ≤ m_whs nf F w0 n j ∧ m_whs nf F w0 n j ≤ 27000000 * n := by
  induction n with
  | zero => show 0 ≤ w0 j ∧ w0 j ≤ _; omega
  | succ n ih =>
    have h1 := ih (by omega)
    have hfn := hF (n : Int) (by omega) (by omega)
    have ab : 0 ≤ m_abs (F (n : Int)) ∧ m_abs (F (n : Int)) ≤ 27000000 := by
      unfold m_abs
      by_cases c : 0 ≤ F (n : Int)
      · rw [if_pos c]; omega
      · rw [if_neg c]; omega
    have e : ((n + 1 : Nat) : Int) = (n : Int) + 1 := rfl
    rw [e]
    show 0 ≤ pu _ _ _ j ∧ pu _ _ _ j ≤ _
    unfold pu
    by_cases c : j = m_gv nf F (n : Int)
    · rw [if_pos c, ← c]; omega
    · rw [if_neg c]; omega
def m_wz (nf : Nat → Int → Int) (W : Int → Int) (n : Int) : Int → Int := fun j => if 4 ≤ j ∧ j < 4 + n then max (W j) (nf 2 (j - 4)) else W j
theorem m_wz_0 (nf : Nat → Int → Int) (W : Int → Int) : m_wz nf W 0 = W := by
  funext j
  unfold m_wz
  exact if_neg (by omega)
theorem m_wz_s (nf : Nat → Int → Int) (W : Int → Int) {t : Int} (h : 0 ≤ t) : pu (m_wz nf W t) (t + 4) (max (m_wz nf W t (t + 4)) (nf 2 t)) = m_wz nf W (t + 1) := by
  funext j
  unfold pu m_wz
  by_cases e : j = t + 4
  · rw [if_pos e, if_neg (by omega), if_pos (by omega), e, show t + 4 - 4 = t by omega]
  · rw [if_neg e]
    by_cases q : 4 ≤ j ∧ j < 4 + t
    · rw [if_pos q, if_pos (by omega)]
    · rw [if_neg q, if_neg (by omega)]
abbrev w_A_filll : List Cond := .code y_A_filll b_A_filll 5 none :: pn_W
set_option maxHeartbeats 4000000 in
set_option maxRecDepth 100000 in
theorem c_A_filll (l : Launch) {D : va_G} {a : Nat → Nat} {cI cL cD cS : ClassId} {nf : Nat → Int → Int} {ns : Nat → Int} {da : Int → Int → Int} {be : Int → Int} {ui ul : Nat → Int → Int} {cn : Int} {ss : Nat → Nat} {mf sd : Nat → Int} {pr : Nat → Int → Int} (sz : Nat) (v : Int)  : Met l y_A_filll w_A_filll ({ frames := 0, cells := 0, slots := 0, locals := 0 }) (va_Pc [.ref (a 33), .long (lI (v))] (fun U => U.heap.size = sz ∧ va_P D pn_cl (cw a cI cL cD cS nf ns da be ui ul cn ss mf sd pr) U.heap ∧ va_D (fun _ => True) (cw a cI cL cD cS nf ns da be ui ul cn ss mf sd pr) ∧ pn_E D cI cL cD cS U)) (va_Qv (fun (_ : Unit) => True) (fun u t => va_P D pn_cl ((fun _ : Unit => cw a cI cL cD cS nf ns da be ui (nw ul 1 (fl 12 v (ul 1))) cn ss mf sd pr) u) t.heap ∧ va_D (va_A (cw a cI cL cD cS nf ns da be ui ul cn ss mf sd pr) sz) ((fun _ : Unit => cw a cI cL cD cS nf ns da be ui (nw ul 1 (fl 12 v (ul 1))) cn ss mf sd pr) u)) (va_A (cw a cI cL cD cS nf ns da be ui ul cn ss mf sd pr) sz)) 0 0 (va_A (cw a cI cL cD cS nf ns da be ui ul cn ss mf sd pr) sz) := by
  refine Met.ofW (cc := b_A_filll) (maxL := 5) (ret := none) (by decide) rfl ?_
  intro p e s m args below meth c s₁ B hml hv
  obtain ⟨rfl, hsz, hP, hD0, hE⟩ := hv
  have hx := B.exec
  have hb := B.bytes
  have hr := B.returns
  have hts := atoms_spec (ws := w_A_filll) B.pre
  have ht : ∀ w ∈ pn_W, w.before _ s = true := fun w h => hts w (List.mem_cons_of_mem _ h)
  have hown : s.vm.findClass R_A = some m.cls := findClass_of_methodNamed B.named
  have hlocks := B.notSynchronized
  have hK := hE.1
  subst hsz
  have hD := hD0.self (sz := s.heap.size)
  generalize hAe : va_A (cw a cI cL cD cS nf ns da be ui ul cn ss mf sd pr) s.heap.size = A at hD ⊢
  have hA : ∀ q : Nat, s.heap.size ≤ q → A q := fun q h => by rw [← hAe]; exact Or.inr h
  have hS : va_S A s.heap s.heap [] := va_S.rf
  have hl := lv_entry ([.ref (a 33), .long (lI (v))]) (n := 5) (Nat.le_of_ble_eq_true rfl)
  rw [lg_entry_eq]
  generalize (lg_sl ([.ref (a 33), .long (lI (v))]) ++ List.replicate (5 - (lg_sl ([.ref (a 33), .long (lI (v))])).length) Slot.unset).toArray = ls at hl ⊢
  have hl : lv_has ls 5 [(0, .ref (a 33)), (1, .long (lI (v)))] := hl
  have loop : ∀ (n : Nat) (t : Int) (H : Heap) (locs : List Loc) (ls : Array Slot), (0 ≤ t) → (t ≤ 12) → ((12 - t).toNat) < n → va_P D pn_cl (cw a cI cL cD cS nf ns da be ui (nw ul 1 (fl t v (ul 1))) cn ss mf sd pr) H → va_D A (cw a cI cL cD cS nf ns da be ui (nw ul 1 (fl t v (ul 1))) cn ss mf sd pr) → va_S A s.heap H locs → lv_has ls 5 [(0, .ref (a 33)), (1, .long (lI (v))), (3, .int (iI (t))), (4, .int (iI (12)))] → W p l e (headSpec w_A_filll ({ frames := 0, cells := 0, slots := 0, locals := 0 })).room s m ([.ref (a 33), .long (lI (v))] : List Value).toArray below meth c H locs 0 0 (MQ below (va_Qv (fun (_ : Unit) => True) (fun u t => va_P D pn_cl ((fun _ : Unit => cw a cI cL cD cS nf ns da be ui (nw ul 1 (fl 12 v (ul 1))) cn ss mf sd pr) u) t.heap ∧ va_D A ((fun _ : Unit => cw a cI cL cD cS nf ns da be ui (nw ul 1 (fl 12 v (ul 1))) cn ss mf sd pr) u)) A) ([.ref (a 33), .long (lI (v))] : List Value).toArray s 0 0 A) (F0 m 6 ls []) := by
    intro n
    induction n with
    | zero => intro t H locs ls _ _ hm; exact absurd hm (Nat.not_lt_zero _)
    | succ n ih =>
      intro t H locs ls q1 q2 hm hP hD hS hl
      refine lv_iload_n hx hb d_A_filll_6 rfl (lv_at hl 2 rfl) ?_
      refine lv_iload hx hb d_A_filll_7 (lv_at hl 3 rfl) ?_
      refine pr_icmp_ge (tgt := 22) hx hb (i3_of (by omega) (by omega)) (i3_of (by decide) (by decide)) d_A_filll_9 (by decide) (fun c_1 => ?_) (fun c_1 => ?_)
      · skip
        have e8 : t = 12 := by omega
        rw [e8] at hP hD
        exact W.vret hx hb hr (fun t ht hW => ⟨⟨(), rfl, trivial, by rw [ht]; exact hP, hD⟩, hS.F ht⟩) hS.2.2 d_A_filll_22
      · skip
        refine lv_aload_n hx hb d_A_filll_12 rfl (lv_at hl 0 rfl) ?_
        refine lv_iload_n hx hb d_A_filll_13 rfl (lv_at hl 2 rfl) ?_
        refine lv_lload_n hx hb d_A_filll_14 rfl (lv_at hl 1 rfl) ?_
        refine pr_last (ws' := cw a cI cL cD cS nf ns da be ui (nw (nw ul 1 (fl t v (ul 1))) 1 (pu ((nw ul 1 (fl t v (ul 1))) 1) (t) (v))) cn ss mf sd pr) hx hb hK hP hD hS 33 1 rfl rfl (by decide) (by omega) (by omega) rfl d_A_filll_15 (fun H locs hP hD hS => ?_)
        have e9 : nw (nw ul 1 (fl t v (ul 1))) 1 (pu ((nw ul 1 (fl t v (ul 1))) 1) (t) (v)) = nw ul 1 (fl (t + 1) v (ul 1)) := by rw [nw_nw, nw_s, fl_s q1]
        rw [e9] at hP hD
        clear e9
        refine lv_iinc (v := iI (t + 1)) (lv' := [(3, .int (iI (t + 1))), (0, .ref (a 33)), (1, .long (lI (v))), (4, .int (iI (12)))]) hx hb d_A_filll_16 hl (k := 2) rfl (iI_add _ _).symm (by decide) rfl (fun ls hl => ?_)
        refine lv_goto (tgt := 6) hx hb d_A_filll_19 (by decide) ?_
        exact ih (t + 1) _ _ ls (by omega) (by omega) (by omega) hP hD hS (lv_sub hl [1, 2, 0, 3] rfl)
  refine lv_iconst (v := iI (0)) hx hb d_A_filll_0 rfl ?_
  refine lv_istore_n (lv' := [(3, .int (iI (0))), (0, .ref (a 33)), (1, .long (lI (v)))]) hx hb d_A_filll_1 rfl hl (by decide) rfl (fun ls hl => ?_)
  refine lv_aload_n hx hb d_A_filll_2 rfl (lv_at hl 1 rfl) ?_
  refine va_alen (v := iI 12) hx hb hK hP 33 1 rfl rfl (by show Int32.ofNat 12 = iI 12; decide) d_A_filll_3 ?_
  refine lv_istore (lv' := [(4, .int (iI (12))), (3, .int (iI (0))), (0, .ref (a 33)), (1, .long (lI (v)))]) hx hb d_A_filll_4 hl (by decide) rfl (fun ls hl => ?_)
  have hP : va_P D pn_cl (cw a cI cL cD cS nf ns da be ui (nw ul 1 (fl 0 v (ul 1))) cn ss mf sd pr) s.heap := by rw [fl_0, nw_self]; exact hP
  have hD : va_D A (cw a cI cL cD cS nf ns da be ui (nw ul 1 (fl 0 v (ul 1))) cn ss mf sd pr) := by rw [fl_0, nw_self]; exact hD
  exact loop _ (0) _ _ ls (by omega) (by omega) (Nat.lt_succ_self _) hP hD hS (lv_sub hl [2, 3, 1, 0] rfl)
