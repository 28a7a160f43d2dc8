/-! one step of what is carried, told once for both -/
def s_d (nf : Nat → Int → Int) (F hl wh : Int → Int) (d j : Int) : Int := if F d = 0 ∨ m_gv nf F d < 4 then 0 else (if j = m_tk nf F d then m_part nf F hl wh d else 0) - (if j = m_gv nf F d then m_part nf F hl wh d else 0)
def s_T (nf : Nat → Int → Int) (F hl wh : Int → Int) (j : Int) : Int := hl j + m_sum (fun d => s_d nf F hl wh d j) 24
def s_wh (nf : Nat → Int → Int) (F : Int → Int) : Int → Int := fun j => max (m_ab nf F j 24) (nf 2 (j - 4))
def s_nx (nf : Nat → Int → Int) (F so hl : Int → Int) : Int → Int := fun j => if 4 ≤ j then s_T nf F hl (s_wh nf F) j + so j else s_T nf F hl (s_wh nf F) j
def s_ok (nf : Nat → Int → Int) (F so hl : Int → Int) : Prop := ∀ j, 4 ≤ j → j < 12 → s_T nf F hl (s_wh nf F) j + so j ≤ 1000000000
def s_ag (h h' : Int → Int) : Prop := ∀ j, 0 ≤ j → j < 12 → h j = h' j
theorem s_ag.rf {h : Int → Int} : s_ag h h := fun _ _ _ => rfl
theorem s_ag.sm {h h' : Int → Int} (q : s_ag h h') : s_ag h' h := fun j a b => (q j a b).symm
theorem s_ag.tr {h h' h'' : Int → Int} (q : s_ag h h') (q' : s_ag h' h'') : s_ag h h'' := fun j a b => (q j a b).trans (q' j a b)
theorem m_sum_cg {f g : Int → Int} {n : Nat} (h : ∀ t : Nat, t < n → f t = g t) : m_sum f n = m_sum g n := by
  induction n with
  | zero => rfl
  | succ n ih =>
    show m_sum f n + f (n : Int) = m_sum g n + g (n : Int)
    rw [ih (fun t ht => h t (by omega)), h n (by omega)]
theorem m_sum_z {f : Int → Int} {n : Nat} (h : ∀ t : Nat, t < n → f t = 0) : m_sum f n = 0 := by
  induction n with
  | zero => rfl
  | succ n ih =>
    show m_sum f n + f (n : Int) = 0
    rw [ih (fun t ht => h t (by omega)), h n (by omega)]; rfl
theorem m_sum_add (f g : Int → Int) (n : Nat) : m_sum (fun t => f t + g t) n = m_sum f n + m_sum g n := by
  induction n with
  | zero => rfl
  | succ n ih =>
    show m_sum (fun t => f t + g t) n + (f (n : Int) + g (n : Int)) = m_sum f n + f (n : Int) + (m_sum g n + g (n : Int))
    rw [ih]; omega
theorem m_sum_sw (e : Int → Int → Int) (n k : Nat) : m_sum (fun z => m_sum (fun d => e z d) k) n = m_sum (fun d => m_sum (fun z => e z d) n) k := by
  induction n with
  | zero => exact (m_sum_z (fun t _ => rfl)).symm
  | succ n ih =>
    show m_sum (fun z => m_sum (fun d => e z d) k) n + m_sum (fun d => e (n : Int) d) k = m_sum (fun d => m_sum (fun z => e z d) n + e (n : Int) d) k
    rw [ih, m_sum_add]
theorem m_sum_one {g v : Int} {n : Nat} : m_sum (fun z => if g = z + 4 then v else 0) n = if 4 ≤ g ∧ g < 4 + (n : Int) then v else 0 := by
  induction n with
  | zero => show (0 : Int) = _; rw [if_neg (by omega)]
  | succ n ih =>
    show m_sum (fun z => if g = z + 4 then v else 0) n + (if g = (n : Int) + 4 then v else 0) = _
    rw [ih]
    by_cases c : g = (n : Int) + 4
    · rw [if_neg (by omega), if_pos c, if_pos (by omega)]; omega
    · rw [if_neg c]
      by_cases c2 : 4 ≤ g ∧ g < 4 + (n : Int)
      · rw [if_pos c2, if_pos (by omega)]; omega
      · rw [if_neg c2, if_neg (by omega)]; omega
theorem s_car {nf : Nat → Int → Int} {F hl wh th : Int → Int} {d : Int} (hw : ¬ (F d = 0 ∨ m_gv nf F d < 4) → 0 < wh (m_gv nf F d)) (j : Int) : m_car nf F hl wh th d j = th j + s_d nf F hl wh d j := by
  unfold m_car s_d
  by_cases c : F d = 0 ∨ m_gv nf F d < 4
  · rw [if_pos c, if_pos (by omega)]; omega
  · have h1 := hw c
    rw [if_neg c, if_neg (by omega)]
    generalize m_part nf F hl wh d = p
    generalize m_gv nf F d = g
    generalize m_tk nf F d = t
    unfold pu
    by_cases e1 : j = t
    · rw [if_pos e1, if_pos e1]
      by_cases e2 : t = g
      · rw [if_pos e2, if_pos (by omega), e1, e2]; omega
      · rw [if_neg e2, if_neg (by omega), e1]; omega
    · rw [if_neg e1, if_neg e1]
      by_cases e2 : j = g
      · rw [if_pos e2, if_pos e2, e2]; omega
      · rw [if_neg e2, if_neg e2]; omega
theorem s_cars {nf : Nat → Int → Int} {F hl wh th : Int → Int} {n : Nat} (hw : ∀ d : Nat, d < n → ¬ (F d = 0 ∨ m_gv nf F d < 4) → 0 < wh (m_gv nf F d)) (j : Int) : m_cars nf F hl wh th n j = th j + m_sum (fun d => s_d nf F hl wh d j) n := by
  induction n with
  | zero => show th j = th j + 0; omega
  | succ n ih =>
    show m_car nf F hl wh (m_cars nf F hl wh th n) (n : Int) j = th j + (m_sum (fun d => s_d nf F hl wh d j) n + s_d nf F hl wh (n : Int) j)
    rw [s_car (hw n (by omega)), ih (fun d hd => hw d (by omega))]; omega
theorem m_gv_cg {nf : Nat → Int → Int} {F F' : Int → Int} {d : Int} (h : F d = F' d) : m_gv nf F d = m_gv nf F' d ∧ m_tk nf F d = m_tk nf F' d := by
  unfold m_gv m_tk
  rw [h]
  exact ⟨rfl, rfl⟩
theorem s_d_cg {nf : Nat → Int → Int} {F F' hl hl' wh wh' : Int → Int} {d j : Int} (hF : F d = F' d) (hg : F d ≠ 0 → 4 ≤ m_gv nf F d → hl (m_gv nf F d) = hl' (m_gv nf F d) ∧ wh (m_gv nf F d) = wh' (m_gv nf F d)) : s_d nf F hl wh d j = s_d nf F' hl' wh' d j := by
  obtain ⟨e1, e2⟩ := m_gv_cg (nf := nf) hF
  unfold s_d
  by_cases c : F d = 0 ∨ m_gv nf F d < 4
  · rw [if_pos c, if_pos (show F' d = 0 ∨ m_gv nf F' d < 4 by rw [← hF, ← e1]; exact c)]
  · obtain ⟨h1, h2⟩ := hg (by omega) (by omega)
    have e3 : m_part nf F hl wh d = m_part nf F' hl' wh' d := by
      unfold m_part
      rw [h1, h2, e1, hF]
    rw [if_neg c, if_neg (show ¬ (F' d = 0 ∨ m_gv nf F' d < 4) by rw [← hF, ← e1]; exact c), e3, e1, e2]
/-- the rows of the ducts that carry -/
def s_R (nf : Nat → Int → Int) (F : Int → Int) (n : Int) : Prop := ∀ d, 0 ≤ d → d < 24 → F d ≠ 0 → (0 ≤ m_gv nf F d ∧ m_gv nf F d < 4 + n) ∧ (0 ≤ m_tk nf F d ∧ m_tk nf F d < 4 + n)
theorem s_T_ag {nf : Nat → Int → Int} {F h h' wh : Int → Int} {n : Int} (hn : n ≤ 8) (hR : s_R nf F n) (q : s_ag h h') : s_ag (s_T nf F h wh) (s_T nf F h' wh) := by
  intro j a b
  unfold s_T
  rw [q j a b, m_sum_cg (g := fun d => s_d nf F h' wh d j) (fun t ht => s_d_cg (F' := F) (hl' := h') (wh' := wh) rfl (fun c1 c2 => ⟨q _ (by omega) (by have := hR t (by omega) (by omega) c1; omega), rfl⟩))]
theorem s_nx_ag {nf : Nat → Int → Int} {F so h h' : Int → Int} {n : Int} (hn : n ≤ 8) (hR : s_R nf F n) (q : s_ag h h') : s_ag (s_nx nf F so h) (s_nx nf F so h') := by
  intro j a b
  unfold s_nx
  rw [s_T_ag hn hR q j a b]
theorem s_ok_ag {nf : Nat → Int → Int} {F so h h' : Int → Int} {n : Int} (hn : n ≤ 8) (hR : s_R nf F n) (q : s_ag h h') : s_ok nf F so h ↔ s_ok nf F so h' := by
  constructor
  · intro k j a b
    rw [← s_T_ag hn hR q j (by omega) b]; exact k j a b
  · intro k j a b
    rw [s_T_ag hn hR q j (by omega) b]; exact k j a b
theorem s_T_off {nf : Nat → Int → Int} {F h wh : Int → Int} {n : Int} (hR : s_R nf F n) {j : Int} (hj : 4 + n ≤ j) : s_T nf F h wh j = h j := by
  unfold s_T
  rw [m_sum_z (fun t ht => ?_)]
  · omega
  · unfold s_d
    by_cases c : F (t : Int) = 0 ∨ m_gv nf F (t : Int) < 4
    · rw [if_pos c]
    · have := hR t (by omega) (by omega) (by omega)
      rw [if_neg c, if_neg (by omega), if_neg (by omega)]; rfl
/-- what is held in the zones -/
def s_B (hl : Int → Int) : Prop := ∀ j, 4 ≤ j → j < 12 → 0 ≤ hl j ∧ hl j ≤ 1000000000
def s_V (nf : Nat → Int → Int) (n : Int) : Prop := ∀ z, 0 ≤ z → z < n → 1 ≤ nf 2 z
theorem s_wh_pos {nf : Nat → Int → Int} {F : Int → Int} {n : Int} (hV : s_V nf n) {j : Int} (h0 : 4 ≤ j) (h1 : j < 4 + n) : 0 < s_wh nf F j := by
  unfold s_wh
  have := hV (j - 4) (by omega) (by omega)
  omega
theorem s_T_ge {nf : Nat → Int → Int} {F h : Int → Int} {n : Int} (hn : n ≤ 8) (hR : s_R nf F n) (hV : s_V nf n) (hG : ∀ d, 0 ≤ d → d < 24 → 0 ≤ m_gv nf F d ∧ m_gv nf F d < 12) (hB : s_B h) {j : Int} (h0 : 4 ≤ j) (h1 : j < 12) : 0 ≤ s_T nf F h (s_wh nf F) j := by
  by_cases c : j < 4 + n
  · have hw := s_wh_pos (F := F) hV h0 c
    have hp : m_po nf F h (s_wh nf F) j 24 ≤ h j := m_po_held (hB j h0 h1).1 hw (by unfold s_wh; omega)
    have hd : ∀ d : Nat, d < 24 → ¬ (F d = 0 ∨ m_gv nf F d < 4) → 0 < s_wh nf F (m_gv nf F d) := fun d hd c => s_wh_pos hV (by omega) (by have := hR d (by omega) (by omega) (by omega); omega)
    have hc := s_cars (hl := h) (th := h) hd j
    unfold s_T
    rw [← hc]
    have := m_cars_ge (nf := nf) (f := F) (hl := h) (wh := s_wh nf F) (th := h) (fun d hd2 h4 => (hB _ h4 (hG d (by omega) (by omega)).2).1) h0 (hB j h0 h1).1 hw (n := 24) (by omega)
    omega
  · rw [s_T_off hR (by omega)]
    exact (hB j h0 h1).1
theorem s_nx_B {nf : Nat → Int → Int} {F so h : Int → Int} {n : Int} (hn : n ≤ 8) (hR : s_R nf F n) (hV : s_V nf n) (hG : ∀ d, 0 ≤ d → d < 24 → 0 ≤ m_gv nf F d ∧ m_gv nf F d < 12) (hB : s_B h) (hso : ∀ j, 0 ≤ j → j < 12 → 0 ≤ so j) (hok : s_ok nf F so h) : s_B (s_nx nf F so h) := by
  intro j a b
  unfold s_nx
  rw [if_pos a]
  have h1 := s_T_ge hn hR hV hG hB a b
  have h2 := hso j (by omega) b
  have h3 := hok j a b
  omega
theorem s_B.ag {h h' : Int → Int} (hB : s_B h) (q : s_ag h h') : s_B h' := fun j a b => by rw [← q j (by omega) b]; exact hB j a b
/-- many steps -/
noncomputable def s_it (nx : (Int → Int) → (Int → Int)) (ok : (Int → Int) → Prop) : Nat → (Int → Int) → Nat × (Int → Int)
  | 0, h => (0, h)
  | n + 1, h => @ite _ (ok h) (Classical.propDecidable _) ((s_it nx ok n (nx h)).1 + 1, (s_it nx ok n (nx h)).2) (0, h)
theorem s_it_0 (nx : (Int → Int) → (Int → Int)) (ok : (Int → Int) → Prop) (h : Int → Int) : s_it nx ok 0 h = (0, h) := by
  unfold s_it
  rfl
theorem s_it_t {nx : (Int → Int) → (Int → Int)} {ok : (Int → Int) → Prop} {h : Int → Int} {n : Nat} (q : ok h) : s_it nx ok (n + 1) h = ((s_it nx ok n (nx h)).1 + 1, (s_it nx ok n (nx h)).2) := by
  rw [s_it]
  exact if_pos q
theorem s_it_f {nx : (Int → Int) → (Int → Int)} {ok : (Int → Int) → Prop} {h : Int → Int} {n : Nat} (q : ¬ ok h) : s_it nx ok n h = (0, h) := by
  cases n with
  | zero => exact s_it_0 _ _ _
  | succ n =>
    rw [s_it]
    exact if_neg q
theorem s_it_ag {nx : (Int → Int) → (Int → Int)} {ok : (Int → Int) → Prop} (hnx : ∀ h h', s_ag h h' → s_ag (nx h) (nx h')) (hok : ∀ h h', s_ag h h' → (ok h ↔ ok h')) (n : Nat) : ∀ h h', s_ag h h' → (s_it nx ok n h).1 = (s_it nx ok n h').1 ∧ s_ag (s_it nx ok n h).2 (s_it nx ok n h').2 := by
  induction n with
  | zero => intro h h' q; rw [s_it_0, s_it_0]; exact ⟨rfl, q⟩
  | succ n ih =>
    intro h h' q
    by_cases c : ok h
    · obtain ⟨e1, e2⟩ := ih _ _ (hnx h h' q)
      rw [s_it_t c, s_it_t ((hok h h' q).mp c)]
      exact ⟨congrArg (· + 1) e1, e2⟩
    · rw [s_it_f c, s_it_f (fun k => c ((hok h h' q).mpr k))]
      exact ⟨rfl, q⟩
theorem s_it_le {nx : (Int → Int) → (Int → Int)} {ok : (Int → Int) → Prop} (n : Nat) : ∀ h, (s_it nx ok n h).1 ≤ n := by
  induction n with
  | zero => intro h; rw [s_it_0]; exact Nat.le_refl _
  | succ n ih =>
    intro h
    by_cases c : ok h
    · rw [s_it_t c]; have := ih (nx h); show (s_it nx ok n (nx h)).1 + 1 ≤ n + 1; omega
    · rw [s_it_f c]; exact Nat.zero_le _
theorem s_it_B {nf : Nat → Int → Int} {F so : Int → Int} {n : Int} (hn : n ≤ 8) (hR : s_R nf F n) (hV : s_V nf n) (hG : ∀ d, 0 ≤ d → d < 24 → 0 ≤ m_gv nf F d ∧ m_gv nf F d < 12) (hso : ∀ j, 0 ≤ j → j < 12 → 0 ≤ so j) (k : Nat) : ∀ h, s_B h → s_B (s_it (s_nx nf F so) (s_ok nf F so) k h).2 := by
  induction k with
  | zero => intro h hB; rw [s_it_0]; exact hB
  | succ k ih =>
    intro h hB
    by_cases c : s_ok nf F so h
    · rw [s_it_t c]; exact ih _ (s_nx_B hn hR hV hG hB hso c)
    · rw [s_it_f c]; exact hB
/-! the reference's order: zone by zone -/
def s_e (nf : Nat → Int → Int) (F hl wh : Int → Int) (z d j : Int) : Int := if m_gv nf F d = z + 4 then s_d nf F hl wh d j else 0
def s_X (nf : Nat → Int → Int) (F hl wh : Int → Int) (z k : Nat) (j : Int) : Int := hl j + m_sum (fun z' => m_sum (fun d => s_e nf F hl wh z' d j) 24) z + m_sum (fun d => s_e nf F hl wh (z : Int) d j) k
theorem s_X_0 (nf : Nat → Int → Int) (F hl wh : Int → Int) (j : Int) : s_X nf F hl wh 0 0 j = hl j := by
  show hl j + 0 + 0 = hl j
  omega
theorem s_X_k (nf : Nat → Int → Int) (F hl wh : Int → Int) (z k : Nat) (j : Int) : s_X nf F hl wh z (k + 1) j = s_X nf F hl wh z k j + s_e nf F hl wh (z : Int) (k : Int) j := by
  unfold s_X
  show hl j + m_sum _ z + (m_sum _ k + s_e nf F hl wh (z : Int) (k : Int) j) = _
  omega
theorem s_X_z (nf : Nat → Int → Int) (F hl wh : Int → Int) (z : Nat) (j : Int) : s_X nf F hl wh (z + 1) 0 j = s_X nf F hl wh z 24 j := by
  unfold s_X
  show hl j + (m_sum _ z + m_sum (fun d => s_e nf F hl wh (z : Int) d j) 24) + 0 = _
  omega
theorem s_X_T {nf : Nat → Int → Int} {F hl wh : Int → Int} {n : Int} (h0 : 0 ≤ n) (hR : s_R nf F n) (j : Int) : s_X nf F hl wh n.toNat 0 j = s_T nf F hl wh j := by
  unfold s_X s_T
  show hl j + m_sum (fun z' => m_sum (fun d => s_e nf F hl wh z' d j) 24) n.toNat + 0 = _
  rw [m_sum_sw, m_sum_cg (g := fun d => s_d nf F hl wh d j) (fun t ht => ?_)]
  · omega
  · show m_sum (fun z => s_e nf F hl wh z (t : Int) j) n.toNat = s_d nf F hl wh (t : Int) j
    unfold s_e
    rw [m_sum_one]
    by_cases c : 4 ≤ m_gv nf F (t : Int) ∧ m_gv nf F (t : Int) < 4 + (n.toNat : Int)
    · rw [if_pos c]
    · rw [if_neg c]
      unfold s_d
      rw [if_pos]
      by_cases c2 : F (t : Int) = 0
      · exact Or.inl c2
      · have := hR t (by omega) (by omega) c2
        exact Or.inr (by omega)
theorem s_e_0 {nf : Nat → Int → Int} {F hl wh : Int → Int} {z d j : Int} (h : mo_out nf F z d = 0) : s_e nf F hl wh z d j = 0 := by
  unfold s_e
  by_cases c : m_gv nf F d = z + 4
  · rw [if_pos c]
    unfold mo_out at h
    rw [if_pos c] at h
    unfold s_d
    rw [if_pos]
    left
    unfold m_abs at h
    by_cases c2 : 0 ≤ F d
    · rw [if_pos c2] at h; exact h
    · rw [if_neg c2] at h; omega
  · rw [if_neg c]
theorem s_e_1 {nf : Nat → Int → Int} {F hl wh : Int → Int} {z d : Int} (hz : 0 ≤ z) (h : mo_out nf F z d ≠ 0) : m_gv nf F d = z + 4 ∧ F d ≠ 0 ∧ mo_out nf F z d = m_abs (F d) ∧ hl (z + 4) * mo_out nf F z d / wh (z + 4) = m_part nf F hl wh d ∧ ∀ j, s_e nf F hl wh z d j = (if j = m_tk nf F d then m_part nf F hl wh d else 0) - (if j = z + 4 then m_part nf F hl wh d else 0) := by
  have c : m_gv nf F d = z + 4 := Classical.byContradiction (fun c => h (if_neg c))
  have e : mo_out nf F z d = m_abs (F d) := if_pos c
  have n0 : F d ≠ 0 := fun q => h (by rw [e, q]; rfl)
  refine ⟨c, n0, e, ?_, fun j => ?_⟩
  · unfold m_part
    rw [c, e]
  · unfold s_e s_d
    rw [if_pos c, if_neg (by omega), c]
theorem s_up1 {N G X X' : Int → Int} {z t p : Int} (hN : ∀ j, 0 ≤ j → j < 8 → N j = X (j + 4)) (hG : ∀ j, 0 ≤ j → j < 4 → G j = X j) (hX : ∀ j, X' j = X j + ((if j = t then p else 0) - (if j = z + 4 then p else 0))) (hz : 0 ≤ z ∧ z < 8) (ht : 4 ≤ t) : (∀ j, 0 ≤ j → j < 8 → pu (pu N z (N z - p)) (t - 4) (pu N z (N z - p) (t - 4) + p) j = X' (j + 4)) ∧ (∀ j, 0 ≤ j → j < 4 → G j = X' j) := by
  refine ⟨fun j a b => ?_, fun j a b => ?_⟩
  · rw [hX, ← hN j a b]
    unfold pu
    by_cases e1 : j = t - 4
    · rw [if_pos e1, if_pos (show j + 4 = t by omega)]
      by_cases e2 : t - 4 = z
      · rw [if_pos e2, if_pos (show j + 4 = z + 4 by omega), e1, e2]; omega
      · rw [if_neg e2, if_neg (show ¬ j + 4 = z + 4 by omega), e1]; omega
    · rw [if_neg e1, if_neg (show ¬ j + 4 = t by omega)]
      by_cases e2 : j = z
      · rw [if_pos e2, if_pos (show j + 4 = z + 4 by omega), e2]; omega
      · rw [if_neg e2, if_neg (show ¬ j + 4 = z + 4 by omega)]; omega
  · rw [hX, if_neg (show ¬ j = t by omega), if_neg (show ¬ j = z + 4 by omega), ← hG j a b]; omega
theorem s_up2 {N G X X' : Int → Int} {z t p : Int} (hN : ∀ j, 0 ≤ j → j < 8 → N j = X (j + 4)) (hG : ∀ j, 0 ≤ j → j < 4 → G j = X j) (hX : ∀ j, X' j = X j + ((if j = t then p else 0) - (if j = z + 4 then p else 0))) (hz : 0 ≤ z ∧ z < 8) (ht : t < 4) : (∀ j, 0 ≤ j → j < 8 → pu N z (N z - p) j = X' (j + 4)) ∧ (∀ j, 0 ≤ j → j < 4 → pu G t (G t + p) j = X' j) := by
  refine ⟨fun j a b => ?_, fun j a b => ?_⟩
  · rw [hX, ← hN j a b, if_neg (show ¬ j + 4 = t by omega)]
    unfold pu
    by_cases e2 : j = z
    · rw [if_pos e2, if_pos (show j + 4 = z + 4 by omega), e2]; omega
    · rw [if_neg e2, if_neg (show ¬ j + 4 = z + 4 by omega)]; omega
  · rw [hX, if_neg (show ¬ j = z + 4 by omega), ← hG j a b]
    unfold pu
    by_cases e2 : j = t
    · rw [if_pos e2, if_pos e2, e2]; omega
    · rw [if_neg e2, if_neg e2]; omega
theorem s_ab_sum (nf : Nat → Int → Int) (F : Int → Int) (z : Int) (n : Nat) : m_ab nf F (z + 4) (n + 1) = m_ab nf F (z + 4) n + mo_out nf F z (n : Int) := rfl
