/-! rows for the walks of a step -/
def mH (ml : Nat → Int → Int) : Int → Int := fun j => if j < 4 then ml 1 j else ml 0 (j - 4)
theorem nw_cm {α : Type} (f : Nat → α) {i j : Nat} (x x' y : α) (h : i ≠ j) : nw (nw (nw f i x) j y) i x' = nw (nw f i x') j y := by
  funext k
  unfold nw
  by_cases c : k = i
  · rw [if_pos c, if_neg (by omega), if_pos c]
  · rw [if_neg c]
    by_cases c2 : k = j
    · rw [if_pos c2, if_pos c2]
    · rw [if_neg c2, if_neg c2, if_neg c, if_neg c]
theorem m_ab_b {nf : Nat → Int → Int} {F : Int → Int} {g : Int} {n : Nat} (hF : ∀ j, 0 ≤ j → j < 24 → -27000000 ≤ F j ∧ F j ≤ 27000000) (hn : n ≤ 24) : 0 ≤ m_ab nf F g n ∧ m_ab nf F g n ≤ 27000000 * n := by
  induction n with
  | zero => show 0 ≤ (0 : Int) ∧ (0 : Int) ≤ 27000000 * ((0 : Nat) : Int); omega
  | succ n ih =>
    have h1 := ih (by omega)
    have h2 := hF n (by omega) (by omega)
    show 0 ≤ m_ab nf F g n + (if m_gv nf F (n : Int) = g then m_abs (F (n : Int)) else 0) ∧ m_ab nf F g n + (if m_gv nf F (n : Int) = g then m_abs (F (n : Int)) else 0) ≤ 27000000 * ((n + 1 : Nat) : Int)
    have h3 : 0 ≤ m_abs (F (n : Int)) ∧ m_abs (F (n : Int)) ≤ 27000000 := by
      unfold m_abs
      by_cases c : 0 ≤ F (n : Int)
      · rw [if_pos c]; omega
      · rw [if_neg c]; omega
    by_cases c : m_gv nf F (n : Int) = g
    · rw [if_pos c]; omega
    · rw [if_neg c]; omega
theorem mo_out_b {nf : Nat → Int → Int} {F : Int → Int} {z d : Int} (hF : -27000000 ≤ F d ∧ F d ≤ 27000000) : 0 ≤ mo_out nf F z d ∧ mo_out nf F z d ≤ 27000000 := by
  unfold mo_out m_abs
  by_cases c : m_gv nf F d = z + 4
  · rw [if_pos c]
    by_cases c2 : 0 ≤ F d
    · rw [if_pos c2]; omega
    · rw [if_neg c2]; omega
  · rw [if_neg c]; omega
theorem s_T_cars {nf : Nat → Int → Int} {F h : Int → Int} {n : Int} (hR : s_R nf F n) (hV : s_V nf n) (j : Int) : s_T nf F h (s_wh nf F) j = m_cars nf F h (s_wh nf F) h 24 j := by
  unfold s_T
  rw [s_cars (fun d hd c => s_wh_pos hV (by omega) (by have := hR d (by omega) (by omega) (by omega); omega)) j]
theorem s_T_bd {nf : Nat → Int → Int} {F h : Int → Int} {n : Int} (hR : s_R nf F n) (hV : s_V nf n) (hFl : pn_Fl F) (hG : ∀ d, 0 ≤ d → d < 24 → 0 ≤ m_gv nf F d ∧ m_gv nf F d < 12) (hB : s_B h) {j : Int} (h0 : 4 ≤ j) (h1 : j < 12) : -1300000000000000000 ≤ s_T nf F h (s_wh nf F) j ∧ s_T nf F h (s_wh nf F) j ≤ 1300000000000000000 := by
  rw [s_T_cars hR hV]
  have b := m_cars_b (wh := s_wh nf F) (th := h) hFl (fun d a b c => hB _ c (hG d a b).2) (n := 24) (by omega) j
  have q := hB j h0 h1
  omega
theorem s_fin1 {nf : Nat → Int → Int} {F so hl : Int → Int} {ml' : Nat → Int → Int} {n : Int} (hn : n ≤ 8) (hN : ∀ j, 0 ≤ j → j < 8 → ml' 0 j = if j < n then s_T nf F hl (s_wh nf F) (j + 4) + so (j + 4) else s_T nf F hl (s_wh nf F) (j + 4)) (hG : ∀ j, 0 ≤ j → j < 4 → ml' 1 j = s_T nf F hl (s_wh nf F) j) (hso : ∀ j, 4 + n ≤ j → j < 12 → so j = 0) : s_ag (mH ml') (s_nx nf F so hl) := by
  intro j a b
  unfold mH s_nx
  by_cases c : j < 4
  · rw [if_pos c, if_neg (by omega)]; exact hG j a c
  · rw [if_neg c, if_pos (by omega), hN (j - 4) (by omega) (by omega), show j - 4 + 4 = j by omega]
    by_cases c2 : j - 4 < n
    · rw [if_pos c2]
    · rw [if_neg c2, hso j (by omega) b]; omega
theorem s_okn {nf : Nat → Int → Int} {F so hl : Int → Int} {n : Int} (hR : s_R nf F n) (hB : s_B hl) (hso : ∀ j, 4 + n ≤ j → j < 12 → so j = 0) (h : ∀ j, 0 ≤ j → j < n → s_T nf F hl (s_wh nf F) (j + 4) + so (j + 4) ≤ 1000000000) : s_ok nf F so hl := by
  intro j a b
  by_cases c : j < 4 + n
  · have q := h (j - 4) (by omega) (by omega)
    rw [show j - 4 + 4 = j by omega] at q
    exact q
  · rw [s_T_off hR (by omega), hso j (by omega) b]
    have := hB j a b
    omega
theorem s_okx {nf : Nat → Int → Int} {F so hl : Int → Int} {n : Int} (hn : n ≤ 8) (h : ∃ j, 0 ≤ j ∧ j < n ∧ 1000000000 < s_T nf F hl (s_wh nf F) (j + 4) + so (j + 4)) : ¬ s_ok nf F so hl := by
  obtain ⟨j, a, b, c⟩ := h
  intro q
  have := q (j + 4) (by omega) (by omega)
  omega
theorem m_ab_F {nf : Nat → Int → Int} {F F' : Int → Int} {g : Int} {n : Nat} (hF : ∀ d, 0 ≤ d → d < 24 → F d = F' d) (hn : n ≤ 24) : m_ab nf F g n = m_ab nf F' g n := by
  induction n with
  | zero => rfl
  | succ n ih =>
    have e := hF n (by omega) (by omega)
    show m_ab nf F g n + (if m_gv nf F (n : Int) = g then m_abs (F (n : Int)) else 0) = m_ab nf F' g n + (if m_gv nf F' (n : Int) = g then m_abs (F' (n : Int)) else 0)
    rw [ih (by omega), (m_gv_cg (nf := nf) e).1, e]
theorem s_wh_F {nf : Nat → Int → Int} {F F' : Int → Int} (hF : ∀ d, 0 ≤ d → d < 24 → F d = F' d) : s_wh nf F = s_wh nf F' := by
  funext j
  unfold s_wh
  rw [m_ab_F hF (by omega)]
theorem s_T_F {nf : Nat → Int → Int} {F F' hl wh : Int → Int} (hF : ∀ d, 0 ≤ d → d < 24 → F d = F' d) (j : Int) : s_T nf F hl wh j = s_T nf F' hl wh j := by
  unfold s_T
  rw [m_sum_cg (g := fun d => s_d nf F' hl wh d j) (fun t ht => s_d_cg (hF t (by omega) (by omega)) (fun _ _ => ⟨rfl, rfl⟩))]
theorem s_nx_F {nf : Nat → Int → Int} {F F' so : Int → Int} (hF : ∀ d, 0 ≤ d → d < 24 → F d = F' d) : s_nx nf F so = s_nx nf F' so := by
  funext hl j
  unfold s_nx
  rw [s_wh_F hF, s_T_F hF]
theorem s_ok_F {nf : Nat → Int → Int} {F F' so : Int → Int} (hF : ∀ d, 0 ≤ d → d < 24 → F d = F' d) : s_ok nf F so = s_ok nf F' so := by
  funext hl
  unfold s_ok
  rw [s_wh_F hF]
  exact propext ⟨fun h j a b => by rw [← s_T_F hF]; exact h j a b, fun h j a b => by rw [s_T_F hF]; exact h j a b⟩
/-- the class's wholes do as well as those told once -/
theorem s_cls {nf : Nat → Int → Int} {ns : Nat → Int} {F f hl wh th : Int → Int} (h8 : ns 0 ≤ 8) (hR : s_R nf F (ns 0)) (hV : s_V nf (ns 0)) (hF : ∀ d, 0 ≤ d → d < 24 → f d = F d) (hw : ∀ j, 4 ≤ j → j < 4 + ns 0 → wh j = s_wh nf F j) (j : Int) : m_cars nf f hl wh th 24 j = th j + (s_T nf F hl (s_wh nf F) j - hl j) := by
  have hd : ∀ d : Nat, d < 24 → ¬ (f d = 0 ∨ m_gv nf f d < 4) → 4 ≤ m_gv nf f d ∧ m_gv nf f d < 4 + ns 0 := fun d hd c => by
    have e := hF d (by omega) (by omega)
    have r := hR d (by omega) (by omega) (by omega)
    rw [← (m_gv_cg (nf := nf) e).1] at r
    omega
  rw [s_cars (fun d h c => by have q := hd d h c; rw [hw _ q.1 q.2]; exact s_wh_pos hV q.1 q.2) j]
  unfold s_T
  rw [m_sum_cg (f := fun d => s_d nf f hl wh d j) (g := fun d => s_d nf F hl (s_wh nf F) d j) (fun t ht => s_d_cg (hF t (by omega) (by omega)) (fun c1 c2 => ⟨rfl, by have q := hd t ht (by omega); exact hw _ q.1 q.2⟩))]
  omega
theorem s_whc {nf : Nat → Int → Int} {n : Int} {F w : Int → Int} {j : Int} (h8 : n ≤ 8) (h0 : 4 ≤ j) (h1 : j < 4 + n) : m_wz nf (m_whs nf F (fl 12 0 w) 24) n j = s_wh nf F j := by
  unfold m_wz s_wh
  rw [if_pos ⟨h0, h1⟩, m_whs_ab]
  unfold fl
  rw [if_pos (by omega)]
  omega
theorem cp_at {f g : Int → Int} {j : Int} (h0 : 0 ≤ j) (h1 : j < 12) : cp f g ((0 : Nat) : Int) ((0 : Nat) : Int) ((12 : Nat) : Int) j = f j := by
  unfold cp
  rw [if_pos (by omega), show ((0 : Nat) : Int) + (j - ((0 : Nat) : Int)) = j by omega]
theorem s_stp {nf : Nat → Int → Int} {ns : Nat → Int} {F f h hc wh tl : Int → Int} (h8 : ns 0 ≤ 8) (hR : s_R nf F (ns 0)) (hV : s_V nf (ns 0)) (hF : ∀ d, 0 ≤ d → d < 24 → f d = F d) (hw : ∀ j, 4 ≤ j → j < 4 + ns 0 → wh j = s_wh nf F j) (hag : s_ag h hc) {j : Int} (h0 : 0 ≤ j) (h1 : j < 12) : m_cars nf f h wh (cp h tl ((0 : Nat) : Int) ((0 : Nat) : Int) ((12 : Nat) : Int)) 24 j = s_T nf F hc (s_wh nf F) j := by
  rw [s_cls h8 hR hV hF hw, cp_at h0 h1, s_T_ag h8 hR hag j h0 h1]
  omega
theorem s_stp_ok {nf : Nat → Int → Int} {ns : Nat → Int} {F f so h hc wh tl : Int → Int} (h8 : ns 0 ≤ 8) (hR : s_R nf F (ns 0)) (hV : s_V nf (ns 0)) (hF : ∀ d, 0 ≤ d → d < 24 → f d = F d) (hw : ∀ j, 4 ≤ j → j < 4 + ns 0 → wh j = s_wh nf F j) (hag : s_ag h hc) (q : ∀ j, 4 ≤ j → j < 12 → m_cars nf f h wh (cp h tl ((0 : Nat) : Int) ((0 : Nat) : Int) ((12 : Nat) : Int)) 24 j + so j ≤ 1000000000) : s_ok nf F so hc := fun j a b => by
  rw [← s_stp h8 hR hV hF hw hag (tl := tl) (by omega) b]; exact q j a b
theorem s_stp_no {nf : Nat → Int → Int} {ns : Nat → Int} {F f so h hc wh tl : Int → Int} (h8 : ns 0 ≤ 8) (hR : s_R nf F (ns 0)) (hV : s_V nf (ns 0)) (hF : ∀ d, 0 ≤ d → d < 24 → f d = F d) (hw : ∀ j, 4 ≤ j → j < 4 + ns 0 → wh j = s_wh nf F j) (hag : s_ag h hc) (q : ∃ j, 4 ≤ j ∧ j < 12 ∧ 1000000000 < m_cars nf f h wh (cp h tl ((0 : Nat) : Int) ((0 : Nat) : Int) ((12 : Nat) : Int)) 24 j + so j) : ¬ s_ok nf F so hc := by
  obtain ⟨j, a, b, c⟩ := q
  intro k
  have := k j a b
  rw [s_stp h8 hR hV hF hw hag (by omega) b] at c
  omega
theorem s_stp_nx {nf : Nat → Int → Int} {ns : Nat → Int} {F f so h hc wh tl g : Int → Int} (h8 : ns 0 ≤ 8) (hR : s_R nf F (ns 0)) (hV : s_V nf (ns 0)) (hF : ∀ d, 0 ≤ d → d < 24 → f d = F d) (hw : ∀ j, 4 ≤ j → j < 4 + ns 0 → wh j = s_wh nf F j) (hag : s_ag h hc) : s_ag (cp (m_add so (m_cars nf f h wh (cp h tl ((0 : Nat) : Int) ((0 : Nat) : Int) ((12 : Nat) : Int)) 24) 12) g ((0 : Nat) : Int) ((0 : Nat) : Int) ((12 : Nat) : Int)) (s_nx nf F so hc) := by
  intro j a b
  rw [cp_at a b]
  unfold m_add s_nx
  rw [s_stp h8 hR hV hF hw hag a b]
  by_cases c : 4 ≤ j
  · rw [if_pos ⟨c, b⟩, if_pos c]
  · rw [if_neg (fun q => c q.1), if_neg c]
