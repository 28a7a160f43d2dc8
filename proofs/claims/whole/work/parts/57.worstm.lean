/-! the worst of all cases -/
def m_ws (g : Bool) (dr : Nat → Int) : Nat → Int × Int
  | 0 => (-1000000, -1000000)
  | t + 1 => if t = 0 ∨ (if g = true then (m_ws g dr t).2 < dr t else dr t < (m_ws g dr t).2) then ((t : Int), dr t) else m_ws g dr t
def m_wv (dr : Nat → Int) (n : Nat) (y : Int) : Int := if y = 0 then (m_ws false dr n).2 else if y = 1 then (m_ws true dr n).2 else if y = 2 then (m_ws false dr n).1 else (m_ws true dr n).1
theorem m_ws_0 (g : Bool) (dr : Nat → Int) : m_ws g dr 0 = (-1000000, -1000000) := rfl
theorem m_ws_t {g : Bool} {dr : Nat → Int} {t : Nat} (h : t = 0 ∨ (if g = true then (m_ws g dr t).2 < dr t else dr t < (m_ws g dr t).2)) : m_ws g dr (t + 1) = ((t : Int), dr t) := if_pos h
theorem m_ws_f {g : Bool} {dr : Nat → Int} {t : Nat} (h : ¬ (t = 0 ∨ (if g = true then (m_ws g dr t).2 < dr t else dr t < (m_ws g dr t).2))) : m_ws g dr (t + 1) = m_ws g dr t := if_neg h
theorem m_ws_b {g : Bool} {dr : Nat → Int} {t : Nat} (hd : ∀ c, c < t → -40000 ≤ dr c ∧ dr c ≤ 40000) : (t = 0 ∧ m_ws g dr t = (-1000000, -1000000)) ∨ (0 < t ∧ 0 ≤ (m_ws g dr t).1 ∧ (m_ws g dr t).1 < t ∧ -40000 ≤ (m_ws g dr t).2 ∧ (m_ws g dr t).2 ≤ 40000) := by
  induction t with
  | zero => exact Or.inl ⟨rfl, rfl⟩
  | succ t ih =>
    right
    have d := hd t (by omega)
    by_cases c : t = 0 ∨ (if g = true then (m_ws g dr t).2 < dr t else dr t < (m_ws g dr t).2)
    · rw [m_ws_t c]
      show 0 < t + 1 ∧ 0 ≤ (t : Int) ∧ (t : Int) < ((t + 1 : Nat) : Int) ∧ -40000 ≤ dr t ∧ dr t ≤ 40000
      omega
    · rw [m_ws_f c]
      rcases ih (fun c hc => hd c (by omega)) with ⟨h1, -⟩ | ⟨h1, h2, h3, h4, h5⟩
      · exact absurd (Or.inl h1) c
      · exact ⟨by omega, h2, by omega, h4, h5⟩
theorem m_ws_cg {g : Bool} {dr dr' : Nat → Int} {t : Nat} (h : ∀ c, c < t → dr c = dr' c) : m_ws g dr t = m_ws g dr' t := by
  induction t with
  | zero => rfl
  | succ t ih =>
    have e := ih (fun c hc => h c (by omega))
    show (if t = 0 ∨ (if g = true then (m_ws g dr t).2 < dr t else dr t < (m_ws g dr t).2) then ((t : Int), dr t) else m_ws g dr t) = (if t = 0 ∨ (if g = true then (m_ws g dr' t).2 < dr' t else dr' t < (m_ws g dr' t).2) then ((t : Int), dr' t) else m_ws g dr' t)
    rw [e, h t (by omega)]
/-- the drive of a leak in the least state of the c-th case -/
noncomputable def m_dr (nf : Nat → Int → Int) (ns : Nat → Int) (da : Int → Int → Int) (T : Nat → Nat) (x : Int) (c : Nat) : Int := m_drive nf (m_ls nf ns da (T c)) x
theorem m_ws_dt {q : Prop} [Decidable q] {dr : Nat → Int} {t : Nat} (h : t = 0 ∨ (q ∧ (m_ws (decide q) dr t).2 < dr t) ∨ (¬ q ∧ dr t < (m_ws (decide q) dr t).2)) : m_ws (decide q) dr (t + 1) = ((t : Int), dr t) := by
  refine m_ws_t ?_
  rcases h with h | ⟨h1, h2⟩ | ⟨h1, h2⟩
  · exact Or.inl h
  · right; rw [if_pos (decide_eq_true h1)]; exact h2
  · right; rw [if_neg (fun e => h1 (of_decide_eq_true e))]; exact h2
theorem m_ws_df {q : Prop} [Decidable q] {dr : Nat → Int} {t : Nat} (h0 : t ≠ 0) (h1 : q → ¬ (m_ws (decide q) dr t).2 < dr t) (h2 : ¬ q → ¬ dr t < (m_ws (decide q) dr t).2) : m_ws (decide q) dr (t + 1) = m_ws (decide q) dr t := by
  refine m_ws_f ?_
  intro h
  rcases h with h | h
  · exact h0 h
  · by_cases c : q
    · rw [if_pos (decide_eq_true c)] at h; exact h1 c h
    · rw [if_neg (fun e => c (of_decide_eq_true e))] at h; exact h2 c h
theorem m_ws_ft {dr : Nat → Int} {t : Nat} (h : t = 0 ∨ dr t < (m_ws false dr t).2) : m_ws false dr (t + 1) = ((t : Int), dr t) := m_ws_t (by rcases h with h | h; exact Or.inl h; right; rw [if_neg (by decide)]; exact h)
theorem m_ws_ff {dr : Nat → Int} {t : Nat} (h0 : t ≠ 0) (h : ¬ dr t < (m_ws false dr t).2) : m_ws false dr (t + 1) = m_ws false dr t := m_ws_f (by intro q; rcases q with q | q; exact h0 q; rw [if_neg (by decide)] at q; exact h q)
theorem m_ws_tt {dr : Nat → Int} {t : Nat} (h : t = 0 ∨ (m_ws true dr t).2 < dr t) : m_ws true dr (t + 1) = ((t : Int), dr t) := m_ws_t (by rcases h with h | h; exact Or.inl h; right; rw [if_pos rfl]; exact h)
theorem m_ws_tf {dr : Nat → Int} {t : Nat} (h0 : t ≠ 0) (h : ¬ (m_ws true dr t).2 < dr t) : m_ws true dr (t + 1) = m_ws true dr t := m_ws_f (by intro q; rcases q with q | q; exact h0 q; rw [if_pos rfl] at q; exact h q)
theorem m_wv_0 (dr : Nat → Int) (y : Int) : m_wv dr 0 y = -1000000 := by
  unfold m_wv
  rw [m_ws_0, m_ws_0]
  (repeat' split) <;> rfl
theorem m_wv_d {dr : Nat → Int} {n : Nat} {y : Int} (h0 : 0 ≤ y) (h1 : y ≤ 3) : m_wv dr n y = if y = 2 ∨ y = 3 then (m_ws (decide (y = 1 ∨ y = 3)) dr n).1 else (m_ws (decide (y = 1 ∨ y = 3)) dr n).2 := by
  have c : y = 0 ∨ y = 1 ∨ y = 2 ∨ y = 3 := by omega
  rcases c with rfl | rfl | rfl | rfl <;> rfl
def v_K (nf : Nat → Int → Int) (ns : Nat → Int) (da : Int → Int → Int) (cn : Int) (ss : Nat → Nat) (mf sd : Nat → Int) (pr : Nat → Int → Int) : Prop := ∀ k : Nat, k < 9 → (sd k = 0 ∨ sd k = 1) ∧ (-1 ≤ mf k ∧ mf k ≤ ns 3) ∧ (cn < (k : Int) → mf k = -1) ∧ (mf k = ns 3 → pn_P5 (pr k) ∧ pn_Le (ns 0) (nf 0) (m_G nf da (ss k)) (sd k) (pr k))
theorem v_K_set {nf : Nat → Int → Int} {ns : Nat → Int} {da : Int → Int → Int} {cn : Int} {ss : Nat → Nat} {mf sd : Nat → Int} {pr : Nat → Int → Int} {k : Nat} {P : Int → Int} {b : Int} (hK : v_K nf ns da cn ss mf sd pr) (h3 : 0 ≤ ns 3) (hk : (k : Int) ≤ cn) (h5 : pn_P5 P) (hL : pn_Le (ns 0) (nf 0) (m_G nf da (ss k)) b P) : v_K nf ns da cn ss (nw mf k (ns 3)) (nw sd k b) (nw pr k P) := by
  intro j hj
  by_cases e : j = k
  · subst e
    rw [nw_s, nw_s, nw_s]
    exact ⟨pn_Le_01 hL, by omega, fun q => by omega, fun _ => ⟨h5, hL⟩⟩
  · rw [nw_n _ _ e, nw_n _ _ e, nw_n _ _ e]
    exact hK j hj
