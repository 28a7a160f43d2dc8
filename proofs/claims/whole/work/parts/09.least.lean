/-! the least state, over rows 0 .. 3 (sides) and 4 .. 3 + n (zones) -/
def pn_up (P : Int → Int) (k : Int) (v : Int) : Int → Int := fun j => if j = k then v else P j
theorem pn_up_s (P : Int → Int) (k : Int) (v : Int) : pn_up P k v k = v := if_pos rfl
theorem pn_up_n (P : Int → Int) {k j : Int} (v : Int) (h : j ≠ k) : pn_up P k v j = P j := if_neg h
def pn_zone (n z : Int) : Prop := 4 ≤ z ∧ z < 4 + n
/-- the gain falls where all differences grow -/
def pn_Mono (n : Int) (G : (Int → Int) → Int → Int) : Prop := ∀ (P Q : Int → Int) (z : Int), pn_zone n z → (∀ w, 0 ≤ w → w < 4 + n → P z - P w ≤ Q z - Q w) → G Q z ≤ G P z
/-- a state -/
def pn_St (n : Int) (wd : Int → Int) (G : (Int → Int) → Int → Int) (Q : Int → Int) : Prop := (∀ w, 0 ≤ w → w < 4 → Q w = wd w) ∧ ∀ z, pn_zone n z → -5000 ≤ Q z ∧ Q z ≤ 5000 ∧ G Q z ≤ 0
/-- below every state -/
def pn_Be (n : Int) (wd : Int → Int) (G : (Int → Int) → Int → Int) (P : Int → Int) : Prop := (∀ w, 0 ≤ w → w < 4 → P w = wd w) ∧ ∀ Q, pn_St n wd G Q → ∀ z, pn_zone n z → P z ≤ Q z
theorem pn_raise {n : Int} {wd : Int → Int} {G : (Int → Int) → Int → Int} (hM : pn_Mono n G) {P : Int → Int} (hB : pn_Be n wd G P) {z : Int} (hz : pn_zone n z) {v : Int} (hg : 0 < G (pn_up P z v) z) : pn_Be n wd G (pn_up P z (v + 1)) := by
  refine ⟨fun w hw0 hw => ?_, fun Q hQ y hy => ?_⟩
  · rw [pn_up_n _ _ (by have := hz.1; omega)]
    exact hB.1 w hw0 hw
  · by_cases e : y = z
    · subst e
      rw [pn_up_s]
      rcases Int.lt_or_le v (Q y) with q | q
      · omega
      · have h1 : G (pn_up P y v) y ≤ G Q y := by
          refine hM Q (pn_up P y v) y hz (fun w hw0 hw => ?_)
          rw [pn_up_s]
          by_cases e2 : w = y
          · subst e2; rw [pn_up_s]; omega
          · rw [pn_up_n _ _ e2]
            by_cases h4 : w < 4
            · rw [hB.1 w hw0 h4, hQ.1 w hw0 h4]; omega
            · have := hB.2 Q hQ w ⟨by omega, hw⟩
              omega
        have := (hQ.2 y hz).2.2
        omega
    · rw [pn_up_n _ _ e]
      exact hB.2 Q hQ y hy
theorem pn_Be.down {n : Int} {wd : Int → Int} {G : (Int → Int) → Int → Int} {P R : Int → Int} (hB : pn_Be n wd G P) (hs : ∀ w, 0 ≤ w → w < 4 → R w = P w) (hz : ∀ z, pn_zone n z → R z ≤ P z) : pn_Be n wd G R :=
  ⟨fun w h0 hw => (hs w h0 hw).trans (hB.1 w h0 hw), fun Q hQ z h => Int.le_trans (hz z h) (hB.2 Q hQ z h)⟩
/-- P' comes out of P by raises of zones in S, each to just above a pressure at which the zone gains -/
def pn_Re (n : Int) (G : (Int → Int) → Int → Int) (S : Int → Prop) (P P' : Int → Int) : Prop :=
  ∀ I : (Int → Int) → Prop, I P → (∀ (Q : Int → Int) (z : Int) (v : Int), I Q → pn_zone n z → S z → Q z < v → 0 < G (pn_up Q z (v - 1)) z → I (pn_up Q z v)) → I P'
theorem pn_Re.rf {n : Int} {G : (Int → Int) → Int → Int} {S : Int → Prop} {P : Int → Int} : pn_Re n G S P P := fun _ h _ => h
theorem pn_Re.step {n : Int} {G : (Int → Int) → Int → Int} {S : Int → Prop} {P Q : Int → Int} (h : pn_Re n G S P Q) {z : Int} {v : Int} (hz : pn_zone n z) (hS : S z) (hv : Q z < v) (hg : 0 < G (pn_up Q z (v - 1)) z) : pn_Re n G S P (pn_up Q z v) :=
  fun I h0 hs => hs Q z v (h I h0 hs) hz hS hv hg
theorem pn_Re.trans {n : Int} {G : (Int → Int) → Int → Int} {S : Int → Prop} {P Q R : Int → Int} (h : pn_Re n G S P Q) (h2 : pn_Re n G S Q R) : pn_Re n G S P R := fun I h0 hs => h2 I (h I h0 hs) hs
theorem pn_Re.be {n : Int} {wd : Int → Int} {G : (Int → Int) → Int → Int} (hM : pn_Mono n G) {S : Int → Prop} {P P' : Int → Int} (h : pn_Re n G S P P') (hB : pn_Be n wd G P) : pn_Be n wd G P' :=
  h (pn_Be n wd G) hB (fun Q z v hQ hz _ _ hg => by
    have := pn_raise hM hQ hz hg
    rwa [show v - 1 + 1 = v by omega] at this)
theorem pn_Re.ge {n : Int} {G : (Int → Int) → Int → Int} {S : Int → Prop} {P P' : Int → Int} (h : pn_Re n G S P P') : ∀ w, P w ≤ P' w :=
  h (fun Q => ∀ w, P w ≤ Q w) (fun _ => Int.le_refl _) (fun Q z v hQ _ _ hv _ w => by
    by_cases e : w = z
    · subst e; rw [pn_up_s]; have := hQ w; omega
    · rw [pn_up_n _ _ e]; exact hQ w)
theorem pn_Re.off {n : Int} {G : (Int → Int) → Int → Int} {S : Int → Prop} {P P' : Int → Int} (h : pn_Re n G S P P') : ∀ w, ¬ (pn_zone n w ∧ S w) → P' w = P w :=
  h (fun Q => ∀ w, ¬ (pn_zone n w ∧ S w) → Q w = P w) (fun _ _ => rfl) (fun Q z v hQ hz hS _ _ w hw => by
    by_cases e : w = z
    · subst e; exact absurd ⟨hz, hS⟩ hw
    · rw [pn_up_n _ _ e]; exact hQ w hw)
theorem pn_Re.mono {n : Int} {G : (Int → Int) → Int → Int} {S S' : Int → Prop} {P P' : Int → Int} (h : pn_Re n G S P P') (hS : ∀ z, S z → S' z) : pn_Re n G S' P P' :=
  fun I h0 hs => h I h0 (fun Q z v hQ hz hS0 hv hg => hs Q z v hQ hz (hS z hS0) hv hg)
def pn_lift (S : Int → Bool) (k : Int) (P : Int → Int) : Int → Int := fun w => if S w then P w + k else P w
/-- zones that a bout raises all behind a lift are not above the least state there -/
theorem pn_lifts {n : Int} {wd : Int → Int} {G : (Int → Int) → Int → Int} (hM : pn_Mono n G) {S : Int → Bool} (hSz : ∀ w, S w = true → pn_zone n w) {P P' : Int → Int} {k : Nat} (hB : pn_Be n wd G P)
    (hR : pn_Re n G (fun w => S w = true) (pn_lift S k P) P') (hall : ∀ w, S w = true → pn_lift S k P w < P' w) : pn_Be n wd G P' := by
  have key : ∀ t : Nat, t ≤ k → pn_Be n wd G (pn_lift S t P) → pn_Be n wd G (pn_lift S (-((k : Int) - t)) P') := by
    intro t ht hBt
    refine hR (fun Q => pn_Be n wd G (pn_lift S (-((k : Int) - t)) Q)) ?_ ?_
    · have e : pn_lift S (-((k : Int) - t)) (pn_lift S k P) = pn_lift S t P := by
        funext w
        unfold pn_lift
        by_cases h : S w = true
        · simp only [if_pos h]; omega
        · simp only [if_neg h]
      rw [e]; exact hBt
    · intro Q z v hQ hz hS _ hg
      have h1 : G (pn_up Q z (v - 1)) z ≤ G (pn_up (pn_lift S (-((k : Int) - t)) Q) z (v - 1 - ((k : Int) - t))) z := by
        refine hM _ _ z hz (fun w _ _ => ?_)
        rw [pn_up_s, pn_up_s]
        by_cases e : w = z
        · subst e; rw [pn_up_s, pn_up_s]; omega
        · rw [pn_up_n _ _ e, pn_up_n _ _ e]
          unfold pn_lift
          by_cases h : S w = true
          · simp only [if_pos h]; omega
          · simp only [if_neg h]; omega
      have h2 := pn_raise hM hQ hz (v := v - 1 - ((k : Int) - t)) (by omega)
      have e : pn_up (pn_lift S (-((k : Int) - t)) Q) z (v - 1 - ((k : Int) - t) + 1) = pn_lift S (-((k : Int) - t)) (pn_up Q z v) := by
        funext w
        unfold pn_lift pn_up
        by_cases h : w = z
        · subst h; simp only [if_pos hS, if_true]; omega
        · simp only [if_neg h]
      rw [← e]; exact h2
  have up : ∀ t : Nat, t ≤ k → pn_Be n wd G (pn_lift S t P) := by
    intro t
    induction t with
    | zero =>
      intro _
      have e : pn_lift S ((0 : Nat) : Int) P = P := by
        funext w; unfold pn_lift; by_cases h : S w = true
        · simp only [if_pos h]; omega
        · simp only [if_neg h]
      rw [e]; exact hB
    | succ t ih =>
      intro ht
      refine (key t (by omega) (ih (by omega))).down (fun w _ hw => ?_) (fun z hz => ?_)
      · have hn : ¬ S w = true := fun h => by have := (hSz w h).1; omega
        have h3 := hR.off w (fun q => hn q.2)
        unfold pn_lift at h3 ⊢
        simp only [if_neg hn] at h3 ⊢
        exact h3.symm
      · by_cases h : S z = true
        · have h3 := hall z h
          unfold pn_lift at h3 ⊢
          simp only [if_pos h] at h3 ⊢
          omega
        · have h3 := hR.off z (fun q => h q.2)
          unfold pn_lift at h3 ⊢
          simp only [if_neg h] at h3 ⊢
          omega
  have h9 := key k (Nat.le_refl k) (up k (Nat.le_refl k))
  have e : pn_lift S (-((k : Int) - (k : Nat))) P' = P' := by
    funext w; unfold pn_lift; by_cases h : S w = true
    · simp only [if_pos h]; omega
    · simp only [if_neg h]
  rwa [e] at h9
