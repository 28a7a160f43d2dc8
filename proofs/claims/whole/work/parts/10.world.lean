/-! the world of the system -/
def cw (a : Nat → Nat) (cI cL cD cS : ClassId) (nf : Nat → Int → Int) (ns : Nat → Int) (da : Int → Int → Int) (be : Int → Int) (ui ul : Nat → Int → Int) (cn : Int) (ss : Nat → Nat) (mf sd : Nat → Int) (pr : Nat → Int → Int) : va_W := [
  (a 0, .inr (0, [.ref (a 1), .ref (a 27), .ref (a 29), .ref (a 36), .ref (a 35), .int (iI cn)])),
  (a 1, .inr (1, [.ref (a 2), .ref (a 3), .ref (a 4), .ref (a 5), .ref (a 6), .ref (a 7), .ref (a 8), .ref (a 9), .ref (a 10), .ref (a 11), .ref (a 12), .ref (a 14), .ref (a 13), .int (iI (ns 0)), .int (iI (ns 1)), .int (iI (ns 2)), .int (iI (ns 3))])),
  (a 2, .inl (cI, 4, .inl (ai (nf 0)))),
  (a 3, .inl (cI, 12, .inl (ai (nf 1)))),
  (a 4, .inl (cI, 8, .inl (ai (nf 2)))),
  (a 5, .inl (cI, 24, .inl (ai (nf 3)))),
  (a 6, .inl (cI, 24, .inl (ai (nf 4)))),
  (a 7, .inl (cI, 20, .inl (ai (nf 5)))),
  (a 8, .inl (cI, 20, .inl (ai (nf 6)))),
  (a 9, .inl (cI, 20, .inl (ai (nf 7)))),
  (a 10, .inl (cI, 20, .inl (ai (nf 8)))),
  (a 11, .inl (cI, 4, .inl (ai (nf 9)))),
  (a 12, .inl (cI, 4, .inl (ai (nf 10)))),
  (a 13, .inl (cI, 12, .inl (ai (nf 11)))),
  (a 14, .inl (cD, 12, .inr (.inr (.inr (.inr (fun j => if j < 12 then some (a (15 + j)) else none)))))),
  (a 15, .inl (cI, 24, .inl (ai (da 0)))),
  (a 16, .inl (cI, 24, .inl (ai (da 1)))),
  (a 17, .inl (cI, 24, .inl (ai (da 2)))),
  (a 18, .inl (cI, 24, .inl (ai (da 3)))),
  (a 19, .inl (cI, 24, .inl (ai (da 4)))),
  (a 20, .inl (cI, 24, .inl (ai (da 5)))),
  (a 21, .inl (cI, 24, .inl (ai (da 6)))),
  (a 22, .inl (cI, 24, .inl (ai (da 7)))),
  (a 23, .inl (cI, 24, .inl (ai (da 8)))),
  (a 24, .inl (cI, 24, .inl (ai (da 9)))),
  (a 25, .inl (cI, 24, .inl (ai (da 10)))),
  (a 26, .inl (cI, 24, .inl (ai (da 11)))),
  (a 27, .inr (2, [.ref (a 1), .ref (a 28)])),
  (a 28, .inl (cI, 12, .inl (ai be))),
  (a 29, .inr (4, [.ref (a 30), .ref (a 31), .ref (a 1), .ref (a 32), .ref (a 33), .ref (a 34)])),
  (a 30, .inl (cL, 12, .inr (.inl (al (ul 0))))),
  (a 31, .inl (cI, 12, .inl (ai (ui 0)))),
  (a 32, .inl (cI, 24, .inl (ai (ui 1)))),
  (a 33, .inl (cL, 12, .inr (.inl (al (ul 1))))),
  (a 34, .inl (cL, 12, .inr (.inl (al (ul 2))))),
  (a 35, .inl (cS, 8, .inr (.inr (.inr (.inr (fun j => if j < 8 then some (a (38 + 2 * j)) else none)))))),
  (a 36, .inr (3, [.ref (a 37), .int (iI (ss 0 : Nat)), .int (iI (mf 0)), .int (iI (sd 0))])),
  (a 37, .inl (cI, 12, .inl (ai (pr 0)))),
  (a 38, .inr (3, [.ref (a 39), .int (iI (ss 1 : Nat)), .int (iI (mf 1)), .int (iI (sd 1))])),
  (a 39, .inl (cI, 12, .inl (ai (pr 1)))),
  (a 40, .inr (3, [.ref (a 41), .int (iI (ss 2 : Nat)), .int (iI (mf 2)), .int (iI (sd 2))])),
  (a 41, .inl (cI, 12, .inl (ai (pr 2)))),
  (a 42, .inr (3, [.ref (a 43), .int (iI (ss 3 : Nat)), .int (iI (mf 3)), .int (iI (sd 3))])),
  (a 43, .inl (cI, 12, .inl (ai (pr 3)))),
  (a 44, .inr (3, [.ref (a 45), .int (iI (ss 4 : Nat)), .int (iI (mf 4)), .int (iI (sd 4))])),
  (a 45, .inl (cI, 12, .inl (ai (pr 4)))),
  (a 46, .inr (3, [.ref (a 47), .int (iI (ss 5 : Nat)), .int (iI (mf 5)), .int (iI (sd 5))])),
  (a 47, .inl (cI, 12, .inl (ai (pr 5)))),
  (a 48, .inr (3, [.ref (a 49), .int (iI (ss 6 : Nat)), .int (iI (mf 6)), .int (iI (sd 6))])),
  (a 49, .inl (cI, 12, .inl (ai (pr 6)))),
  (a 50, .inr (3, [.ref (a 51), .int (iI (ss 7 : Nat)), .int (iI (mf 7)), .int (iI (sd 7))])),
  (a 51, .inl (cI, 12, .inl (ai (pr 7)))),
  (a 52, .inr (3, [.ref (a 53), .int (iI (ss 8 : Nat)), .int (iI (mf 8)), .int (iI (sd 8))])),
  (a 53, .inl (cI, 12, .inl (ai (pr 8))))]
/-- one of several, changed -/
def nw {α : Type} (f : Nat → α) (k : Nat) (x : α) : Nat → α := fun j => if j = k then x else f j
theorem nw_s {α : Type} (f : Nat → α) (k : Nat) (x : α) : nw f k x k = x := if_pos rfl
theorem nw_n {α : Type} (f : Nat → α) {k j : Nat} (x : α) (h : j ≠ k) : nw f k x j = f j := if_neg h
def pw (f : Int → Int → Int) (k : Int) (x : Int → Int) : Int → Int → Int := fun j => if j = k then x else f j
theorem pw_s (f : Int → Int → Int) (k : Int) (x : Int → Int) : pw f k x k = x := if_pos rfl
theorem pw_n (f : Int → Int → Int) {k j : Int} (x : Int → Int) (h : j ≠ k) : pw f k x j = f j := if_neg h
theorem cw_row {a : Nat → Nat} {cI cL cD cS : ClassId} {nf : Nat → Int → Int} {ns : Nat → Int} {da : Int → Int → Int} {be : Int → Int} {ui ul : Nat → Int → Int} {cn : Int} {ss : Nat → Nat} {mf sd : Nat → Int} {pr : Nat → Int → Int} : ∀ (r : Nat), r < 12 → (cw a cI cL cD cS nf ns da be ui ul cn ss mf sd pr)[15 + r]? = some (a (15 + r), .inl (cI, 24, .inl (ai (da (r : Int)))))
  | 0, _ => rfl
  | 1, _ => rfl
  | 2, _ => rfl
  | 3, _ => rfl
  | 4, _ => rfl
  | 5, _ => rfl
  | 6, _ => rfl
  | 7, _ => rfl
  | 8, _ => rfl
  | 9, _ => rfl
  | 10, _ => rfl
  | 11, _ => rfl
  | k + 12, h => absurd h (by omega)
theorem cw_so {a : Nat → Nat} {cI cL cD cS : ClassId} {nf : Nat → Int → Int} {ns : Nat → Int} {da : Int → Int → Int} {be : Int → Int} {ui ul : Nat → Int → Int} {cn : Int} {ss : Nat → Nat} {mf sd : Nat → Int} {pr : Nat → Int → Int} : ∀ (k : Nat), k < 9 → (cw a cI cL cD cS nf ns da be ui ul cn ss mf sd pr)[36 + 2 * k]? = some (a (36 + 2 * k), .inr (3, [.ref (a (37 + 2 * k)), .int (iI (ss k : Nat)), .int (iI (mf k)), .int (iI (sd k))]))
  | 0, _ => rfl
  | 1, _ => rfl
  | 2, _ => rfl
  | 3, _ => rfl
  | 4, _ => rfl
  | 5, _ => rfl
  | 6, _ => rfl
  | 7, _ => rfl
  | 8, _ => rfl
  | k + 9, h => absurd h (by omega)
theorem cw_sp {a : Nat → Nat} {cI cL cD cS : ClassId} {nf : Nat → Int → Int} {ns : Nat → Int} {da : Int → Int → Int} {be : Int → Int} {ui ul : Nat → Int → Int} {cn : Int} {ss : Nat → Nat} {mf sd : Nat → Int} {pr : Nat → Int → Int} : ∀ (k : Nat), k < 9 → (cw a cI cL cD cS nf ns da be ui ul cn ss mf sd pr)[37 + 2 * k]? = some (a (37 + 2 * k), .inl (cI, 12, .inl (ai (pr k))))
  | 0, _ => rfl
  | 1, _ => rfl
  | 2, _ => rfl
  | 3, _ => rfl
  | 4, _ => rfl
  | 5, _ => rfl
  | 6, _ => rfl
  | 7, _ => rfl
  | 8, _ => rfl
  | k + 9, h => absurd h (by omega)
theorem cw_upr {a : Nat → Nat} {cI cL cD cS : ClassId} {nf : Nat → Int → Int} {ns : Nat → Int} {da : Int → Int → Int} {be : Int → Int} {ui ul : Nat → Int → Int} {cn : Int} {ss : Nat → Nat} {mf sd : Nat → Int} {pr : Nat → Int → Int} {g : Int → Int} : ∀ (k : Nat), k < 9 → (cw a cI cL cD cS nf ns da be ui ul cn ss mf sd pr).set (37 + 2 * k) (a (37 + 2 * k), .inl (cI, 12, .inl (ai g))) = cw a cI cL cD cS nf ns da be ui ul cn ss mf sd (nw pr k g)
  | 0, _ => rfl
  | 1, _ => rfl
  | 2, _ => rfl
  | 3, _ => rfl
  | 4, _ => rfl
  | 5, _ => rfl
  | 6, _ => rfl
  | 7, _ => rfl
  | 8, _ => rfl
  | k + 9, h => absurd h (by omega)
theorem cw_uda {a : Nat → Nat} {cI cL cD cS : ClassId} {nf : Nat → Int → Int} {ns : Nat → Int} {da : Int → Int → Int} {be : Int → Int} {ui ul : Nat → Int → Int} {cn : Int} {ss : Nat → Nat} {mf sd : Nat → Int} {pr : Nat → Int → Int} {g : Int → Int} : ∀ (r : Nat), r < 12 → (cw a cI cL cD cS nf ns da be ui ul cn ss mf sd pr).set (15 + r) (a (15 + r), .inl (cI, 24, .inl (ai g))) = cw a cI cL cD cS nf ns (pw da (r : Int) g) be ui ul cn ss mf sd pr
  | 0, _ => rfl
  | 1, _ => rfl
  | 2, _ => rfl
  | 3, _ => rfl
  | 4, _ => rfl
  | 5, _ => rfl
  | 6, _ => rfl
  | 7, _ => rfl
  | 8, _ => rfl
  | 9, _ => rfl
  | 10, _ => rfl
  | 11, _ => rfl
  | k + 12, h => absurd h (by omega)
theorem cw_uss {a : Nat → Nat} {cI cL cD cS : ClassId} {nf : Nat → Int → Int} {ns : Nat → Int} {da : Int → Int → Int} {be : Int → Int} {ui ul : Nat → Int → Int} {cn : Int} {ss : Nat → Nat} {mf sd : Nat → Int} {pr : Nat → Int → Int} {x : Nat} : ∀ (k : Nat), k < 9 → (cw a cI cL cD cS nf ns da be ui ul cn ss mf sd pr).set (36 + 2 * k) (a (36 + 2 * k), .inr (3, [.ref (a (37 + 2 * k)), .int (iI (x : Nat)), .int (iI (mf k)), .int (iI (sd k))])) = cw a cI cL cD cS nf ns da be ui ul cn (nw ss k x) mf sd pr
  | 0, _ => rfl
  | 1, _ => rfl
  | 2, _ => rfl
  | 3, _ => rfl
  | 4, _ => rfl
  | 5, _ => rfl
  | 6, _ => rfl
  | 7, _ => rfl
  | 8, _ => rfl
  | k + 9, h => absurd h (by omega)
theorem cw_umf {a : Nat → Nat} {cI cL cD cS : ClassId} {nf : Nat → Int → Int} {ns : Nat → Int} {da : Int → Int → Int} {be : Int → Int} {ui ul : Nat → Int → Int} {cn : Int} {ss : Nat → Nat} {mf sd : Nat → Int} {pr : Nat → Int → Int} {x : Int} : ∀ (k : Nat), k < 9 → (cw a cI cL cD cS nf ns da be ui ul cn ss mf sd pr).set (36 + 2 * k) (a (36 + 2 * k), .inr (3, [.ref (a (37 + 2 * k)), .int (iI (ss k : Nat)), .int (iI x), .int (iI (sd k))])) = cw a cI cL cD cS nf ns da be ui ul cn ss (nw mf k x) sd pr
  | 0, _ => rfl
  | 1, _ => rfl
  | 2, _ => rfl
  | 3, _ => rfl
  | 4, _ => rfl
  | 5, _ => rfl
  | 6, _ => rfl
  | 7, _ => rfl
  | 8, _ => rfl
  | k + 9, h => absurd h (by omega)
theorem cw_usd {a : Nat → Nat} {cI cL cD cS : ClassId} {nf : Nat → Int → Int} {ns : Nat → Int} {da : Int → Int → Int} {be : Int → Int} {ui ul : Nat → Int → Int} {cn : Int} {ss : Nat → Nat} {mf sd : Nat → Int} {pr : Nat → Int → Int} {x : Int} : ∀ (k : Nat), k < 9 → (cw a cI cL cD cS nf ns da be ui ul cn ss mf sd pr).set (36 + 2 * k) (a (36 + 2 * k), .inr (3, [.ref (a (37 + 2 * k)), .int (iI (ss k : Nat)), .int (iI (mf k)), .int (iI x)])) = cw a cI cL cD cS nf ns da be ui ul cn ss mf (nw sd k x) pr
  | 0, _ => rfl
  | 1, _ => rfl
  | 2, _ => rfl
  | 3, _ => rfl
  | 4, _ => rfl
  | 5, _ => rfl
  | 6, _ => rfl
  | 7, _ => rfl
  | 8, _ => rfl
  | k + 9, h => absurd h (by omega)
/-- what a method takes as given beside the words: the tables' numbers, the links between nest mates -/
def pn_nest : List (String × Nat × MethodName) := [("PressureNets", 11, y_N_init), ("PressureNets", 34, y_T_init), ("PressureNets$Net", 66, y_P_rowOf), ("PressureNets$Net", 78, y_P_ductOfFan), ("PressureNets$Settler", 76, y_P_rowOf), ("PressureNets$Stuff", 61, y_P_rowOf)]
abbrev pn_tys (cI cL cD cS : ClassId) : List (ClassId × FieldType) := [(cI, .int), (cL, .long), (cD, .array .int), (cS, .object "PressureNets$State")]
def pn_E (D : va_G) (cI cL cD cS : ClassId) (U : State) : Prop := va_K D pn_cl (pn_tys cI cL cD cS) U ∧ ∀ q ∈ pn_nest, va_Nw (.methodLinkNest q.1 q.2.1 q.2.2 "PressureNets") U
theorem pn_E.warm {D : va_G} {cI cL cD cS : ClassId} {s U : State} (hW : s.WarmedH U.vm) (h : pn_E D cI cL cD cS s) : pn_E D cI cL cD cS U := ⟨va_K.moved hW.alike h.1, fun q hq => va_Nw.warmM hW (h.2 q hq)⟩
theorem pn_E.same {D : va_G} {cI cL cD cS : ClassId} {s U : State} (hv : s.vm = U.vm) (h : pn_E D cI cL cD cS s) : pn_E D cI cL cD cS U := ⟨va_K.moved (by rw [hv]; exact Vm.Alike.refl U.vm) h.1, fun q hq => va_Nw.same rfl hv (h.2 q hq)⟩
theorem in0_P : ∀ w ∈ u_ws R_P T_P 6, w ∈ lw_tbl := by decide +kernel
theorem in1_P : ∀ w ∈ u_ws R_P T_P 6, goodWord w = true := by decide +kernel
theorem in_P (c0 : Cond) : ∀ w ∈ u_ws R_P T_P 6, w ∈ c0 :: pn_W := fun w h => List.mem_cons_of_mem _ (List.mem_filter.mpr ⟨in0_P w h, in1_P w h⟩)
theorem in0_N : ∀ w ∈ u_ws R_N T_N 17, w ∈ lw_tbl := by decide +kernel
theorem in1_N : ∀ w ∈ u_ws R_N T_N 17, goodWord w = true := by decide +kernel
theorem in_N (c0 : Cond) : ∀ w ∈ u_ws R_N T_N 17, w ∈ c0 :: pn_W := fun w h => List.mem_cons_of_mem _ (List.mem_filter.mpr ⟨in0_N w h, in1_N w h⟩)
theorem in0_S : ∀ w ∈ u_ws R_S T_S 2, w ∈ lw_tbl := by decide +kernel
theorem in1_S : ∀ w ∈ u_ws R_S T_S 2, goodWord w = true := by decide +kernel
theorem in_S (c0 : Cond) : ∀ w ∈ u_ws R_S T_S 2, w ∈ c0 :: pn_W := fun w h => List.mem_cons_of_mem _ (List.mem_filter.mpr ⟨in0_S w h, in1_S w h⟩)
theorem in0_T : ∀ w ∈ u_ws R_T T_T 4, w ∈ lw_tbl := by decide +kernel
theorem in1_T : ∀ w ∈ u_ws R_T T_T 4, goodWord w = true := by decide +kernel
theorem in_T (c0 : Cond) : ∀ w ∈ u_ws R_T T_T 4, w ∈ c0 :: pn_W := fun w h => List.mem_cons_of_mem _ (List.mem_filter.mpr ⟨in0_T w h, in1_T w h⟩)
theorem in0_U : ∀ w ∈ u_ws R_U T_U 6, w ∈ lw_tbl := by decide +kernel
theorem in1_U : ∀ w ∈ u_ws R_U T_U 6, goodWord w = true := by decide +kernel
theorem in_U (c0 : Cond) : ∀ w ∈ u_ws R_U T_U 6, w ∈ c0 :: pn_W := fun w h => List.mem_cons_of_mem _ (List.mem_filter.mpr ⟨in0_U w h, in1_U w h⟩)
theorem in0_M : ∀ w ∈ u_ws R_M T_M 27, w ∈ lw_tbl := by decide +kernel
theorem in1_M : ∀ w ∈ u_ws R_M T_M 27, goodWord w = true := by decide +kernel
theorem in_M (c0 : Cond) : ∀ w ∈ u_ws R_M T_M 27, w ∈ c0 :: pn_W := fun w h => List.mem_cons_of_mem _ (List.mem_filter.mpr ⟨in0_M w h, in1_M w h⟩)
