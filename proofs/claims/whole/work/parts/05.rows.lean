/-! ints and longs by whole numbers -/
def iI (z : Int) : Int32 := Int32.ofInt z
def lI (z : Int) : Int64 := Int64.ofInt z
def i3 (z : Int) : Prop := -2147483648 ≤ z ∧ z ≤ 2147483647
def i6 (z : Int) : Prop := -9223372036854775808 ≤ z ∧ z ≤ 9223372036854775807
theorem iI_t {z : Int} (h : i3 z) : (iI z).toInt = z := by
  obtain ⟨h1, h2⟩ := h
  exact Int32.toInt_ofInt_of_le (by omega) (by omega)
theorem lI_t {z : Int} (h : i6 z) : (lI z).toInt = z := by
  obtain ⟨h1, h2⟩ := h
  exact Int64.toInt_ofInt_of_le (by omega) (by omega)
theorem iI_of (x : Int32) : iI x.toInt = x := Int32.ofInt_toInt x
theorem lI_of (x : Int64) : lI x.toInt = x := Int64.ofInt_toInt x
theorem iI_r (x : Int32) : i3 x.toInt := by
  have h1 := Int32.le_toInt x
  have h2 := Int32.toInt_lt x
  exact ⟨by omega, by omega⟩
theorem lI_r (x : Int64) : i6 x.toInt := by
  have h1 := Int64.le_toInt x
  have h2 := Int64.toInt_lt x
  exact ⟨by omega, by omega⟩
theorem iI_lt {A B : Int} (hA : i3 A) (hB : i3 B) : iI A < iI B ↔ A < B := by rw [Int32.lt_iff_toInt_lt, iI_t hA, iI_t hB]
theorem iI_le {A B : Int} (hA : i3 A) (hB : i3 B) : iI A ≤ iI B ↔ A ≤ B := by rw [Int32.le_iff_toInt_le, iI_t hA, iI_t hB]
theorem iI_eq {A B : Int} (hA : i3 A) (hB : i3 B) : iI A = iI B ↔ A = B := ⟨fun h => by rw [← iI_t hA, h, iI_t hB], fun h => by rw [h]⟩
theorem lI_lt {A B : Int} (hA : i6 A) (hB : i6 B) : lI A < lI B ↔ A < B := by rw [Int64.lt_iff_toInt_lt, lI_t hA, lI_t hB]
theorem lI_le {A B : Int} (hA : i6 A) (hB : i6 B) : lI A ≤ lI B ↔ A ≤ B := by rw [Int64.le_iff_toInt_le, lI_t hA, lI_t hB]
theorem lI_eq {A B : Int} (hA : i6 A) (hB : i6 B) : lI A = lI B ↔ A = B := ⟨fun h => by rw [← lI_t hA, h, lI_t hB], fun h => by rw [h]⟩
theorem i3_of {A : Int} (h1 : -2147483648 ≤ A) (h2 : A ≤ 2147483647) : i3 A := ⟨h1, h2⟩
theorem i6_of {A : Int} (h1 : -9223372036854775808 ≤ A) (h2 : A ≤ 9223372036854775807) : i6 A := ⟨h1, h2⟩
theorem iI_0 : iI 0 = 0 := by decide
theorem i3_0 : i3 0 := ⟨by omega, by omega⟩
theorem iI_l {A : Int} (h : i3 A) : (iI A).toInt64 = lI A := by
  rw [← Int64.toInt_inj, Int32.toInt_toInt64, iI_t h, lI_t]
  obtain ⟨h1, h2⟩ := h
  exact ⟨by omega, by omega⟩
theorem lI_i (A : Int) : (lI A).toInt32 = iI A := by
  unfold lI iI
  simp
theorem iI_nat (n : Nat) : iI (n : Int) = Int32.ofNat n := Int32.ofInt_eq_ofNat
theorem iI_clamp {V : Int} (h0 : 0 ≤ V) (h1 : V ≤ 2147483647) : (iI V).toNatClampNeg = V.toNat := by
  have h2 := iI_t (z := V) ⟨by omega, h1⟩
  show (iI V).toInt.toNat = V.toNat
  rw [h2]
theorem iI_in {V : Int} {n : Nat} (hn : n ≤ 2147483647) (h0 : 0 ≤ V) (h1 : V < n) : vp_in (iI V) n := by
  rw [vp_in_iff, iI_t ⟨by omega, by omega⟩]
  exact ⟨h0, h1⟩
theorem iI_add (A B : Int) : iI (A + B) = iI A + iI B := Int32.ofInt_add A B
theorem iI_sub (A B : Int) : iI (A - B) = iI A - iI B := Int32.ofInt_sub A B
theorem iI_mul (A B : Int) : iI (A * B) = iI A * iI B := Int32.ofInt_mul A B
theorem iI_neg (A : Int) : iI (-A) = -iI A := Int32.ofInt_neg A
theorem lI_add (A B : Int) : lI (A + B) = lI A + lI B := Int64.ofInt_add A B
theorem lI_sub (A B : Int) : lI (A - B) = lI A - lI B := Int64.ofInt_sub A B
theorem lI_mul (A B : Int) : lI (A * B) = lI A * lI B := Int64.ofInt_mul A B
theorem lI_neg (A : Int) : lI (-A) = -lI A := Int64.ofInt_neg A
theorem iI_div {A B : Int} (hA : i3 A) (hB : i3 B) : iI (A.tdiv B) = iI A / iI B := Int32.ofInt_tdiv (by have := hA.1; exact this) (by have := hA.2; exact this) (by have := hB.1; exact this) (by have := hB.2; exact this)
theorem lI_div {A B : Int} (hA : i6 A) (hB : i6 B) : lI (A.tdiv B) = lI A / lI B := Int64.ofInt_tdiv (by have := hA.1; exact this) (by have := hA.2; exact this) (by have := hB.1; exact this) (by have := hB.2; exact this)
/-- an array's contents by whole numbers, one place changed -/
def pu (f : Int → Int) (k : Int) (v : Int) : Int → Int := fun j => if j = k then v else f j
theorem pu_s (f : Int → Int) (k v : Int) : pu f k v k = v := if_pos rfl
theorem pu_n (f : Int → Int) {k j : Int} (v : Int) (h : j ≠ k) : pu f k v j = f j := if_neg h
def ai (f : Int → Int) : Nat → Int32 := fun j => iI (f (j : Int))
def al (f : Int → Int) : Nat → Int64 := fun j => lI (f (j : Int))
theorem ai_at (f : Int → Int) {V : Int} (h0 : 0 ≤ V) : ai f V.toNat = iI (f V) := by unfold ai; rw [Int.toNat_of_nonneg h0]
theorem al_at (f : Int → Int) {V : Int} (h0 : 0 ≤ V) : al f V.toNat = lI (f V) := by unfold al; rw [Int.toNat_of_nonneg h0]
theorem ai_up (f : Int → Int) {V : Int} (x : Int) (h0 : 0 ≤ V) : upd (ai f) V.toNat (iI x) = ai (pu f V x) := by
  funext j
  unfold upd ai pu
  by_cases h : j = V.toNat
  · rw [if_pos h, if_pos (by omega)]
  · rw [if_neg h, if_neg (by omega)]
theorem al_up (f : Int → Int) {V : Int} (x : Int) (h0 : 0 ≤ V) : vp_updL (al f) V.toNat (lI x) = al (pu f V x) := by
  funext j
  unfold vp_updL al pu
  by_cases h : j = V.toNat
  · rw [if_pos h, if_pos (by omega)]
  · rw [if_neg h, if_neg (by omega)]
section PR
variable {p : Program} {l : Launch} {e : Env} {R : Room} {s : State} {m : MethodId} {args : Array Value} {below : List Frame} {meth : Method} {c : Code} {H : Heap} {locs : List Loc} {cells slots : Nat} {Q : State → Prop}
variable {cc : ByteArray} {pc : Nat} {ls : Array Slot} {rest : List Value} {D : va_G} {cl : List vw_C} {A0 : Nat → Prop} {a : Nat} {tys : List (ClassId × FieldType)} {ws : va_W} {H0 : Heap}
theorem pr_iadd (hx : p.tables.exec = Jvm.exec) (hb : c.code = cc) {A B : Int} (hd : decode cc pc = .ok (.iadd, 1)) (k : W p l e R s m args below meth c H locs cells slots Q (F0 m (pc + 1) ls (.int (iI (A + B)) :: rest))) : W p l e R s m args below meth c H locs cells slots Q (F0 m pc ls (.int (iI B) :: .int (iI A) :: rest)) := lv_iadd hx hb hd (by rw [← iI_add]; exact k)
theorem pr_isub (hx : p.tables.exec = Jvm.exec) (hb : c.code = cc) {A B : Int} (hd : decode cc pc = .ok (.isub, 1)) (k : W p l e R s m args below meth c H locs cells slots Q (F0 m (pc + 1) ls (.int (iI (A - B)) :: rest))) : W p l e R s m args below meth c H locs cells slots Q (F0 m pc ls (.int (iI B) :: .int (iI A) :: rest)) := lv_isub hx hb hd (by rw [← iI_sub]; exact k)
theorem pr_imul (hx : p.tables.exec = Jvm.exec) (hb : c.code = cc) {A B : Int} (hd : decode cc pc = .ok (.imul, 1)) (k : W p l e R s m args below meth c H locs cells slots Q (F0 m (pc + 1) ls (.int (iI (A * B)) :: rest))) : W p l e R s m args below meth c H locs cells slots Q (F0 m pc ls (.int (iI B) :: .int (iI A) :: rest)) := lv_imul hx hb hd (by rw [← iI_mul]; exact k)
theorem pr_ladd (hx : p.tables.exec = Jvm.exec) (hb : c.code = cc) {A B : Int} (hd : decode cc pc = .ok (.ladd, 1)) (k : W p l e R s m args below meth c H locs cells slots Q (F0 m (pc + 1) ls (.long (lI (A + B)) :: rest))) : W p l e R s m args below meth c H locs cells slots Q (F0 m pc ls (.long (lI B) :: .long (lI A) :: rest)) := lv_ladd hx hb hd (by rw [← lI_add]; exact k)
theorem pr_lsub (hx : p.tables.exec = Jvm.exec) (hb : c.code = cc) {A B : Int} (hd : decode cc pc = .ok (.lsub, 1)) (k : W p l e R s m args below meth c H locs cells slots Q (F0 m (pc + 1) ls (.long (lI (A - B)) :: rest))) : W p l e R s m args below meth c H locs cells slots Q (F0 m pc ls (.long (lI B) :: .long (lI A) :: rest)) := lv_lsub hx hb hd (by rw [← lI_sub]; exact k)
theorem pr_lmul (hx : p.tables.exec = Jvm.exec) (hb : c.code = cc) {A B : Int} (hd : decode cc pc = .ok (.lmul, 1)) (k : W p l e R s m args below meth c H locs cells slots Q (F0 m (pc + 1) ls (.long (lI (A * B)) :: rest))) : W p l e R s m args below meth c H locs cells slots Q (F0 m pc ls (.long (lI B) :: .long (lI A) :: rest)) := lv_lmul hx hb hd (by rw [← lI_mul]; exact k)
theorem pr_ineg (hx : p.tables.exec = Jvm.exec) (hb : c.code = cc) {A : Int} (hd : decode cc pc = .ok (.ineg, 1)) (k : W p l e R s m args below meth c H locs cells slots Q (F0 m (pc + 1) ls (.int (iI (-A)) :: rest))) : W p l e R s m args below meth c H locs cells slots Q (F0 m pc ls (.int (iI A) :: rest)) := lv_ineg hx hb hd (by rw [← iI_neg]; exact k)
theorem pr_lneg (hx : p.tables.exec = Jvm.exec) (hb : c.code = cc) {A : Int} (hd : decode cc pc = .ok (.lneg, 1)) (k : W p l e R s m args below meth c H locs cells slots Q (F0 m (pc + 1) ls (.long (lI (-A)) :: rest))) : W p l e R s m args below meth c H locs cells slots Q (F0 m pc ls (.long (lI A) :: rest)) := lv_lneg hx hb hd (by rw [← lI_neg]; exact k)
theorem pr_idiv (hx : p.tables.exec = Jvm.exec) (hb : c.code = cc) {A B : Int} (hA : i3 A) (hB : i3 B) (hz : B ≠ 0) (hd : decode cc pc = .ok (.idiv, 1)) (k : W p l e R s m args below meth c H locs cells slots Q (F0 m (pc + 1) ls (.int (iI (A.tdiv B)) :: rest))) : W p l e R s m args below meth c H locs cells slots Q (F0 m pc ls (.int (iI B) :: .int (iI A) :: rest)) := lv_idiv hx hb hd (fun q => hz (by rw [← iI_t hB, q]; rfl)) (by rw [← iI_div hA hB]; exact k)
theorem pr_ldiv (hx : p.tables.exec = Jvm.exec) (hb : c.code = cc) {A B : Int} (hA : i6 A) (hB : i6 B) (hz : B ≠ 0) (hd : decode cc pc = .ok (.ldiv, 1)) (k : W p l e R s m args below meth c H locs cells slots Q (F0 m (pc + 1) ls (.long (lI (A.tdiv B)) :: rest))) : W p l e R s m args below meth c H locs cells slots Q (F0 m pc ls (.long (lI B) :: .long (lI A) :: rest)) := lv_ldiv hx hb hd (fun q => hz (by rw [← lI_t hB, q]; rfl)) (by rw [← lI_div hA hB]; exact k)
theorem pr_i2l (hx : p.tables.exec = Jvm.exec) (hb : c.code = cc) {A : Int} (hA : i3 A) (hd : decode cc pc = .ok (.i2l, 1)) (k : W p l e R s m args below meth c H locs cells slots Q (F0 m (pc + 1) ls (.long (lI A) :: rest))) : W p l e R s m args below meth c H locs cells slots Q (F0 m pc ls (.int (iI A) :: rest)) := lv_i2l hx hb hd (iI_l hA) k
theorem pr_l2i (hx : p.tables.exec = Jvm.exec) (hb : c.code = cc) {A : Int} (hd : decode cc pc = .ok (.l2i, 1)) (k : W p l e R s m args below meth c H locs cells slots Q (F0 m (pc + 1) ls (.int (iI A) :: rest))) : W p l e R s m args below meth c H locs cells slots Q (F0 m pc ls (.long (lI A) :: rest)) := lv_l2i hx hb hd (lI_i A) k
theorem pr_icmp_eq (hx : p.tables.exec = Jvm.exec) (hb : c.code = cc) {A B : Int} {off : Int} {tgt : Nat} (hA : i3 A) (hB : i3 B) (hd : decode cc pc = .ok (.if_icmp .eq off, 3)) (ht : (pc : Int) + off = (tgt : Int)) (kt : A = B → W p l e R s m args below meth c H locs cells slots Q (F0 m tgt ls (rest))) (kf : A ≠ B → W p l e R s m args below meth c H locs cells slots Q (F0 m (pc + 3) ls (rest))) : W p l e R s m args below meth c H locs cells slots Q (F0 m pc ls (.int (iI B) :: .int (iI A) :: rest)) := lv_icmp_eq hx hb hd ht (fun q => kt ((iI_eq hA hB).mp q)) (fun q => kf (fun z => q ((iI_eq hA hB).mpr z)))
theorem pr_if_eq (hx : p.tables.exec = Jvm.exec) (hb : c.code = cc) {A : Int} {off : Int} {tgt : Nat} (hA : i3 A) (hd : decode cc pc = .ok (.ifCond .eq off, 3)) (ht : (pc : Int) + off = (tgt : Int)) (kt : A = 0 → W p l e R s m args below meth c H locs cells slots Q (F0 m tgt ls (rest))) (kf : A ≠ 0 → W p l e R s m args below meth c H locs cells slots Q (F0 m (pc + 3) ls (rest))) : W p l e R s m args below meth c H locs cells slots Q (F0 m pc ls (.int (iI A) :: rest)) := lv_if_eq hx hb hd ht (fun q => kt ((iI_eq hA i3_0).mp (by rw [iI_0]; exact q))) (fun q => kf (fun z => q (by rw [← iI_0]; exact (iI_eq hA i3_0).mpr z)))
theorem pr_icmp_ne (hx : p.tables.exec = Jvm.exec) (hb : c.code = cc) {A B : Int} {off : Int} {tgt : Nat} (hA : i3 A) (hB : i3 B) (hd : decode cc pc = .ok (.if_icmp .ne off, 3)) (ht : (pc : Int) + off = (tgt : Int)) (kt : A ≠ B → W p l e R s m args below meth c H locs cells slots Q (F0 m tgt ls (rest))) (kf : A = B → W p l e R s m args below meth c H locs cells slots Q (F0 m (pc + 3) ls (rest))) : W p l e R s m args below meth c H locs cells slots Q (F0 m pc ls (.int (iI B) :: .int (iI A) :: rest)) := lv_icmp_ne hx hb hd ht (fun q => kt (fun z => q ((iI_eq hA hB).mpr z))) (fun q => kf ((iI_eq hA hB).mp q))
theorem pr_if_ne (hx : p.tables.exec = Jvm.exec) (hb : c.code = cc) {A : Int} {off : Int} {tgt : Nat} (hA : i3 A) (hd : decode cc pc = .ok (.ifCond .ne off, 3)) (ht : (pc : Int) + off = (tgt : Int)) (kt : A ≠ 0 → W p l e R s m args below meth c H locs cells slots Q (F0 m tgt ls (rest))) (kf : A = 0 → W p l e R s m args below meth c H locs cells slots Q (F0 m (pc + 3) ls (rest))) : W p l e R s m args below meth c H locs cells slots Q (F0 m pc ls (.int (iI A) :: rest)) := lv_if_ne hx hb hd ht (fun q => kt (fun z => q (by rw [← iI_0]; exact (iI_eq hA i3_0).mpr z))) (fun q => kf ((iI_eq hA i3_0).mp (by rw [iI_0]; exact q)))
theorem pr_icmp_lt (hx : p.tables.exec = Jvm.exec) (hb : c.code = cc) {A B : Int} {off : Int} {tgt : Nat} (hA : i3 A) (hB : i3 B) (hd : decode cc pc = .ok (.if_icmp .lt off, 3)) (ht : (pc : Int) + off = (tgt : Int)) (kt : A < B → W p l e R s m args below meth c H locs cells slots Q (F0 m tgt ls (rest))) (kf : B ≤ A → W p l e R s m args below meth c H locs cells slots Q (F0 m (pc + 3) ls (rest))) : W p l e R s m args below meth c H locs cells slots Q (F0 m pc ls (.int (iI B) :: .int (iI A) :: rest)) := lv_icmp_lt hx hb hd ht (fun q => kt ((iI_lt hA hB).mp q)) (fun q => kf (Int.not_lt.mp (fun z => q ((iI_lt hA hB).mpr z))))
theorem pr_if_lt (hx : p.tables.exec = Jvm.exec) (hb : c.code = cc) {A : Int} {off : Int} {tgt : Nat} (hA : i3 A) (hd : decode cc pc = .ok (.ifCond .lt off, 3)) (ht : (pc : Int) + off = (tgt : Int)) (kt : A < 0 → W p l e R s m args below meth c H locs cells slots Q (F0 m tgt ls (rest))) (kf : 0 ≤ A → W p l e R s m args below meth c H locs cells slots Q (F0 m (pc + 3) ls (rest))) : W p l e R s m args below meth c H locs cells slots Q (F0 m pc ls (.int (iI A) :: rest)) := lv_if_lt hx hb hd ht (fun q => kt ((iI_lt hA i3_0).mp (by rw [iI_0]; exact q))) (fun q => kf (Int.not_lt.mp (fun z => q (by rw [← iI_0]; exact (iI_lt hA i3_0).mpr z))))
theorem pr_icmp_ge (hx : p.tables.exec = Jvm.exec) (hb : c.code = cc) {A B : Int} {off : Int} {tgt : Nat} (hA : i3 A) (hB : i3 B) (hd : decode cc pc = .ok (.if_icmp .ge off, 3)) (ht : (pc : Int) + off = (tgt : Int)) (kt : B ≤ A → W p l e R s m args below meth c H locs cells slots Q (F0 m tgt ls (rest))) (kf : A < B → W p l e R s m args below meth c H locs cells slots Q (F0 m (pc + 3) ls (rest))) : W p l e R s m args below meth c H locs cells slots Q (F0 m pc ls (.int (iI B) :: .int (iI A) :: rest)) := lv_icmp_ge hx hb hd ht (fun q => kt ((iI_le hB hA).mp q)) (fun q => kf (Int.not_le.mp (fun z => q ((iI_le hB hA).mpr z))))
theorem pr_if_ge (hx : p.tables.exec = Jvm.exec) (hb : c.code = cc) {A : Int} {off : Int} {tgt : Nat} (hA : i3 A) (hd : decode cc pc = .ok (.ifCond .ge off, 3)) (ht : (pc : Int) + off = (tgt : Int)) (kt : 0 ≤ A → W p l e R s m args below meth c H locs cells slots Q (F0 m tgt ls (rest))) (kf : A < 0 → W p l e R s m args below meth c H locs cells slots Q (F0 m (pc + 3) ls (rest))) : W p l e R s m args below meth c H locs cells slots Q (F0 m pc ls (.int (iI A) :: rest)) := lv_if_ge hx hb hd ht (fun q => kt ((iI_le i3_0 hA).mp (by rw [iI_0]; exact q))) (fun q => kf (Int.not_le.mp (fun z => q (by rw [← iI_0]; exact (iI_le i3_0 hA).mpr z))))
theorem pr_icmp_gt (hx : p.tables.exec = Jvm.exec) (hb : c.code = cc) {A B : Int} {off : Int} {tgt : Nat} (hA : i3 A) (hB : i3 B) (hd : decode cc pc = .ok (.if_icmp .gt off, 3)) (ht : (pc : Int) + off = (tgt : Int)) (kt : B < A → W p l e R s m args below meth c H locs cells slots Q (F0 m tgt ls (rest))) (kf : A ≤ B → W p l e R s m args below meth c H locs cells slots Q (F0 m (pc + 3) ls (rest))) : W p l e R s m args below meth c H locs cells slots Q (F0 m pc ls (.int (iI B) :: .int (iI A) :: rest)) := lv_icmp_gt hx hb hd ht (fun q => kt ((iI_lt hB hA).mp q)) (fun q => kf (Int.not_lt.mp (fun z => q ((iI_lt hB hA).mpr z))))
theorem pr_if_gt (hx : p.tables.exec = Jvm.exec) (hb : c.code = cc) {A : Int} {off : Int} {tgt : Nat} (hA : i3 A) (hd : decode cc pc = .ok (.ifCond .gt off, 3)) (ht : (pc : Int) + off = (tgt : Int)) (kt : 0 < A → W p l e R s m args below meth c H locs cells slots Q (F0 m tgt ls (rest))) (kf : A ≤ 0 → W p l e R s m args below meth c H locs cells slots Q (F0 m (pc + 3) ls (rest))) : W p l e R s m args below meth c H locs cells slots Q (F0 m pc ls (.int (iI A) :: rest)) := lv_if_gt hx hb hd ht (fun q => kt ((iI_lt i3_0 hA).mp (by rw [iI_0]; exact q))) (fun q => kf (Int.not_lt.mp (fun z => q (by rw [← iI_0]; exact (iI_lt i3_0 hA).mpr z))))
theorem pr_icmp_le (hx : p.tables.exec = Jvm.exec) (hb : c.code = cc) {A B : Int} {off : Int} {tgt : Nat} (hA : i3 A) (hB : i3 B) (hd : decode cc pc = .ok (.if_icmp .le off, 3)) (ht : (pc : Int) + off = (tgt : Int)) (kt : A ≤ B → W p l e R s m args below meth c H locs cells slots Q (F0 m tgt ls (rest))) (kf : B < A → W p l e R s m args below meth c H locs cells slots Q (F0 m (pc + 3) ls (rest))) : W p l e R s m args below meth c H locs cells slots Q (F0 m pc ls (.int (iI B) :: .int (iI A) :: rest)) := lv_icmp_le hx hb hd ht (fun q => kt ((iI_le hA hB).mp q)) (fun q => kf (Int.not_le.mp (fun z => q ((iI_le hA hB).mpr z))))
theorem pr_if_le (hx : p.tables.exec = Jvm.exec) (hb : c.code = cc) {A : Int} {off : Int} {tgt : Nat} (hA : i3 A) (hd : decode cc pc = .ok (.ifCond .le off, 3)) (ht : (pc : Int) + off = (tgt : Int)) (kt : A ≤ 0 → W p l e R s m args below meth c H locs cells slots Q (F0 m tgt ls (rest))) (kf : 0 < A → W p l e R s m args below meth c H locs cells slots Q (F0 m (pc + 3) ls (rest))) : W p l e R s m args below meth c H locs cells slots Q (F0 m pc ls (.int (iI A) :: rest)) := lv_if_le hx hb hd ht (fun q => kt ((iI_le hA i3_0).mp (by rw [iI_0]; exact q))) (fun q => kf (Int.not_le.mp (fun z => q (by rw [← iI_0]; exact (iI_le hA i3_0).mpr z))))
theorem pr_cmp_r (A B : Int) : i3 (if B < A then 1 else if A = B then 0 else -1) := by
  by_cases h : B < A
  · rw [if_pos h]; exact ⟨by omega, by omega⟩
  · rw [if_neg h]
    by_cases h2 : A = B
    · rw [if_pos h2]; exact ⟨by omega, by omega⟩
    · rw [if_neg h2]; exact ⟨by omega, by omega⟩
theorem pr_cmp_v (A B : Int) (hA : i6 A) (hB : i6 B) : lg_cmp (lI A) (lI B) = iI (if B < A then 1 else if A = B then 0 else -1) := by
  unfold lg_cmp
  by_cases h : B < A
  · rw [if_pos ((lI_lt hB hA).mpr h), if_pos h]; rfl
  · rw [if_neg (fun q => h ((lI_lt hB hA).mp q)), if_neg h]
    by_cases h2 : A = B
    · rw [if_pos ((lI_eq hA hB).mpr h2), if_pos h2]; rfl
    · rw [if_neg (fun q => h2 ((lI_eq hA hB).mp q)), if_neg h2]; rfl
theorem pr_lcmp_eq (hx : p.tables.exec = Jvm.exec) (hb : c.code = cc) {A B : Int} {off : Int} {tgt : Nat} (hA : i6 A) (hB : i6 B) (hd0 : decode cc pc = .ok (.lcmp, 1)) (hd : decode cc (pc + 1) = .ok (.ifCond .eq off, 3)) (ht : ((pc + 1 : Nat) : Int) + off = (tgt : Int)) (kt : A = B → W p l e R s m args below meth c H locs cells slots Q (F0 m tgt ls (rest))) (kf : A ≠ B → W p l e R s m args below meth c H locs cells slots Q (F0 m (pc + 4) ls (rest))) : W p l e R s m args below meth c H locs cells slots Q (F0 m pc ls (.long (lI B) :: .long (lI A) :: rest)) := by
  refine W.lcmp hx hb hd0 ?_
  rw [pr_cmp_v A B hA hB]
  refine pr_if_eq hx hb (pr_cmp_r A B) hd ht (fun q => kt ?_) (fun q => kf ?_)
  · by_cases h : B < A
    · rw [if_pos h] at q; omega
    · rw [if_neg h] at q
      by_cases h2 : A = B
      · rw [if_pos h2] at q; omega
      · rw [if_neg h2] at q; omega
  · by_cases h : B < A
    · rw [if_pos h] at q; omega
    · rw [if_neg h] at q
      by_cases h2 : A = B
      · rw [if_pos h2] at q; omega
      · rw [if_neg h2] at q; omega
theorem pr_lcmp_ne (hx : p.tables.exec = Jvm.exec) (hb : c.code = cc) {A B : Int} {off : Int} {tgt : Nat} (hA : i6 A) (hB : i6 B) (hd0 : decode cc pc = .ok (.lcmp, 1)) (hd : decode cc (pc + 1) = .ok (.ifCond .ne off, 3)) (ht : ((pc + 1 : Nat) : Int) + off = (tgt : Int)) (kt : A ≠ B → W p l e R s m args below meth c H locs cells slots Q (F0 m tgt ls (rest))) (kf : A = B → W p l e R s m args below meth c H locs cells slots Q (F0 m (pc + 4) ls (rest))) : W p l e R s m args below meth c H locs cells slots Q (F0 m pc ls (.long (lI B) :: .long (lI A) :: rest)) := by
  refine W.lcmp hx hb hd0 ?_
  rw [pr_cmp_v A B hA hB]
  refine pr_if_ne hx hb (pr_cmp_r A B) hd ht (fun q => kt ?_) (fun q => kf ?_)
  · by_cases h : B < A
    · rw [if_pos h] at q; omega
    · rw [if_neg h] at q
      by_cases h2 : A = B
      · rw [if_pos h2] at q; omega
      · rw [if_neg h2] at q; omega
  · by_cases h : B < A
    · rw [if_pos h] at q; omega
    · rw [if_neg h] at q
      by_cases h2 : A = B
      · rw [if_pos h2] at q; omega
      · rw [if_neg h2] at q; omega
theorem pr_lcmp_lt (hx : p.tables.exec = Jvm.exec) (hb : c.code = cc) {A B : Int} {off : Int} {tgt : Nat} (hA : i6 A) (hB : i6 B) (hd0 : decode cc pc = .ok (.lcmp, 1)) (hd : decode cc (pc + 1) = .ok (.ifCond .lt off, 3)) (ht : ((pc + 1 : Nat) : Int) + off = (tgt : Int)) (kt : A < B → W p l e R s m args below meth c H locs cells slots Q (F0 m tgt ls (rest))) (kf : B ≤ A → W p l e R s m args below meth c H locs cells slots Q (F0 m (pc + 4) ls (rest))) : W p l e R s m args below meth c H locs cells slots Q (F0 m pc ls (.long (lI B) :: .long (lI A) :: rest)) := by
  refine W.lcmp hx hb hd0 ?_
  rw [pr_cmp_v A B hA hB]
  refine pr_if_lt hx hb (pr_cmp_r A B) hd ht (fun q => kt ?_) (fun q => kf ?_)
  · by_cases h : B < A
    · rw [if_pos h] at q; omega
    · rw [if_neg h] at q
      by_cases h2 : A = B
      · rw [if_pos h2] at q; omega
      · rw [if_neg h2] at q; omega
  · by_cases h : B < A
    · rw [if_pos h] at q; omega
    · rw [if_neg h] at q
      by_cases h2 : A = B
      · rw [if_pos h2] at q; omega
      · rw [if_neg h2] at q; omega
theorem pr_lcmp_ge (hx : p.tables.exec = Jvm.exec) (hb : c.code = cc) {A B : Int} {off : Int} {tgt : Nat} (hA : i6 A) (hB : i6 B) (hd0 : decode cc pc = .ok (.lcmp, 1)) (hd : decode cc (pc + 1) = .ok (.ifCond .ge off, 3)) (ht : ((pc + 1 : Nat) : Int) + off = (tgt : Int)) (kt : B ≤ A → W p l e R s m args below meth c H locs cells slots Q (F0 m tgt ls (rest))) (kf : A < B → W p l e R s m args below meth c H locs cells slots Q (F0 m (pc + 4) ls (rest))) : W p l e R s m args below meth c H locs cells slots Q (F0 m pc ls (.long (lI B) :: .long (lI A) :: rest)) := by
  refine W.lcmp hx hb hd0 ?_
  rw [pr_cmp_v A B hA hB]
  refine pr_if_ge hx hb (pr_cmp_r A B) hd ht (fun q => kt ?_) (fun q => kf ?_)
  · by_cases h : B < A
    · rw [if_pos h] at q; omega
    · rw [if_neg h] at q
      by_cases h2 : A = B
      · rw [if_pos h2] at q; omega
      · rw [if_neg h2] at q; omega
  · by_cases h : B < A
    · rw [if_pos h] at q; omega
    · rw [if_neg h] at q
      by_cases h2 : A = B
      · rw [if_pos h2] at q; omega
      · rw [if_neg h2] at q; omega
theorem pr_lcmp_gt (hx : p.tables.exec = Jvm.exec) (hb : c.code = cc) {A B : Int} {off : Int} {tgt : Nat} (hA : i6 A) (hB : i6 B) (hd0 : decode cc pc = .ok (.lcmp, 1)) (hd : decode cc (pc + 1) = .ok (.ifCond .gt off, 3)) (ht : ((pc + 1 : Nat) : Int) + off = (tgt : Int)) (kt : B < A → W p l e R s m args below meth c H locs cells slots Q (F0 m tgt ls (rest))) (kf : A ≤ B → W p l e R s m args below meth c H locs cells slots Q (F0 m (pc + 4) ls (rest))) : W p l e R s m args below meth c H locs cells slots Q (F0 m pc ls (.long (lI B) :: .long (lI A) :: rest)) := by
  refine W.lcmp hx hb hd0 ?_
  rw [pr_cmp_v A B hA hB]
  refine pr_if_gt hx hb (pr_cmp_r A B) hd ht (fun q => kt ?_) (fun q => kf ?_)
  · by_cases h : B < A
    · rw [if_pos h] at q; omega
    · rw [if_neg h] at q
      by_cases h2 : A = B
      · rw [if_pos h2] at q; omega
      · rw [if_neg h2] at q; omega
  · by_cases h : B < A
    · rw [if_pos h] at q; omega
    · rw [if_neg h] at q
      by_cases h2 : A = B
      · rw [if_pos h2] at q; omega
      · rw [if_neg h2] at q; omega
theorem pr_lcmp_le (hx : p.tables.exec = Jvm.exec) (hb : c.code = cc) {A B : Int} {off : Int} {tgt : Nat} (hA : i6 A) (hB : i6 B) (hd0 : decode cc pc = .ok (.lcmp, 1)) (hd : decode cc (pc + 1) = .ok (.ifCond .le off, 3)) (ht : ((pc + 1 : Nat) : Int) + off = (tgt : Int)) (kt : A ≤ B → W p l e R s m args below meth c H locs cells slots Q (F0 m tgt ls (rest))) (kf : B < A → W p l e R s m args below meth c H locs cells slots Q (F0 m (pc + 4) ls (rest))) : W p l e R s m args below meth c H locs cells slots Q (F0 m pc ls (.long (lI B) :: .long (lI A) :: rest)) := by
  refine W.lcmp hx hb hd0 ?_
  rw [pr_cmp_v A B hA hB]
  refine pr_if_le hx hb (pr_cmp_r A B) hd ht (fun q => kt ?_) (fun q => kf ?_)
  · by_cases h : B < A
    · rw [if_pos h] at q; omega
    · rw [if_neg h] at q
      by_cases h2 : A = B
      · rw [if_pos h2] at q; omega
      · rw [if_neg h2] at q; omega
  · by_cases h : B < A
    · rw [if_pos h] at q; omega
    · rw [if_neg h] at q
      by_cases h2 : A = B
      · rw [if_pos h2] at q; omega
      · rw [if_neg h2] at q; omega
theorem pr_iald (hx : p.tables.exec = Jvm.exec) (hb : c.code = cc) (hK : va_K D cl tys s) (hP : va_P D cl ws H) (q0 t0 : Nat) {cA : ClassId} {n : Nat} {f : Int → Int} (ha : ws[q0]? = some (a, .inl (cA, n, .inl (ai f)))) (ht : tys[t0]? = some (cA, .int)) {V : Int} (hn : n ≤ 2147483647) (h0 : 0 ≤ V) (h1 : V < n) (hd : decode cc pc = .ok (.iaload, 1))
    (k : W p l e R s m args below meth c H locs cells slots Q (F0 m (pc + 1) ls (.int (iI (f V)) :: rest))) : W p l e R s m args below meth c H locs cells slots Q (F0 m pc ls (.int (iI V) :: .ref a :: rest)) :=
  va_iald hx hb hK hP q0 t0 ha ht (iI_in hn h0 h1) hd (by rw [iI_clamp h0 (by omega), ai_at f h0]; exact k)
theorem pr_lald (hx : p.tables.exec = Jvm.exec) (hb : c.code = cc) (hK : va_K D cl tys s) (hP : va_P D cl ws H) (q0 t0 : Nat) {cA : ClassId} {n : Nat} {f : Int → Int} (ha : ws[q0]? = some (a, .inl (cA, n, .inr (.inl (al f))))) (ht : tys[t0]? = some (cA, .long)) {V : Int} (hn : n ≤ 2147483647) (h0 : 0 ≤ V) (h1 : V < n) (hd : decode cc pc = .ok (.laload, 1))
    (k : W p l e R s m args below meth c H locs cells slots Q (F0 m (pc + 1) ls (.long (lI (f V)) :: rest))) : W p l e R s m args below meth c H locs cells slots Q (F0 m pc ls (.int (iI V) :: .ref a :: rest)) :=
  va_lald hx hb hK hP q0 t0 ha ht (iI_in hn h0 h1) hd (by rw [iI_clamp h0 (by omega), al_at f h0]; exact k)
theorem pr_iast (hx : p.tables.exec = Jvm.exec) (hb : c.code = cc) (hK : va_K D cl tys s) (hP : va_P D cl ws H) (hD : va_D A0 ws) (hS : va_S A0 H0 H locs) (q0 t0 : Nat) {cA : ClassId} {n : Nat} {f : Int → Int} (ha : ws[q0]? = some (a, .inl (cA, n, .inl (ai f)))) (ht : tys[t0]? = some (cA, .int)) {V x : Int} {ws' : va_W} (hn : n ≤ 2147483647) (h0 : 0 ≤ V) (h1 : V < n) (hw : ws.set q0 (a, .inl (cA, n, .inl (ai (pu f V x)))) = ws') (hd : decode cc pc = .ok (.iastore, 1))
    (k : ∀ (H1 : Heap) (locs1 : List Loc), va_P D cl ws' H1 → va_D A0 ws' → va_S A0 H0 H1 locs1 → W p l e R s m args below meth c H1 locs1 cells slots Q (F0 m (pc + 1) ls rest)) : W p l e R s m args below meth c H locs cells slots Q (F0 m pc ls (.int (iI x) :: .int (iI V) :: .ref a :: rest)) := by
  subst hw
  refine va_iast hx hb hK hP hD hS q0 t0 ha ht (iI_in hn h0 h1) hd (fun H1 locs1 q1 q2 q3 => ?_)
  rw [iI_clamp h0 (by omega), ai_up f x h0] at q1 q2
  exact k H1 locs1 q1 q2 q3
theorem pr_last (hx : p.tables.exec = Jvm.exec) (hb : c.code = cc) (hK : va_K D cl tys s) (hP : va_P D cl ws H) (hD : va_D A0 ws) (hS : va_S A0 H0 H locs) (q0 t0 : Nat) {cA : ClassId} {n : Nat} {f : Int → Int} (ha : ws[q0]? = some (a, .inl (cA, n, .inr (.inl (al f))))) (ht : tys[t0]? = some (cA, .long)) {V x : Int} {ws' : va_W} (hn : n ≤ 2147483647) (h0 : 0 ≤ V) (h1 : V < n) (hw : ws.set q0 (a, .inl (cA, n, .inr (.inl (al (pu f V x))))) = ws') (hd : decode cc pc = .ok (.lastore, 1))
    (k : ∀ (H1 : Heap) (locs1 : List Loc), va_P D cl ws' H1 → va_D A0 ws' → va_S A0 H0 H1 locs1 → W p l e R s m args below meth c H1 locs1 cells slots Q (F0 m (pc + 1) ls rest)) : W p l e R s m args below meth c H locs cells slots Q (F0 m pc ls (.long (lI x) :: .int (iI V) :: .ref a :: rest)) := by
  subst hw
  refine va_last hx hb hK hP hD hS q0 t0 ha ht (iI_in hn h0 h1) hd (fun H1 locs1 q1 q2 q3 => ?_)
  rw [iI_clamp h0 (by omega), al_up f x h0] at q1 q2
  exact k H1 locs1 q1 q2 q3
end PR
