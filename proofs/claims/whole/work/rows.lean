section
-- ===== PART A: goes FIRST, ahead of the names: the tables' words, and 'selects' of the private methods out of them =====
/-- a private method of a class that the tables say can be made, by its rows of tables_1 -/
def lw_okq (q : MethodName × Nat) : Prop := (q.1.cls ≠ "java/lang/invoke/MethodHandle" ∧ q.1.cls ≠ "java/lang/invoke/VarHandle") ∧ Cond.instantiable q.1.cls q.2 ∈ tables_1 ∧ Cond.privateMethod q.1 ∈ tables_1 ∧ Cond.instanceMethod q.1 ∈ tables_1
theorem lw_p0 : lw_okq (⟨"java/lang/Throwable", "fillInStackTrace", "(I)Ljava/lang/Throwable;"⟩, 6) := ⟨⟨by decide +kernel, by decide +kernel⟩, List.mem_of_getElem? (i := 240) (by decide +kernel), List.mem_of_getElem? (i := 238) (by decide +kernel), List.mem_of_getElem? (i := 239) (by decide +kernel)⟩
theorem lw_p1 : lw_okq (⟨"PressureNets", "isPlace", "(I)Z"⟩, 6) := ⟨⟨by decide +kernel, by decide +kernel⟩, List.mem_of_getElem? (i := 16) (by decide +kernel), List.mem_of_getElem? (i := 318) (by decide +kernel), List.mem_of_getElem? (i := 319) (by decide +kernel)⟩
theorem lw_p2 : lw_okq (⟨"PressureNets", "isZone", "(I)Z"⟩, 6) := ⟨⟨by decide +kernel, by decide +kernel⟩, List.mem_of_getElem? (i := 16) (by decide +kernel), List.mem_of_getElem? (i := 322) (by decide +kernel), List.mem_of_getElem? (i := 323) (by decide +kernel)⟩
theorem lw_p3 : lw_okq (⟨"PressureNets$Net", "measureStack", "(I)V"⟩, 17) := ⟨⟨by decide +kernel, by decide +kernel⟩, List.mem_of_getElem? (i := 24) (by decide +kernel), List.mem_of_getElem? (i := 330) (by decide +kernel), List.mem_of_getElem? (i := 331) (by decide +kernel)⟩
theorem lw_p4 : lw_okq (⟨"PressureNets", "canJoin", "(II)Z"⟩, 6) := ⟨⟨by decide +kernel, by decide +kernel⟩, List.mem_of_getElem? (i := 16) (by decide +kernel), List.mem_of_getElem? (i := 341) (by decide +kernel), List.mem_of_getElem? (i := 342) (by decide +kernel)⟩
theorem lw_p5 : lw_okq (⟨"PressureNets$Net", "join", "(III)V"⟩, 17) := ⟨⟨by decide +kernel, by decide +kernel⟩, List.mem_of_getElem? (i := 24) (by decide +kernel), List.mem_of_getElem? (i := 349) (by decide +kernel), List.mem_of_getElem? (i := 350) (by decide +kernel)⟩
theorem lw_p6 : lw_okq (⟨"PressureNets$Net", "noteDuct", "(II)V"⟩, 17) := ⟨⟨by decide +kernel, by decide +kernel⟩, List.mem_of_getElem? (i := 24) (by decide +kernel), List.mem_of_getElem? (i := 353) (by decide +kernel), List.mem_of_getElem? (i := 354) (by decide +kernel)⟩
theorem lw_p7 : lw_okq (⟨"PressureNets", "isLeak", "(I)Z"⟩, 6) := ⟨⟨by decide +kernel, by decide +kernel⟩, List.mem_of_getElem? (i := 16) (by decide +kernel), List.mem_of_getElem? (i := 364) (by decide +kernel), List.mem_of_getElem? (i := 365) (by decide +kernel)⟩
theorem lw_p8 : lw_okq (⟨"PressureNets$Settler", "begin", "(LPressureNets$State;)V"⟩, 2) := ⟨⟨by decide +kernel, by decide +kernel⟩, List.mem_of_getElem? (i := 96) (by decide +kernel), List.mem_of_getElem? (i := 393) (by decide +kernel), List.mem_of_getElem? (i := 394) (by decide +kernel)⟩
theorem lw_p9 : lw_okq (⟨"PressureNets$Settler", "isPastHighest", "(LPressureNets$State;)Z"⟩, 2) := ⟨⟨by decide +kernel, by decide +kernel⟩, List.mem_of_getElem? (i := 96) (by decide +kernel), List.mem_of_getElem? (i := 404) (by decide +kernel), List.mem_of_getElem? (i := 405) (by decide +kernel)⟩
theorem lw_p10 : lw_okq (⟨"PressureNets$Settler", "doBout", "(LPressureNets$State;I)I"⟩, 2) := ⟨⟨by decide +kernel, by decide +kernel⟩, List.mem_of_getElem? (i := 96) (by decide +kernel), List.mem_of_getElem? (i := 408) (by decide +kernel), List.mem_of_getElem? (i := 409) (by decide +kernel)⟩
theorem lw_p11 : lw_okq (⟨"PressureNets$Settler", "raises", "(LPressureNets$State;I)Z"⟩, 2) := ⟨⟨by decide +kernel, by decide +kernel⟩, List.mem_of_getElem? (i := 96) (by decide +kernel), List.mem_of_getElem? (i := 412) (by decide +kernel), List.mem_of_getElem? (i := 413) (by decide +kernel)⟩
theorem lw_p12 : lw_okq (⟨"PressureNets$Settler", "lifts", "(LPressureNets$State;II)Z"⟩, 2) := ⟨⟨by decide +kernel, by decide +kernel⟩, List.mem_of_getElem? (i := 96) (by decide +kernel), List.mem_of_getElem? (i := 440) (by decide +kernel), List.mem_of_getElem? (i := 441) (by decide +kernel)⟩
theorem lw_p13 : lw_okq (⟨"PressureNets$Stuff", "giverOf", "(I)I"⟩, 6) := ⟨⟨by decide +kernel, by decide +kernel⟩, List.mem_of_getElem? (i := 109) (by decide +kernel), List.mem_of_getElem? (i := 521) (by decide +kernel), List.mem_of_getElem? (i := 522) (by decide +kernel)⟩
theorem lw_p14 : lw_okq (⟨"PressureNets$Stuff", "carry", "(I)V"⟩, 6) := ⟨⟨by decide +kernel, by decide +kernel⟩, List.mem_of_getElem? (i := 109) (by decide +kernel), List.mem_of_getElem? (i := 537) (by decide +kernel), List.mem_of_getElem? (i := 538) (by decide +kernel)⟩
theorem lw_p15 : lw_okq (⟨"PressureNets$Stuff", "takerOf", "(I)I"⟩, 6) := ⟨⟨by decide +kernel, by decide +kernel⟩, List.mem_of_getElem? (i := 109) (by decide +kernel), List.mem_of_getElem? (i := 541) (by decide +kernel), List.mem_of_getElem? (i := 542) (by decide +kernel)⟩
def lw_privs_1 : List (MethodName × Nat) := [(⟨"java/lang/Throwable", "fillInStackTrace", "(I)Ljava/lang/Throwable;"⟩, 6), (⟨"PressureNets", "isPlace", "(I)Z"⟩, 6), (⟨"PressureNets", "isZone", "(I)Z"⟩, 6), (⟨"PressureNets$Net", "measureStack", "(I)V"⟩, 17), (⟨"PressureNets", "canJoin", "(II)Z"⟩, 6), (⟨"PressureNets$Net", "join", "(III)V"⟩, 17), (⟨"PressureNets$Net", "noteDuct", "(II)V"⟩, 17), (⟨"PressureNets", "isLeak", "(I)Z"⟩, 6), (⟨"PressureNets$Settler", "begin", "(LPressureNets$State;)V"⟩, 2), (⟨"PressureNets$Settler", "isPastHighest", "(LPressureNets$State;)Z"⟩, 2), (⟨"PressureNets$Settler", "doBout", "(LPressureNets$State;I)I"⟩, 2), (⟨"PressureNets$Settler", "raises", "(LPressureNets$State;I)Z"⟩, 2), (⟨"PressureNets$Settler", "lifts", "(LPressureNets$State;II)Z"⟩, 2), (⟨"PressureNets$Stuff", "giverOf", "(I)I"⟩, 6), (⟨"PressureNets$Stuff", "carry", "(I)V"⟩, 6), (⟨"PressureNets$Stuff", "takerOf", "(I)I"⟩, 6)]
theorem lw_r1 : ∀ q ∈ lw_privs_1, lw_okq q := List.forall_mem_cons.mpr ⟨lw_p0, List.forall_mem_cons.mpr ⟨lw_p1, List.forall_mem_cons.mpr ⟨lw_p2, List.forall_mem_cons.mpr ⟨lw_p3, List.forall_mem_cons.mpr ⟨lw_p4, List.forall_mem_cons.mpr ⟨lw_p5, List.forall_mem_cons.mpr ⟨lw_p6, List.forall_mem_cons.mpr ⟨lw_p7, List.forall_mem_cons.mpr ⟨lw_p8, List.forall_mem_cons.mpr ⟨lw_p9, List.forall_mem_cons.mpr ⟨lw_p10, List.forall_mem_cons.mpr ⟨lw_p11, List.forall_mem_cons.mpr ⟨lw_p12, List.forall_mem_cons.mpr ⟨lw_p13, List.forall_mem_cons.mpr ⟨lw_p14, List.forall_mem_cons.mpr ⟨lw_p15, fun _ h => absurd h List.not_mem_nil⟩⟩⟩⟩⟩⟩⟩⟩⟩⟩⟩⟩⟩⟩⟩⟩
theorem lw_p16 : lw_okq (⟨"PressureNetsModel", "isPlace", "(I)Z"⟩, 27) := ⟨⟨by decide +kernel, by decide +kernel⟩, List.mem_of_getElem? (i := 553) (by decide +kernel), List.mem_of_getElem? (i := 666) (by decide +kernel), List.mem_of_getElem? (i := 667) (by decide +kernel)⟩
theorem lw_p17 : lw_okq (⟨"PressureNetsModel", "warmthOf", "(I)I"⟩, 27) := ⟨⟨by decide +kernel, by decide +kernel⟩, List.mem_of_getElem? (i := 553) (by decide +kernel), List.mem_of_getElem? (i := 670) (by decide +kernel), List.mem_of_getElem? (i := 671) (by decide +kernel)⟩
theorem lw_p18 : lw_okq (⟨"PressureNetsModel", "isPair", "(II)Z"⟩, 27) := ⟨⟨by decide +kernel, by decide +kernel⟩, List.mem_of_getElem? (i := 553) (by decide +kernel), List.mem_of_getElem? (i := 678) (by decide +kernel), List.mem_of_getElem? (i := 679) (by decide +kernel)⟩
theorem lw_p19 : lw_okq (⟨"PressureNetsModel", "makeNow", "()Z"⟩, 27) := ⟨⟨by decide +kernel, by decide +kernel⟩, List.mem_of_getElem? (i := 553) (by decide +kernel), List.mem_of_getElem? (i := 696) (by decide +kernel), List.mem_of_getElem? (i := 697) (by decide +kernel)⟩
theorem lw_p20 : lw_okq (⟨"PressureNetsModel", "shutOnes", "()I"⟩, 27) := ⟨⟨by decide +kernel, by decide +kernel⟩, List.mem_of_getElem? (i := 553) (by decide +kernel), List.mem_of_getElem? (i := 700) (by decide +kernel), List.mem_of_getElem? (i := 701) (by decide +kernel)⟩
theorem lw_p21 : lw_okq (⟨"PressureNetsModel", "make", "(I)Z"⟩, 27) := ⟨⟨by decide +kernel, by decide +kernel⟩, List.mem_of_getElem? (i := 553) (by decide +kernel), List.mem_of_getElem? (i := 704) (by decide +kernel), List.mem_of_getElem? (i := 705) (by decide +kernel)⟩
theorem lw_p22 : lw_okq (⟨"PressureNetsModel", "gainOf", "(I)J"⟩, 27) := ⟨⟨by decide +kernel, by decide +kernel⟩, List.mem_of_getElem? (i := 553) (by decide +kernel), List.mem_of_getElem? (i := 708) (by decide +kernel), List.mem_of_getElem? (i := 709) (by decide +kernel)⟩
theorem lw_p23 : lw_okq (⟨"PressureNetsModel", "flowOf", "(I)J"⟩, 27) := ⟨⟨by decide +kernel, by decide +kernel⟩, List.mem_of_getElem? (i := 553) (by decide +kernel), List.mem_of_getElem? (i := 712) (by decide +kernel), List.mem_of_getElem? (i := 713) (by decide +kernel)⟩
theorem lw_p24 : lw_okq (⟨"PressureNetsModel", "driveOf", "(I)I"⟩, 27) := ⟨⟨by decide +kernel, by decide +kernel⟩, List.mem_of_getElem? (i := 553) (by decide +kernel), List.mem_of_getElem? (i := 716) (by decide +kernel), List.mem_of_getElem? (i := 717) (by decide +kernel)⟩
theorem lw_p25 : lw_okq (⟨"PressureNetsModel", "pressureOf", "(I)I"⟩, 27) := ⟨⟨by decide +kernel, by decide +kernel⟩, List.mem_of_getElem? (i := 553) (by decide +kernel), List.mem_of_getElem? (i := 720) (by decide +kernel), List.mem_of_getElem? (i := 721) (by decide +kernel)⟩
theorem lw_p26 : lw_okq (⟨"PressureNetsModel", "blown", "(I)J"⟩, 27) := ⟨⟨by decide +kernel, by decide +kernel⟩, List.mem_of_getElem? (i := 553) (by decide +kernel), List.mem_of_getElem? (i := 729) (by decide +kernel), List.mem_of_getElem? (i := 730) (by decide +kernel)⟩
theorem lw_p27 : lw_okq (⟨"PressureNetsModel", "rise", "(I)Z"⟩, 27) := ⟨⟨by decide +kernel, by decide +kernel⟩, List.mem_of_getElem? (i := 553) (by decide +kernel), List.mem_of_getElem? (i := 733) (by decide +kernel), List.mem_of_getElem? (i := 734) (by decide +kernel)⟩
theorem lw_p28 : lw_okq (⟨"PressureNetsModel", "isZone", "(I)Z"⟩, 27) := ⟨⟨by decide +kernel, by decide +kernel⟩, List.mem_of_getElem? (i := 553) (by decide +kernel), List.mem_of_getElem? (i := 750) (by decide +kernel), List.mem_of_getElem? (i := 751) (by decide +kernel)⟩
theorem lw_p29 : lw_okq (⟨"PressureNetsModel", "step", "()Z"⟩, 27) := ⟨⟨by decide +kernel, by decide +kernel⟩, List.mem_of_getElem? (i := 553) (by decide +kernel), List.mem_of_getElem? (i := 779) (by decide +kernel), List.mem_of_getElem? (i := 780) (by decide +kernel)⟩
theorem lw_p30 : lw_okq (⟨"PressureNetsModel", "outBy", "(II)J"⟩, 27) := ⟨⟨by decide +kernel, by decide +kernel⟩, List.mem_of_getElem? (i := 553) (by decide +kernel), List.mem_of_getElem? (i := 783) (by decide +kernel), List.mem_of_getElem? (i := 784) (by decide +kernel)⟩
theorem lw_p31 : lw_okq (⟨"PressureNetsModel", "other", "(II)I"⟩, 27) := ⟨⟨by decide +kernel, by decide +kernel⟩, List.mem_of_getElem? (i := 553) (by decide +kernel), List.mem_of_getElem? (i := 787) (by decide +kernel), List.mem_of_getElem? (i := 788) (by decide +kernel)⟩
def lw_privs_2 : List (MethodName × Nat) := [(⟨"PressureNetsModel", "isPlace", "(I)Z"⟩, 27), (⟨"PressureNetsModel", "warmthOf", "(I)I"⟩, 27), (⟨"PressureNetsModel", "isPair", "(II)Z"⟩, 27), (⟨"PressureNetsModel", "makeNow", "()Z"⟩, 27), (⟨"PressureNetsModel", "shutOnes", "()I"⟩, 27), (⟨"PressureNetsModel", "make", "(I)Z"⟩, 27), (⟨"PressureNetsModel", "gainOf", "(I)J"⟩, 27), (⟨"PressureNetsModel", "flowOf", "(I)J"⟩, 27), (⟨"PressureNetsModel", "driveOf", "(I)I"⟩, 27), (⟨"PressureNetsModel", "pressureOf", "(I)I"⟩, 27), (⟨"PressureNetsModel", "blown", "(I)J"⟩, 27), (⟨"PressureNetsModel", "rise", "(I)Z"⟩, 27), (⟨"PressureNetsModel", "isZone", "(I)Z"⟩, 27), (⟨"PressureNetsModel", "step", "()Z"⟩, 27), (⟨"PressureNetsModel", "outBy", "(II)J"⟩, 27), (⟨"PressureNetsModel", "other", "(II)I"⟩, 27)]
theorem lw_r2 : ∀ q ∈ lw_privs_2, lw_okq q := List.forall_mem_cons.mpr ⟨lw_p16, List.forall_mem_cons.mpr ⟨lw_p17, List.forall_mem_cons.mpr ⟨lw_p18, List.forall_mem_cons.mpr ⟨lw_p19, List.forall_mem_cons.mpr ⟨lw_p20, List.forall_mem_cons.mpr ⟨lw_p21, List.forall_mem_cons.mpr ⟨lw_p22, List.forall_mem_cons.mpr ⟨lw_p23, List.forall_mem_cons.mpr ⟨lw_p24, List.forall_mem_cons.mpr ⟨lw_p25, List.forall_mem_cons.mpr ⟨lw_p26, List.forall_mem_cons.mpr ⟨lw_p27, List.forall_mem_cons.mpr ⟨lw_p28, List.forall_mem_cons.mpr ⟨lw_p29, List.forall_mem_cons.mpr ⟨lw_p30, List.forall_mem_cons.mpr ⟨lw_p31, fun _ h => absurd h List.not_mem_nil⟩⟩⟩⟩⟩⟩⟩⟩⟩⟩⟩⟩⟩⟩⟩⟩
def lw_privs : List (MethodName × Nat) := lw_privs_1 ++ (lw_privs_2)
def lw_tbl : List Cond := k2_sels lw_privs ++ tables_1
theorem lw_privs_ok : ∀ q ∈ lw_privs, lw_okq q := by
  show ∀ q ∈ lw_privs_1 ++ (lw_privs_2), lw_okq q
  exact List.forall_mem_append.mpr ⟨lw_r1, lw_r2⟩
/-! ===== BEGIN words of one list among another's, by their places ===== -/
theorem goodIn_r {big : List Cond} (ws : List Cond) (ps : List Nat) (hp : ws = ps.filterMap (fun i => big[i]?)) (h : ws.all goodWord = true) : GoodIn big ws := by
  intro w hw
  have h1 := List.all_eq_true.mp h w hw
  rw [hp] at hw
  obtain ⟨i, -, hi⟩ := List.mem_filterMap.mp hw
  have hm : w ∈ big := by first | exact List.mem_of_getElem? hi | exact List.getElem?_mem hi
  exact ⟨hm, good_of_word h1⟩
theorem goodIn_app {big a b : List Cond} (ha : GoodIn big a) (hb : GoodIn big b) : GoodIn big (a ++ b) := fun w h => (List.mem_append.mp h).elim (ha w) (hb w)
theorem goodIn_ca {big a b : List Cond} {c : Cond} (ha : GoodIn big (c :: a)) (hb : GoodIn big b) : GoodIn big (c :: (a ++ b)) := fun w h => (List.mem_cons.mp h).elim (fun e => ha w (List.mem_cons.mpr (Or.inl e))) (fun h => (List.mem_append.mp h).elim (fun h => ha w (List.mem_cons.mpr (Or.inr h))) (hb w))
theorem goodIn_sub {big ws : List Cond} (hm : ∀ w ∈ ws, w ∈ big) (h : ws.all goodWord = true) : GoodIn big ws := fun w hw => ⟨hm w hw, good_of_word (List.all_eq_true.mp h w hw)⟩
/-! ===== END ===== -/

/-! ===== BEGIN new T[n][m]: the outer array a place, the inner ones among the pooled ===== -/
/-- f, but v at every address of l -/
def vr_up {α : Type} (f : Nat → α) (l : List Nat) (v : α) : Nat → α := fun a => if a ∈ l then v else f a
theorem vr_up_in {α : Type} {f : Nat → α} {l : List Nat} {v : α} {a : Nat} (h : a ∈ l) : vr_up f l v a = v := if_pos h
theorem vr_up_ne {α : Type} {f : Nat → α} {l : List Nat} {v : α} {a : Nat} (h : a ∉ l) : vr_up f l v a = f a := if_neg h
theorem vr_rows {L l : List Nat} {f : Nat → va_E} {e : va_E} (h : ∀ a, a ∈ l → a ∉ L) : va_pl L f ++ l.map (fun a => (a, e)) = va_pl (L ++ l) (vr_up f l e) := by
  unfold va_pl
  rw [List.map_append]
  congr 1
  · apply List.map_congr_left
    intro a ha
    rw [vr_up_ne (fun q => h a q ha)]
  · apply List.map_congr_left
    intro a ha
    rw [vr_up_in ha]
theorem vr_lay {X rows : va_W} {x : Nat × va_E} {pl : va_W} {D : va_G} {cl : List vw_C} {H : Heap} (hP : va_P D cl (((X ++ pl) ++ [x]) ++ rows) H) : va_P D cl ((X ++ [x]) ++ (pl ++ rows)) H := by
  rw [List.append_assoc (X ++ pl)] at hP
  have h := va_P.swap hP
  rw [← List.append_assoc X] at h
  have h2 := va_P.swap h
  rw [List.append_assoc (X ++ [x])] at h2
  exact h2
theorem vr_layD {X rows : va_W} {x : Nat × va_E} {pl : va_W} {A : Nat → Prop} (hD : va_D A (((X ++ pl) ++ [x]) ++ rows)) : va_D A ((X ++ [x]) ++ (pl ++ rows)) := by
  rw [List.append_assoc (X ++ pl)] at hD
  have h := va_D.swap hD
  rw [← List.append_assoc X] at h
  have h2 := va_D.swap h
  rw [List.append_assoc (X ++ [x])] at h2
  exact h2
theorem vr_outer (c : ClassId) (N h0 : Nat) : ∀ i : Nat, Jvm.Free.Multi.outerC c N h0 i = arrV c N (fun j => va_rf (if j < i then some (h0 + 1 + j) else none))
  | 0 => by
    show ({ cls := c, slots := Array.replicate N .null, vm := .none } : Cell) = _
    rw [arrV_new]
    refine congrArg (arrV c N) (funext fun j => ?_)
    simp [va_rf]
  | i + 1 => by
    show (Jvm.Free.Multi.outerC c N h0 i).setSlot i (.ref (h0 + 1 + i)) = _
    rw [vr_outer c N h0 i, arrV_store]
    refine congrArg (arrV c N) (funext fun j => ?_)
    by_cases e : j = i
    · subst e
      simp [updV, va_rf]
    · by_cases h : j < i
      · simp [updV, e, h, Nat.lt_succ_of_lt h]
      · simp [updV, e, h, show ¬ j < i + 1 by omega]
section VGM
variable {p : Program} {l : Launch} {e : Env} {R : Room} {s : State} {m : MethodId} {args : Array Value} {below : List Frame} {meth : Method} {c : Code} {H : Heap} {locs : List Loc} {cells slots : Nat} {Q : State → Prop}
variable {cc : ByteArray} {pc : Nat} {ls : Array Slot} {rest : List Value} {D : va_G} {cl : List vw_C} {A : Nat → Prop} {a : Nat} {tys : List (ClassId × FieldType)} {ws : va_W} {H0 : Heap}
theorem va_mna {X : va_W} {L : List Nat} {f : Nat → va_E} {cc : ByteArray} (hexec : p.tables.exec = Jvm.exec) (hb : c.code = cc) {own : String} {index : Nat} {ty : FieldType} {cy : ClassId} (hown : s.vm.findClass own = some m.cls) (hclink : (Cond.classLink own index ("[" ++ (FieldType.array ty).toString)).before args s = true) (hover : (Cond.arrayOver (.array ty)).before args s = true) (harr : (Cond.arrayClass ty).before args s = true) (hcy : s.vm.findClass (FieldType.array ty).toString = some cy)
    (hK : va_K D cl tys s) (hP : va_P D cl (X ++ va_pl L f) H) (hD : va_D A (X ++ va_pl L f)) (hS : va_S A H0 H locs) (hA : ∀ q, H0.size ≤ q → A q) {n k : Int32} {N' K' : Nat} {z : vp_A} (hn : ¬ n < 0) (hk : ¬ k < 0) (hN : n.toNatClampNeg = N') (hM : k.toNatClampNeg = K')
    (hb1 : N' * 4 ≤ 536870912) (hb2 : K' * componentBytes ty ≤ 536870912) (hb3 : K' ≤ 536870912) (hdf : fits ty (defaultValue ty) = true) (hdd : (defaultValue ty).isDefault = true) (hcells : cells + (1 + N') ≤ R.cells) (hslots : slots + (N' + N' * K') ≤ R.slots) (hz : ∀ c : ClassId, Jvm.Free.Multi.innerC c K' (defaultValue ty) = vp_cell c z) (hdg : decode cc pc = .ok (.multianewarray index 2, 4))
    (kk : ∀ (q : Nat) (r : Nat → Nat) (cA : ClassId) (H1 : Heap), (∀ i j : Nat, i < N' → j < N' → r i = r j → i = j) → (∀ i : Nat, i < N' → r i ∉ L) → va_K D cl (tys ++ [(cA, .array ty)]) s →
      va_P D cl ((X ++ [(q, .inl (cA, N', .inr (.inr (.inr (.inr (fun i => if i < N' then some (r i) else none))))))]) ++ va_pl (L ++ (List.range N').map r) (vr_up f ((List.range N').map r) (.inl (cy, z)))) H1 → va_D A ((X ++ [(q, .inl (cA, N', .inr (.inr (.inr (.inr (fun i => if i < N' then some (r i) else none))))))]) ++ va_pl (L ++ (List.range N').map r) (vr_up f ((List.range N').map r) (.inl (cy, z)))) → va_S A H0 H1 locs →
      W p l e R s m args below meth c H1 locs (cells + 1 + N') (slots + N' + N' * K') Q (F0 m (pc + 4) ls (.ref q :: rest))) : W p l e R s m args below meth c H locs cells slots Q (F0 m pc ls (.int k :: .int n :: rest)) := by
  subst hN
  subst hM
  intro T hT Xs
  obtain ⟨vm₁, cA, comp, -, fA, fC, hO, -, X', step⟩ := Xs.multianewarray2F hexec hown hclink hover harr (g := F0 m pc ls (.int k :: .int n :: rest)) rfl (by rw [hb]; exact hdg) rfl hn hk hb1 hb2 hb3 hdf hdd hcells hslots
  have ec : some cy = some comp := hcy.symm.trans fC
  cases ec
  generalize hF : Jvm.Free.Multi.fill (T.setVm vm₁) cA cy n.toNatClampNeg k.toNatClampNeg (defaultValue ty) n.toNatClampNeg = F at X' step
  have hTh : (T.setVm vm₁).heap = H := hT
  obtain ⟨f1, f2, -, -⟩ := Jvm.Free.Multi.fill_facts (T.setVm vm₁) cA cy n.toNatClampNeg k.toNatClampNeg (defaultValue ty) n.toNatClampNeg
  rw [hF, hTh] at f1 f2
  have hold : ∀ x : Nat, x < H.size → F.heap[x]? = H[x]? := fun x hx => by
    have := Jvm.Free.Multi.fill_old (T.setVm vm₁) cA cy n.toNatClampNeg k.toNatClampNeg (defaultValue ty) (a := x) (by rw [hTh]; exact hx) n.toNatClampNeg
    rw [hF, hTh] at this
    exact this
  have hrow : ∀ j : Nat, j < n.toNatClampNeg → F.heap[H.size + 1 + j]? = some (vp_cell cy z) := fun j hj => by
    have := Jvm.Free.Multi.fill_inner (T.setVm vm₁) cA cy n.toNatClampNeg k.toNatClampNeg (defaultValue ty) n.toNatClampNeg j hj
    rw [hF, hTh, hz] at this
    exact this
  have hout : Jvm.Free.Multi.outerC cA n.toNatClampNeg H.size n.toNatClampNeg = vp_cell cA (n.toNatClampNeg, .inr (.inr (.inr (.inr (fun i => if i < n.toNatClampNeg then some (H.size + 1 + i) else none))))) := by
    rw [vp_cell_q]
    exact vr_outer cA n.toNatClampNeg H.size n.toNatClampNeg
  rw [hout] at f2
  have hlt : ∀ a, a ∈ L → a < H.size := fun a ha => by
    obtain ⟨k9, hk9⟩ := va_pl_get (X := X) (f := f) ha
    exact (hP k9 _ hk9).lt
  have hnl : ∀ i : Nat, i < n.toNatClampNeg → H.size + 1 + i ∉ L := fun i _ h => by
    have := hlt _ h
    omega
  have hnm : ∀ a, a ∈ (List.range n.toNatClampNeg).map (fun i => H.size + 1 + i) → a ∉ L := fun a ha h => by
    obtain ⟨i, -, rfl⟩ := List.mem_map.mp ha
    have := hlt _ h
    omega
  have hP0 : va_P D cl (X ++ va_pl L f) F.heap := hP.kept (fun k9 x hx => hold x.1 ((hP k9 x hx).lt))
  have hP1 : va_P D cl ((X ++ va_pl L f) ++ [(H.size, .inl (cA, n.toNatClampNeg, .inr (.inr (.inr (.inr (fun i => if i < n.toNatClampNeg then some (H.size + 1 + i) else none))))))]) F.heap := hP0.app (fun k9 x hx => by
    have h0 : k9 < 1 := (List.getElem?_eq_some_iff.mp hx).1
    rw [show k9 = 0 by omega] at hx
    cases hx
    exact f2)
  have hP2 : va_P D cl (((X ++ va_pl L f) ++ [(H.size, .inl (cA, n.toNatClampNeg, .inr (.inr (.inr (.inr (fun i => if i < n.toNatClampNeg then some (H.size + 1 + i) else none))))))]) ++ ((List.range n.toNatClampNeg).map (fun i => H.size + 1 + i)).map (fun a => (a, .inl (cy, z)))) F.heap := hP1.app (fun k9 x hx => by
    obtain ⟨a, ha, rfl⟩ := List.mem_map.mp (List.mem_of_getElem? hx)
    obtain ⟨i, hi, rfl⟩ := List.mem_map.mp ha
    exact hrow i (List.mem_range.mp hi))
  have hD2 : va_D A (((X ++ va_pl L f) ++ [(H.size, .inl (cA, n.toNatClampNeg, .inr (.inr (.inr (.inr (fun i => if i < n.toNatClampNeg then some (H.size + 1 + i) else none))))))]) ++ ((List.range n.toNatClampNeg).map (fun i => H.size + 1 + i)).map (fun a => (a, .inl (cy, z)))) := by
    have hD1 := hD.push (e := .inl (cA, n.toNatClampNeg, .inr (.inr (.inr (.inr (fun i => if i < n.toNatClampNeg then some (H.size + 1 + i) else none)))))) hP rfl (hA _ hS.1)
    generalize hW1 : (X ++ va_pl L f) ++ [(H.size, .inl (cA, n.toNatClampNeg, .inr (.inr (.inr (.inr (fun i => if i < n.toNatClampNeg then some (H.size + 1 + i) else none))))))] = W1 at hD1 hP1 ⊢
    have hle : ∀ (k9 : Nat) (x : Nat × va_E), W1[k9]? = some x → x.1 ≤ H.size := fun k9 x hx => by
      rw [← hW1] at hx
      by_cases hl : k9 < (X ++ va_pl L f).length
      · rw [List.getElem?_append_left hl] at hx
        exact Nat.le_of_lt ((hP k9 x hx).lt)
      · rw [List.getElem?_append_right (by omega)] at hx
        have h0 : k9 - (X ++ va_pl L f).length < 1 := (List.getElem?_eq_some_iff.mp hx).1
        rw [show k9 - (X ++ va_pl L f).length = 0 by omega] at hx
        cases hx
        exact Nat.le_refl _
    have hr : ∀ (k9 : Nat) (x : Nat × va_E), (((List.range n.toNatClampNeg).map (fun i => H.size + 1 + i)).map (fun a => ((a, .inl (cy, z)) : Nat × va_E)))[k9]? = some x → x.1 = H.size + 1 + k9 := fun k9 x hx => by
      rw [List.getElem?_map, List.getElem?_map] at hx
      by_cases h9 : k9 < n.toNatClampNeg
      · rw [List.getElem?_range h9] at hx
        cases hx
        rfl
      · have hn0 : (List.range n.toNatClampNeg)[k9]? = none := List.getElem?_eq_none (by rw [List.length_range]; omega)
        rw [hn0] at hx
        cases hx
    refine ⟨fun i j x y hi hj hxy => ?_, fun k9 x hx => ?_⟩
    · by_cases h1 : i < W1.length <;> by_cases h2 : j < W1.length
      · rw [List.getElem?_append_left h1] at hi
        rw [List.getElem?_append_left h2] at hj
        exact hD1.1 i j x y hi hj hxy
      · rw [List.getElem?_append_left h1] at hi
        rw [List.getElem?_append_right (by omega)] at hj
        have := hle _ _ hi
        have := hr _ _ hj
        omega
      · rw [List.getElem?_append_right (by omega)] at hi
        rw [List.getElem?_append_left h2] at hj
        have := hle _ _ hj
        have := hr _ _ hi
        omega
      · rw [List.getElem?_append_right (by omega)] at hi hj
        have := hr _ _ hi
        have := hr _ _ hj
        omega
    · by_cases h1 : k9 < W1.length
      · rw [List.getElem?_append_left h1] at hx
        exact hD1.2 k9 x hx
      · rw [List.getElem?_append_right (by omega)] at hx
        have := hr _ _ hx
        exact hA _ (by have := hS.1; omega)
  have hAr : ArrOfT s cA (.array ty) := fun N9 z9 => by
    obtain ⟨-, k9, hk9, cm9, hkk9⟩ := (hO 0 0 0).1
    exact ⟨(fun q hq => by cases hq), k9, hk9, cm9, hkk9⟩
  have hK2 : va_K D cl (tys ++ [(cA, .array ty)]) s := ⟨hK.1, fun k9 x hx => by
    by_cases hl : k9 < tys.length
    · rw [List.getElem?_append_left hl] at hx
      exact hK.2 k9 x hx
    · rw [List.getElem?_append_right (by omega)] at hx
      have h0 : k9 - tys.length < 1 := (List.getElem?_eq_some_iff.mp hx).1
      rw [show k9 - tys.length = 0 by omega] at hx
      cases hx
      exact ⟨hAr, fA⟩⟩
  obtain ⟨t, a1, b1⟩ := kk H.size (fun i => H.size + 1 + i) cA F.heap (fun i j _ _ h => by have h9 : H.size + 1 + i = H.size + 1 + j := h; omega) hnl hK2 (by rw [← vr_rows hnm]; exact vr_lay hP2) (by rw [← vr_rows hnm]; exact vr_layD hD2) ⟨by rw [f1]; have := hS.1; omega, fun x h1 h2 => (hold x (Nat.lt_of_lt_of_le h1 hS.1)).trans (hS.2.1 x h1 h2), hS.2.2⟩ F rfl X'
  refine ⟨t, step t ?_, b1⟩
  have e : T.heap.size = H.size := by rw [hT]
  rw [e]
  exact a1
end VGM
/-! ===== END ===== -/

/-! ===== BEGIN exceptions that leave a method, and their catching by the caller (launches without stack traces) ===== -/
section VXA
/-! The laws vx_back, vx_callV, vx_callS, vx_callSW, vx_throw0, vx_throwS follow proofs of the library, with one case more: JvmDerived/Free/Laws.lean (Back.of_free), Shelf42/LK1.lean (callV, callS), Shelf/KitTraced.lean (throwNew0V, throwNewS). -/

/-- where a method has thrown q: the class by its name, the cell, what was written, the world -/
def vx_T (XC : String → State → State → Prop) (st : State) (q : Addr) (t : State) (mc ms : Nat) (free : Addr → Prop) : Prop :=
  ∃ (E : String) (ce : Cell) (L : List Loc), XC E st t ∧ t.heap[q]? = some ce ∧ ce.vm = .none ∧ st.vm.findClass E = some ce.cls ∧ st.WarmedH t.vm ∧ st.sameButNew ({ t with vm := st.vm } : State) L mc ms ∧ ∀ z ∈ L, free z.base
def vx_Q (Qc : Array Value → State → Outcome → State → Prop) (XC : String → State → State → Prop) (mc ms : Nat) (free : Addr → Prop) : Array Value → State → Outcome → State → Prop := fun a st o t =>
  (Qc a st o t ∧ ∃ L, FrameEnd st o t L mc ms ∧ ∀ q ∈ L, free q.base) ∨ ∃ q, o = .threw q ∧ vx_T XC st q t mc ms free
/-- a callee that returns or throws -/
def vx_Met (l : Launch) (y : MethodName) (ws : List Cond) (rm : Room) (Pc : Array Value → State → Prop) (Qc : Array Value → State → Outcome → State → Prop) (XC : String → State → State → Prop) (mc ms : Nat) (free : Addr → Prop) : Prop :=
  MetFree l y (headSpec ws rm) Pc (fun _ _ _ _ _ => True) (vx_Q Qc XC mc ms free)
def vx_Post (XC : String → State → State → Prop) (mc ms : Nat) (free : Addr → Prop) : Pt → Array Value → Addr → Pt → Prop := fun A a q B =>
  ∃ (g : JFrame) (mk : MethodId) (t : State) (L : List Loc) (E : String) (ce : Cell), B.U.heap = t.heap ∧ B.U.vm = t.vm ∧ XC E (A.U.calling g mk a) t ∧ t.heap[q]? = some ce ∧ ce.vm = .none ∧ A.U.vm.findClass E = some ce.cls ∧ B.locs = A.locs ++ L ∧ (∀ z ∈ L, free z.base) ∧ B.cells = A.cells + mc ∧ B.slots = A.slots + ms
def vx_Back (l : Launch) (R : Room) (p : Program) (e : Env) (below : List Frame) (s : State) (sargs : Array Value) (y : MethodName) (len W9 : Nat)
    (Pre : Pt → Array Value → Prop) (Post : Pt → Array Value → Option Value → Pt → Prop) (PostX : Pt → Array Value → Addr → Pt → Prop) : Prop :=
  ∀ (m : MethodId) (meth : Method) (c : Code) (A : Pt) (g : JFrame) (ig : Instr) (mk : MethodId) (a : Array Value),
    Stand p l e R s m sargs below meth c A.U A.locs A.cells A.slots → g.method = m → g.locals.size = c.maxLocals → decode c.code g.pc = .ok (ig, len) →
    2 * g.monitorRoom + (g.stack.map fun v => v.category).sum ≤ W9 → A.U.methodNamed? y = some mk → Pre A a →
    (∃ (v : Option Value) (B : Pt), Stand p l e R s m sargs below meth c B.U B.locs B.cells B.slots ∧ Post A a v B ∧
      Steps p.tables e below (doInvoke e (A.U.setTop g) [] mk a).1 (B.U.setTop { g with pc := g.pc + len, stack := v.toList ++ g.stack })) ∨
    (∃ (q : Addr) (B : Pt), Stand p l e R s m sargs below meth c B.U B.locs B.cells B.slots ∧ PostX A a q B ∧
      Steps p.tables e below (doInvoke e (A.U.setTop g) [] mk a).1 ((B.U.setTop g).pushFrame (.throwing q)))
section Payer
variable {l : Launch} {R : Room} {p : Program} {e : Env} {below : List Frame} {s : State} {sargs : Array Value} {y : MethodName} {len W9 : Nat}
theorem vx_back {ws : List Cond} {rm : Room} {Pc : Array Value → State → Prop} {Qc : Array Value → State → Outcome → State → Prop} {XC : String → State → State → Prop} {mc ms : Nat} {free : Addr → Prop} {bytes : ByteArray} {maxL : Nat} {ret : Option FieldType}
    (hM : vx_Met l y ws rm Pc Qc XC mc ms free) (hblind : FrameBlind Pc) (hrc : rm.cells = mc) (hrs : rm.slots = ms)
    (hframes : rm.frames + 1 ≤ R.frames) (hlocals : W9 + (maxL + 11) + rm.locals ≤ R.locals)
    (hws : ∀ w ∈ ws, ∀ a' U, s.WarmedH U.vm → w.before a' U = true) (hcode : Cond.code y bytes maxL ret ∈ ws) (hinit : ∀ a' U, s.WarmedH U.vm → (Cond.initialized y.cls).before a' U = true) :
    vx_Back l R p e below s sargs y len W9 (PreOf R mc ms Pc) (PostOf Qc mc ms free) (vx_Post XC mc ms free) := by
  intro m meth c A g ig mk a X hg hsize hdg hW hn hp
  have h1 : (headSpec ws rm).pre.before a A.U = true := atoms_intro fun w hw => hws w hw _ _ X.warmed
  have h2 : (Cond.code y bytes maxL ret).before a A.U = true := hws _ hcode _ _ X.warmed
  have h3 : (Cond.initialized y.cls).before a A.U = true := hinit _ _ X.warmed
  have h4 : A.cells + (headSpec ws rm).room.cells ≤ R.cells := by rw [show (headSpec ws rm).room.cells = mc from hrc]; exact hp.1
  have h5 : A.slots + (headSpec ws rm).room.slots ≤ R.slots := by rw [show (headSpec ws rm).room.slots = ms from hrs]; exact hp.2.1
  have hPc : Pc a (A.U.calling g mk a) := hblind _ _ _ _ hp.2.2
  obtain ⟨U, Ls, c0, s0⟩ := A
  dsimp only [Pt.U, Pt.locs, Pt.cells, Pt.slots] at h1 h2 h3 h4 h5 X hn hPc ⊢
  obtain ⟨methY, cY, hmY, hcY, -, hlY, -, -, -, -⟩ := Cond.code_spec hn h2
  obtain ⟨kY, hkY, -⟩ := className_of_methodNamed hn
  have hinitY : kY.init = .initialized := Cond.initialized_spec (findClass_of_methodNamed hn) hkY h3
  have h : At U g.method c below := by rw [hg]; exact X.here
  have hlocals9 : W9 + (maxL + 11) + (headSpec ws rm).room.locals ≤ R.locals := hlocals
  have happ : (headSpec ws rm).appliesLoose y e.platform (U.calling g mk a) = true :=
    Spec.appliesLoose_calling (g := g) h hdg hn hkY hinitY
      (X.room_calling (g := g) (R' := (headSpec ws rm).room) hsize hmY hcY hframes (by rw [hlY]; omega) h4 h5) h1
  obtain ⟨mid, hmid⟩ := h.above
  have hfr : (U.setTop g).frames = (.java g :: mid) ++ below := by rw [State.frames_setTop' g h.top, hmid]; rfl
  obtain ⟨o, s₂, hsteps, -, hend, hq⟩ := Steps.callFree hM p X.admits X.cas X.clock (acts := []) hfr happ hPc trivial
  have hq' : vx_Q Qc XC mc ms free a (U.calling g mk a) o s₂ := hq
  rw [State.frames_setTop' g h.top] at hend
  obtain ⟨g₀, hg0⟩ := Option.isSome_iff_exists.mp h.top
  obtain ⟨r, hr⟩ := State.topJava?_eq_some.mp hg0
  have hr' : (({ U with heap := s₂.heap, slotsUsed := s₂.slotsUsed } : State).setVm s₂.vm).frames = .java g₀ :: r := hr
  rcases hq' with ⟨hqc, L, hfe, hL⟩ | ⟨q, rfl, E, ce, L, hx, hce, hcv, hcl, hW₂, hsm, hL⟩
  · obtain ⟨⟨v, rfl⟩, hW₂, e2, q2, q3, q4, q5, q6⟩ := id hfe
    have e3 : s₂ = ({ (U.calling g mk a).setFrames s₂.frames with heap := s₂.heap, slotsUsed := s₂.slotsUsed } : State).setVm s₂.vm := by
      have : s₂ = ({ s₂ with vm := (U.calling g mk a).vm } : State).setVm s₂.vm := rfl
      rw [e2] at this
      exact this
    obtain ⟨c₂, i₂, len₂, hc₂, hd₂, hf₂⟩ := hend
    have hW' : U.WarmedH s₂.vm := hW₂
    have hcc : c₂ = c := by
      have h1 : s₂.code? g.method = U.code? g.method := by
        rw [State.code?_eq, State.code?_eq, hW'.alike.method?]
      exact Option.some.inj (hc₂.symm.trans (h1.trans h.code))
    subst hcc
    have hlen : len₂ = len := by rw [hdg] at hd₂; cases hd₂; rfl
    subst hlen
    have hs₂ : s₂ = (({ U with heap := s₂.heap, slotsUsed := s₂.slotsUsed } : State).setVm s₂.vm).setTop { g with pc := g.pc + len₂, stack := v.toList ++ g.stack } := by
      refine e3.trans ?_
      rw [hf₂, State.calling_eq h.top, State.setFrames_setFrames, State.setTop_of_frames _ hr', hr]
      rfl
    have hsame : U.sameButNew ({ U with heap := s₂.heap, slotsUsed := s₂.slotsUsed } : State) L mc ms := by
      refine ⟨?_, q2, q3, q4, q5, q6⟩
      obtain ⟨t, ht, -⟩ := State.frames_cons hr
      show ({ U with heap := s₂.heap, slotsUsed := s₂.slotsUsed } : State) = { U.setFrames U.frames with heap := s₂.heap, slotsUsed := s₂.slotsUsed }
      rw [State.setFrames_self ht]
    subst hg
    refine Or.inl ⟨v, ⟨(({ U with heap := s₂.heap, slotsUsed := s₂.slotsUsed } : State).setVm s₂.vm), Ls ++ L, c0 + mc, s0 + ms⟩,
      ⟨X.admits, X.cas, X.clock, X.frames, X.room, X.hears, X.method, X.code, (X.here.setHeapUsed s₂.heap s₂.slotsUsed).setVm hW'.alike, X.tail, State.WarmedH.trans X.warmed hW', X.limits, X.bytes, X.same.trans (hsame.setVm s.vm)⟩,
      ⟨g, mk, s₂, L, rfl, rfl, hqc, rfl, hL, rfl, rfl⟩, ?_⟩
    show Steps p.tables e below _ ((({ U with heap := s₂.heap, slotsUsed := s₂.slotsUsed } : State).setVm s₂.vm).setTop { g with pc := g.pc + len₂, stack := v.toList ++ g.stack })
    rw [← hs₂]
    exact hsteps
  · obtain ⟨e2, q2, q3, q4, q5, q6⟩ := id hsm
    have e3 : s₂ = ({ (U.calling g mk a).setFrames s₂.frames with heap := s₂.heap, slotsUsed := s₂.slotsUsed } : State).setVm s₂.vm := by
      have : s₂ = ({ s₂ with vm := (U.calling g mk a).vm } : State).setVm s₂.vm := rfl
      rw [e2] at this
      exact this
    have hf₂ : s₂.frames = .throwing q :: .java g :: U.frames.tail := hend
    have hW' : U.WarmedH s₂.vm := hW₂
    have hs₂ : s₂ = ((({ U with heap := s₂.heap, slotsUsed := s₂.slotsUsed } : State).setVm s₂.vm).setTop g).pushFrame (.throwing q) := by
      refine e3.trans ?_
      rw [hf₂, State.calling_eq h.top, State.setFrames_setFrames, State.pushFrame, State.frames_setTop _ hr', State.setTop_of_frames _ hr', State.setFrames_setFrames, hr]
      rfl
    have hsame : U.sameButNew ({ U with heap := s₂.heap, slotsUsed := s₂.slotsUsed } : State) L mc ms := by
      refine ⟨?_, q2, q3, q4, q5, q6⟩
      obtain ⟨t, ht, -⟩ := State.frames_cons hr
      show ({ U with heap := s₂.heap, slotsUsed := s₂.slotsUsed } : State) = { U.setFrames U.frames with heap := s₂.heap, slotsUsed := s₂.slotsUsed }
      rw [State.setFrames_self ht]
    subst hg
    refine Or.inr ⟨q, ⟨(({ U with heap := s₂.heap, slotsUsed := s₂.slotsUsed } : State).setVm s₂.vm), Ls ++ L, c0 + mc, s0 + ms⟩,
      ⟨X.admits, X.cas, X.clock, X.frames, X.room, X.hears, X.method, X.code, (X.here.setHeapUsed s₂.heap s₂.slotsUsed).setVm hW'.alike, X.tail, State.WarmedH.trans X.warmed hW', X.limits, X.bytes, X.same.trans (hsame.setVm s.vm)⟩,
      ⟨g, mk, s₂, L, E, ce, rfl, rfl, hx, hce, hcv, hcl, rfl, hL, rfl, rfl⟩, ?_⟩
    show Steps p.tables e below _ (((({ U with heap := s₂.heap, slotsUsed := s₂.slotsUsed } : State).setVm s₂.vm).setTop g).pushFrame (.throwing q))
    rw [← hs₂]
    exact hsteps
end Payer
section Calls
variable {p : Program} {l : Launch} {e : Env} {R : Room} {s : State} {m : MethodId} {args : Array Value} {below : List Frame} {meth : Method} {c : Code} {T : State} {locs : List Loc} {cells slots : Nat}
theorem vx_callV (X : Stand p l e R s m args below meth c T locs cells slots) (hexec : p.tables.exec = Jvm.exec) {own C : String} {index : Nat} {y : MethodName} {bytes : ByteArray} {maxL : Nat} {ret : Option FieldType}
    (hown : s.vm.findClass own = some m.cls) (hlink : (Cond.methodLink own index y).before args s = true) (hinst : (Cond.instanceMethod y).before args s = true) (hsel : (Cond.selects C y y).before args s = true)
    (hcode : (Cond.code y bytes maxL ret).before args s = true) (hy : y.cls ≠ "java/lang/invoke/MethodHandle" ∧ y.cls ≠ "java/lang/invoke/VarHandle")
    {W9 : Nat} {Pre : Pt → Array Value → Prop} {Post : Pt → Array Value → Option Value → Pt → Prop} {PostX : Pt → Array Value → Addr → Pt → Prop} (hK : vx_Back l R p e below s args y 3 W9 Pre Post PostX)
    {b : Addr} {cellB : Cell} (hcell : T.heap[b]? = some cellB) (hobj : cellB.vm.isStatics = false) (hcls : s.vm.findClass C = some cellB.cls)
    {g : JFrame} (hg : g.method = m) (hsize : g.locals.size = c.maxLocals) {argsL rest : List Value} (hlen : ∀ sig, parseMethodDescriptor y.desc = some sig → argsL.length = sig.parameters.length)
    (hstack : g.stack = argsL.reverse ++ .ref b :: rest) (hW : 2 * g.monitorRoom + (rest.map fun v => v.category).sum ≤ W9) (hdg : decode c.code g.pc = .ok (.invokevirtual index, 3))
    (hpre : ∀ vm₁, s.WarmedH vm₁ → Pre ⟨T.setVm vm₁, locs, cells, slots⟩ (Value.ref b :: argsL).toArray) :
    (∃ (v : Option Value) (vm₁ : Vm) (B : Pt), s.WarmedH vm₁ ∧ Stand p l e R s m args below meth c B.U B.locs B.cells B.slots ∧ Post ⟨T.setVm vm₁, locs, cells, slots⟩ (Value.ref b :: argsL).toArray v B ∧
      ∀ target, Steps p.tables e below (B.U.setTop { g with pc := g.pc + 3, stack := v.toList ++ rest }) target → Steps p.tables e below (T.setTop g) target) ∨
    (∃ (q : Addr) (vm₁ : Vm) (B : Pt), s.WarmedH vm₁ ∧ Stand p l e R s m args below meth c B.U B.locs B.cells B.slots ∧ PostX ⟨T.setVm vm₁, locs, cells, slots⟩ (Value.ref b :: argsL).toArray q B ∧
      Steps p.tables e below (T.setTop g) ((B.U.setTop { g with stack := rest }).pushFrame (.throwing q))) := by
  obtain ⟨mk, methM, hnamed, hmethM, hstM, habM⟩ := Cond.instanceMethod_spec hinst
  obtain ⟨methM', cM, hmethM', -, -, -, -, -, -, hsigM⟩ := Cond.code_spec hnamed hcode
  cases hmethM.symm.trans hmethM'
  obtain ⟨c2, r2, m2, q1, q2, q3, q4, kP, hkP, hkPi⟩ := Cond.selects_spec hsel
  cases hcls.symm.trans q1
  cases (State.methodFound?_of_named hnamed hy).symm.trans q2
  cases hnamed.symm.trans q3
  have hselP : selectMethod e.platform s.vm cellB.cls mk = .method mk := by rw [Launch.admits_selectMethod X.admits]; exact q4
  obtain ⟨vm₁, X₁, hstep₁⟩ := X.invokevirtual hexec hown hlink hnamed hmethM hstM hkP hkPi hy (a := b) (cell := cellB) hcell
    (fun z h => by rw [h] at hobj; cases hobj) hselP hmethM habM hkP hkPi (g := g) hg (argsL := argsL) (rest := rest) (hlen _ hsigM) hstack hdg
  rcases hK m meth c ⟨T.setVm vm₁, locs, cells, slots⟩ { g with stack := rest } (.invokevirtual index) mk (Value.ref b :: argsL).toArray X₁ hg hsize hdg hW (X₁.named hnamed) (hpre vm₁ X₁.warmed) with ⟨v, B, X', hpost, hsteps⟩ | ⟨q, B, X', hpost, hsteps⟩
  · exact Or.inl ⟨v, vm₁, B, X₁.warmed, X', hpost, fun target h => hstep₁ _ fun acts => by rw [doInvoke_state]; exact hsteps.trans h⟩
  · exact Or.inr ⟨q, vm₁, B, X₁.warmed, X', hpost, hstep₁ _ fun acts => by rw [doInvoke_state]; exact hsteps⟩
theorem vx_callS (X : Stand p l e R s m args below meth c T locs cells slots) (hexec : p.tables.exec = Jvm.exec) {own : String} {index : Nat} {y : MethodName} {bytes : ByteArray} {maxL : Nat} {ret : Option FieldType}
    (hown : s.vm.findClass own = some m.cls) (hlink : (Cond.methodLink own index y).before args s = true) (hstat : (Cond.static y).before args s = true) (hinit : (Cond.initialized y.cls).before args s = true)
    (hcode : (Cond.code y bytes maxL ret).before args s = true) (hy : y.cls ≠ "java/lang/invoke/MethodHandle" ∧ y.cls ≠ "java/lang/invoke/VarHandle")
    {W9 : Nat} {Pre : Pt → Array Value → Prop} {Post : Pt → Array Value → Option Value → Pt → Prop} {PostX : Pt → Array Value → Addr → Pt → Prop} (hK : vx_Back l R p e below s args y 3 W9 Pre Post PostX)
    {g : JFrame} (hg : g.method = m) (hsize : g.locals.size = c.maxLocals) {argsL rest : List Value} (hlen : ∀ sig, parseMethodDescriptor y.desc = some sig → argsL.length = sig.parameters.length)
    (hstack : g.stack = argsL.reverse ++ rest) (hW : 2 * g.monitorRoom + (rest.map fun v => v.category).sum ≤ W9) (hdg : decode c.code g.pc = .ok (.invokestatic index, 3))
    (hpre : ∀ vm₁, s.WarmedH vm₁ → Pre ⟨T.setVm vm₁, locs, cells, slots⟩ argsL.toArray) :
    (∃ (v : Option Value) (vm₁ : Vm) (B : Pt), s.WarmedH vm₁ ∧ Stand p l e R s m args below meth c B.U B.locs B.cells B.slots ∧ Post ⟨T.setVm vm₁, locs, cells, slots⟩ argsL.toArray v B ∧
      ∀ target, Steps p.tables e below (B.U.setTop { g with pc := g.pc + 3, stack := v.toList ++ rest }) target → Steps p.tables e below (T.setTop g) target) ∨
    (∃ (q : Addr) (vm₁ : Vm) (B : Pt), s.WarmedH vm₁ ∧ Stand p l e R s m args below meth c B.U B.locs B.cells B.slots ∧ PostX ⟨T.setVm vm₁, locs, cells, slots⟩ argsL.toArray q B ∧
      Steps p.tables e below (T.setTop g) ((B.U.setTop { g with stack := rest }).pushFrame (.throwing q))) := by
  obtain ⟨mk, hnamed⟩ := Cond.code_named hcode
  obtain ⟨methM, cM, hmethM, -, -, -, -, -, -, hsigM⟩ := Cond.code_spec hnamed hcode
  have hstatic : methM.isStatic = true := Cond.static_spec hnamed hmethM hstat
  obtain ⟨kP, hkP, -⟩ := className_of_methodNamed hnamed
  have hinitP : kP.init = .initialized := Cond.initialized_spec (findClass_of_methodNamed hnamed) hkP hinit
  obtain ⟨vm₁, X₁, hstep₁⟩ := X.invokestatic hexec hown hlink hnamed hmethM hstatic hkP hinitP hy (g := g) hg (argsL := argsL) (rest := rest) (hlen _ hsigM) hstack hdg
  rcases hK m meth c ⟨T.setVm vm₁, locs, cells, slots⟩ { g with stack := rest } (.invokestatic index) mk argsL.toArray X₁ hg hsize hdg hW (X₁.named hnamed) (hpre vm₁ X₁.warmed) with ⟨v, B, X', hpost, hsteps⟩ | ⟨q, B, X', hpost, hsteps⟩
  · exact Or.inl ⟨v, vm₁, B, X₁.warmed, X', hpost, fun target h => hstep₁ _ fun acts => by rw [doInvoke_state]; exact hsteps.trans h⟩
  · exact Or.inr ⟨q, vm₁, B, X₁.warmed, X', hpost, hstep₁ _ fun acts => by rw [doInvoke_state]; exact hsteps⟩
end Calls
theorem vx_cls {s : State} {T : State} {vm₁ : Vm} {E : String} {k : ClassId} (hW : s.WarmedH vm₁) (h : (T.setVm vm₁).vm.findClass E = some k) : s.vm.findClass E = some k := by
  have h1 : vm₁.findClass E = some k := h
  rw [hW.alike.findClass] at h1
  exact h1
/-- the method's frame g, with q thrown over it -/
def vx_W (p : Program) (l : Launch) (e : Env) (R : Room) (s : State) (m : MethodId) (args : Array Value) (below : List Frame) (meth : Method) (c : Code) (H : Heap) (locs : List Loc) (cells slots : Nat) (Q : State → Prop) (g : JFrame) (q : Addr) : Prop :=
  ∀ T : State, T.heap = H → Stand p l e R s m args below meth c T locs cells slots → ∃ t, Steps p.tables e below ((T.setTop g).pushFrame (.throwing q)) t ∧ Q t
def vx_Run (p : Program) (l : Launch) (e : Env) (R : Room) (s : State) (m : MethodId) (args : Array Value) (below : List Frame) (meth : Method) (c : Code) (H : Heap) (locs : List Loc) (cells slots mc ms : Nat) (g : JFrame) (rest : List Value) (Qa : State → Outcome → State → Prop) (XC : String → State → State → Prop) (free : Addr → Prop) : Prop :=
  ∀ T : State, T.heap = H → Stand p l e R s m args below meth c T locs cells slots →
    (∃ (v : Option Value) (st₀ t T' : State) (L : List Loc), st₀.heap = H ∧ Stand p l e R s m args below meth c T' (locs ++ L) (cells + mc) (slots + ms) ∧ (∀ q ∈ L, free q.base) ∧ T'.heap = t.heap ∧ T'.vm = t.vm ∧ Qa st₀ (.returned v) t ∧
      Goes p e below T g T' { g with pc := g.pc + 3, stack := v.toList ++ rest }) ∨
    (∃ (q : Addr) (st₀ t T' : State) (L : List Loc) (E : String) (ce : Cell), st₀.heap = H ∧ Stand p l e R s m args below meth c T' (locs ++ L) (cells + mc) (slots + ms) ∧ (∀ z ∈ L, free z.base) ∧ T'.heap = t.heap ∧ T'.vm = t.vm ∧ XC E st₀ t ∧ t.heap[q]? = some ce ∧ ce.vm = .none ∧ s.vm.findClass E = some ce.cls ∧
      Steps p.tables e below (T.setTop g) ((T'.setTop { g with stack := rest }).pushFrame (.throwing q)))
def vx_X {S : Type} (px : S → Prop) (B : String → S → State → Prop) (A : Nat → Prop) : String → State → State → Prop := fun E st t => ∃ u : S, px u ∧ B E u t ∧ va_F A st t
section Runs
variable {p : Program} {l : Launch} {e : Env} {R : Room} {s : State} {m : MethodId} {args : Array Value} {below : List Frame} {meth : Method} {c : Code} {H : Heap} {locs : List Loc} {cells slots : Nat}
variable {y : MethodName} {bytes cc : ByteArray} {maxL nL mc ms n index : Nat} {ret : Option FieldType} {ws : List Cond} {rm : Room} {Pc : Array Value → State → Prop} {Qc : Array Value → State → Outcome → State → Prop} {XC : String → State → State → Prop} {free : Addr → Prop} {Ts : List Cond} {own C : String} {b : Addr} {As rest : List Value} {g : JFrame}
theorem vx_callBack (cb : CallB R s args own index y bytes maxL ret ws rm mc ms n) (hM : vx_Met l y ws rm Pc Qc XC mc ms free) (hbl : FrameBlind Pc) : vx_Back l R p e below s args y 3 8 (PreOf R mc ms Pc) (PostOf Qc mc ms free) (vx_Post XC mc ms free) := by
  obtain ⟨hrc, hrs, hfr, hlo, hws, hcw, -, hini, -⟩ := cb
  exact vx_back (bytes := bytes) (maxL := maxL) (ret := ret) hM hbl hrc hrs hfr hlo hws hcw (fun a' U hW => word_at hW (Or.inl (by first | rfl | simp [Cond.onTables, Cond.keeps, Cond.steady])) hini)
theorem vx_runV (S : CallFix p m c cc nL s args Ts own) (hM : vx_Met l y ws rm Pc Qc XC mc ms free) (cw : CallW R s args own C index y bytes maxL ret ws rm mc ms n) (hp : PreV s H C b Pc As)
    (hg : g.method = m) (hn : As.length = n) (hsize : g.locals.size = nL) (hstack : g.stack = As.reverse ++ .ref b :: rest) (hW : 2 * g.monitorRoom + (rest.map fun v => v.category).sum ≤ 8) (hdg : decode cc g.pc = .ok (.invokevirtual index, 3)) (hf : cells + mc ≤ R.cells ∧ slots + ms ≤ R.slots) :
    vx_Run p l e R s m args below meth c H locs cells slots mc ms g rest (Qc (Value.ref b :: As).toArray) XC free := by
  have hK : vx_Back l R p e below s args y 3 8 (PreOf R mc ms Pc) (PostOf Qc mc ms free) (vx_Post XC mc ms free) := vx_callBack cw.1 hM hp.1
  obtain ⟨⟨-, -, -, -, -, -, hcode, -, hy, hlen, hl⟩, hin, hse⟩ := cw
  obtain ⟨hx, hb, hml, ho, -⟩ := S
  obtain ⟨-, ⟨cellB, hcB, hoB, hclB⟩, hPc⟩ := hp
  intro T hT X
  rcases vx_callV X hx (C := C) (bytes := bytes) (maxL := maxL) (ret := ret) ho hl hin hse hcode hy hK (by rw [hT]; exact hcB) hoB hclB hg (hsize.trans hml.symm) (argsL := As) (rest := rest) (fun sig h => hn.trans (hlen sig h)) hstack hW (by rw [hb]; exact hdg)
    (fun vm₁ hW₁ => ⟨hf.1, hf.2, hPc (T.setVm vm₁) hT hW₁⟩) with ⟨v, vm₁, ⟨U', l2, c2, s2⟩, hW₁, X', ⟨g', mk, t, L, e1, e2, hq, h1, hL, h2, h3⟩, st⟩ | ⟨q, vm₁, ⟨U', l2, c2, s2⟩, hW₁, X', ⟨g', mk, t, L, E, ce, e1, e2, hq, hce, hcv, hcl, h1, hL, h2, h3⟩, st⟩
  · dsimp only [Pt.U, Pt.locs, Pt.cells, Pt.slots] at X' e1 e2 h1 h2 h3 st
    subst h1; subst h2; subst h3
    exact Or.inl ⟨v, (T.setVm vm₁).calling g' mk (Value.ref b :: As).toArray, t, U', L, hT, X', hL, e1, e2, hq, st⟩
  · dsimp only [Pt.U, Pt.locs, Pt.cells, Pt.slots] at X' e1 e2 h1 h2 h3 st hcl
    subst h1; subst h2; subst h3
    exact Or.inr ⟨q, (T.setVm vm₁).calling g' mk (Value.ref b :: As).toArray, t, U', L, E, ce, hT, X', hL, e1, e2, hq, hce, hcv, vx_cls hW₁ hcl, st⟩
theorem vx_runS (S : CallFix p m c cc nL s args Ts own) (hM : vx_Met l y ws rm Pc Qc XC mc ms free) (cw : CallB R s args own index y bytes maxL ret ws rm mc ms n ∧ (Cond.static y).before args s = true) (hp : PreS s H Pc As)
    (hg : g.method = m) (hn : As.length = n) (hsize : g.locals.size = nL) (hstack : g.stack = As.reverse ++ rest) (hW : 2 * g.monitorRoom + (rest.map fun v => v.category).sum ≤ 8) (hdg : decode cc g.pc = .ok (.invokestatic index, 3)) (hf : cells + mc ≤ R.cells ∧ slots + ms ≤ R.slots) :
    vx_Run p l e R s m args below meth c H locs cells slots mc ms g rest (Qc As.toArray) XC free := by
  have hK : vx_Back l R p e below s args y 3 8 (PreOf R mc ms Pc) (PostOf Qc mc ms free) (vx_Post XC mc ms free) := vx_callBack cw.1 hM hp.1
  obtain ⟨⟨-, -, -, -, -, -, hcode, hini, hy, hlen, hl⟩, hstt⟩ := cw
  obtain ⟨hx, hb, hml, ho, -⟩ := S
  intro T hT X
  rcases vx_callS X hx (bytes := bytes) (maxL := maxL) (ret := ret) ho hl hstt hini hcode hy hK hg (hsize.trans hml.symm) (argsL := As) (rest := rest) (fun sig h => hn.trans (hlen sig h)) hstack hW (by rw [hb]; exact hdg)
    (fun vm₁ hW₁ => ⟨hf.1, hf.2, hp.2 (T.setVm vm₁) hT hW₁⟩) with ⟨v, vm₁, ⟨U', l2, c2, s2⟩, hW₁, X', ⟨g', mk, t, L, e1, e2, hq, h1, hL, h2, h3⟩, st⟩ | ⟨q, vm₁, ⟨U', l2, c2, s2⟩, hW₁, X', ⟨g', mk, t, L, E, ce, e1, e2, hq, hce, hcv, hcl, h1, hL, h2, h3⟩, st⟩
  · dsimp only [Pt.U, Pt.locs, Pt.cells, Pt.slots] at X' e1 e2 h1 h2 h3 st
    subst h1; subst h2; subst h3
    exact Or.inl ⟨v, (T.setVm vm₁).calling g' mk As.toArray, t, U', L, hT, X', hL, e1, e2, hq, st⟩
  · dsimp only [Pt.U, Pt.locs, Pt.cells, Pt.slots] at X' e1 e2 h1 h2 h3 st hcl
    subst h1; subst h2; subst h3
    exact Or.inr ⟨q, (T.setVm vm₁).calling g' mk As.toArray, t, U', L, E, ce, hT, X', hL, e1, e2, hq, hce, hcv, vx_cls hW₁ hcl, st⟩
end Runs
section Rows
variable {p : Program} {l : Launch} {e : Env} {R : Room} {s : State} {m : MethodId} {args : Array Value} {below : List Frame} {meth : Method} {c : Code} {H : Heap} {locs : List Loc} {cells slots : Nat} {Q : State → Prop}
variable {mc ms : Nat} {free : Addr → Prop} {A0 A1 : Nat → Prop} {H0 : Heap} {a : Array Value} {pc : Nat} {ls : Array Slot} {st0 rest : List Value}
theorem vx_keep {st₀ t T' : State} {L : List Loc} (h0 : st₀.heap = H) (e1 : T'.heap = t.heap) (hS : va_S A0 H0 H locs) (hA : ∀ q, q < H.size → A1 q → A0 q) (hf : ∀ q, free q → A0 q) (hL : ∀ q ∈ L, free q.base) (hF : va_F A1 st₀ t) :
    H.size ≤ T'.heap.size ∧ (∀ q : Nat, q < H.size → ¬ A1 q → T'.heap[q]? = H[q]?) ∧ va_S A0 H0 T'.heap (locs ++ L) := by
  obtain ⟨hz, hk⟩ := hF
  rw [h0] at hz hk
  exact ⟨by rw [e1]; exact hz, fun q h1 h2 => by rw [e1]; exact hk q h1 h2,
    ⟨Nat.le_trans hS.1 (by rw [e1]; exact hz), fun q h1 h2 => by rw [e1, hk q (Nat.lt_of_lt_of_le h1 hS.1) (fun z => h2 (hA q (Nat.lt_of_lt_of_le h1 hS.1) z))]; exact hS.2.1 q h1 h2, fun q hq => by
      rcases List.mem_append.mp hq with h | h
      · exact hS.2.2 q h
      · exact hf _ (hL q h)⟩⟩
theorem vx_calli {S SX : Type} {post : Int32 → S → Prop} {px : SX → Prop} {B : S → State → Prop} {BX : String → SX → State → Prop} {AX : Nat → Prop} (hr : vx_Run p l e R s m args below meth c H locs cells slots mc ms (F0 m pc ls st0) rest (va_Qi post B A1 a) (vx_X px BX AX) free) (hS : va_S A0 H0 H locs) (hA : ∀ q, q < H.size → A1 q → A0 q) (hf : ∀ q, free q → A0 q) (hAX : ∀ q, q < H.size → AX q → A0 q)
    (kx : ∀ (E : String) (ce : Cell) (q9 : Addr) (u : SX) (t : State) (H1 : Heap) (locs1 : List Loc), t.heap = H1 → s.vm.Alike t.vm → px u → BX E u t → H.size ≤ H1.size → (∀ q : Nat, q < H.size → ¬ AX q → H1[q]? = H[q]?) → va_S A0 H0 H1 locs1 → H1[q9]? = some ce → ce.vm = .none → s.vm.findClass E = some ce.cls → vx_W p l e R s m args below meth c H1 locs1 (cells + mc) (slots + ms) Q (F0 m pc ls rest) q9)
    (kk : ∀ (r : Int32) (u : S) (t : State) (H1 : Heap) (locs1 : List Loc), t.heap = H1 → s.vm.Alike t.vm → post r u → B u t → H.size ≤ H1.size → (∀ q : Nat, q < H.size → ¬ A1 q → H1[q]? = H[q]?) → va_S A0 H0 H1 locs1 → W p l e R s m args below meth c H1 locs1 (cells + mc) (slots + ms) Q (F0 m (pc + 3) ls (.int r :: rest))) : W p l e R s m args below meth c H locs cells slots Q (F0 m pc ls st0) := by
  intro T hT X
  rcases hr T hT X with ⟨v, st₀, t, T', L, h0, X', hL, e1, e2, ⟨⟨r, u, hv, hp, hb⟩, hF⟩, st⟩ | ⟨q, st₀, t, T', L, E, ce, h0, X', hL, e1, e2, ⟨u, hp, hb, hF⟩, hce, hcv, hcl, st⟩
  · cases hv
    obtain ⟨k1, k2, k3⟩ := vx_keep h0 e1 hS hA hf hL hF
    obtain ⟨t2, a1, b1⟩ := kk r u t T'.heap (locs ++ L) e1.symm (by rw [← e2]; exact X'.warmed.alike) hp hb k1 k2 k3 T' rfl X'
    exact ⟨t2, st t2 a1, b1⟩
  · obtain ⟨k1, k2, k3⟩ := vx_keep h0 e1 hS hAX hf hL hF
    obtain ⟨t2, a1, b1⟩ := kx E ce q u t T'.heap (locs ++ L) e1.symm (by rw [← e2]; exact X'.warmed.alike) hp hb k1 k2 k3 (by rw [e1]; exact hce) hcv hcl T' rfl X'
    exact ⟨t2, st.trans a1, b1⟩
theorem vx_calll {S SX : Type} {post : Int64 → S → Prop} {px : SX → Prop} {B : S → State → Prop} {BX : String → SX → State → Prop} {AX : Nat → Prop} (hr : vx_Run p l e R s m args below meth c H locs cells slots mc ms (F0 m pc ls st0) rest (va_Ql post B A1 a) (vx_X px BX AX) free) (hS : va_S A0 H0 H locs) (hA : ∀ q, q < H.size → A1 q → A0 q) (hf : ∀ q, free q → A0 q) (hAX : ∀ q, q < H.size → AX q → A0 q)
    (kx : ∀ (E : String) (ce : Cell) (q9 : Addr) (u : SX) (t : State) (H1 : Heap) (locs1 : List Loc), t.heap = H1 → s.vm.Alike t.vm → px u → BX E u t → H.size ≤ H1.size → (∀ q : Nat, q < H.size → ¬ AX q → H1[q]? = H[q]?) → va_S A0 H0 H1 locs1 → H1[q9]? = some ce → ce.vm = .none → s.vm.findClass E = some ce.cls → vx_W p l e R s m args below meth c H1 locs1 (cells + mc) (slots + ms) Q (F0 m pc ls rest) q9)
    (kk : ∀ (r : Int64) (u : S) (t : State) (H1 : Heap) (locs1 : List Loc), t.heap = H1 → s.vm.Alike t.vm → post r u → B u t → H.size ≤ H1.size → (∀ q : Nat, q < H.size → ¬ A1 q → H1[q]? = H[q]?) → va_S A0 H0 H1 locs1 → W p l e R s m args below meth c H1 locs1 (cells + mc) (slots + ms) Q (F0 m (pc + 3) ls (.long r :: rest))) : W p l e R s m args below meth c H locs cells slots Q (F0 m pc ls st0) := by
  intro T hT X
  rcases hr T hT X with ⟨v, st₀, t, T', L, h0, X', hL, e1, e2, ⟨⟨r, u, hv, hp, hb⟩, hF⟩, st⟩ | ⟨q, st₀, t, T', L, E, ce, h0, X', hL, e1, e2, ⟨u, hp, hb, hF⟩, hce, hcv, hcl, st⟩
  · cases hv
    obtain ⟨k1, k2, k3⟩ := vx_keep h0 e1 hS hA hf hL hF
    obtain ⟨t2, a1, b1⟩ := kk r u t T'.heap (locs ++ L) e1.symm (by rw [← e2]; exact X'.warmed.alike) hp hb k1 k2 k3 T' rfl X'
    exact ⟨t2, st t2 a1, b1⟩
  · obtain ⟨k1, k2, k3⟩ := vx_keep h0 e1 hS hAX hf hL hF
    obtain ⟨t2, a1, b1⟩ := kx E ce q u t T'.heap (locs ++ L) e1.symm (by rw [← e2]; exact X'.warmed.alike) hp hb k1 k2 k3 (by rw [e1]; exact hce) hcv hcl T' rfl X'
    exact ⟨t2, st.trans a1, b1⟩
theorem vx_callf {S SX : Type} {post : UInt32 → S → Prop} {px : SX → Prop} {B : S → State → Prop} {BX : String → SX → State → Prop} {AX : Nat → Prop} (hr : vx_Run p l e R s m args below meth c H locs cells slots mc ms (F0 m pc ls st0) rest (va_Qf post B A1 a) (vx_X px BX AX) free) (hS : va_S A0 H0 H locs) (hA : ∀ q, q < H.size → A1 q → A0 q) (hf : ∀ q, free q → A0 q) (hAX : ∀ q, q < H.size → AX q → A0 q)
    (kx : ∀ (E : String) (ce : Cell) (q9 : Addr) (u : SX) (t : State) (H1 : Heap) (locs1 : List Loc), t.heap = H1 → s.vm.Alike t.vm → px u → BX E u t → H.size ≤ H1.size → (∀ q : Nat, q < H.size → ¬ AX q → H1[q]? = H[q]?) → va_S A0 H0 H1 locs1 → H1[q9]? = some ce → ce.vm = .none → s.vm.findClass E = some ce.cls → vx_W p l e R s m args below meth c H1 locs1 (cells + mc) (slots + ms) Q (F0 m pc ls rest) q9)
    (kk : ∀ (r : UInt32) (u : S) (t : State) (H1 : Heap) (locs1 : List Loc), t.heap = H1 → s.vm.Alike t.vm → post r u → B u t → H.size ≤ H1.size → (∀ q : Nat, q < H.size → ¬ A1 q → H1[q]? = H[q]?) → va_S A0 H0 H1 locs1 → W p l e R s m args below meth c H1 locs1 (cells + mc) (slots + ms) Q (F0 m (pc + 3) ls (.float r :: rest))) : W p l e R s m args below meth c H locs cells slots Q (F0 m pc ls st0) := by
  intro T hT X
  rcases hr T hT X with ⟨v, st₀, t, T', L, h0, X', hL, e1, e2, ⟨⟨r, u, hv, hp, hb⟩, hF⟩, st⟩ | ⟨q, st₀, t, T', L, E, ce, h0, X', hL, e1, e2, ⟨u, hp, hb, hF⟩, hce, hcv, hcl, st⟩
  · cases hv
    obtain ⟨k1, k2, k3⟩ := vx_keep h0 e1 hS hA hf hL hF
    obtain ⟨t2, a1, b1⟩ := kk r u t T'.heap (locs ++ L) e1.symm (by rw [← e2]; exact X'.warmed.alike) hp hb k1 k2 k3 T' rfl X'
    exact ⟨t2, st t2 a1, b1⟩
  · obtain ⟨k1, k2, k3⟩ := vx_keep h0 e1 hS hAX hf hL hF
    obtain ⟨t2, a1, b1⟩ := kx E ce q u t T'.heap (locs ++ L) e1.symm (by rw [← e2]; exact X'.warmed.alike) hp hb k1 k2 k3 (by rw [e1]; exact hce) hcv hcl T' rfl X'
    exact ⟨t2, st.trans a1, b1⟩
theorem vx_calld {S SX : Type} {post : UInt64 → S → Prop} {px : SX → Prop} {B : S → State → Prop} {BX : String → SX → State → Prop} {AX : Nat → Prop} (hr : vx_Run p l e R s m args below meth c H locs cells slots mc ms (F0 m pc ls st0) rest (va_Qd post B A1 a) (vx_X px BX AX) free) (hS : va_S A0 H0 H locs) (hA : ∀ q, q < H.size → A1 q → A0 q) (hf : ∀ q, free q → A0 q) (hAX : ∀ q, q < H.size → AX q → A0 q)
    (kx : ∀ (E : String) (ce : Cell) (q9 : Addr) (u : SX) (t : State) (H1 : Heap) (locs1 : List Loc), t.heap = H1 → s.vm.Alike t.vm → px u → BX E u t → H.size ≤ H1.size → (∀ q : Nat, q < H.size → ¬ AX q → H1[q]? = H[q]?) → va_S A0 H0 H1 locs1 → H1[q9]? = some ce → ce.vm = .none → s.vm.findClass E = some ce.cls → vx_W p l e R s m args below meth c H1 locs1 (cells + mc) (slots + ms) Q (F0 m pc ls rest) q9)
    (kk : ∀ (r : UInt64) (u : S) (t : State) (H1 : Heap) (locs1 : List Loc), t.heap = H1 → s.vm.Alike t.vm → post r u → B u t → H.size ≤ H1.size → (∀ q : Nat, q < H.size → ¬ A1 q → H1[q]? = H[q]?) → va_S A0 H0 H1 locs1 → W p l e R s m args below meth c H1 locs1 (cells + mc) (slots + ms) Q (F0 m (pc + 3) ls (.double r :: rest))) : W p l e R s m args below meth c H locs cells slots Q (F0 m pc ls st0) := by
  intro T hT X
  rcases hr T hT X with ⟨v, st₀, t, T', L, h0, X', hL, e1, e2, ⟨⟨r, u, hv, hp, hb⟩, hF⟩, st⟩ | ⟨q, st₀, t, T', L, E, ce, h0, X', hL, e1, e2, ⟨u, hp, hb, hF⟩, hce, hcv, hcl, st⟩
  · cases hv
    obtain ⟨k1, k2, k3⟩ := vx_keep h0 e1 hS hA hf hL hF
    obtain ⟨t2, a1, b1⟩ := kk r u t T'.heap (locs ++ L) e1.symm (by rw [← e2]; exact X'.warmed.alike) hp hb k1 k2 k3 T' rfl X'
    exact ⟨t2, st t2 a1, b1⟩
  · obtain ⟨k1, k2, k3⟩ := vx_keep h0 e1 hS hAX hf hL hF
    obtain ⟨t2, a1, b1⟩ := kx E ce q u t T'.heap (locs ++ L) e1.symm (by rw [← e2]; exact X'.warmed.alike) hp hb k1 k2 k3 (by rw [e1]; exact hce) hcv hcl T' rfl X'
    exact ⟨t2, st.trans a1, b1⟩
theorem vx_callv {S SX : Type} {post : S → Prop} {px : SX → Prop} {B : S → State → Prop} {BX : String → SX → State → Prop} {AX : Nat → Prop} (hr : vx_Run p l e R s m args below meth c H locs cells slots mc ms (F0 m pc ls st0) rest (va_Qv post B A1 a) (vx_X px BX AX) free) (hS : va_S A0 H0 H locs) (hA : ∀ q, q < H.size → A1 q → A0 q) (hf : ∀ q, free q → A0 q) (hAX : ∀ q, q < H.size → AX q → A0 q)
    (kx : ∀ (E : String) (ce : Cell) (q9 : Addr) (u : SX) (t : State) (H1 : Heap) (locs1 : List Loc), t.heap = H1 → s.vm.Alike t.vm → px u → BX E u t → H.size ≤ H1.size → (∀ q : Nat, q < H.size → ¬ AX q → H1[q]? = H[q]?) → va_S A0 H0 H1 locs1 → H1[q9]? = some ce → ce.vm = .none → s.vm.findClass E = some ce.cls → vx_W p l e R s m args below meth c H1 locs1 (cells + mc) (slots + ms) Q (F0 m pc ls rest) q9)
    (kk : ∀ (u : S) (t : State) (H1 : Heap) (locs1 : List Loc), t.heap = H1 → s.vm.Alike t.vm → post u → B u t → H.size ≤ H1.size → (∀ q : Nat, q < H.size → ¬ A1 q → H1[q]? = H[q]?) → va_S A0 H0 H1 locs1 → W p l e R s m args below meth c H1 locs1 (cells + mc) (slots + ms) Q (F0 m (pc + 3) ls (rest))) : W p l e R s m args below meth c H locs cells slots Q (F0 m pc ls st0) := by
  intro T hT X
  rcases hr T hT X with ⟨v, st₀, t, T', L, h0, X', hL, e1, e2, ⟨⟨u, hv, hp, hb⟩, hF⟩, st⟩ | ⟨q, st₀, t, T', L, E, ce, h0, X', hL, e1, e2, ⟨u, hp, hb, hF⟩, hce, hcv, hcl, st⟩
  · cases hv
    obtain ⟨k1, k2, k3⟩ := vx_keep h0 e1 hS hA hf hL hF
    obtain ⟨t2, a1, b1⟩ := kk u t T'.heap (locs ++ L) e1.symm (by rw [← e2]; exact X'.warmed.alike) hp hb k1 k2 k3 T' rfl X'
    exact ⟨t2, st t2 a1, b1⟩
  · obtain ⟨k1, k2, k3⟩ := vx_keep h0 e1 hS hAX hf hL hF
    obtain ⟨t2, a1, b1⟩ := kx E ce q u t T'.heap (locs ++ L) e1.symm (by rw [← e2]; exact X'.warmed.alike) hp hb k1 k2 k3 (by rw [e1]; exact hce) hcv hcl T' rfl X'
    exact ⟨t2, st.trans a1, b1⟩
/-- caught by the row x of this method's table; the rows ahead don't take it -/
theorem vx_catch {own name : String} {E : String} {ce : Cell} {q : Addr} (hown : s.vm.findClass own = some m.cls) (pre : List ExceptionTableEntry) (x : ExceptionTableEntry) (suf : List ExceptionTableEntry) (hsplit : c.exceptionTable.toList = pre ++ x :: suf)
    (hpass : ∀ z ∈ pre, covers z pc = false ∨ (z.catchType ≠ 0 ∧ ∃ nm : String, (Cond.classLink own z.catchType nm).before args s = true ∧ va_Nc E nm s)) (hx : covers x pc = true) (h0 : x.catchType ≠ 0)
    (hlink : (Cond.classLink own x.catchType name).before args s = true) (hcast : (Cond.castable E name).before args s = true) (hcell : H[q]? = some ce) (hv : ce.vm = .none) (hcl : s.vm.findClass E = some ce.cls)
    (kk : W p l e R s m args below meth c H locs cells slots Q (F0 m x.handlerPc ls [.ref q])) : vx_W p l e R s m args below meth c H locs cells slots Q (F0 m pc ls rest) q := by
  intro T hT X
  have hpl : e.platform.magicAccessors = ({} : Platform).magicAccessors := by rw [X.admits.platform]
  obtain ⟨c3, c4, hc3, hc4, hasg⟩ := Cond.castable_spec hcast
  cases Option.some.inj (hc3.symm.trans hcl)
  obtain ⟨c5, hc5, hcl5⟩ := Cond.classLink_spec hown hlink e.platform hpl
  cases Option.some.inj (hc4.symm.trans hc5)
  obtain ⟨vm', X', st⟩ := X.thenCaughtThrough q (g := F0 m pc ls rest) rfl (Steps.refl _) (by rw [hT]; exact hcell) (by rw [hv]; rfl) (by obtain ⟨k9, h9, -⟩ := Vm.findClass_spec hcl; exact ⟨k9, h9⟩) pre x suf hsplit
    (fun z hz => by
      rcases hpass z hz with h | ⟨hz0, nm, hl1, hn1⟩
      · exact Or.inl h
      · obtain ⟨c6, hc6, hcl6⟩ := Cond.classLink_spec hown hl1 e.platform hpl
        obtain ⟨a8, b8, h1, h2, h3⟩ := hn1
        cases Option.some.inj (h1.symm.trans hcl)
        cases Option.some.inj (h2.symm.trans hc6)
        exact Or.inr ⟨hz0, _, hcl6, h3⟩) hx (Or.inr ⟨h0, c4, hcl5, hasg⟩)
  obtain ⟨t, a1, b1⟩ := kk (T.setVm vm') hT X'
  exact ⟨t, st.trans a1, b1⟩
end Rows
section Ends
variable {p : Program} {l : Launch} {e : Env} {R : Room} {s : State} {m : MethodId} {args : Array Value} {below : List Frame} {meth : Method} {c : Code} {H : Heap} {locs : List Loc} {cells slots : Nat} {Q : State → Prop}
variable {mc ms : Nat} {free : Addr → Prop} {A0 A1 : Nat → Prop} {H0 : Heap} {a : Array Value} {ls : Array Slot} {st0 rest : List Value}
variable {Qc : Array Value → State → Outcome → State → Prop} {XC : String → State → State → Prop}
/-- what a body that may throw owes at its end -/
def vx_MQ (below : List Frame) (Qc : Array Value → State → Outcome → State → Prop) (XC : String → State → State → Prop) (a : Array Value) (s : State) (mc ms : Nat) (free : Addr → Prop) : State → Prop := fun t =>
  ∃ o, t.status = .running ∧ Ended t below o ∧ vx_Q Qc XC mc ms free a s o t
theorem vx_ret {g : JFrame} {mc ms : Nat} (k : W p l e R s m args below meth c H locs cells slots (MQ below Qc args s mc ms free) g) : W p l e R s m args below meth c H locs cells slots (vx_MQ below Qc XC args s mc ms free) g := by
  intro T hT X
  obtain ⟨t, a1, o, b1, b2, b3, b4⟩ := k T hT X
  exact ⟨t, a1, o, b1, b2, Or.inl ⟨b3, b4⟩⟩
/-- not caught here: it goes on to the caller -/
theorem vx_widen {g : JFrame} {q : Addr} {k n : Nat} (h1 : cells ≤ k) (h2 : slots ≤ n) (kk : vx_W p l e R s m args below meth c H locs k n Q g q) : vx_W p l e R s m args below meth c H locs cells slots Q g q := fun T hT X => kk T hT (stand_widen X h1 h2)
theorem vx_out {pc : Nat} {E : String} {ce : Cell} {q : Addr} {mc ms : Nat} (hout : ∀ x ∈ c.exceptionTable.toList, covers x pc = false) (hlocks : meth.locks = false) (hcell : H[q]? = some ce) (hv : ce.vm = .none) (hcl : s.vm.findClass E = some ce.cls)
    (hx : ∀ t : State, t.heap = H → s.vm.Alike t.vm → XC E s t) (hf : ∀ z ∈ locs, free z.base) (hc : cells ≤ mc) (hs : slots ≤ ms) :
    vx_W p l e R s m args below meth c H locs cells slots (vx_MQ below Qc XC args s mc ms free) (F0 m pc ls rest) q := by
  intro T hT X
  obtain ⟨st1, hrun, hend, hW, hsm⟩ := X.leaveThrown q (g := F0 m pc ls rest) rfl rfl rfl hout hlocks
  have hcell9 : (T.setFrames (.throwing q :: below)).heap[q]? = some ce := by
    show T.heap[q]? = some ce
    rw [hT]; exact hcell
  exact ⟨_, st1, .threw q, hrun, hend, Or.inr ⟨q, rfl, E, ce, locs, hx _ hT hW.alike, hcell9, hv, hcl, hW, hsm.mono hc hs, hf⟩⟩
theorem vx_frame {U : State} {k n : Nat} (h : s.sameButNew ({ U with vm := s.vm } : State) locs k n) : s.heap.size ≤ U.heap.size ∧ ∀ q : Nat, q < s.heap.size → (∀ z ∈ locs, z.base ≠ q) → U.heap[q]? = s.heap[q]? := by
  obtain ⟨-, h2, -, -, -, h6⟩ := h
  refine ⟨h2, fun q hq hz => ?_⟩
  obtain ⟨c9, e1, e2, e3, e4⟩ := h6 q _ (Array.getElem?_eq_getElem hq)
  have hs : c9.slots = (s.heap[q]).slots := Array.ext_getElem? fun i => e4 i fun hm => hz _ hm rfl
  have h9 : c9 = s.heap[q] := by
    rw [hs] at e2
    exact e2
  have e5 : U.heap[q]? = some c9 := e1
  rw [e5, h9, Array.getElem?_eq_getElem hq]
/-- the words of a throw but the four that speak of the heap -/
def vx_no (w : Cond) : Bool := decide (w ≠ .isRef (.static Bundle.tN "UNASSIGNED_STACK" Bundle.steD)) && decide (w ≠ .isRef (.static Bundle.tN "SUPPRESSED_SENTINEL" Bundle.listD)) && decide (w ≠ .laysStatic Bundle.tN "UNASSIGNED_STACK" Bundle.steD) && decide (w ≠ .laysStatic Bundle.tN "SUPPRESSED_SENTINEL" Bundle.listD)
def vx_at0 (own : String) (ic : Nat) (X : String) (names : List String) : List Cond := (Bundle.ownAtoms0 own ic X names).filter vx_no
def vx_atS (own : String) (ic : Nat) (X : String) (names : List String) : List Cond := (Bundle.ownAtoms own ic X names).filter vx_no
/-- a word that the tables alone decide, or a good one -/
def vx_ot (w : Cond) : Bool := w.onTables || goodWord w
theorem vx_ot_at {args a' : Array Value} {s U : State} {w : Cond} (hW : s.WarmedH U.vm) (hvm : s.vm = U.vm) (hg : vx_ot w = true) (h : w.before args s = true) : w.before a' U = true := by
  simp only [vx_ot, Bool.or_eq_true] at hg
  rcases hg with hg | hg
  · exact va_tabs hg hvm h
  · exact word_at hW (good_of_word hg) h
/-- a list's words: the good ones out of the method's own list, the others by premises of their own -/
theorem vx_hat {args : Array Value} {s : State} {L B : List Cond} (h1 : ∀ w ∈ L.filter goodWord, w.before args s = true) (h2 : ∀ w ∈ L.filter (fun w => !goodWord w), w ∈ B) (h3 : ∀ w ∈ B, w.before args s = true) : ∀ w ∈ L, w.before args s = true := by
  intro w hw
  by_cases g : goodWord w = true
  · exact h1 w (List.mem_filter.mpr ⟨hw, g⟩)
  · refine h3 w (h2 w (List.mem_filter.mpr ⟨hw, ?_⟩))
    show (!goodWord w) = true
    cases hgw : goodWord w
    · rfl
    · exact absurd hgw g
theorem vx_c {args : Array Value} {s : State} {w : Cond} {B : List Cond} (h : w.before args s = true) (t : ∀ w ∈ B, w.before args s = true) : ∀ w' ∈ w :: B, w'.before args s = true := fun w' h' => (List.mem_cons.mp h').elim (fun e => by rw [e]; exact h) (t w')
theorem vx_n {args : Array Value} {s : State} : ∀ w ∈ ([] : List Cond), w.before args s = true := fun _ h => nomatch h
theorem vx_own {args : Array Value} {s : State} {L : List Cond} (h1 : ∀ w ∈ L.filter vx_no, w.before args s = true)
    (hU : (Cond.isRef (.static Bundle.tN "UNASSIGNED_STACK" Bundle.steD)).before args s = true) (hN : (Cond.isRef (.static Bundle.tN "SUPPRESSED_SENTINEL" Bundle.listD)).before args s = true)
    (lU : (Cond.laysStatic Bundle.tN "UNASSIGNED_STACK" Bundle.steD).before args s = true) (lN : (Cond.laysStatic Bundle.tN "SUPPRESSED_SENTINEL" Bundle.listD).before args s = true) : ∀ w ∈ L, w.before args s = true := by
  intro w hw
  by_cases e1 : w = .isRef (.static Bundle.tN "UNASSIGNED_STACK" Bundle.steD)
  · rw [e1]; exact hU
  · by_cases e2 : w = .isRef (.static Bundle.tN "SUPPRESSED_SENTINEL" Bundle.listD)
    · rw [e2]; exact hN
    · by_cases e3 : w = .laysStatic Bundle.tN "UNASSIGNED_STACK" Bundle.steD
      · rw [e3]; exact lU
      · by_cases e4 : w = .laysStatic Bundle.tN "SUPPRESSED_SENTINEL" Bundle.listD
        · rw [e4]; exact lN
        · exact h1 w (List.mem_filter.mpr ⟨hw, by unfold vx_no; rw [decide_eq_true e1, decide_eq_true e2, decide_eq_true e3, decide_eq_true e4]; rfl⟩)
/-- where a static field lies, its class's statics cell in H -/
def vx_L (C n d : String) (A : Nat → Prop) (U : State) (H : Heap) : Prop := ∃ (c : ClassId) (k : Class) (i : Nat) (f : Field) (a : Nat) (cell : Cell), U.vm.findClass C = some c ∧ U.fieldFound? C n d = some (c, k, i, f) ∧ f.isStatic = true ∧ k.statics = some a ∧ H[a]? = some cell ∧ cell.vm.isStatics = true ∧ cell.cls = c ∧ f.slot < cell.slots.size ∧ k.staticTypes[f.slot]? = some f.type ∧ ¬ A a
theorem vx_L.moved {C n d : String} {A : Nat → Prop} {u U : State} {H : Heap} (hvm : u.vm.Alike U.vm) (h : vx_L C n d A u H) : vx_L C n d A U H := by
  obtain ⟨c, k, i, f, a, cell, h1, h2, h3, h4, h5, h6, h7, h8, h9, h10⟩ := h
  obtain ⟨k', hi', he⟩ := State.fieldFound?_setVm hvm h2
  exact ⟨c, k', i, f, a, cell, by rw [hvm.findClass]; exact h1, hi', h3, by rw [he]; exact h4, h5, h6, h7, h8, by rw [he]; exact h9, h10⟩
theorem vx_L.kept {C n d : String} {A : Nat → Prop} {U : State} {H H1 : Heap} (h : vx_L C n d A U H) (hq : ∀ a : Nat, a < H.size → ¬ A a → H1[a]? = H[a]?) : vx_L C n d A U H1 := by
  obtain ⟨c, k, i, f, a, cell, h1, h2, h3, h4, h5, h6, h7, h8, h9, h10⟩ := h
  exact ⟨c, k, i, f, a, cell, h1, h2, h3, h4, by rw [hq a (Array.getElem?_eq_some_iff.mp h5).1 h10]; exact h5, h6, h7, h8, h9, h10⟩
theorem vx_L.narrow {C n d : String} {A B : Nat → Prop} {U : State} {H : Heap} (h : vx_L C n d A U H) (hAB : ∀ q, B q → A q) : vx_L C n d B U H := by
  obtain ⟨c, k, i, f, a, cell, h1, h2, h3, h4, h5, h6, h7, h8, h9, h10⟩ := h
  exact ⟨c, k, i, f, a, cell, h1, h2, h3, h4, h5, h6, h7, h8, h9, fun z => h10 (hAB _ z)⟩
theorem vx_L.word {C n d : String} {A : Nat → Prop} {s : State} {args : Array Value} (h : vx_L C n d A s s.heap) : (Cond.laysStatic C n d).before args s = true := by
  obtain ⟨c, k, i, f, a, cell, h1, h2, h3, h4, h5, h6, h7, h8, h9, -⟩ := h
  show (Cond.laysStatic C n d).holds args s none s [] = true
  exact Cond.laysStatic_of h1 h2 h3 h4 h5 h6 h7 h8 h9
/-- .. and what it holds: null or some reference -/
def vx_Zq (C n d : String) (A : Nat → Prop) (U : State) (H : Heap) : Prop := va_Zq C n d A U H ∧ vx_L C n d A U H
theorem vx_Zq.moved {C n d : String} {A : Nat → Prop} {u U : State} {H : Heap} (hvm : u.vm.Alike U.vm) (h : vx_Zq C n d A u H) : vx_Zq C n d A U H := ⟨va_Zq.moved hvm h.1, vx_L.moved hvm h.2⟩
theorem vx_Zq.kept {C n d : String} {A : Nat → Prop} {U : State} {H H1 : Heap} (h : vx_Zq C n d A U H) (hq : ∀ a : Nat, a < H.size → ¬ A a → H1[a]? = H[a]?) : vx_Zq C n d A U H1 := ⟨va_Zq.kept h.1 hq, vx_L.kept h.2 hq⟩
theorem vx_Zq.narrow {C n d : String} {A B : Nat → Prop} {U : State} {H : Heap} (h : vx_Zq C n d A U H) (hAB : ∀ q, B q → A q) : vx_Zq C n d B U H := ⟨va_Zq.narrow h.1 hAB, vx_L.narrow h.2 hAB⟩
theorem vx_Zqof {args : Array Value} {s : State} {C n d : String} {A : Nat → Prop} (hl : (Cond.laysStatic C n d).before args s = true) (hini : (Cond.initialized C).before args s = true) (h : (Cond.isRef (.static C n d)).before args s = true) (hA : ∀ a : Nat, a < s.heap.size → ¬ A a) : vx_Zq C n d A s s.heap := by
  refine ⟨va_Zqof hl hini h hA, ?_⟩
  obtain ⟨c, k, i, f, a, cell, h1, h2, h3, h4, h5, h6, h7, h8, h9⟩ := Cond.laysStatic_spec hl
  exact ⟨c, k, i, f, a, cell, h1, h2, h3, h4, h5, h6, h7, h8, h9, hA a (Array.getElem?_eq_some_iff.mp h5).1⟩
theorem vx_isRef {C n d : String} {v : Value} {A : Nat → Prop} {s : State} {args : Array Value} (h : va_Z C n d v A s s.heap) (hv : v.isRef = true) : (Cond.isRef (.static C n d)).before args s = true := by
  obtain ⟨cf, kf, fi, f, a, cell, h1, h2, h3, h4, h5, h6, h7, -⟩ := h
  have he : (Term.static C n d).eval args s none [] s = some v := by
    simp [Term.eval, State.fieldNamed?, h1, h2, h4, h5, h6, h7]
  simp only [Cond.before, Cond.holds, Cond.value, he]
  cases v <;> simp_all [Value.isRef]
theorem vx_isRefq {C n d : String} {A : Nat → Prop} {s : State} {args : Array Value} (h : va_Zq C n d A s s.heap) : (Cond.isRef (.static C n d)).before args s = true := by
  rcases h with h | ⟨t, h⟩
  · exact vx_isRef h rfl
  · exact vx_isRef h rfl
/-- the same frame, seen from here: as if the method were called anew in this heap -/
theorem vx_rebase {T : State} (X : Stand p l e R s m args below meth c T locs cells slots) {R' : Room} (hf : R'.frames ≤ R.frames) (hl : R'.locals ≤ R.locals) (hc : cells + R'.cells ≤ R.cells) (hs : slots + R'.slots ≤ R.slots) :
    Stand p l e R' ((T.setVm s.vm).setFrames (.invoking m args :: below)) m args below meth c T [] 0 0 := by
  have htop : (T.setVm s.vm).topJava?.isSome := X.here.top
  have hF : ((T.setVm s.vm).setFrames (.invoking m args :: below)).frames = .invoking m args :: below := State.frames_setFrames _ (State.cur_lt_of_top htop)
  obtain ⟨g₀, hg0⟩ := Option.isSome_iff_exists.mp htop
  obtain ⟨r, hr⟩ := State.topJava?_eq_some.mp hg0
  have hl9 : e.platform.stackLimits (T.setVm s.vm).me = e.platform.stackLimits s.me := X.limits
  have hb9 : (T.setVm s.vm).me.stackBytes = s.me.stackBytes := X.bytes
  refine ⟨X.admits, X.cas, X.clock, hF, ?_, X.hears, X.method, X.code, X.here, X.tail, X.warmed, ?_, ?_, ?_⟩
  · have h := X.room
    have hU : ((T.setVm s.vm).setFrames (.invoking m args :: below)).localsInUse = s.localsInUse := by
      rw [State.localsInUse_invoking hF (meth := meth) (c := c) X.method X.code, State.localsInUse_invoking X.frames X.method X.code]
    simp only [State.hasRoom, Bool.and_eq_true, decide_eq_true_eq] at h ⊢
    obtain ⟨⟨⟨⟨h1, h2, h3, h4, h5, h6⟩, h7⟩, h8⟩, h9⟩ := h
    rw [X.frames, List.length_cons] at h2 h3
    have q1 := X.heapSize
    have q2 := X.used
    simp only [hF, hU, List.length_cons, State.stackLimits_setFrames, State.stackBytes_setFrames, hl9, hb9]
    refine ⟨⟨⟨⟨by omega, by omega, by omega, by omega, by omega, h6⟩, ?_⟩, ?_⟩, X.book⟩
    · show T.heap.size + R'.cells ≤ e.platform.maxCells
      omega
    · show T.slotsUsed + R'.slots ≤ e.platform.maxSlots
      omega
  · rw [State.stackLimits_setFrames]; rfl
  · rw [State.stackBytes_setFrames]; rfl
  · refine ⟨?_, Nat.le_refl _, Nat.le_refl _, ?_, ?_, fun a c9 h9 => ⟨c9, h9, rfl, rfl, fun _ _ => rfl⟩⟩
    · obtain ⟨t, ht, -⟩ := State.frames_cons hr
      show T.setVm s.vm = { ((T.setVm s.vm).setFrames (.invoking m args :: below)).setFrames (T.setVm s.vm).frames with heap := T.heap, slotsUsed := T.slotsUsed }
      rw [State.setFrames_setFrames, State.setFrames_self ht]
      rfl
    · show T.slotsUsed = T.slotsUsed + ((T.heap.toList.drop T.heap.size).map (·.slots.size)).sum
      rw [List.drop_eq_nil_of_le (Nat.le_of_eq Array.length_toList)]
      rfl
    · show ((T.heap.toList.drop T.heap.size).map (·.slots.size)).sum ≤ 0
      rw [List.drop_eq_nil_of_le (Nat.le_of_eq Array.length_toList)]
      exact Nat.le_refl _
/-- 'throw new E()': new; dup; invokespecial; athrow -/
theorem vx_throw0 {cc : ByteArray} {pc : Nat} (hexec : p.tables.exec = Jvm.exec) (hb : c.code = cc) (hl : l.stackTraces = false) {own cls : String} {names : List String} {ik ic mc ms : Nat} {A : Nat → Prop}
    (hown : s.vm.findClass own = some m.cls) (hcls : Bundle.fit cls = true) (hnames : ∀ n ∈ names, Bundle.fit n = true)
    (hk : (Cond.classLink own ik cls).before args s = true) (hini : (Cond.initialized cls).before args s = true) (hat : ∀ w ∈ vx_at0 own ic cls names, w.before args s = true)
    (hgood : ∀ w ∈ Cond.classLink own ik cls :: Cond.initialized cls :: vx_at0 own ic cls names, vx_ot w = true)
    (hU : vx_Zq Bundle.tN "UNASSIGNED_STACK" Bundle.steD A s s.heap) (hN : vx_Zq Bundle.tN "SUPPRESSED_SENTINEL" Bundle.listD A s s.heap) (hS : va_S A s.heap H locs) (hsize : ls.size = c.maxLocals)
    (d0 : decode cc pc = .ok (.new ik, 3)) (d3 : decode cc (pc + 3) = .ok (.dup, 1)) (d4 : decode cc (pc + 4) = .ok (.invokespecial ic, 3)) (d7 : decode cc (pc + 7) = .ok (.athrow, 1))
    (hout : ∀ x ∈ c.exceptionTable.toList, covers x (pc + 7) = false)
    (hRframes : names.length + 3 < R.frames) (hRlocals : (rest.map fun v => v.category).sum + (13 * (names.length + 1) + 42) ≤ R.locals) (hRcells : cells + 1 ≤ R.cells) (hRslots : slots + 6 ≤ R.slots) (hlocks : meth.locks = false)
    (hx : ∀ t : State, s.vm.Alike t.vm → H.size ≤ t.heap.size → (∀ q : Nat, q < H.size → t.heap[q]? = H[q]?) → XC cls s t)
    (hf : ∀ z ∈ locs, free z.base) (hc : cells + 1 ≤ mc) (hs : slots + 6 ≤ ms) :
    W p l e R s m args below meth c H locs cells slots (vx_MQ below Qc XC args s mc ms free) (F0 m pc ls rest) := by
  intro T hT X
  have htr : e.platform.stackTraces = false := (show e.platform.stackTraces = l.stackTraces by rw [X.admits.platform]).trans hl
  have Y := vx_rebase X (R' := { frames := R.frames, locals := R.locals, cells := 1, slots := 6 }) (Nat.le_refl _) (Nat.le_refl _) hRcells hRslots
  obtain ⟨s', hA⟩ : ∃ z, z = (T.setVm s.vm).setFrames (.invoking m args :: below) := ⟨_, rfl⟩
  rw [← hA] at Y
  have hvm : s'.vm = s.vm := by rw [hA]; rfl
  have hhp : s'.heap = H := by rw [hA]; exact hT
  have hW0 : s.WarmedH s'.vm := by rw [hvm]; exact State.WarmedH.refl s
  have hat' : ∀ w ∈ vx_at0 own ic cls names, w.before args s' = true := fun w hw => vx_ot_at hW0 hvm.symm (hgood w (List.mem_cons_of_mem _ (List.mem_cons_of_mem _ hw))) (hat w hw)
  have hk' : (Cond.classLink own ik cls).before args s' = true := vx_ot_at hW0 hvm.symm (hgood _ List.mem_cons_self) hk
  have hini' : (Cond.initialized cls).before args s' = true := vx_ot_at hW0 hvm.symm (hgood _ (List.mem_cons_of_mem _ List.mem_cons_self)) hini
  have hU' : vx_Zq Bundle.tN "UNASSIGNED_STACK" Bundle.steD A s' s'.heap := by rw [hhp]; exact vx_Zq.moved hW0.alike (hU.kept hS.2.1)
  have hN' : vx_Zq Bundle.tN "SUPPRESSED_SENTINEL" Bundle.listD A s' s'.heap := by rw [hhp]; exact vx_Zq.moved hW0.alike (hN.kept hS.2.1)
  have h : ∀ w ∈ Bundle.ownAtoms0 own ic cls names, w.before args s' = true := vx_own hat' (vx_isRefq hU'.1) (vx_isRefq hN'.1) hU'.2.word hN'.2.word
  have hown' : s'.vm.findClass own = some m.cls := by rw [hvm]; exact hown
  have hins : (Cond.instantiable cls 6).before args s' = true := h _ (by simp [Bundle.ownAtoms0])
  obtain ⟨vm₁, cX, kX, hfX, hkX, -, -, X₁, st1⟩ := Y.newCold hexec (own := own) (C := cls) (index := ik) (n := 6) hown' hk' hins hini'
    (g := F0 m pc ls rest) rfl (by rw [hb]; exact d0) (Nat.le_refl _) (Nat.le_refl _)
  generalize hT1 : (T.setVm vm₁).pushCell { cls := cX, slots := kX.instanceTypes.map defaultValue, vm := .none } = T1 at X₁ st1
  have hcat : (Value.ref T.heap.size).category = 1 := rfl
  have hcellA : T1.heap[T.heap.size]? = some (freshCell cX kX) := by rw [← hT1]; exact State.heap_pushCell_size _ _
  have d3' : decode c.code (pc + 3) = .ok (.dup, 1) := by rw [hb]; exact d3
  obtain ⟨U, hsteps, hrun, hend, hW, hsame, ce, hce, hO⟩ := X₁.ctorThrow0 hexec htr (own := own) (cls := cls) (names := names) (ic := ic) hown' hcls hnames h (fun x hx => nomatch hx) hfX hkX hcellA (by rw [hhp, hT]; exact Nat.le_refl _)
    (g := { method := m, pc := pc + 4, locals := ls, stack := .ref T.heap.size :: .ref T.heap.size :: rest, locked := none }) rfl hsize rfl rfl (rest := rest) rfl
    (by rw [hb]; exact d4) (by rw [hb]; exact d7) hout hRframes (by simp only [List.map_cons, List.sum_cons, hcat]; omega) hlocks
  obtain ⟨f1, f2⟩ := vx_frame hsame
  rw [hhp] at f1 f2
  have hWs : s.WarmedH U.vm := State.WarmedH.trans hW0 hW
  have hcl : s.vm.findClass cls = some ce.cls := by
    have h9 := hO.cls
    rw [hvm] at h9
    exact h9
  have hall : s.sameButNew ({ U with vm := s.vm } : State) locs mc ms := by
    subst hA
    obtain ⟨e1, e2⟩ := hsame
    rw [State.setFrames_setFrames] at e1
    have h2 : (T.setVm s.vm).sameButNew ({ U with vm := s.vm } : State) [] (0 + 1) (0 + 6) := ⟨e1, e2⟩
    have h3 := X.same.trans h2
    rw [List.append_nil] at h3
    exact h3.mono hc hs
  refine ⟨U, ?_, .threw T.heap.size, hrun, hend, Or.inr ⟨T.heap.size, rfl, cls, ce, locs, hx U hWs.alike f1 (fun q hq => f2 q hq (fun z hz => nomatch hz)), hce, hO.vm, hcl, hWs, hall, hf⟩⟩
  refine st1 _ ?_
  show Steps p.tables e below (T1.setTop { method := m, pc := pc + 3, locals := ls, stack := .ref T.heap.size :: rest, locked := none }) _
  jvm_step X₁.here [X₁.here.top, hexec, d3', Value.category]
  exact hsteps
/-- 'throw new E("text")': new; dup; ldc; invokespecial; athrow -/
theorem vx_throwS {cc : ByteArray} {pc : Nat} (hexec : p.tables.exec = Jvm.exec) (hb : c.code = cc) (hl : l.stackTraces = false) {own cls text : String} {names : List String} {ik is ic mc ms sa : Nat} {A : Nat → Prop}
    (hown : s.vm.findClass own = some m.cls) (hcls : Bundle.fit cls = true) (hnames : ∀ n ∈ names, Bundle.fit n = true)
    (hk : (Cond.classLink own ik cls).before args s = true) (hini : (Cond.initialized cls).before args s = true) (hstr : vk_R own is text sa s) (hat : ∀ w ∈ vx_atS own ic cls names, w.before args s = true)
    (hgood : ∀ w ∈ Cond.classLink own ik cls :: Cond.initialized cls :: vx_atS own ic cls names, vx_ot w = true)
    (hU : vx_Zq Bundle.tN "UNASSIGNED_STACK" Bundle.steD A s s.heap) (hN : vx_Zq Bundle.tN "SUPPRESSED_SENTINEL" Bundle.listD A s s.heap) (hS : va_S A s.heap H locs) (hsize : ls.size = c.maxLocals)
    (d0 : decode cc pc = .ok (.new ik, 3)) (d3 : decode cc (pc + 3) = .ok (.dup, 1)) (d4 : decode cc (pc + 4) = .ok (.ldc is, 2)) (d6 : decode cc (pc + 6) = .ok (.invokespecial ic, 3)) (d9 : decode cc (pc + 9) = .ok (.athrow, 1))
    (hout : ∀ x ∈ c.exceptionTable.toList, covers x (pc + 9) = false)
    (hRframes : names.length + 3 < R.frames) (hRlocals : (rest.map fun v => v.category).sum + (13 * (names.length + 1) + 43) ≤ R.locals) (hRcells : cells + 1 ≤ R.cells) (hRslots : slots + 6 ≤ R.slots) (hlocks : meth.locks = false)
    (hx : ∀ t : State, s.vm.Alike t.vm → H.size ≤ t.heap.size → (∀ q : Nat, q < H.size → t.heap[q]? = H[q]?) → XC cls s t)
    (hf : ∀ z ∈ locs, free z.base) (hc : cells + 1 ≤ mc) (hs : slots + 6 ≤ ms) :
    W p l e R s m args below meth c H locs cells slots (vx_MQ below Qc XC args s mc ms free) (F0 m pc ls rest) := by
  intro T hT X
  have htr : e.platform.stackTraces = false := (show e.platform.stackTraces = l.stackTraces by rw [X.admits.platform]).trans hl
  have Y := vx_rebase X (R' := { frames := R.frames, locals := R.locals, cells := 1, slots := 6 }) (Nat.le_refl _) (Nat.le_refl _) hRcells hRslots
  obtain ⟨s', hA⟩ : ∃ z, z = (T.setVm s.vm).setFrames (.invoking m args :: below) := ⟨_, rfl⟩
  rw [← hA] at Y
  have hvm : s'.vm = s.vm := by rw [hA]; rfl
  have hhp : s'.heap = H := by rw [hA]; exact hT
  have hW0 : s.WarmedH s'.vm := by rw [hvm]; exact State.WarmedH.refl s
  have hat' : ∀ w ∈ vx_atS own ic cls names, w.before args s' = true := fun w hw => vx_ot_at hW0 hvm.symm (hgood w (List.mem_cons_of_mem _ (List.mem_cons_of_mem _ hw))) (hat w hw)
  have hk' : (Cond.classLink own ik cls).before args s' = true := vx_ot_at hW0 hvm.symm (hgood _ List.mem_cons_self) hk
  have hini' : (Cond.initialized cls).before args s' = true := vx_ot_at hW0 hvm.symm (hgood _ (List.mem_cons_of_mem _ List.mem_cons_self)) hini
  have hU' : vx_Zq Bundle.tN "UNASSIGNED_STACK" Bundle.steD A s' s'.heap := by rw [hhp]; exact vx_Zq.moved hW0.alike (hU.kept hS.2.1)
  have hN' : vx_Zq Bundle.tN "SUPPRESSED_SENTINEL" Bundle.listD A s' s'.heap := by rw [hhp]; exact vx_Zq.moved hW0.alike (hN.kept hS.2.1)
  have h : ∀ w ∈ Bundle.ownAtoms own ic cls names, w.before args s' = true := vx_own hat' (vx_isRefq hU'.1) (vx_isRefq hN'.1) hU'.2.word hN'.2.word
  have hown' : s'.vm.findClass own = some m.cls := by rw [hvm]; exact hown
  have hins : (Cond.instantiable cls 6).before args s' = true := h _ (by simp [Bundle.ownAtoms])
  obtain ⟨vm₁, cX, kX, hfX, hkX, -, -, X₁, st1⟩ := Y.newCold hexec (own := own) (C := cls) (index := ik) (n := 6) hown' hk' hins hini'
    (g := F0 m pc ls rest) rfl (by rw [hb]; exact d0) (Nat.le_refl _) (Nat.le_refl _)
  generalize hT1 : (T.setVm vm₁).pushCell { cls := cX, slots := kX.instanceTypes.map defaultValue, vm := .none } = T1 at X₁ st1
  have hcat : (Value.ref T.heap.size).category = 1 := rfl
  have hcellA : T1.heap[T.heap.size]? = some (freshCell cX kX) := by rw [← hT1]; exact State.heap_pushCell_size _ _
  have d3' : decode c.code (pc + 3) = .ok (.dup, 1) := by rw [hb]; exact d3
  have d4' : decode c.code (pc + 4) = .ok (.ldc is, 2) := by rw [hb]; exact d4
  have hstr' : vk_R own is text sa s' := vk_R.warm hW0 hstr
  obtain ⟨U, hsteps, hrun, hend, hW, hsame, ce, hce, hO⟩ := X₁.ctorThrowS hexec htr (own := own) (cls := cls) (names := names) (ic := ic) hown' hcls hnames h (fun x hx => nomatch hx) hfX hkX hcellA (by rw [hhp, hT]; exact Nat.le_refl _) (msg := .ref sa) rfl
    (g := { method := m, pc := pc + 6, locals := ls, stack := .ref sa :: .ref T.heap.size :: .ref T.heap.size :: rest, locked := none }) rfl hsize rfl rfl (rest := rest) rfl
    (by rw [hb]; exact d6) (by rw [hb]; exact d9) hout hRframes (by simp only [List.map_cons, List.sum_cons, hcat]; omega) hlocks
  obtain ⟨f1, f2⟩ := vx_frame hsame
  rw [hhp] at f1 f2
  have hWs : s.WarmedH U.vm := State.WarmedH.trans hW0 hW
  have hcl : s.vm.findClass cls = some ce.cls := by
    have h9 := hO.cls
    rw [hvm] at h9
    exact h9
  have hall : s.sameButNew ({ U with vm := s.vm } : State) locs mc ms := by
    subst hA
    obtain ⟨e1, e2⟩ := hsame
    rw [State.setFrames_setFrames] at e1
    have h2 : (T.setVm s.vm).sameButNew ({ U with vm := s.vm } : State) [] (0 + 1) (0 + 6) := ⟨e1, e2⟩
    have h3 := X.same.trans h2
    rw [List.append_nil] at h3
    exact h3.mono hc hs
  refine ⟨U, ?_, .threw T.heap.size, hrun, hend, Or.inr ⟨T.heap.size, rfl, cls, ce, locs, hx U hWs.alike f1 (fun q hq => f2 q hq (fun z hz => nomatch hz)), hce, hO.vm, hcl, hWs, hall, hf⟩⟩
  refine st1 _ ?_
  show Steps p.tables e below (T1.setTop { method := m, pc := pc + 3, locals := ls, stack := .ref T.heap.size :: rest, locked := none }) _
  jvm_step X₁.here [X₁.here.top, hexec, d3', Value.category]
  exact X₁.ldcString hexec (own := own) (text := text) (index := is) (a := sa) hown' hstr'.1 hstr'.2
    (g := { method := m, pc := pc + 4, locals := ls, stack := .ref T.heap.size :: .ref T.heap.size :: rest, locked := none }) rfl d4' _ hsteps
/-- 'throw new E("text")', the text by a wide index -/
theorem vx_throwSW {cc : ByteArray} {pc : Nat} (hexec : p.tables.exec = Jvm.exec) (hb : c.code = cc) (hl : l.stackTraces = false) {own cls text : String} {names : List String} {ik is ic mc ms sa : Nat} {A : Nat → Prop}
    (hown : s.vm.findClass own = some m.cls) (hcls : Bundle.fit cls = true) (hnames : ∀ n ∈ names, Bundle.fit n = true)
    (hk : (Cond.classLink own ik cls).before args s = true) (hini : (Cond.initialized cls).before args s = true) (hstr : vk_R own is text sa s) (hat : ∀ w ∈ vx_atS own ic cls names, w.before args s = true)
    (hgood : ∀ w ∈ Cond.classLink own ik cls :: Cond.initialized cls :: vx_atS own ic cls names, vx_ot w = true)
    (hU : vx_Zq Bundle.tN "UNASSIGNED_STACK" Bundle.steD A s s.heap) (hN : vx_Zq Bundle.tN "SUPPRESSED_SENTINEL" Bundle.listD A s s.heap) (hS : va_S A s.heap H locs) (hsize : ls.size = c.maxLocals)
    (d0 : decode cc pc = .ok (.new ik, 3)) (d3 : decode cc (pc + 3) = .ok (.dup, 1)) (d4 : decode cc (pc + 4) = .ok (.ldc_w is, 3)) (d7 : decode cc (pc + 7) = .ok (.invokespecial ic, 3)) (d10 : decode cc (pc + 10) = .ok (.athrow, 1))
    (hout : ∀ x ∈ c.exceptionTable.toList, covers x (pc + 10) = false)
    (hRframes : names.length + 3 < R.frames) (hRlocals : (rest.map fun v => v.category).sum + (13 * (names.length + 1) + 43) ≤ R.locals) (hRcells : cells + 1 ≤ R.cells) (hRslots : slots + 6 ≤ R.slots) (hlocks : meth.locks = false)
    (hx : ∀ t : State, s.vm.Alike t.vm → H.size ≤ t.heap.size → (∀ q : Nat, q < H.size → t.heap[q]? = H[q]?) → XC cls s t)
    (hf : ∀ z ∈ locs, free z.base) (hc : cells + 1 ≤ mc) (hs : slots + 6 ≤ ms) :
    W p l e R s m args below meth c H locs cells slots (vx_MQ below Qc XC args s mc ms free) (F0 m pc ls rest) := by
  intro T hT X
  have htr : e.platform.stackTraces = false := (show e.platform.stackTraces = l.stackTraces by rw [X.admits.platform]).trans hl
  have Y := vx_rebase X (R' := { frames := R.frames, locals := R.locals, cells := 1, slots := 6 }) (Nat.le_refl _) (Nat.le_refl _) hRcells hRslots
  obtain ⟨s', hA⟩ : ∃ z, z = (T.setVm s.vm).setFrames (.invoking m args :: below) := ⟨_, rfl⟩
  rw [← hA] at Y
  have hvm : s'.vm = s.vm := by rw [hA]; rfl
  have hhp : s'.heap = H := by rw [hA]; exact hT
  have hW0 : s.WarmedH s'.vm := by rw [hvm]; exact State.WarmedH.refl s
  have hat' : ∀ w ∈ vx_atS own ic cls names, w.before args s' = true := fun w hw => vx_ot_at hW0 hvm.symm (hgood w (List.mem_cons_of_mem _ (List.mem_cons_of_mem _ hw))) (hat w hw)
  have hk' : (Cond.classLink own ik cls).before args s' = true := vx_ot_at hW0 hvm.symm (hgood _ List.mem_cons_self) hk
  have hini' : (Cond.initialized cls).before args s' = true := vx_ot_at hW0 hvm.symm (hgood _ (List.mem_cons_of_mem _ List.mem_cons_self)) hini
  have hU' : vx_Zq Bundle.tN "UNASSIGNED_STACK" Bundle.steD A s' s'.heap := by rw [hhp]; exact vx_Zq.moved hW0.alike (hU.kept hS.2.1)
  have hN' : vx_Zq Bundle.tN "SUPPRESSED_SENTINEL" Bundle.listD A s' s'.heap := by rw [hhp]; exact vx_Zq.moved hW0.alike (hN.kept hS.2.1)
  have h : ∀ w ∈ Bundle.ownAtoms own ic cls names, w.before args s' = true := vx_own hat' (vx_isRefq hU'.1) (vx_isRefq hN'.1) hU'.2.word hN'.2.word
  have hown' : s'.vm.findClass own = some m.cls := by rw [hvm]; exact hown
  have hins : (Cond.instantiable cls 6).before args s' = true := h _ (by simp [Bundle.ownAtoms])
  obtain ⟨vm₁, cX, kX, hfX, hkX, -, -, X₁, st1⟩ := Y.newCold hexec (own := own) (C := cls) (index := ik) (n := 6) hown' hk' hins hini'
    (g := F0 m pc ls rest) rfl (by rw [hb]; exact d0) (Nat.le_refl _) (Nat.le_refl _)
  generalize hT1 : (T.setVm vm₁).pushCell { cls := cX, slots := kX.instanceTypes.map defaultValue, vm := .none } = T1 at X₁ st1
  have hcat : (Value.ref T.heap.size).category = 1 := rfl
  have hcellA : T1.heap[T.heap.size]? = some (freshCell cX kX) := by rw [← hT1]; exact State.heap_pushCell_size _ _
  have d3' : decode c.code (pc + 3) = .ok (.dup, 1) := by rw [hb]; exact d3
  have d4' : decode c.code (pc + 4) = .ok (.ldc_w is, 3) := by rw [hb]; exact d4
  have hstr' : vk_R own is text sa s' := vk_R.warm hW0 hstr
  obtain ⟨U, hsteps, hrun, hend, hW, hsame, ce, hce, hO⟩ := X₁.ctorThrowS hexec htr (own := own) (cls := cls) (names := names) (ic := ic) hown' hcls hnames h (fun x hx => nomatch hx) hfX hkX hcellA (by rw [hhp, hT]; exact Nat.le_refl _) (msg := .ref sa) rfl
    (g := { method := m, pc := pc + 7, locals := ls, stack := .ref sa :: .ref T.heap.size :: .ref T.heap.size :: rest, locked := none }) rfl hsize rfl rfl (rest := rest) rfl
    (by rw [hb]; exact d7) (by rw [hb]; exact d10) hout hRframes (by simp only [List.map_cons, List.sum_cons, hcat]; omega) hlocks
  obtain ⟨f1, f2⟩ := vx_frame hsame
  rw [hhp] at f1 f2
  have hWs : s.WarmedH U.vm := State.WarmedH.trans hW0 hW
  have hcl : s.vm.findClass cls = some ce.cls := by
    have h9 := hO.cls
    rw [hvm] at h9
    exact h9
  have hall : s.sameButNew ({ U with vm := s.vm } : State) locs mc ms := by
    subst hA
    obtain ⟨e1, e2⟩ := hsame
    rw [State.setFrames_setFrames] at e1
    have h2 : (T.setVm s.vm).sameButNew ({ U with vm := s.vm } : State) [] (0 + 1) (0 + 6) := ⟨e1, e2⟩
    have h3 := X.same.trans h2
    rw [List.append_nil] at h3
    exact h3.mono hc hs
  refine ⟨U, ?_, .threw T.heap.size, hrun, hend, Or.inr ⟨T.heap.size, rfl, cls, ce, locs, hx U hWs.alike f1 (fun q hq => f2 q hq (fun z hz => nomatch hz)), hce, hO.vm, hcl, hWs, hall, hf⟩⟩
  refine st1 _ ?_
  show Steps p.tables e below (T1.setTop { method := m, pc := pc + 3, locals := ls, stack := .ref T.heap.size :: rest, locked := none }) _
  jvm_step X₁.here [X₁.here.top, hexec, d3', Value.category]
  exact X₁.ldcStringW hexec (own := own) (text := text) (index := is) (a := sa) hown' hstr'.1 hstr'.2
    (g := { method := m, pc := pc + 4, locals := ls, stack := .ref T.heap.size :: .ref T.heap.size :: rest, locked := none }) rfl d4' _ hsteps
end Ends
section Bodies
variable {l : Launch}
theorem vx_ofW {y : MethodName} {ws ws' : List Cond} {rm : Room} {Pc : Array Value → State → Prop} {Qc : Array Value → State → Outcome → State → Prop} {XC : String → State → State → Prop} {mc ms : Nat} {free : Addr → Prop} {cc : ByteArray} {maxL : Nat} {ret : Option FieldType}
    (hy : plainName y.cls = true) (hw : ws = Cond.code y cc maxL ret :: ws')
    (body : ∀ p e s m args below meth c s₁, BodyLoose p l y (headSpec ws rm) cc maxL ret e s m args below meth c s₁ → c.maxLocals = maxL → (∀ x ∈ c.exceptionTable.toList, False) → Pc args s →
      W p l e (headSpec ws rm).room s m args below meth c s.heap [] 0 0 (vx_MQ below Qc XC args s mc ms free) (entryFrame m args maxL)) : vx_Met l y ws rm Pc Qc XC mc ms free := by
  refine MetFree.of_bodyS (code := cc) (maxLocals := maxL) (ret := ret) hy ?_ ?_
  · intro args s m h hn
    obtain ⟨meth, c, h1, h2, h3, h4, h5, h6, -, -⟩ := Cond.code_spec hn (atoms_spec (ws := ws) h _ (by rw [hw]; exact List.mem_cons_self))
    exact ⟨meth, c, h1, h2, h3, h4, h5, h6⟩
  · intro p e s m args below meth c s₁ B hml hP _
    have hh0 : s₁.heap = s.heap := by rw [B.state]; rfl
    have ht : ∀ x ∈ c.exceptionTable.toList, False := by
      obtain ⟨meth9, c9, h1, h2, -, -, -, -, h7, -⟩ := Cond.code_spec B.named (atoms_spec (ws := ws) B.pre _ (by rw [hw]; exact List.mem_cons_self))
      cases Option.some.inj (h1.symm.trans B.method)
      cases Option.some.inj (h2.symm.trans (Stand.of_body B).code)
      intro x hx
      rw [Array.isEmpty_iff.mp h7] at hx
      cases hx
    obtain ⟨t, a1, o, b1, b2, b3⟩ := body p e s m args below meth c s₁ B hml ht hP s₁ hh0 (Stand.of_body B)
    exact ⟨t, o, a1, b1, b2, b3⟩
/-- the table of a body with handlers -/
theorem vx_table {p : Program} {x y : MethodName} {S : Spec} {cc bytes : ByteArray} {maxL maxL' : Nat} {ret ret' : Option FieldType} {e : Env} {s s₁ : State} {m : MethodId} {args : Array Value} {below : List Frame} {meth : Method} {c : Code} {hh : List (Nat × Nat × Nat × Nat)}
    (B : BodyLoose p l y S cc maxL ret e s m args below meth c s₁) (h : (Cond.codeWith y bytes maxL' ret' hh).before args s = true) : c.exceptionTable.toList = tableOf hh := by
  obtain ⟨m9, meth9, c9, hn9, h1, h2, -, -, h6, -⟩ := Cond.codeWith_spec h
  cases Option.some.inj (hn9.symm.trans B.named)
  cases Option.some.inj (h1.symm.trans B.method)
  cases Option.some.inj (h2.symm.trans (Stand.of_body B).code)
  rw [← h6, table_eq]
end Bodies
end VXA
/-! ===== END ===== -/
/-! ===== BEGIN a static call of a method with an exception table ===== -/
section VXS
variable {p : Program} {l : Launch} {e : Env} {R : Room} {s : State} {m : MethodId} {args : Array Value} {below : List Frame} {meth : Method} {c : Code} {T : State} {H : Heap} {locs : List Loc} {cells slots : Nat}
abbrev vx_CSW (R : Room) (s : State) (args : Array Value) (own : String) (index : Nat) (y : MethodName) (bytes : ByteArray) (maxL : Nat) (ret : Option FieldType) (hh : List (Nat × Nat × Nat × Nat)) (ws : List Cond) (rm : Room) (mc ms n : Nat) : Prop :=
  (rm.cells = mc ∧ rm.slots = ms ∧ rm.frames + 1 ≤ R.frames ∧ 8 + (maxL + 11) + rm.locals ≤ R.locals ∧ (∀ w ∈ ws, ∀ (a' : Array Value) (U : State), s.WarmedH U.vm → w.before a' U = true) ∧ Cond.codeWith y bytes maxL ret hh ∈ ws) ∧
  (Cond.codeWith y bytes maxL ret hh).before args s = true ∧ (Cond.initialized y.cls).before args s = true ∧ (y.cls ≠ "java/lang/invoke/MethodHandle" ∧ y.cls ≠ "java/lang/invoke/VarHandle") ∧
  (∀ sig, parseMethodDescriptor y.desc = some sig → n = sig.parameters.length) ∧ (Cond.methodLink own index y).before args s = true ∧ (Cond.static y).before args s = true
theorem vx_cwSW {own : String} {index maxL mc ms : Nat} {y : MethodName} {bytes : ByteArray} {ret : Option FieldType} {hh : List (Nat × Nat × Nat × Nat)} {Ts ws ws' : List Cond} {rm : Room} (n : Nat) (ht : ∀ w ∈ Ts, w.before args s = true) (hT : GoodIn Ts (va_wsS own index y ws)) (hw : ws = Cond.codeWith y bytes maxL ret hh :: ws') (hrc : rm.cells = mc) (hrs : rm.slots = ms)
    (hd : y.cls ≠ "java/lang/invoke/MethodHandle" ∧ y.cls ≠ "java/lang/invoke/VarHandle" ∧ (parseMethodDescriptor y.desc).map (fun d => d.parameters.length) = some n) (hR : rm.frames + 1 ≤ R.frames ∧ 8 + (maxL + 11) + rm.locals ≤ R.locals) :
    vx_CSW R s args own index y bytes maxL ret hh ws rm mc ms n := by
  have ok : ∀ w ∈ va_wsS own index y ws, w.before args s = true := fun w h => ht w (hT w h).1
  have hG : GoodIn Ts ws := fun w h => hT w (by unfold va_wsS; exact List.mem_append_right _ h)
  have hc : Cond.codeWith y bytes maxL ret hh ∈ ws := by rw [hw]; exact List.mem_cons_self
  refine ⟨⟨hrc, hrs, hR.1, hR.2, pay_in ht hG, hc⟩, ht _ (hG _ hc).1, ok _ (by simp [va_wsS]), ⟨hd.1, hd.2.1⟩, fun sig h => ?_, ok _ (by simp [va_wsS]), ok _ (by simp [va_wsS])⟩
  have h2 := hd.2.2
  rw [h] at h2
  exact (Option.some.inj h2).symm
theorem vx_callSW (X : Stand p l e R s m args below meth c T locs cells slots) (hexec : p.tables.exec = Jvm.exec) {own : String} {index : Nat} {y : MethodName} {bytes : ByteArray} {maxL : Nat} {ret : Option FieldType} {hh : List (Nat × Nat × Nat × Nat)}
    (hown : s.vm.findClass own = some m.cls) (hlink : (Cond.methodLink own index y).before args s = true) (hstat : (Cond.static y).before args s = true) (hinit : (Cond.initialized y.cls).before args s = true)
    (hcode : (Cond.codeWith y bytes maxL ret hh).before args s = true) (hy : y.cls ≠ "java/lang/invoke/MethodHandle" ∧ y.cls ≠ "java/lang/invoke/VarHandle")
    {W9 : Nat} {Pre : Pt → Array Value → Prop} {Post : Pt → Array Value → Option Value → Pt → Prop} (hK : Back l R p e below s args y 3 W9 Pre Post)
    {g : JFrame} (hg : g.method = m) (hsize : g.locals.size = c.maxLocals) {argsL rest : List Value} (hlen : ∀ sig, parseMethodDescriptor y.desc = some sig → argsL.length = sig.parameters.length)
    (hstack : g.stack = argsL.reverse ++ rest) (hW : 2 * g.monitorRoom + (rest.map fun v => v.category).sum ≤ W9) (hdg : decode c.code g.pc = .ok (.invokestatic index, 3))
    (hpre : ∀ vm₁, s.WarmedH vm₁ → Pre ⟨T.setVm vm₁, locs, cells, slots⟩ argsL.toArray) :
    ∃ (v : Option Value) (vm₁ : Vm) (B : Pt), s.WarmedH vm₁ ∧ Stand p l e R s m args below meth c B.U B.locs B.cells B.slots ∧ Post ⟨T.setVm vm₁, locs, cells, slots⟩ argsL.toArray v B ∧
      ∀ target, Steps p.tables e below (B.U.setTop { g with pc := g.pc + 3, stack := v.toList ++ rest }) target → Steps p.tables e below (T.setTop g) target := by
  obtain ⟨mk, methM, cM, hnamed, hmethM, -, -, -, -, -, -, hsigM⟩ := Cond.codeWith_spec hcode
  have hstatic : methM.isStatic = true := Cond.static_spec hnamed hmethM hstat
  obtain ⟨kP, hkP, -⟩ := className_of_methodNamed hnamed
  have hinitP : kP.init = .initialized := Cond.initialized_spec (findClass_of_methodNamed hnamed) hkP hinit
  obtain ⟨vm₁, X₁, hstep₁⟩ := X.invokestatic hexec hown hlink hnamed hmethM hstatic hkP hinitP hy (g := g) hg (argsL := argsL) (rest := rest) (hlen _ hsigM) hstack hdg
  obtain ⟨v, B, X', hpost, hsteps⟩ := hK m meth c ⟨T.setVm vm₁, locs, cells, slots⟩ { g with stack := rest } (.invokestatic index) mk argsL.toArray X₁ hg hsize hdg hW (X₁.named hnamed) (hpre vm₁ X₁.warmed)
  exact ⟨v, vm₁, B, X₁.warmed, X', hpost, fun target h => hstep₁ _ fun acts => by rw [doInvoke_state]; exact hsteps.trans h⟩
theorem vx_runSW {y : MethodName} {bytes cc : ByteArray} {maxL nL mc ms n index : Nat} {ret : Option FieldType} {hh : List (Nat × Nat × Nat × Nat)} {ws : List Cond} {rm : Room} {Pc : Array Value → State → Prop} {Qc : Array Value → State → Outcome → State → Prop} {free : Addr → Prop} {Ts : List Cond} {own : String} {As rest : List Value} {g : JFrame}
    (S : CallFix p m c cc nL s args Ts own) (hM : Met l y ws rm Pc Qc mc ms free) (cw : vx_CSW R s args own index y bytes maxL ret hh ws rm mc ms n) (hp : PreS s H Pc As)
    (hg : g.method = m) (hn : As.length = n) (hsize : g.locals.size = nL) (hstack : g.stack = As.reverse ++ rest) (hW : 2 * g.monitorRoom + (rest.map fun v => v.category).sum ≤ 8) (hdg : decode cc g.pc = .ok (.invokestatic index, 3)) (hf : cells + mc ≤ R.cells ∧ slots + ms ≤ R.slots) :
    va_Run p l e R s m args below meth c H locs cells slots mc ms g rest (Qc As.toArray) (free) := by
  obtain ⟨⟨hrc, hrs, hfr, hlo, hws, hcw⟩, hcode, hini, hy, hlen, hl, hstt⟩ := cw
  have hK : Back l R p e below s args y 3 8 (PreOf R mc ms Pc) (PostOf Qc mc ms free) := va_backW (hh := hh) (bytes := bytes) (maxL := maxL) (ret := ret) hM hp.1 hrc hrs hfr hlo hws hcw (fun a' U hW => word_at hW (Or.inl (by first | rfl | simp [Cond.onTables, Cond.keeps, Cond.steady])) hini)
  obtain ⟨hx, hb, hml, ho, -⟩ := S
  intro T hT X
  obtain ⟨v, vm₁, ⟨U', l2, c2, s2⟩, hW₁, X', ⟨g', mk, t, L, e1, e2, hq, h1, hL, h2, h3⟩, st⟩ := vx_callSW X hx (hh := hh) (bytes := bytes) (maxL := maxL) (ret := ret) ho hl hstt hini hcode hy hK hg (hsize.trans hml.symm) (argsL := As) (rest := rest) (fun sig h => hn.trans (hlen sig h)) hstack hW (by rw [hb]; exact hdg)
    (fun vm₁ hW₁ => ⟨hf.1, hf.2, hp.2 (T.setVm vm₁) hT hW₁⟩)
  dsimp only [Pt.U, Pt.locs, Pt.cells, Pt.slots] at X' e1 e2 h1 h2 h3 st
  subst h1; subst h2; subst h3
  exact ⟨v, (T.setVm vm₁).calling g' mk As.toArray, t, U', L, hT, X', hL, e1, e2, hq, st⟩
/-- not caught here, past rows that name other classes: it goes on to the caller -/
theorem vx_outP {p : Program} {l : Launch} {e : Env} {R : Room} {s : State} {m : MethodId} {args : Array Value} {below : List Frame} {meth : Method} {c : Code} {H : Heap} {locs : List Loc} {cells slots : Nat} {free : Addr → Prop} {ls : Array Slot} {rest : List Value} {Qc : Array Value → State → Outcome → State → Prop} {XC : String → State → State → Prop}
    {pc : Nat} {own E : String} {ce : Cell} {q : Addr} {mc ms : Nat} (hown : s.vm.findClass own = some m.cls) (hlocks : meth.locks = false)
    (hpass : ∀ z ∈ c.exceptionTable.toList, covers z pc = false ∨ (z.catchType ≠ 0 ∧ ∃ nm : String, (Cond.classLink own z.catchType nm).before args s = true ∧ va_Nc E nm s)) (hcell : H[q]? = some ce) (hv : ce.vm = .none) (hcl : s.vm.findClass E = some ce.cls)
    (hx : ∀ t : State, t.heap = H → s.vm.Alike t.vm → XC E s t) (hf : ∀ z ∈ locs, free z.base) (hc : cells ≤ mc) (hs : slots ≤ ms) :
    vx_W p l e R s m args below meth c H locs cells slots (vx_MQ below Qc XC args s mc ms free) (F0 m pc ls rest) q := by
  intro T hT X
  have hpl : e.platform.magicAccessors = ({} : Platform).magicAccessors := by rw [X.admits.platform]
  obtain ⟨vm', hW', X', st⟩ := X.outThrough hlocks q (g := F0 m pc ls rest) rfl rfl rfl (cell := ce) (by rw [hT]; exact hcell) (by rw [hv]; rfl)
    (by obtain ⟨k9, h9, -⟩ := Vm.findClass_spec hcl; exact ⟨k9, h9⟩) (fun z hz => by
      rcases hpass z hz with h | ⟨hz0, nm, hl1, hn1⟩
      · exact Or.inl h
      · obtain ⟨c6, hc6, hcl6⟩ := Cond.classLink_spec hown hl1 e.platform hpl
        obtain ⟨a8, b8, h1, h2, h3⟩ := hn1
        cases Option.some.inj (h1.symm.trans hcl)
        cases Option.some.inj (h2.symm.trans hc6)
        exact Or.inr ⟨hz0, _, hcl6, h3⟩)
  obtain ⟨g₀, hfr⟩ := X'.frames_eq
  have hcell9 : ((T.setVm vm').setFrames (.throwing q :: below)).heap[q]? = some ce := by
    show T.heap[q]? = some ce
    rw [hT]; exact hcell
  have hend : Ended ((T.setVm vm').setFrames (.throwing q :: below)) below (.threw q) := State.frames_setFrames _ (State.cur_lt_of_frames hfr)
  refine ⟨(T.setVm vm').setFrames (.throwing q :: below), ?_, .threw q, X'.here.running, hend, Or.inr ⟨q, rfl, E, ce, locs, hx _ hT (X'.ends _).1.alike, hcell9, hv, hcl, (X'.ends _).1, (X'.ends _).2.mono hc hs, hf⟩⟩
  rw [X.pushThrowing_eq]
  exact st
/-- a thing of a world lies in the heap -/
theorem vx_lt {D : va_G} {cl : List vw_C} {ws : va_W} {H1 : Heap} (h : va_P D cl ws H1) {k : Nat} {q : Nat × va_E} (hk : ws[k]? = some q) : q.1 < H1.size := (h k q hk).lt
end VXS
/-! ===== END ===== -/
/-! ===== BEGIN methods with a table of their own: called by a name, returning or throwing ===== -/
section VXH
/-! vx_backW, vx_callVX, vx_callSX, vx_callVW, vx_runVW, vx_runVX, vx_runSX, vx_ofWH follow the same proofs as their sisters above (Free/Laws.lean, Shelf42/LK1.lean); vx_outP calls Shelf42/NT130.lean (outThrough). -/
section
variable {l : Launch} {R : Room} {p : Program} {e : Env} {below : List Frame} {s : State} {sargs : Array Value} {y : MethodName} {len W9 : Nat}
theorem vx_backW {ws : List Cond} {rm : Room} {Pc : Array Value → State → Prop} {Qc : Array Value → State → Outcome → State → Prop} {XC : String → State → State → Prop} {mc ms : Nat} {free : Addr → Prop} {bytes : ByteArray} {maxL : Nat} {ret : Option FieldType} {hh : List (Nat × Nat × Nat × Nat)}
    (hM : vx_Met l y ws rm Pc Qc XC mc ms free) (hblind : FrameBlind Pc) (hrc : rm.cells = mc) (hrs : rm.slots = ms)
    (hframes : rm.frames + 1 ≤ R.frames) (hlocals : W9 + (maxL + 11) + rm.locals ≤ R.locals)
    (hws : ∀ w ∈ ws, ∀ a' U, s.WarmedH U.vm → w.before a' U = true) (hcode : Cond.codeWith y bytes maxL ret hh ∈ ws) (hinit : ∀ a' U, s.WarmedH U.vm → (Cond.initialized y.cls).before a' U = true) :
    vx_Back l R p e below s sargs y len W9 (PreOf R mc ms Pc) (PostOf Qc mc ms free) (vx_Post XC mc ms free) := by
  intro m meth c A g ig mk a X hg hsize hdg hW hn hp
  have h1 : (headSpec ws rm).pre.before a A.U = true := atoms_intro fun w hw => hws w hw _ _ X.warmed
  have h2 : (Cond.codeWith y bytes maxL ret hh).before a A.U = true := hws _ hcode _ _ X.warmed
  have h3 : (Cond.initialized y.cls).before a A.U = true := hinit _ _ X.warmed
  have h4 : A.cells + (headSpec ws rm).room.cells ≤ R.cells := by rw [show (headSpec ws rm).room.cells = mc from hrc]; exact hp.1
  have h5 : A.slots + (headSpec ws rm).room.slots ≤ R.slots := by rw [show (headSpec ws rm).room.slots = ms from hrs]; exact hp.2.1
  have hPc : Pc a (A.U.calling g mk a) := hblind _ _ _ _ hp.2.2
  obtain ⟨U, Ls, c0, s0⟩ := A
  dsimp only [Pt.U, Pt.locs, Pt.cells, Pt.slots] at h1 h2 h3 h4 h5 X hn hPc ⊢
  obtain ⟨m9, methY, cY, hn9, hmY, hcY, -, hlY, -⟩ := Cond.codeWith_spec h2
  cases Option.some.inj (hn9.symm.trans hn)
  obtain ⟨kY, hkY, -⟩ := className_of_methodNamed hn
  have hinitY : kY.init = .initialized := Cond.initialized_spec (findClass_of_methodNamed hn) hkY h3
  have h : At U g.method c below := by rw [hg]; exact X.here
  have hlocals9 : W9 + (maxL + 11) + (headSpec ws rm).room.locals ≤ R.locals := hlocals
  have happ : (headSpec ws rm).appliesLoose y e.platform (U.calling g mk a) = true :=
    Spec.appliesLoose_calling (g := g) h hdg hn hkY hinitY
      (X.room_calling (g := g) (R' := (headSpec ws rm).room) hsize hmY hcY hframes (by rw [hlY]; omega) h4 h5) h1
  obtain ⟨mid, hmid⟩ := h.above
  have hfr : (U.setTop g).frames = (.java g :: mid) ++ below := by rw [State.frames_setTop' g h.top, hmid]; rfl
  obtain ⟨o, s₂, hsteps, -, hend, hq⟩ := Steps.callFree hM p X.admits X.cas X.clock (acts := []) hfr happ hPc trivial
  have hq' : vx_Q Qc XC mc ms free a (U.calling g mk a) o s₂ := hq
  rw [State.frames_setTop' g h.top] at hend
  obtain ⟨g₀, hg0⟩ := Option.isSome_iff_exists.mp h.top
  obtain ⟨r, hr⟩ := State.topJava?_eq_some.mp hg0
  have hr' : (({ U with heap := s₂.heap, slotsUsed := s₂.slotsUsed } : State).setVm s₂.vm).frames = .java g₀ :: r := hr
  rcases hq' with ⟨hqc, L, hfe, hL⟩ | ⟨q, rfl, E, ce, L, hx, hce, hcv, hcl, hW₂, hsm, hL⟩
  · obtain ⟨⟨v, rfl⟩, hW₂, e2, q2, q3, q4, q5, q6⟩ := id hfe
    have e3 : s₂ = ({ (U.calling g mk a).setFrames s₂.frames with heap := s₂.heap, slotsUsed := s₂.slotsUsed } : State).setVm s₂.vm := by
      have : s₂ = ({ s₂ with vm := (U.calling g mk a).vm } : State).setVm s₂.vm := rfl
      rw [e2] at this
      exact this
    obtain ⟨c₂, i₂, len₂, hc₂, hd₂, hf₂⟩ := hend
    have hW' : U.WarmedH s₂.vm := hW₂
    have hcc : c₂ = c := by
      have h1 : s₂.code? g.method = U.code? g.method := by
        rw [State.code?_eq, State.code?_eq, hW'.alike.method?]
      exact Option.some.inj (hc₂.symm.trans (h1.trans h.code))
    subst hcc
    have hlen : len₂ = len := by rw [hdg] at hd₂; cases hd₂; rfl
    subst hlen
    have hs₂ : s₂ = (({ U with heap := s₂.heap, slotsUsed := s₂.slotsUsed } : State).setVm s₂.vm).setTop { g with pc := g.pc + len₂, stack := v.toList ++ g.stack } := by
      refine e3.trans ?_
      rw [hf₂, State.calling_eq h.top, State.setFrames_setFrames, State.setTop_of_frames _ hr', hr]
      rfl
    have hsame : U.sameButNew ({ U with heap := s₂.heap, slotsUsed := s₂.slotsUsed } : State) L mc ms := by
      refine ⟨?_, q2, q3, q4, q5, q6⟩
      obtain ⟨t, ht, -⟩ := State.frames_cons hr
      show ({ U with heap := s₂.heap, slotsUsed := s₂.slotsUsed } : State) = { U.setFrames U.frames with heap := s₂.heap, slotsUsed := s₂.slotsUsed }
      rw [State.setFrames_self ht]
    subst hg
    refine Or.inl ⟨v, ⟨(({ U with heap := s₂.heap, slotsUsed := s₂.slotsUsed } : State).setVm s₂.vm), Ls ++ L, c0 + mc, s0 + ms⟩,
      ⟨X.admits, X.cas, X.clock, X.frames, X.room, X.hears, X.method, X.code, (X.here.setHeapUsed s₂.heap s₂.slotsUsed).setVm hW'.alike, X.tail, State.WarmedH.trans X.warmed hW', X.limits, X.bytes, X.same.trans (hsame.setVm s.vm)⟩,
      ⟨g, mk, s₂, L, rfl, rfl, hqc, rfl, hL, rfl, rfl⟩, ?_⟩
    show Steps p.tables e below _ ((({ U with heap := s₂.heap, slotsUsed := s₂.slotsUsed } : State).setVm s₂.vm).setTop { g with pc := g.pc + len₂, stack := v.toList ++ g.stack })
    rw [← hs₂]
    exact hsteps
  · obtain ⟨e2, q2, q3, q4, q5, q6⟩ := id hsm
    have e3 : s₂ = ({ (U.calling g mk a).setFrames s₂.frames with heap := s₂.heap, slotsUsed := s₂.slotsUsed } : State).setVm s₂.vm := by
      have : s₂ = ({ s₂ with vm := (U.calling g mk a).vm } : State).setVm s₂.vm := rfl
      rw [e2] at this
      exact this
    have hf₂ : s₂.frames = .throwing q :: .java g :: U.frames.tail := hend
    have hW' : U.WarmedH s₂.vm := hW₂
    have hs₂ : s₂ = ((({ U with heap := s₂.heap, slotsUsed := s₂.slotsUsed } : State).setVm s₂.vm).setTop g).pushFrame (.throwing q) := by
      refine e3.trans ?_
      rw [hf₂, State.calling_eq h.top, State.setFrames_setFrames, State.pushFrame, State.frames_setTop _ hr', State.setTop_of_frames _ hr', State.setFrames_setFrames, hr]
      rfl
    have hsame : U.sameButNew ({ U with heap := s₂.heap, slotsUsed := s₂.slotsUsed } : State) L mc ms := by
      refine ⟨?_, q2, q3, q4, q5, q6⟩
      obtain ⟨t, ht, -⟩ := State.frames_cons hr
      show ({ U with heap := s₂.heap, slotsUsed := s₂.slotsUsed } : State) = { U.setFrames U.frames with heap := s₂.heap, slotsUsed := s₂.slotsUsed }
      rw [State.setFrames_self ht]
    subst hg
    refine Or.inr ⟨q, ⟨(({ U with heap := s₂.heap, slotsUsed := s₂.slotsUsed } : State).setVm s₂.vm), Ls ++ L, c0 + mc, s0 + ms⟩,
      ⟨X.admits, X.cas, X.clock, X.frames, X.room, X.hears, X.method, X.code, (X.here.setHeapUsed s₂.heap s₂.slotsUsed).setVm hW'.alike, X.tail, State.WarmedH.trans X.warmed hW', X.limits, X.bytes, X.same.trans (hsame.setVm s.vm)⟩,
      ⟨g, mk, s₂, L, E, ce, rfl, rfl, hx, hce, hcv, hcl, rfl, hL, rfl, rfl⟩, ?_⟩
    show Steps p.tables e below _ (((({ U with heap := s₂.heap, slotsUsed := s₂.slotsUsed } : State).setVm s₂.vm).setTop g).pushFrame (.throwing q))
    rw [← hs₂]
    exact hsteps
end
variable {p : Program} {l : Launch} {e : Env} {R : Room} {s : State} {m : MethodId} {args : Array Value} {below : List Frame} {meth : Method} {c : Code} {T : State} {H : Heap} {locs : List Loc} {cells slots : Nat}
theorem vx_callVX (X : Stand p l e R s m args below meth c T locs cells slots) (hexec : p.tables.exec = Jvm.exec) {own C : String} {index : Nat} {y : MethodName} {bytes : ByteArray} {maxL : Nat} {ret : Option FieldType} {hh : List (Nat × Nat × Nat × Nat)}
    (hown : s.vm.findClass own = some m.cls) (hlink : (Cond.methodLink own index y).before args s = true) (hinst : (Cond.instanceMethod y).before args s = true) (hsel : (Cond.selects C y y).before args s = true)
    (hcode : (Cond.codeWith y bytes maxL ret hh).before args s = true) (hy : y.cls ≠ "java/lang/invoke/MethodHandle" ∧ y.cls ≠ "java/lang/invoke/VarHandle")
    {W9 : Nat} {Pre : Pt → Array Value → Prop} {Post : Pt → Array Value → Option Value → Pt → Prop} {PostX : Pt → Array Value → Addr → Pt → Prop} (hK : vx_Back l R p e below s args y 3 W9 Pre Post PostX)
    {b : Addr} {cellB : Cell} (hcell : T.heap[b]? = some cellB) (hobj : cellB.vm.isStatics = false) (hcls : s.vm.findClass C = some cellB.cls)
    {g : JFrame} (hg : g.method = m) (hsize : g.locals.size = c.maxLocals) {argsL rest : List Value} (hlen : ∀ sig, parseMethodDescriptor y.desc = some sig → argsL.length = sig.parameters.length)
    (hstack : g.stack = argsL.reverse ++ .ref b :: rest) (hW : 2 * g.monitorRoom + (rest.map fun v => v.category).sum ≤ W9) (hdg : decode c.code g.pc = .ok (.invokevirtual index, 3))
    (hpre : ∀ vm₁, s.WarmedH vm₁ → Pre ⟨T.setVm vm₁, locs, cells, slots⟩ (Value.ref b :: argsL).toArray) :
    (∃ (v : Option Value) (vm₁ : Vm) (B : Pt), s.WarmedH vm₁ ∧ Stand p l e R s m args below meth c B.U B.locs B.cells B.slots ∧ Post ⟨T.setVm vm₁, locs, cells, slots⟩ (Value.ref b :: argsL).toArray v B ∧
      ∀ target, Steps p.tables e below (B.U.setTop { g with pc := g.pc + 3, stack := v.toList ++ rest }) target → Steps p.tables e below (T.setTop g) target) ∨
    (∃ (q : Addr) (vm₁ : Vm) (B : Pt), s.WarmedH vm₁ ∧ Stand p l e R s m args below meth c B.U B.locs B.cells B.slots ∧ PostX ⟨T.setVm vm₁, locs, cells, slots⟩ (Value.ref b :: argsL).toArray q B ∧
      Steps p.tables e below (T.setTop g) ((B.U.setTop { g with stack := rest }).pushFrame (.throwing q))) := by
  obtain ⟨mk, methM, hnamed, hmethM, hstM, habM⟩ := Cond.instanceMethod_spec hinst
  obtain ⟨m8, methM', cM, hn8, hmethM', -, -, -, -, -, -, hsigM⟩ := Cond.codeWith_spec hcode
  cases Option.some.inj (hn8.symm.trans hnamed)
  cases hmethM.symm.trans hmethM'
  obtain ⟨c2, r2, m2, q1, q2, q3, q4, kP, hkP, hkPi⟩ := Cond.selects_spec hsel
  cases hcls.symm.trans q1
  cases (State.methodFound?_of_named hnamed hy).symm.trans q2
  cases hnamed.symm.trans q3
  have hselP : selectMethod e.platform s.vm cellB.cls mk = .method mk := by rw [Launch.admits_selectMethod X.admits]; exact q4
  obtain ⟨vm₁, X₁, hstep₁⟩ := X.invokevirtual hexec hown hlink hnamed hmethM hstM hkP hkPi hy (a := b) (cell := cellB) hcell
    (fun z h => by rw [h] at hobj; cases hobj) hselP hmethM habM hkP hkPi (g := g) hg (argsL := argsL) (rest := rest) (hlen _ hsigM) hstack hdg
  rcases hK m meth c ⟨T.setVm vm₁, locs, cells, slots⟩ { g with stack := rest } (.invokevirtual index) mk (Value.ref b :: argsL).toArray X₁ hg hsize hdg hW (X₁.named hnamed) (hpre vm₁ X₁.warmed) with ⟨v, B, X', hpost, hsteps⟩ | ⟨q, B, X', hpost, hsteps⟩
  · exact Or.inl ⟨v, vm₁, B, X₁.warmed, X', hpost, fun target h => hstep₁ _ fun acts => by rw [doInvoke_state]; exact hsteps.trans h⟩
  · exact Or.inr ⟨q, vm₁, B, X₁.warmed, X', hpost, hstep₁ _ fun acts => by rw [doInvoke_state]; exact hsteps⟩
theorem vx_callSX (X : Stand p l e R s m args below meth c T locs cells slots) (hexec : p.tables.exec = Jvm.exec) {own : String} {index : Nat} {y : MethodName} {bytes : ByteArray} {maxL : Nat} {ret : Option FieldType} {hh : List (Nat × Nat × Nat × Nat)}
    (hown : s.vm.findClass own = some m.cls) (hlink : (Cond.methodLink own index y).before args s = true) (hstat : (Cond.static y).before args s = true) (hinit : (Cond.initialized y.cls).before args s = true)
    (hcode : (Cond.codeWith y bytes maxL ret hh).before args s = true) (hy : y.cls ≠ "java/lang/invoke/MethodHandle" ∧ y.cls ≠ "java/lang/invoke/VarHandle")
    {W9 : Nat} {Pre : Pt → Array Value → Prop} {Post : Pt → Array Value → Option Value → Pt → Prop} {PostX : Pt → Array Value → Addr → Pt → Prop} (hK : vx_Back l R p e below s args y 3 W9 Pre Post PostX)
    {g : JFrame} (hg : g.method = m) (hsize : g.locals.size = c.maxLocals) {argsL rest : List Value} (hlen : ∀ sig, parseMethodDescriptor y.desc = some sig → argsL.length = sig.parameters.length)
    (hstack : g.stack = argsL.reverse ++ rest) (hW : 2 * g.monitorRoom + (rest.map fun v => v.category).sum ≤ W9) (hdg : decode c.code g.pc = .ok (.invokestatic index, 3))
    (hpre : ∀ vm₁, s.WarmedH vm₁ → Pre ⟨T.setVm vm₁, locs, cells, slots⟩ argsL.toArray) :
    (∃ (v : Option Value) (vm₁ : Vm) (B : Pt), s.WarmedH vm₁ ∧ Stand p l e R s m args below meth c B.U B.locs B.cells B.slots ∧ Post ⟨T.setVm vm₁, locs, cells, slots⟩ argsL.toArray v B ∧
      ∀ target, Steps p.tables e below (B.U.setTop { g with pc := g.pc + 3, stack := v.toList ++ rest }) target → Steps p.tables e below (T.setTop g) target) ∨
    (∃ (q : Addr) (vm₁ : Vm) (B : Pt), s.WarmedH vm₁ ∧ Stand p l e R s m args below meth c B.U B.locs B.cells B.slots ∧ PostX ⟨T.setVm vm₁, locs, cells, slots⟩ argsL.toArray q B ∧
      Steps p.tables e below (T.setTop g) ((B.U.setTop { g with stack := rest }).pushFrame (.throwing q))) := by
  obtain ⟨mk, methM, cM, hnamed, hmethM, -, -, -, -, -, -, hsigM⟩ := Cond.codeWith_spec hcode
  have hstatic : methM.isStatic = true := Cond.static_spec hnamed hmethM hstat
  obtain ⟨kP, hkP, -⟩ := className_of_methodNamed hnamed
  have hinitP : kP.init = .initialized := Cond.initialized_spec (findClass_of_methodNamed hnamed) hkP hinit
  obtain ⟨vm₁, X₁, hstep₁⟩ := X.invokestatic hexec hown hlink hnamed hmethM hstatic hkP hinitP hy (g := g) hg (argsL := argsL) (rest := rest) (hlen _ hsigM) hstack hdg
  rcases hK m meth c ⟨T.setVm vm₁, locs, cells, slots⟩ { g with stack := rest } (.invokestatic index) mk argsL.toArray X₁ hg hsize hdg hW (X₁.named hnamed) (hpre vm₁ X₁.warmed) with ⟨v, B, X', hpost, hsteps⟩ | ⟨q, B, X', hpost, hsteps⟩
  · exact Or.inl ⟨v, vm₁, B, X₁.warmed, X', hpost, fun target h => hstep₁ _ fun acts => by rw [doInvoke_state]; exact hsteps.trans h⟩
  · exact Or.inr ⟨q, vm₁, B, X₁.warmed, X', hpost, hstep₁ _ fun acts => by rw [doInvoke_state]; exact hsteps⟩
theorem vx_callVW (X : Stand p l e R s m args below meth c T locs cells slots) (hexec : p.tables.exec = Jvm.exec) {own C : String} {index : Nat} {y : MethodName} {bytes : ByteArray} {maxL : Nat} {ret : Option FieldType} {hh : List (Nat × Nat × Nat × Nat)}
    (hown : s.vm.findClass own = some m.cls) (hlink : (Cond.methodLink own index y).before args s = true) (hinst : (Cond.instanceMethod y).before args s = true) (hsel : (Cond.selects C y y).before args s = true)
    (hcode : (Cond.codeWith y bytes maxL ret hh).before args s = true) (hy : y.cls ≠ "java/lang/invoke/MethodHandle" ∧ y.cls ≠ "java/lang/invoke/VarHandle")
    {W9 : Nat} {Pre : Pt → Array Value → Prop} {Post : Pt → Array Value → Option Value → Pt → Prop} (hK : Back l R p e below s args y 3 W9 Pre Post)
    {b : Addr} {cellB : Cell} (hcell : T.heap[b]? = some cellB) (hobj : cellB.vm.isStatics = false) (hcls : s.vm.findClass C = some cellB.cls)
    {g : JFrame} (hg : g.method = m) (hsize : g.locals.size = c.maxLocals) {argsL rest : List Value} (hlen : ∀ sig, parseMethodDescriptor y.desc = some sig → argsL.length = sig.parameters.length)
    (hstack : g.stack = argsL.reverse ++ .ref b :: rest) (hW : 2 * g.monitorRoom + (rest.map fun v => v.category).sum ≤ W9) (hdg : decode c.code g.pc = .ok (.invokevirtual index, 3))
    (hpre : ∀ vm₁, s.WarmedH vm₁ → Pre ⟨T.setVm vm₁, locs, cells, slots⟩ (Value.ref b :: argsL).toArray) :
    ∃ (v : Option Value) (vm₁ : Vm) (B : Pt), s.WarmedH vm₁ ∧ Stand p l e R s m args below meth c B.U B.locs B.cells B.slots ∧ Post ⟨T.setVm vm₁, locs, cells, slots⟩ (Value.ref b :: argsL).toArray v B ∧
      ∀ target, Steps p.tables e below (B.U.setTop { g with pc := g.pc + 3, stack := v.toList ++ rest }) target → Steps p.tables e below (T.setTop g) target := by
  obtain ⟨mk, methM, hnamed, hmethM, hstM, habM⟩ := Cond.instanceMethod_spec hinst
  obtain ⟨m8, methM', cM, hn8, hmethM', -, -, -, -, -, -, hsigM⟩ := Cond.codeWith_spec hcode
  cases Option.some.inj (hn8.symm.trans hnamed)
  cases hmethM.symm.trans hmethM'
  obtain ⟨c2, r2, m2, q1, q2, q3, q4, kP, hkP, hkPi⟩ := Cond.selects_spec hsel
  cases hcls.symm.trans q1
  cases (State.methodFound?_of_named hnamed hy).symm.trans q2
  cases hnamed.symm.trans q3
  have hselP : selectMethod e.platform s.vm cellB.cls mk = .method mk := by rw [Launch.admits_selectMethod X.admits]; exact q4
  obtain ⟨vm₁, X₁, hstep₁⟩ := X.invokevirtual hexec hown hlink hnamed hmethM hstM hkP hkPi hy (a := b) (cell := cellB) hcell
    (fun z h => by rw [h] at hobj; cases hobj) hselP hmethM habM hkP hkPi (g := g) hg (argsL := argsL) (rest := rest) (hlen _ hsigM) hstack hdg
  obtain ⟨v, B, X', hpost, hsteps⟩ := hK m meth c ⟨T.setVm vm₁, locs, cells, slots⟩ { g with stack := rest } (.invokevirtual index) mk (Value.ref b :: argsL).toArray X₁ hg hsize hdg hW (X₁.named hnamed) (hpre vm₁ X₁.warmed)
  exact ⟨v, vm₁, B, X₁.warmed, X', hpost, fun target h => hstep₁ _ fun acts => by rw [doInvoke_state]; exact hsteps.trans h⟩
abbrev vx_CVW (R : Room) (s : State) (args : Array Value) (own C : String) (index : Nat) (y : MethodName) (bytes : ByteArray) (maxL : Nat) (ret : Option FieldType) (hh : List (Nat × Nat × Nat × Nat)) (ws : List Cond) (rm : Room) (mc ms n : Nat) : Prop :=
  (rm.cells = mc ∧ rm.slots = ms ∧ rm.frames + 1 ≤ R.frames ∧ 8 + (maxL + 11) + rm.locals ≤ R.locals ∧ (∀ w ∈ ws, ∀ (a' : Array Value) (U : State), s.WarmedH U.vm → w.before a' U = true) ∧ Cond.codeWith y bytes maxL ret hh ∈ ws) ∧
  (Cond.codeWith y bytes maxL ret hh).before args s = true ∧ (Cond.initialized y.cls).before args s = true ∧ (y.cls ≠ "java/lang/invoke/MethodHandle" ∧ y.cls ≠ "java/lang/invoke/VarHandle") ∧
  (∀ sig, parseMethodDescriptor y.desc = some sig → n = sig.parameters.length) ∧ (Cond.methodLink own index y).before args s = true ∧ (Cond.instanceMethod y).before args s = true ∧ (Cond.selects C y y).before args s = true
theorem vx_cwVW {own C : String} {index maxL mc ms : Nat} {y : MethodName} {bytes : ByteArray} {ret : Option FieldType} {hh : List (Nat × Nat × Nat × Nat)} {Ts ws ws' : List Cond} {rm : Room} (n : Nat) (ht : ∀ w ∈ Ts, w.before args s = true) (hT : GoodIn Ts (wsV own index C y ws)) (hw : ws = Cond.codeWith y bytes maxL ret hh :: ws') (hrc : rm.cells = mc) (hrs : rm.slots = ms)
    (hd : y.cls = C ∧ y.cls ≠ "java/lang/invoke/MethodHandle" ∧ y.cls ≠ "java/lang/invoke/VarHandle" ∧ (parseMethodDescriptor y.desc).map (fun d => d.parameters.length) = some n) (hR : rm.frames + 1 ≤ R.frames ∧ 8 + (maxL + 11) + rm.locals ≤ R.locals) :
    vx_CVW R s args own C index y bytes maxL ret hh ws rm mc ms n := by
  obtain ⟨hC, hd⟩ := hd
  subst hC
  have ok : ∀ w ∈ wsV own index y.cls y ws, w.before args s = true := fun w h => ht w (hT w h).1
  have hG : GoodIn Ts ws := fun w h => hT w (by unfold wsV; exact List.mem_append_right _ h)
  have hc : Cond.codeWith y bytes maxL ret hh ∈ ws := by rw [hw]; exact List.mem_cons_self
  refine ⟨⟨hrc, hrs, hR.1, hR.2, pay_in ht hG, hc⟩, ht _ (hG _ hc).1, ok _ (by simp [wsV]), ⟨hd.1, hd.2.1⟩, fun sig h => ?_, ok _ (by simp [wsV]), ok _ (by simp [wsV]), ok _ (by simp [wsV])⟩
  have h2 := hd.2.2
  rw [h] at h2
  exact (Option.some.inj h2).symm
theorem vx_runVW {y : MethodName} {bytes cc : ByteArray} {maxL nL mc ms n index : Nat} {ret : Option FieldType} {hh : List (Nat × Nat × Nat × Nat)} {ws : List Cond} {rm : Room} {Pc : Array Value → State → Prop} {Qc : Array Value → State → Outcome → State → Prop} {free : Addr → Prop} {Ts : List Cond} {own C : String} {b : Addr} {As rest : List Value} {g : JFrame}
    (S : CallFix p m c cc nL s args Ts own) (hM : Met l y ws rm Pc Qc mc ms free) (cw : vx_CVW R s args own C index y bytes maxL ret hh ws rm mc ms n) (hp : PreV s H C b Pc As)
    (hg : g.method = m) (hn : As.length = n) (hsize : g.locals.size = nL) (hstack : g.stack = As.reverse ++ .ref b :: rest) (hW : 2 * g.monitorRoom + (rest.map fun v => v.category).sum ≤ 8) (hdg : decode cc g.pc = .ok (.invokevirtual index, 3)) (hf : cells + mc ≤ R.cells ∧ slots + ms ≤ R.slots) :
    va_Run p l e R s m args below meth c H locs cells slots mc ms g rest (Qc (Value.ref b :: As).toArray) free := by
  obtain ⟨⟨hrc, hrs, hfr, hlo, hws, hcw⟩, hcode, hini, hy, hlen, hl, hin, hse⟩ := cw
  have hK : Back l R p e below s args y 3 8 (PreOf R mc ms Pc) (PostOf Qc mc ms free) := va_backW (hh := hh) (bytes := bytes) (maxL := maxL) (ret := ret) hM hp.1 hrc hrs hfr hlo hws hcw (fun a' U hW => word_at hW (Or.inl (by first | rfl | simp [Cond.onTables, Cond.keeps, Cond.steady])) hini)
  obtain ⟨hx, hb, hml, ho, -⟩ := S
  obtain ⟨-, ⟨cellB, hcB, hoB, hclB⟩, hPc⟩ := hp
  intro T hT X
  obtain ⟨v, vm₁, ⟨U', l2, c2, s2⟩, hW₁, X', ⟨g', mk, t, L, e1, e2, hq, h1, hL, h2, h3⟩, st⟩ := vx_callVW X hx (C := C) (hh := hh) (bytes := bytes) (maxL := maxL) (ret := ret) ho hl hin hse hcode hy hK (by rw [hT]; exact hcB) hoB hclB hg (hsize.trans hml.symm) (argsL := As) (rest := rest) (fun sig h => hn.trans (hlen sig h)) hstack hW (by rw [hb]; exact hdg)
    (fun vm₁ hW₁ => ⟨hf.1, hf.2, hPc (T.setVm vm₁) hT hW₁⟩)
  dsimp only [Pt.U, Pt.locs, Pt.cells, Pt.slots] at X' e1 e2 h1 h2 h3 st
  subst h1; subst h2; subst h3
  exact ⟨v, (T.setVm vm₁).calling g' mk (Value.ref b :: As).toArray, t, U', L, hT, X', hL, e1, e2, hq, st⟩
section
variable {y : MethodName} {bytes cc : ByteArray} {maxL nL mc ms n index : Nat} {ret : Option FieldType} {ws : List Cond} {rm : Room} {Pc : Array Value → State → Prop} {Qc : Array Value → State → Outcome → State → Prop} {XC : String → State → State → Prop} {free : Addr → Prop} {Ts : List Cond} {own C : String} {b : Addr} {As rest : List Value} {g : JFrame}
theorem vx_runVX {hh : List (Nat × Nat × Nat × Nat)} (S : CallFix p m c cc nL s args Ts own) (hM : vx_Met l y ws rm Pc Qc XC mc ms free) (cw : vx_CVW R s args own C index y bytes maxL ret hh ws rm mc ms n) (hp : PreV s H C b Pc As)
    (hg : g.method = m) (hn : As.length = n) (hsize : g.locals.size = nL) (hstack : g.stack = As.reverse ++ .ref b :: rest) (hW : 2 * g.monitorRoom + (rest.map fun v => v.category).sum ≤ 8) (hdg : decode cc g.pc = .ok (.invokevirtual index, 3)) (hf : cells + mc ≤ R.cells ∧ slots + ms ≤ R.slots) :
    vx_Run p l e R s m args below meth c H locs cells slots mc ms g rest (Qc (Value.ref b :: As).toArray) XC free := by
  obtain ⟨⟨hrc, hrs, hfr, hlo, hws, hcw⟩, hcode, hini, hy, hlen, hl, hin, hse⟩ := cw
  have hK : vx_Back l R p e below s args y 3 8 (PreOf R mc ms Pc) (PostOf Qc mc ms free) (vx_Post XC mc ms free) := vx_backW (hh := hh) (bytes := bytes) (maxL := maxL) (ret := ret) hM hp.1 hrc hrs hfr hlo hws hcw (fun a' U hW => word_at hW (Or.inl (by first | rfl | simp [Cond.onTables, Cond.keeps, Cond.steady])) hini)
  obtain ⟨hx, hb, hml, ho, -⟩ := S
  obtain ⟨-, ⟨cellB, hcB, hoB, hclB⟩, hPc⟩ := hp
  intro T hT X
  rcases vx_callVX X hx (C := C) (hh := hh) (bytes := bytes) (maxL := maxL) (ret := ret) ho hl hin hse hcode hy hK (by rw [hT]; exact hcB) hoB hclB hg (hsize.trans hml.symm) (argsL := As) (rest := rest) (fun sig h => hn.trans (hlen sig h)) hstack hW (by rw [hb]; exact hdg)
    (fun vm₁ hW₁ => ⟨hf.1, hf.2, hPc (T.setVm vm₁) hT hW₁⟩) with ⟨v, vm₁, ⟨U', l2, c2, s2⟩, hW₁, X', ⟨g', mk, t, L, e1, e2, hq, h1, hL, h2, h3⟩, st⟩ | ⟨q, vm₁, ⟨U', l2, c2, s2⟩, hW₁, X', ⟨g', mk, t, L, E, ce, e1, e2, hq, hce, hcv, hcl, h1, hL, h2, h3⟩, st⟩
  · dsimp only [Pt.U, Pt.locs, Pt.cells, Pt.slots] at X' e1 e2 h1 h2 h3 st
    subst h1; subst h2; subst h3
    exact Or.inl ⟨v, (T.setVm vm₁).calling g' mk (Value.ref b :: As).toArray, t, U', L, hT, X', hL, e1, e2, hq, st⟩
  · dsimp only [Pt.U, Pt.locs, Pt.cells, Pt.slots] at X' e1 e2 h1 h2 h3 st hcl
    subst h1; subst h2; subst h3
    exact Or.inr ⟨q, (T.setVm vm₁).calling g' mk (Value.ref b :: As).toArray, t, U', L, E, ce, hT, X', hL, e1, e2, hq, hce, hcv, vx_cls hW₁ hcl, st⟩
theorem vx_runSX {hh : List (Nat × Nat × Nat × Nat)} (S : CallFix p m c cc nL s args Ts own) (hM : vx_Met l y ws rm Pc Qc XC mc ms free) (cw : vx_CSW R s args own index y bytes maxL ret hh ws rm mc ms n) (hp : PreS s H Pc As)
    (hg : g.method = m) (hn : As.length = n) (hsize : g.locals.size = nL) (hstack : g.stack = As.reverse ++ rest) (hW : 2 * g.monitorRoom + (rest.map fun v => v.category).sum ≤ 8) (hdg : decode cc g.pc = .ok (.invokestatic index, 3)) (hf : cells + mc ≤ R.cells ∧ slots + ms ≤ R.slots) :
    vx_Run p l e R s m args below meth c H locs cells slots mc ms g rest (Qc As.toArray) XC free := by
  obtain ⟨⟨hrc, hrs, hfr, hlo, hws, hcw⟩, hcode, hini, hy, hlen, hl, hstt⟩ := cw
  have hK : vx_Back l R p e below s args y 3 8 (PreOf R mc ms Pc) (PostOf Qc mc ms free) (vx_Post XC mc ms free) := vx_backW (hh := hh) (bytes := bytes) (maxL := maxL) (ret := ret) hM hp.1 hrc hrs hfr hlo hws hcw (fun a' U hW => word_at hW (Or.inl (by first | rfl | simp [Cond.onTables, Cond.keeps, Cond.steady])) hini)
  obtain ⟨hx, hb, hml, ho, -⟩ := S
  intro T hT X
  rcases vx_callSX X hx (hh := hh) (bytes := bytes) (maxL := maxL) (ret := ret) ho hl hstt hini hcode hy hK hg (hsize.trans hml.symm) (argsL := As) (rest := rest) (fun sig h => hn.trans (hlen sig h)) hstack hW (by rw [hb]; exact hdg)
    (fun vm₁ hW₁ => ⟨hf.1, hf.2, hp.2 (T.setVm vm₁) hT hW₁⟩) with ⟨v, vm₁, ⟨U', l2, c2, s2⟩, hW₁, X', ⟨g', mk, t, L, e1, e2, hq, h1, hL, h2, h3⟩, st⟩ | ⟨q, vm₁, ⟨U', l2, c2, s2⟩, hW₁, X', ⟨g', mk, t, L, E, ce, e1, e2, hq, hce, hcv, hcl, h1, hL, h2, h3⟩, st⟩
  · dsimp only [Pt.U, Pt.locs, Pt.cells, Pt.slots] at X' e1 e2 h1 h2 h3 st
    subst h1; subst h2; subst h3
    exact Or.inl ⟨v, (T.setVm vm₁).calling g' mk As.toArray, t, U', L, hT, X', hL, e1, e2, hq, st⟩
  · dsimp only [Pt.U, Pt.locs, Pt.cells, Pt.slots] at X' e1 e2 h1 h2 h3 st hcl
    subst h1; subst h2; subst h3
    exact Or.inr ⟨q, (T.setVm vm₁).calling g' mk As.toArray, t, U', L, E, ce, hT, X', hL, e1, e2, hq, hce, hcv, vx_cls hW₁ hcl, st⟩
end
end VXH
theorem vx_ofWH {l : Launch} {y : MethodName} {ws ws' : List Cond} {rm : Room} {Pc : Array Value → State → Prop} {Qc : Array Value → State → Outcome → State → Prop} {XC : String → State → State → Prop} {mc ms : Nat} {free : Addr → Prop} {cc : ByteArray} {maxL : Nat} {ret : Option FieldType} {hh : List (Nat × Nat × Nat × Nat)}
    (hy : plainName y.cls = true) (hw : ws = Cond.codeWith y cc maxL ret hh :: ws')
    (body : ∀ p e s m args below meth c s₁, BodyLoose p l y (headSpec ws rm) cc maxL ret e s m args below meth c s₁ → c.maxLocals = maxL → Pc args s →
      W p l e (headSpec ws rm).room s m args below meth c s.heap [] 0 0 (vx_MQ below Qc XC args s mc ms free) (entryFrame m args maxL)) : vx_Met l y ws rm Pc Qc XC mc ms free := by
  refine MetFree.of_bodyS (code := cc) (maxLocals := maxL) (ret := ret) hy ?_ ?_
  · intro args s m h hn
    obtain ⟨m9, meth, c, hn9, h1, h2, h3, h4, -, h5, h6, -⟩ := Cond.codeWith_spec (atoms_spec (ws := ws) h _ (by rw [hw]; exact List.mem_cons_self))
    cases hn.symm.trans hn9
    exact ⟨meth, c, h1, h2, h3, h4, h5, h6⟩
  · intro p e s m args below meth c s₁ B hml hP _
    have hh0 : s₁.heap = s.heap := by rw [B.state]; rfl
    obtain ⟨t, a1, o, b1, b2, b3⟩ := body p e s m args below meth c s₁ B hml hP s₁ hh0 (Stand.of_body B)
    exact ⟨t, o, a1, b1, b2, b3⟩
/-! ===== END ===== -/
end
section
/-! names -/
def R_P : String := "PressureNets"
def T_P : u_T := fun k => match k with
  | 0 => ("PressureNets", "net", "LPressureNets$Net;", true)
  | 1 => ("PressureNets", "settler", "LPressureNets$Settler;", true)
  | 2 => ("PressureNets", "stuff", "LPressureNets$Stuff;", true)
  | 3 => ("PressureNets", "present", "LPressureNets$State;", true)
  | 4 => ("PressureNets", "cases", "[LPressureNets$State;", true)
  | _ => ("PressureNets", "caseCount", "I", false)
def ty_P : Nat → FieldType := fun k => match k with
  | 0 => .object "PressureNets$Net"
  | 1 => .object "PressureNets$Settler"
  | 2 => .object "PressureNets$Stuff"
  | 3 => .object "PressureNets$State"
  | 4 => .array (.object "PressureNets$State")
  | _ => .int
theorem nm_P : ∀ a, a < 6 → ∀ b, b < 6 → a ≠ b → (T_P a).2.1 ≠ (T_P b).2.1 := by decide +kernel
theorem ty_P_ok : ∀ k, k < 6 → parseFieldDescriptor (T_P k).2.2.1 = some (ty_P k) := by decide +kernel
def R_N : String := "PressureNets$Net"
def T_N : u_T := fun k => match k with
  | 0 => ("PressureNets$Net", "wind", "[I", true)
  | 1 => ("PressureNets$Net", "warmthAt", "[I", true)
  | 2 => ("PressureNets$Net", "volume", "[I", true)
  | 3 => ("PressureNets$Net", "from", "[I", true)
  | 4 => ("PressureNets$Net", "to", "[I", true)
  | 5 => ("PressureNets$Net", "height", "[I", true)
  | 6 => ("PressureNets$Net", "area", "[I", true)
  | 7 => ("PressureNets$Net", "kind", "[I", true)
  | 8 => ("PressureNets$Net", "stack", "[I", true)
  | 9 => ("PressureNets$Net", "fanFlow", "[I", true)
  | 10 => ("PressureNets$Net", "slope", "[I", true)
  | 11 => ("PressureNets$Net", "ductsAt", "[[I", true)
  | 12 => ("PressureNets$Net", "ductCountAt", "[I", true)
  | 13 => ("PressureNets$Net", "zoneCount", "I", false)
  | 14 => ("PressureNets$Net", "leakCount", "I", false)
  | 15 => ("PressureNets$Net", "fanCount", "I", false)
  | _ => ("PressureNets$Net", "version", "I", false)
def ty_N : Nat → FieldType := fun k => match k with
  | 0 => .array .int
  | 1 => .array .int
  | 2 => .array .int
  | 3 => .array .int
  | 4 => .array .int
  | 5 => .array .int
  | 6 => .array .int
  | 7 => .array .int
  | 8 => .array .int
  | 9 => .array .int
  | 10 => .array .int
  | 11 => .array (.array .int)
  | 12 => .array .int
  | 13 => .int
  | 14 => .int
  | 15 => .int
  | _ => .int
theorem nm_N : ∀ a, a < 17 → ∀ b, b < 17 → a ≠ b → (T_N a).2.1 ≠ (T_N b).2.1 := by decide +kernel
theorem ty_N_ok : ∀ k, k < 17 → parseFieldDescriptor (T_N k).2.2.1 = some (ty_N k) := by decide +kernel
def R_S : String := "PressureNets$Settler"
def T_S : u_T := fun k => match k with
  | 0 => ("PressureNets$Settler", "net", "LPressureNets$Net;", true)
  | _ => ("PressureNets$Settler", "before", "[I", true)
def ty_S : Nat → FieldType := fun k => match k with
  | 0 => .object "PressureNets$Net"
  | _ => .array .int
theorem nm_S : ∀ a, a < 2 → ∀ b, b < 2 → a ≠ b → (T_S a).2.1 ≠ (T_S b).2.1 := by decide +kernel
theorem ty_S_ok : ∀ k, k < 2 → parseFieldDescriptor (T_S k).2.2.1 = some (ty_S k) := by decide +kernel
def R_T : String := "PressureNets$State"
def T_T : u_T := fun k => match k with
  | 0 => ("PressureNets$State", "pressure", "[I", true)
  | 1 => ("PressureNets$State", "shutSet", "I", false)
  | 2 => ("PressureNets$State", "madeFor", "I", false)
  | _ => ("PressureNets$State", "stands", "Z", false)
def ty_T : Nat → FieldType := fun k => match k with
  | 0 => .array .int
  | 1 => .int
  | 2 => .int
  | _ => .boolean
theorem nm_T : ∀ a, a < 4 → ∀ b, b < 4 → a ≠ b → (T_T a).2.1 ≠ (T_T b).2.1 := by decide +kernel
theorem ty_T_ok : ∀ k, k < 4 → parseFieldDescriptor (T_T k).2.2.1 = some (ty_T k) := by decide +kernel
def R_U : String := "PressureNets$Stuff"
def T_U : u_T := fun k => match k with
  | 0 => ("PressureNets$Stuff", "held", "[J", true)
  | 1 => ("PressureNets$Stuff", "sources", "[I", true)
  | 2 => ("PressureNets$Stuff", "net", "LPressureNets$Net;", true)
  | 3 => ("PressureNets$Stuff", "flows", "[I", true)
  | 4 => ("PressureNets$Stuff", "wholes", "[J", true)
  | _ => ("PressureNets$Stuff", "then", "[J", true)
def ty_U : Nat → FieldType := fun k => match k with
  | 0 => .array .long
  | 1 => .array .int
  | 2 => .object "PressureNets$Net"
  | 3 => .array .int
  | 4 => .array .long
  | _ => .array .long
theorem nm_U : ∀ a, a < 6 → ∀ b, b < 6 → a ≠ b → (T_U a).2.1 ≠ (T_U b).2.1 := by decide +kernel
theorem ty_U_ok : ∀ k, k < 6 → parseFieldDescriptor (T_U k).2.2.1 = some (ty_U k) := by decide +kernel
def R_M : String := "PressureNetsModel"
def T_M : u_T := fun k => match k with
  | 0 => ("PressureNetsModel", "code", "I", false)
  | 1 => ("PressureNetsModel", "winds", "[I", true)
  | 2 => ("PressureNetsModel", "air", "I", false)
  | 3 => ("PressureNetsModel", "zones", "I", false)
  | 4 => ("PressureNetsModel", "warmths", "[I", true)
  | 5 => ("PressureNetsModel", "volumes", "[I", true)
  | 6 => ("PressureNetsModel", "holds", "[J", true)
  | 7 => ("PressureNetsModel", "sources", "[I", true)
  | 8 => ("PressureNetsModel", "leaks", "I", false)
  | 9 => ("PressureNetsModel", "leakA", "[I", true)
  | 10 => ("PressureNetsModel", "leakB", "[I", true)
  | 11 => ("PressureNetsModel", "heights", "[I", true)
  | 12 => ("PressureNetsModel", "areas", "[I", true)
  | 13 => ("PressureNetsModel", "kinds", "[I", true)
  | 14 => ("PressureNetsModel", "isShut", "[Z", true)
  | 15 => ("PressureNetsModel", "fans", "I", false)
  | 16 => ("PressureNetsModel", "fanA", "[I", true)
  | 17 => ("PressureNetsModel", "fanB", "[I", true)
  | 18 => ("PressureNetsModel", "fanFlow", "[I", true)
  | 19 => ("PressureNetsModel", "slopes", "[I", true)
  | 20 => ("PressureNetsModel", "cases", "I", false)
  | 21 => ("PressureNetsModel", "sets", "[I", true)
  | 22 => ("PressureNetsModel", "gone", "[J", true)
  | 23 => ("PressureNetsModel", "state", "[I", true)
  | 24 => ("PressureNetsModel", "closed", "I", false)
  | 25 => ("PressureNetsModel", "next", "[J", true)
  | _ => ("PressureNetsModel", "nextGone", "[J", true)
def ty_M : Nat → FieldType := fun k => match k with
  | 0 => .int
  | 1 => .array .int
  | 2 => .int
  | 3 => .int
  | 4 => .array .int
  | 5 => .array .int
  | 6 => .array .long
  | 7 => .array .int
  | 8 => .int
  | 9 => .array .int
  | 10 => .array .int
  | 11 => .array .int
  | 12 => .array .int
  | 13 => .array .int
  | 14 => .array .boolean
  | 15 => .int
  | 16 => .array .int
  | 17 => .array .int
  | 18 => .array .int
  | 19 => .array .int
  | 20 => .int
  | 21 => .array .int
  | 22 => .array .long
  | 23 => .array .int
  | 24 => .int
  | 25 => .array .long
  | _ => .array .long
theorem nm_M : ∀ a, a < 27 → ∀ b, b < 27 → a ≠ b → (T_M a).2.1 ≠ (T_M b).2.1 := by decide +kernel
theorem ty_M_ok : ∀ k, k < 27 → parseFieldDescriptor (T_M k).2.2.1 = some (ty_M k) := by decide +kernel
def RL : String := "PressureNetsLaw"
abbrev pn_cl : List vw_C := [(R_P, T_P, 6), (R_N, T_N, 17), (R_S, T_S, 2), (R_T, T_T, 4), (R_U, T_U, 6), (R_M, T_M, 27)]
abbrev b_P_init : ByteArray := prog_1_method_1_code
def y_P_init : MethodName := ⟨"PressureNets", "<init>", "()V"⟩
abbrev b_P_zone : ByteArray := prog_1_method_2_code
def y_P_zone : MethodName := ⟨"PressureNets", "zone", "(II)I"⟩
abbrev b_P_wind : ByteArray := prog_1_method_3_code
def y_P_wind : MethodName := ⟨"PressureNets", "wind", "(II)I"⟩
abbrev b_P_warmth : ByteArray := prog_1_method_4_code
def y_P_warmth : MethodName := ⟨"PressureNets", "warmth", "(II)I"⟩
abbrev b_P_leak : ByteArray := prog_1_method_5_code
def y_P_leak : MethodName := ⟨"PressureNets", "leak", "(IIIII)I"⟩
abbrev b_P_shut : ByteArray := prog_1_method_6_code
def y_P_shut : MethodName := ⟨"PressureNets", "shut", "(IZ)Z"⟩
abbrev b_P_fan : ByteArray := prog_1_method_7_code
def y_P_fan : MethodName := ⟨"PressureNets", "fan", "(IIII)I"⟩
abbrev b_P_pressure : ByteArray := prog_1_method_8_code
def y_P_pressure : MethodName := ⟨"PressureNets", "pressure", "(I)I"⟩
abbrev b_P_told : ByteArray := prog_1_method_9_code
def y_P_told : MethodName := ⟨"PressureNets", "told", "(II)I"⟩
abbrev b_P_blows : ByteArray := prog_1_method_10_code
def y_P_blows : MethodName := ⟨"PressureNets", "blows", "(I)I"⟩
abbrev b_P_gain : ByteArray := prog_1_method_11_code
def y_P_gain : MethodName := ⟨"PressureNets", "gain", "(I)I"⟩
abbrev b_P_caseOf : ByteArray := prog_1_method_12_code
def y_P_caseOf : MethodName := ⟨"PressureNets", "caseOf", "(I)I"⟩
abbrev b_P_worst : ByteArray := prog_1_method_13_code
def y_P_worst : MethodName := ⟨"PressureNets", "worst", "(II)I"⟩
abbrev b_P_put : ByteArray := prog_1_method_14_code
def y_P_put : MethodName := ⟨"PressureNets", "put", "(II)I"⟩
abbrev b_P_source : ByteArray := prog_1_method_15_code
def y_P_source : MethodName := ⟨"PressureNets", "source", "(II)I"⟩
abbrev b_P_steps : ByteArray := prog_1_method_16_code
def y_P_steps : MethodName := ⟨"PressureNets", "steps", "(I)I"⟩
abbrev b_P_gone : ByteArray := prog_1_method_17_code
def y_P_gone : MethodName := ⟨"PressureNets", "gone", "(I)J"⟩
abbrev b_P_demandLegal : ByteArray := prog_1_method_18_code
def y_P_demandLegal : MethodName := ⟨"PressureNets", "demandLegal", "(Z)V"⟩
abbrev b_P_demandRoom : ByteArray := prog_1_method_19_code
def y_P_demandRoom : MethodName := ⟨"PressureNets", "demandRoom", "(Z)V"⟩
abbrev b_P_isWithin : ByteArray := prog_1_method_20_code
def y_P_isWithin : MethodName := ⟨"PressureNets", "isWithin", "(III)Z"⟩
abbrev b_P_isWarmth : ByteArray := prog_1_method_21_code
def y_P_isWarmth : MethodName := ⟨"PressureNets", "isWarmth", "(I)Z"⟩
abbrev b_P_isSide : ByteArray := prog_1_method_22_code
def y_P_isSide : MethodName := ⟨"PressureNets", "isSide", "(I)Z"⟩
abbrev b_P_isZone : ByteArray := prog_1_method_23_code
def y_P_isZone : MethodName := ⟨"PressureNets", "isZone", "(I)Z"⟩
abbrev b_P_isPlace : ByteArray := prog_1_method_24_code
def y_P_isPlace : MethodName := ⟨"PressureNets", "isPlace", "(I)Z"⟩
abbrev b_P_canJoin : ByteArray := prog_1_method_25_code
def y_P_canJoin : MethodName := ⟨"PressureNets", "canJoin", "(II)Z"⟩
abbrev b_P_isLeak : ByteArray := prog_1_method_26_code
def y_P_isLeak : MethodName := ⟨"PressureNets", "isLeak", "(I)Z"⟩
abbrev b_P_rowOf : ByteArray := prog_1_method_27_code
def y_P_rowOf : MethodName := ⟨"PressureNets", "rowOf", "(I)I"⟩
abbrev b_P_ductOfFan : ByteArray := prog_1_method_28_code
def y_P_ductOfFan : MethodName := ⟨"PressureNets", "ductOfFan", "(I)I"⟩
abbrev b_M_init : ByteArray := prog_7_method_1_code
def y_M_init : MethodName := ⟨"PressureNetsModel", "<init>", "()V"⟩
abbrev b_M_thrown : ByteArray := prog_7_method_2_code
def y_M_thrown : MethodName := ⟨"PressureNetsModel", "thrown", "()I"⟩
abbrev b_M_in : ByteArray := prog_7_method_3_code
def y_M_in : MethodName := ⟨"PressureNetsModel", "in", "(JJJ)Z"⟩
abbrev b_M_isZone : ByteArray := prog_7_method_4_code
def y_M_isZone : MethodName := ⟨"PressureNetsModel", "isZone", "(I)Z"⟩
abbrev b_M_isPlace : ByteArray := prog_7_method_5_code
def y_M_isPlace : MethodName := ⟨"PressureNetsModel", "isPlace", "(I)Z"⟩
abbrev b_M_zone : ByteArray := prog_7_method_6_code
def y_M_zone : MethodName := ⟨"PressureNetsModel", "zone", "(II)I"⟩
abbrev b_M_wind : ByteArray := prog_7_method_7_code
def y_M_wind : MethodName := ⟨"PressureNetsModel", "wind", "(II)I"⟩
abbrev b_M_warmth : ByteArray := prog_7_method_8_code
def y_M_warmth : MethodName := ⟨"PressureNetsModel", "warmth", "(II)I"⟩
abbrev b_M_isPair : ByteArray := prog_7_method_9_code
def y_M_isPair : MethodName := ⟨"PressureNetsModel", "isPair", "(II)Z"⟩
abbrev b_M_leak : ByteArray := prog_7_method_10_code
def y_M_leak : MethodName := ⟨"PressureNetsModel", "leak", "(IIIII)I"⟩
abbrev b_M_shut : ByteArray := prog_7_method_11_code
def y_M_shut : MethodName := ⟨"PressureNetsModel", "shut", "(IZ)Z"⟩
abbrev b_M_fan : ByteArray := prog_7_method_12_code
def y_M_fan : MethodName := ⟨"PressureNetsModel", "fan", "(IIII)I"⟩
abbrev b_M_warmthOf : ByteArray := prog_7_method_13_code
def y_M_warmthOf : MethodName := ⟨"PressureNetsModel", "warmthOf", "(I)I"⟩
abbrev b_M_pressureOf : ByteArray := prog_7_method_14_code
def y_M_pressureOf : MethodName := ⟨"PressureNetsModel", "pressureOf", "(I)I"⟩
abbrev b_M_driveOf : ByteArray := prog_7_method_15_code
def y_M_driveOf : MethodName := ⟨"PressureNetsModel", "driveOf", "(I)I"⟩
abbrev b_M_rootOf : ByteArray := prog_7_method_16_code
def y_M_rootOf : MethodName := ⟨"PressureNetsModel", "rootOf", "(J)J"⟩
abbrev b_M_flowOf : ByteArray := prog_7_method_17_code
def y_M_flowOf : MethodName := ⟨"PressureNetsModel", "flowOf", "(I)J"⟩
abbrev b_M_blown : ByteArray := prog_7_method_18_code
def y_M_blown : MethodName := ⟨"PressureNetsModel", "blown", "(I)J"⟩
abbrev b_M_gainOf : ByteArray := prog_7_method_19_code
def y_M_gainOf : MethodName := ⟨"PressureNetsModel", "gainOf", "(I)J"⟩
abbrev b_M_rise : ByteArray := prog_7_method_20_code
def y_M_rise : MethodName := ⟨"PressureNetsModel", "rise", "(I)Z"⟩
abbrev b_M_make : ByteArray := prog_7_method_21_code
def y_M_make : MethodName := ⟨"PressureNetsModel", "make", "(I)Z"⟩
abbrev b_M_shutOnes : ByteArray := prog_7_method_22_code
def y_M_shutOnes : MethodName := ⟨"PressureNetsModel", "shutOnes", "()I"⟩
abbrev b_M_makeNow : ByteArray := prog_7_method_23_code
def y_M_makeNow : MethodName := ⟨"PressureNetsModel", "makeNow", "()Z"⟩
abbrev b_M_pressure : ByteArray := prog_7_method_24_code
def y_M_pressure : MethodName := ⟨"PressureNetsModel", "pressure", "(I)I"⟩
abbrev b_M_told : ByteArray := prog_7_method_25_code
def y_M_told : MethodName := ⟨"PressureNetsModel", "told", "(II)I"⟩
abbrev b_M_blows : ByteArray := prog_7_method_26_code
def y_M_blows : MethodName := ⟨"PressureNetsModel", "blows", "(I)I"⟩
abbrev b_M_gain : ByteArray := prog_7_method_27_code
def y_M_gain : MethodName := ⟨"PressureNetsModel", "gain", "(I)I"⟩
abbrev b_M_caseOf : ByteArray := prog_7_method_28_code
def y_M_caseOf : MethodName := ⟨"PressureNetsModel", "caseOf", "(I)I"⟩
abbrev b_M_worst : ByteArray := prog_7_method_29_code
def y_M_worst : MethodName := ⟨"PressureNetsModel", "worst", "(II)I"⟩
abbrev b_M_put : ByteArray := prog_7_method_30_code
def y_M_put : MethodName := ⟨"PressureNetsModel", "put", "(II)I"⟩
abbrev b_M_source : ByteArray := prog_7_method_31_code
def y_M_source : MethodName := ⟨"PressureNetsModel", "source", "(II)I"⟩
abbrev b_M_outBy : ByteArray := prog_7_method_32_code
def y_M_outBy : MethodName := ⟨"PressureNetsModel", "outBy", "(II)J"⟩
abbrev b_M_other : ByteArray := prog_7_method_33_code
def y_M_other : MethodName := ⟨"PressureNetsModel", "other", "(II)I"⟩
abbrev b_M_step : ByteArray := prog_7_method_34_code
def y_M_step : MethodName := ⟨"PressureNetsModel", "step", "()Z"⟩
abbrev b_M_steps : ByteArray := prog_7_method_35_code
def y_M_steps : MethodName := ⟨"PressureNetsModel", "steps", "(I)I"⟩
abbrev b_M_gone : ByteArray := prog_7_method_36_code
def y_M_gone : MethodName := ⟨"PressureNetsModel", "gone", "(I)J"⟩
abbrev b_N_init : ByteArray := prog_2_method_1_code
def y_N_init : MethodName := ⟨"PressureNets$Net", "<init>", "()V"⟩
abbrev b_N_addZone : ByteArray := prog_2_method_2_code
def y_N_addZone : MethodName := ⟨"PressureNets$Net", "addZone", "(II)I"⟩
abbrev b_N_changeWind : ByteArray := prog_2_method_3_code
def y_N_changeWind : MethodName := ⟨"PressureNets$Net", "changeWind", "(II)I"⟩
abbrev b_N_changeWarmth : ByteArray := prog_2_method_4_code
def y_N_changeWarmth : MethodName := ⟨"PressureNets$Net", "changeWarmth", "(II)I"⟩
abbrev b_N_addLeak : ByteArray := prog_2_method_5_code
def y_N_addLeak : MethodName := ⟨"PressureNets$Net", "addLeak", "(IIIII)I"⟩
abbrev b_N_addFan : ByteArray := prog_2_method_6_code
def y_N_addFan : MethodName := ⟨"PressureNets$Net", "addFan", "(IIII)I"⟩
abbrev b_N_join : ByteArray := prog_2_method_7_code
def y_N_join : MethodName := ⟨"PressureNets$Net", "join", "(III)V"⟩
abbrev b_N_noteDuct : ByteArray := prog_2_method_8_code
def y_N_noteDuct : MethodName := ⟨"PressureNets$Net", "noteDuct", "(II)V"⟩
abbrev b_N_measureStack : ByteArray := prog_2_method_9_code
def y_N_measureStack : MethodName := ⟨"PressureNets$Net", "measureStack", "(I)V"⟩
abbrev b_N_isDuct : ByteArray := prog_2_method_10_code
def y_N_isDuct : MethodName := ⟨"PressureNets$Net", "isDuct", "(I)Z"⟩
abbrev b_N_driveOf : ByteArray := prog_2_method_11_code
def y_N_driveOf : MethodName := ⟨"PressureNets$Net", "driveOf", "(I[I)I"⟩
abbrev b_N_flowOf : ByteArray := prog_2_method_12_code
def y_N_flowOf : MethodName := ⟨"PressureNets$Net", "flowOf", "(ILPressureNets$State;)I"⟩
abbrev b_N_gainOf : ByteArray := prog_2_method_13_code
def y_N_gainOf : MethodName := ⟨"PressureNets$Net", "gainOf", "(ILPressureNets$State;)I"⟩
abbrev b_N_rootFlow : ByteArray := prog_2_method_14_code
def y_N_rootFlow : MethodName := ⟨"PressureNets$Net", "rootFlow", "(II)I"⟩
abbrev b_S_init : ByteArray := prog_3_method_1_code
def y_S_init : MethodName := ⟨"PressureNets$Settler", "<init>", "(LPressureNets$Net;)V"⟩
abbrev b_S_settles : ByteArray := prog_3_method_2_code
def y_S_settles : MethodName := ⟨"PressureNets$Settler", "settles", "(LPressureNets$State;)Z"⟩
abbrev b_S_begin : ByteArray := prog_3_method_3_code
def y_S_begin : MethodName := ⟨"PressureNets$Settler", "begin", "(LPressureNets$State;)V"⟩
abbrev b_S_isPastHighest : ByteArray := prog_3_method_4_code
def y_S_isPastHighest : MethodName := ⟨"PressureNets$Settler", "isPastHighest", "(LPressureNets$State;)Z"⟩
abbrev b_S_doBout : ByteArray := prog_3_method_5_code
def y_S_doBout : MethodName := ⟨"PressureNets$Settler", "doBout", "(LPressureNets$State;I)I"⟩
abbrev b_S_raises : ByteArray := prog_3_method_6_code
def y_S_raises : MethodName := ⟨"PressureNets$Settler", "raises", "(LPressureNets$State;I)Z"⟩
abbrev b_S_lifts : ByteArray := prog_3_method_7_code
def y_S_lifts : MethodName := ⟨"PressureNets$Settler", "lifts", "(LPressureNets$State;II)Z"⟩
abbrev b_T_init : ByteArray := prog_4_method_1_code
def y_T_init : MethodName := ⟨"PressureNets$State", "<init>", "()V"⟩
abbrev b_U_init : ByteArray := prog_5_method_1_code
def y_U_init : MethodName := ⟨"PressureNets$Stuff", "<init>", "(LPressureNets$Net;)V"⟩
abbrev b_U_follow : ByteArray := prog_5_method_2_code
def y_U_follow : MethodName := ⟨"PressureNets$Stuff", "follow", "(LPressureNets$State;)V"⟩
abbrev b_U_giverOf : ByteArray := prog_5_method_3_code
def y_U_giverOf : MethodName := ⟨"PressureNets$Stuff", "giverOf", "(I)I"⟩
abbrev b_U_takerOf : ByteArray := prog_5_method_4_code
def y_U_takerOf : MethodName := ⟨"PressureNets$Stuff", "takerOf", "(I)I"⟩
abbrev b_U_doesStep : ByteArray := prog_5_method_5_code
def y_U_doesStep : MethodName := ⟨"PressureNets$Stuff", "doesStep", "()Z"⟩
abbrev b_U_carry : ByteArray := prog_5_method_6_code
def y_U_carry : MethodName := ⟨"PressureNets$Stuff", "carry", "(I)V"⟩
abbrev b_L_zone : ByteArray := method_3_code
def y_L_zone : MethodName := ⟨"PressureNetsLaw", "zone", "(LPressureNets;II[J)I"⟩
abbrev b_L_wind : ByteArray := method_4_code
def y_L_wind : MethodName := ⟨"PressureNetsLaw", "wind", "(LPressureNets;II[J)I"⟩
abbrev b_L_warmth : ByteArray := method_5_code
def y_L_warmth : MethodName := ⟨"PressureNetsLaw", "warmth", "(LPressureNets;II[J)I"⟩
abbrev b_L_leak : ByteArray := method_6_code
def y_L_leak : MethodName := ⟨"PressureNetsLaw", "leak", "(LPressureNets;IIIII[J)I"⟩
abbrev b_L_shut : ByteArray := method_7_code
def y_L_shut : MethodName := ⟨"PressureNetsLaw", "shut", "(LPressureNets;IZ[J)I"⟩
abbrev b_L_fan : ByteArray := method_8_code
def y_L_fan : MethodName := ⟨"PressureNetsLaw", "fan", "(LPressureNets;IIII[J)I"⟩
abbrev b_L_pressure : ByteArray := method_9_code
def y_L_pressure : MethodName := ⟨"PressureNetsLaw", "pressure", "(LPressureNets;I[J)I"⟩
abbrev b_L_told : ByteArray := method_10_code
def y_L_told : MethodName := ⟨"PressureNetsLaw", "told", "(LPressureNets;II[J)I"⟩
abbrev b_L_blows : ByteArray := method_11_code
def y_L_blows : MethodName := ⟨"PressureNetsLaw", "blows", "(LPressureNets;I[J)I"⟩
abbrev b_L_gain : ByteArray := method_12_code
def y_L_gain : MethodName := ⟨"PressureNetsLaw", "gain", "(LPressureNets;I[J)I"⟩
abbrev b_L_caseOf : ByteArray := method_13_code
def y_L_caseOf : MethodName := ⟨"PressureNetsLaw", "caseOf", "(LPressureNets;I[J)I"⟩
abbrev b_L_worst : ByteArray := method_14_code
def y_L_worst : MethodName := ⟨"PressureNetsLaw", "worst", "(LPressureNets;II[J)I"⟩
abbrev b_L_put : ByteArray := method_15_code
def y_L_put : MethodName := ⟨"PressureNetsLaw", "put", "(LPressureNets;II[J)I"⟩
abbrev b_L_source : ByteArray := method_16_code
def y_L_source : MethodName := ⟨"PressureNetsLaw", "source", "(LPressureNets;II[J)I"⟩
abbrev b_L_steps : ByteArray := method_17_code
def y_L_steps : MethodName := ⟨"PressureNetsLaw", "steps", "(LPressureNets;I[J)I"⟩
abbrev b_L_gone : ByteArray := method_18_code
def y_L_gone : MethodName := ⟨"PressureNetsLaw", "gone", "(LPressureNets;I[J)I"⟩
-- not reached: ('PressureNetsLaw', 'law', '([I)Z')
def pn_W : List Cond := lw_tbl.filter goodWord
theorem pn_mem {w : Cond} (i : Nat) (h : lw_tbl[i]? = some w) (g : goodWord w = true) : w ∈ pn_W := List.mem_filter.mpr ⟨List.mem_of_getElem? h, g⟩
theorem pn_sub : ∀ w ∈ pn_W, w ∈ lw_tbl := fun _ h => (List.mem_filter.mp h).1
theorem pn_gd {c0 w : Cond} (h : w ∈ pn_W) : w ∈ c0 :: pn_W ∧ ((w.onTables && w.keeps) = true ∨ ∃ ty, w = .arrayClass ty) := ⟨List.mem_cons_of_mem _ h, good_of_word (List.mem_filter.mp h).2⟩
theorem pn_g {c0 c1 : Cond} (h : c1 ∈ pn_W) : GoodIn (c0 :: pn_W) (c1 :: pn_W) := fun w hw => (List.mem_cons.mp hw).elim (fun e => by rw [e]; exact pn_gd h) (fun q => pn_gd q)
theorem pn_gV {c0 c1 : Cond} {own : String} {idx : Nat} {C : String} {y : MethodName} (h1 : Cond.methodLink own idx y ∈ pn_W) (h2 : Cond.instanceMethod y ∈ pn_W) (h3 : Cond.selects C y y ∈ pn_W) (h4 : Cond.initialized C ∈ pn_W) (h : c1 ∈ pn_W) : GoodIn (c0 :: pn_W) (wsV own idx C y (c1 :: pn_W)) := by
  intro w hw
  unfold wsV at hw
  rcases List.mem_append.mp hw with q | q
  · simp only [List.mem_cons, List.not_mem_nil, or_false] at q
    rcases q with rfl | rfl | rfl | rfl
    · exact pn_gd h1
    · exact pn_gd h2
    · exact pn_gd h3
    · exact pn_gd h4
  · exact pn_g h w q
theorem pn_gS {c0 c1 : Cond} {own : String} {idx : Nat} {y : MethodName} (h1 : Cond.methodLink own idx y ∈ pn_W) (h2 : Cond.static y ∈ pn_W) (h3 : Cond.initialized own ∈ pn_W) (h : c1 ∈ pn_W) : GoodIn (c0 :: pn_W) (wsS own idx y (c1 :: pn_W)) := by
  intro w hw
  unfold wsS at hw
  rcases List.mem_append.mp hw with q | q
  · simp only [List.mem_cons, List.not_mem_nil, or_false] at q
    rcases q with rfl | rfl | rfl
    · exact pn_gd h1
    · exact pn_gd h2
    · exact pn_gd h3
  · exact pn_g h w q
end
section
theorem m_0 : (Cond.selects "java/lang/Throwable" ({ cls := "java/lang/Throwable", name := "fillInStackTrace", desc := "(I)Ljava/lang/Throwable;" } : MethodName) ({ cls := "java/lang/Throwable", name := "fillInStackTrace", desc := "(I)Ljava/lang/Throwable;" } : MethodName)) ∈ pn_W := pn_mem 0 (by decide +kernel) (by decide +kernel)
theorem m_1 : (Cond.selects "PressureNets" ({ cls := "PressureNets", name := "isPlace", desc := "(I)Z" } : MethodName) ({ cls := "PressureNets", name := "isPlace", desc := "(I)Z" } : MethodName)) ∈ pn_W := pn_mem 1 (by decide +kernel) (by decide +kernel)
theorem m_2 : (Cond.selects "PressureNets" ({ cls := "PressureNets", name := "isZone", desc := "(I)Z" } : MethodName) ({ cls := "PressureNets", name := "isZone", desc := "(I)Z" } : MethodName)) ∈ pn_W := pn_mem 2 (by decide +kernel) (by decide +kernel)
theorem m_3 : (Cond.selects "PressureNets$Net" ({ cls := "PressureNets$Net", name := "measureStack", desc := "(I)V" } : MethodName) ({ cls := "PressureNets$Net", name := "measureStack", desc := "(I)V" } : MethodName)) ∈ pn_W := pn_mem 3 (by decide +kernel) (by decide +kernel)
theorem m_4 : (Cond.selects "PressureNets" ({ cls := "PressureNets", name := "canJoin", desc := "(II)Z" } : MethodName) ({ cls := "PressureNets", name := "canJoin", desc := "(II)Z" } : MethodName)) ∈ pn_W := pn_mem 4 (by decide +kernel) (by decide +kernel)
theorem m_5 : (Cond.selects "PressureNets$Net" ({ cls := "PressureNets$Net", name := "join", desc := "(III)V" } : MethodName) ({ cls := "PressureNets$Net", name := "join", desc := "(III)V" } : MethodName)) ∈ pn_W := pn_mem 5 (by decide +kernel) (by decide +kernel)
theorem m_6 : (Cond.selects "PressureNets$Net" ({ cls := "PressureNets$Net", name := "noteDuct", desc := "(II)V" } : MethodName) ({ cls := "PressureNets$Net", name := "noteDuct", desc := "(II)V" } : MethodName)) ∈ pn_W := pn_mem 6 (by decide +kernel) (by decide +kernel)
theorem m_7 : (Cond.selects "PressureNets" ({ cls := "PressureNets", name := "isLeak", desc := "(I)Z" } : MethodName) ({ cls := "PressureNets", name := "isLeak", desc := "(I)Z" } : MethodName)) ∈ pn_W := pn_mem 7 (by decide +kernel) (by decide +kernel)
theorem m_8 : (Cond.selects "PressureNets$Settler" ({ cls := "PressureNets$Settler", name := "begin", desc := "(LPressureNets$State;)V" } : MethodName) ({ cls := "PressureNets$Settler", name := "begin", desc := "(LPressureNets$State;)V" } : MethodName)) ∈ pn_W := pn_mem 8 (by decide +kernel) (by decide +kernel)
theorem m_9 : (Cond.selects "PressureNets$Settler" ({ cls := "PressureNets$Settler", name := "isPastHighest", desc := "(LPressureNets$State;)Z" } : MethodName) ({ cls := "PressureNets$Settler", name := "isPastHighest", desc := "(LPressureNets$State;)Z" } : MethodName)) ∈ pn_W := pn_mem 9 (by decide +kernel) (by decide +kernel)
theorem m_10 : (Cond.selects "PressureNets$Settler" ({ cls := "PressureNets$Settler", name := "doBout", desc := "(LPressureNets$State;I)I" } : MethodName) ({ cls := "PressureNets$Settler", name := "doBout", desc := "(LPressureNets$State;I)I" } : MethodName)) ∈ pn_W := pn_mem 10 (by decide +kernel) (by decide +kernel)
theorem m_11 : (Cond.selects "PressureNets$Settler" ({ cls := "PressureNets$Settler", name := "raises", desc := "(LPressureNets$State;I)Z" } : MethodName) ({ cls := "PressureNets$Settler", name := "raises", desc := "(LPressureNets$State;I)Z" } : MethodName)) ∈ pn_W := pn_mem 11 (by decide +kernel) (by decide +kernel)
theorem m_12 : (Cond.selects "PressureNets$Settler" ({ cls := "PressureNets$Settler", name := "lifts", desc := "(LPressureNets$State;II)Z" } : MethodName) ({ cls := "PressureNets$Settler", name := "lifts", desc := "(LPressureNets$State;II)Z" } : MethodName)) ∈ pn_W := pn_mem 12 (by decide +kernel) (by decide +kernel)
theorem m_13 : (Cond.selects "PressureNets$Stuff" ({ cls := "PressureNets$Stuff", name := "giverOf", desc := "(I)I" } : MethodName) ({ cls := "PressureNets$Stuff", name := "giverOf", desc := "(I)I" } : MethodName)) ∈ pn_W := pn_mem 13 (by decide +kernel) (by decide +kernel)
theorem m_14 : (Cond.selects "PressureNets$Stuff" ({ cls := "PressureNets$Stuff", name := "carry", desc := "(I)V" } : MethodName) ({ cls := "PressureNets$Stuff", name := "carry", desc := "(I)V" } : MethodName)) ∈ pn_W := pn_mem 14 (by decide +kernel) (by decide +kernel)
theorem m_15 : (Cond.selects "PressureNets$Stuff" ({ cls := "PressureNets$Stuff", name := "takerOf", desc := "(I)I" } : MethodName) ({ cls := "PressureNets$Stuff", name := "takerOf", desc := "(I)I" } : MethodName)) ∈ pn_W := pn_mem 15 (by decide +kernel) (by decide +kernel)
theorem m_16 : (Cond.selects "PressureNetsModel" ({ cls := "PressureNetsModel", name := "isPlace", desc := "(I)Z" } : MethodName) ({ cls := "PressureNetsModel", name := "isPlace", desc := "(I)Z" } : MethodName)) ∈ pn_W := pn_mem 16 (by decide +kernel) (by decide +kernel)
theorem m_17 : (Cond.selects "PressureNetsModel" ({ cls := "PressureNetsModel", name := "warmthOf", desc := "(I)I" } : MethodName) ({ cls := "PressureNetsModel", name := "warmthOf", desc := "(I)I" } : MethodName)) ∈ pn_W := pn_mem 17 (by decide +kernel) (by decide +kernel)
theorem m_18 : (Cond.selects "PressureNetsModel" ({ cls := "PressureNetsModel", name := "isPair", desc := "(II)Z" } : MethodName) ({ cls := "PressureNetsModel", name := "isPair", desc := "(II)Z" } : MethodName)) ∈ pn_W := pn_mem 18 (by decide +kernel) (by decide +kernel)
theorem m_19 : (Cond.selects "PressureNetsModel" ({ cls := "PressureNetsModel", name := "makeNow", desc := "()Z" } : MethodName) ({ cls := "PressureNetsModel", name := "makeNow", desc := "()Z" } : MethodName)) ∈ pn_W := pn_mem 19 (by decide +kernel) (by decide +kernel)
theorem m_20 : (Cond.selects "PressureNetsModel" ({ cls := "PressureNetsModel", name := "shutOnes", desc := "()I" } : MethodName) ({ cls := "PressureNetsModel", name := "shutOnes", desc := "()I" } : MethodName)) ∈ pn_W := pn_mem 20 (by decide +kernel) (by decide +kernel)
theorem m_21 : (Cond.selects "PressureNetsModel" ({ cls := "PressureNetsModel", name := "make", desc := "(I)Z" } : MethodName) ({ cls := "PressureNetsModel", name := "make", desc := "(I)Z" } : MethodName)) ∈ pn_W := pn_mem 21 (by decide +kernel) (by decide +kernel)
theorem m_22 : (Cond.selects "PressureNetsModel" ({ cls := "PressureNetsModel", name := "gainOf", desc := "(I)J" } : MethodName) ({ cls := "PressureNetsModel", name := "gainOf", desc := "(I)J" } : MethodName)) ∈ pn_W := pn_mem 22 (by decide +kernel) (by decide +kernel)
theorem m_23 : (Cond.selects "PressureNetsModel" ({ cls := "PressureNetsModel", name := "flowOf", desc := "(I)J" } : MethodName) ({ cls := "PressureNetsModel", name := "flowOf", desc := "(I)J" } : MethodName)) ∈ pn_W := pn_mem 23 (by decide +kernel) (by decide +kernel)
theorem m_24 : (Cond.selects "PressureNetsModel" ({ cls := "PressureNetsModel", name := "driveOf", desc := "(I)I" } : MethodName) ({ cls := "PressureNetsModel", name := "driveOf", desc := "(I)I" } : MethodName)) ∈ pn_W := pn_mem 24 (by decide +kernel) (by decide +kernel)
theorem m_25 : (Cond.selects "PressureNetsModel" ({ cls := "PressureNetsModel", name := "pressureOf", desc := "(I)I" } : MethodName) ({ cls := "PressureNetsModel", name := "pressureOf", desc := "(I)I" } : MethodName)) ∈ pn_W := pn_mem 25 (by decide +kernel) (by decide +kernel)
theorem m_26 : (Cond.selects "PressureNetsModel" ({ cls := "PressureNetsModel", name := "blown", desc := "(I)J" } : MethodName) ({ cls := "PressureNetsModel", name := "blown", desc := "(I)J" } : MethodName)) ∈ pn_W := pn_mem 26 (by decide +kernel) (by decide +kernel)
theorem m_27 : (Cond.selects "PressureNetsModel" ({ cls := "PressureNetsModel", name := "rise", desc := "(I)Z" } : MethodName) ({ cls := "PressureNetsModel", name := "rise", desc := "(I)Z" } : MethodName)) ∈ pn_W := pn_mem 27 (by decide +kernel) (by decide +kernel)
theorem m_28 : (Cond.selects "PressureNetsModel" ({ cls := "PressureNetsModel", name := "isZone", desc := "(I)Z" } : MethodName) ({ cls := "PressureNetsModel", name := "isZone", desc := "(I)Z" } : MethodName)) ∈ pn_W := pn_mem 28 (by decide +kernel) (by decide +kernel)
theorem m_29 : (Cond.selects "PressureNetsModel" ({ cls := "PressureNetsModel", name := "step", desc := "()Z" } : MethodName) ({ cls := "PressureNetsModel", name := "step", desc := "()Z" } : MethodName)) ∈ pn_W := pn_mem 29 (by decide +kernel) (by decide +kernel)
theorem m_30 : (Cond.selects "PressureNetsModel" ({ cls := "PressureNetsModel", name := "outBy", desc := "(II)J" } : MethodName) ({ cls := "PressureNetsModel", name := "outBy", desc := "(II)J" } : MethodName)) ∈ pn_W := pn_mem 30 (by decide +kernel) (by decide +kernel)
theorem m_31 : (Cond.selects "PressureNetsModel" ({ cls := "PressureNetsModel", name := "other", desc := "(II)I" } : MethodName) ({ cls := "PressureNetsModel", name := "other", desc := "(II)I" } : MethodName)) ∈ pn_W := pn_mem 31 (by decide +kernel) (by decide +kernel)
theorem m_32 : (Cond.initialized "PressureNetsLaw") ∈ pn_W := pn_mem 32 (by decide +kernel) (by decide +kernel)
theorem m_33 : (Cond.initialized "PressureNets") ∈ pn_W := pn_mem 33 (by decide +kernel) (by decide +kernel)
theorem m_34 : (Cond.initialized "PressureNets$Net") ∈ pn_W := pn_mem 34 (by decide +kernel) (by decide +kernel)
theorem m_35 : (Cond.initialized "PressureNets$Settler") ∈ pn_W := pn_mem 35 (by decide +kernel) (by decide +kernel)
theorem m_36 : (Cond.initialized "PressureNets$Stuff") ∈ pn_W := pn_mem 36 (by decide +kernel) (by decide +kernel)
theorem m_37 : (Cond.initialized "PressureNets$State") ∈ pn_W := pn_mem 37 (by decide +kernel) (by decide +kernel)
theorem m_38 : (Cond.initialized "PressureNetsModel") ∈ pn_W := pn_mem 38 (by decide +kernel) (by decide +kernel)
theorem m_39 : (Cond.initialized "java/lang/Throwable") ∈ pn_W := pn_mem 39 (by decide +kernel) (by decide +kernel)
theorem m_40 : (Cond.initialized "java/lang/Exception") ∈ pn_W := pn_mem 40 (by decide +kernel) (by decide +kernel)
theorem m_41 : (Cond.initialized "java/lang/RuntimeException") ∈ pn_W := pn_mem 41 (by decide +kernel) (by decide +kernel)
theorem m_42 : (Cond.initialized "java/lang/IllegalArgumentException") ∈ pn_W := pn_mem 42 (by decide +kernel) (by decide +kernel)
theorem m_43 : (Cond.initialized "java/lang/IllegalStateException") ∈ pn_W := pn_mem 43 (by decide +kernel) (by decide +kernel)
theorem m_44 : (Cond.initialized "java/util/Arrays") ∈ pn_W := pn_mem 44 (by decide +kernel) (by decide +kernel)
theorem m_45 : (Cond.initialized "java/lang/System") ∈ pn_W := pn_mem 45 (by decide +kernel) (by decide +kernel)
theorem m_46 : (Cond.initialized "java/lang/Math") ∈ pn_W := pn_mem 46 (by decide +kernel) (by decide +kernel)
theorem m_47 : (Cond.classLink "PressureNetsLaw" (8 : Nat) "PressureNets") ∈ pn_W := pn_mem 47 (by decide +kernel) (by decide +kernel)
theorem m_48 : (Cond.instantiable "PressureNets" (6 : Nat)) ∈ pn_W := pn_mem 48 (by decide +kernel) (by decide +kernel)
theorem m_49 : (Cond.methodLink "PressureNetsLaw" (67 : Nat) ({ cls := "PressureNets", name := "<init>", desc := "()V" } : MethodName)) ∈ pn_W := pn_mem 49 (by decide +kernel) (by decide +kernel)
theorem m_50 : (Cond.instanceMethod ({ cls := "PressureNets", name := "<init>", desc := "()V" } : MethodName)) ∈ pn_W := pn_mem 50 (by decide +kernel) (by decide +kernel)
theorem m_51 : (Cond.code ({ cls := "PressureNets", name := "<init>", desc := "()V" } : MethodName) prog_1_method_1_code (2 : Nat) none) ∈ pn_W := pn_mem 51 (by decide +kernel) (by decide +kernel)
theorem m_52 : (Cond.methodLink "PressureNets" (3 : Nat) ({ cls := "java/lang/Object", name := "<init>", desc := "()V" } : MethodName)) ∈ pn_W := pn_mem 52 (by decide +kernel) (by decide +kernel)
theorem m_53 : (Cond.instanceMethod ({ cls := "java/lang/Object", name := "<init>", desc := "()V" } : MethodName)) ∈ pn_W := pn_mem 53 (by decide +kernel) (by decide +kernel)
theorem m_54 : (Cond.code ({ cls := "java/lang/Object", name := "<init>", desc := "()V" } : MethodName) object_method_1_code (1 : Nat) none) ∈ pn_W := pn_mem 54 (by decide +kernel) (by decide +kernel)
theorem m_55 : (Cond.classLink "PressureNets" (9 : Nat) "PressureNets$Net") ∈ pn_W := pn_mem 55 (by decide +kernel) (by decide +kernel)
theorem m_56 : (Cond.instantiable "PressureNets$Net" (17 : Nat)) ∈ pn_W := pn_mem 56 (by decide +kernel) (by decide +kernel)
theorem m_58 : (Cond.instanceMethod ({ cls := "PressureNets$Net", name := "<init>", desc := "()V" } : MethodName)) ∈ pn_W := pn_mem 58 (by decide +kernel) (by decide +kernel)
theorem m_59 : (Cond.code ({ cls := "PressureNets$Net", name := "<init>", desc := "()V" } : MethodName) prog_2_method_1_code (1 : Nat) none) ∈ pn_W := pn_mem 59 (by decide +kernel) (by decide +kernel)
theorem m_60 : (Cond.methodLink "PressureNets$Net" (3 : Nat) ({ cls := "java/lang/Object", name := "<init>", desc := "()V" } : MethodName)) ∈ pn_W := pn_mem 60 (by decide +kernel) (by decide +kernel)
theorem m_61 : (Cond.classLink "PressureNets$Net" (45 : Nat) "[[I") ∈ pn_W := pn_mem 61 (by decide +kernel) (by decide +kernel)
theorem m_63 : (Cond.fieldLink "PressureNets$Net" (9 : Nat) "PressureNets$Net" "wind" "[I") ∈ pn_W := pn_mem 63 (by decide +kernel) (by decide +kernel)
theorem m_64 : (Cond.fieldLink "PressureNets$Settler" (63 : Nat) "PressureNets$Net" "wind" "[I") ∈ pn_W := pn_mem 64 (by decide +kernel) (by decide +kernel)
theorem m_65 : (Cond.fieldLink "PressureNets" (113 : Nat) "PressureNets$Net" "wind" "[I") ∈ pn_W := pn_mem 65 (by decide +kernel) (by decide +kernel)
theorem m_66 : (Cond.fieldLink "PressureNets$Net" (15 : Nat) "PressureNets$Net" "warmthAt" "[I") ∈ pn_W := pn_mem 66 (by decide +kernel) (by decide +kernel)
theorem m_67 : (Cond.fieldLink "PressureNets$Net" (18 : Nat) "PressureNets$Net" "volume" "[I") ∈ pn_W := pn_mem 67 (by decide +kernel) (by decide +kernel)
theorem m_68 : (Cond.fieldLink "PressureNets$Stuff" (64 : Nat) "PressureNets$Net" "volume" "[I") ∈ pn_W := pn_mem 68 (by decide +kernel) (by decide +kernel)
theorem m_69 : (Cond.fieldLink "PressureNets$Net" (21 : Nat) "PressureNets$Net" "from" "[I") ∈ pn_W := pn_mem 69 (by decide +kernel) (by decide +kernel)
theorem m_70 : (Cond.fieldLink "PressureNets$Stuff" (74 : Nat) "PressureNets$Net" "from" "[I") ∈ pn_W := pn_mem 70 (by decide +kernel) (by decide +kernel)
theorem m_71 : (Cond.fieldLink "PressureNets$Net" (24 : Nat) "PressureNets$Net" "to" "[I") ∈ pn_W := pn_mem 71 (by decide +kernel) (by decide +kernel)
theorem m_72 : (Cond.fieldLink "PressureNets$Stuff" (71 : Nat) "PressureNets$Net" "to" "[I") ∈ pn_W := pn_mem 72 (by decide +kernel) (by decide +kernel)
theorem m_73 : (Cond.fieldLink "PressureNets$Net" (27 : Nat) "PressureNets$Net" "height" "[I") ∈ pn_W := pn_mem 73 (by decide +kernel) (by decide +kernel)
theorem m_74 : (Cond.fieldLink "PressureNets$Net" (30 : Nat) "PressureNets$Net" "area" "[I") ∈ pn_W := pn_mem 74 (by decide +kernel) (by decide +kernel)
theorem m_75 : (Cond.fieldLink "PressureNets$Net" (33 : Nat) "PressureNets$Net" "kind" "[I") ∈ pn_W := pn_mem 75 (by decide +kernel) (by decide +kernel)
theorem m_76 : (Cond.fieldLink "PressureNets$Net" (36 : Nat) "PressureNets$Net" "stack" "[I") ∈ pn_W := pn_mem 76 (by decide +kernel) (by decide +kernel)
theorem m_77 : (Cond.fieldLink "PressureNets$Net" (39 : Nat) "PressureNets$Net" "fanFlow" "[I") ∈ pn_W := pn_mem 77 (by decide +kernel) (by decide +kernel)
theorem m_78 : (Cond.fieldLink "PressureNets$Net" (42 : Nat) "PressureNets$Net" "slope" "[I") ∈ pn_W := pn_mem 78 (by decide +kernel) (by decide +kernel)
theorem m_79 : (Cond.fieldLink "PressureNets$Net" (47 : Nat) "PressureNets$Net" "ductsAt" "[[I") ∈ pn_W := pn_mem 79 (by decide +kernel) (by decide +kernel)
theorem m_80 : (Cond.fieldLink "PressureNets$Net" (50 : Nat) "PressureNets$Net" "ductCountAt" "[I") ∈ pn_W := pn_mem 80 (by decide +kernel) (by decide +kernel)
theorem m_81 : (Cond.fieldLink "PressureNets$Net" (53 : Nat) "PressureNets$Net" "zoneCount" "I") ∈ pn_W := pn_mem 81 (by decide +kernel) (by decide +kernel)
theorem m_82 : (Cond.fieldLink "PressureNets" (60 : Nat) "PressureNets$Net" "zoneCount" "I") ∈ pn_W := pn_mem 82 (by decide +kernel) (by decide +kernel)
theorem m_83 : (Cond.fieldLink "PressureNets$Settler" (38 : Nat) "PressureNets$Net" "zoneCount" "I") ∈ pn_W := pn_mem 83 (by decide +kernel) (by decide +kernel)
theorem m_84 : (Cond.fieldLink "PressureNets$Stuff" (57 : Nat) "PressureNets$Net" "zoneCount" "I") ∈ pn_W := pn_mem 84 (by decide +kernel) (by decide +kernel)
theorem m_85 : (Cond.fieldLink "PressureNets$Net" (57 : Nat) "PressureNets$Net" "leakCount" "I") ∈ pn_W := pn_mem 85 (by decide +kernel) (by decide +kernel)
theorem m_86 : (Cond.fieldLink "PressureNets" (90 : Nat) "PressureNets$Net" "leakCount" "I") ∈ pn_W := pn_mem 86 (by decide +kernel) (by decide +kernel)
theorem m_87 : (Cond.fieldLink "PressureNets$Net" (60 : Nat) "PressureNets$Net" "fanCount" "I") ∈ pn_W := pn_mem 87 (by decide +kernel) (by decide +kernel)
theorem m_88 : (Cond.fieldLink "PressureNets" (106 : Nat) "PressureNets$Net" "fanCount" "I") ∈ pn_W := pn_mem 88 (by decide +kernel) (by decide +kernel)
theorem m_89 : (Cond.fieldLink "PressureNets$Net" (63 : Nat) "PressureNets$Net" "version" "I") ∈ pn_W := pn_mem 89 (by decide +kernel) (by decide +kernel)
theorem m_90 : (Cond.fieldLink "PressureNets$Settler" (25 : Nat) "PressureNets$Net" "version" "I") ∈ pn_W := pn_mem 90 (by decide +kernel) (by decide +kernel)
theorem m_91 : (Cond.laysFinal "PressureNets$Net" "PressureNets$Net" "wind" "[I") ∈ pn_W := pn_mem 91 (by decide +kernel) (by decide +kernel)
theorem m_92 : (Cond.soleField "PressureNets$Net" "wind") ∈ pn_W := pn_mem 92 (by decide +kernel) (by decide +kernel)
theorem m_93 : (Cond.laysFinal "PressureNets$Net" "PressureNets$Net" "warmthAt" "[I") ∈ pn_W := pn_mem 93 (by decide +kernel) (by decide +kernel)
theorem m_94 : (Cond.soleField "PressureNets$Net" "warmthAt") ∈ pn_W := pn_mem 94 (by decide +kernel) (by decide +kernel)
theorem m_95 : (Cond.laysFinal "PressureNets$Net" "PressureNets$Net" "volume" "[I") ∈ pn_W := pn_mem 95 (by decide +kernel) (by decide +kernel)
theorem m_96 : (Cond.soleField "PressureNets$Net" "volume") ∈ pn_W := pn_mem 96 (by decide +kernel) (by decide +kernel)
theorem m_97 : (Cond.laysFinal "PressureNets$Net" "PressureNets$Net" "from" "[I") ∈ pn_W := pn_mem 97 (by decide +kernel) (by decide +kernel)
theorem m_98 : (Cond.soleField "PressureNets$Net" "from") ∈ pn_W := pn_mem 98 (by decide +kernel) (by decide +kernel)
theorem m_99 : (Cond.laysFinal "PressureNets$Net" "PressureNets$Net" "to" "[I") ∈ pn_W := pn_mem 99 (by decide +kernel) (by decide +kernel)
theorem m_100 : (Cond.soleField "PressureNets$Net" "to") ∈ pn_W := pn_mem 100 (by decide +kernel) (by decide +kernel)
theorem m_101 : (Cond.laysFinal "PressureNets$Net" "PressureNets$Net" "height" "[I") ∈ pn_W := pn_mem 101 (by decide +kernel) (by decide +kernel)
theorem m_102 : (Cond.soleField "PressureNets$Net" "height") ∈ pn_W := pn_mem 102 (by decide +kernel) (by decide +kernel)
theorem m_103 : (Cond.laysFinal "PressureNets$Net" "PressureNets$Net" "area" "[I") ∈ pn_W := pn_mem 103 (by decide +kernel) (by decide +kernel)
theorem m_104 : (Cond.soleField "PressureNets$Net" "area") ∈ pn_W := pn_mem 104 (by decide +kernel) (by decide +kernel)
theorem m_105 : (Cond.laysFinal "PressureNets$Net" "PressureNets$Net" "kind" "[I") ∈ pn_W := pn_mem 105 (by decide +kernel) (by decide +kernel)
theorem m_106 : (Cond.soleField "PressureNets$Net" "kind") ∈ pn_W := pn_mem 106 (by decide +kernel) (by decide +kernel)
theorem m_107 : (Cond.laysFinal "PressureNets$Net" "PressureNets$Net" "stack" "[I") ∈ pn_W := pn_mem 107 (by decide +kernel) (by decide +kernel)
theorem m_108 : (Cond.soleField "PressureNets$Net" "stack") ∈ pn_W := pn_mem 108 (by decide +kernel) (by decide +kernel)
theorem m_109 : (Cond.laysFinal "PressureNets$Net" "PressureNets$Net" "fanFlow" "[I") ∈ pn_W := pn_mem 109 (by decide +kernel) (by decide +kernel)
theorem m_110 : (Cond.soleField "PressureNets$Net" "fanFlow") ∈ pn_W := pn_mem 110 (by decide +kernel) (by decide +kernel)
theorem m_111 : (Cond.laysFinal "PressureNets$Net" "PressureNets$Net" "slope" "[I") ∈ pn_W := pn_mem 111 (by decide +kernel) (by decide +kernel)
theorem m_112 : (Cond.soleField "PressureNets$Net" "slope") ∈ pn_W := pn_mem 112 (by decide +kernel) (by decide +kernel)
theorem m_113 : (Cond.laysFinal "PressureNets$Net" "PressureNets$Net" "ductsAt" "[[I") ∈ pn_W := pn_mem 113 (by decide +kernel) (by decide +kernel)
theorem m_114 : (Cond.soleField "PressureNets$Net" "ductsAt") ∈ pn_W := pn_mem 114 (by decide +kernel) (by decide +kernel)
theorem m_115 : (Cond.laysFinal "PressureNets$Net" "PressureNets$Net" "ductCountAt" "[I") ∈ pn_W := pn_mem 115 (by decide +kernel) (by decide +kernel)
theorem m_116 : (Cond.soleField "PressureNets$Net" "ductCountAt") ∈ pn_W := pn_mem 116 (by decide +kernel) (by decide +kernel)
theorem m_117 : (Cond.lays "PressureNets$Net" "PressureNets$Net" "zoneCount" "I") ∈ pn_W := pn_mem 117 (by decide +kernel) (by decide +kernel)
theorem m_118 : (Cond.soleField "PressureNets$Net" "zoneCount") ∈ pn_W := pn_mem 118 (by decide +kernel) (by decide +kernel)
theorem m_119 : (Cond.lays "PressureNets$Net" "PressureNets$Net" "leakCount" "I") ∈ pn_W := pn_mem 119 (by decide +kernel) (by decide +kernel)
theorem m_120 : (Cond.soleField "PressureNets$Net" "leakCount") ∈ pn_W := pn_mem 120 (by decide +kernel) (by decide +kernel)
theorem m_121 : (Cond.lays "PressureNets$Net" "PressureNets$Net" "fanCount" "I") ∈ pn_W := pn_mem 121 (by decide +kernel) (by decide +kernel)
theorem m_122 : (Cond.soleField "PressureNets$Net" "fanCount") ∈ pn_W := pn_mem 122 (by decide +kernel) (by decide +kernel)
theorem m_123 : (Cond.lays "PressureNets$Net" "PressureNets$Net" "version" "I") ∈ pn_W := pn_mem 123 (by decide +kernel) (by decide +kernel)
theorem m_124 : (Cond.soleField "PressureNets$Net" "version") ∈ pn_W := pn_mem 124 (by decide +kernel) (by decide +kernel)
theorem m_125 : (Cond.superclass "PressureNets$Net" "java/lang/Object") ∈ pn_W := pn_mem 125 (by decide +kernel) (by decide +kernel)
theorem m_126 : (Cond.arrayClass FieldType.int) ∈ pn_W := pn_mem 126 (by decide +kernel) (by decide +kernel)
theorem m_127 : (Cond.classLink "PressureNets" (16 : Nat) "PressureNets$Settler") ∈ pn_W := pn_mem 127 (by decide +kernel) (by decide +kernel)
theorem m_128 : (Cond.instantiable "PressureNets$Settler" (2 : Nat)) ∈ pn_W := pn_mem 128 (by decide +kernel) (by decide +kernel)
theorem m_129 : (Cond.methodLink "PressureNets" (18 : Nat) ({ cls := "PressureNets$Settler", name := "<init>", desc := "(LPressureNets$Net;)V" } : MethodName)) ∈ pn_W := pn_mem 129 (by decide +kernel) (by decide +kernel)
theorem m_130 : (Cond.instanceMethod ({ cls := "PressureNets$Settler", name := "<init>", desc := "(LPressureNets$Net;)V" } : MethodName)) ∈ pn_W := pn_mem 130 (by decide +kernel) (by decide +kernel)
theorem m_131 : (Cond.code ({ cls := "PressureNets$Settler", name := "<init>", desc := "(LPressureNets$Net;)V" } : MethodName) prog_3_method_1_code (2 : Nat) none) ∈ pn_W := pn_mem 131 (by decide +kernel) (by decide +kernel)
theorem m_132 : (Cond.methodLink "PressureNets$Settler" (3 : Nat) ({ cls := "java/lang/Object", name := "<init>", desc := "()V" } : MethodName)) ∈ pn_W := pn_mem 132 (by decide +kernel) (by decide +kernel)
theorem m_133 : (Cond.fieldLink "PressureNets$Settler" (15 : Nat) "PressureNets$Settler" "net" "LPressureNets$Net;") ∈ pn_W := pn_mem 133 (by decide +kernel) (by decide +kernel)
theorem m_134 : (Cond.fieldLink "PressureNets$Settler" (9 : Nat) "PressureNets$Settler" "before" "[I") ∈ pn_W := pn_mem 134 (by decide +kernel) (by decide +kernel)
theorem m_135 : (Cond.laysFinal "PressureNets$Settler" "PressureNets$Settler" "net" "LPressureNets$Net;") ∈ pn_W := pn_mem 135 (by decide +kernel) (by decide +kernel)
theorem m_136 : (Cond.soleField "PressureNets$Settler" "net") ∈ pn_W := pn_mem 136 (by decide +kernel) (by decide +kernel)
theorem m_137 : (Cond.laysFinal "PressureNets$Settler" "PressureNets$Settler" "before" "[I") ∈ pn_W := pn_mem 137 (by decide +kernel) (by decide +kernel)
theorem m_138 : (Cond.soleField "PressureNets$Settler" "before") ∈ pn_W := pn_mem 138 (by decide +kernel) (by decide +kernel)
theorem m_139 : (Cond.superclass "PressureNets$Settler" "java/lang/Object") ∈ pn_W := pn_mem 139 (by decide +kernel) (by decide +kernel)
theorem m_140 : (Cond.classLink "PressureNets" (25 : Nat) "PressureNets$Stuff") ∈ pn_W := pn_mem 140 (by decide +kernel) (by decide +kernel)
theorem m_141 : (Cond.instantiable "PressureNets$Stuff" (6 : Nat)) ∈ pn_W := pn_mem 141 (by decide +kernel) (by decide +kernel)
theorem m_142 : (Cond.methodLink "PressureNets" (27 : Nat) ({ cls := "PressureNets$Stuff", name := "<init>", desc := "(LPressureNets$Net;)V" } : MethodName)) ∈ pn_W := pn_mem 142 (by decide +kernel) (by decide +kernel)
theorem m_143 : (Cond.instanceMethod ({ cls := "PressureNets$Stuff", name := "<init>", desc := "(LPressureNets$Net;)V" } : MethodName)) ∈ pn_W := pn_mem 143 (by decide +kernel) (by decide +kernel)
theorem m_144 : (Cond.code ({ cls := "PressureNets$Stuff", name := "<init>", desc := "(LPressureNets$Net;)V" } : MethodName) prog_5_method_1_code (2 : Nat) none) ∈ pn_W := pn_mem 144 (by decide +kernel) (by decide +kernel)
theorem m_145 : (Cond.methodLink "PressureNets$Stuff" (3 : Nat) ({ cls := "java/lang/Object", name := "<init>", desc := "()V" } : MethodName)) ∈ pn_W := pn_mem 145 (by decide +kernel) (by decide +kernel)
theorem m_146 : (Cond.fieldLink "PressureNets$Stuff" (9 : Nat) "PressureNets$Stuff" "held" "[J") ∈ pn_W := pn_mem 146 (by decide +kernel) (by decide +kernel)
theorem m_147 : (Cond.fieldLink "PressureNets" (144 : Nat) "PressureNets$Stuff" "held" "[J") ∈ pn_W := pn_mem 147 (by decide +kernel) (by decide +kernel)
theorem m_148 : (Cond.fieldLink "PressureNets$Stuff" (15 : Nat) "PressureNets$Stuff" "sources" "[I") ∈ pn_W := pn_mem 148 (by decide +kernel) (by decide +kernel)
theorem m_149 : (Cond.fieldLink "PressureNets" (151 : Nat) "PressureNets$Stuff" "sources" "[I") ∈ pn_W := pn_mem 149 (by decide +kernel) (by decide +kernel)
theorem m_150 : (Cond.fieldLink "PressureNets$Stuff" (28 : Nat) "PressureNets$Stuff" "net" "LPressureNets$Net;") ∈ pn_W := pn_mem 150 (by decide +kernel) (by decide +kernel)
theorem m_151 : (Cond.fieldLink "PressureNets$Stuff" (19 : Nat) "PressureNets$Stuff" "flows" "[I") ∈ pn_W := pn_mem 151 (by decide +kernel) (by decide +kernel)
theorem m_152 : (Cond.fieldLink "PressureNets$Stuff" (22 : Nat) "PressureNets$Stuff" "wholes" "[J") ∈ pn_W := pn_mem 152 (by decide +kernel) (by decide +kernel)
theorem m_153 : (Cond.fieldLink "PressureNets$Stuff" (25 : Nat) "PressureNets$Stuff" "then" "[J") ∈ pn_W := pn_mem 153 (by decide +kernel) (by decide +kernel)
theorem m_154 : (Cond.laysFinal "PressureNets$Stuff" "PressureNets$Stuff" "held" "[J") ∈ pn_W := pn_mem 154 (by decide +kernel) (by decide +kernel)
theorem m_155 : (Cond.soleField "PressureNets$Stuff" "held") ∈ pn_W := pn_mem 155 (by decide +kernel) (by decide +kernel)
theorem m_156 : (Cond.laysFinal "PressureNets$Stuff" "PressureNets$Stuff" "sources" "[I") ∈ pn_W := pn_mem 156 (by decide +kernel) (by decide +kernel)
theorem m_157 : (Cond.soleField "PressureNets$Stuff" "sources") ∈ pn_W := pn_mem 157 (by decide +kernel) (by decide +kernel)
theorem m_158 : (Cond.laysFinal "PressureNets$Stuff" "PressureNets$Stuff" "net" "LPressureNets$Net;") ∈ pn_W := pn_mem 158 (by decide +kernel) (by decide +kernel)
theorem m_159 : (Cond.soleField "PressureNets$Stuff" "net") ∈ pn_W := pn_mem 159 (by decide +kernel) (by decide +kernel)
theorem m_160 : (Cond.laysFinal "PressureNets$Stuff" "PressureNets$Stuff" "flows" "[I") ∈ pn_W := pn_mem 160 (by decide +kernel) (by decide +kernel)
theorem m_161 : (Cond.soleField "PressureNets$Stuff" "flows") ∈ pn_W := pn_mem 161 (by decide +kernel) (by decide +kernel)
theorem m_162 : (Cond.laysFinal "PressureNets$Stuff" "PressureNets$Stuff" "wholes" "[J") ∈ pn_W := pn_mem 162 (by decide +kernel) (by decide +kernel)
theorem m_163 : (Cond.soleField "PressureNets$Stuff" "wholes") ∈ pn_W := pn_mem 163 (by decide +kernel) (by decide +kernel)
theorem m_164 : (Cond.laysFinal "PressureNets$Stuff" "PressureNets$Stuff" "then" "[J") ∈ pn_W := pn_mem 164 (by decide +kernel) (by decide +kernel)
theorem m_165 : (Cond.soleField "PressureNets$Stuff" "then") ∈ pn_W := pn_mem 165 (by decide +kernel) (by decide +kernel)
theorem m_166 : (Cond.superclass "PressureNets$Stuff" "java/lang/Object") ∈ pn_W := pn_mem 166 (by decide +kernel) (by decide +kernel)
theorem m_167 : (Cond.arrayClass FieldType.long) ∈ pn_W := pn_mem 167 (by decide +kernel) (by decide +kernel)
theorem m_168 : (Cond.classLink "PressureNets" (32 : Nat) "PressureNets$State") ∈ pn_W := pn_mem 168 (by decide +kernel) (by decide +kernel)
theorem m_169 : (Cond.instantiable "PressureNets$State" (4 : Nat)) ∈ pn_W := pn_mem 169 (by decide +kernel) (by decide +kernel)
theorem m_171 : (Cond.instanceMethod ({ cls := "PressureNets$State", name := "<init>", desc := "()V" } : MethodName)) ∈ pn_W := pn_mem 171 (by decide +kernel) (by decide +kernel)
theorem m_172 : (Cond.code ({ cls := "PressureNets$State", name := "<init>", desc := "()V" } : MethodName) prog_4_method_1_code (1 : Nat) none) ∈ pn_W := pn_mem 172 (by decide +kernel) (by decide +kernel)
theorem m_173 : (Cond.methodLink "PressureNets$State" (3 : Nat) ({ cls := "java/lang/Object", name := "<init>", desc := "()V" } : MethodName)) ∈ pn_W := pn_mem 173 (by decide +kernel) (by decide +kernel)
theorem m_174 : (Cond.fieldLink "PressureNets$State" (9 : Nat) "PressureNets$State" "pressure" "[I") ∈ pn_W := pn_mem 174 (by decide +kernel) (by decide +kernel)
theorem m_175 : (Cond.fieldLink "PressureNets$Settler" (54 : Nat) "PressureNets$State" "pressure" "[I") ∈ pn_W := pn_mem 175 (by decide +kernel) (by decide +kernel)
theorem m_176 : (Cond.fieldLink "PressureNets" (121 : Nat) "PressureNets$State" "pressure" "[I") ∈ pn_W := pn_mem 176 (by decide +kernel) (by decide +kernel)
theorem m_177 : (Cond.fieldLink "PressureNets$Net" (85 : Nat) "PressureNets$State" "pressure" "[I") ∈ pn_W := pn_mem 177 (by decide +kernel) (by decide +kernel)
theorem m_178 : (Cond.fieldLink "PressureNets$State" (15 : Nat) "PressureNets$State" "shutSet" "I") ∈ pn_W := pn_mem 178 (by decide +kernel) (by decide +kernel)
theorem m_179 : (Cond.fieldLink "PressureNets" (100 : Nat) "PressureNets$State" "shutSet" "I") ∈ pn_W := pn_mem 179 (by decide +kernel) (by decide +kernel)
theorem m_180 : (Cond.fieldLink "PressureNets$Net" (99 : Nat) "PressureNets$State" "shutSet" "I") ∈ pn_W := pn_mem 180 (by decide +kernel) (by decide +kernel)
theorem m_181 : (Cond.fieldLink "PressureNets$State" (19 : Nat) "PressureNets$State" "madeFor" "I") ∈ pn_W := pn_mem 181 (by decide +kernel) (by decide +kernel)
theorem m_182 : (Cond.fieldLink "PressureNets$Settler" (19 : Nat) "PressureNets$State" "madeFor" "I") ∈ pn_W := pn_mem 182 (by decide +kernel) (by decide +kernel)
theorem m_183 : (Cond.fieldLink "PressureNets" (103 : Nat) "PressureNets$State" "madeFor" "I") ∈ pn_W := pn_mem 183 (by decide +kernel) (by decide +kernel)
theorem m_184 : (Cond.fieldLink "PressureNets$State" (22 : Nat) "PressureNets$State" "stands" "Z") ∈ pn_W := pn_mem 184 (by decide +kernel) (by decide +kernel)
theorem m_185 : (Cond.fieldLink "PressureNets$Settler" (30 : Nat) "PressureNets$State" "stands" "Z") ∈ pn_W := pn_mem 185 (by decide +kernel) (by decide +kernel)
theorem m_186 : (Cond.laysFinal "PressureNets$State" "PressureNets$State" "pressure" "[I") ∈ pn_W := pn_mem 186 (by decide +kernel) (by decide +kernel)
theorem m_187 : (Cond.soleField "PressureNets$State" "pressure") ∈ pn_W := pn_mem 187 (by decide +kernel) (by decide +kernel)
theorem m_188 : (Cond.lays "PressureNets$State" "PressureNets$State" "shutSet" "I") ∈ pn_W := pn_mem 188 (by decide +kernel) (by decide +kernel)
theorem m_189 : (Cond.soleField "PressureNets$State" "shutSet") ∈ pn_W := pn_mem 189 (by decide +kernel) (by decide +kernel)
theorem m_190 : (Cond.lays "PressureNets$State" "PressureNets$State" "madeFor" "I") ∈ pn_W := pn_mem 190 (by decide +kernel) (by decide +kernel)
theorem m_191 : (Cond.soleField "PressureNets$State" "madeFor") ∈ pn_W := pn_mem 191 (by decide +kernel) (by decide +kernel)
theorem m_192 : (Cond.lays "PressureNets$State" "PressureNets$State" "stands" "Z") ∈ pn_W := pn_mem 192 (by decide +kernel) (by decide +kernel)
theorem m_193 : (Cond.soleField "PressureNets$State" "stands") ∈ pn_W := pn_mem 193 (by decide +kernel) (by decide +kernel)
theorem m_194 : (Cond.superclass "PressureNets$State" "java/lang/Object") ∈ pn_W := pn_mem 194 (by decide +kernel) (by decide +kernel)
theorem m_196 : (Cond.fieldLink "PressureNets" (12 : Nat) "PressureNets" "net" "LPressureNets$Net;") ∈ pn_W := pn_mem 196 (by decide +kernel) (by decide +kernel)
theorem m_197 : (Cond.fieldLink "PressureNets" (21 : Nat) "PressureNets" "settler" "LPressureNets$Settler;") ∈ pn_W := pn_mem 197 (by decide +kernel) (by decide +kernel)
theorem m_198 : (Cond.fieldLink "PressureNets" (28 : Nat) "PressureNets" "stuff" "LPressureNets$Stuff;") ∈ pn_W := pn_mem 198 (by decide +kernel) (by decide +kernel)
theorem m_199 : (Cond.fieldLink "PressureNets" (35 : Nat) "PressureNets" "present" "LPressureNets$State;") ∈ pn_W := pn_mem 199 (by decide +kernel) (by decide +kernel)
theorem m_200 : (Cond.fieldLink "PressureNets" (39 : Nat) "PressureNets" "cases" "[LPressureNets$State;") ∈ pn_W := pn_mem 200 (by decide +kernel) (by decide +kernel)
theorem m_201 : (Cond.fieldLink "PressureNets" (43 : Nat) "PressureNets" "caseCount" "I") ∈ pn_W := pn_mem 201 (by decide +kernel) (by decide +kernel)
theorem m_202 : (Cond.laysFinal "PressureNets" "PressureNets" "net" "LPressureNets$Net;") ∈ pn_W := pn_mem 202 (by decide +kernel) (by decide +kernel)
theorem m_203 : (Cond.soleField "PressureNets" "net") ∈ pn_W := pn_mem 203 (by decide +kernel) (by decide +kernel)
theorem m_204 : (Cond.laysFinal "PressureNets" "PressureNets" "settler" "LPressureNets$Settler;") ∈ pn_W := pn_mem 204 (by decide +kernel) (by decide +kernel)
theorem m_205 : (Cond.soleField "PressureNets" "settler") ∈ pn_W := pn_mem 205 (by decide +kernel) (by decide +kernel)
theorem m_206 : (Cond.laysFinal "PressureNets" "PressureNets" "stuff" "LPressureNets$Stuff;") ∈ pn_W := pn_mem 206 (by decide +kernel) (by decide +kernel)
theorem m_207 : (Cond.soleField "PressureNets" "stuff") ∈ pn_W := pn_mem 207 (by decide +kernel) (by decide +kernel)
theorem m_208 : (Cond.laysFinal "PressureNets" "PressureNets" "present" "LPressureNets$State;") ∈ pn_W := pn_mem 208 (by decide +kernel) (by decide +kernel)
theorem m_209 : (Cond.soleField "PressureNets" "present") ∈ pn_W := pn_mem 209 (by decide +kernel) (by decide +kernel)
theorem m_210 : (Cond.laysFinal "PressureNets" "PressureNets" "cases" "[LPressureNets$State;") ∈ pn_W := pn_mem 210 (by decide +kernel) (by decide +kernel)
theorem m_211 : (Cond.soleField "PressureNets" "cases") ∈ pn_W := pn_mem 211 (by decide +kernel) (by decide +kernel)
theorem m_212 : (Cond.lays "PressureNets" "PressureNets" "caseCount" "I") ∈ pn_W := pn_mem 212 (by decide +kernel) (by decide +kernel)
theorem m_213 : (Cond.soleField "PressureNets" "caseCount") ∈ pn_W := pn_mem 213 (by decide +kernel) (by decide +kernel)
theorem m_214 : (Cond.superclass "PressureNets" "java/lang/Object") ∈ pn_W := pn_mem 214 (by decide +kernel) (by decide +kernel)
theorem m_215 : (Cond.methodLink "PressureNetsLaw" (71 : Nat) ({ cls := "PressureNetsLaw", name := "zone", desc := "(LPressureNets;II[J)I" } : MethodName)) ∈ pn_W := pn_mem 215 (by decide +kernel) (by decide +kernel)
theorem m_216 : (Cond.static ({ cls := "PressureNetsLaw", name := "zone", desc := "(LPressureNets;II[J)I" } : MethodName)) ∈ pn_W := pn_mem 216 (by decide +kernel) (by decide +kernel)
theorem m_218 : (Cond.classLink "PressureNetsLaw" (13 : Nat) "java/lang/IllegalArgumentException") ∈ pn_W := pn_mem 218 (by decide +kernel) (by decide +kernel)
theorem m_219 : (Cond.classLink "PressureNetsLaw" (15 : Nat) "java/lang/IllegalStateException") ∈ pn_W := pn_mem 219 (by decide +kernel) (by decide +kernel)
theorem m_220 : (Cond.methodLink "PressureNetsLaw" (7 : Nat) ({ cls := "PressureNets", name := "zone", desc := "(II)I" } : MethodName)) ∈ pn_W := pn_mem 220 (by decide +kernel) (by decide +kernel)
theorem m_221 : (Cond.instanceMethod ({ cls := "PressureNets", name := "zone", desc := "(II)I" } : MethodName)) ∈ pn_W := pn_mem 221 (by decide +kernel) (by decide +kernel)
theorem m_222 : (Cond.selects "PressureNets" ({ cls := "PressureNets", name := "zone", desc := "(II)I" } : MethodName) ({ cls := "PressureNets", name := "zone", desc := "(II)I" } : MethodName)) ∈ pn_W := pn_mem 222 (by decide +kernel) (by decide +kernel)
theorem m_223 : (Cond.code ({ cls := "PressureNets", name := "zone", desc := "(II)I" } : MethodName) prog_1_method_2_code (3 : Nat) (Option.some FieldType.int)) ∈ pn_W := pn_mem 223 (by decide +kernel) (by decide +kernel)
theorem m_224 : (Cond.methodLink "PressureNets" (47 : Nat) ({ cls := "PressureNets", name := "isWarmth", desc := "(I)Z" } : MethodName)) ∈ pn_W := pn_mem 224 (by decide +kernel) (by decide +kernel)
theorem m_225 : (Cond.static ({ cls := "PressureNets", name := "isWarmth", desc := "(I)Z" } : MethodName)) ∈ pn_W := pn_mem 225 (by decide +kernel) (by decide +kernel)
theorem m_226 : (Cond.code ({ cls := "PressureNets", name := "isWarmth", desc := "(I)Z" } : MethodName) prog_1_method_21_code (1 : Nat) (Option.some FieldType.boolean)) ∈ pn_W := pn_mem 226 (by decide +kernel) (by decide +kernel)
theorem m_227 : (Cond.methodLink "PressureNets" (52 : Nat) ({ cls := "PressureNets", name := "isWithin", desc := "(III)Z" } : MethodName)) ∈ pn_W := pn_mem 227 (by decide +kernel) (by decide +kernel)
theorem m_228 : (Cond.static ({ cls := "PressureNets", name := "isWithin", desc := "(III)Z" } : MethodName)) ∈ pn_W := pn_mem 228 (by decide +kernel) (by decide +kernel)
theorem m_229 : (Cond.code ({ cls := "PressureNets", name := "isWithin", desc := "(III)Z" } : MethodName) prog_1_method_20_code (3 : Nat) (Option.some FieldType.boolean)) ∈ pn_W := pn_mem 229 (by decide +kernel) (by decide +kernel)
theorem m_230 : (Cond.constant "PressureNets" (51 : Nat) (100000 : Int32)) ∈ pn_W := pn_mem 230 (by decide +kernel) (by decide +kernel)
theorem m_231 : (Cond.methodLink "PressureNets" (56 : Nat) ({ cls := "PressureNets", name := "demandLegal", desc := "(Z)V" } : MethodName)) ∈ pn_W := pn_mem 231 (by decide +kernel) (by decide +kernel)
theorem m_232 : (Cond.static ({ cls := "PressureNets", name := "demandLegal", desc := "(Z)V" } : MethodName)) ∈ pn_W := pn_mem 232 (by decide +kernel) (by decide +kernel)
theorem m_233 : (Cond.code ({ cls := "PressureNets", name := "demandLegal", desc := "(Z)V" } : MethodName) prog_1_method_18_code (1 : Nat) none) ∈ pn_W := pn_mem 233 (by decide +kernel) (by decide +kernel)
theorem m_234 : (Cond.classLink "PressureNets" (162 : Nat) "java/lang/IllegalArgumentException") ∈ pn_W := pn_mem 234 (by decide +kernel) (by decide +kernel)
theorem m_235 : (Cond.instantiable "java/lang/IllegalArgumentException" (6 : Nat)) ∈ pn_W := pn_mem 235 (by decide +kernel) (by decide +kernel)
theorem m_243 : (Cond.selects "java/lang/IllegalArgumentException" ({ cls := "java/lang/Throwable", name := "fillInStackTrace", desc := "(I)Ljava/lang/Throwable;" } : MethodName) ({ cls := "java/lang/Throwable", name := "fillInStackTrace", desc := "(I)Ljava/lang/Throwable;" } : MethodName)) ∈ pn_W := pn_mem 243 (by decide +kernel) (by decide +kernel)
theorem m_244 : (Cond.selects "java/lang/IllegalArgumentException" ({ cls := "java/lang/Throwable", name := "fillInStackTrace", desc := "()Ljava/lang/Throwable;" } : MethodName) ({ cls := "java/lang/Throwable", name := "fillInStackTrace", desc := "()Ljava/lang/Throwable;" } : MethodName)) ∈ pn_W := pn_mem 244 (by decide +kernel) (by decide +kernel)
theorem m_245 : (Cond.lays "java/lang/IllegalArgumentException" "java/lang/Throwable" "cause" "Ljava/lang/Throwable;") ∈ pn_W := pn_mem 245 (by decide +kernel) (by decide +kernel)
theorem m_246 : (Cond.lays "java/lang/Throwable" "java/lang/Throwable" "cause" "Ljava/lang/Throwable;") ∈ pn_W := pn_mem 246 (by decide +kernel) (by decide +kernel)
theorem m_247 : (Cond.lays "java/lang/IllegalArgumentException" "java/lang/Throwable" "stackTrace" "[Ljava/lang/StackTraceElement;") ∈ pn_W := pn_mem 247 (by decide +kernel) (by decide +kernel)
theorem m_248 : (Cond.lays "java/lang/Throwable" "java/lang/Throwable" "stackTrace" "[Ljava/lang/StackTraceElement;") ∈ pn_W := pn_mem 248 (by decide +kernel) (by decide +kernel)
theorem m_249 : (Cond.lays "java/lang/IllegalArgumentException" "java/lang/Throwable" "suppressedExceptions" "Ljava/util/List;") ∈ pn_W := pn_mem 249 (by decide +kernel) (by decide +kernel)
theorem m_250 : (Cond.lays "java/lang/Throwable" "java/lang/Throwable" "suppressedExceptions" "Ljava/util/List;") ∈ pn_W := pn_mem 250 (by decide +kernel) (by decide +kernel)
theorem m_251 : (Cond.lays "java/lang/IllegalArgumentException" "java/lang/Throwable" "detailMessage" "Ljava/lang/String;") ∈ pn_W := pn_mem 251 (by decide +kernel) (by decide +kernel)
theorem m_252 : (Cond.lays "java/lang/Throwable" "java/lang/Throwable" "detailMessage" "Ljava/lang/String;") ∈ pn_W := pn_mem 252 (by decide +kernel) (by decide +kernel)
theorem m_253 : (Cond.lays "java/lang/IllegalArgumentException" "java/lang/Throwable" "backtrace" "Ljava/lang/Object;") ∈ pn_W := pn_mem 253 (by decide +kernel) (by decide +kernel)
theorem m_254 : (Cond.lays "java/lang/Throwable" "java/lang/Throwable" "backtrace" "Ljava/lang/Object;") ∈ pn_W := pn_mem 254 (by decide +kernel) (by decide +kernel)
theorem m_255 : (Cond.fieldLink "java/lang/Throwable" (198 : Nat) "java/lang/Throwable" "backtrace" "Ljava/lang/Object;") ∈ pn_W := pn_mem 255 (by decide +kernel) (by decide +kernel)
theorem m_256 : (Cond.superclass "java/lang/Throwable" "java/lang/Object") ∈ pn_W := pn_mem 256 (by decide +kernel) (by decide +kernel)
theorem m_257 : (Cond.instanceMethod ({ cls := "java/lang/Throwable", name := "<init>", desc := "()V" } : MethodName)) ∈ pn_W := pn_mem 257 (by decide +kernel) (by decide +kernel)
theorem m_258 : (Cond.code ({ cls := "java/lang/Throwable", name := "<init>", desc := "()V" } : MethodName) prog_15_method_1_code (1 : Nat) none) ∈ pn_W := pn_mem 258 (by decide +kernel) (by decide +kernel)
theorem m_259 : (Cond.methodLink "java/lang/Throwable" (1 : Nat) ({ cls := "java/lang/Object", name := "<init>", desc := "()V" } : MethodName)) ∈ pn_W := pn_mem 259 (by decide +kernel) (by decide +kernel)
theorem m_260 : (Cond.fieldLink "java/lang/Throwable" (13 : Nat) "java/lang/Throwable" "UNASSIGNED_STACK" "[Ljava/lang/StackTraceElement;") ∈ pn_W := pn_mem 260 (by decide +kernel) (by decide +kernel)
theorem m_262 : (Cond.fieldLink "java/lang/Throwable" (20 : Nat) "java/lang/Throwable" "SUPPRESSED_SENTINEL" "Ljava/util/List;") ∈ pn_W := pn_mem 262 (by decide +kernel) (by decide +kernel)
theorem m_264 : (Cond.methodLink "java/lang/Throwable" (27 : Nat) ({ cls := "java/lang/Throwable", name := "fillInStackTrace", desc := "()Ljava/lang/Throwable;" } : MethodName)) ∈ pn_W := pn_mem 264 (by decide +kernel) (by decide +kernel)
theorem m_265 : (Cond.instanceMethod ({ cls := "java/lang/Throwable", name := "fillInStackTrace", desc := "()Ljava/lang/Throwable;" } : MethodName)) ∈ pn_W := pn_mem 265 (by decide +kernel) (by decide +kernel)
theorem m_267 : (Cond.selects "java/lang/IllegalStateException" ({ cls := "java/lang/Throwable", name := "fillInStackTrace", desc := "()Ljava/lang/Throwable;" } : MethodName) ({ cls := "java/lang/Throwable", name := "fillInStackTrace", desc := "()Ljava/lang/Throwable;" } : MethodName)) ∈ pn_W := pn_mem 267 (by decide +kernel) (by decide +kernel)
theorem m_269 : (Cond.methodLink "java/lang/Throwable" (202 : Nat) ({ cls := "java/lang/Throwable", name := "fillInStackTrace", desc := "(I)Ljava/lang/Throwable;" } : MethodName)) ∈ pn_W := pn_mem 269 (by decide +kernel) (by decide +kernel)
theorem m_271 : (Cond.instanceMethod ({ cls := "java/lang/Throwable", name := "fillInStackTrace", desc := "(I)Ljava/lang/Throwable;" } : MethodName)) ∈ pn_W := pn_mem 271 (by decide +kernel) (by decide +kernel)
theorem m_272 : (Cond.instantiable "java/lang/Throwable" (6 : Nat)) ∈ pn_W := pn_mem 272 (by decide +kernel) (by decide +kernel)
theorem m_275 : (Cond.methodLink "PressureNets" (166 : Nat) ({ cls := "java/lang/IllegalArgumentException", name := "<init>", desc := "(Ljava/lang/String;)V" } : MethodName)) ∈ pn_W := pn_mem 275 (by decide +kernel) (by decide +kernel)
theorem m_276 : (Cond.instanceMethod ({ cls := "java/lang/IllegalArgumentException", name := "<init>", desc := "(Ljava/lang/String;)V" } : MethodName)) ∈ pn_W := pn_mem 276 (by decide +kernel) (by decide +kernel)
theorem m_277 : (Cond.code ({ cls := "java/lang/IllegalArgumentException", name := "<init>", desc := "(Ljava/lang/String;)V" } : MethodName) prog_9_method_2_code (2 : Nat) none) ∈ pn_W := pn_mem 277 (by decide +kernel) (by decide +kernel)
theorem m_278 : (Cond.methodLink "java/lang/IllegalArgumentException" (7 : Nat) ({ cls := "java/lang/RuntimeException", name := "<init>", desc := "(Ljava/lang/String;)V" } : MethodName)) ∈ pn_W := pn_mem 278 (by decide +kernel) (by decide +kernel)
theorem m_279 : (Cond.instanceMethod ({ cls := "java/lang/RuntimeException", name := "<init>", desc := "(Ljava/lang/String;)V" } : MethodName)) ∈ pn_W := pn_mem 279 (by decide +kernel) (by decide +kernel)
theorem m_280 : (Cond.code ({ cls := "java/lang/RuntimeException", name := "<init>", desc := "(Ljava/lang/String;)V" } : MethodName) prog_12_method_2_code (2 : Nat) none) ∈ pn_W := pn_mem 280 (by decide +kernel) (by decide +kernel)
theorem m_281 : (Cond.methodLink "java/lang/RuntimeException" (7 : Nat) ({ cls := "java/lang/Exception", name := "<init>", desc := "(Ljava/lang/String;)V" } : MethodName)) ∈ pn_W := pn_mem 281 (by decide +kernel) (by decide +kernel)
theorem m_282 : (Cond.instanceMethod ({ cls := "java/lang/Exception", name := "<init>", desc := "(Ljava/lang/String;)V" } : MethodName)) ∈ pn_W := pn_mem 282 (by decide +kernel) (by decide +kernel)
theorem m_283 : (Cond.code ({ cls := "java/lang/Exception", name := "<init>", desc := "(Ljava/lang/String;)V" } : MethodName) prog_8_method_2_code (2 : Nat) none) ∈ pn_W := pn_mem 283 (by decide +kernel) (by decide +kernel)
theorem m_284 : (Cond.methodLink "java/lang/Exception" (7 : Nat) ({ cls := "java/lang/Throwable", name := "<init>", desc := "(Ljava/lang/String;)V" } : MethodName)) ∈ pn_W := pn_mem 284 (by decide +kernel) (by decide +kernel)
theorem m_285 : (Cond.instanceMethod ({ cls := "java/lang/Throwable", name := "<init>", desc := "(Ljava/lang/String;)V" } : MethodName)) ∈ pn_W := pn_mem 285 (by decide +kernel) (by decide +kernel)
theorem m_286 : (Cond.code ({ cls := "java/lang/Throwable", name := "<init>", desc := "(Ljava/lang/String;)V" } : MethodName) prog_15_method_2_code (2 : Nat) none) ∈ pn_W := pn_mem 286 (by decide +kernel) (by decide +kernel)
theorem m_287 : (Cond.fieldLink "java/lang/Throwable" (198 : Nat) "java/lang/Throwable" "backtrace" "Ljava/lang/Object;") ∈ pn_W := pn_mem 287 (by decide +kernel) (by decide +kernel)
theorem m_288 : (Cond.fieldLink "java/lang/Throwable" (31 : Nat) "java/lang/Throwable" "detailMessage" "Ljava/lang/String;") ∈ pn_W := pn_mem 288 (by decide +kernel) (by decide +kernel)
theorem m_289 : (Cond.fieldLink "java/lang/Throwable" (7 : Nat) "java/lang/Throwable" "cause" "Ljava/lang/Throwable;") ∈ pn_W := pn_mem 289 (by decide +kernel) (by decide +kernel)
theorem m_290 : (Cond.fieldLink "java/lang/Throwable" (17 : Nat) "java/lang/Throwable" "stackTrace" "[Ljava/lang/StackTraceElement;") ∈ pn_W := pn_mem 290 (by decide +kernel) (by decide +kernel)
theorem m_291 : (Cond.fieldLink "java/lang/Throwable" (24 : Nat) "java/lang/Throwable" "suppressedExceptions" "Ljava/util/List;") ∈ pn_W := pn_mem 291 (by decide +kernel) (by decide +kernel)
theorem m_292 : (Cond.soleField "java/lang/Throwable" "backtrace") ∈ pn_W := pn_mem 292 (by decide +kernel) (by decide +kernel)
theorem m_293 : (Cond.soleField "java/lang/Throwable" "detailMessage") ∈ pn_W := pn_mem 293 (by decide +kernel) (by decide +kernel)
theorem m_294 : (Cond.soleField "java/lang/Throwable" "cause") ∈ pn_W := pn_mem 294 (by decide +kernel) (by decide +kernel)
theorem m_295 : (Cond.soleField "java/lang/Throwable" "stackTrace") ∈ pn_W := pn_mem 295 (by decide +kernel) (by decide +kernel)
theorem m_296 : (Cond.lays "java/lang/IllegalArgumentException" "java/lang/Throwable" "depth" "I") ∈ pn_W := pn_mem 296 (by decide +kernel) (by decide +kernel)
theorem m_297 : (Cond.soleField "java/lang/Throwable" "depth") ∈ pn_W := pn_mem 297 (by decide +kernel) (by decide +kernel)
theorem m_298 : (Cond.soleField "java/lang/Throwable" "suppressedExceptions") ∈ pn_W := pn_mem 298 (by decide +kernel) (by decide +kernel)
theorem m_299 : (Cond.superclass "java/lang/IllegalArgumentException" "java/lang/RuntimeException") ∈ pn_W := pn_mem 299 (by decide +kernel) (by decide +kernel)
theorem m_300 : (Cond.arrayClass FieldType.byte) ∈ pn_W := pn_mem 300 (by decide +kernel) (by decide +kernel)
theorem m_301 : (Cond.methodLink "PressureNets" (63 : Nat) ({ cls := "PressureNets", name := "demandRoom", desc := "(Z)V" } : MethodName)) ∈ pn_W := pn_mem 301 (by decide +kernel) (by decide +kernel)
theorem m_302 : (Cond.static ({ cls := "PressureNets", name := "demandRoom", desc := "(Z)V" } : MethodName)) ∈ pn_W := pn_mem 302 (by decide +kernel) (by decide +kernel)
theorem m_303 : (Cond.code ({ cls := "PressureNets", name := "demandRoom", desc := "(Z)V" } : MethodName) prog_1_method_19_code (1 : Nat) none) ∈ pn_W := pn_mem 303 (by decide +kernel) (by decide +kernel)
theorem m_304 : (Cond.classLink "PressureNets" (169 : Nat) "java/lang/IllegalStateException") ∈ pn_W := pn_mem 304 (by decide +kernel) (by decide +kernel)
theorem m_305 : (Cond.instantiable "java/lang/IllegalStateException" (6 : Nat)) ∈ pn_W := pn_mem 305 (by decide +kernel) (by decide +kernel)
theorem m_307 : (Cond.selects "java/lang/IllegalStateException" ({ cls := "java/lang/Throwable", name := "fillInStackTrace", desc := "(I)Ljava/lang/Throwable;" } : MethodName) ({ cls := "java/lang/Throwable", name := "fillInStackTrace", desc := "(I)Ljava/lang/Throwable;" } : MethodName)) ∈ pn_W := pn_mem 307 (by decide +kernel) (by decide +kernel)
theorem m_308 : (Cond.lays "java/lang/IllegalStateException" "java/lang/Throwable" "cause" "Ljava/lang/Throwable;") ∈ pn_W := pn_mem 308 (by decide +kernel) (by decide +kernel)
theorem m_309 : (Cond.lays "java/lang/IllegalStateException" "java/lang/Throwable" "stackTrace" "[Ljava/lang/StackTraceElement;") ∈ pn_W := pn_mem 309 (by decide +kernel) (by decide +kernel)
theorem m_310 : (Cond.lays "java/lang/IllegalStateException" "java/lang/Throwable" "suppressedExceptions" "Ljava/util/List;") ∈ pn_W := pn_mem 310 (by decide +kernel) (by decide +kernel)
theorem m_311 : (Cond.lays "java/lang/IllegalStateException" "java/lang/Throwable" "detailMessage" "Ljava/lang/String;") ∈ pn_W := pn_mem 311 (by decide +kernel) (by decide +kernel)
theorem m_312 : (Cond.lays "java/lang/IllegalStateException" "java/lang/Throwable" "backtrace" "Ljava/lang/Object;") ∈ pn_W := pn_mem 312 (by decide +kernel) (by decide +kernel)
theorem m_314 : (Cond.methodLink "PressureNets" (173 : Nat) ({ cls := "java/lang/IllegalStateException", name := "<init>", desc := "(Ljava/lang/String;)V" } : MethodName)) ∈ pn_W := pn_mem 314 (by decide +kernel) (by decide +kernel)
theorem m_315 : (Cond.instanceMethod ({ cls := "java/lang/IllegalStateException", name := "<init>", desc := "(Ljava/lang/String;)V" } : MethodName)) ∈ pn_W := pn_mem 315 (by decide +kernel) (by decide +kernel)
theorem m_316 : (Cond.code ({ cls := "java/lang/IllegalStateException", name := "<init>", desc := "(Ljava/lang/String;)V" } : MethodName) prog_10_method_2_code (2 : Nat) none) ∈ pn_W := pn_mem 316 (by decide +kernel) (by decide +kernel)
theorem m_317 : (Cond.methodLink "java/lang/IllegalStateException" (7 : Nat) ({ cls := "java/lang/RuntimeException", name := "<init>", desc := "(Ljava/lang/String;)V" } : MethodName)) ∈ pn_W := pn_mem 317 (by decide +kernel) (by decide +kernel)
theorem m_318 : (Cond.lays "java/lang/IllegalStateException" "java/lang/Throwable" "depth" "I") ∈ pn_W := pn_mem 318 (by decide +kernel) (by decide +kernel)
theorem m_319 : (Cond.superclass "java/lang/IllegalStateException" "java/lang/RuntimeException") ∈ pn_W := pn_mem 319 (by decide +kernel) (by decide +kernel)
theorem m_320 : (Cond.methodLink "PressureNets" (66 : Nat) ({ cls := "PressureNets$Net", name := "addZone", desc := "(II)I" } : MethodName)) ∈ pn_W := pn_mem 320 (by decide +kernel) (by decide +kernel)
theorem m_321 : (Cond.instanceMethod ({ cls := "PressureNets$Net", name := "addZone", desc := "(II)I" } : MethodName)) ∈ pn_W := pn_mem 321 (by decide +kernel) (by decide +kernel)
theorem m_322 : (Cond.selects "PressureNets$Net" ({ cls := "PressureNets$Net", name := "addZone", desc := "(II)I" } : MethodName) ({ cls := "PressureNets$Net", name := "addZone", desc := "(II)I" } : MethodName)) ∈ pn_W := pn_mem 322 (by decide +kernel) (by decide +kernel)
theorem m_323 : (Cond.code ({ cls := "PressureNets$Net", name := "addZone", desc := "(II)I" } : MethodName) prog_2_method_2_code (4 : Nat) (Option.some FieldType.int)) ∈ pn_W := pn_mem 323 (by decide +kernel) (by decide +kernel)
theorem m_325 : (Cond.static ({ cls := "PressureNets", name := "rowOf", desc := "(I)I" } : MethodName)) ∈ pn_W := pn_mem 325 (by decide +kernel) (by decide +kernel)
theorem m_326 : (Cond.code ({ cls := "PressureNets", name := "rowOf", desc := "(I)I" } : MethodName) prog_1_method_27_code (1 : Nat) (Option.some FieldType.int)) ∈ pn_W := pn_mem 326 (by decide +kernel) (by decide +kernel)
theorem m_327 : (Cond.methodLink "PressureNetsLaw" (81 : Nat) ({ cls := "PressureNetsLaw", name := "wind", desc := "(LPressureNets;II[J)I" } : MethodName)) ∈ pn_W := pn_mem 327 (by decide +kernel) (by decide +kernel)
theorem m_328 : (Cond.static ({ cls := "PressureNetsLaw", name := "wind", desc := "(LPressureNets;II[J)I" } : MethodName)) ∈ pn_W := pn_mem 328 (by decide +kernel) (by decide +kernel)
theorem m_330 : (Cond.methodLink "PressureNetsLaw" (17 : Nat) ({ cls := "PressureNets", name := "wind", desc := "(II)I" } : MethodName)) ∈ pn_W := pn_mem 330 (by decide +kernel) (by decide +kernel)
theorem m_331 : (Cond.instanceMethod ({ cls := "PressureNets", name := "wind", desc := "(II)I" } : MethodName)) ∈ pn_W := pn_mem 331 (by decide +kernel) (by decide +kernel)
theorem m_332 : (Cond.selects "PressureNets" ({ cls := "PressureNets", name := "wind", desc := "(II)I" } : MethodName) ({ cls := "PressureNets", name := "wind", desc := "(II)I" } : MethodName)) ∈ pn_W := pn_mem 332 (by decide +kernel) (by decide +kernel)
theorem m_333 : (Cond.code ({ cls := "PressureNets", name := "wind", desc := "(II)I" } : MethodName) prog_1_method_3_code (3 : Nat) (Option.some FieldType.int)) ∈ pn_W := pn_mem 333 (by decide +kernel) (by decide +kernel)
theorem m_334 : (Cond.methodLink "PressureNets" (70 : Nat) ({ cls := "PressureNets", name := "isSide", desc := "(I)Z" } : MethodName)) ∈ pn_W := pn_mem 334 (by decide +kernel) (by decide +kernel)
theorem m_335 : (Cond.static ({ cls := "PressureNets", name := "isSide", desc := "(I)Z" } : MethodName)) ∈ pn_W := pn_mem 335 (by decide +kernel) (by decide +kernel)
theorem m_336 : (Cond.code ({ cls := "PressureNets", name := "isSide", desc := "(I)Z" } : MethodName) prog_1_method_22_code (1 : Nat) (Option.some FieldType.boolean)) ∈ pn_W := pn_mem 336 (by decide +kernel) (by decide +kernel)
theorem m_337 : (Cond.methodLink "PressureNets" (73 : Nat) ({ cls := "PressureNets", name := "rowOf", desc := "(I)I" } : MethodName)) ∈ pn_W := pn_mem 337 (by decide +kernel) (by decide +kernel)
theorem m_338 : (Cond.methodLink "PressureNets" (77 : Nat) ({ cls := "PressureNets$Net", name := "changeWind", desc := "(II)I" } : MethodName)) ∈ pn_W := pn_mem 338 (by decide +kernel) (by decide +kernel)
theorem m_339 : (Cond.instanceMethod ({ cls := "PressureNets$Net", name := "changeWind", desc := "(II)I" } : MethodName)) ∈ pn_W := pn_mem 339 (by decide +kernel) (by decide +kernel)
theorem m_340 : (Cond.selects "PressureNets$Net" ({ cls := "PressureNets$Net", name := "changeWind", desc := "(II)I" } : MethodName) ({ cls := "PressureNets$Net", name := "changeWind", desc := "(II)I" } : MethodName)) ∈ pn_W := pn_mem 340 (by decide +kernel) (by decide +kernel)
theorem m_341 : (Cond.code ({ cls := "PressureNets$Net", name := "changeWind", desc := "(II)I" } : MethodName) prog_2_method_3_code (4 : Nat) (Option.some FieldType.int)) ∈ pn_W := pn_mem 341 (by decide +kernel) (by decide +kernel)
theorem m_342 : (Cond.methodLink "PressureNetsLaw" (84 : Nat) ({ cls := "PressureNetsLaw", name := "warmth", desc := "(LPressureNets;II[J)I" } : MethodName)) ∈ pn_W := pn_mem 342 (by decide +kernel) (by decide +kernel)
theorem m_343 : (Cond.static ({ cls := "PressureNetsLaw", name := "warmth", desc := "(LPressureNets;II[J)I" } : MethodName)) ∈ pn_W := pn_mem 343 (by decide +kernel) (by decide +kernel)
theorem m_345 : (Cond.methodLink "PressureNetsLaw" (20 : Nat) ({ cls := "PressureNets", name := "warmth", desc := "(II)I" } : MethodName)) ∈ pn_W := pn_mem 345 (by decide +kernel) (by decide +kernel)
theorem m_346 : (Cond.instanceMethod ({ cls := "PressureNets", name := "warmth", desc := "(II)I" } : MethodName)) ∈ pn_W := pn_mem 346 (by decide +kernel) (by decide +kernel)
theorem m_347 : (Cond.selects "PressureNets" ({ cls := "PressureNets", name := "warmth", desc := "(II)I" } : MethodName) ({ cls := "PressureNets", name := "warmth", desc := "(II)I" } : MethodName)) ∈ pn_W := pn_mem 347 (by decide +kernel) (by decide +kernel)
theorem m_348 : (Cond.code ({ cls := "PressureNets", name := "warmth", desc := "(II)I" } : MethodName) prog_1_method_4_code (3 : Nat) (Option.some FieldType.int)) ∈ pn_W := pn_mem 348 (by decide +kernel) (by decide +kernel)
theorem m_349 : (Cond.methodLink "PressureNets" (80 : Nat) ({ cls := "PressureNets", name := "isPlace", desc := "(I)Z" } : MethodName)) ∈ pn_W := pn_mem 349 (by decide +kernel) (by decide +kernel)
theorem m_351 : (Cond.instanceMethod ({ cls := "PressureNets", name := "isPlace", desc := "(I)Z" } : MethodName)) ∈ pn_W := pn_mem 351 (by decide +kernel) (by decide +kernel)
theorem m_352 : (Cond.code ({ cls := "PressureNets", name := "isPlace", desc := "(I)Z" } : MethodName) prog_1_method_24_code (2 : Nat) (Option.some FieldType.boolean)) ∈ pn_W := pn_mem 352 (by decide +kernel) (by decide +kernel)
theorem m_353 : (Cond.methodLink "PressureNets" (136 : Nat) ({ cls := "PressureNets", name := "isZone", desc := "(I)Z" } : MethodName)) ∈ pn_W := pn_mem 353 (by decide +kernel) (by decide +kernel)
theorem m_355 : (Cond.instanceMethod ({ cls := "PressureNets", name := "isZone", desc := "(I)Z" } : MethodName)) ∈ pn_W := pn_mem 355 (by decide +kernel) (by decide +kernel)
theorem m_356 : (Cond.code ({ cls := "PressureNets", name := "isZone", desc := "(I)Z" } : MethodName) prog_1_method_23_code (2 : Nat) (Option.some FieldType.boolean)) ∈ pn_W := pn_mem 356 (by decide +kernel) (by decide +kernel)
theorem m_357 : (Cond.methodLink "PressureNets" (83 : Nat) ({ cls := "PressureNets$Net", name := "changeWarmth", desc := "(II)I" } : MethodName)) ∈ pn_W := pn_mem 357 (by decide +kernel) (by decide +kernel)
theorem m_358 : (Cond.instanceMethod ({ cls := "PressureNets$Net", name := "changeWarmth", desc := "(II)I" } : MethodName)) ∈ pn_W := pn_mem 358 (by decide +kernel) (by decide +kernel)
theorem m_359 : (Cond.selects "PressureNets$Net" ({ cls := "PressureNets$Net", name := "changeWarmth", desc := "(II)I" } : MethodName) ({ cls := "PressureNets$Net", name := "changeWarmth", desc := "(II)I" } : MethodName)) ∈ pn_W := pn_mem 359 (by decide +kernel) (by decide +kernel)
theorem m_360 : (Cond.code ({ cls := "PressureNets$Net", name := "changeWarmth", desc := "(II)I" } : MethodName) prog_2_method_4_code (5 : Nat) (Option.some FieldType.int)) ∈ pn_W := pn_mem 360 (by decide +kernel) (by decide +kernel)
theorem m_361 : (Cond.methodLink "PressureNets$Net" (70 : Nat) ({ cls := "PressureNets$Net", name := "measureStack", desc := "(I)V" } : MethodName)) ∈ pn_W := pn_mem 361 (by decide +kernel) (by decide +kernel)
theorem m_363 : (Cond.instanceMethod ({ cls := "PressureNets$Net", name := "measureStack", desc := "(I)V" } : MethodName)) ∈ pn_W := pn_mem 363 (by decide +kernel) (by decide +kernel)
theorem m_364 : (Cond.code ({ cls := "PressureNets$Net", name := "measureStack", desc := "(I)V" } : MethodName) prog_2_method_9_code (2 : Nat) none) ∈ pn_W := pn_mem 364 (by decide +kernel) (by decide +kernel)
theorem m_365 : (Cond.methodLink "PressureNetsLaw" (87 : Nat) ({ cls := "PressureNetsLaw", name := "leak", desc := "(LPressureNets;IIIII[J)I" } : MethodName)) ∈ pn_W := pn_mem 365 (by decide +kernel) (by decide +kernel)
theorem m_366 : (Cond.static ({ cls := "PressureNetsLaw", name := "leak", desc := "(LPressureNets;IIIII[J)I" } : MethodName)) ∈ pn_W := pn_mem 366 (by decide +kernel) (by decide +kernel)
theorem m_368 : (Cond.methodLink "PressureNetsLaw" (23 : Nat) ({ cls := "PressureNets", name := "leak", desc := "(IIIII)I" } : MethodName)) ∈ pn_W := pn_mem 368 (by decide +kernel) (by decide +kernel)
theorem m_369 : (Cond.instanceMethod ({ cls := "PressureNets", name := "leak", desc := "(IIIII)I" } : MethodName)) ∈ pn_W := pn_mem 369 (by decide +kernel) (by decide +kernel)
theorem m_370 : (Cond.selects "PressureNets" ({ cls := "PressureNets", name := "leak", desc := "(IIIII)I" } : MethodName) ({ cls := "PressureNets", name := "leak", desc := "(IIIII)I" } : MethodName)) ∈ pn_W := pn_mem 370 (by decide +kernel) (by decide +kernel)
theorem m_371 : (Cond.code ({ cls := "PressureNets", name := "leak", desc := "(IIIII)I" } : MethodName) prog_1_method_5_code (6 : Nat) (Option.some FieldType.int)) ∈ pn_W := pn_mem 371 (by decide +kernel) (by decide +kernel)
theorem m_372 : (Cond.methodLink "PressureNets" (86 : Nat) ({ cls := "PressureNets", name := "canJoin", desc := "(II)Z" } : MethodName)) ∈ pn_W := pn_mem 372 (by decide +kernel) (by decide +kernel)
theorem m_374 : (Cond.instanceMethod ({ cls := "PressureNets", name := "canJoin", desc := "(II)Z" } : MethodName)) ∈ pn_W := pn_mem 374 (by decide +kernel) (by decide +kernel)
theorem m_375 : (Cond.code ({ cls := "PressureNets", name := "canJoin", desc := "(II)Z" } : MethodName) prog_1_method_25_code (3 : Nat) (Option.some FieldType.boolean)) ∈ pn_W := pn_mem 375 (by decide +kernel) (by decide +kernel)
theorem m_376 : (Cond.methodLink "PressureNets" (93 : Nat) ({ cls := "PressureNets$Net", name := "addLeak", desc := "(IIIII)I" } : MethodName)) ∈ pn_W := pn_mem 376 (by decide +kernel) (by decide +kernel)
theorem m_377 : (Cond.instanceMethod ({ cls := "PressureNets$Net", name := "addLeak", desc := "(IIIII)I" } : MethodName)) ∈ pn_W := pn_mem 377 (by decide +kernel) (by decide +kernel)
theorem m_378 : (Cond.selects "PressureNets$Net" ({ cls := "PressureNets$Net", name := "addLeak", desc := "(IIIII)I" } : MethodName) ({ cls := "PressureNets$Net", name := "addLeak", desc := "(IIIII)I" } : MethodName)) ∈ pn_W := pn_mem 378 (by decide +kernel) (by decide +kernel)
theorem m_379 : (Cond.code ({ cls := "PressureNets$Net", name := "addLeak", desc := "(IIIII)I" } : MethodName) prog_2_method_5_code (7 : Nat) (Option.some FieldType.int)) ∈ pn_W := pn_mem 379 (by decide +kernel) (by decide +kernel)
theorem m_380 : (Cond.methodLink "PressureNets$Net" (74 : Nat) ({ cls := "PressureNets$Net", name := "join", desc := "(III)V" } : MethodName)) ∈ pn_W := pn_mem 380 (by decide +kernel) (by decide +kernel)
theorem m_382 : (Cond.instanceMethod ({ cls := "PressureNets$Net", name := "join", desc := "(III)V" } : MethodName)) ∈ pn_W := pn_mem 382 (by decide +kernel) (by decide +kernel)
theorem m_383 : (Cond.code ({ cls := "PressureNets$Net", name := "join", desc := "(III)V" } : MethodName) prog_2_method_7_code (4 : Nat) none) ∈ pn_W := pn_mem 383 (by decide +kernel) (by decide +kernel)
theorem m_384 : (Cond.methodLink "PressureNets$Net" (81 : Nat) ({ cls := "PressureNets$Net", name := "noteDuct", desc := "(II)V" } : MethodName)) ∈ pn_W := pn_mem 384 (by decide +kernel) (by decide +kernel)
theorem m_386 : (Cond.instanceMethod ({ cls := "PressureNets$Net", name := "noteDuct", desc := "(II)V" } : MethodName)) ∈ pn_W := pn_mem 386 (by decide +kernel) (by decide +kernel)
theorem m_387 : (Cond.code ({ cls := "PressureNets$Net", name := "noteDuct", desc := "(II)V" } : MethodName) prog_2_method_8_code (3 : Nat) none) ∈ pn_W := pn_mem 387 (by decide +kernel) (by decide +kernel)
theorem m_388 : (Cond.methodLink "PressureNetsLaw" (91 : Nat) ({ cls := "PressureNetsLaw", name := "shut", desc := "(LPressureNets;IZ[J)I" } : MethodName)) ∈ pn_W := pn_mem 388 (by decide +kernel) (by decide +kernel)
theorem m_389 : (Cond.static ({ cls := "PressureNetsLaw", name := "shut", desc := "(LPressureNets;IZ[J)I" } : MethodName)) ∈ pn_W := pn_mem 389 (by decide +kernel) (by decide +kernel)
theorem m_391 : (Cond.methodLink "PressureNetsLaw" (27 : Nat) ({ cls := "PressureNets", name := "shut", desc := "(IZ)Z" } : MethodName)) ∈ pn_W := pn_mem 391 (by decide +kernel) (by decide +kernel)
theorem m_392 : (Cond.instanceMethod ({ cls := "PressureNets", name := "shut", desc := "(IZ)Z" } : MethodName)) ∈ pn_W := pn_mem 392 (by decide +kernel) (by decide +kernel)
theorem m_393 : (Cond.selects "PressureNets" ({ cls := "PressureNets", name := "shut", desc := "(IZ)Z" } : MethodName) ({ cls := "PressureNets", name := "shut", desc := "(IZ)Z" } : MethodName)) ∈ pn_W := pn_mem 393 (by decide +kernel) (by decide +kernel)
theorem m_394 : (Cond.code ({ cls := "PressureNets", name := "shut", desc := "(IZ)Z" } : MethodName) prog_1_method_6_code (5 : Nat) (Option.some FieldType.boolean)) ∈ pn_W := pn_mem 394 (by decide +kernel) (by decide +kernel)
theorem m_395 : (Cond.methodLink "PressureNets" (97 : Nat) ({ cls := "PressureNets", name := "isLeak", desc := "(I)Z" } : MethodName)) ∈ pn_W := pn_mem 395 (by decide +kernel) (by decide +kernel)
theorem m_397 : (Cond.instanceMethod ({ cls := "PressureNets", name := "isLeak", desc := "(I)Z" } : MethodName)) ∈ pn_W := pn_mem 397 (by decide +kernel) (by decide +kernel)
theorem m_398 : (Cond.code ({ cls := "PressureNets", name := "isLeak", desc := "(I)Z" } : MethodName) prog_1_method_26_code (2 : Nat) (Option.some FieldType.boolean)) ∈ pn_W := pn_mem 398 (by decide +kernel) (by decide +kernel)
theorem m_399 : (Cond.methodLink "PressureNetsLaw" (95 : Nat) ({ cls := "PressureNetsLaw", name := "fan", desc := "(LPressureNets;IIII[J)I" } : MethodName)) ∈ pn_W := pn_mem 399 (by decide +kernel) (by decide +kernel)
theorem m_400 : (Cond.static ({ cls := "PressureNetsLaw", name := "fan", desc := "(LPressureNets;IIII[J)I" } : MethodName)) ∈ pn_W := pn_mem 400 (by decide +kernel) (by decide +kernel)
theorem m_402 : (Cond.methodLink "PressureNetsLaw" (31 : Nat) ({ cls := "PressureNets", name := "fan", desc := "(IIII)I" } : MethodName)) ∈ pn_W := pn_mem 402 (by decide +kernel) (by decide +kernel)
theorem m_403 : (Cond.instanceMethod ({ cls := "PressureNets", name := "fan", desc := "(IIII)I" } : MethodName)) ∈ pn_W := pn_mem 403 (by decide +kernel) (by decide +kernel)
theorem m_404 : (Cond.selects "PressureNets" ({ cls := "PressureNets", name := "fan", desc := "(IIII)I" } : MethodName) ({ cls := "PressureNets", name := "fan", desc := "(IIII)I" } : MethodName)) ∈ pn_W := pn_mem 404 (by decide +kernel) (by decide +kernel)
theorem m_405 : (Cond.code ({ cls := "PressureNets", name := "fan", desc := "(IIII)I" } : MethodName) prog_1_method_7_code (5 : Nat) (Option.some FieldType.int)) ∈ pn_W := pn_mem 405 (by decide +kernel) (by decide +kernel)
theorem m_406 : (Cond.methodLink "PressureNets" (109 : Nat) ({ cls := "PressureNets$Net", name := "addFan", desc := "(IIII)I" } : MethodName)) ∈ pn_W := pn_mem 406 (by decide +kernel) (by decide +kernel)
theorem m_407 : (Cond.instanceMethod ({ cls := "PressureNets$Net", name := "addFan", desc := "(IIII)I" } : MethodName)) ∈ pn_W := pn_mem 407 (by decide +kernel) (by decide +kernel)
theorem m_408 : (Cond.selects "PressureNets$Net" ({ cls := "PressureNets$Net", name := "addFan", desc := "(IIII)I" } : MethodName) ({ cls := "PressureNets$Net", name := "addFan", desc := "(IIII)I" } : MethodName)) ∈ pn_W := pn_mem 408 (by decide +kernel) (by decide +kernel)
theorem m_409 : (Cond.code ({ cls := "PressureNets$Net", name := "addFan", desc := "(IIII)I" } : MethodName) prog_2_method_6_code (6 : Nat) (Option.some FieldType.int)) ∈ pn_W := pn_mem 409 (by decide +kernel) (by decide +kernel)
theorem m_411 : (Cond.static ({ cls := "PressureNets", name := "ductOfFan", desc := "(I)I" } : MethodName)) ∈ pn_W := pn_mem 411 (by decide +kernel) (by decide +kernel)
end
section
theorem m_412 : (Cond.code ({ cls := "PressureNets", name := "ductOfFan", desc := "(I)I" } : MethodName) prog_1_method_28_code (1 : Nat) (Option.some FieldType.int)) ∈ pn_W := pn_mem 412 (by decide +kernel) (by decide +kernel)
theorem m_413 : (Cond.methodLink "PressureNetsLaw" (99 : Nat) ({ cls := "PressureNetsLaw", name := "pressure", desc := "(LPressureNets;I[J)I" } : MethodName)) ∈ pn_W := pn_mem 413 (by decide +kernel) (by decide +kernel)
theorem m_414 : (Cond.static ({ cls := "PressureNetsLaw", name := "pressure", desc := "(LPressureNets;I[J)I" } : MethodName)) ∈ pn_W := pn_mem 414 (by decide +kernel) (by decide +kernel)
theorem m_416 : (Cond.methodLink "PressureNetsLaw" (35 : Nat) ({ cls := "PressureNets", name := "pressure", desc := "(I)I" } : MethodName)) ∈ pn_W := pn_mem 416 (by decide +kernel) (by decide +kernel)
theorem m_417 : (Cond.instanceMethod ({ cls := "PressureNets", name := "pressure", desc := "(I)I" } : MethodName)) ∈ pn_W := pn_mem 417 (by decide +kernel) (by decide +kernel)
theorem m_418 : (Cond.selects "PressureNets" ({ cls := "PressureNets", name := "pressure", desc := "(I)I" } : MethodName) ({ cls := "PressureNets", name := "pressure", desc := "(I)I" } : MethodName)) ∈ pn_W := pn_mem 418 (by decide +kernel) (by decide +kernel)
theorem m_419 : (Cond.code ({ cls := "PressureNets", name := "pressure", desc := "(I)I" } : MethodName) prog_1_method_8_code (2 : Nat) (Option.some FieldType.int)) ∈ pn_W := pn_mem 419 (by decide +kernel) (by decide +kernel)
theorem m_420 : (Cond.methodLink "PressureNets" (117 : Nat) ({ cls := "PressureNets$Settler", name := "settles", desc := "(LPressureNets$State;)Z" } : MethodName)) ∈ pn_W := pn_mem 420 (by decide +kernel) (by decide +kernel)
theorem m_421 : (Cond.instanceMethod ({ cls := "PressureNets$Settler", name := "settles", desc := "(LPressureNets$State;)Z" } : MethodName)) ∈ pn_W := pn_mem 421 (by decide +kernel) (by decide +kernel)
theorem m_422 : (Cond.selects "PressureNets$Settler" ({ cls := "PressureNets$Settler", name := "settles", desc := "(LPressureNets$State;)Z" } : MethodName) ({ cls := "PressureNets$Settler", name := "settles", desc := "(LPressureNets$State;)Z" } : MethodName)) ∈ pn_W := pn_mem 422 (by decide +kernel) (by decide +kernel)
theorem m_423 : (Cond.code ({ cls := "PressureNets$Settler", name := "settles", desc := "(LPressureNets$State;)Z" } : MethodName) prog_3_method_2_code (6 : Nat) (Option.some FieldType.boolean)) ∈ pn_W := pn_mem 423 (by decide +kernel) (by decide +kernel)
theorem m_424 : (Cond.methodLink "PressureNets$Settler" (34 : Nat) ({ cls := "PressureNets$Settler", name := "begin", desc := "(LPressureNets$State;)V" } : MethodName)) ∈ pn_W := pn_mem 424 (by decide +kernel) (by decide +kernel)
theorem m_426 : (Cond.instanceMethod ({ cls := "PressureNets$Settler", name := "begin", desc := "(LPressureNets$State;)V" } : MethodName)) ∈ pn_W := pn_mem 426 (by decide +kernel) (by decide +kernel)
theorem m_427 : (Cond.code ({ cls := "PressureNets$Settler", name := "begin", desc := "(LPressureNets$State;)V" } : MethodName) prog_3_method_3_code (2 : Nat) none) ∈ pn_W := pn_mem 427 (by decide +kernel) (by decide +kernel)
theorem m_428 : (Cond.methodLink "PressureNets$Settler" (57 : Nat) ({ cls := "java/util/Arrays", name := "fill", desc := "([II)V" } : MethodName)) ∈ pn_W := pn_mem 428 (by decide +kernel) (by decide +kernel)
theorem m_429 : (Cond.static ({ cls := "java/util/Arrays", name := "fill", desc := "([II)V" } : MethodName)) ∈ pn_W := pn_mem 429 (by decide +kernel) (by decide +kernel)
theorem m_430 : (Cond.code ({ cls := "java/util/Arrays", name := "fill", desc := "([II)V" } : MethodName) prog_16_method_103_code (4 : Nat) none) ∈ pn_W := pn_mem 430 (by decide +kernel) (by decide +kernel)
theorem m_431 : (Cond.methodLink "PressureNets$Settler" (66 : Nat) ({ cls := "java/lang/System", name := "arraycopy", desc := "(Ljava/lang/Object;ILjava/lang/Object;II)V" } : MethodName)) ∈ pn_W := pn_mem 431 (by decide +kernel) (by decide +kernel)
theorem m_432 : (Cond.static ({ cls := "java/lang/System", name := "arraycopy", desc := "(Ljava/lang/Object;ILjava/lang/Object;II)V" } : MethodName)) ∈ pn_W := pn_mem 432 (by decide +kernel) (by decide +kernel)
theorem m_434 : (Cond.constant "PressureNets$Settler" (41 : Nat) (80009 : Int32)) ∈ pn_W := pn_mem 434 (by decide +kernel) (by decide +kernel)
theorem m_435 : (Cond.methodLink "PressureNets$Settler" (42 : Nat) ({ cls := "PressureNets$Settler", name := "isPastHighest", desc := "(LPressureNets$State;)Z" } : MethodName)) ∈ pn_W := pn_mem 435 (by decide +kernel) (by decide +kernel)
theorem m_437 : (Cond.instanceMethod ({ cls := "PressureNets$Settler", name := "isPastHighest", desc := "(LPressureNets$State;)Z" } : MethodName)) ∈ pn_W := pn_mem 437 (by decide +kernel) (by decide +kernel)
theorem m_438 : (Cond.code ({ cls := "PressureNets$Settler", name := "isPastHighest", desc := "(LPressureNets$State;)Z" } : MethodName) prog_3_method_4_code (3 : Nat) (Option.some FieldType.boolean)) ∈ pn_W := pn_mem 438 (by decide +kernel) (by decide +kernel)
theorem m_439 : (Cond.methodLink "PressureNets$Settler" (46 : Nat) ({ cls := "PressureNets$Settler", name := "doBout", desc := "(LPressureNets$State;I)I" } : MethodName)) ∈ pn_W := pn_mem 439 (by decide +kernel) (by decide +kernel)
theorem m_441 : (Cond.instanceMethod ({ cls := "PressureNets$Settler", name := "doBout", desc := "(LPressureNets$State;I)I" } : MethodName)) ∈ pn_W := pn_mem 441 (by decide +kernel) (by decide +kernel)
theorem m_442 : (Cond.code ({ cls := "PressureNets$Settler", name := "doBout", desc := "(LPressureNets$State;I)I" } : MethodName) prog_3_method_5_code (7 : Nat) (Option.some FieldType.int)) ∈ pn_W := pn_mem 442 (by decide +kernel) (by decide +kernel)
theorem m_443 : (Cond.methodLink "PressureNets$Settler" (72 : Nat) ({ cls := "PressureNets$Settler", name := "raises", desc := "(LPressureNets$State;I)Z" } : MethodName)) ∈ pn_W := pn_mem 443 (by decide +kernel) (by decide +kernel)
theorem m_445 : (Cond.instanceMethod ({ cls := "PressureNets$Settler", name := "raises", desc := "(LPressureNets$State;I)Z" } : MethodName)) ∈ pn_W := pn_mem 445 (by decide +kernel) (by decide +kernel)
theorem m_446 : (Cond.code ({ cls := "PressureNets$Settler", name := "raises", desc := "(LPressureNets$State;I)Z" } : MethodName) prog_3_method_6_code (9 : Nat) (Option.some FieldType.boolean)) ∈ pn_W := pn_mem 446 (by decide +kernel) (by decide +kernel)
theorem m_448 : (Cond.methodLink "PressureNets$Settler" (80 : Nat) ({ cls := "PressureNets$Net", name := "gainOf", desc := "(ILPressureNets$State;)I" } : MethodName)) ∈ pn_W := pn_mem 448 (by decide +kernel) (by decide +kernel)
theorem m_449 : (Cond.instanceMethod ({ cls := "PressureNets$Net", name := "gainOf", desc := "(ILPressureNets$State;)I" } : MethodName)) ∈ pn_W := pn_mem 449 (by decide +kernel) (by decide +kernel)
theorem m_450 : (Cond.selects "PressureNets$Net" ({ cls := "PressureNets$Net", name := "gainOf", desc := "(ILPressureNets$State;)I" } : MethodName) ({ cls := "PressureNets$Net", name := "gainOf", desc := "(ILPressureNets$State;)I" } : MethodName)) ∈ pn_W := pn_mem 450 (by decide +kernel) (by decide +kernel)
theorem m_451 : (Cond.code ({ cls := "PressureNets$Net", name := "gainOf", desc := "(ILPressureNets$State;)I" } : MethodName) prog_2_method_13_code (10 : Nat) (Option.some FieldType.int)) ∈ pn_W := pn_mem 451 (by decide +kernel) (by decide +kernel)
theorem m_452 : (Cond.methodLink "PressureNets$Net" (109 : Nat) ({ cls := "PressureNets$Net", name := "flowOf", desc := "(ILPressureNets$State;)I" } : MethodName)) ∈ pn_W := pn_mem 452 (by decide +kernel) (by decide +kernel)
theorem m_453 : (Cond.instanceMethod ({ cls := "PressureNets$Net", name := "flowOf", desc := "(ILPressureNets$State;)I" } : MethodName)) ∈ pn_W := pn_mem 453 (by decide +kernel) (by decide +kernel)
theorem m_454 : (Cond.selects "PressureNets$Net" ({ cls := "PressureNets$Net", name := "flowOf", desc := "(ILPressureNets$State;)I" } : MethodName) ({ cls := "PressureNets$Net", name := "flowOf", desc := "(ILPressureNets$State;)I" } : MethodName)) ∈ pn_W := pn_mem 454 (by decide +kernel) (by decide +kernel)
theorem m_455 : (Cond.code ({ cls := "PressureNets$Net", name := "flowOf", desc := "(ILPressureNets$State;)I" } : MethodName) prog_2_method_12_code (7 : Nat) (Option.some FieldType.int)) ∈ pn_W := pn_mem 455 (by decide +kernel) (by decide +kernel)
theorem m_456 : (Cond.methodLink "PressureNets$Net" (90 : Nat) ({ cls := "java/lang/Math", name := "min", desc := "(II)I" } : MethodName)) ∈ pn_W := pn_mem 456 (by decide +kernel) (by decide +kernel)
theorem m_457 : (Cond.static ({ cls := "java/lang/Math", name := "min", desc := "(II)I" } : MethodName)) ∈ pn_W := pn_mem 457 (by decide +kernel) (by decide +kernel)
theorem m_458 : (Cond.code ({ cls := "java/lang/Math", name := "min", desc := "(II)I" } : MethodName) prog_11_method_69_code (2 : Nat) (Option.some FieldType.int)) ∈ pn_W := pn_mem 458 (by decide +kernel) (by decide +kernel)
theorem m_459 : (Cond.methodLink "PressureNets$Net" (96 : Nat) ({ cls := "java/lang/Math", name := "max", desc := "(II)I" } : MethodName)) ∈ pn_W := pn_mem 459 (by decide +kernel) (by decide +kernel)
theorem m_460 : (Cond.static ({ cls := "java/lang/Math", name := "max", desc := "(II)I" } : MethodName)) ∈ pn_W := pn_mem 460 (by decide +kernel) (by decide +kernel)
theorem m_461 : (Cond.code ({ cls := "java/lang/Math", name := "max", desc := "(II)I" } : MethodName) prog_11_method_65_code (2 : Nat) (Option.some FieldType.int)) ∈ pn_W := pn_mem 461 (by decide +kernel) (by decide +kernel)
theorem m_462 : (Cond.methodLink "PressureNets$Net" (102 : Nat) ({ cls := "PressureNets$Net", name := "driveOf", desc := "(I[I)I" } : MethodName)) ∈ pn_W := pn_mem 462 (by decide +kernel) (by decide +kernel)
theorem m_463 : (Cond.instanceMethod ({ cls := "PressureNets$Net", name := "driveOf", desc := "(I[I)I" } : MethodName)) ∈ pn_W := pn_mem 463 (by decide +kernel) (by decide +kernel)
theorem m_464 : (Cond.selects "PressureNets$Net" ({ cls := "PressureNets$Net", name := "driveOf", desc := "(I[I)I" } : MethodName) ({ cls := "PressureNets$Net", name := "driveOf", desc := "(I[I)I" } : MethodName)) ∈ pn_W := pn_mem 464 (by decide +kernel) (by decide +kernel)
theorem m_465 : (Cond.code ({ cls := "PressureNets$Net", name := "driveOf", desc := "(I[I)I" } : MethodName) prog_2_method_11_code (3 : Nat) (Option.some FieldType.int)) ∈ pn_W := pn_mem 465 (by decide +kernel) (by decide +kernel)
theorem m_466 : (Cond.methodLink "PressureNets$Net" (106 : Nat) ({ cls := "PressureNets$Net", name := "rootFlow", desc := "(II)I" } : MethodName)) ∈ pn_W := pn_mem 466 (by decide +kernel) (by decide +kernel)
theorem m_467 : (Cond.static ({ cls := "PressureNets$Net", name := "rootFlow", desc := "(II)I" } : MethodName)) ∈ pn_W := pn_mem 467 (by decide +kernel) (by decide +kernel)
theorem m_468 : (Cond.code ({ cls := "PressureNets$Net", name := "rootFlow", desc := "(II)I" } : MethodName) prog_2_method_14_code (11 : Nat) (Option.some FieldType.int)) ∈ pn_W := pn_mem 468 (by decide +kernel) (by decide +kernel)
theorem m_469 : (Cond.constantLong "PressureNets$Net" (113 : Nat) (2 : Int64)) ∈ pn_W := pn_mem 469 (by decide +kernel) (by decide +kernel)
theorem m_470 : (Cond.methodLink "PressureNets$Settler" (84 : Nat) ({ cls := "java/lang/Math", name := "min", desc := "(II)I" } : MethodName)) ∈ pn_W := pn_mem 470 (by decide +kernel) (by decide +kernel)
theorem m_471 : (Cond.methodLink "PressureNets$Settler" (50 : Nat) ({ cls := "PressureNets$Settler", name := "lifts", desc := "(LPressureNets$State;II)Z" } : MethodName)) ∈ pn_W := pn_mem 471 (by decide +kernel) (by decide +kernel)
theorem m_473 : (Cond.instanceMethod ({ cls := "PressureNets$Settler", name := "lifts", desc := "(LPressureNets$State;II)Z" } : MethodName)) ∈ pn_W := pn_mem 473 (by decide +kernel) (by decide +kernel)
theorem m_474 : (Cond.code ({ cls := "PressureNets$Settler", name := "lifts", desc := "(LPressureNets$State;II)Z" } : MethodName) prog_3_method_7_code (5 : Nat) (Option.some FieldType.boolean)) ∈ pn_W := pn_mem 474 (by decide +kernel) (by decide +kernel)
theorem m_475 : (Cond.constant "PressureNets" (124 : Nat) (-1000000 : Int32)) ∈ pn_W := pn_mem 475 (by decide +kernel) (by decide +kernel)
theorem m_476 : (Cond.methodLink "PressureNetsLaw" (103 : Nat) ({ cls := "PressureNetsLaw", name := "told", desc := "(LPressureNets;II[J)I" } : MethodName)) ∈ pn_W := pn_mem 476 (by decide +kernel) (by decide +kernel)
theorem m_477 : (Cond.static ({ cls := "PressureNetsLaw", name := "told", desc := "(LPressureNets;II[J)I" } : MethodName)) ∈ pn_W := pn_mem 477 (by decide +kernel) (by decide +kernel)
theorem m_479 : (Cond.methodLink "PressureNetsLaw" (39 : Nat) ({ cls := "PressureNets", name := "told", desc := "(II)I" } : MethodName)) ∈ pn_W := pn_mem 479 (by decide +kernel) (by decide +kernel)
theorem m_480 : (Cond.instanceMethod ({ cls := "PressureNets", name := "told", desc := "(II)I" } : MethodName)) ∈ pn_W := pn_mem 480 (by decide +kernel) (by decide +kernel)
theorem m_481 : (Cond.selects "PressureNets" ({ cls := "PressureNets", name := "told", desc := "(II)I" } : MethodName) ({ cls := "PressureNets", name := "told", desc := "(II)I" } : MethodName)) ∈ pn_W := pn_mem 481 (by decide +kernel) (by decide +kernel)
theorem m_482 : (Cond.code ({ cls := "PressureNets", name := "told", desc := "(II)I" } : MethodName) prog_1_method_9_code (3 : Nat) (Option.some FieldType.int)) ∈ pn_W := pn_mem 482 (by decide +kernel) (by decide +kernel)
theorem m_483 : (Cond.methodLink "PressureNets" (125 : Nat) ({ cls := "PressureNets$Net", name := "driveOf", desc := "(I[I)I" } : MethodName)) ∈ pn_W := pn_mem 483 (by decide +kernel) (by decide +kernel)
theorem m_484 : (Cond.methodLink "PressureNets" (129 : Nat) ({ cls := "PressureNets$Net", name := "flowOf", desc := "(ILPressureNets$State;)I" } : MethodName)) ∈ pn_W := pn_mem 484 (by decide +kernel) (by decide +kernel)
theorem m_485 : (Cond.methodLink "PressureNetsLaw" (106 : Nat) ({ cls := "PressureNetsLaw", name := "blows", desc := "(LPressureNets;I[J)I" } : MethodName)) ∈ pn_W := pn_mem 485 (by decide +kernel) (by decide +kernel)
theorem m_486 : (Cond.static ({ cls := "PressureNetsLaw", name := "blows", desc := "(LPressureNets;I[J)I" } : MethodName)) ∈ pn_W := pn_mem 486 (by decide +kernel) (by decide +kernel)
theorem m_488 : (Cond.methodLink "PressureNetsLaw" (42 : Nat) ({ cls := "PressureNets", name := "blows", desc := "(I)I" } : MethodName)) ∈ pn_W := pn_mem 488 (by decide +kernel) (by decide +kernel)
theorem m_489 : (Cond.instanceMethod ({ cls := "PressureNets", name := "blows", desc := "(I)I" } : MethodName)) ∈ pn_W := pn_mem 489 (by decide +kernel) (by decide +kernel)
theorem m_490 : (Cond.selects "PressureNets" ({ cls := "PressureNets", name := "blows", desc := "(I)I" } : MethodName) ({ cls := "PressureNets", name := "blows", desc := "(I)I" } : MethodName)) ∈ pn_W := pn_mem 490 (by decide +kernel) (by decide +kernel)
theorem m_491 : (Cond.code ({ cls := "PressureNets", name := "blows", desc := "(I)I" } : MethodName) prog_1_method_10_code (2 : Nat) (Option.some FieldType.int)) ∈ pn_W := pn_mem 491 (by decide +kernel) (by decide +kernel)
theorem m_492 : (Cond.methodLink "PressureNets" (133 : Nat) ({ cls := "PressureNets", name := "ductOfFan", desc := "(I)I" } : MethodName)) ∈ pn_W := pn_mem 492 (by decide +kernel) (by decide +kernel)
theorem m_493 : (Cond.methodLink "PressureNetsLaw" (109 : Nat) ({ cls := "PressureNetsLaw", name := "gain", desc := "(LPressureNets;I[J)I" } : MethodName)) ∈ pn_W := pn_mem 493 (by decide +kernel) (by decide +kernel)
theorem m_494 : (Cond.static ({ cls := "PressureNetsLaw", name := "gain", desc := "(LPressureNets;I[J)I" } : MethodName)) ∈ pn_W := pn_mem 494 (by decide +kernel) (by decide +kernel)
theorem m_496 : (Cond.methodLink "PressureNetsLaw" (45 : Nat) ({ cls := "PressureNets", name := "gain", desc := "(I)I" } : MethodName)) ∈ pn_W := pn_mem 496 (by decide +kernel) (by decide +kernel)
theorem m_497 : (Cond.instanceMethod ({ cls := "PressureNets", name := "gain", desc := "(I)I" } : MethodName)) ∈ pn_W := pn_mem 497 (by decide +kernel) (by decide +kernel)
theorem m_498 : (Cond.selects "PressureNets" ({ cls := "PressureNets", name := "gain", desc := "(I)I" } : MethodName) ({ cls := "PressureNets", name := "gain", desc := "(I)I" } : MethodName)) ∈ pn_W := pn_mem 498 (by decide +kernel) (by decide +kernel)
theorem m_499 : (Cond.code ({ cls := "PressureNets", name := "gain", desc := "(I)I" } : MethodName) prog_1_method_11_code (2 : Nat) (Option.some FieldType.int)) ∈ pn_W := pn_mem 499 (by decide +kernel) (by decide +kernel)
theorem m_500 : (Cond.methodLink "PressureNets" (139 : Nat) ({ cls := "PressureNets$Net", name := "gainOf", desc := "(ILPressureNets$State;)I" } : MethodName)) ∈ pn_W := pn_mem 500 (by decide +kernel) (by decide +kernel)
theorem m_501 : (Cond.methodLink "PressureNetsLaw" (112 : Nat) ({ cls := "PressureNetsLaw", name := "caseOf", desc := "(LPressureNets;I[J)I" } : MethodName)) ∈ pn_W := pn_mem 501 (by decide +kernel) (by decide +kernel)
theorem m_502 : (Cond.static ({ cls := "PressureNetsLaw", name := "caseOf", desc := "(LPressureNets;I[J)I" } : MethodName)) ∈ pn_W := pn_mem 502 (by decide +kernel) (by decide +kernel)
theorem m_504 : (Cond.methodLink "PressureNetsLaw" (48 : Nat) ({ cls := "PressureNets", name := "caseOf", desc := "(I)I" } : MethodName)) ∈ pn_W := pn_mem 504 (by decide +kernel) (by decide +kernel)
theorem m_505 : (Cond.instanceMethod ({ cls := "PressureNets", name := "caseOf", desc := "(I)I" } : MethodName)) ∈ pn_W := pn_mem 505 (by decide +kernel) (by decide +kernel)
theorem m_506 : (Cond.selects "PressureNets" ({ cls := "PressureNets", name := "caseOf", desc := "(I)I" } : MethodName) ({ cls := "PressureNets", name := "caseOf", desc := "(I)I" } : MethodName)) ∈ pn_W := pn_mem 506 (by decide +kernel) (by decide +kernel)
theorem m_507 : (Cond.code ({ cls := "PressureNets", name := "caseOf", desc := "(I)I" } : MethodName) prog_1_method_12_code (3 : Nat) (Option.some FieldType.int)) ∈ pn_W := pn_mem 507 (by decide +kernel) (by decide +kernel)
theorem m_508 : (Cond.methodLink "PressureNetsLaw" (115 : Nat) ({ cls := "PressureNetsLaw", name := "worst", desc := "(LPressureNets;II[J)I" } : MethodName)) ∈ pn_W := pn_mem 508 (by decide +kernel) (by decide +kernel)
theorem m_509 : (Cond.static ({ cls := "PressureNetsLaw", name := "worst", desc := "(LPressureNets;II[J)I" } : MethodName)) ∈ pn_W := pn_mem 509 (by decide +kernel) (by decide +kernel)
theorem m_511 : (Cond.methodLink "PressureNetsLaw" (51 : Nat) ({ cls := "PressureNets", name := "worst", desc := "(II)I" } : MethodName)) ∈ pn_W := pn_mem 511 (by decide +kernel) (by decide +kernel)
theorem m_512 : (Cond.instanceMethod ({ cls := "PressureNets", name := "worst", desc := "(II)I" } : MethodName)) ∈ pn_W := pn_mem 512 (by decide +kernel) (by decide +kernel)
theorem m_513 : (Cond.selects "PressureNets" ({ cls := "PressureNets", name := "worst", desc := "(II)I" } : MethodName) ({ cls := "PressureNets", name := "worst", desc := "(II)I" } : MethodName)) ∈ pn_W := pn_mem 513 (by decide +kernel) (by decide +kernel)
theorem m_514 : (Cond.code ({ cls := "PressureNets", name := "worst", desc := "(II)I" } : MethodName) prog_1_method_13_code (9 : Nat) (Option.some FieldType.int)) ∈ pn_W := pn_mem 514 (by decide +kernel) (by decide +kernel)
theorem m_515 : (Cond.methodLink "PressureNetsLaw" (118 : Nat) ({ cls := "PressureNetsLaw", name := "put", desc := "(LPressureNets;II[J)I" } : MethodName)) ∈ pn_W := pn_mem 515 (by decide +kernel) (by decide +kernel)
theorem m_516 : (Cond.static ({ cls := "PressureNetsLaw", name := "put", desc := "(LPressureNets;II[J)I" } : MethodName)) ∈ pn_W := pn_mem 516 (by decide +kernel) (by decide +kernel)
theorem m_518 : (Cond.methodLink "PressureNetsLaw" (54 : Nat) ({ cls := "PressureNets", name := "put", desc := "(II)I" } : MethodName)) ∈ pn_W := pn_mem 518 (by decide +kernel) (by decide +kernel)
theorem m_519 : (Cond.instanceMethod ({ cls := "PressureNets", name := "put", desc := "(II)I" } : MethodName)) ∈ pn_W := pn_mem 519 (by decide +kernel) (by decide +kernel)
theorem m_520 : (Cond.selects "PressureNets" ({ cls := "PressureNets", name := "put", desc := "(II)I" } : MethodName) ({ cls := "PressureNets", name := "put", desc := "(II)I" } : MethodName)) ∈ pn_W := pn_mem 520 (by decide +kernel) (by decide +kernel)
theorem m_521 : (Cond.code ({ cls := "PressureNets", name := "put", desc := "(II)I" } : MethodName) prog_1_method_14_code (5 : Nat) (Option.some FieldType.int)) ∈ pn_W := pn_mem 521 (by decide +kernel) (by decide +kernel)
theorem m_522 : (Cond.constant "PressureNets" (142 : Nat) (-1000000000 : Int32)) ∈ pn_W := pn_mem 522 (by decide +kernel) (by decide +kernel)
theorem m_523 : (Cond.constant "PressureNets" (143 : Nat) (1000000000 : Int32)) ∈ pn_W := pn_mem 523 (by decide +kernel) (by decide +kernel)
theorem m_524 : (Cond.constantLong "PressureNets" (148 : Nat) (1000000000 : Int64)) ∈ pn_W := pn_mem 524 (by decide +kernel) (by decide +kernel)
theorem m_525 : (Cond.methodLink "PressureNetsLaw" (121 : Nat) ({ cls := "PressureNetsLaw", name := "source", desc := "(LPressureNets;II[J)I" } : MethodName)) ∈ pn_W := pn_mem 525 (by decide +kernel) (by decide +kernel)
theorem m_526 : (Cond.static ({ cls := "PressureNetsLaw", name := "source", desc := "(LPressureNets;II[J)I" } : MethodName)) ∈ pn_W := pn_mem 526 (by decide +kernel) (by decide +kernel)
theorem m_528 : (Cond.methodLink "PressureNetsLaw" (57 : Nat) ({ cls := "PressureNets", name := "source", desc := "(II)I" } : MethodName)) ∈ pn_W := pn_mem 528 (by decide +kernel) (by decide +kernel)
theorem m_529 : (Cond.instanceMethod ({ cls := "PressureNets", name := "source", desc := "(II)I" } : MethodName)) ∈ pn_W := pn_mem 529 (by decide +kernel) (by decide +kernel)
theorem m_530 : (Cond.selects "PressureNets" ({ cls := "PressureNets", name := "source", desc := "(II)I" } : MethodName) ({ cls := "PressureNets", name := "source", desc := "(II)I" } : MethodName)) ∈ pn_W := pn_mem 530 (by decide +kernel) (by decide +kernel)
theorem m_531 : (Cond.code ({ cls := "PressureNets", name := "source", desc := "(II)I" } : MethodName) prog_1_method_15_code (4 : Nat) (Option.some FieldType.int)) ∈ pn_W := pn_mem 531 (by decide +kernel) (by decide +kernel)
theorem m_532 : (Cond.constant "PressureNets" (150 : Nat) (1000000 : Int32)) ∈ pn_W := pn_mem 532 (by decide +kernel) (by decide +kernel)
theorem m_533 : (Cond.methodLink "PressureNetsLaw" (124 : Nat) ({ cls := "PressureNetsLaw", name := "steps", desc := "(LPressureNets;I[J)I" } : MethodName)) ∈ pn_W := pn_mem 533 (by decide +kernel) (by decide +kernel)
theorem m_534 : (Cond.static ({ cls := "PressureNetsLaw", name := "steps", desc := "(LPressureNets;I[J)I" } : MethodName)) ∈ pn_W := pn_mem 534 (by decide +kernel) (by decide +kernel)
theorem m_536 : (Cond.methodLink "PressureNetsLaw" (60 : Nat) ({ cls := "PressureNets", name := "steps", desc := "(I)I" } : MethodName)) ∈ pn_W := pn_mem 536 (by decide +kernel) (by decide +kernel)
theorem m_537 : (Cond.instanceMethod ({ cls := "PressureNets", name := "steps", desc := "(I)I" } : MethodName)) ∈ pn_W := pn_mem 537 (by decide +kernel) (by decide +kernel)
theorem m_538 : (Cond.selects "PressureNets" ({ cls := "PressureNets", name := "steps", desc := "(I)I" } : MethodName) ({ cls := "PressureNets", name := "steps", desc := "(I)I" } : MethodName)) ∈ pn_W := pn_mem 538 (by decide +kernel) (by decide +kernel)
theorem m_539 : (Cond.code ({ cls := "PressureNets", name := "steps", desc := "(I)I" } : MethodName) prog_1_method_16_code (3 : Nat) (Option.some FieldType.int)) ∈ pn_W := pn_mem 539 (by decide +kernel) (by decide +kernel)
theorem m_540 : (Cond.methodLink "PressureNets" (154 : Nat) ({ cls := "PressureNets$Stuff", name := "follow", desc := "(LPressureNets$State;)V" } : MethodName)) ∈ pn_W := pn_mem 540 (by decide +kernel) (by decide +kernel)
theorem m_541 : (Cond.instanceMethod ({ cls := "PressureNets$Stuff", name := "follow", desc := "(LPressureNets$State;)V" } : MethodName)) ∈ pn_W := pn_mem 541 (by decide +kernel) (by decide +kernel)
theorem m_542 : (Cond.selects "PressureNets$Stuff" ({ cls := "PressureNets$Stuff", name := "follow", desc := "(LPressureNets$State;)V" } : MethodName) ({ cls := "PressureNets$Stuff", name := "follow", desc := "(LPressureNets$State;)V" } : MethodName)) ∈ pn_W := pn_mem 542 (by decide +kernel) (by decide +kernel)
theorem m_543 : (Cond.code ({ cls := "PressureNets$Stuff", name := "follow", desc := "(LPressureNets$State;)V" } : MethodName) prog_5_method_2_code (3 : Nat) none) ∈ pn_W := pn_mem 543 (by decide +kernel) (by decide +kernel)
theorem m_544 : (Cond.methodLink "PressureNets$Stuff" (32 : Nat) ({ cls := "java/util/Arrays", name := "fill", desc := "([JJ)V" } : MethodName)) ∈ pn_W := pn_mem 544 (by decide +kernel) (by decide +kernel)
theorem m_545 : (Cond.static ({ cls := "java/util/Arrays", name := "fill", desc := "([JJ)V" } : MethodName)) ∈ pn_W := pn_mem 545 (by decide +kernel) (by decide +kernel)
theorem m_546 : (Cond.code ({ cls := "java/util/Arrays", name := "fill", desc := "([JJ)V" } : MethodName) prog_16_method_101_code (5 : Nat) none) ∈ pn_W := pn_mem 546 (by decide +kernel) (by decide +kernel)
theorem m_547 : (Cond.methodLink "PressureNets$Stuff" (38 : Nat) ({ cls := "PressureNets$Net", name := "isDuct", desc := "(I)Z" } : MethodName)) ∈ pn_W := pn_mem 547 (by decide +kernel) (by decide +kernel)
theorem m_548 : (Cond.instanceMethod ({ cls := "PressureNets$Net", name := "isDuct", desc := "(I)Z" } : MethodName)) ∈ pn_W := pn_mem 548 (by decide +kernel) (by decide +kernel)
theorem m_549 : (Cond.selects "PressureNets$Net" ({ cls := "PressureNets$Net", name := "isDuct", desc := "(I)Z" } : MethodName) ({ cls := "PressureNets$Net", name := "isDuct", desc := "(I)Z" } : MethodName)) ∈ pn_W := pn_mem 549 (by decide +kernel) (by decide +kernel)
theorem m_550 : (Cond.code ({ cls := "PressureNets$Net", name := "isDuct", desc := "(I)Z" } : MethodName) prog_2_method_10_code (2 : Nat) (Option.some FieldType.boolean)) ∈ pn_W := pn_mem 550 (by decide +kernel) (by decide +kernel)
theorem m_551 : (Cond.methodLink "PressureNets$Stuff" (44 : Nat) ({ cls := "PressureNets$Net", name := "flowOf", desc := "(ILPressureNets$State;)I" } : MethodName)) ∈ pn_W := pn_mem 551 (by decide +kernel) (by decide +kernel)
theorem m_552 : (Cond.methodLink "PressureNets$Stuff" (48 : Nat) ({ cls := "PressureNets$Stuff", name := "giverOf", desc := "(I)I" } : MethodName)) ∈ pn_W := pn_mem 552 (by decide +kernel) (by decide +kernel)
theorem m_554 : (Cond.instanceMethod ({ cls := "PressureNets$Stuff", name := "giverOf", desc := "(I)I" } : MethodName)) ∈ pn_W := pn_mem 554 (by decide +kernel) (by decide +kernel)
theorem m_555 : (Cond.code ({ cls := "PressureNets$Stuff", name := "giverOf", desc := "(I)I" } : MethodName) prog_5_method_3_code (2 : Nat) (Option.some FieldType.int)) ∈ pn_W := pn_mem 555 (by decide +kernel) (by decide +kernel)
theorem m_556 : (Cond.methodLink "PressureNets$Stuff" (52 : Nat) ({ cls := "java/lang/Math", name := "abs", desc := "(I)I" } : MethodName)) ∈ pn_W := pn_mem 556 (by decide +kernel) (by decide +kernel)
theorem m_557 : (Cond.static ({ cls := "java/lang/Math", name := "abs", desc := "(I)I" } : MethodName)) ∈ pn_W := pn_mem 557 (by decide +kernel) (by decide +kernel)
theorem m_558 : (Cond.code ({ cls := "java/lang/Math", name := "abs", desc := "(I)I" } : MethodName) prog_11_method_59_code (1 : Nat) (Option.some FieldType.int)) ∈ pn_W := pn_mem 558 (by decide +kernel) (by decide +kernel)
theorem m_560 : (Cond.methodLink "PressureNets$Stuff" (67 : Nat) ({ cls := "java/lang/Math", name := "max", desc := "(JJ)J" } : MethodName)) ∈ pn_W := pn_mem 560 (by decide +kernel) (by decide +kernel)
theorem m_561 : (Cond.static ({ cls := "java/lang/Math", name := "max", desc := "(JJ)J" } : MethodName)) ∈ pn_W := pn_mem 561 (by decide +kernel) (by decide +kernel)
theorem m_562 : (Cond.code ({ cls := "java/lang/Math", name := "max", desc := "(JJ)J" } : MethodName) prog_11_method_66_code (4 : Nat) (Option.some FieldType.long)) ∈ pn_W := pn_mem 562 (by decide +kernel) (by decide +kernel)
theorem m_563 : (Cond.methodLink "PressureNets" (158 : Nat) ({ cls := "PressureNets$Stuff", name := "doesStep", desc := "()Z" } : MethodName)) ∈ pn_W := pn_mem 563 (by decide +kernel) (by decide +kernel)
theorem m_564 : (Cond.instanceMethod ({ cls := "PressureNets$Stuff", name := "doesStep", desc := "()Z" } : MethodName)) ∈ pn_W := pn_mem 564 (by decide +kernel) (by decide +kernel)
theorem m_565 : (Cond.selects "PressureNets$Stuff" ({ cls := "PressureNets$Stuff", name := "doesStep", desc := "()Z" } : MethodName) ({ cls := "PressureNets$Stuff", name := "doesStep", desc := "()Z" } : MethodName)) ∈ pn_W := pn_mem 565 (by decide +kernel) (by decide +kernel)
theorem m_566 : (Cond.code ({ cls := "PressureNets$Stuff", name := "doesStep", desc := "()Z" } : MethodName) prog_5_method_5_code (2 : Nat) (Option.some FieldType.boolean)) ∈ pn_W := pn_mem 566 (by decide +kernel) (by decide +kernel)
theorem m_567 : (Cond.methodLink "PressureNets$Stuff" (77 : Nat) ({ cls := "java/lang/System", name := "arraycopy", desc := "(Ljava/lang/Object;ILjava/lang/Object;II)V" } : MethodName)) ∈ pn_W := pn_mem 567 (by decide +kernel) (by decide +kernel)
theorem m_568 : (Cond.methodLink "PressureNets$Stuff" (83 : Nat) ({ cls := "PressureNets$Stuff", name := "carry", desc := "(I)V" } : MethodName)) ∈ pn_W := pn_mem 568 (by decide +kernel) (by decide +kernel)
theorem m_570 : (Cond.instanceMethod ({ cls := "PressureNets$Stuff", name := "carry", desc := "(I)V" } : MethodName)) ∈ pn_W := pn_mem 570 (by decide +kernel) (by decide +kernel)
theorem m_571 : (Cond.code ({ cls := "PressureNets$Stuff", name := "carry", desc := "(I)V" } : MethodName) prog_5_method_6_code (5 : Nat) none) ∈ pn_W := pn_mem 571 (by decide +kernel) (by decide +kernel)
theorem m_572 : (Cond.methodLink "PressureNets$Stuff" (89 : Nat) ({ cls := "PressureNets$Stuff", name := "takerOf", desc := "(I)I" } : MethodName)) ∈ pn_W := pn_mem 572 (by decide +kernel) (by decide +kernel)
theorem m_574 : (Cond.instanceMethod ({ cls := "PressureNets$Stuff", name := "takerOf", desc := "(I)I" } : MethodName)) ∈ pn_W := pn_mem 574 (by decide +kernel) (by decide +kernel)
theorem m_575 : (Cond.code ({ cls := "PressureNets$Stuff", name := "takerOf", desc := "(I)I" } : MethodName) prog_5_method_4_code (2 : Nat) (Option.some FieldType.int)) ∈ pn_W := pn_mem 575 (by decide +kernel) (by decide +kernel)
theorem m_576 : (Cond.constantLong "PressureNets$Stuff" (87 : Nat) (1000000000 : Int64)) ∈ pn_W := pn_mem 576 (by decide +kernel) (by decide +kernel)
theorem m_577 : (Cond.methodLink "PressureNetsLaw" (127 : Nat) ({ cls := "PressureNetsLaw", name := "gone", desc := "(LPressureNets;I[J)I" } : MethodName)) ∈ pn_W := pn_mem 577 (by decide +kernel) (by decide +kernel)
theorem m_578 : (Cond.static ({ cls := "PressureNetsLaw", name := "gone", desc := "(LPressureNets;I[J)I" } : MethodName)) ∈ pn_W := pn_mem 578 (by decide +kernel) (by decide +kernel)
theorem m_580 : (Cond.methodLink "PressureNetsLaw" (63 : Nat) ({ cls := "PressureNets", name := "gone", desc := "(I)J" } : MethodName)) ∈ pn_W := pn_mem 580 (by decide +kernel) (by decide +kernel)
theorem m_581 : (Cond.instanceMethod ({ cls := "PressureNets", name := "gone", desc := "(I)J" } : MethodName)) ∈ pn_W := pn_mem 581 (by decide +kernel) (by decide +kernel)
theorem m_582 : (Cond.selects "PressureNets" ({ cls := "PressureNets", name := "gone", desc := "(I)J" } : MethodName) ({ cls := "PressureNets", name := "gone", desc := "(I)J" } : MethodName)) ∈ pn_W := pn_mem 582 (by decide +kernel) (by decide +kernel)
theorem m_583 : (Cond.code ({ cls := "PressureNets", name := "gone", desc := "(I)J" } : MethodName) prog_1_method_17_code (2 : Nat) (Option.some FieldType.long)) ∈ pn_W := pn_mem 583 (by decide +kernel) (by decide +kernel)
theorem m_584 : (Cond.classLink "PressureNetsLaw" (68 : Nat) "PressureNetsModel") ∈ pn_W := pn_mem 584 (by decide +kernel) (by decide +kernel)
theorem m_585 : (Cond.instantiable "PressureNetsModel" (27 : Nat)) ∈ pn_W := pn_mem 585 (by decide +kernel) (by decide +kernel)
theorem m_586 : (Cond.methodLink "PressureNetsLaw" (70 : Nat) ({ cls := "PressureNetsModel", name := "<init>", desc := "()V" } : MethodName)) ∈ pn_W := pn_mem 586 (by decide +kernel) (by decide +kernel)
theorem m_587 : (Cond.instanceMethod ({ cls := "PressureNetsModel", name := "<init>", desc := "()V" } : MethodName)) ∈ pn_W := pn_mem 587 (by decide +kernel) (by decide +kernel)
theorem m_588 : (Cond.code ({ cls := "PressureNetsModel", name := "<init>", desc := "()V" } : MethodName) prog_7_method_1_code (1 : Nat) none) ∈ pn_W := pn_mem 588 (by decide +kernel) (by decide +kernel)
theorem m_589 : (Cond.methodLink "PressureNetsModel" (1 : Nat) ({ cls := "java/lang/Object", name := "<init>", desc := "()V" } : MethodName)) ∈ pn_W := pn_mem 589 (by decide +kernel) (by decide +kernel)
theorem m_590 : (Cond.fieldLink "PressureNetsModel" (72 : Nat) "PressureNetsModel" "code" "I") ∈ pn_W := pn_mem 590 (by decide +kernel) (by decide +kernel)
theorem m_591 : (Cond.fieldLink "PressureNetsModel" (7 : Nat) "PressureNetsModel" "winds" "[I") ∈ pn_W := pn_mem 591 (by decide +kernel) (by decide +kernel)
theorem m_592 : (Cond.fieldLink "PressureNetsModel" (101 : Nat) "PressureNetsModel" "air" "I") ∈ pn_W := pn_mem 592 (by decide +kernel) (by decide +kernel)
theorem m_593 : (Cond.fieldLink "PressureNetsModel" (76 : Nat) "PressureNetsModel" "zones" "I") ∈ pn_W := pn_mem 593 (by decide +kernel) (by decide +kernel)
theorem m_594 : (Cond.fieldLink "PressureNetsModel" (13 : Nat) "PressureNetsModel" "warmths" "[I") ∈ pn_W := pn_mem 594 (by decide +kernel) (by decide +kernel)
theorem m_595 : (Cond.fieldLink "PressureNetsModel" (16 : Nat) "PressureNetsModel" "volumes" "[I") ∈ pn_W := pn_mem 595 (by decide +kernel) (by decide +kernel)
theorem m_596 : (Cond.fieldLink "PressureNetsModel" (19 : Nat) "PressureNetsModel" "holds" "[J") ∈ pn_W := pn_mem 596 (by decide +kernel) (by decide +kernel)
theorem m_597 : (Cond.fieldLink "PressureNetsModel" (23 : Nat) "PressureNetsModel" "sources" "[I") ∈ pn_W := pn_mem 597 (by decide +kernel) (by decide +kernel)
theorem m_598 : (Cond.fieldLink "PressureNetsModel" (110 : Nat) "PressureNetsModel" "leaks" "I") ∈ pn_W := pn_mem 598 (by decide +kernel) (by decide +kernel)
theorem m_599 : (Cond.fieldLink "PressureNetsModel" (26 : Nat) "PressureNetsModel" "leakA" "[I") ∈ pn_W := pn_mem 599 (by decide +kernel) (by decide +kernel)
theorem m_600 : (Cond.fieldLink "PressureNetsModel" (29 : Nat) "PressureNetsModel" "leakB" "[I") ∈ pn_W := pn_mem 600 (by decide +kernel) (by decide +kernel)
theorem m_601 : (Cond.fieldLink "PressureNetsModel" (32 : Nat) "PressureNetsModel" "heights" "[I") ∈ pn_W := pn_mem 601 (by decide +kernel) (by decide +kernel)
theorem m_602 : (Cond.fieldLink "PressureNetsModel" (35 : Nat) "PressureNetsModel" "areas" "[I") ∈ pn_W := pn_mem 602 (by decide +kernel) (by decide +kernel)
theorem m_603 : (Cond.fieldLink "PressureNetsModel" (38 : Nat) "PressureNetsModel" "kinds" "[I") ∈ pn_W := pn_mem 603 (by decide +kernel) (by decide +kernel)
theorem m_604 : (Cond.fieldLink "PressureNetsModel" (41 : Nat) "PressureNetsModel" "isShut" "[Z") ∈ pn_W := pn_mem 604 (by decide +kernel) (by decide +kernel)
theorem m_605 : (Cond.fieldLink "PressureNetsModel" (115 : Nat) "PressureNetsModel" "fans" "I") ∈ pn_W := pn_mem 605 (by decide +kernel) (by decide +kernel)
theorem m_606 : (Cond.fieldLink "PressureNetsModel" (45 : Nat) "PressureNetsModel" "fanA" "[I") ∈ pn_W := pn_mem 606 (by decide +kernel) (by decide +kernel)
theorem m_607 : (Cond.fieldLink "PressureNetsModel" (48 : Nat) "PressureNetsModel" "fanB" "[I") ∈ pn_W := pn_mem 607 (by decide +kernel) (by decide +kernel)
theorem m_608 : (Cond.fieldLink "PressureNetsModel" (51 : Nat) "PressureNetsModel" "fanFlow" "[I") ∈ pn_W := pn_mem 608 (by decide +kernel) (by decide +kernel)
theorem m_609 : (Cond.fieldLink "PressureNetsModel" (54 : Nat) "PressureNetsModel" "slopes" "[I") ∈ pn_W := pn_mem 609 (by decide +kernel) (by decide +kernel)
theorem m_610 : (Cond.fieldLink "PressureNetsModel" (163 : Nat) "PressureNetsModel" "cases" "I") ∈ pn_W := pn_mem 610 (by decide +kernel) (by decide +kernel)
theorem m_611 : (Cond.fieldLink "PressureNetsModel" (57 : Nat) "PressureNetsModel" "sets" "[I") ∈ pn_W := pn_mem 611 (by decide +kernel) (by decide +kernel)
theorem m_612 : (Cond.fieldLink "PressureNetsModel" (60 : Nat) "PressureNetsModel" "gone" "[J") ∈ pn_W := pn_mem 612 (by decide +kernel) (by decide +kernel)
theorem m_613 : (Cond.fieldLink "PressureNetsModel" (63 : Nat) "PressureNetsModel" "state" "[I") ∈ pn_W := pn_mem 613 (by decide +kernel) (by decide +kernel)
theorem m_614 : (Cond.fieldLink "PressureNetsModel" (125 : Nat) "PressureNetsModel" "closed" "I") ∈ pn_W := pn_mem 614 (by decide +kernel) (by decide +kernel)
theorem m_615 : (Cond.fieldLink "PressureNetsModel" (66 : Nat) "PressureNetsModel" "next" "[J") ∈ pn_W := pn_mem 615 (by decide +kernel) (by decide +kernel)
theorem m_616 : (Cond.fieldLink "PressureNetsModel" (69 : Nat) "PressureNetsModel" "nextGone" "[J") ∈ pn_W := pn_mem 616 (by decide +kernel) (by decide +kernel)
theorem m_617 : (Cond.lays "PressureNetsModel" "PressureNetsModel" "code" "I") ∈ pn_W := pn_mem 617 (by decide +kernel) (by decide +kernel)
theorem m_618 : (Cond.soleField "PressureNetsModel" "code") ∈ pn_W := pn_mem 618 (by decide +kernel) (by decide +kernel)
theorem m_619 : (Cond.laysFinal "PressureNetsModel" "PressureNetsModel" "winds" "[I") ∈ pn_W := pn_mem 619 (by decide +kernel) (by decide +kernel)
theorem m_620 : (Cond.soleField "PressureNetsModel" "winds") ∈ pn_W := pn_mem 620 (by decide +kernel) (by decide +kernel)
theorem m_621 : (Cond.lays "PressureNetsModel" "PressureNetsModel" "air" "I") ∈ pn_W := pn_mem 621 (by decide +kernel) (by decide +kernel)
theorem m_622 : (Cond.soleField "PressureNetsModel" "air") ∈ pn_W := pn_mem 622 (by decide +kernel) (by decide +kernel)
theorem m_623 : (Cond.lays "PressureNetsModel" "PressureNetsModel" "zones" "I") ∈ pn_W := pn_mem 623 (by decide +kernel) (by decide +kernel)
theorem m_624 : (Cond.soleField "PressureNetsModel" "zones") ∈ pn_W := pn_mem 624 (by decide +kernel) (by decide +kernel)
theorem m_625 : (Cond.laysFinal "PressureNetsModel" "PressureNetsModel" "warmths" "[I") ∈ pn_W := pn_mem 625 (by decide +kernel) (by decide +kernel)
theorem m_626 : (Cond.soleField "PressureNetsModel" "warmths") ∈ pn_W := pn_mem 626 (by decide +kernel) (by decide +kernel)
theorem m_627 : (Cond.laysFinal "PressureNetsModel" "PressureNetsModel" "volumes" "[I") ∈ pn_W := pn_mem 627 (by decide +kernel) (by decide +kernel)
theorem m_628 : (Cond.soleField "PressureNetsModel" "volumes") ∈ pn_W := pn_mem 628 (by decide +kernel) (by decide +kernel)
theorem m_629 : (Cond.laysFinal "PressureNetsModel" "PressureNetsModel" "holds" "[J") ∈ pn_W := pn_mem 629 (by decide +kernel) (by decide +kernel)
theorem m_630 : (Cond.soleField "PressureNetsModel" "holds") ∈ pn_W := pn_mem 630 (by decide +kernel) (by decide +kernel)
theorem m_631 : (Cond.laysFinal "PressureNetsModel" "PressureNetsModel" "sources" "[I") ∈ pn_W := pn_mem 631 (by decide +kernel) (by decide +kernel)
theorem m_632 : (Cond.soleField "PressureNetsModel" "sources") ∈ pn_W := pn_mem 632 (by decide +kernel) (by decide +kernel)
theorem m_633 : (Cond.lays "PressureNetsModel" "PressureNetsModel" "leaks" "I") ∈ pn_W := pn_mem 633 (by decide +kernel) (by decide +kernel)
theorem m_634 : (Cond.soleField "PressureNetsModel" "leaks") ∈ pn_W := pn_mem 634 (by decide +kernel) (by decide +kernel)
theorem m_635 : (Cond.laysFinal "PressureNetsModel" "PressureNetsModel" "leakA" "[I") ∈ pn_W := pn_mem 635 (by decide +kernel) (by decide +kernel)
theorem m_636 : (Cond.soleField "PressureNetsModel" "leakA") ∈ pn_W := pn_mem 636 (by decide +kernel) (by decide +kernel)
theorem m_637 : (Cond.laysFinal "PressureNetsModel" "PressureNetsModel" "leakB" "[I") ∈ pn_W := pn_mem 637 (by decide +kernel) (by decide +kernel)
theorem m_638 : (Cond.soleField "PressureNetsModel" "leakB") ∈ pn_W := pn_mem 638 (by decide +kernel) (by decide +kernel)
theorem m_639 : (Cond.laysFinal "PressureNetsModel" "PressureNetsModel" "heights" "[I") ∈ pn_W := pn_mem 639 (by decide +kernel) (by decide +kernel)
theorem m_640 : (Cond.soleField "PressureNetsModel" "heights") ∈ pn_W := pn_mem 640 (by decide +kernel) (by decide +kernel)
theorem m_641 : (Cond.laysFinal "PressureNetsModel" "PressureNetsModel" "areas" "[I") ∈ pn_W := pn_mem 641 (by decide +kernel) (by decide +kernel)
theorem m_642 : (Cond.soleField "PressureNetsModel" "areas") ∈ pn_W := pn_mem 642 (by decide +kernel) (by decide +kernel)
theorem m_643 : (Cond.laysFinal "PressureNetsModel" "PressureNetsModel" "kinds" "[I") ∈ pn_W := pn_mem 643 (by decide +kernel) (by decide +kernel)
theorem m_644 : (Cond.soleField "PressureNetsModel" "kinds") ∈ pn_W := pn_mem 644 (by decide +kernel) (by decide +kernel)
theorem m_645 : (Cond.laysFinal "PressureNetsModel" "PressureNetsModel" "isShut" "[Z") ∈ pn_W := pn_mem 645 (by decide +kernel) (by decide +kernel)
theorem m_646 : (Cond.soleField "PressureNetsModel" "isShut") ∈ pn_W := pn_mem 646 (by decide +kernel) (by decide +kernel)
theorem m_647 : (Cond.lays "PressureNetsModel" "PressureNetsModel" "fans" "I") ∈ pn_W := pn_mem 647 (by decide +kernel) (by decide +kernel)
theorem m_648 : (Cond.soleField "PressureNetsModel" "fans") ∈ pn_W := pn_mem 648 (by decide +kernel) (by decide +kernel)
theorem m_649 : (Cond.laysFinal "PressureNetsModel" "PressureNetsModel" "fanA" "[I") ∈ pn_W := pn_mem 649 (by decide +kernel) (by decide +kernel)
theorem m_650 : (Cond.soleField "PressureNetsModel" "fanA") ∈ pn_W := pn_mem 650 (by decide +kernel) (by decide +kernel)
theorem m_651 : (Cond.laysFinal "PressureNetsModel" "PressureNetsModel" "fanB" "[I") ∈ pn_W := pn_mem 651 (by decide +kernel) (by decide +kernel)
theorem m_652 : (Cond.soleField "PressureNetsModel" "fanB") ∈ pn_W := pn_mem 652 (by decide +kernel) (by decide +kernel)
theorem m_653 : (Cond.laysFinal "PressureNetsModel" "PressureNetsModel" "fanFlow" "[I") ∈ pn_W := pn_mem 653 (by decide +kernel) (by decide +kernel)
theorem m_654 : (Cond.soleField "PressureNetsModel" "fanFlow") ∈ pn_W := pn_mem 654 (by decide +kernel) (by decide +kernel)
theorem m_655 : (Cond.laysFinal "PressureNetsModel" "PressureNetsModel" "slopes" "[I") ∈ pn_W := pn_mem 655 (by decide +kernel) (by decide +kernel)
theorem m_656 : (Cond.soleField "PressureNetsModel" "slopes") ∈ pn_W := pn_mem 656 (by decide +kernel) (by decide +kernel)
theorem m_657 : (Cond.lays "PressureNetsModel" "PressureNetsModel" "cases" "I") ∈ pn_W := pn_mem 657 (by decide +kernel) (by decide +kernel)
theorem m_658 : (Cond.soleField "PressureNetsModel" "cases") ∈ pn_W := pn_mem 658 (by decide +kernel) (by decide +kernel)
theorem m_659 : (Cond.laysFinal "PressureNetsModel" "PressureNetsModel" "sets" "[I") ∈ pn_W := pn_mem 659 (by decide +kernel) (by decide +kernel)
theorem m_660 : (Cond.soleField "PressureNetsModel" "sets") ∈ pn_W := pn_mem 660 (by decide +kernel) (by decide +kernel)
theorem m_661 : (Cond.laysFinal "PressureNetsModel" "PressureNetsModel" "gone" "[J") ∈ pn_W := pn_mem 661 (by decide +kernel) (by decide +kernel)
theorem m_662 : (Cond.soleField "PressureNetsModel" "gone") ∈ pn_W := pn_mem 662 (by decide +kernel) (by decide +kernel)
theorem m_663 : (Cond.laysFinal "PressureNetsModel" "PressureNetsModel" "state" "[I") ∈ pn_W := pn_mem 663 (by decide +kernel) (by decide +kernel)
theorem m_664 : (Cond.soleField "PressureNetsModel" "state") ∈ pn_W := pn_mem 664 (by decide +kernel) (by decide +kernel)
theorem m_665 : (Cond.lays "PressureNetsModel" "PressureNetsModel" "closed" "I") ∈ pn_W := pn_mem 665 (by decide +kernel) (by decide +kernel)
theorem m_666 : (Cond.soleField "PressureNetsModel" "closed") ∈ pn_W := pn_mem 666 (by decide +kernel) (by decide +kernel)
theorem m_667 : (Cond.laysFinal "PressureNetsModel" "PressureNetsModel" "next" "[J") ∈ pn_W := pn_mem 667 (by decide +kernel) (by decide +kernel)
theorem m_668 : (Cond.soleField "PressureNetsModel" "next") ∈ pn_W := pn_mem 668 (by decide +kernel) (by decide +kernel)
theorem m_669 : (Cond.laysFinal "PressureNetsModel" "PressureNetsModel" "nextGone" "[J") ∈ pn_W := pn_mem 669 (by decide +kernel) (by decide +kernel)
theorem m_670 : (Cond.soleField "PressureNetsModel" "nextGone") ∈ pn_W := pn_mem 670 (by decide +kernel) (by decide +kernel)
theorem m_671 : (Cond.superclass "PressureNetsModel" "java/lang/Object") ∈ pn_W := pn_mem 671 (by decide +kernel) (by decide +kernel)
theorem m_672 : (Cond.arrayClass FieldType.boolean) ∈ pn_W := pn_mem 672 (by decide +kernel) (by decide +kernel)
theorem m_673 : (Cond.methodLink "PressureNetsLaw" (77 : Nat) ({ cls := "PressureNetsModel", name := "thrown", desc := "()I" } : MethodName)) ∈ pn_W := pn_mem 673 (by decide +kernel) (by decide +kernel)
theorem m_674 : (Cond.instanceMethod ({ cls := "PressureNetsModel", name := "thrown", desc := "()I" } : MethodName)) ∈ pn_W := pn_mem 674 (by decide +kernel) (by decide +kernel)
theorem m_675 : (Cond.selects "PressureNetsModel" ({ cls := "PressureNetsModel", name := "thrown", desc := "()I" } : MethodName) ({ cls := "PressureNetsModel", name := "thrown", desc := "()I" } : MethodName)) ∈ pn_W := pn_mem 675 (by decide +kernel) (by decide +kernel)
theorem m_676 : (Cond.code ({ cls := "PressureNetsModel", name := "thrown", desc := "()I" } : MethodName) prog_7_method_2_code (1 : Nat) (Option.some FieldType.int)) ∈ pn_W := pn_mem 676 (by decide +kernel) (by decide +kernel)
theorem m_677 : (Cond.methodLink "PressureNetsLaw" (76 : Nat) ({ cls := "PressureNetsModel", name := "zone", desc := "(II)I" } : MethodName)) ∈ pn_W := pn_mem 677 (by decide +kernel) (by decide +kernel)
theorem m_678 : (Cond.instanceMethod ({ cls := "PressureNetsModel", name := "zone", desc := "(II)I" } : MethodName)) ∈ pn_W := pn_mem 678 (by decide +kernel) (by decide +kernel)
theorem m_679 : (Cond.selects "PressureNetsModel" ({ cls := "PressureNetsModel", name := "zone", desc := "(II)I" } : MethodName) ({ cls := "PressureNetsModel", name := "zone", desc := "(II)I" } : MethodName)) ∈ pn_W := pn_mem 679 (by decide +kernel) (by decide +kernel)
theorem m_680 : (Cond.code ({ cls := "PressureNetsModel", name := "zone", desc := "(II)I" } : MethodName) prog_7_method_6_code (3 : Nat) (Option.some FieldType.int)) ∈ pn_W := pn_mem 680 (by decide +kernel) (by decide +kernel)
theorem m_681 : (Cond.constantLong "PressureNetsModel" (85 : Nat) (-1000 : Int64)) ∈ pn_W := pn_mem 681 (by decide +kernel) (by decide +kernel)
theorem m_682 : (Cond.constantLong "PressureNetsModel" (87 : Nat) (1000 : Int64)) ∈ pn_W := pn_mem 682 (by decide +kernel) (by decide +kernel)
theorem m_683 : (Cond.methodLink "PressureNetsModel" (79 : Nat) ({ cls := "PressureNetsModel", name := "in", desc := "(JJJ)Z" } : MethodName)) ∈ pn_W := pn_mem 683 (by decide +kernel) (by decide +kernel)
theorem m_684 : (Cond.static ({ cls := "PressureNetsModel", name := "in", desc := "(JJJ)Z" } : MethodName)) ∈ pn_W := pn_mem 684 (by decide +kernel) (by decide +kernel)
theorem m_685 : (Cond.code ({ cls := "PressureNetsModel", name := "in", desc := "(JJJ)Z" } : MethodName) prog_7_method_3_code (6 : Nat) (Option.some FieldType.boolean)) ∈ pn_W := pn_mem 685 (by decide +kernel) (by decide +kernel)
theorem m_686 : (Cond.constantLong "PressureNetsModel" (89 : Nat) (100000 : Int64)) ∈ pn_W := pn_mem 686 (by decide +kernel) (by decide +kernel)
theorem m_687 : (Cond.methodLink "PressureNetsLaw" (83 : Nat) ({ cls := "PressureNetsModel", name := "wind", desc := "(II)I" } : MethodName)) ∈ pn_W := pn_mem 687 (by decide +kernel) (by decide +kernel)
theorem m_688 : (Cond.instanceMethod ({ cls := "PressureNetsModel", name := "wind", desc := "(II)I" } : MethodName)) ∈ pn_W := pn_mem 688 (by decide +kernel) (by decide +kernel)
theorem m_689 : (Cond.selects "PressureNetsModel" ({ cls := "PressureNetsModel", name := "wind", desc := "(II)I" } : MethodName) ({ cls := "PressureNetsModel", name := "wind", desc := "(II)I" } : MethodName)) ∈ pn_W := pn_mem 689 (by decide +kernel) (by decide +kernel)
theorem m_690 : (Cond.code ({ cls := "PressureNetsModel", name := "wind", desc := "(II)I" } : MethodName) prog_7_method_7_code (4 : Nat) (Option.some FieldType.int)) ∈ pn_W := pn_mem 690 (by decide +kernel) (by decide +kernel)
theorem m_691 : (Cond.constantLong "PressureNetsModel" (83 : Nat) (-4 : Int64)) ∈ pn_W := pn_mem 691 (by decide +kernel) (by decide +kernel)
theorem m_692 : (Cond.constantLong "PressureNetsModel" (91 : Nat) (-1 : Int64)) ∈ pn_W := pn_mem 692 (by decide +kernel) (by decide +kernel)
theorem m_693 : (Cond.methodLink "PressureNetsLaw" (86 : Nat) ({ cls := "PressureNetsModel", name := "warmth", desc := "(II)I" } : MethodName)) ∈ pn_W := pn_mem 693 (by decide +kernel) (by decide +kernel)
theorem m_694 : (Cond.instanceMethod ({ cls := "PressureNetsModel", name := "warmth", desc := "(II)I" } : MethodName)) ∈ pn_W := pn_mem 694 (by decide +kernel) (by decide +kernel)
theorem m_695 : (Cond.selects "PressureNetsModel" ({ cls := "PressureNetsModel", name := "warmth", desc := "(II)I" } : MethodName) ({ cls := "PressureNetsModel", name := "warmth", desc := "(II)I" } : MethodName)) ∈ pn_W := pn_mem 695 (by decide +kernel) (by decide +kernel)
theorem m_696 : (Cond.code ({ cls := "PressureNetsModel", name := "warmth", desc := "(II)I" } : MethodName) prog_7_method_8_code (4 : Nat) (Option.some FieldType.int)) ∈ pn_W := pn_mem 696 (by decide +kernel) (by decide +kernel)
theorem m_697 : (Cond.methodLink "PressureNetsModel" (93 : Nat) ({ cls := "PressureNetsModel", name := "isPlace", desc := "(I)Z" } : MethodName)) ∈ pn_W := pn_mem 697 (by decide +kernel) (by decide +kernel)
theorem m_699 : (Cond.instanceMethod ({ cls := "PressureNetsModel", name := "isPlace", desc := "(I)Z" } : MethodName)) ∈ pn_W := pn_mem 699 (by decide +kernel) (by decide +kernel)
theorem m_700 : (Cond.code ({ cls := "PressureNetsModel", name := "isPlace", desc := "(I)Z" } : MethodName) prog_7_method_5_code (2 : Nat) (Option.some FieldType.boolean)) ∈ pn_W := pn_mem 700 (by decide +kernel) (by decide +kernel)
theorem m_701 : (Cond.methodLink "PressureNetsModel" (97 : Nat) ({ cls := "PressureNetsModel", name := "warmthOf", desc := "(I)I" } : MethodName)) ∈ pn_W := pn_mem 701 (by decide +kernel) (by decide +kernel)
theorem m_703 : (Cond.instanceMethod ({ cls := "PressureNetsModel", name := "warmthOf", desc := "(I)I" } : MethodName)) ∈ pn_W := pn_mem 703 (by decide +kernel) (by decide +kernel)
theorem m_704 : (Cond.code ({ cls := "PressureNetsModel", name := "warmthOf", desc := "(I)I" } : MethodName) prog_7_method_13_code (2 : Nat) (Option.some FieldType.int)) ∈ pn_W := pn_mem 704 (by decide +kernel) (by decide +kernel)
theorem m_705 : (Cond.methodLink "PressureNetsLaw" (90 : Nat) ({ cls := "PressureNetsModel", name := "leak", desc := "(IIIII)I" } : MethodName)) ∈ pn_W := pn_mem 705 (by decide +kernel) (by decide +kernel)
theorem m_706 : (Cond.instanceMethod ({ cls := "PressureNetsModel", name := "leak", desc := "(IIIII)I" } : MethodName)) ∈ pn_W := pn_mem 706 (by decide +kernel) (by decide +kernel)
theorem m_707 : (Cond.selects "PressureNetsModel" ({ cls := "PressureNetsModel", name := "leak", desc := "(IIIII)I" } : MethodName) ({ cls := "PressureNetsModel", name := "leak", desc := "(IIIII)I" } : MethodName)) ∈ pn_W := pn_mem 707 (by decide +kernel) (by decide +kernel)
theorem m_708 : (Cond.code ({ cls := "PressureNetsModel", name := "leak", desc := "(IIIII)I" } : MethodName) prog_7_method_10_code (6 : Nat) (Option.some FieldType.int)) ∈ pn_W := pn_mem 708 (by decide +kernel) (by decide +kernel)
theorem m_709 : (Cond.methodLink "PressureNetsModel" (104 : Nat) ({ cls := "PressureNetsModel", name := "isPair", desc := "(II)Z" } : MethodName)) ∈ pn_W := pn_mem 709 (by decide +kernel) (by decide +kernel)
theorem m_711 : (Cond.instanceMethod ({ cls := "PressureNetsModel", name := "isPair", desc := "(II)Z" } : MethodName)) ∈ pn_W := pn_mem 711 (by decide +kernel) (by decide +kernel)
theorem m_712 : (Cond.code ({ cls := "PressureNetsModel", name := "isPair", desc := "(II)Z" } : MethodName) prog_7_method_9_code (3 : Nat) (Option.some FieldType.boolean)) ∈ pn_W := pn_mem 712 (by decide +kernel) (by decide +kernel)
theorem m_713 : (Cond.constantLong "PressureNetsModel" (108 : Nat) (100 : Int64)) ∈ pn_W := pn_mem 713 (by decide +kernel) (by decide +kernel)
theorem m_714 : (Cond.methodLink "PressureNetsLaw" (94 : Nat) ({ cls := "PressureNetsModel", name := "shut", desc := "(IZ)Z" } : MethodName)) ∈ pn_W := pn_mem 714 (by decide +kernel) (by decide +kernel)
theorem m_715 : (Cond.instanceMethod ({ cls := "PressureNetsModel", name := "shut", desc := "(IZ)Z" } : MethodName)) ∈ pn_W := pn_mem 715 (by decide +kernel) (by decide +kernel)
theorem m_716 : (Cond.selects "PressureNetsModel" ({ cls := "PressureNetsModel", name := "shut", desc := "(IZ)Z" } : MethodName) ({ cls := "PressureNetsModel", name := "shut", desc := "(IZ)Z" } : MethodName)) ∈ pn_W := pn_mem 716 (by decide +kernel) (by decide +kernel)
theorem m_717 : (Cond.code ({ cls := "PressureNetsModel", name := "shut", desc := "(IZ)Z" } : MethodName) prog_7_method_11_code (4 : Nat) (Option.some FieldType.boolean)) ∈ pn_W := pn_mem 717 (by decide +kernel) (by decide +kernel)
theorem m_718 : (Cond.methodLink "PressureNetsLaw" (98 : Nat) ({ cls := "PressureNetsModel", name := "fan", desc := "(IIII)I" } : MethodName)) ∈ pn_W := pn_mem 718 (by decide +kernel) (by decide +kernel)
theorem m_719 : (Cond.instanceMethod ({ cls := "PressureNetsModel", name := "fan", desc := "(IIII)I" } : MethodName)) ∈ pn_W := pn_mem 719 (by decide +kernel) (by decide +kernel)
theorem m_720 : (Cond.selects "PressureNetsModel" ({ cls := "PressureNetsModel", name := "fan", desc := "(IIII)I" } : MethodName) ({ cls := "PressureNetsModel", name := "fan", desc := "(IIII)I" } : MethodName)) ∈ pn_W := pn_mem 720 (by decide +kernel) (by decide +kernel)
theorem m_721 : (Cond.code ({ cls := "PressureNetsModel", name := "fan", desc := "(IIII)I" } : MethodName) prog_7_method_12_code (5 : Nat) (Option.some FieldType.int)) ∈ pn_W := pn_mem 721 (by decide +kernel) (by decide +kernel)
theorem m_722 : (Cond.constantLong "PressureNetsModel" (113 : Nat) (10000 : Int64)) ∈ pn_W := pn_mem 722 (by decide +kernel) (by decide +kernel)
theorem m_723 : (Cond.methodLink "PressureNetsLaw" (102 : Nat) ({ cls := "PressureNetsModel", name := "pressure", desc := "(I)I" } : MethodName)) ∈ pn_W := pn_mem 723 (by decide +kernel) (by decide +kernel)
theorem m_724 : (Cond.instanceMethod ({ cls := "PressureNetsModel", name := "pressure", desc := "(I)I" } : MethodName)) ∈ pn_W := pn_mem 724 (by decide +kernel) (by decide +kernel)
theorem m_725 : (Cond.selects "PressureNetsModel" ({ cls := "PressureNetsModel", name := "pressure", desc := "(I)I" } : MethodName) ({ cls := "PressureNetsModel", name := "pressure", desc := "(I)I" } : MethodName)) ∈ pn_W := pn_mem 725 (by decide +kernel) (by decide +kernel)
theorem m_726 : (Cond.code ({ cls := "PressureNetsModel", name := "pressure", desc := "(I)I" } : MethodName) prog_7_method_24_code (2 : Nat) (Option.some FieldType.int)) ∈ pn_W := pn_mem 726 (by decide +kernel) (by decide +kernel)
theorem m_727 : (Cond.methodLink "PressureNetsModel" (155 : Nat) ({ cls := "PressureNetsModel", name := "makeNow", desc := "()Z" } : MethodName)) ∈ pn_W := pn_mem 727 (by decide +kernel) (by decide +kernel)
theorem m_729 : (Cond.instanceMethod ({ cls := "PressureNetsModel", name := "makeNow", desc := "()Z" } : MethodName)) ∈ pn_W := pn_mem 729 (by decide +kernel) (by decide +kernel)
theorem m_730 : (Cond.code ({ cls := "PressureNetsModel", name := "makeNow", desc := "()Z" } : MethodName) prog_7_method_23_code (1 : Nat) (Option.some FieldType.boolean)) ∈ pn_W := pn_mem 730 (by decide +kernel) (by decide +kernel)
theorem m_731 : (Cond.methodLink "PressureNetsModel" (148 : Nat) ({ cls := "PressureNetsModel", name := "shutOnes", desc := "()I" } : MethodName)) ∈ pn_W := pn_mem 731 (by decide +kernel) (by decide +kernel)
theorem m_733 : (Cond.instanceMethod ({ cls := "PressureNetsModel", name := "shutOnes", desc := "()I" } : MethodName)) ∈ pn_W := pn_mem 733 (by decide +kernel) (by decide +kernel)
theorem m_734 : (Cond.code ({ cls := "PressureNetsModel", name := "shutOnes", desc := "()I" } : MethodName) prog_7_method_22_code (3 : Nat) (Option.some FieldType.int)) ∈ pn_W := pn_mem 734 (by decide +kernel) (by decide +kernel)
theorem m_735 : (Cond.methodLink "PressureNetsModel" (152 : Nat) ({ cls := "PressureNetsModel", name := "make", desc := "(I)Z" } : MethodName)) ∈ pn_W := pn_mem 735 (by decide +kernel) (by decide +kernel)
theorem m_737 : (Cond.instanceMethod ({ cls := "PressureNetsModel", name := "make", desc := "(I)Z" } : MethodName)) ∈ pn_W := pn_mem 737 (by decide +kernel) (by decide +kernel)
theorem m_738 : (Cond.code ({ cls := "PressureNetsModel", name := "make", desc := "(I)Z" } : MethodName) prog_7_method_21_code (4 : Nat) (Option.some FieldType.boolean)) ∈ pn_W := pn_mem 738 (by decide +kernel) (by decide +kernel)
theorem m_739 : (Cond.methodLink "PressureNetsModel" (142 : Nat) ({ cls := "PressureNetsModel", name := "gainOf", desc := "(I)J" } : MethodName)) ∈ pn_W := pn_mem 739 (by decide +kernel) (by decide +kernel)
theorem m_741 : (Cond.instanceMethod ({ cls := "PressureNetsModel", name := "gainOf", desc := "(I)J" } : MethodName)) ∈ pn_W := pn_mem 741 (by decide +kernel) (by decide +kernel)
theorem m_742 : (Cond.code ({ cls := "PressureNetsModel", name := "gainOf", desc := "(I)J" } : MethodName) prog_7_method_19_code (5 : Nat) (Option.some FieldType.long)) ∈ pn_W := pn_mem 742 (by decide +kernel) (by decide +kernel)
theorem m_743 : (Cond.methodLink "PressureNetsModel" (135 : Nat) ({ cls := "PressureNetsModel", name := "flowOf", desc := "(I)J" } : MethodName)) ∈ pn_W := pn_mem 743 (by decide +kernel) (by decide +kernel)
theorem m_745 : (Cond.instanceMethod ({ cls := "PressureNetsModel", name := "flowOf", desc := "(I)J" } : MethodName)) ∈ pn_W := pn_mem 745 (by decide +kernel) (by decide +kernel)
theorem m_746 : (Cond.code ({ cls := "PressureNetsModel", name := "flowOf", desc := "(I)J" } : MethodName) prog_7_method_17_code (8 : Nat) (Option.some FieldType.long)) ∈ pn_W := pn_mem 746 (by decide +kernel) (by decide +kernel)
theorem m_747 : (Cond.methodLink "PressureNetsModel" (128 : Nat) ({ cls := "PressureNetsModel", name := "driveOf", desc := "(I)I" } : MethodName)) ∈ pn_W := pn_mem 747 (by decide +kernel) (by decide +kernel)
theorem m_749 : (Cond.instanceMethod ({ cls := "PressureNetsModel", name := "driveOf", desc := "(I)I" } : MethodName)) ∈ pn_W := pn_mem 749 (by decide +kernel) (by decide +kernel)
theorem m_750 : (Cond.code ({ cls := "PressureNetsModel", name := "driveOf", desc := "(I)I" } : MethodName) prog_7_method_15_code (3 : Nat) (Option.some FieldType.int)) ∈ pn_W := pn_mem 750 (by decide +kernel) (by decide +kernel)
theorem m_751 : (Cond.methodLink "PressureNetsModel" (118 : Nat) ({ cls := "PressureNetsModel", name := "pressureOf", desc := "(I)I" } : MethodName)) ∈ pn_W := pn_mem 751 (by decide +kernel) (by decide +kernel)
theorem m_753 : (Cond.instanceMethod ({ cls := "PressureNetsModel", name := "pressureOf", desc := "(I)I" } : MethodName)) ∈ pn_W := pn_mem 753 (by decide +kernel) (by decide +kernel)
theorem m_754 : (Cond.code ({ cls := "PressureNetsModel", name := "pressureOf", desc := "(I)I" } : MethodName) prog_7_method_14_code (2 : Nat) (Option.some FieldType.int)) ∈ pn_W := pn_mem 754 (by decide +kernel) (by decide +kernel)
theorem m_755 : (Cond.methodLink "PressureNetsModel" (131 : Nat) ({ cls := "PressureNetsModel", name := "rootOf", desc := "(J)J" } : MethodName)) ∈ pn_W := pn_mem 755 (by decide +kernel) (by decide +kernel)
theorem m_756 : (Cond.static ({ cls := "PressureNetsModel", name := "rootOf", desc := "(J)J" } : MethodName)) ∈ pn_W := pn_mem 756 (by decide +kernel) (by decide +kernel)
theorem m_757 : (Cond.code ({ cls := "PressureNetsModel", name := "rootOf", desc := "(J)J" } : MethodName) prog_7_method_16_code (8 : Nat) (Option.some FieldType.long)) ∈ pn_W := pn_mem 757 (by decide +kernel) (by decide +kernel)
theorem m_758 : (Cond.constantLong "PressureNetsModel" (121 : Nat) (2000000 : Int64)) ∈ pn_W := pn_mem 758 (by decide +kernel) (by decide +kernel)
theorem m_759 : (Cond.constantLong "PressureNetsModel" (123 : Nat) (2 : Int64)) ∈ pn_W := pn_mem 759 (by decide +kernel) (by decide +kernel)
theorem m_760 : (Cond.methodLink "PressureNetsModel" (139 : Nat) ({ cls := "PressureNetsModel", name := "blown", desc := "(I)J" } : MethodName)) ∈ pn_W := pn_mem 760 (by decide +kernel) (by decide +kernel)
theorem m_762 : (Cond.instanceMethod ({ cls := "PressureNetsModel", name := "blown", desc := "(I)J" } : MethodName)) ∈ pn_W := pn_mem 762 (by decide +kernel) (by decide +kernel)
theorem m_763 : (Cond.code ({ cls := "PressureNetsModel", name := "blown", desc := "(I)J" } : MethodName) prog_7_method_18_code (4 : Nat) (Option.some FieldType.long)) ∈ pn_W := pn_mem 763 (by decide +kernel) (by decide +kernel)
theorem m_764 : (Cond.methodLink "PressureNetsModel" (145 : Nat) ({ cls := "PressureNetsModel", name := "rise", desc := "(I)Z" } : MethodName)) ∈ pn_W := pn_mem 764 (by decide +kernel) (by decide +kernel)
theorem m_766 : (Cond.instanceMethod ({ cls := "PressureNetsModel", name := "rise", desc := "(I)Z" } : MethodName)) ∈ pn_W := pn_mem 766 (by decide +kernel) (by decide +kernel)
theorem m_767 : (Cond.code ({ cls := "PressureNetsModel", name := "rise", desc := "(I)Z" } : MethodName) prog_7_method_20_code (5 : Nat) (Option.some FieldType.boolean)) ∈ pn_W := pn_mem 767 (by decide +kernel) (by decide +kernel)
theorem m_768 : (Cond.constant "PressureNetsModel" (159 : Nat) (-1000000 : Int32)) ∈ pn_W := pn_mem 768 (by decide +kernel) (by decide +kernel)
theorem m_769 : (Cond.methodLink "PressureNetsLaw" (105 : Nat) ({ cls := "PressureNetsModel", name := "told", desc := "(II)I" } : MethodName)) ∈ pn_W := pn_mem 769 (by decide +kernel) (by decide +kernel)
theorem m_770 : (Cond.instanceMethod ({ cls := "PressureNetsModel", name := "told", desc := "(II)I" } : MethodName)) ∈ pn_W := pn_mem 770 (by decide +kernel) (by decide +kernel)
theorem m_771 : (Cond.selects "PressureNetsModel" ({ cls := "PressureNetsModel", name := "told", desc := "(II)I" } : MethodName) ({ cls := "PressureNetsModel", name := "told", desc := "(II)I" } : MethodName)) ∈ pn_W := pn_mem 771 (by decide +kernel) (by decide +kernel)
theorem m_772 : (Cond.code ({ cls := "PressureNetsModel", name := "told", desc := "(II)I" } : MethodName) prog_7_method_25_code (3 : Nat) (Option.some FieldType.int)) ∈ pn_W := pn_mem 772 (by decide +kernel) (by decide +kernel)
theorem m_773 : (Cond.methodLink "PressureNetsLaw" (108 : Nat) ({ cls := "PressureNetsModel", name := "blows", desc := "(I)I" } : MethodName)) ∈ pn_W := pn_mem 773 (by decide +kernel) (by decide +kernel)
theorem m_774 : (Cond.instanceMethod ({ cls := "PressureNetsModel", name := "blows", desc := "(I)I" } : MethodName)) ∈ pn_W := pn_mem 774 (by decide +kernel) (by decide +kernel)
theorem m_775 : (Cond.selects "PressureNetsModel" ({ cls := "PressureNetsModel", name := "blows", desc := "(I)I" } : MethodName) ({ cls := "PressureNetsModel", name := "blows", desc := "(I)I" } : MethodName)) ∈ pn_W := pn_mem 775 (by decide +kernel) (by decide +kernel)
theorem m_776 : (Cond.code ({ cls := "PressureNetsModel", name := "blows", desc := "(I)I" } : MethodName) prog_7_method_26_code (2 : Nat) (Option.some FieldType.int)) ∈ pn_W := pn_mem 776 (by decide +kernel) (by decide +kernel)
theorem m_777 : (Cond.methodLink "PressureNetsLaw" (111 : Nat) ({ cls := "PressureNetsModel", name := "gain", desc := "(I)I" } : MethodName)) ∈ pn_W := pn_mem 777 (by decide +kernel) (by decide +kernel)
theorem m_778 : (Cond.instanceMethod ({ cls := "PressureNetsModel", name := "gain", desc := "(I)I" } : MethodName)) ∈ pn_W := pn_mem 778 (by decide +kernel) (by decide +kernel)
theorem m_779 : (Cond.selects "PressureNetsModel" ({ cls := "PressureNetsModel", name := "gain", desc := "(I)I" } : MethodName) ({ cls := "PressureNetsModel", name := "gain", desc := "(I)I" } : MethodName)) ∈ pn_W := pn_mem 779 (by decide +kernel) (by decide +kernel)
theorem m_780 : (Cond.code ({ cls := "PressureNetsModel", name := "gain", desc := "(I)I" } : MethodName) prog_7_method_27_code (2 : Nat) (Option.some FieldType.int)) ∈ pn_W := pn_mem 780 (by decide +kernel) (by decide +kernel)
theorem m_781 : (Cond.methodLink "PressureNetsModel" (160 : Nat) ({ cls := "PressureNetsModel", name := "isZone", desc := "(I)Z" } : MethodName)) ∈ pn_W := pn_mem 781 (by decide +kernel) (by decide +kernel)
theorem m_783 : (Cond.instanceMethod ({ cls := "PressureNetsModel", name := "isZone", desc := "(I)Z" } : MethodName)) ∈ pn_W := pn_mem 783 (by decide +kernel) (by decide +kernel)
theorem m_784 : (Cond.code ({ cls := "PressureNetsModel", name := "isZone", desc := "(I)Z" } : MethodName) prog_7_method_4_code (2 : Nat) (Option.some FieldType.boolean)) ∈ pn_W := pn_mem 784 (by decide +kernel) (by decide +kernel)
theorem m_785 : (Cond.methodLink "PressureNetsLaw" (114 : Nat) ({ cls := "PressureNetsModel", name := "caseOf", desc := "(I)I" } : MethodName)) ∈ pn_W := pn_mem 785 (by decide +kernel) (by decide +kernel)
theorem m_786 : (Cond.instanceMethod ({ cls := "PressureNetsModel", name := "caseOf", desc := "(I)I" } : MethodName)) ∈ pn_W := pn_mem 786 (by decide +kernel) (by decide +kernel)
theorem m_787 : (Cond.selects "PressureNetsModel" ({ cls := "PressureNetsModel", name := "caseOf", desc := "(I)I" } : MethodName) ({ cls := "PressureNetsModel", name := "caseOf", desc := "(I)I" } : MethodName)) ∈ pn_W := pn_mem 787 (by decide +kernel) (by decide +kernel)
theorem m_788 : (Cond.code ({ cls := "PressureNetsModel", name := "caseOf", desc := "(I)I" } : MethodName) prog_7_method_28_code (2 : Nat) (Option.some FieldType.int)) ∈ pn_W := pn_mem 788 (by decide +kernel) (by decide +kernel)
theorem m_789 : (Cond.methodLink "PressureNetsLaw" (117 : Nat) ({ cls := "PressureNetsModel", name := "worst", desc := "(II)I" } : MethodName)) ∈ pn_W := pn_mem 789 (by decide +kernel) (by decide +kernel)
theorem m_790 : (Cond.instanceMethod ({ cls := "PressureNetsModel", name := "worst", desc := "(II)I" } : MethodName)) ∈ pn_W := pn_mem 790 (by decide +kernel) (by decide +kernel)
theorem m_791 : (Cond.selects "PressureNetsModel" ({ cls := "PressureNetsModel", name := "worst", desc := "(II)I" } : MethodName) ({ cls := "PressureNetsModel", name := "worst", desc := "(II)I" } : MethodName)) ∈ pn_W := pn_mem 791 (by decide +kernel) (by decide +kernel)
theorem m_792 : (Cond.code ({ cls := "PressureNetsModel", name := "worst", desc := "(II)I" } : MethodName) prog_7_method_29_code (9 : Nat) (Option.some FieldType.int)) ∈ pn_W := pn_mem 792 (by decide +kernel) (by decide +kernel)
theorem m_793 : (Cond.constantLong "PressureNetsModel" (166 : Nat) (3 : Int64)) ∈ pn_W := pn_mem 793 (by decide +kernel) (by decide +kernel)
theorem m_794 : (Cond.methodLink "PressureNetsLaw" (120 : Nat) ({ cls := "PressureNetsModel", name := "put", desc := "(II)I" } : MethodName)) ∈ pn_W := pn_mem 794 (by decide +kernel) (by decide +kernel)
theorem m_795 : (Cond.instanceMethod ({ cls := "PressureNetsModel", name := "put", desc := "(II)I" } : MethodName)) ∈ pn_W := pn_mem 795 (by decide +kernel) (by decide +kernel)
theorem m_796 : (Cond.selects "PressureNetsModel" ({ cls := "PressureNetsModel", name := "put", desc := "(II)I" } : MethodName) ({ cls := "PressureNetsModel", name := "put", desc := "(II)I" } : MethodName)) ∈ pn_W := pn_mem 796 (by decide +kernel) (by decide +kernel)
theorem m_797 : (Cond.code ({ cls := "PressureNetsModel", name := "put", desc := "(II)I" } : MethodName) prog_7_method_30_code (3 : Nat) (Option.some FieldType.int)) ∈ pn_W := pn_mem 797 (by decide +kernel) (by decide +kernel)
theorem m_798 : (Cond.constantLong "PressureNetsModel" (168 : Nat) (-1000000000 : Int64)) ∈ pn_W := pn_mem 798 (by decide +kernel) (by decide +kernel)
theorem m_799 : (Cond.constantLong "PressureNetsModel" (170 : Nat) (1000000000 : Int64)) ∈ pn_W := pn_mem 799 (by decide +kernel) (by decide +kernel)
theorem m_800 : (Cond.methodLink "PressureNetsLaw" (123 : Nat) ({ cls := "PressureNetsModel", name := "source", desc := "(II)I" } : MethodName)) ∈ pn_W := pn_mem 800 (by decide +kernel) (by decide +kernel)
theorem m_801 : (Cond.instanceMethod ({ cls := "PressureNetsModel", name := "source", desc := "(II)I" } : MethodName)) ∈ pn_W := pn_mem 801 (by decide +kernel) (by decide +kernel)
theorem m_802 : (Cond.selects "PressureNetsModel" ({ cls := "PressureNetsModel", name := "source", desc := "(II)I" } : MethodName) ({ cls := "PressureNetsModel", name := "source", desc := "(II)I" } : MethodName)) ∈ pn_W := pn_mem 802 (by decide +kernel) (by decide +kernel)
theorem m_803 : (Cond.code ({ cls := "PressureNetsModel", name := "source", desc := "(II)I" } : MethodName) prog_7_method_31_code (4 : Nat) (Option.some FieldType.int)) ∈ pn_W := pn_mem 803 (by decide +kernel) (by decide +kernel)
theorem m_804 : (Cond.constantLong "PressureNetsModel" (172 : Nat) (1000000 : Int64)) ∈ pn_W := pn_mem 804 (by decide +kernel) (by decide +kernel)
theorem m_805 : (Cond.methodLink "PressureNetsLaw" (126 : Nat) ({ cls := "PressureNetsModel", name := "steps", desc := "(I)I" } : MethodName)) ∈ pn_W := pn_mem 805 (by decide +kernel) (by decide +kernel)
theorem m_806 : (Cond.instanceMethod ({ cls := "PressureNetsModel", name := "steps", desc := "(I)I" } : MethodName)) ∈ pn_W := pn_mem 806 (by decide +kernel) (by decide +kernel)
theorem m_807 : (Cond.selects "PressureNetsModel" ({ cls := "PressureNetsModel", name := "steps", desc := "(I)I" } : MethodName) ({ cls := "PressureNetsModel", name := "steps", desc := "(I)I" } : MethodName)) ∈ pn_W := pn_mem 807 (by decide +kernel) (by decide +kernel)
theorem m_808 : (Cond.code ({ cls := "PressureNetsModel", name := "steps", desc := "(I)I" } : MethodName) prog_7_method_35_code (3 : Nat) (Option.some FieldType.int)) ∈ pn_W := pn_mem 808 (by decide +kernel) (by decide +kernel)
theorem m_809 : (Cond.constantLong "PressureNetsModel" (182 : Nat) (200 : Int64)) ∈ pn_W := pn_mem 809 (by decide +kernel) (by decide +kernel)
theorem m_810 : (Cond.methodLink "PressureNetsModel" (184 : Nat) ({ cls := "PressureNetsModel", name := "step", desc := "()Z" } : MethodName)) ∈ pn_W := pn_mem 810 (by decide +kernel) (by decide +kernel)
theorem m_812 : (Cond.instanceMethod ({ cls := "PressureNetsModel", name := "step", desc := "()Z" } : MethodName)) ∈ pn_W := pn_mem 812 (by decide +kernel) (by decide +kernel)
theorem m_813 : (Cond.code ({ cls := "PressureNetsModel", name := "step", desc := "()Z" } : MethodName) prog_7_method_34_code (12 : Nat) (Option.some FieldType.boolean)) ∈ pn_W := pn_mem 813 (by decide +kernel) (by decide +kernel)
theorem m_814 : (Cond.methodLink "PressureNetsModel" (174 : Nat) ({ cls := "PressureNetsModel", name := "outBy", desc := "(II)J" } : MethodName)) ∈ pn_W := pn_mem 814 (by decide +kernel) (by decide +kernel)
theorem m_816 : (Cond.instanceMethod ({ cls := "PressureNetsModel", name := "outBy", desc := "(II)J" } : MethodName)) ∈ pn_W := pn_mem 816 (by decide +kernel) (by decide +kernel)
theorem m_817 : (Cond.code ({ cls := "PressureNetsModel", name := "outBy", desc := "(II)J" } : MethodName) prog_7_method_32_code (6 : Nat) (Option.some FieldType.long)) ∈ pn_W := pn_mem 817 (by decide +kernel) (by decide +kernel)
theorem m_818 : (Cond.methodLink "PressureNetsModel" (178 : Nat) ({ cls := "PressureNetsModel", name := "other", desc := "(II)I" } : MethodName)) ∈ pn_W := pn_mem 818 (by decide +kernel) (by decide +kernel)
theorem m_820 : (Cond.instanceMethod ({ cls := "PressureNetsModel", name := "other", desc := "(II)I" } : MethodName)) ∈ pn_W := pn_mem 820 (by decide +kernel) (by decide +kernel)
theorem m_821 : (Cond.code ({ cls := "PressureNetsModel", name := "other", desc := "(II)I" } : MethodName) prog_7_method_33_code (3 : Nat) (Option.some FieldType.int)) ∈ pn_W := pn_mem 821 (by decide +kernel) (by decide +kernel)
theorem m_822 : (Cond.methodLink "PressureNetsLaw" (129 : Nat) ({ cls := "PressureNetsModel", name := "gone", desc := "(I)J" } : MethodName)) ∈ pn_W := pn_mem 822 (by decide +kernel) (by decide +kernel)
theorem m_823 : (Cond.instanceMethod ({ cls := "PressureNetsModel", name := "gone", desc := "(I)J" } : MethodName)) ∈ pn_W := pn_mem 823 (by decide +kernel) (by decide +kernel)
theorem m_824 : (Cond.selects "PressureNetsModel" ({ cls := "PressureNetsModel", name := "gone", desc := "(I)J" } : MethodName) ({ cls := "PressureNetsModel", name := "gone", desc := "(I)J" } : MethodName)) ∈ pn_W := pn_mem 824 (by decide +kernel) (by decide +kernel)
theorem m_825 : (Cond.code ({ cls := "PressureNetsModel", name := "gone", desc := "(I)J" } : MethodName) prog_7_method_36_code (2 : Nat) (Option.some FieldType.long)) ∈ pn_W := pn_mem 825 (by decide +kernel) (by decide +kernel)
end
