section
-- ===== PART A: goes FIRST, ahead of the names: the tables' words, and 'selects' of the private methods out of them =====
/-- a private method of a class that the tables say can be made, by its rows of tables_1 -/
def lw_okq (q : MethodName × Nat) : Prop := (q.1.cls ≠ "java/lang/invoke/MethodHandle" ∧ q.1.cls ≠ "java/lang/invoke/VarHandle") ∧ Cond.instantiable q.1.cls q.2 ∈ tables_1 ∧ Cond.privateMethod q.1 ∈ tables_1 ∧ Cond.instanceMethod q.1 ∈ tables_1
theorem lw_p0 : lw_okq (⟨"java/lang/Throwable", "fillInStackTrace", "(I)Ljava/lang/Throwable;"⟩, 6) := ⟨⟨by decide +kernel, by decide +kernel⟩, List.mem_of_getElem? (i := 240) (by decide +kernel), List.mem_of_getElem? (i := 238) (by decide +kernel), List.mem_of_getElem? (i := 239) (by decide +kernel)⟩
theorem lw_p1 : lw_okq (⟨"PressureNets", "isPlace", "(I)Z"⟩, 6) := ⟨⟨by decide +kernel, by decide +kernel⟩, List.mem_of_getElem? (i := 16) (by decide +kernel), List.mem_of_getElem? (i := 318) (by decide +kernel), List.mem_of_getElem? (i := 319) (by decide +kernel)⟩
theorem lw_p2 : lw_okq (⟨"PressureNets", "isZone", "(I)Z"⟩, 6) := ⟨⟨by decide +kernel, by decide +kernel⟩, List.mem_of_getElem? (i := 16) (by decide +kernel), List.mem_of_getElem? (i := 322) (by decide +kernel), List.mem_of_getElem? (i := 323) (by decide +kernel)⟩
theorem lw_p3 : lw_okq (⟨"PressureNets$Net", "measureStack", "(I)V"⟩, 17) := ⟨⟨by decide +kernel, by decide +kernel⟩, List.mem_of_getElem? (i := 24) (by decide +kernel), List.mem_of_getElem? (i := 330) (by decide +kernel), List.mem_of_getElem? (i := 331) (by decide +kernel)⟩
theorem lw_p4 : lw_okq (⟨"PressureNets", "canJoin", "(II)Z"⟩, 6) := ⟨⟨by decide +kernel, by decide +kernel⟩, List.mem_of_getElem? (i := 16) (by decide +kernel), List.mem_of_getElem? (i := 341) (by decide +kernel), List.mem_of_getElem? (i := 342) (by decide +kernel)⟩
theorem lw_p5 : lw_okq (⟨"PressureNets$Net", "join", "(III)V"⟩, 17) := ⟨⟨by decide +kernel, by decide +kernel⟩, List.mem_of_getElem? (i := 24) (by decide +kernel), List.mem_of_getElem? (i := 349) (by decide +kernel), List.mem_of_getElem? (i := 350) (by decide +kernel)⟩
theorem lw_p6 : lw_okq (⟨"PressureNets$Net", "noteDuct", "(II)V"⟩, 17) := ⟨⟨by decide +kernel, by decide +kernel⟩, List.mem_of_getElem? (i := 24) (by decide +kernel), List.mem_of_getElem? (i := 353) (by decide +kernel), List.mem_of_getElem? (i := 354) (by decide +kernel)⟩
theorem lw_p7 : lw_okq (⟨"PressureNets", "isLeak", "(I)Z"⟩, 6) := ⟨⟨by decide +kernel, by decide +kernel⟩, List.mem_of_getElem? (i := 16) (by decide +kernel), List.mem_of_getElem? (i := 364) (by decide +kernel), List.mem_of_getElem? (i := 365) (by decide +kernel)⟩
theorem lw_p8 : lw_okq (⟨"PressureNets$Settler", "begin", "(LPressureNets$State;)V"⟩, 2) := ⟨⟨by decide +kernel, by decide +kernel⟩, List.mem_of_getElem? (i := 96) (by decide +kernel), List.mem_of_getElem? (i := 393) (by decide +kernel), List.mem_of_getElem? (i := 394) (by decide +kernel)⟩
theorem lw_p9 : lw_okq (⟨"PressureNets$Settler", "isPastHighest", "(LPressureNets$State;)Z"⟩, 2) := ⟨⟨by decide +kernel, by decide +kernel⟩, List.mem_of_getElem? (i := 96) (by decide +kernel), List.mem_of_getElem? (i := 404) (by decide +kernel), List.mem_of_getElem? (i := 405) (by decide +kernel)⟩
theorem lw_p10 : lw_okq (⟨"PressureNets$Settler", "doBout", "(LPressureNets$State;I)I"⟩, 2) := ⟨⟨by decide +kernel, by decide +kernel⟩, List.mem_of_getElem? (i := 96) (by decide +kernel), List.mem_of_getElem? (i := 408) (by decide +kernel), List.mem_of_getElem? (i := 409) (by decide +kernel)⟩
theorem lw_p11 : lw_okq (⟨"PressureNets$Settler", "raises", "(LPressureNets$State;I)Z"⟩, 2) := ⟨⟨by decide +kernel, by decide +kernel⟩, List.mem_of_getElem? (i := 96) (by decide +kernel), List.mem_of_getElem? (i := 412) (by decide +kernel), List.mem_of_getElem? (i := 413) (by decide +kernel)⟩
theorem lw_p12 : lw_okq (⟨"PressureNets$Settler", "lifts", "(LPressureNets$State;II)Z"⟩, 2) := ⟨⟨by decide +kernel, by decide +kernel⟩, List.mem_of_getElem? (i := 96) (by decide +kernel), List.mem_of_getElem? (i := 440) (by decide +kernel), List.mem_of_getElem? (i := 441) (by decide +kernel)⟩
theorem lw_p13 : lw_okq (⟨"PressureNets$Stuff", "giverOf", "(I)I"⟩, 6) := ⟨⟨by decide +kernel, by decide +kernel⟩, List.mem_of_getElem? (i := 109) (by decide +kernel), List.mem_of_getElem? (i := 521) (by decide +kernel), List.mem_of_getElem? (i := 522) (by decide +kernel)⟩
theorem lw_p14 : lw_okq (⟨"PressureNets$Stuff", "carry", "(I)V"⟩, 6) := ⟨⟨by decide +kernel, by decide +kernel⟩, List.mem_of_getElem? (i := 109) (by decide +kernel), List.mem_of_getElem? (i := 537) (by decide +kernel), List.mem_of_getElem? (i := 538) (by decide +kernel)⟩
theorem lw_p15 : lw_okq (⟨"PressureNets$Stuff", "takerOf", "(I)I"⟩, 6) := ⟨⟨by decide +kernel, by decide +kernel⟩, List.mem_of_getElem? (i := 109) (by decide +kernel), List.mem_of_getElem? (i := 541) (by decide +kernel), List.mem_of_getElem? (i := 542) (by decide +kernel)⟩
def lw_privs_1 : List (MethodName × Nat) := [(⟨"java/lang/Throwable", "fillInStackTrace", "(I)Ljava/lang/Throwable;"⟩, 6), (⟨"PressureNets", "isPlace", "(I)Z"⟩, 6), (⟨"PressureNets", "isZone", "(I)Z"⟩, 6), (⟨"PressureNets$Net", "measureStack", "(I)V"⟩, 17), (⟨"PressureNets", "canJoin", "(II)Z"⟩, 6), (⟨"PressureNets$Net", "join", "(III)V"⟩, 17), (⟨"PressureNets$Net", "noteDuct", "(II)V"⟩, 17), (⟨"PressureNets", "isLeak", "(I)Z"⟩, 6), (⟨"PressureNets$Settler", "begin", "(LPressureNets$State;)V"⟩, 2), (⟨"PressureNets$Settler", "isPastHighest", "(LPressureNets$State;)Z"⟩, 2), (⟨"PressureNets$Settler", "doBout", "(LPressureNets$State;I)I"⟩, 2), (⟨"PressureNets$Settler", "raises", "(LPressureNets$State;I)Z"⟩, 2), (⟨"PressureNets$Settler", "lifts", "(LPressureNets$State;II)Z"⟩, 2), (⟨"PressureNets$Stuff", "giverOf", "(I)I"⟩, 6), (⟨"PressureNets$Stuff", "carry", "(I)V"⟩, 6), (⟨"PressureNets$Stuff", "takerOf", "(I)I"⟩, 6)]
theorem lw_r1 : ∀ q ∈ lw_privs_1, lw_okq q := List.forall_mem_cons.mpr ⟨lw_p0, List.forall_mem_cons.mpr ⟨lw_p1, List.forall_mem_cons.mpr ⟨lw_p2, List.forall_mem_cons.mpr ⟨lw_p3, List.forall_mem_cons.mpr ⟨lw_p4, List.forall_mem_cons.mpr ⟨lw_p5, List.forall_mem_cons.mpr ⟨lw_p6, List.forall_mem_cons.mpr ⟨lw_p7, List.forall_mem_cons.mpr ⟨lw_p8, List.forall_mem_cons.mpr ⟨lw_p9, List.forall_mem_cons.mpr ⟨lw_p10, List.forall_mem_cons.mpr ⟨lw_p11, List.forall_mem_cons.mpr ⟨lw_p12, List.forall_mem_cons.mpr ⟨lw_p13, List.forall_mem_cons.mpr ⟨lw_p14, List.forall_mem_cons.mpr ⟨lw_p15, fun _ h => absurd h List.not_mem_nil⟩⟩⟩⟩⟩⟩⟩⟩⟩⟩⟩⟩⟩⟩⟩⟩
theorem lw_p16 : lw_okq (⟨"PressureNetsModel", "isPlace", "(I)Z"⟩, 27) := ⟨⟨by decide +kernel, by decide +kernel⟩, List.mem_of_getElem? (i := 553) (by decide +kernel), List.mem_of_getElem? (i := 666) (by decide +kernel), List.mem_of_getElem? (i := 667) (by decide +kernel)⟩
theorem lw_p17 : lw_okq (⟨"PressureNetsModel", "warmthOf", "(I)I"⟩, 27) := ⟨⟨by decide +kernel, by decide +kernel⟩, List.mem_of_getElem? (i := 553) (by decide +kernel), List.mem_of_getElem? (i := 670) (by decide +kernel), List.mem_of_getElem? (i := 671) (by decide +kernel)⟩
theorem lw_p18 : lw_okq (⟨"PressureNetsModel", "isPair", "(II)Z"⟩, 27) := ⟨⟨by decide +kernel, by decide +kernel⟩, List.mem_of_getElem? (i := 553) (by decide +kernel), List.mem_of_getElem? (i := 678) (by decide +kernel), List.mem_of_getElem? (i := 679) (by decide +kernel)⟩
theorem lw_p19 : lw_okq (⟨"PressureNetsModel", "makeNow", "()Z"⟩, 27) := ⟨⟨by decide +kernel, by decide +kernel⟩, List.mem_of_getElem? (i := 553) (by decide +kernel), List.mem_of_getElem? (i := 696) (by decide +kernel), List.mem_of_getElem? (i := 697) (by decide +kernel)⟩
theorem lw_p20 : lw_okq (⟨"PressureNetsModel", "shutOnes", "()I"⟩, 27) := ⟨⟨by decide +kernel, by decide +kernel⟩, List.mem_of_getElem? (i := 553) (by decide +kernel), List.mem_of_getElem? (i := 700) (by decide +kernel), List.mem_of_getElem? (i := 701) (by decide +kernel)⟩
theorem lw_p21 : lw_okq (⟨"PressureNetsModel", "make", "(I)Z"⟩, 27) := ⟨⟨by decide +kernel, by decide +kernel⟩, List.mem_of_getElem? (i := 553) (by decide +kernel), List.mem_of_getElem? (i := 704) (by decide +kernel), List.mem_of_getElem? (i := 705) (by decide +kernel)⟩
theorem lw_p22 : lw_okq (⟨"PressureNetsModel", "gainOf", "(I)J"⟩, 27) := ⟨⟨by decide +kernel, by decide +kernel⟩, List.mem_of_getElem? (i := 553) (by decide +kernel), List.mem_of_getElem? (i := 708) (by decide +kernel), List.mem_of_getElem? (i := 709) (by decide +kernel)⟩
theorem lw_p23 : lw_okq (⟨"PressureNetsModel", "flowOf", "(I)J"⟩, 27) := ⟨⟨by decide +kernel, by decide +kernel⟩, List.mem_of_getElem? (i := 553) (by decide +kernel), List.mem_of_getElem? (i := 712) (by decide +kernel), List.mem_of_getElem? (i := 713) (by decide +kernel)⟩
theorem lw_p24 : lw_okq (⟨"PressureNetsModel", "driveOf", "(I)I"⟩, 27) := ⟨⟨by decide +kernel, by decide +kernel⟩, List.mem_of_getElem? (i := 553) (by decide +kernel), List.mem_of_getElem? (i := 716) (by decide +kernel), List.mem_of_getElem? (i := 717) (by decide +kernel)⟩
theorem lw_p25 : lw_okq (⟨"PressureNetsModel", "pressureOf", "(I)I"⟩, 27) := ⟨⟨by decide +kernel, by decide +kernel⟩, List.mem_of_getElem? (i := 553) (by decide +kernel), List.mem_of_getElem? (i := 720) (by decide +kernel), List.mem_of_getElem? (i := 721) (by decide +kernel)⟩
theorem lw_p26 : lw_okq (⟨"PressureNetsModel", "blown", "(I)J"⟩, 27) := ⟨⟨by decide +kernel, by decide +kernel⟩, List.mem_of_getElem? (i := 553) (by decide +kernel), List.mem_of_getElem? (i := 729) (by decide +kernel), List.mem_of_getElem? (i := 730) (by decide +kernel)⟩
theorem lw_p27 : lw_okq (⟨"PressureNetsModel", "rise", "(I)Z"⟩, 27) := ⟨⟨by decide +kernel, by decide +kernel⟩, List.mem_of_getElem? (i := 553) (by decide +kernel), List.mem_of_getElem? (i := 733) (by decide +kernel), List.mem_of_getElem? (i := 734) (by decide +kernel)⟩
theorem lw_p28 : lw_okq (⟨"PressureNetsModel", "isZone", "(I)Z"⟩, 27) := ⟨⟨by decide +kernel, by decide +kernel⟩, List.mem_of_getElem? (i := 553) (by decide +kernel), List.mem_of_getElem? (i := 750) (by decide +kernel), List.mem_of_getElem? (i := 751) (by decide +kernel)⟩
theorem lw_p29 : lw_okq (⟨"PressureNetsModel", "step", "()Z"⟩, 27) := ⟨⟨by decide +kernel, by decide +kernel⟩, List.mem_of_getElem? (i := 553) (by decide +kernel), List.mem_of_getElem? (i := 779) (by decide +kernel), List.mem_of_getElem? (i := 780) (by decide +kernel)⟩
theorem lw_p30 : lw_okq (⟨"PressureNetsModel", "outBy", "(II)J"⟩, 27) := ⟨⟨by decide +kernel, by decide +kernel⟩, List.mem_of_getElem? (i := 553) (by decide +kernel), List.mem_of_getElem? (i := 783) (by decide +kernel), List.mem_of_getElem? (i := 784) (by decide +kernel)⟩
theorem lw_p31 : lw_okq (⟨"PressureNetsModel", "other", "(II)I"⟩, 27) := ⟨⟨by decide +kernel, by decide +kernel⟩, List.mem_of_getElem? (i := 553) (by decide +kernel), List.mem_of_getElem? (i := 787) (by decide +kernel), List.mem_of_getElem? (i := 788) (by decide +kernel)⟩
def lw_privs_2 : List (MethodName × Nat) := [(⟨"PressureNetsModel", "isPlace", "(I)Z"⟩, 27), (⟨"PressureNetsModel", "warmthOf", "(I)I"⟩, 27), (⟨"PressureNetsModel", "isPair", "(II)Z"⟩, 27), (⟨"PressureNetsModel", "makeNow", "()Z"⟩, 27), (⟨"PressureNetsModel", "shutOnes", "()I"⟩, 27), (⟨"PressureNetsModel", "make", "(I)Z"⟩, 27), (⟨"PressureNetsModel", "gainOf", "(I)J"⟩, 27), (⟨"PressureNetsModel", "flowOf", "(I)J"⟩, 27), (⟨"PressureNetsModel", "driveOf", "(I)I"⟩, 27), (⟨"PressureNetsModel", "pressureOf", "(I)I"⟩, 27), (⟨"PressureNetsModel", "blown", "(I)J"⟩, 27), (⟨"PressureNetsModel", "rise", "(I)Z"⟩, 27), (⟨"PressureNetsModel", "isZone", "(I)Z"⟩, 27), (⟨"PressureNetsModel", "step", "()Z"⟩, 27), (⟨"PressureNetsModel", "outBy", "(II)J"⟩, 27), (⟨"PressureNetsModel", "other", "(II)I"⟩, 27)]
theorem lw_r2 : ∀ q ∈ lw_privs_2, lw_okq q := List.forall_mem_cons.mpr ⟨lw_p16, List.forall_mem_cons.mpr ⟨lw_p17, List.forall_mem_cons.mpr ⟨lw_p18, List.forall_mem_cons.mpr ⟨lw_p19, List.forall_mem_cons.mpr ⟨lw_p20, List.forall_mem_cons.mpr ⟨lw_p21, List.forall_mem_cons.mpr ⟨lw_p22, List.forall_mem_cons.mpr ⟨lw_p23, List.forall_mem_cons.mpr ⟨lw_p24, List.forall_mem_cons.mpr ⟨lw_p25, List.forall_mem_cons.mpr ⟨lw_p26, List.forall_mem_cons.mpr ⟨lw_p27, List.forall_mem_cons.mpr ⟨lw_p28, List.forall_mem_cons.mpr ⟨lw_p29, List.forall_mem_cons.mpr ⟨lw_p30, List.forall_mem_cons.mpr ⟨lw_p31, fun _ h => absurd h List.not_mem_nil⟩⟩⟩⟩⟩⟩⟩⟩⟩⟩⟩⟩⟩⟩⟩⟩
def lw_privs : List (MethodName × Nat) := lw_privs_1 ++ (lw_privs_2)
def lw_tbl : List Cond := k2_sels lw_privs ++ tables_1
theorem lw_privs_ok : ∀ q ∈ lw_privs, lw_okq q := by
  show ∀ q ∈ lw_privs_1 ++ (lw_privs_2), lw_okq q
  exact List.forall_mem_append.mpr ⟨lw_r1, lw_r2⟩
/-! ===== BEGIN words of one list among another's, by their places ===== -/
theorem goodIn_r {big : List Cond} (ws : List Cond) (ps : List Nat) (hp : ws = ps.filterMap (fun i => big[i]?)) (h : ws.all goodWord = true) : GoodIn big ws := by
  intro w hw
  have h1 := List.all_eq_true.mp h w hw
  rw [hp] at hw
  obtain ⟨i, -, hi⟩ := List.mem_filterMap.mp hw
  have hm : w ∈ big := by first | exact List.mem_of_getElem? hi | exact List.getElem?_mem hi
  exact ⟨hm, good_of_word h1⟩
theorem goodIn_app {big a b : List Cond} (ha : GoodIn big a) (hb : GoodIn big b) : GoodIn big (a ++ b) := fun w h => (List.mem_append.mp h).elim (ha w) (hb w)
theorem goodIn_ca {big a b : List Cond} {c : Cond} (ha : GoodIn big (c :: a)) (hb : GoodIn big b) : GoodIn big (c :: (a ++ b)) := fun w h => (List.mem_cons.mp h).elim (fun e => ha w (List.mem_cons.mpr (Or.inl e))) (fun h => (List.mem_append.mp h).elim (fun h => ha w (List.mem_cons.mpr (Or.inr h))) (hb w))
theorem goodIn_sub {big ws : List Cond} (hm : ∀ w ∈ ws, w ∈ big) (h : ws.all goodWord = true) : GoodIn big ws := fun w hw => ⟨hm w hw, good_of_word (List.all_eq_true.mp h w hw)⟩
/-! ===== END ===== -/

/-! ===== BEGIN new T[n][m]: the outer array a place, the inner ones among the pooled ===== -/
/-- f, but v at every address of l -/
def vr_up {α : Type} (f : Nat → α) (l : List Nat) (v : α) : Nat → α := fun a => if a ∈ l then v else f a
theorem vr_up_in {α : Type} {f : Nat → α} {l : List Nat} {v : α} {a : Nat} (h : a ∈ l) : vr_up f l v a = v := if_pos h
theorem vr_up_ne {α : Type} {f : Nat → α} {l : List Nat} {v : α} {a : Nat} (h : a ∉ l) : vr_up f l v a = f a := if_neg h
theorem vr_rows {L l : List Nat} {f : Nat → va_E} {e : va_E} (h : ∀ a, a ∈ l → a ∉ L) : va_pl L f ++ l.map (fun a => (a, e)) = va_pl (L ++ l) (vr_up f l e) := by
  unfold va_pl
  rw [List.map_append]
  congr 1
  · apply List.map_congr_left
    intro a ha
    rw [vr_up_ne (fun q => h a q ha)]
  · apply List.map_congr_left
    intro a ha
    rw [vr_up_in ha]
theorem vr_lay {X rows : va_W} {x : Nat × va_E} {pl : va_W} {D : va_G} {cl : List vw_C} {H : Heap} (hP : va_P D cl (((X ++ pl) ++ [x]) ++ rows) H) : va_P D cl ((X ++ [x]) ++ (pl ++ rows)) H := by
  rw [List.append_assoc (X ++ pl)] at hP
  have h := va_P.swap hP
  rw [← List.append_assoc X] at h
  have h2 := va_P.swap h
  rw [List.append_assoc (X ++ [x])] at h2
  exact h2
theorem vr_layD {X rows : va_W} {x : Nat × va_E} {pl : va_W} {A : Nat → Prop} (hD : va_D A (((X ++ pl) ++ [x]) ++ rows)) : va_D A ((X ++ [x]) ++ (pl ++ rows)) := by
  rw [List.append_assoc (X ++ pl)] at hD
  have h := va_D.swap hD
  rw [← List.append_assoc X] at h
  have h2 := va_D.swap h
  rw [List.append_assoc (X ++ [x])] at h2
  exact h2
theorem vr_outer (c : ClassId) (N h0 : Nat) : ∀ i : Nat, Jvm.Free.Multi.outerC c N h0 i = arrV c N (fun j => va_rf (if j < i then some (h0 + 1 + j) else none))
  | 0 => by
    show ({ cls := c, slots := Array.replicate N .null, vm := .none } : Cell) = _
    rw [arrV_new]
    refine congrArg (arrV c N) (funext fun j => ?_)
    simp [va_rf]
  | i + 1 => by
    show (Jvm.Free.Multi.outerC c N h0 i).setSlot i (.ref (h0 + 1 + i)) = _
    rw [vr_outer c N h0 i, arrV_store]
    refine congrArg (arrV c N) (funext fun j => ?_)
    by_cases e : j = i
    · subst e
      simp [updV, va_rf]
    · by_cases h : j < i
      · simp [updV, e, h, Nat.lt_succ_of_lt h]
      · simp [updV, e, h, show ¬ j < i + 1 by omega]
section VGM
variable {p : Program} {l : Launch} {e : Env} {R : Room} {s : State} {m : MethodId} {args : Array Value} {below : List Frame} {meth : Method} {c : Code} {H : Heap} {locs : List Loc} {cells slots : Nat} {Q : State → Prop}
variable {cc : ByteArray} {pc : Nat} {ls : Array Slot} {rest : List Value} {D : va_G} {cl : List vw_C} {A : Nat → Prop} {a : Nat} {tys : List (ClassId × FieldType)} {ws : va_W} {H0 : Heap}
theorem va_mna {X : va_W} {L : List Nat} {f : Nat → va_E} {cc : ByteArray} (hexec : p.tables.exec = Jvm.exec) (hb : c.code = cc) {own : String} {index : Nat} {ty : FieldType} {cy : ClassId} (hown : s.vm.findClass own = some m.cls) (hclink : (Cond.classLink own index ("[" ++ (FieldType.array ty).toString)).before args s = true) (hover : (Cond.arrayOver (.array ty)).before args s = true) (harr : (Cond.arrayClass ty).before args s = true) (hcy : s.vm.findClass (FieldType.array ty).toString = some cy)
    (hK : va_K D cl tys s) (hP : va_P D cl (X ++ va_pl L f) H) (hD : va_D A (X ++ va_pl L f)) (hS : va_S A H0 H locs) (hA : ∀ q, H0.size ≤ q → A q) {n k : Int32} {N' K' : Nat} {z : vp_A} (hn : ¬ n < 0) (hk : ¬ k < 0) (hN : n.toNatClampNeg = N') (hM : k.toNatClampNeg = K')
    (hb1 : N' * 4 ≤ 536870912) (hb2 : K' * componentBytes ty ≤ 536870912) (hb3 : K' ≤ 536870912) (hdf : fits ty (defaultValue ty) = true) (hdd : (defaultValue ty).isDefault = true) (hcells : cells + (1 + N') ≤ R.cells) (hslots : slots + (N' + N' * K') ≤ R.slots) (hz : ∀ c : ClassId, Jvm.Free.Multi.innerC c K' (defaultValue ty) = vp_cell c z) (hdg : decode cc pc = .ok (.multianewarray index 2, 4))
    (kk : ∀ (q : Nat) (r : Nat → Nat) (cA : ClassId) (H1 : Heap), (∀ i j : Nat, i < N' → j < N' → r i = r j → i = j) → (∀ i : Nat, i < N' → r i ∉ L) → va_K D cl (tys ++ [(cA, .array ty)]) s →
      va_P D cl ((X ++ [(q, .inl (cA, N', .inr (.inr (.inr (.inr (fun i => if i < N' then some (r i) else none))))))]) ++ va_pl (L ++ (List.range N').map r) (vr_up f ((List.range N').map r) (.inl (cy, z)))) H1 → va_D A ((X ++ [(q, .inl (cA, N', .inr (.inr (.inr (.inr (fun i => if i < N' then some (r i) else none))))))]) ++ va_pl (L ++ (List.range N').map r) (vr_up f ((List.range N').map r) (.inl (cy, z)))) → va_S A H0 H1 locs →
      W p l e R s m args below meth c H1 locs (cells + 1 + N') (slots + N' + N' * K') Q (F0 m (pc + 4) ls (.ref q :: rest))) : W p l e R s m args below meth c H locs cells slots Q (F0 m pc ls (.int k :: .int n :: rest)) := by
  subst hN
  subst hM
  intro T hT Xs
  obtain ⟨vm₁, cA, comp, -, fA, fC, hO, -, X', step⟩ := Xs.multianewarray2F hexec hown hclink hover harr (g := F0 m pc ls (.int k :: .int n :: rest)) rfl (by rw [hb]; exact hdg) rfl hn hk hb1 hb2 hb3 hdf hdd hcells hslots
  have ec : some cy = some comp := hcy.symm.trans fC
  cases ec
  generalize hF : Jvm.Free.Multi.fill (T.setVm vm₁) cA cy n.toNatClampNeg k.toNatClampNeg (defaultValue ty) n.toNatClampNeg = F at X' step
  have hTh : (T.setVm vm₁).heap = H := hT
  obtain ⟨f1, f2, -, -⟩ := Jvm.Free.Multi.fill_facts (T.setVm vm₁) cA cy n.toNatClampNeg k.toNatClampNeg (defaultValue ty) n.toNatClampNeg
  rw [hF, hTh] at f1 f2
  have hold : ∀ x : Nat, x < H.size → F.heap[x]? = H[x]? := fun x hx => by
    have := Jvm.Free.Multi.fill_old (T.setVm vm₁) cA cy n.toNatClampNeg k.toNatClampNeg (defaultValue ty) (a := x) (by rw [hTh]; exact hx) n.toNatClampNeg
    rw [hF, hTh] at this
    exact this
  have hrow : ∀ j : Nat, j < n.toNatClampNeg → F.heap[H.size + 1 + j]? = some (vp_cell cy z) := fun j hj => by
    have := Jvm.Free.Multi.fill_inner (T.setVm vm₁) cA cy n.toNatClampNeg k.toNatClampNeg (defaultValue ty) n.toNatClampNeg j hj
    rw [hF, hTh, hz] at this
    exact this
  have hout : Jvm.Free.Multi.outerC cA n.toNatClampNeg H.size n.toNatClampNeg = vp_cell cA (n.toNatClampNeg, .inr (.inr (.inr (.inr (fun i => if i < n.toNatClampNeg then some (H.size + 1 + i) else none))))) := by
    rw [vp_cell_q]
    exact vr_outer cA n.toNatClampNeg H.size n.toNatClampNeg
  rw [hout] at f2
  have hlt : ∀ a, a ∈ L → a < H.size := fun a ha => by
    obtain ⟨k9, hk9⟩ := va_pl_get (X := X) (f := f) ha
    exact (hP k9 _ hk9).lt
  have hnl : ∀ i : Nat, i < n.toNatClampNeg → H.size + 1 + i ∉ L := fun i _ h => by
    have := hlt _ h
    omega
  have hnm : ∀ a, a ∈ (List.range n.toNatClampNeg).map (fun i => H.size + 1 + i) → a ∉ L := fun a ha h => by
    obtain ⟨i, -, rfl⟩ := List.mem_map.mp ha
    have := hlt _ h
    omega
  have hP0 : va_P D cl (X ++ va_pl L f) F.heap := hP.kept (fun k9 x hx => hold x.1 ((hP k9 x hx).lt))
  have hP1 : va_P D cl ((X ++ va_pl L f) ++ [(H.size, .inl (cA, n.toNatClampNeg, .inr (.inr (.inr (.inr (fun i => if i < n.toNatClampNeg then some (H.size + 1 + i) else none))))))]) F.heap := hP0.app (fun k9 x hx => by
    have h0 : k9 < 1 := (List.getElem?_eq_some_iff.mp hx).1
    rw [show k9 = 0 by omega] at hx
    cases hx
    exact f2)
  have hP2 : va_P D cl (((X ++ va_pl L f) ++ [(H.size, .inl (cA, n.toNatClampNeg, .inr (.inr (.inr (.inr (fun i => if i < n.toNatClampNeg then some (H.size + 1 + i) else none))))))]) ++ ((List.range n.toNatClampNeg).map (fun i => H.size + 1 + i)).map (fun a => (a, .inl (cy, z)))) F.heap := hP1.app (fun k9 x hx => by
    obtain ⟨a, ha, rfl⟩ := List.mem_map.mp (List.mem_of_getElem? hx)
    obtain ⟨i, hi, rfl⟩ := List.mem_map.mp ha
    exact hrow i (List.mem_range.mp hi))
  have hD2 : va_D A (((X ++ va_pl L f) ++ [(H.size, .inl (cA, n.toNatClampNeg, .inr (.inr (.inr (.inr (fun i => if i < n.toNatClampNeg then some (H.size + 1 + i) else none))))))]) ++ ((List.range n.toNatClampNeg).map (fun i => H.size + 1 + i)).map (fun a => (a, .inl (cy, z)))) := by
    have hD1 := hD.push (e := .inl (cA, n.toNatClampNeg, .inr (.inr (.inr (.inr (fun i => if i < n.toNatClampNeg then some (H.size + 1 + i) else none)))))) hP rfl (hA _ hS.1)
    generalize hW1 : (X ++ va_pl L f) ++ [(H.size, .inl (cA, n.toNatClampNeg, .inr (.inr (.inr (.inr (fun i => if i < n.toNatClampNeg then some (H.size + 1 + i) else none))))))] = W1 at hD1 hP1 ⊢
    have hle : ∀ (k9 : Nat) (x : Nat × va_E), W1[k9]? = some x → x.1 ≤ H.size := fun k9 x hx => by
      rw [← hW1] at hx
      by_cases hl : k9 < (X ++ va_pl L f).length
      · rw [List.getElem?_append_left hl] at hx
        exact Nat.le_of_lt ((hP k9 x hx).lt)
      · rw [List.getElem?_append_right (by omega)] at hx
        have h0 : k9 - (X ++ va_pl L f).length < 1 := (List.getElem?_eq_some_iff.mp hx).1
        rw [show k9 - (X ++ va_pl L f).length = 0 by omega] at hx
        cases hx
        exact Nat.le_refl _
    have hr : ∀ (k9 : Nat) (x : Nat × va_E), (((List.range n.toNatClampNeg).map (fun i => H.size + 1 + i)).map (fun a => ((a, .inl (cy, z)) : Nat × va_E)))[k9]? = some x → x.1 = H.size + 1 + k9 := fun k9 x hx => by
      rw [List.getElem?_map, List.getElem?_map] at hx
      by_cases h9 : k9 < n.toNatClampNeg
      · rw [List.getElem?_range h9] at hx
        cases hx
        rfl
      · have hn0 : (List.range n.toNatClampNeg)[k9]? = none := List.getElem?_eq_none (by rw [List.length_range]; omega)
        rw [hn0] at hx
        cases hx
    refine ⟨fun i j x y hi hj hxy => ?_, fun k9 x hx => ?_⟩
    · by_cases h1 : i < W1.length <;> by_cases h2 : j < W1.length
      · rw [List.getElem?_append_left h1] at hi
        rw [List.getElem?_append_left h2] at hj
        exact hD1.1 i j x y hi hj hxy
      · rw [List.getElem?_append_left h1] at hi
        rw [List.getElem?_append_right (by omega)] at hj
        have := hle _ _ hi
        have := hr _ _ hj
        omega
      · rw [List.getElem?_append_right (by omega)] at hi
        rw [List.getElem?_append_left h2] at hj
        have := hle _ _ hj
        have := hr _ _ hi
        omega
      · rw [List.getElem?_append_right (by omega)] at hi hj
        have := hr _ _ hi
        have := hr _ _ hj
        omega
    · by_cases h1 : k9 < W1.length
      · rw [List.getElem?_append_left h1] at hx
        exact hD1.2 k9 x hx
      · rw [List.getElem?_append_right (by omega)] at hx
        have := hr _ _ hx
        exact hA _ (by have := hS.1; omega)
  have hAr : ArrOfT s cA (.array ty) := fun N9 z9 => by
    obtain ⟨-, k9, hk9, cm9, hkk9⟩ := (hO 0 0 0).1
    exact ⟨(fun q hq => by cases hq), k9, hk9, cm9, hkk9⟩
  have hK2 : va_K D cl (tys ++ [(cA, .array ty)]) s := ⟨hK.1, fun k9 x hx => by
    by_cases hl : k9 < tys.length
    · rw [List.getElem?_append_left hl] at hx
      exact hK.2 k9 x hx
    · rw [List.getElem?_append_right (by omega)] at hx
      have h0 : k9 - tys.length < 1 := (List.getElem?_eq_some_iff.mp hx).1
      rw [show k9 - tys.length = 0 by omega] at hx
      cases hx
      exact ⟨hAr, fA⟩⟩
  obtain ⟨t, a1, b1⟩ := kk H.size (fun i => H.size + 1 + i) cA F.heap (fun i j _ _ h => by have h9 : H.size + 1 + i = H.size + 1 + j := h; omega) hnl hK2 (by rw [← vr_rows hnm]; exact vr_lay hP2) (by rw [← vr_rows hnm]; exact vr_layD hD2) ⟨by rw [f1]; have := hS.1; omega, fun x h1 h2 => (hold x (Nat.lt_of_lt_of_le h1 hS.1)).trans (hS.2.1 x h1 h2), hS.2.2⟩ F rfl X'
  refine ⟨t, step t ?_, b1⟩
  have e : T.heap.size = H.size := by rw [hT]
  rw [e]
  exact a1
end VGM
/-! ===== END ===== -/

/-! ===== BEGIN exceptions that leave a method, and their catching by the caller (launches without stack traces) ===== -/
section VXA
/-! The laws vx_back, vx_callV, vx_callS, vx_callSW, vx_throw0, vx_throwS follow proofs of the library, with one case more: JvmDerived/Free/Laws.lean (Back.of_free), Shelf42/LK1.lean (callV, callS), Shelf/KitTraced.lean (throwNew0V, throwNewS). -/

/-- where a method has thrown q: the class by its name, the cell, what was written, the world -/
def vx_T (XC : String → State → State → Prop) (st : State) (q : Addr) (t : State) (mc ms : Nat) (free : Addr → Prop) : Prop :=
  ∃ (E : String) (ce : Cell) (L : List Loc), XC E st t ∧ t.heap[q]? = some ce ∧ ce.vm = .none ∧ st.vm.findClass E = some ce.cls ∧ st.WarmedH t.vm ∧ st.sameButNew ({ t with vm := st.vm } : State) L mc ms ∧ ∀ z ∈ L, free z.base
def vx_Q (Qc : Array Value → State → Outcome → State → Prop) (XC : String → State → State → Prop) (mc ms : Nat) (free : Addr → Prop) : Array Value → State → Outcome → State → Prop := fun a st o t =>
  (Qc a st o t ∧ ∃ L, FrameEnd st o t L mc ms ∧ ∀ q ∈ L, free q.base) ∨ ∃ q, o = .threw q ∧ vx_T XC st q t mc ms free
/-- a callee that returns or throws -/
def vx_Met (l : Launch) (y : MethodName) (ws : List Cond) (rm : Room) (Pc : Array Value → State → Prop) (Qc : Array Value → State → Outcome → State → Prop) (XC : String → State → State → Prop) (mc ms : Nat) (free : Addr → Prop) : Prop :=
  MetFree l y (headSpec ws rm) Pc (fun _ _ _ _ _ => True) (vx_Q Qc XC mc ms free)
def vx_Post (XC : String → State → State → Prop) (mc ms : Nat) (free : Addr → Prop) : Pt → Array Value → Addr → Pt → Prop := fun A a q B =>
  ∃ (g : JFrame) (mk : MethodId) (t : State) (L : List Loc) (E : String) (ce : Cell), B.U.heap = t.heap ∧ B.U.vm = t.vm ∧ XC E (A.U.calling g mk a) t ∧ t.heap[q]? = some ce ∧ ce.vm = .none ∧ A.U.vm.findClass E = some ce.cls ∧ B.locs = A.locs ++ L ∧ (∀ z ∈ L, free z.base) ∧ B.cells = A.cells + mc ∧ B.slots = A.slots + ms
def vx_Back (l : Launch) (R : Room) (p : Program) (e : Env) (below : List Frame) (s : State) (sargs : Array Value) (y : MethodName) (len W9 : Nat)
    (Pre : Pt → Array Value → Prop) (Post : Pt → Array Value → Option Value → Pt → Prop) (PostX : Pt → Array Value → Addr → Pt → Prop) : Prop :=
  ∀ (m : MethodId) (meth : Method) (c : Code) (A : Pt) (g : JFrame) (ig : Instr) (mk : MethodId) (a : Array Value),
    Stand p l e R s m sargs below meth c A.U A.locs A.cells A.slots → g.method = m → g.locals.size = c.maxLocals → decode c.code g.pc = .ok (ig, len) →
    2 * g.monitorRoom + (g.stack.map fun v => v.category).sum ≤ W9 → A.U.methodNamed? y = some mk → Pre A a →
    (∃ (v : Option Value) (B : Pt), Stand p l e R s m sargs below meth c B.U B.locs B.cells B.slots ∧ Post A a v B ∧
      Steps p.tables e below (doInvoke e (A.U.setTop g) [] mk a).1 (B.U.setTop { g with pc := g.pc + len, stack := v.toList ++ g.stack })) ∨
    (∃ (q : Addr) (B : Pt), Stand p l e R s m sargs below meth c B.U B.locs B.cells B.slots ∧ PostX A a q B ∧
      Steps p.tables e below (doInvoke e (A.U.setTop g) [] mk a).1 ((B.U.setTop g).pushFrame (.throwing q)))
section Payer
variable {l : Launch} {R : Room} {p : Program} {e : Env} {below : List Frame} {s : State} {sargs : Array Value} {y : MethodName} {len W9 : Nat}
theorem vx_back {ws : List Cond} {rm : Room} {Pc : Array Value → State → Prop} {Qc : Array Value → State → Outcome → State → Prop} {XC : String → State → State → Prop} {mc ms : Nat} {free : Addr → Prop} {bytes : ByteArray} {maxL : Nat} {ret : Option FieldType}
    (hM : vx_Met l y ws rm Pc Qc XC mc ms free) (hblind : FrameBlind Pc) (hrc : rm.cells = mc) (hrs : rm.slots = ms)
    (hframes : rm.frames + 1 ≤ R.frames) (hlocals : W9 + (maxL + 11) + rm.locals ≤ R.locals)
    (hws : ∀ w ∈ ws, ∀ a' U, s.WarmedH U.vm → w.before a' U = true) (hcode : Cond.code y bytes maxL ret ∈ ws) (hinit : ∀ a' U, s.WarmedH U.vm → (Cond.initialized y.cls).before a' U = true) :
    vx_Back l R p e below s sargs y len W9 (PreOf R mc ms Pc) (PostOf Qc mc ms free) (vx_Post XC mc ms free) := by
  intro m meth c A g ig mk a X hg hsize hdg hW hn hp
  have h1 : (headSpec ws rm).pre.before a A.U = true := atoms_intro fun w hw => hws w hw _ _ X.warmed
  have h2 : (Cond.code y bytes maxL ret).before a A.U = true := hws _ hcode _ _ X.warmed
  have h3 : (Cond.initialized y.cls).before a A.U = true := hinit _ _ X.warmed
  have h4 : A.cells + (headSpec ws rm).room.cells ≤ R.cells := by rw [show (headSpec ws rm).room.cells = mc from hrc]; exact hp.1
  have h5 : A.slots + (headSpec ws rm).room.slots ≤ R.slots := by rw [show (headSpec ws rm).room.slots = ms from hrs]; exact hp.2.1
  have hPc : Pc a (A.U.calling g mk a) := hblind _ _ _ _ hp.2.2
  obtain ⟨U, Ls, c0, s0⟩ := A
  dsimp only [Pt.U, Pt.locs, Pt.cells, Pt.slots] at h1 h2 h3 h4 h5 X hn hPc ⊢
  obtain ⟨methY, cY, hmY, hcY, -, hlY, -, -, -, -⟩ := Cond.code_spec hn h2
  obtain ⟨kY, hkY, -⟩ := className_of_methodNamed hn
  have hinitY : kY.init = .initialized := Cond.initialized_spec (findClass_of_methodNamed hn) hkY h3
  have h : At U g.method c below := by rw [hg]; exact X.here
  have hlocals9 : W9 + (maxL + 11) + (headSpec ws rm).room.locals ≤ R.locals := hlocals
  have happ : (headSpec ws rm).appliesLoose y e.platform (U.calling g mk a) = true :=
    Spec.appliesLoose_calling (g := g) h hdg hn hkY hinitY
      (X.room_calling (g := g) (R' := (headSpec ws rm).room) hsize hmY hcY hframes (by rw [hlY]; omega) h4 h5) h1
  obtain ⟨mid, hmid⟩ := h.above
  have hfr : (U.setTop g).frames = (.java g :: mid) ++ below := by rw [State.frames_setTop' g h.top, hmid]; rfl
  obtain ⟨o, s₂, hsteps, -, hend, hq⟩ := Steps.callFree hM p X.admits X.cas X.clock (acts := []) hfr happ hPc trivial
  have hq' : vx_Q Qc XC mc ms free a (U.calling g mk a) o s₂ := hq
  rw [State.frames_setTop' g h.top] at hend
  obtain ⟨g₀, hg0⟩ := Option.isSome_iff_exists.mp h.top
  obtain ⟨r, hr⟩ := State.topJava?_eq_some.mp hg0
  have hr' : (({ U with heap := s₂.heap, slotsUsed := s₂.slotsUsed } : State).setVm s₂.vm).frames = .java g₀ :: r := hr
  rcases hq' with ⟨hqc, L, hfe, hL⟩ | ⟨q, rfl, E, ce, L, hx, hce, hcv, hcl, hW₂, hsm, hL⟩
  · obtain ⟨⟨v, rfl⟩, hW₂, e2, q2, q3, q4, q5, q6⟩ := id hfe
    have e3 : s₂ = ({ (U.calling g mk a).setFrames s₂.frames with heap := s₂.heap, slotsUsed := s₂.slotsUsed } : State).setVm s₂.vm := by
      have : s₂ = ({ s₂ with vm := (U.calling g mk a).vm } : State).setVm s₂.vm := rfl
      rw [e2] at this
      exact this
    obtain ⟨c₂, i₂, len₂, hc₂, hd₂, hf₂⟩ := hend
    have hW' : U.WarmedH s₂.vm := hW₂
    have hcc : c₂ = c := by
      have h1 : s₂.code? g.method = U.code? g.method := by
        rw [State.code?_eq, State.code?_eq, hW'.alike.method?]
      exact Option.some.inj (hc₂.symm.trans (h1.trans h.code))
    subst hcc
    have hlen : len₂ = len := by rw [hdg] at hd₂; cases hd₂; rfl
    subst hlen
    have hs₂ : s₂ = (({ U with heap := s₂.heap, slotsUsed := s₂.slotsUsed } : State).setVm s₂.vm).setTop { g with pc := g.pc + len₂, stack := v.toList ++ g.stack } := by
      refine e3.trans ?_
      rw [hf₂, State.calling_eq h.top, State.setFrames_setFrames, State.setTop_of_frames _ hr', hr]
      rfl
    have hsame : U.sameButNew ({ U with heap := s₂.heap, slotsUsed := s₂.slotsUsed } : State) L mc ms := by
      refine ⟨?_, q2, q3, q4, q5, q6⟩
      obtain ⟨t, ht, -⟩ := State.frames_cons hr
      show ({ U with heap := s₂.heap, slotsUsed := s₂.slotsUsed } : State) = { U.setFrames U.frames with heap := s₂.heap, slotsUsed := s₂.slotsUsed }
      rw [State.setFrames_self ht]
    subst hg
    refine Or.inl ⟨v, ⟨(({ U with heap := s₂.heap, slotsUsed := s₂.slotsUsed } : State).setVm s₂.vm), Ls ++ L, c0 + mc, s0 + ms⟩,
      ⟨X.admits, X.cas, X.clock, X.frames, X.room, X.hears, X.method, X.code, (X.here.setHeapUsed s₂.heap s₂.slotsUsed).setVm hW'.alike, X.tail, State.WarmedH.trans X.warmed hW', X.limits, X.bytes, X.same.trans (hsame.setVm s.vm)⟩,
      ⟨g, mk, s₂, L, rfl, rfl, hqc, rfl, hL, rfl, rfl⟩, ?_⟩
    show Steps p.tables e below _ ((({ U with heap := s₂.heap, slotsUsed := s₂.slotsUsed } : State).setVm s₂.vm).setTop { g with pc := g.pc + len₂, stack := v.toList ++ g.stack })
    rw [← hs₂]
    exact hsteps
  · obtain ⟨e2, q2, q3, q4, q5, q6⟩ := id hsm
    have e3 : s₂ = ({ (U.calling g mk a).setFrames s₂.frames with heap := s₂.heap, slotsUsed := s₂.slotsUsed } : State).setVm s₂.vm := by
      have : s₂ = ({ s₂ with vm := (U.calling g mk a).vm } : State).setVm s₂.vm := rfl
      rw [e2] at this
      exact this
    have hf₂ : s₂.frames = .throwing q :: .java g :: U.frames.tail := hend
    have hW' : U.WarmedH s₂.vm := hW₂
    have hs₂ : s₂ = ((({ U with heap := s₂.heap, slotsUsed := s₂.slotsUsed } : State).setVm s₂.vm).setTop g).pushFrame (.throwing q) := by
      refine e3.trans ?_
      rw [hf₂, State.calling_eq h.top, State.setFrames_setFrames, State.pushFrame, State.frames_setTop _ hr', State.setTop_of_frames _ hr', State.setFrames_setFrames, hr]
      rfl
    have hsame : U.sameButNew ({ U with heap := s₂.heap, slotsUsed := s₂.slotsUsed } : State) L mc ms := by
      refine ⟨?_, q2, q3, q4, q5, q6⟩
      obtain ⟨t, ht, -⟩ := State.frames_cons hr
      show ({ U with heap := s₂.heap, slotsUsed := s₂.slotsUsed } : State) = { U.setFrames U.frames with heap := s₂.heap, slotsUsed := s₂.slotsUsed }
      rw [State.setFrames_self ht]
    subst hg
    refine Or.inr ⟨q, ⟨(({ U with heap := s₂.heap, slotsUsed := s₂.slotsUsed } : State).setVm s₂.vm), Ls ++ L, c0 + mc, s0 + ms⟩,
      ⟨X.admits, X.cas, X.clock, X.frames, X.room, X.hears, X.method, X.code, (X.here.setHeapUsed s₂.heap s₂.slotsUsed).setVm hW'.alike, X.tail, State.WarmedH.trans X.warmed hW', X.limits, X.bytes, X.same.trans (hsame.setVm s.vm)⟩,
      ⟨g, mk, s₂, L, E, ce, rfl, rfl, hx, hce, hcv, hcl, rfl, hL, rfl, rfl⟩, ?_⟩
    show Steps p.tables e below _ (((({ U with heap := s₂.heap, slotsUsed := s₂.slotsUsed } : State).setVm s₂.vm).setTop g).pushFrame (.throwing q))
    rw [← hs₂]
    exact hsteps
end Payer
section Calls
variable {p : Program} {l : Launch} {e : Env} {R : Room} {s : State} {m : MethodId} {args : Array Value} {below : List Frame} {meth : Method} {c : Code} {T : State} {locs : List Loc} {cells slots : Nat}
theorem vx_callV (X : Stand p l e R s m args below meth c T locs cells slots) (hexec : p.tables.exec = Jvm.exec) {own C : String} {index : Nat} {y : MethodName} {bytes : ByteArray} {maxL : Nat} {ret : Option FieldType}
    (hown : s.vm.findClass own = some m.cls) (hlink : (Cond.methodLink own index y).before args s = true) (hinst : (Cond.instanceMethod y).before args s = true) (hsel : (Cond.selects C y y).before args s = true)
    (hcode : (Cond.code y bytes maxL ret).before args s = true) (hy : y.cls ≠ "java/lang/invoke/MethodHandle" ∧ y.cls ≠ "java/lang/invoke/VarHandle")
    {W9 : Nat} {Pre : Pt → Array Value → Prop} {Post : Pt → Array Value → Option Value → Pt → Prop} {PostX : Pt → Array Value → Addr → Pt → Prop} (hK : vx_Back l R p e below s args y 3 W9 Pre Post PostX)
    {b : Addr} {cellB : Cell} (hcell : T.heap[b]? = some cellB) (hobj : cellB.vm.isStatics = false) (hcls : s.vm.findClass C = some cellB.cls)
    {g : JFrame} (hg : g.method = m) (hsize : g.locals.size = c.maxLocals) {argsL rest : List Value} (hlen : ∀ sig, parseMethodDescriptor y.desc = some sig → argsL.length = sig.parameters.length)
    (hstack : g.stack = argsL.reverse ++ .ref b :: rest) (hW : 2 * g.monitorRoom + (rest.map fun v => v.category).sum ≤ W9) (hdg : decode c.code g.pc = .ok (.invokevirtual index, 3))
    (hpre : ∀ vm₁, s.WarmedH vm₁ → Pre ⟨T.setVm vm₁, locs, cells, slots⟩ (Value.ref b :: argsL).toArray) :
    (∃ (v : Option Value) (vm₁ : Vm) (B : Pt), s.WarmedH vm₁ ∧ Stand p l e R s m args below meth c B.U B.locs B.cells B.slots ∧ Post ⟨T.setVm vm₁, locs, cells, slots⟩ (Value.ref b :: argsL).toArray v B ∧
      ∀ target, Steps p.tables e below (B.U.setTop { g with pc := g.pc + 3, stack := v.toList ++ rest }) target → Steps p.tables e below (T.setTop g) target) ∨
    (∃ (q : Addr) (vm₁ : Vm) (B : Pt), s.WarmedH vm₁ ∧ Stand p l e R s m args below meth c B.U B.locs B.cells B.slots ∧ PostX ⟨T.setVm vm₁, locs, cells, slots⟩ (Value.ref b :: argsL).toArray q B ∧
      Steps p.tables e below (T.setTop g) ((B.U.setTop { g with stack := rest }).pushFrame (.throwing q))) := by
  obtain ⟨mk, methM, hnamed, hmethM, hstM, habM⟩ := Cond.instanceMethod_spec hinst
  obtain ⟨methM', cM, hmethM', -, -, -, -, -, -, hsigM⟩ := Cond.code_spec hnamed hcode
  cases hmethM.symm.trans hmethM'
  obtain ⟨c2, r2, m2, q1, q2, q3, q4, kP, hkP, hkPi⟩ := Cond.selects_spec hsel
  cases hcls.symm.trans q1
  cases (State.methodFound?_of_named hnamed hy).symm.trans q2
  cases hnamed.symm.trans q3
  have hselP : selectMethod e.platform s.vm cellB.cls mk = .method mk := by rw [Launch.admits_selectMethod X.admits]; exact q4
  obtain ⟨vm₁, X₁, hstep₁⟩ := X.invokevirtual hexec hown hlink hnamed hmethM hstM hkP hkPi hy (a := b) (cell := cellB) hcell
    (fun z h => by rw [h] at hobj; cases hobj) hselP hmethM habM hkP hkPi (g := g) hg (argsL := argsL) (rest := rest) (hlen _ hsigM) hstack hdg
  rcases hK m meth c ⟨T.setVm vm₁, locs, cells, slots⟩ { g with stack := rest } (.invokevirtual index) mk (Value.ref b :: argsL).toArray X₁ hg hsize hdg hW (X₁.named hnamed) (hpre vm₁ X₁.warmed) with ⟨v, B, X', hpost, hsteps⟩ | ⟨q, B, X', hpost, hsteps⟩
  · exact Or.inl ⟨v, vm₁, B, X₁.warmed, X', hpost, fun target h => hstep₁ _ fun acts => by rw [doInvoke_state]; exact hsteps.trans h⟩
  · exact Or.inr ⟨q, vm₁, B, X₁.warmed, X', hpost, hstep₁ _ fun acts => by rw [doInvoke_state]; exact hsteps⟩
theorem vx_callS (X : Stand p l e R s m args below meth c T locs cells slots) (hexec : p.tables.exec = Jvm.exec) {own : String} {index : Nat} {y : MethodName} {bytes : ByteArray} {maxL : Nat} {ret : Option FieldType}
    (hown : s.vm.findClass own = some m.cls) (hlink : (Cond.methodLink own index y).before args s = true) (hstat : (Cond.static y).before args s = true) (hinit : (Cond.initialized y.cls).before args s = true)
    (hcode : (Cond.code y bytes maxL ret).before args s = true) (hy : y.cls ≠ "java/lang/invoke/MethodHandle" ∧ y.cls ≠ "java/lang/invoke/VarHandle")
    {W9 : Nat} {Pre : Pt → Array Value → Prop} {Post : Pt → Array Value → Option Value → Pt → Prop} {PostX : Pt → Array Value → Addr → Pt → Prop} (hK : vx_Back l R p e below s args y 3 W9 Pre Post PostX)
    {g : JFrame} (hg : g.method = m) (hsize : g.locals.size = c.maxLocals) {argsL rest : List Value} (hlen : ∀ sig, parseMethodDescriptor y.desc = some sig → argsL.length = sig.parameters.length)
    (hstack : g.stack = argsL.reverse ++ rest) (hW : 2 * g.monitorRoom + (rest.map fun v => v.category).sum ≤ W9) (hdg : decode c.code g.pc = .ok (.invokestatic index, 3))
    (hpre : ∀ vm₁, s.WarmedH vm₁ → Pre ⟨T.setVm vm₁, locs, cells, slots⟩ argsL.toArray) :
    (∃ (v : Option Value) (vm₁ : Vm) (B : Pt), s.WarmedH vm₁ ∧ Stand p l e R s m args below meth c B.U B.locs B.cells B.slots ∧ Post ⟨T.setVm vm₁, locs, cells, slots⟩ argsL.toArray v B ∧
      ∀ target, Steps p.tables e below (B.U.setTop { g with pc := g.pc + 3, stack := v.toList ++ rest }) target → Steps p.tables e below (T.setTop g) target) ∨
    (∃ (q : Addr) (vm₁ : Vm) (B : Pt), s.WarmedH vm₁ ∧ Stand p l e R s m args below meth c B.U B.locs B.cells B.slots ∧ PostX ⟨T.setVm vm₁, locs, cells, slots⟩ argsL.toArray q B ∧
      Steps p.tables e below (T.setTop g) ((B.U.setTop { g with stack := rest }).pushFrame (.throwing q))) := by
  obtain ⟨mk, hnamed⟩ := Cond.code_named hcode
  obtain ⟨methM, cM, hmethM, -, -, -, -, -, -, hsigM⟩ := Cond.code_spec hnamed hcode
  have hstatic : methM.isStatic = true := Cond.static_spec hnamed hmethM hstat
  obtain ⟨kP, hkP, -⟩ := className_of_methodNamed hnamed
  have hinitP : kP.init = .initialized := Cond.initialized_spec (findClass_of_methodNamed hnamed) hkP hinit
  obtain ⟨vm₁, X₁, hstep₁⟩ := X.invokestatic hexec hown hlink hnamed hmethM hstatic hkP hinitP hy (g := g) hg (argsL := argsL) (rest := rest) (hlen _ hsigM) hstack hdg
  rcases hK m meth c ⟨T.setVm vm₁, locs, cells, slots⟩ { g with stack := rest } (.invokestatic index) mk argsL.toArray X₁ hg hsize hdg hW (X₁.named hnamed) (hpre vm₁ X₁.warmed) with ⟨v, B, X', hpost, hsteps⟩ | ⟨q, B, X', hpost, hsteps⟩
  · exact Or.inl ⟨v, vm₁, B, X₁.warmed, X', hpost, fun target h => hstep₁ _ fun acts => by rw [doInvoke_state]; exact hsteps.trans h⟩
  · exact Or.inr ⟨q, vm₁, B, X₁.warmed, X', hpost, hstep₁ _ fun acts => by rw [doInvoke_state]; exact hsteps⟩
end Calls
theorem vx_cls {s : State} {T : State} {vm₁ : Vm} {E : String} {k : ClassId} (hW : s.WarmedH vm₁) (h : (T.setVm vm₁).vm.findClass E = some k) : s.vm.findClass E = some k := by
  have h1 : vm₁.findClass E = some k := h
  rw [hW.alike.findClass] at h1
  exact h1
/-- the method's frame g, with q thrown over it -/
def vx_W (p : Program) (l : Launch) (e : Env) (R : Room) (s : State) (m : MethodId) (args : Array Value) (below : List Frame) (meth : Method) (c : Code) (H : Heap) (locs : List Loc) (cells slots : Nat) (Q : State → Prop) (g : JFrame) (q : Addr) : Prop :=
  ∀ T : State, T.heap = H → Stand p l e R s m args below meth c T locs cells slots → ∃ t, Steps p.tables e below ((T.setTop g).pushFrame (.throwing q)) t ∧ Q t
def vx_Run (p : Program) (l : Launch) (e : Env) (R : Room) (s : State) (m : MethodId) (args : Array Value) (below : List Frame) (meth : Method) (c : Code) (H : Heap) (locs : List Loc) (cells slots mc ms : Nat) (g : JFrame) (rest : List Value) (Qa : State → Outcome → State → Prop) (XC : String → State → State → Prop) (free : Addr → Prop) : Prop :=
  ∀ T : State, T.heap = H → Stand p l e R s m args below meth c T locs cells slots →
    (∃ (v : Option Value) (st₀ t T' : State) (L : List Loc), st₀.heap = H ∧ Stand p l e R s m args below meth c T' (locs ++ L) (cells + mc) (slots + ms) ∧ (∀ q ∈ L, free q.base) ∧ T'.heap = t.heap ∧ T'.vm = t.vm ∧ Qa st₀ (.returned v) t ∧
      Goes p e below T g T' { g with pc := g.pc + 3, stack := v.toList ++ rest }) ∨
    (∃ (q : Addr) (st₀ t T' : State) (L : List Loc) (E : String) (ce : Cell), st₀.heap = H ∧ Stand p l e R s m args below meth c T' (locs ++ L) (cells + mc) (slots + ms) ∧ (∀ z ∈ L, free z.base) ∧ T'.heap = t.heap ∧ T'.vm = t.vm ∧ XC E st₀ t ∧ t.heap[q]? = some ce ∧ ce.vm = .none ∧ s.vm.findClass E = some ce.cls ∧
      Steps p.tables e below (T.setTop g) ((T'.setTop { g with stack := rest }).pushFrame (.throwing q)))
def vx_X {S : Type} (px : S → Prop) (B : String → S → State → Prop) (A : Nat → Prop) : String → State → State → Prop := fun E st t => ∃ u : S, px u ∧ B E u t ∧ va_F A st t
section Runs
variable {p : Program} {l : Launch} {e : Env} {R : Room} {s : State} {m : MethodId} {args : Array Value} {below : List Frame} {meth : Method} {c : Code} {H : Heap} {locs : List Loc} {cells slots : Nat}
variable {y : MethodName} {bytes cc : ByteArray} {maxL nL mc ms n index : Nat} {ret : Option FieldType} {ws : List Cond} {rm : Room} {Pc : Array Value → State → Prop} {Qc : Array Value → State → Outcome → State → Prop} {XC : String → State → State → Prop} {free : Addr → Prop} {Ts : List Cond} {own C : String} {b : Addr} {As rest : List Value} {g : JFrame}
theorem vx_callBack (cb : CallB R s args own index y bytes maxL ret ws rm mc ms n) (hM : vx_Met l y ws rm Pc Qc XC mc ms free) (hbl : FrameBlind Pc) : vx_Back l R p e below s args y 3 8 (PreOf R mc ms Pc) (PostOf Qc mc ms free) (vx_Post XC mc ms free) := by
  obtain ⟨hrc, hrs, hfr, hlo, hws, hcw, -, hini, -⟩ := cb
  exact vx_back (bytes := bytes) (maxL := maxL) (ret := ret) hM hbl hrc hrs hfr hlo hws hcw (fun a' U hW => word_at hW (Or.inl (by first | rfl | simp [Cond.onTables, Cond.keeps, Cond.steady])) hini)
theorem vx_runV (S : CallFix p m c cc nL s args Ts own) (hM : vx_Met l y ws rm Pc Qc XC mc ms free) (cw : CallW R s args own C index y bytes maxL ret ws rm mc ms n) (hp : PreV s H C b Pc As)
    (hg : g.method = m) (hn : As.length = n) (hsize : g.locals.size = nL) (hstack : g.stack = As.reverse ++ .ref b :: rest) (hW : 2 * g.monitorRoom + (rest.map fun v => v.category).sum ≤ 8) (hdg : decode cc g.pc = .ok (.invokevirtual index, 3)) (hf : cells + mc ≤ R.cells ∧ slots + ms ≤ R.slots) :
    vx_Run p l e R s m args below meth c H locs cells slots mc ms g rest (Qc (Value.ref b :: As).toArray) XC free := by
  have hK : vx_Back l R p e below s args y 3 8 (PreOf R mc ms Pc) (PostOf Qc mc ms free) (vx_Post XC mc ms free) := vx_callBack cw.1 hM hp.1
  obtain ⟨⟨-, -, -, -, -, -, hcode, -, hy, hlen, hl⟩, hin, hse⟩ := cw
  obtain ⟨hx, hb, hml, ho, -⟩ := S
  obtain ⟨-, ⟨cellB, hcB, hoB, hclB⟩, hPc⟩ := hp
  intro T hT X
  rcases vx_callV X hx (C := C) (bytes := bytes) (maxL := maxL) (ret := ret) ho hl hin hse hcode hy hK (by rw [hT]; exact hcB) hoB hclB hg (hsize.trans hml.symm) (argsL := As) (rest := rest) (fun sig h => hn.trans (hlen sig h)) hstack hW (by rw [hb]; exact hdg)
    (fun vm₁ hW₁ => ⟨hf.1, hf.2, hPc (T.setVm vm₁) hT hW₁⟩) with ⟨v, vm₁, ⟨U', l2, c2, s2⟩, hW₁, X', ⟨g', mk, t, L, e1, e2, hq, h1, hL, h2, h3⟩, st⟩ | ⟨q, vm₁, ⟨U', l2, c2, s2⟩, hW₁, X', ⟨g', mk, t, L, E, ce, e1, e2, hq, hce, hcv, hcl, h1, hL, h2, h3⟩, st⟩
  · dsimp only [Pt.U, Pt.locs, Pt.cells, Pt.slots] at X' e1 e2 h1 h2 h3 st
    subst h1; subst h2; subst h3
    exact Or.inl ⟨v, (T.setVm vm₁).calling g' mk (Value.ref b :: As).toArray, t, U', L, hT, X', hL, e1, e2, hq, st⟩
  · dsimp only [Pt.U, Pt.locs, Pt.cells, Pt.slots] at X' e1 e2 h1 h2 h3 st hcl
    subst h1; subst h2; subst h3
    exact Or.inr ⟨q, (T.setVm vm₁).calling g' mk (Value.ref b :: As).toArray, t, U', L, E, ce, hT, X', hL, e1, e2, hq, hce, hcv, vx_cls hW₁ hcl, st⟩
theorem vx_runS (S : CallFix p m c cc nL s args Ts own) (hM : vx_Met l y ws rm Pc Qc XC mc ms free) (cw : CallB R s args own index y bytes maxL ret ws rm mc ms n ∧ (Cond.static y).before args s = true) (hp : PreS s H Pc As)
    (hg : g.method = m) (hn : As.length = n) (hsize : g.locals.size = nL) (hstack : g.stack = As.reverse ++ rest) (hW : 2 * g.monitorRoom + (rest.map fun v => v.category).sum ≤ 8) (hdg : decode cc g.pc = .ok (.invokestatic index, 3)) (hf : cells + mc ≤ R.cells ∧ slots + ms ≤ R.slots) :
    vx_Run p l e R s m args below meth c H locs cells slots mc ms g rest (Qc As.toArray) XC free := by
  have hK : vx_Back l R p e below s args y 3 8 (PreOf R mc ms Pc) (PostOf Qc mc ms free) (vx_Post XC mc ms free) := vx_callBack cw.1 hM hp.1
  obtain ⟨⟨-, -, -, -, -, -, hcode, hini, hy, hlen, hl⟩, hstt⟩ := cw
  obtain ⟨hx, hb, hml, ho, -⟩ := S
  intro T hT X
  rcases vx_callS X hx (bytes := bytes) (maxL := maxL) (ret := ret) ho hl hstt hini hcode hy hK hg (hsize.trans hml.symm) (argsL := As) (rest := rest) (fun sig h => hn.trans (hlen sig h)) hstack hW (by rw [hb]; exact hdg)
    (fun vm₁ hW₁ => ⟨hf.1, hf.2, hp.2 (T.setVm vm₁) hT hW₁⟩) with ⟨v, vm₁, ⟨U', l2, c2, s2⟩, hW₁, X', ⟨g', mk, t, L, e1, e2, hq, h1, hL, h2, h3⟩, st⟩ | ⟨q, vm₁, ⟨U', l2, c2, s2⟩, hW₁, X', ⟨g', mk, t, L, E, ce, e1, e2, hq, hce, hcv, hcl, h1, hL, h2, h3⟩, st⟩
  · dsimp only [Pt.U, Pt.locs, Pt.cells, Pt.slots] at X' e1 e2 h1 h2 h3 st
    subst h1; subst h2; subst h3
    exact Or.inl ⟨v, (T.setVm vm₁).calling g' mk As.toArray, t, U', L, hT, X', hL, e1, e2, hq, st⟩
  · dsimp only [Pt.U, Pt.locs, Pt.cells, Pt.slots] at X' e1 e2 h1 h2 h3 st hcl
    subst h1; subst h2; subst h3
    exact Or.inr ⟨q, (T.setVm vm₁).calling g' mk As.toArray, t, U', L, E, ce, hT, X', hL, e1, e2, hq, hce, hcv, vx_cls hW₁ hcl, st⟩
end Runs
section Rows
variable {p : Program} {l : Launch} {e : Env} {R : Room} {s : State} {m : MethodId} {args : Array Value} {below : List Frame} {meth : Method} {c : Code} {H : Heap} {locs : List Loc} {cells slots : Nat} {Q : State → Prop}
variable {mc ms : Nat} {free : Addr → Prop} {A0 A1 : Nat → Prop} {H0 : Heap} {a : Array Value} {pc : Nat} {ls : Array Slot} {st0 rest : List Value}
theorem vx_keep {st₀ t T' : State} {L : List Loc} (h0 : st₀.heap = H) (e1 : T'.heap = t.heap) (hS : va_S A0 H0 H locs) (hA : ∀ q, q < H.size → A1 q → A0 q) (hf : ∀ q, free q → A0 q) (hL : ∀ q ∈ L, free q.base) (hF : va_F A1 st₀ t) :
    H.size ≤ T'.heap.size ∧ (∀ q : Nat, q < H.size → ¬ A1 q → T'.heap[q]? = H[q]?) ∧ va_S A0 H0 T'.heap (locs ++ L) := by
  obtain ⟨hz, hk⟩ := hF
  rw [h0] at hz hk
  exact ⟨by rw [e1]; exact hz, fun q h1 h2 => by rw [e1]; exact hk q h1 h2,
    ⟨Nat.le_trans hS.1 (by rw [e1]; exact hz), fun q h1 h2 => by rw [e1, hk q (Nat.lt_of_lt_of_le h1 hS.1) (fun z => h2 (hA q (Nat.lt_of_lt_of_le h1 hS.1) z))]; exact hS.2.1 q h1 h2, fun q hq => by
      rcases List.mem_append.mp hq with h | h
      · exact hS.2.2 q h
      · exact hf _ (hL q h)⟩⟩
theorem vx_calli {S SX : Type} {post : Int32 → S → Prop} {px : SX → Prop} {B : S → State → Prop} {BX : String → SX → State → Prop} {AX : Nat → Prop} (hr : vx_Run p l e R s m args below meth c H locs cells slots mc ms (F0 m pc ls st0) rest (va_Qi post B A1 a) (vx_X px BX AX) free) (hS : va_S A0 H0 H locs) (hA : ∀ q, q < H.size → A1 q → A0 q) (hf : ∀ q, free q → A0 q) (hAX : ∀ q, q < H.size → AX q → A0 q)
    (kx : ∀ (E : String) (ce : Cell) (q9 : Addr) (u : SX) (t : State) (H1 : Heap) (locs1 : List Loc), t.heap = H1 → s.vm.Alike t.vm → px u → BX E u t → H.size ≤ H1.size → (∀ q : Nat, q < H.size → ¬ AX q → H1[q]? = H[q]?) → va_S A0 H0 H1 locs1 → H1[q9]? = some ce → ce.vm = .none → s.vm.findClass E = some ce.cls → vx_W p l e R s m args below meth c H1 locs1 (cells + mc) (slots + ms) Q (F0 m pc ls rest) q9)
    (kk : ∀ (r : Int32) (u : S) (t : State) (H1 : Heap) (locs1 : List Loc), t.heap = H1 → s.vm.Alike t.vm → post r u → B u t → H.size ≤ H1.size → (∀ q : Nat, q < H.size → ¬ A1 q → H1[q]? = H[q]?) → va_S A0 H0 H1 locs1 → W p l e R s m args below meth c H1 locs1 (cells + mc) (slots + ms) Q (F0 m (pc + 3) ls (.int r :: rest))) : W p l e R s m args below meth c H locs cells slots Q (F0 m pc ls st0) := by
  intro T hT X
  rcases hr T hT X with ⟨v, st₀, t, T', L, h0, X', hL, e1, e2, ⟨⟨r, u, hv, hp, hb⟩, hF⟩, st⟩ | ⟨q, st₀, t, T', L, E, ce, h0, X', hL, e1, e2, ⟨u, hp, hb, hF⟩, hce, hcv, hcl, st⟩
  · cases hv
    obtain ⟨k1, k2, k3⟩ := vx_keep h0 e1 hS hA hf hL hF
    obtain ⟨t2, a1, b1⟩ := kk r u t T'.heap (locs ++ L) e1.symm (by rw [← e2]; exact X'.warmed.alike) hp hb k1 k2 k3 T' rfl X'
    exact ⟨t2, st t2 a1, b1⟩
  · obtain ⟨k1, k2, k3⟩ := vx_keep h0 e1 hS hAX hf hL hF
    obtain ⟨t2, a1, b1⟩ := kx E ce q u t T'.heap (locs ++ L) e1.symm (by rw [← e2]; exact X'.warmed.alike) hp hb k1 k2 k3 (by rw [e1]; exact hce) hcv hcl T' rfl X'
    exact ⟨t2, st.trans a1, b1⟩
theorem vx_calll {S SX : Type} {post : Int64 → S → Prop} {px : SX → Prop} {B : S → State → Prop} {BX : String → SX → State → Prop} {AX : Nat → Prop} (hr : vx_Run p l e R s m args below meth c H locs cells slots mc ms (F0 m pc ls st0) rest (va_Ql post B A1 a) (vx_X px BX AX) free) (hS : va_S A0 H0 H locs) (hA : ∀ q, q < H.size → A1 q → A0 q) (hf : ∀ q, free q → A0 q) (hAX : ∀ q, q < H.size → AX q → A0 q)
    (kx : ∀ (E : String) (ce : Cell) (q9 : Addr) (u : SX) (t : State) (H1 : Heap) (locs1 : List Loc), t.heap = H1 → s.vm.Alike t.vm → px u → BX E u t → H.size ≤ H1.size → (∀ q : Nat, q < H.size → ¬ AX q → H1[q]? = H[q]?) → va_S A0 H0 H1 locs1 → H1[q9]? = some ce → ce.vm = .none → s.vm.findClass E = some ce.cls → vx_W p l e R s m args below meth c H1 locs1 (cells + mc) (slots + ms) Q (F0 m pc ls rest) q9)
    (kk : ∀ (r : Int64) (u : S) (t : State) (H1 : Heap) (locs1 : List Loc), t.heap = H1 → s.vm.Alike t.vm → post r u → B u t → H.size ≤ H1.size → (∀ q : Nat, q < H.size → ¬ A1 q → H1[q]? = H[q]?) → va_S A0 H0 H1 locs1 → W p l e R s m args below meth c H1 locs1 (cells + mc) (slots + ms) Q (F0 m (pc + 3) ls (.long r :: rest))) : W p l e R s m args below meth c H locs cells slots Q (F0 m pc ls st0) := by
  intro T hT X
  rcases hr T hT X with ⟨v, st₀, t, T', L, h0, X', hL, e1, e2, ⟨⟨r, u, hv, hp, hb⟩, hF⟩, st⟩ | ⟨q, st₀, t, T', L, E, ce, h0, X', hL, e1, e2, ⟨u, hp, hb, hF⟩, hce, hcv, hcl, st⟩
  · cases hv
    obtain ⟨k1, k2, k3⟩ := vx_keep h0 e1 hS hA hf hL hF
    obtain ⟨t2, a1, b1⟩ := kk r u t T'.heap (locs ++ L) e1.symm (by rw [← e2]; exact X'.warmed.alike) hp hb k1 k2 k3 T' rfl X'
    exact ⟨t2, st t2 a1, b1⟩
  · obtain ⟨k1, k2, k3⟩ := vx_keep h0 e1 hS hAX hf hL hF
    obtain ⟨t2, a1, b1⟩ := kx E ce q u t T'.heap (locs ++ L) e1.symm (by rw [← e2]; exact X'.warmed.alike) hp hb k1 k2 k3 (by rw [e1]; exact hce) hcv hcl T' rfl X'
    exact ⟨t2, st.trans a1, b1⟩
theorem vx_callf {S SX : Type} {post : UInt32 → S → Prop} {px : SX → Prop} {B : S → State → Prop} {BX : String → SX → State → Prop} {AX : Nat → Prop} (hr : vx_Run p l e R s m args below meth c H locs cells slots mc ms (F0 m pc ls st0) rest (va_Qf post B A1 a) (vx_X px BX AX) free) (hS : va_S A0 H0 H locs) (hA : ∀ q, q < H.size → A1 q → A0 q) (hf : ∀ q, free q → A0 q) (hAX : ∀ q, q < H.size → AX q → A0 q)
    (kx : ∀ (E : String) (ce : Cell) (q9 : Addr) (u : SX) (t : State) (H1 : Heap) (locs1 : List Loc), t.heap = H1 → s.vm.Alike t.vm → px u → BX E u t → H.size ≤ H1.size → (∀ q : Nat, q < H.size → ¬ AX q → H1[q]? = H[q]?) → va_S A0 H0 H1 locs1 → H1[q9]? = some ce → ce.vm = .none → s.vm.findClass E = some ce.cls → vx_W p l e R s m args below meth c H1 locs1 (cells + mc) (slots + ms) Q (F0 m pc ls rest) q9)
    (kk : ∀ (r : UInt32) (u : S) (t : State) (H1 : Heap) (locs1 : List Loc), t.heap = H1 → s.vm.Alike t.vm → post r u → B u t → H.size ≤ H1.size → (∀ q : Nat, q < H.size → ¬ A1 q → H1[q]? = H[q]?) → va_S A0 H0 H1 locs1 → W p l e R s m args below meth c H1 locs1 (cells + mc) (slots + ms) Q (F0 m (pc + 3) ls (.float r :: rest))) : W p l e R s m args below meth c H locs cells slots Q (F0 m pc ls st0) := by
  intro T hT X
  rcases hr T hT X with ⟨v, st₀, t, T', L, h0, X', hL, e1, e2, ⟨⟨r, u, hv, hp, hb⟩, hF⟩, st⟩ | ⟨q, st₀, t, T', L, E, ce, h0, X', hL, e1, e2, ⟨u, hp, hb, hF⟩, hce, hcv, hcl, st⟩
  · cases hv
    obtain ⟨k1, k2, k3⟩ := vx_keep h0 e1 hS hA hf hL hF
    obtain ⟨t2, a1, b1⟩ := kk r u t T'.heap (locs ++ L) e1.symm (by rw [← e2]; exact X'.warmed.alike) hp hb k1 k2 k3 T' rfl X'
    exact ⟨t2, st t2 a1, b1⟩
  · obtain ⟨k1, k2, k3⟩ := vx_keep h0 e1 hS hAX hf hL hF
    obtain ⟨t2, a1, b1⟩ := kx E ce q u t T'.heap (locs ++ L) e1.symm (by rw [← e2]; exact X'.warmed.alike) hp hb k1 k2 k3 (by rw [e1]; exact hce) hcv hcl T' rfl X'
    exact ⟨t2, st.trans a1, b1⟩
theorem vx_calld {S SX : Type} {post : UInt64 → S → Prop} {px : SX → Prop} {B : S → State → Prop} {BX : String → SX → State → Prop} {AX : Nat → Prop} (hr : vx_Run p l e R s m args below meth c H locs cells slots mc ms (F0 m pc ls st0) rest (va_Qd post B A1 a) (vx_X px BX AX) free) (hS : va_S A0 H0 H locs) (hA : ∀ q, q < H.size → A1 q → A0 q) (hf : ∀ q, free q → A0 q) (hAX : ∀ q, q < H.size → AX q → A0 q)
    (kx : ∀ (E : String) (ce : Cell) (q9 : Addr) (u : SX) (t : State) (H1 : Heap) (locs1 : List Loc), t.heap = H1 → s.vm.Alike t.vm → px u → BX E u t → H.size ≤ H1.size → (∀ q : Nat, q < H.size → ¬ AX q → H1[q]? = H[q]?) → va_S A0 H0 H1 locs1 → H1[q9]? = some ce → ce.vm = .none → s.vm.findClass E = some ce.cls → vx_W p l e R s m args below meth c H1 locs1 (cells + mc) (slots + ms) Q (F0 m pc ls rest) q9)
    (kk : ∀ (r : UInt64) (u : S) (t : State) (H1 : Heap) (locs1 : List Loc), t.heap = H1 → s.vm.Alike t.vm → post r u → B u t → H.size ≤ H1.size → (∀ q : Nat, q < H.size → ¬ A1 q → H1[q]? = H[q]?) → va_S A0 H0 H1 locs1 → W p l e R s m args below meth c H1 locs1 (cells + mc) (slots + ms) Q (F0 m (pc + 3) ls (.double r :: rest))) : W p l e R s m args below meth c H locs cells slots Q (F0 m pc ls st0) := by
  intro T hT X
  rcases hr T hT X with ⟨v, st₀, t, T', L, h0, X', hL, e1, e2, ⟨⟨r, u, hv, hp, hb⟩, hF⟩, st⟩ | ⟨q, st₀, t, T', L, E, ce, h0, X', hL, e1, e2, ⟨u, hp, hb, hF⟩, hce, hcv, hcl, st⟩
  · cases hv
    obtain ⟨k1, k2, k3⟩ := vx_keep h0 e1 hS hA hf hL hF
    obtain ⟨t2, a1, b1⟩ := kk r u t T'.heap (locs ++ L) e1.symm (by rw [← e2]; exact X'.warmed.alike) hp hb k1 k2 k3 T' rfl X'
    exact ⟨t2, st t2 a1, b1⟩
  · obtain ⟨k1, k2, k3⟩ := vx_keep h0 e1 hS hAX hf hL hF
    obtain ⟨t2, a1, b1⟩ := kx E ce q u t T'.heap (locs ++ L) e1.symm (by rw [← e2]; exact X'.warmed.alike) hp hb k1 k2 k3 (by rw [e1]; exact hce) hcv hcl T' rfl X'
    exact ⟨t2, st.trans a1, b1⟩
theorem vx_callv {S SX : Type} {post : S → Prop} {px : SX → Prop} {B : S → State → Prop} {BX : String → SX → State → Prop} {AX : Nat → Prop} (hr : vx_Run p l e R s m args below meth c H locs cells slots mc ms (F0 m pc ls st0) rest (va_Qv post B A1 a) (vx_X px BX AX) free) (hS : va_S A0 H0 H locs) (hA : ∀ q, q < H.size → A1 q → A0 q) (hf : ∀ q, free q → A0 q) (hAX : ∀ q, q < H.size → AX q → A0 q)
    (kx : ∀ (E : String) (ce : Cell) (q9 : Addr) (u : SX) (t : State) (H1 : Heap) (locs1 : List Loc), t.heap = H1 → s.vm.Alike t.vm → px u → BX E u t → H.size ≤ H1.size → (∀ q : Nat, q < H.size → ¬ AX q → H1[q]? = H[q]?) → va_S A0 H0 H1 locs1 → H1[q9]? = some ce → ce.vm = .none → s.vm.findClass E = some ce.cls → vx_W p l e R s m args below meth c H1 locs1 (cells + mc) (slots + ms) Q (F0 m pc ls rest) q9)
    (kk : ∀ (u : S) (t : State) (H1 : Heap) (locs1 : List Loc), t.heap = H1 → s.vm.Alike t.vm → post u → B u t → H.size ≤ H1.size → (∀ q : Nat, q < H.size → ¬ A1 q → H1[q]? = H[q]?) → va_S A0 H0 H1 locs1 → W p l e R s m args below meth c H1 locs1 (cells + mc) (slots + ms) Q (F0 m (pc + 3) ls (rest))) : W p l e R s m args below meth c H locs cells slots Q (F0 m pc ls st0) := by
  intro T hT X
  rcases hr T hT X with ⟨v, st₀, t, T', L, h0, X', hL, e1, e2, ⟨⟨u, hv, hp, hb⟩, hF⟩, st⟩ | ⟨q, st₀, t, T', L, E, ce, h0, X', hL, e1, e2, ⟨u, hp, hb, hF⟩, hce, hcv, hcl, st⟩
  · cases hv
    obtain ⟨k1, k2, k3⟩ := vx_keep h0 e1 hS hA hf hL hF
    obtain ⟨t2, a1, b1⟩ := kk u t T'.heap (locs ++ L) e1.symm (by rw [← e2]; exact X'.warmed.alike) hp hb k1 k2 k3 T' rfl X'
    exact ⟨t2, st t2 a1, b1⟩
  · obtain ⟨k1, k2, k3⟩ := vx_keep h0 e1 hS hAX hf hL hF
    obtain ⟨t2, a1, b1⟩ := kx E ce q u t T'.heap (locs ++ L) e1.symm (by rw [← e2]; exact X'.warmed.alike) hp hb k1 k2 k3 (by rw [e1]; exact hce) hcv hcl T' rfl X'
    exact ⟨t2, st.trans a1, b1⟩
/-- caught by the row x of this method's table; the rows ahead don't take it -/
theorem vx_catch {own name : String} {E : String} {ce : Cell} {q : Addr} (hown : s.vm.findClass own = some m.cls) (pre : List ExceptionTableEntry) (x : ExceptionTableEntry) (suf : List ExceptionTableEntry) (hsplit : c.exceptionTable.toList = pre ++ x :: suf)
    (hpass : ∀ z ∈ pre, covers z pc = false ∨ (z.catchType ≠ 0 ∧ ∃ nm : String, (Cond.classLink own z.catchType nm).before args s = true ∧ va_Nc E nm s)) (hx : covers x pc = true) (h0 : x.catchType ≠ 0)
    (hlink : (Cond.classLink own x.catchType name).before args s = true) (hcast : (Cond.castable E name).before args s = true) (hcell : H[q]? = some ce) (hv : ce.vm = .none) (hcl : s.vm.findClass E = some ce.cls)
    (kk : W p l e R s m args below meth c H locs cells slots Q (F0 m x.handlerPc ls [.ref q])) : vx_W p l e R s m args below meth c H locs cells slots Q (F0 m pc ls rest) q := by
  intro T hT X
  have hpl : e.platform.magicAccessors = ({} : Platform).magicAccessors := by rw [X.admits.platform]
  obtain ⟨c3, c4, hc3, hc4, hasg⟩ := Cond.castable_spec hcast
  cases Option.some.inj (hc3.symm.trans hcl)
  obtain ⟨c5, hc5, hcl5⟩ := Cond.classLink_spec hown hlink e.platform hpl
  cases Option.some.inj (hc4.symm.trans hc5)
  obtain ⟨vm', X', st⟩ := X.thenCaughtThrough q (g := F0 m pc ls rest) rfl (Steps.refl _) (by rw [hT]; exact hcell) (by rw [hv]; rfl) (by obtain ⟨k9, h9, -⟩ := Vm.findClass_spec hcl; exact ⟨k9, h9⟩) pre x suf hsplit
    (fun z hz => by
      rcases hpass z hz with h | ⟨hz0, nm, hl1, hn1⟩
      · exact Or.inl h
      · obtain ⟨c6, hc6, hcl6⟩ := Cond.classLink_spec hown hl1 e.platform hpl
        obtain ⟨a8, b8, h1, h2, h3⟩ := hn1
        cases Option.some.inj (h1.symm.trans hcl)
        cases Option.some.inj (h2.symm.trans hc6)
        exact Or.inr ⟨hz0, _, hcl6, h3⟩) hx (Or.inr ⟨h0, c4, hcl5, hasg⟩)
  obtain ⟨t, a1, b1⟩ := kk (T.setVm vm') hT X'
  exact ⟨t, st.trans a1, b1⟩
end Rows
section Ends
variable {p : Program} {l : Launch} {e : Env} {R : Room} {s : State} {m : MethodId} {args : Array Value} {below : List Frame} {meth : Method} {c : Code} {H : Heap} {locs : List Loc} {cells slots : Nat} {Q : State → Prop}
variable {mc ms : Nat} {free : Addr → Prop} {A0 A1 : Nat → Prop} {H0 : Heap} {a : Array Value} {ls : Array Slot} {st0 rest : List Value}
variable {Qc : Array Value → State → Outcome → State → Prop} {XC : String → State → State → Prop}
/-- what a body that may throw owes at its end -/
def vx_MQ (below : List Frame) (Qc : Array Value → State → Outcome → State → Prop) (XC : String → State → State → Prop) (a : Array Value) (s : State) (mc ms : Nat) (free : Addr → Prop) : State → Prop := fun t =>
  ∃ o, t.status = .running ∧ Ended t below o ∧ vx_Q Qc XC mc ms free a s o t
theorem vx_ret {g : JFrame} {mc ms : Nat} (k : W p l e R s m args below meth c H locs cells slots (MQ below Qc args s mc ms free) g) : W p l e R s m args below meth c H locs cells slots (vx_MQ below Qc XC args s mc ms free) g := by
  intro T hT X
  obtain ⟨t, a1, o, b1, b2, b3, b4⟩ := k T hT X
  exact ⟨t, a1, o, b1, b2, Or.inl ⟨b3, b4⟩⟩
/-- not caught here: it goes on to the caller -/
theorem vx_widen {g : JFrame} {q : Addr} {k n : Nat} (h1 : cells ≤ k) (h2 : slots ≤ n) (kk : vx_W p l e R s m args below meth c H locs k n Q g q) : vx_W p l e R s m args below meth c H locs cells slots Q g q := fun T hT X => kk T hT (stand_widen X h1 h2)
theorem vx_out {pc : Nat} {E : String} {ce : Cell} {q : Addr} {mc ms : Nat} (hout : ∀ x ∈ c.exceptionTable.toList, covers x pc = false) (hlocks : meth.locks = false) (hcell : H[q]? = some ce) (hv : ce.vm = .none) (hcl : s.vm.findClass E = some ce.cls)
    (hx : ∀ t : State, t.heap = H → s.vm.Alike t.vm → XC E s t) (hf : ∀ z ∈ locs, free z.base) (hc : cells ≤ mc) (hs : slots ≤ ms) :
    vx_W p l e R s m args below meth c H locs cells slots (vx_MQ below Qc XC args s mc ms free) (F0 m pc ls rest) q := by
  intro T hT X
  obtain ⟨st1, hrun, hend, hW, hsm⟩ := X.leaveThrown q (g := F0 m pc ls rest) rfl rfl rfl hout hlocks
  have hcell9 : (T.setFrames (.throwing q :: below)).heap[q]? = some ce := by
    show T.heap[q]? = some ce
    rw [hT]; exact hcell
  exact ⟨_, st1, .threw q, hrun, hend, Or.inr ⟨q, rfl, E, ce, locs, hx _ hT hW.alike, hcell9, hv, hcl, hW, hsm.mono hc hs, hf⟩⟩
theorem vx_frame {U : State} {k n : Nat} (h : s.sameButNew ({ U with vm := s.vm } : State) locs k n) : s.heap.size ≤ U.heap.size ∧ ∀ q : Nat, q < s.heap.size → (∀ z ∈ locs, z.base ≠ q) → U.heap[q]? = s.heap[q]? := by
  obtain ⟨-, h2, -, -, -, h6⟩ := h
  refine ⟨h2, fun q hq hz => ?_⟩
  obtain ⟨c9, e1, e2, e3, e4⟩ := h6 q _ (Array.getElem?_eq_getElem hq)
  have hs : c9.slots = (s.heap[q]).slots := Array.ext_getElem? fun i => e4 i fun hm => hz _ hm rfl
  have h9 : c9 = s.heap[q] := by
    rw [hs] at e2
    exact e2
  have e5 : U.heap[q]? = some c9 := e1
  rw [e5, h9, Array.getElem?_eq_getElem hq]
/-- the words of a throw but the four that speak of the heap -/
def vx_no (w : Cond) : Bool := decide (w ≠ .isRef (.static Bundle.tN "UNASSIGNED_STACK" Bundle.steD)) && decide (w ≠ .isRef (.static Bundle.tN "SUPPRESSED_SENTINEL" Bundle.listD)) && decide (w ≠ .laysStatic Bundle.tN "UNASSIGNED_STACK" Bundle.steD) && decide (w ≠ .laysStatic Bundle.tN "SUPPRESSED_SENTINEL" Bundle.listD)
def vx_at0 (own : String) (ic : Nat) (X : String) (names : List String) : List Cond := (Bundle.ownAtoms0 own ic X names).filter vx_no
def vx_atS (own : String) (ic : Nat) (X : String) (names : List String) : List Cond := (Bundle.ownAtoms own ic X names).filter vx_no
/-- a word that the tables alone decide, or a good one -/
def vx_ot (w : Cond) : Bool := w.onTables || goodWord w
theorem vx_ot_at {args a' : Array Value} {s U : State} {w : Cond} (hW : s.WarmedH U.vm) (hvm : s.vm = U.vm) (hg : vx_ot w = true) (h : w.before args s = true) : w.before a' U = true := by
  simp only [vx_ot, Bool.or_eq_true] at hg
  rcases hg with hg | hg
  · exact va_tabs hg hvm h
  · exact word_at hW (good_of_word hg) h
/-- a list's words: the good ones out of the method's own list, the others by premises of their own -/
theorem vx_hat {args : Array Value} {s : State} {L B : List Cond} (h1 : ∀ w ∈ L.filter goodWord, w.before args s = true) (h2 : ∀ w ∈ L.filter (fun w => !goodWord w), w ∈ B) (h3 : ∀ w ∈ B, w.before args s = true) : ∀ w ∈ L, w.before args s = true := by
  intro w hw
  by_cases g : goodWord w = true
  · exact h1 w (List.mem_filter.mpr ⟨hw, g⟩)
  · refine h3 w (h2 w (List.mem_filter.mpr ⟨hw, ?_⟩))
    show (!goodWord w) = true
    cases hgw : goodWord w
    · rfl
    · exact absurd hgw g
theorem vx_c {args : Array Value} {s : State} {w : Cond} {B : List Cond} (h : w.before args s = true) (t : ∀ w ∈ B, w.before args s = true) : ∀ w' ∈ w :: B, w'.before args s = true := fun w' h' => (List.mem_cons.mp h').elim (fun e => by rw [e]; exact h) (t w')
theorem vx_n {args : Array Value} {s : State} : ∀ w ∈ ([] : List Cond), w.before args s = true := fun _ h => nomatch h
theorem vx_own {args : Array Value} {s : State} {L : List Cond} (h1 : ∀ w ∈ L.filter vx_no, w.before args s = true)
    (hU : (Cond.isRef (.static Bundle.tN "UNASSIGNED_STACK" Bundle.steD)).before args s = true) (hN : (Cond.isRef (.static Bundle.tN "SUPPRESSED_SENTINEL" Bundle.listD)).before args s = true)
    (lU : (Cond.laysStatic Bundle.tN "UNASSIGNED_STACK" Bundle.steD).before args s = true) (lN : (Cond.laysStatic Bundle.tN "SUPPRESSED_SENTINEL" Bundle.listD).before args s = true) : ∀ w ∈ L, w.before args s = true := by
  intro w hw
  by_cases e1 : w = .isRef (.static Bundle.tN "UNASSIGNED_STACK" Bundle.steD)
  · rw [e1]; exact hU
  · by_cases e2 : w = .isRef (.static Bundle.tN "SUPPRESSED_SENTINEL" Bundle.listD)
    · rw [e2]; exact hN
    · by_cases e3 : w = .laysStatic Bundle.tN "UNASSIGNED_STACK" Bundle.steD
      · rw [e3]; exact lU
      · by_cases e4 : w = .laysStatic Bundle.tN "SUPPRESSED_SENTINEL" Bundle.listD
        · rw [e4]; exact lN
        · exact h1 w (List.mem_filter.mpr ⟨hw, by unfold vx_no; rw [decide_eq_true e1, decide_eq_true e2, decide_eq_true e3, decide_eq_true e4]; rfl⟩)
/-- where a static field lies, its class's statics cell in H -/
def vx_L (C n d : String) (A : Nat → Prop) (U : State) (H : Heap) : Prop := ∃ (c : ClassId) (k : Class) (i : Nat) (f : Field) (a : Nat) (cell : Cell), U.vm.findClass C = some c ∧ U.fieldFound? C n d = some (c, k, i, f) ∧ f.isStatic = true ∧ k.statics = some a ∧ H[a]? = some cell ∧ cell.vm.isStatics = true ∧ cell.cls = c ∧ f.slot < cell.slots.size ∧ k.staticTypes[f.slot]? = some f.type ∧ ¬ A a
theorem vx_L.moved {C n d : String} {A : Nat → Prop} {u U : State} {H : Heap} (hvm : u.vm.Alike U.vm) (h : vx_L C n d A u H) : vx_L C n d A U H := by
  obtain ⟨c, k, i, f, a, cell, h1, h2, h3, h4, h5, h6, h7, h8, h9, h10⟩ := h
  obtain ⟨k', hi', he⟩ := State.fieldFound?_setVm hvm h2
  exact ⟨c, k', i, f, a, cell, by rw [hvm.findClass]; exact h1, hi', h3, by rw [he]; exact h4, h5, h6, h7, h8, by rw [he]; exact h9, h10⟩
theorem vx_L.kept {C n d : String} {A : Nat → Prop} {U : State} {H H1 : Heap} (h : vx_L C n d A U H) (hq : ∀ a : Nat, a < H.size → ¬ A a → H1[a]? = H[a]?) : vx_L C n d A U H1 := by
  obtain ⟨c, k, i, f, a, cell, h1, h2, h3, h4, h5, h6, h7, h8, h9, h10⟩ := h
  exact ⟨c, k, i, f, a, cell, h1, h2, h3, h4, by rw [hq a (Array.getElem?_eq_some_iff.mp h5).1 h10]; exact h5, h6, h7, h8, h9, h10⟩
theorem vx_L.narrow {C n d : String} {A B : Nat → Prop} {U : State} {H : Heap} (h : vx_L C n d A U H) (hAB : ∀ q, B q → A q) : vx_L C n d B U H := by
  obtain ⟨c, k, i, f, a, cell, h1, h2, h3, h4, h5, h6, h7, h8, h9, h10⟩ := h
  exact ⟨c, k, i, f, a, cell, h1, h2, h3, h4, h5, h6, h7, h8, h9, fun z => h10 (hAB _ z)⟩
theorem vx_L.word {C n d : String} {A : Nat → Prop} {s : State} {args : Array Value} (h : vx_L C n d A s s.heap) : (Cond.laysStatic C n d).before args s = true := by
  obtain ⟨c, k, i, f, a, cell, h1, h2, h3, h4, h5, h6, h7, h8, h9, -⟩ := h
  show (Cond.laysStatic C n d).holds args s none s [] = true
  exact Cond.laysStatic_of h1 h2 h3 h4 h5 h6 h7 h8 h9
/-- .. and what it holds: null or some reference -/
def vx_Zq (C n d : String) (A : Nat → Prop) (U : State) (H : Heap) : Prop := va_Zq C n d A U H ∧ vx_L C n d A U H
theorem vx_Zq.moved {C n d : String} {A : Nat → Prop} {u U : State} {H : Heap} (hvm : u.vm.Alike U.vm) (h : vx_Zq C n d A u H) : vx_Zq C n d A U H := ⟨va_Zq.moved hvm h.1, vx_L.moved hvm h.2⟩
theorem vx_Zq.kept {C n d : String} {A : Nat → Prop} {U : State} {H H1 : Heap} (h : vx_Zq C n d A U H) (hq : ∀ a : Nat, a < H.size → ¬ A a → H1[a]? = H[a]?) : vx_Zq C n d A U H1 := ⟨va_Zq.kept h.1 hq, vx_L.kept h.2 hq⟩
theorem vx_Zq.narrow {C n d : String} {A B : Nat → Prop} {U : State} {H : Heap} (h : vx_Zq C n d A U H) (hAB : ∀ q, B q → A q) : vx_Zq C n d B U H := ⟨va_Zq.narrow h.1 hAB, vx_L.narrow h.2 hAB⟩
theorem vx_Zqof {args : Array Value} {s : State} {C n d : String} {A : Nat → Prop} (hl : (Cond.laysStatic C n d).before args s = true) (hini : (Cond.initialized C).before args s = true) (h : (Cond.isRef (.static C n d)).before args s = true) (hA : ∀ a : Nat, a < s.heap.size → ¬ A a) : vx_Zq C n d A s s.heap := by
  refine ⟨va_Zqof hl hini h hA, ?_⟩
  obtain ⟨c, k, i, f, a, cell, h1, h2, h3, h4, h5, h6, h7, h8, h9⟩ := Cond.laysStatic_spec hl
  exact ⟨c, k, i, f, a, cell, h1, h2, h3, h4, h5, h6, h7, h8, h9, hA a (Array.getElem?_eq_some_iff.mp h5).1⟩
theorem vx_isRef {C n d : String} {v : Value} {A : Nat → Prop} {s : State} {args : Array Value} (h : va_Z C n d v A s s.heap) (hv : v.isRef = true) : (Cond.isRef (.static C n d)).before args s = true := by
  obtain ⟨cf, kf, fi, f, a, cell, h1, h2, h3, h4, h5, h6, h7, -⟩ := h
  have he : (Term.static C n d).eval args s none [] s = some v := by
    simp [Term.eval, State.fieldNamed?, h1, h2, h4, h5, h6, h7]
  simp only [Cond.before, Cond.holds, Cond.value, he]
  cases v <;> simp_all [Value.isRef]
theorem vx_isRefq {C n d : String} {A : Nat → Prop} {s : State} {args : Array Value} (h : va_Zq C n d A s s.heap) : (Cond.isRef (.static C n d)).before args s = true := by
  rcases h with h | ⟨t, h⟩
  · exact vx_isRef h rfl
  · exact vx_isRef h rfl
/-- the same frame, seen from here: as if the method were called anew in this heap -/
theorem vx_rebase {T : State} (X : Stand p l e R s m args below meth c T locs cells slots) {R' : Room} (hf : R'.frames ≤ R.frames) (hl : R'.locals ≤ R.locals) (hc : cells + R'.cells ≤ R.cells) (hs : slots + R'.slots ≤ R.slots) :
    Stand p l e R' ((T.setVm s.vm).setFrames (.invoking m args :: below)) m args below meth c T [] 0 0 := by
  have htop : (T.setVm s.vm).topJava?.isSome := X.here.top
  have hF : ((T.setVm s.vm).setFrames (.invoking m args :: below)).frames = .invoking m args :: below := State.frames_setFrames _ (State.cur_lt_of_top htop)
  obtain ⟨g₀, hg0⟩ := Option.isSome_iff_exists.mp htop
  obtain ⟨r, hr⟩ := State.topJava?_eq_some.mp hg0
  have hl9 : e.platform.stackLimits (T.setVm s.vm).me = e.platform.stackLimits s.me := X.limits
  have hb9 : (T.setVm s.vm).me.stackBytes = s.me.stackBytes := X.bytes
  refine ⟨X.admits, X.cas, X.clock, hF, ?_, X.hears, X.method, X.code, X.here, X.tail, X.warmed, ?_, ?_, ?_⟩
  · have h := X.room
    have hU : ((T.setVm s.vm).setFrames (.invoking m args :: below)).localsInUse = s.localsInUse := by
      rw [State.localsInUse_invoking hF (meth := meth) (c := c) X.method X.code, State.localsInUse_invoking X.frames X.method X.code]
    simp only [State.hasRoom, Bool.and_eq_true, decide_eq_true_eq] at h ⊢
    obtain ⟨⟨⟨⟨h1, h2, h3, h4, h5, h6⟩, h7⟩, h8⟩, h9⟩ := h
    rw [X.frames, List.length_cons] at h2 h3
    have q1 := X.heapSize
    have q2 := X.used
    simp only [hF, hU, List.length_cons, State.stackLimits_setFrames, State.stackBytes_setFrames, hl9, hb9]
    refine ⟨⟨⟨⟨by omega, by omega, by omega, by omega, by omega, h6⟩, ?_⟩, ?_⟩, X.book⟩
    · show T.heap.size + R'.cells ≤ e.platform.maxCells
      omega
    · show T.slotsUsed + R'.slots ≤ e.platform.maxSlots
      omega
  · rw [State.stackLimits_setFrames]; rfl
  · rw [State.stackBytes_setFrames]; rfl
  · refine ⟨?_, Nat.le_refl _, Nat.le_refl _, ?_, ?_, fun a c9 h9 => ⟨c9, h9, rfl, rfl, fun _ _ => rfl⟩⟩
    · obtain ⟨t, ht, -⟩ := State.frames_cons hr
      show T.setVm s.vm = { ((T.setVm s.vm).setFrames (.invoking m args :: below)).setFrames (T.setVm s.vm).frames with heap := T.heap, slotsUsed := T.slotsUsed }
      rw [State.setFrames_setFrames, State.setFrames_self ht]
      rfl
    · show T.slotsUsed = T.slotsUsed + ((T.heap.toList.drop T.heap.size).map (·.slots.size)).sum
      rw [List.drop_eq_nil_of_le (Nat.le_of_eq Array.length_toList)]
      rfl
    · show ((T.heap.toList.drop T.heap.size).map (·.slots.size)).sum ≤ 0
      rw [List.drop_eq_nil_of_le (Nat.le_of_eq Array.length_toList)]
      exact Nat.le_refl _
/-- 'throw new E()': new; dup; invokespecial; athrow -/
theorem vx_throw0 {cc : ByteArray} {pc : Nat} (hexec : p.tables.exec = Jvm.exec) (hb : c.code = cc) (hl : l.stackTraces = false) {own cls : String} {names : List String} {ik ic mc ms : Nat} {A : Nat → Prop}
    (hown : s.vm.findClass own = some m.cls) (hcls : Bundle.fit cls = true) (hnames : ∀ n ∈ names, Bundle.fit n = true)
    (hk : (Cond.classLink own ik cls).before args s = true) (hini : (Cond.initialized cls).before args s = true) (hat : ∀ w ∈ vx_at0 own ic cls names, w.before args s = true)
    (hgood : ∀ w ∈ Cond.classLink own ik cls :: Cond.initialized cls :: vx_at0 own ic cls names, vx_ot w = true)
    (hU : vx_Zq Bundle.tN "UNASSIGNED_STACK" Bundle.steD A s s.heap) (hN : vx_Zq Bundle.tN "SUPPRESSED_SENTINEL" Bundle.listD A s s.heap) (hS : va_S A s.heap H locs) (hsize : ls.size = c.maxLocals)
    (d0 : decode cc pc = .ok (.new ik, 3)) (d3 : decode cc (pc + 3) = .ok (.dup, 1)) (d4 : decode cc (pc + 4) = .ok (.invokespecial ic, 3)) (d7 : decode cc (pc + 7) = .ok (.athrow, 1))
    (hout : ∀ x ∈ c.exceptionTable.toList, covers x (pc + 7) = false)
    (hRframes : names.length + 3 < R.frames) (hRlocals : (rest.map fun v => v.category).sum + (13 * (names.length + 1) + 42) ≤ R.locals) (hRcells : cells + 1 ≤ R.cells) (hRslots : slots + 6 ≤ R.slots) (hlocks : meth.locks = false)
    (hx : ∀ t : State, s.vm.Alike t.vm → H.size ≤ t.heap.size → (∀ q : Nat, q < H.size → t.heap[q]? = H[q]?) → XC cls s t)
    (hf : ∀ z ∈ locs, free z.base) (hc : cells + 1 ≤ mc) (hs : slots + 6 ≤ ms) :
    W p l e R s m args below meth c H locs cells slots (vx_MQ below Qc XC args s mc ms free) (F0 m pc ls rest) := by
  intro T hT X
  have htr : e.platform.stackTraces = false := (show e.platform.stackTraces = l.stackTraces by rw [X.admits.platform]).trans hl
  have Y := vx_rebase X (R' := { frames := R.frames, locals := R.locals, cells := 1, slots := 6 }) (Nat.le_refl _) (Nat.le_refl _) hRcells hRslots
  obtain ⟨s', hA⟩ : ∃ z, z = (T.setVm s.vm).setFrames (.invoking m args :: below) := ⟨_, rfl⟩
  rw [← hA] at Y
  have hvm : s'.vm = s.vm := by rw [hA]; rfl
  have hhp : s'.heap = H := by rw [hA]; exact hT
  have hW0 : s.WarmedH s'.vm := by rw [hvm]; exact State.WarmedH.refl s
  have hat' : ∀ w ∈ vx_at0 own ic cls names, w.before args s' = true := fun w hw => vx_ot_at hW0 hvm.symm (hgood w (List.mem_cons_of_mem _ (List.mem_cons_of_mem _ hw))) (hat w hw)
  have hk' : (Cond.classLink own ik cls).before args s' = true := vx_ot_at hW0 hvm.symm (hgood _ List.mem_cons_self) hk
  have hini' : (Cond.initialized cls).before args s' = true := vx_ot_at hW0 hvm.symm (hgood _ (List.mem_cons_of_mem _ List.mem_cons_self)) hini
  have hU' : vx_Zq Bundle.tN "UNASSIGNED_STACK" Bundle.steD A s' s'.heap := by rw [hhp]; exact vx_Zq.moved hW0.alike (hU.kept hS.2.1)
  have hN' : vx_Zq Bundle.tN "SUPPRESSED_SENTINEL" Bundle.listD A s' s'.heap := by rw [hhp]; exact vx_Zq.moved hW0.alike (hN.kept hS.2.1)
  have h : ∀ w ∈ Bundle.ownAtoms0 own ic cls names, w.before args s' = true := vx_own hat' (vx_isRefq hU'.1) (vx_isRefq hN'.1) hU'.2.word hN'.2.word
  have hown' : s'.vm.findClass own = some m.cls := by rw [hvm]; exact hown
  have hins : (Cond.instantiable cls 6).before args s' = true := h _ (by simp [Bundle.ownAtoms0])
  obtain ⟨vm₁, cX, kX, hfX, hkX, -, -, X₁, st1⟩ := Y.newCold hexec (own := own) (C := cls) (index := ik) (n := 6) hown' hk' hins hini'
    (g := F0 m pc ls rest) rfl (by rw [hb]; exact d0) (Nat.le_refl _) (Nat.le_refl _)
  generalize hT1 : (T.setVm vm₁).pushCell { cls := cX, slots := kX.instanceTypes.map defaultValue, vm := .none } = T1 at X₁ st1
  have hcat : (Value.ref T.heap.size).category = 1 := rfl
  have hcellA : T1.heap[T.heap.size]? = some (freshCell cX kX) := by rw [← hT1]; exact State.heap_pushCell_size _ _
  have d3' : decode c.code (pc + 3) = .ok (.dup, 1) := by rw [hb]; exact d3
  obtain ⟨U, hsteps, hrun, hend, hW, hsame, ce, hce, hO⟩ := X₁.ctorThrow0 hexec htr (own := own) (cls := cls) (names := names) (ic := ic) hown' hcls hnames h (fun x hx => nomatch hx) hfX hkX hcellA (by rw [hhp, hT]; exact Nat.le_refl _)
    (g := { method := m, pc := pc + 4, locals := ls, stack := .ref T.heap.size :: .ref T.heap.size :: rest, locked := none }) rfl hsize rfl rfl (rest := rest) rfl
    (by rw [hb]; exact d4) (by rw [hb]; exact d7) hout hRframes (by simp only [List.map_cons, List.sum_cons, hcat]; omega) hlocks
  obtain ⟨f1, f2⟩ := vx_frame hsame
  rw [hhp] at f1 f2
  have hWs : s.WarmedH U.vm := State.WarmedH.trans hW0 hW
  have hcl : s.vm.findClass cls = some ce.cls := by
    have h9 := hO.cls
    rw [hvm] at h9
    exact h9
  have hall : s.sameButNew ({ U with vm := s.vm } : State) locs mc ms := by
    subst hA
    obtain ⟨e1, e2⟩ := hsame
    rw [State.setFrames_setFrames] at e1
    have h2 : (T.setVm s.vm).sameButNew ({ U with vm := s.vm } : State) [] (0 + 1) (0 + 6) := ⟨e1, e2⟩
    have h3 := X.same.trans h2
    rw [List.append_nil] at h3
    exact h3.mono hc hs
  refine ⟨U, ?_, .threw T.heap.size, hrun, hend, Or.inr ⟨T.heap.size, rfl, cls, ce, locs, hx U hWs.alike f1 (fun q hq => f2 q hq (fun z hz => nomatch hz)), hce, hO.vm, hcl, hWs, hall, hf⟩⟩
  refine st1 _ ?_
  show Steps p.tables e below (T1.setTop { method := m, pc := pc + 3, locals := ls, stack := .ref T.heap.size :: rest, locked := none }) _
  jvm_step X₁.here [X₁.here.top, hexec, d3', Value.category]
  exact hsteps
/-- 'throw new E("text")': new; dup; ldc; invokespecial; athrow -/
theorem vx_throwS {cc : ByteArray} {pc : Nat} (hexec : p.tables.exec = Jvm.exec) (hb : c.code = cc) (hl : l.stackTraces = false) {own cls text : String} {names : List String} {ik is ic mc ms sa : Nat} {A : Nat → Prop}
    (hown : s.vm.findClass own = some m.cls) (hcls : Bundle.fit cls = true) (hnames : ∀ n ∈ names, Bundle.fit n = true)
    (hk : (Cond.classLink own ik cls).before args s = true) (hini : (Cond.initialized cls).before args s = true) (hstr : vk_R own is text sa s) (hat : ∀ w ∈ vx_atS own ic cls names, w.before args s = true)
    (hgood : ∀ w ∈ Cond.classLink own ik cls :: Cond.initialized cls :: vx_atS own ic cls names, vx_ot w = true)
    (hU : vx_Zq Bundle.tN "UNASSIGNED_STACK" Bundle.steD A s s.heap) (hN : vx_Zq Bundle.tN "SUPPRESSED_SENTINEL" Bundle.listD A s s.heap) (hS : va_S A s.heap H locs) (hsize : ls.size = c.maxLocals)
    (d0 : decode cc pc = .ok (.new ik, 3)) (d3 : decode cc (pc + 3) = .ok (.dup, 1)) (d4 : decode cc (pc + 4) = .ok (.ldc is, 2)) (d6 : decode cc (pc + 6) = .ok (.invokespecial ic, 3)) (d9 : decode cc (pc + 9) = .ok (.athrow, 1))
    (hout : ∀ x ∈ c.exceptionTable.toList, covers x (pc + 9) = false)
    (hRframes : names.length + 3 < R.frames) (hRlocals : (rest.map fun v => v.category).sum + (13 * (names.length + 1) + 43) ≤ R.locals) (hRcells : cells + 1 ≤ R.cells) (hRslots : slots + 6 ≤ R.slots) (hlocks : meth.locks = false)
    (hx : ∀ t : State, s.vm.Alike t.vm → H.size ≤ t.heap.size → (∀ q : Nat, q < H.size → t.heap[q]? = H[q]?) → XC cls s t)
    (hf : ∀ z ∈ locs, free z.base) (hc : cells + 1 ≤ mc) (hs : slots + 6 ≤ ms) :
    W p l e R s m args below meth c H locs cells slots (vx_MQ below Qc XC args s mc ms free) (F0 m pc ls rest) := by
  intro T hT X
  have htr : e.platform.stackTraces = false := (show e.platform.stackTraces = l.stackTraces by rw [X.admits.platform]).trans hl
  have Y := vx_rebase X (R' := { frames := R.frames, locals := R.locals, cells := 1, slots := 6 }) (Nat.le_refl _) (Nat.le_refl _) hRcells hRslots
  obtain ⟨s', hA⟩ : ∃ z, z = (T.setVm s.vm).setFrames (.invoking m args :: below) := ⟨_, rfl⟩
  rw [← hA] at Y
  have hvm : s'.vm = s.vm := by rw [hA]; rfl
  have hhp : s'.heap = H := by rw [hA]; exact hT
  have hW0 : s.WarmedH s'.vm := by rw [hvm]; exact State.WarmedH.refl s
  have hat' : ∀ w ∈ vx_atS own ic cls names, w.before args s' = true := fun w hw => vx_ot_at hW0 hvm.symm (hgood w (List.mem_cons_of_mem _ (List.mem_cons_of_mem _ hw))) (hat w hw)
  have hk' : (Cond.classLink own ik cls).before args s' = true := vx_ot_at hW0 hvm.symm (hgood _ List.mem_cons_self) hk
  have hini' : (Cond.initialized cls).before args s' = true := vx_ot_at hW0 hvm.symm (hgood _ (List.mem_cons_of_mem _ List.mem_cons_self)) hini
  have hU' : vx_Zq Bundle.tN "UNASSIGNED_STACK" Bundle.steD A s' s'.heap := by rw [hhp]; exact vx_Zq.moved hW0.alike (hU.kept hS.2.1)
  have hN' : vx_Zq Bundle.tN "SUPPRESSED_SENTINEL" Bundle.listD A s' s'.heap := by rw [hhp]; exact vx_Zq.moved hW0.alike (hN.kept hS.2.1)
  have h : ∀ w ∈ Bundle.ownAtoms own ic cls names, w.before args s' = true := vx_own hat' (vx_isRefq hU'.1) (vx_isRefq hN'.1) hU'.2.word hN'.2.word
  have hown' : s'.vm.findClass own = some m.cls := by rw [hvm]; exact hown
  have hins : (Cond.instantiable cls 6).before args s' = true := h _ (by simp [Bundle.ownAtoms])
  obtain ⟨vm₁, cX, kX, hfX, hkX, -, -, X₁, st1⟩ := Y.newCold hexec (own := own) (C := cls) (index := ik) (n := 6) hown' hk' hins hini'
    (g := F0 m pc ls rest) rfl (by rw [hb]; exact d0) (Nat.le_refl _) (Nat.le_refl _)
  generalize hT1 : (T.setVm vm₁).pushCell { cls := cX, slots := kX.instanceTypes.map defaultValue, vm := .none } = T1 at X₁ st1
  have hcat : (Value.ref T.heap.size).category = 1 := rfl
  have hcellA : T1.heap[T.heap.size]? = some (freshCell cX kX) := by rw [← hT1]; exact State.heap_pushCell_size _ _
  have d3' : decode c.code (pc + 3) = .ok (.dup, 1) := by rw [hb]; exact d3
  have d4' : decode c.code (pc + 4) = .ok (.ldc is, 2) := by rw [hb]; exact d4
  have hstr' : vk_R own is text sa s' := vk_R.warm hW0 hstr
  obtain ⟨U, hsteps, hrun, hend, hW, hsame, ce, hce, hO⟩ := X₁.ctorThrowS hexec htr (own := own) (cls := cls) (names := names) (ic := ic) hown' hcls hnames h (fun x hx => nomatch hx) hfX hkX hcellA (by rw [hhp, hT]; exact Nat.le_refl _) (msg := .ref sa) rfl
    (g := { method := m, pc := pc + 6, locals := ls, stack := .ref sa :: .ref T.heap.size :: .ref T.heap.size :: rest, locked := none }) rfl hsize rfl rfl (rest := rest) rfl
    (by rw [hb]; exact d6) (by rw [hb]; exact d9) hout hRframes (by simp only [List.map_cons, List.sum_cons, hcat]; omega) hlocks
  obtain ⟨f1, f2⟩ := vx_frame hsame
  rw [hhp] at f1 f2
  have hWs : s.WarmedH U.vm := State.WarmedH.trans hW0 hW
  have hcl : s.vm.findClass cls = some ce.cls := by
    have h9 := hO.cls
    rw [hvm] at h9
    exact h9
  have hall : s.sameButNew ({ U with vm := s.vm } : State) locs mc ms := by
    subst hA
    obtain ⟨e1, e2⟩ := hsame
    rw [State.setFrames_setFrames] at e1
    have h2 : (T.setVm s.vm).sameButNew ({ U with vm := s.vm } : State) [] (0 + 1) (0 + 6) := ⟨e1, e2⟩
    have h3 := X.same.trans h2
    rw [List.append_nil] at h3
    exact h3.mono hc hs
  refine ⟨U, ?_, .threw T.heap.size, hrun, hend, Or.inr ⟨T.heap.size, rfl, cls, ce, locs, hx U hWs.alike f1 (fun q hq => f2 q hq (fun z hz => nomatch hz)), hce, hO.vm, hcl, hWs, hall, hf⟩⟩
  refine st1 _ ?_
  show Steps p.tables e below (T1.setTop { method := m, pc := pc + 3, locals := ls, stack := .ref T.heap.size :: rest, locked := none }) _
  jvm_step X₁.here [X₁.here.top, hexec, d3', Value.category]
  exact X₁.ldcString hexec (own := own) (text := text) (index := is) (a := sa) hown' hstr'.1 hstr'.2
    (g := { method := m, pc := pc + 4, locals := ls, stack := .ref T.heap.size :: .ref T.heap.size :: rest, locked := none }) rfl d4' _ hsteps
/-- 'throw new E("text")', the text by a wide index -/
theorem vx_throwSW {cc : ByteArray} {pc : Nat} (hexec : p.tables.exec = Jvm.exec) (hb : c.code = cc) (hl : l.stackTraces = false) {own cls text : String} {names : List String} {ik is ic mc ms sa : Nat} {A : Nat → Prop}
    (hown : s.vm.findClass own = some m.cls) (hcls : Bundle.fit cls = true) (hnames : ∀ n ∈ names, Bundle.fit n = true)
    (hk : (Cond.classLink own ik cls).before args s = true) (hini : (Cond.initialized cls).before args s = true) (hstr : vk_R own is text sa s) (hat : ∀ w ∈ vx_atS own ic cls names, w.before args s = true)
    (hgood : ∀ w ∈ Cond.classLink own ik cls :: Cond.initialized cls :: vx_atS own ic cls names, vx_ot w = true)
    (hU : vx_Zq Bundle.tN "UNASSIGNED_STACK" Bundle.steD A s s.heap) (hN : vx_Zq Bundle.tN "SUPPRESSED_SENTINEL" Bundle.listD A s s.heap) (hS : va_S A s.heap H locs) (hsize : ls.size = c.maxLocals)
    (d0 : decode cc pc = .ok (.new ik, 3)) (d3 : decode cc (pc + 3) = .ok (.dup, 1)) (d4 : decode cc (pc + 4) = .ok (.ldc_w is, 3)) (d7 : decode cc (pc + 7) = .ok (.invokespecial ic, 3)) (d10 : decode cc (pc + 10) = .ok (.athrow, 1))
    (hout : ∀ x ∈ c.exceptionTable.toList, covers x (pc + 10) = false)
    (hRframes : names.length + 3 < R.frames) (hRlocals : (rest.map fun v => v.category).sum + (13 * (names.length + 1) + 43) ≤ R.locals) (hRcells : cells + 1 ≤ R.cells) (hRslots : slots + 6 ≤ R.slots) (hlocks : meth.locks = false)
    (hx : ∀ t : State, s.vm.Alike t.vm → H.size ≤ t.heap.size → (∀ q : Nat, q < H.size → t.heap[q]? = H[q]?) → XC cls s t)
    (hf : ∀ z ∈ locs, free z.base) (hc : cells + 1 ≤ mc) (hs : slots + 6 ≤ ms) :
    W p l e R s m args below meth c H locs cells slots (vx_MQ below Qc XC args s mc ms free) (F0 m pc ls rest) := by
  intro T hT X
  have htr : e.platform.stackTraces = false := (show e.platform.stackTraces = l.stackTraces by rw [X.admits.platform]).trans hl
  have Y := vx_rebase X (R' := { frames := R.frames, locals := R.locals, cells := 1, slots := 6 }) (Nat.le_refl _) (Nat.le_refl _) hRcells hRslots
  obtain ⟨s', hA⟩ : ∃ z, z = (T.setVm s.vm).setFrames (.invoking m args :: below) := ⟨_, rfl⟩
  rw [← hA] at Y
  have hvm : s'.vm = s.vm := by rw [hA]; rfl
  have hhp : s'.heap = H := by rw [hA]; exact hT
  have hW0 : s.WarmedH s'.vm := by rw [hvm]; exact State.WarmedH.refl s
  have hat' : ∀ w ∈ vx_atS own ic cls names, w.before args s' = true := fun w hw => vx_ot_at hW0 hvm.symm (hgood w (List.mem_cons_of_mem _ (List.mem_cons_of_mem _ hw))) (hat w hw)
  have hk' : (Cond.classLink own ik cls).before args s' = true := vx_ot_at hW0 hvm.symm (hgood _ List.mem_cons_self) hk
  have hini' : (Cond.initialized cls).before args s' = true := vx_ot_at hW0 hvm.symm (hgood _ (List.mem_cons_of_mem _ List.mem_cons_self)) hini
  have hU' : vx_Zq Bundle.tN "UNASSIGNED_STACK" Bundle.steD A s' s'.heap := by rw [hhp]; exact vx_Zq.moved hW0.alike (hU.kept hS.2.1)
  have hN' : vx_Zq Bundle.tN "SUPPRESSED_SENTINEL" Bundle.listD A s' s'.heap := by rw [hhp]; exact vx_Zq.moved hW0.alike (hN.kept hS.2.1)
  have h : ∀ w ∈ Bundle.ownAtoms own ic cls names, w.before args s' = true := vx_own hat' (vx_isRefq hU'.1) (vx_isRefq hN'.1) hU'.2.word hN'.2.word
  have hown' : s'.vm.findClass own = some m.cls := by rw [hvm]; exact hown
  have hins : (Cond.instantiable cls 6).before args s' = true := h _ (by simp [Bundle.ownAtoms])
  obtain ⟨vm₁, cX, kX, hfX, hkX, -, -, X₁, st1⟩ := Y.newCold hexec (own := own) (C := cls) (index := ik) (n := 6) hown' hk' hins hini'
    (g := F0 m pc ls rest) rfl (by rw [hb]; exact d0) (Nat.le_refl _) (Nat.le_refl _)
  generalize hT1 : (T.setVm vm₁).pushCell { cls := cX, slots := kX.instanceTypes.map defaultValue, vm := .none } = T1 at X₁ st1
  have hcat : (Value.ref T.heap.size).category = 1 := rfl
  have hcellA : T1.heap[T.heap.size]? = some (freshCell cX kX) := by rw [← hT1]; exact State.heap_pushCell_size _ _
  have d3' : decode c.code (pc + 3) = .ok (.dup, 1) := by rw [hb]; exact d3
  have d4' : decode c.code (pc + 4) = .ok (.ldc_w is, 3) := by rw [hb]; exact d4
  have hstr' : vk_R own is text sa s' := vk_R.warm hW0 hstr
  obtain ⟨U, hsteps, hrun, hend, hW, hsame, ce, hce, hO⟩ := X₁.ctorThrowS hexec htr (own := own) (cls := cls) (names := names) (ic := ic) hown' hcls hnames h (fun x hx => nomatch hx) hfX hkX hcellA (by rw [hhp, hT]; exact Nat.le_refl _) (msg := .ref sa) rfl
    (g := { method := m, pc := pc + 7, locals := ls, stack := .ref sa :: .ref T.heap.size :: .ref T.heap.size :: rest, locked := none }) rfl hsize rfl rfl (rest := rest) rfl
    (by rw [hb]; exact d7) (by rw [hb]; exact d10) hout hRframes (by simp only [List.map_cons, List.sum_cons, hcat]; omega) hlocks
  obtain ⟨f1, f2⟩ := vx_frame hsame
  rw [hhp] at f1 f2
  have hWs : s.WarmedH U.vm := State.WarmedH.trans hW0 hW
  have hcl : s.vm.findClass cls = some ce.cls := by
    have h9 := hO.cls
    rw [hvm] at h9
    exact h9
  have hall : s.sameButNew ({ U with vm := s.vm } : State) locs mc ms := by
    subst hA
    obtain ⟨e1, e2⟩ := hsame
    rw [State.setFrames_setFrames] at e1
    have h2 : (T.setVm s.vm).sameButNew ({ U with vm := s.vm } : State) [] (0 + 1) (0 + 6) := ⟨e1, e2⟩
    have h3 := X.same.trans h2
    rw [List.append_nil] at h3
    exact h3.mono hc hs
  refine ⟨U, ?_, .threw T.heap.size, hrun, hend, Or.inr ⟨T.heap.size, rfl, cls, ce, locs, hx U hWs.alike f1 (fun q hq => f2 q hq (fun z hz => nomatch hz)), hce, hO.vm, hcl, hWs, hall, hf⟩⟩
  refine st1 _ ?_
  show Steps p.tables e below (T1.setTop { method := m, pc := pc + 3, locals := ls, stack := .ref T.heap.size :: rest, locked := none }) _
  jvm_step X₁.here [X₁.here.top, hexec, d3', Value.category]
  exact X₁.ldcStringW hexec (own := own) (text := text) (index := is) (a := sa) hown' hstr'.1 hstr'.2
    (g := { method := m, pc := pc + 4, locals := ls, stack := .ref T.heap.size :: .ref T.heap.size :: rest, locked := none }) rfl d4' _ hsteps
end Ends
section Bodies
variable {l : Launch}
theorem vx_ofW {y : MethodName} {ws ws' : List Cond} {rm : Room} {Pc : Array Value → State → Prop} {Qc : Array Value → State → Outcome → State → Prop} {XC : String → State → State → Prop} {mc ms : Nat} {free : Addr → Prop} {cc : ByteArray} {maxL : Nat} {ret : Option FieldType}
    (hy : plainName y.cls = true) (hw : ws = Cond.code y cc maxL ret :: ws')
    (body : ∀ p e s m args below meth c s₁, BodyLoose p l y (headSpec ws rm) cc maxL ret e s m args below meth c s₁ → c.maxLocals = maxL → (∀ x ∈ c.exceptionTable.toList, False) → Pc args s →
      W p l e (headSpec ws rm).room s m args below meth c s.heap [] 0 0 (vx_MQ below Qc XC args s mc ms free) (entryFrame m args maxL)) : vx_Met l y ws rm Pc Qc XC mc ms free := by
  refine MetFree.of_bodyS (code := cc) (maxLocals := maxL) (ret := ret) hy ?_ ?_
  · intro args s m h hn
    obtain ⟨meth, c, h1, h2, h3, h4, h5, h6, -, -⟩ := Cond.code_spec hn (atoms_spec (ws := ws) h _ (by rw [hw]; exact List.mem_cons_self))
    exact ⟨meth, c, h1, h2, h3, h4, h5, h6⟩
  · intro p e s m args below meth c s₁ B hml hP _
    have hh0 : s₁.heap = s.heap := by rw [B.state]; rfl
    have ht : ∀ x ∈ c.exceptionTable.toList, False := by
      obtain ⟨meth9, c9, h1, h2, -, -, -, -, h7, -⟩ := Cond.code_spec B.named (atoms_spec (ws := ws) B.pre _ (by rw [hw]; exact List.mem_cons_self))
      cases Option.some.inj (h1.symm.trans B.method)
      cases Option.some.inj (h2.symm.trans (Stand.of_body B).code)
      intro x hx
      rw [Array.isEmpty_iff.mp h7] at hx
      cases hx
    obtain ⟨t, a1, o, b1, b2, b3⟩ := body p e s m args below meth c s₁ B hml ht hP s₁ hh0 (Stand.of_body B)
    exact ⟨t, o, a1, b1, b2, b3⟩
/-- the table of a body with handlers -/
theorem vx_table {p : Program} {x y : MethodName} {S : Spec} {cc bytes : ByteArray} {maxL maxL' : Nat} {ret ret' : Option FieldType} {e : Env} {s s₁ : State} {m : MethodId} {args : Array Value} {below : List Frame} {meth : Method} {c : Code} {hh : List (Nat × Nat × Nat × Nat)}
    (B : BodyLoose p l y S cc maxL ret e s m args below meth c s₁) (h : (Cond.codeWith y bytes maxL' ret' hh).before args s = true) : c.exceptionTable.toList = tableOf hh := by
  obtain ⟨m9, meth9, c9, hn9, h1, h2, -, -, h6, -⟩ := Cond.codeWith_spec h
  cases Option.some.inj (hn9.symm.trans B.named)
  cases Option.some.inj (h1.symm.trans B.method)
  cases Option.some.inj (h2.symm.trans (Stand.of_body B).code)
  rw [← h6, table_eq]
end Bodies
end VXA
/-! ===== END ===== -/
/-! ===== BEGIN a static call of a method with an exception table ===== -/
section VXS
variable {p : Program} {l : Launch} {e : Env} {R : Room} {s : State} {m : MethodId} {args : Array Value} {below : List Frame} {meth : Method} {c : Code} {T : State} {H : Heap} {locs : List Loc} {cells slots : Nat}
abbrev vx_CSW (R : Room) (s : State) (args : Array Value) (own : String) (index : Nat) (y : MethodName) (bytes : ByteArray) (maxL : Nat) (ret : Option FieldType) (hh : List (Nat × Nat × Nat × Nat)) (ws : List Cond) (rm : Room) (mc ms n : Nat) : Prop :=
  (rm.cells = mc ∧ rm.slots = ms ∧ rm.frames + 1 ≤ R.frames ∧ 8 + (maxL + 11) + rm.locals ≤ R.locals ∧ (∀ w ∈ ws, ∀ (a' : Array Value) (U : State), s.WarmedH U.vm → w.before a' U = true) ∧ Cond.codeWith y bytes maxL ret hh ∈ ws) ∧
  (Cond.codeWith y bytes maxL ret hh).before args s = true ∧ (Cond.initialized y.cls).before args s = true ∧ (y.cls ≠ "java/lang/invoke/MethodHandle" ∧ y.cls ≠ "java/lang/invoke/VarHandle") ∧
  (∀ sig, parseMethodDescriptor y.desc = some sig → n = sig.parameters.length) ∧ (Cond.methodLink own index y).before args s = true ∧ (Cond.static y).before args s = true
theorem vx_cwSW {own : String} {index maxL mc ms : Nat} {y : MethodName} {bytes : ByteArray} {ret : Option FieldType} {hh : List (Nat × Nat × Nat × Nat)} {Ts ws ws' : List Cond} {rm : Room} (n : Nat) (ht : ∀ w ∈ Ts, w.before args s = true) (hT : GoodIn Ts (va_wsS own index y ws)) (hw : ws = Cond.codeWith y bytes maxL ret hh :: ws') (hrc : rm.cells = mc) (hrs : rm.slots = ms)
    (hd : y.cls ≠ "java/lang/invoke/MethodHandle" ∧ y.cls ≠ "java/lang/invoke/VarHandle" ∧ (parseMethodDescriptor y.desc).map (fun d => d.parameters.length) = some n) (hR : rm.frames + 1 ≤ R.frames ∧ 8 + (maxL + 11) + rm.locals ≤ R.locals) :
    vx_CSW R s args own index y bytes maxL ret hh ws rm mc ms n := by
  have ok : ∀ w ∈ va_wsS own index y ws, w.before args s = true := fun w h => ht w (hT w h).1
  have hG : GoodIn Ts ws := fun w h => hT w (by unfold va_wsS; exact List.mem_append_right _ h)
  have hc : Cond.codeWith y bytes maxL ret hh ∈ ws := by rw [hw]; exact List.mem_cons_self
  refine ⟨⟨hrc, hrs, hR.1, hR.2, pay_in ht hG, hc⟩, ht _ (hG _ hc).1, ok _ (by simp [va_wsS]), ⟨hd.1, hd.2.1⟩, fun sig h => ?_, ok _ (by simp [va_wsS]), ok _ (by simp [va_wsS])⟩
  have h2 := hd.2.2
  rw [h] at h2
  exact (Option.some.inj h2).symm
theorem vx_callSW (X : Stand p l e R s m args below meth c T locs cells slots) (hexec : p.tables.exec = Jvm.exec) {own : String} {index : Nat} {y : MethodName} {bytes : ByteArray} {maxL : Nat} {ret : Option FieldType} {hh : List (Nat × Nat × Nat × Nat)}
    (hown : s.vm.findClass own = some m.cls) (hlink : (Cond.methodLink own index y).before args s = true) (hstat : (Cond.static y).before args s = true) (hinit : (Cond.initialized y.cls).before args s = true)
    (hcode : (Cond.codeWith y bytes maxL ret hh).before args s = true) (hy : y.cls ≠ "java/lang/invoke/MethodHandle" ∧ y.cls ≠ "java/lang/invoke/VarHandle")
    {W9 : Nat} {Pre : Pt → Array Value → Prop} {Post : Pt → Array Value → Option Value → Pt → Prop} (hK : Back l R p e below s args y 3 W9 Pre Post)
    {g : JFrame} (hg : g.method = m) (hsize : g.locals.size = c.maxLocals) {argsL rest : List Value} (hlen : ∀ sig, parseMethodDescriptor y.desc = some sig → argsL.length = sig.parameters.length)
    (hstack : g.stack = argsL.reverse ++ rest) (hW : 2 * g.monitorRoom + (rest.map fun v => v.category).sum ≤ W9) (hdg : decode c.code g.pc = .ok (.invokestatic index, 3))
    (hpre : ∀ vm₁, s.WarmedH vm₁ → Pre ⟨T.setVm vm₁, locs, cells, slots⟩ argsL.toArray) :
    ∃ (v : Option Value) (vm₁ : Vm) (B : Pt), s.WarmedH vm₁ ∧ Stand p l e R s m args below meth c B.U B.locs B.cells B.slots ∧ Post ⟨T.setVm vm₁, locs, cells, slots⟩ argsL.toArray v B ∧
      ∀ target, Steps p.tables e below (B.U.setTop { g with pc := g.pc + 3, stack := v.toList ++ rest }) target → Steps p.tables e below (T.setTop g) target := by
  obtain ⟨mk, methM, cM, hnamed, hmethM, -, -, -, -, -, -, hsigM⟩ := Cond.codeWith_spec hcode
  have hstatic : methM.isStatic = true := Cond.static_spec hnamed hmethM hstat
  obtain ⟨kP, hkP, -⟩ := className_of_methodNamed hnamed
  have hinitP : kP.init = .initialized := Cond.initialized_spec (findClass_of_methodNamed hnamed) hkP hinit
  obtain ⟨vm₁, X₁, hstep₁⟩ := X.invokestatic hexec hown hlink hnamed hmethM hstatic hkP hinitP hy (g := g) hg (argsL := argsL) (rest := rest) (hlen _ hsigM) hstack hdg
  obtain ⟨v, B, X', hpost, hsteps⟩ := hK m meth c ⟨T.setVm vm₁, locs, cells, slots⟩ { g with stack := rest } (.invokestatic index) mk argsL.toArray X₁ hg hsize hdg hW (X₁.named hnamed) (hpre vm₁ X₁.warmed)
  exact ⟨v, vm₁, B, X₁.warmed, X', hpost, fun target h => hstep₁ _ fun acts => by rw [doInvoke_state]; exact hsteps.trans h⟩
theorem vx_runSW {y : MethodName} {bytes cc : ByteArray} {maxL nL mc ms n index : Nat} {ret : Option FieldType} {hh : List (Nat × Nat × Nat × Nat)} {ws : List Cond} {rm : Room} {Pc : Array Value → State → Prop} {Qc : Array Value → State → Outcome → State → Prop} {free : Addr → Prop} {Ts : List Cond} {own : String} {As rest : List Value} {g : JFrame}
    (S : CallFix p m c cc nL s args Ts own) (hM : Met l y ws rm Pc Qc mc ms free) (cw : vx_CSW R s args own index y bytes maxL ret hh ws rm mc ms n) (hp : PreS s H Pc As)
    (hg : g.method = m) (hn : As.length = n) (hsize : g.locals.size = nL) (hstack : g.stack = As.reverse ++ rest) (hW : 2 * g.monitorRoom + (rest.map fun v => v.category).sum ≤ 8) (hdg : decode cc g.pc = .ok (.invokestatic index, 3)) (hf : cells + mc ≤ R.cells ∧ slots + ms ≤ R.slots) :
    va_Run p l e R s m args below meth c H locs cells slots mc ms g rest (Qc As.toArray) (free) := by
  obtain ⟨⟨hrc, hrs, hfr, hlo, hws, hcw⟩, hcode, hini, hy, hlen, hl, hstt⟩ := cw
  have hK : Back l R p e below s args y 3 8 (PreOf R mc ms Pc) (PostOf Qc mc ms free) := va_backW (hh := hh) (bytes := bytes) (maxL := maxL) (ret := ret) hM hp.1 hrc hrs hfr hlo hws hcw (fun a' U hW => word_at hW (Or.inl (by first | rfl | simp [Cond.onTables, Cond.keeps, Cond.steady])) hini)
  obtain ⟨hx, hb, hml, ho, -⟩ := S
  intro T hT X
  obtain ⟨v, vm₁, ⟨U', l2, c2, s2⟩, hW₁, X', ⟨g', mk, t, L, e1, e2, hq, h1, hL, h2, h3⟩, st⟩ := vx_callSW X hx (hh := hh) (bytes := bytes) (maxL := maxL) (ret := ret) ho hl hstt hini hcode hy hK hg (hsize.trans hml.symm) (argsL := As) (rest := rest) (fun sig h => hn.trans (hlen sig h)) hstack hW (by rw [hb]; exact hdg)
    (fun vm₁ hW₁ => ⟨hf.1, hf.2, hp.2 (T.setVm vm₁) hT hW₁⟩)
  dsimp only [Pt.U, Pt.locs, Pt.cells, Pt.slots] at X' e1 e2 h1 h2 h3 st
  subst h1; subst h2; subst h3
  exact ⟨v, (T.setVm vm₁).calling g' mk As.toArray, t, U', L, hT, X', hL, e1, e2, hq, st⟩
/-- not caught here, past rows that name other classes: it goes on to the caller -/
theorem vx_outP {p : Program} {l : Launch} {e : Env} {R : Room} {s : State} {m : MethodId} {args : Array Value} {below : List Frame} {meth : Method} {c : Code} {H : Heap} {locs : List Loc} {cells slots : Nat} {free : Addr → Prop} {ls : Array Slot} {rest : List Value} {Qc : Array Value → State → Outcome → State → Prop} {XC : String → State → State → Prop}
    {pc : Nat} {own E : String} {ce : Cell} {q : Addr} {mc ms : Nat} (hown : s.vm.findClass own = some m.cls) (hlocks : meth.locks = false)
    (hpass : ∀ z ∈ c.exceptionTable.toList, covers z pc = false ∨ (z.catchType ≠ 0 ∧ ∃ nm : String, (Cond.classLink own z.catchType nm).before args s = true ∧ va_Nc E nm s)) (hcell : H[q]? = some ce) (hv : ce.vm = .none) (hcl : s.vm.findClass E = some ce.cls)
    (hx : ∀ t : State, t.heap = H → s.vm.Alike t.vm → XC E s t) (hf : ∀ z ∈ locs, free z.base) (hc : cells ≤ mc) (hs : slots ≤ ms) :
    vx_W p l e R s m args below meth c H locs cells slots (vx_MQ below Qc XC args s mc ms free) (F0 m pc ls rest) q := by
  intro T hT X
  have hpl : e.platform.magicAccessors = ({} : Platform).magicAccessors := by rw [X.admits.platform]
  obtain ⟨vm', hW', X', st⟩ := X.outThrough hlocks q (g := F0 m pc ls rest) rfl rfl rfl (cell := ce) (by rw [hT]; exact hcell) (by rw [hv]; rfl)
    (by obtain ⟨k9, h9, -⟩ := Vm.findClass_spec hcl; exact ⟨k9, h9⟩) (fun z hz => by
      rcases hpass z hz with h | ⟨hz0, nm, hl1, hn1⟩
      · exact Or.inl h
      · obtain ⟨c6, hc6, hcl6⟩ := Cond.classLink_spec hown hl1 e.platform hpl
        obtain ⟨a8, b8, h1, h2, h3⟩ := hn1
        cases Option.some.inj (h1.symm.trans hcl)
        cases Option.some.inj (h2.symm.trans hc6)
        exact Or.inr ⟨hz0, _, hcl6, h3⟩)
  obtain ⟨g₀, hfr⟩ := X'.frames_eq
  have hcell9 : ((T.setVm vm').setFrames (.throwing q :: below)).heap[q]? = some ce := by
    show T.heap[q]? = some ce
    rw [hT]; exact hcell
  have hend : Ended ((T.setVm vm').setFrames (.throwing q :: below)) below (.threw q) := State.frames_setFrames _ (State.cur_lt_of_frames hfr)
  refine ⟨(T.setVm vm').setFrames (.throwing q :: below), ?_, .threw q, X'.here.running, hend, Or.inr ⟨q, rfl, E, ce, locs, hx _ hT (X'.ends _).1.alike, hcell9, hv, hcl, (X'.ends _).1, (X'.ends _).2.mono hc hs, hf⟩⟩
  rw [X.pushThrowing_eq]
  exact st
/-- a thing of a world lies in the heap -/
theorem vx_lt {D : va_G} {cl : List vw_C} {ws : va_W} {H1 : Heap} (h : va_P D cl ws H1) {k : Nat} {q : Nat × va_E} (hk : ws[k]? = some q) : q.1 < H1.size := (h k q hk).lt
end VXS
/-! ===== END ===== -/
/-! ===== BEGIN methods with a table of their own: called by a name, returning or throwing ===== -/
section VXH
/-! vx_backW, vx_callVX, vx_callSX, vx_callVW, vx_runVW, vx_runVX, vx_runSX, vx_ofWH follow the same proofs as their sisters above (Free/Laws.lean, Shelf42/LK1.lean); vx_outP calls Shelf42/NT130.lean (outThrough). -/
section
variable {l : Launch} {R : Room} {p : Program} {e : Env} {below : List Frame} {s : State} {sargs : Array Value} {y : MethodName} {len W9 : Nat}
theorem vx_backW {ws : List Cond} {rm : Room} {Pc : Array Value → State → Prop} {Qc : Array Value → State → Outcome → State → Prop} {XC : String → State → State → Prop} {mc ms : Nat} {free : Addr → Prop} {bytes : ByteArray} {maxL : Nat} {ret : Option FieldType} {hh : List (Nat × Nat × Nat × Nat)}
    (hM : vx_Met l y ws rm Pc Qc XC mc ms free) (hblind : FrameBlind Pc) (hrc : rm.cells = mc) (hrs : rm.slots = ms)
    (hframes : rm.frames + 1 ≤ R.frames) (hlocals : W9 + (maxL + 11) + rm.locals ≤ R.locals)
    (hws : ∀ w ∈ ws, ∀ a' U, s.WarmedH U.vm → w.before a' U = true) (hcode : Cond.codeWith y bytes maxL ret hh ∈ ws) (hinit : ∀ a' U, s.WarmedH U.vm → (Cond.initialized y.cls).before a' U = true) :
    vx_Back l R p e below s sargs y len W9 (PreOf R mc ms Pc) (PostOf Qc mc ms free) (vx_Post XC mc ms free) := by
  intro m meth c A g ig mk a X hg hsize hdg hW hn hp
  have h1 : (headSpec ws rm).pre.before a A.U = true := atoms_intro fun w hw => hws w hw _ _ X.warmed
  have h2 : (Cond.codeWith y bytes maxL ret hh).before a A.U = true := hws _ hcode _ _ X.warmed
  have h3 : (Cond.initialized y.cls).before a A.U = true := hinit _ _ X.warmed
  have h4 : A.cells + (headSpec ws rm).room.cells ≤ R.cells := by rw [show (headSpec ws rm).room.cells = mc from hrc]; exact hp.1
  have h5 : A.slots + (headSpec ws rm).room.slots ≤ R.slots := by rw [show (headSpec ws rm).room.slots = ms from hrs]; exact hp.2.1
  have hPc : Pc a (A.U.calling g mk a) := hblind _ _ _ _ hp.2.2
  obtain ⟨U, Ls, c0, s0⟩ := A
  dsimp only [Pt.U, Pt.locs, Pt.cells, Pt.slots] at h1 h2 h3 h4 h5 X hn hPc ⊢
  obtain ⟨m9, methY, cY, hn9, hmY, hcY, -, hlY, -⟩ := Cond.codeWith_spec h2
  cases Option.some.inj (hn9.symm.trans hn)
  obtain ⟨kY, hkY, -⟩ := className_of_methodNamed hn
  have hinitY : kY.init = .initialized := Cond.initialized_spec (findClass_of_methodNamed hn) hkY h3
  have h : At U g.method c below := by rw [hg]; exact X.here
  have hlocals9 : W9 + (maxL + 11) + (headSpec ws rm).room.locals ≤ R.locals := hlocals
  have happ : (headSpec ws rm).appliesLoose y e.platform (U.calling g mk a) = true :=
    Spec.appliesLoose_calling (g := g) h hdg hn hkY hinitY
      (X.room_calling (g := g) (R' := (headSpec ws rm).room) hsize hmY hcY hframes (by rw [hlY]; omega) h4 h5) h1
  obtain ⟨mid, hmid⟩ := h.above
  have hfr : (U.setTop g).frames = (.java g :: mid) ++ below := by rw [State.frames_setTop' g h.top, hmid]; rfl
  obtain ⟨o, s₂, hsteps, -, hend, hq⟩ := Steps.callFree hM p X.admits X.cas X.clock (acts := []) hfr happ hPc trivial
  have hq' : vx_Q Qc XC mc ms free a (U.calling g mk a) o s₂ := hq
  rw [State.frames_setTop' g h.top] at hend
  obtain ⟨g₀, hg0⟩ := Option.isSome_iff_exists.mp h.top
  obtain ⟨r, hr⟩ := State.topJava?_eq_some.mp hg0
  have hr' : (({ U with heap := s₂.heap, slotsUsed := s₂.slotsUsed } : State).setVm s₂.vm).frames = .java g₀ :: r := hr
  rcases hq' with ⟨hqc, L, hfe, hL⟩ | ⟨q, rfl, E, ce, L, hx, hce, hcv, hcl, hW₂, hsm, hL⟩
  · obtain ⟨⟨v, rfl⟩, hW₂, e2, q2, q3, q4, q5, q6⟩ := id hfe
    have e3 : s₂ = ({ (U.calling g mk a).setFrames s₂.frames with heap := s₂.heap, slotsUsed := s₂.slotsUsed } : State).setVm s₂.vm := by
      have : s₂ = ({ s₂ with vm := (U.calling g mk a).vm } : State).setVm s₂.vm := rfl
      rw [e2] at this
      exact this
    obtain ⟨c₂, i₂, len₂, hc₂, hd₂, hf₂⟩ := hend
    have hW' : U.WarmedH s₂.vm := hW₂
    have hcc : c₂ = c := by
      have h1 : s₂.code? g.method = U.code? g.method := by
        rw [State.code?_eq, State.code?_eq, hW'.alike.method?]
      exact Option.some.inj (hc₂.symm.trans (h1.trans h.code))
    subst hcc
    have hlen : len₂ = len := by rw [hdg] at hd₂; cases hd₂; rfl
    subst hlen
    have hs₂ : s₂ = (({ U with heap := s₂.heap, slotsUsed := s₂.slotsUsed } : State).setVm s₂.vm).setTop { g with pc := g.pc + len₂, stack := v.toList ++ g.stack } := by
      refine e3.trans ?_
      rw [hf₂, State.calling_eq h.top, State.setFrames_setFrames, State.setTop_of_frames _ hr', hr]
      rfl
    have hsame : U.sameButNew ({ U with heap := s₂.heap, slotsUsed := s₂.slotsUsed } : State) L mc ms := by
      refine ⟨?_, q2, q3, q4, q5, q6⟩
      obtain ⟨t, ht, -⟩ := State.frames_cons hr
      show ({ U with heap := s₂.heap, slotsUsed := s₂.slotsUsed } : State) = { U.setFrames U.frames with heap := s₂.heap, slotsUsed := s₂.slotsUsed }
      rw [State.setFrames_self ht]
    subst hg
    refine Or.inl ⟨v, ⟨(({ U with heap := s₂.heap, slotsUsed := s₂.slotsUsed } : State).setVm s₂.vm), Ls ++ L, c0 + mc, s0 + ms⟩,
      ⟨X.admits, X.cas, X.clock, X.frames, X.room, X.hears, X.method, X.code, (X.here.setHeapUsed s₂.heap s₂.slotsUsed).setVm hW'.alike, X.tail, State.WarmedH.trans X.warmed hW', X.limits, X.bytes, X.same.trans (hsame.setVm s.vm)⟩,
      ⟨g, mk, s₂, L, rfl, rfl, hqc, rfl, hL, rfl, rfl⟩, ?_⟩
    show Steps p.tables e below _ ((({ U with heap := s₂.heap, slotsUsed := s₂.slotsUsed } : State).setVm s₂.vm).setTop { g with pc := g.pc + len₂, stack := v.toList ++ g.stack })
    rw [← hs₂]
    exact hsteps
  · obtain ⟨e2, q2, q3, q4, q5, q6⟩ := id hsm
    have e3 : s₂ = ({ (U.calling g mk a).setFrames s₂.frames with heap := s₂.heap, slotsUsed := s₂.slotsUsed } : State).setVm s₂.vm := by
      have : s₂ = ({ s₂ with vm := (U.calling g mk a).vm } : State).setVm s₂.vm := rfl
      rw [e2] at this
      exact this
    have hf₂ : s₂.frames = .throwing q :: .java g :: U.frames.tail := hend
    have hW' : U.WarmedH s₂.vm := hW₂
    have hs₂ : s₂ = ((({ U with heap := s₂.heap, slotsUsed := s₂.slotsUsed } : State).setVm s₂.vm).setTop g).pushFrame (.throwing q) := by
      refine e3.trans ?_
      rw [hf₂, State.calling_eq h.top, State.setFrames_setFrames, State.pushFrame, State.frames_setTop _ hr', State.setTop_of_frames _ hr', State.setFrames_setFrames, hr]
      rfl
    have hsame : U.sameButNew ({ U with heap := s₂.heap, slotsUsed := s₂.slotsUsed } : State) L mc ms := by
      refine ⟨?_, q2, q3, q4, q5, q6⟩
      obtain ⟨t, ht, -⟩ := State.frames_cons hr
      show ({ U with heap := s₂.heap, slotsUsed := s₂.slotsUsed } : State) = { U.setFrames U.frames with heap := s₂.heap, slotsUsed := s₂.slotsUsed }
      rw [State.setFrames_self ht]
    subst hg
    refine Or.inr ⟨q, ⟨(({ U with heap := s₂.heap, slotsUsed := s₂.slotsUsed } : State).setVm s₂.vm), Ls ++ L, c0 + mc, s0 + ms⟩,
      ⟨X.admits, X.cas, X.clock, X.frames, X.room, X.hears, X.method, X.code, (X.here.setHeapUsed s₂.heap s₂.slotsUsed).setVm hW'.alike, X.tail, State.WarmedH.trans X.warmed hW', X.limits, X.bytes, X.same.trans (hsame.setVm s.vm)⟩,
      ⟨g, mk, s₂, L, E, ce, rfl, rfl, hx, hce, hcv, hcl, rfl, hL, rfl, rfl⟩, ?_⟩
    show Steps p.tables e below _ (((({ U with heap := s₂.heap, slotsUsed := s₂.slotsUsed } : State).setVm s₂.vm).setTop g).pushFrame (.throwing q))
    rw [← hs₂]
    exact hsteps
end
variable {p : Program} {l : Launch} {e : Env} {R : Room} {s : State} {m : MethodId} {args : Array Value} {below : List Frame} {meth : Method} {c : Code} {T : State} {H : Heap} {locs : List Loc} {cells slots : Nat}
theorem vx_callVX (X : Stand p l e R s m args below meth c T locs cells slots) (hexec : p.tables.exec = Jvm.exec) {own C : String} {index : Nat} {y : MethodName} {bytes : ByteArray} {maxL : Nat} {ret : Option FieldType} {hh : List (Nat × Nat × Nat × Nat)}
    (hown : s.vm.findClass own = some m.cls) (hlink : (Cond.methodLink own index y).before args s = true) (hinst : (Cond.instanceMethod y).before args s = true) (hsel : (Cond.selects C y y).before args s = true)
    (hcode : (Cond.codeWith y bytes maxL ret hh).before args s = true) (hy : y.cls ≠ "java/lang/invoke/MethodHandle" ∧ y.cls ≠ "java/lang/invoke/VarHandle")
    {W9 : Nat} {Pre : Pt → Array Value → Prop} {Post : Pt → Array Value → Option Value → Pt → Prop} {PostX : Pt → Array Value → Addr → Pt → Prop} (hK : vx_Back l R p e below s args y 3 W9 Pre Post PostX)
    {b : Addr} {cellB : Cell} (hcell : T.heap[b]? = some cellB) (hobj : cellB.vm.isStatics = false) (hcls : s.vm.findClass C = some cellB.cls)
    {g : JFrame} (hg : g.method = m) (hsize : g.locals.size = c.maxLocals) {argsL rest : List Value} (hlen : ∀ sig, parseMethodDescriptor y.desc = some sig → argsL.length = sig.parameters.length)
    (hstack : g.stack = argsL.reverse ++ .ref b :: rest) (hW : 2 * g.monitorRoom + (rest.map fun v => v.category).sum ≤ W9) (hdg : decode c.code g.pc = .ok (.invokevirtual index, 3))
    (hpre : ∀ vm₁, s.WarmedH vm₁ → Pre ⟨T.setVm vm₁, locs, cells, slots⟩ (Value.ref b :: argsL).toArray) :
    (∃ (v : Option Value) (vm₁ : Vm) (B : Pt), s.WarmedH vm₁ ∧ Stand p l e R s m args below meth c B.U B.locs B.cells B.slots ∧ Post ⟨T.setVm vm₁, locs, cells, slots⟩ (Value.ref b :: argsL).toArray v B ∧
      ∀ target, Steps p.tables e below (B.U.setTop { g with pc := g.pc + 3, stack := v.toList ++ rest }) target → Steps p.tables e below (T.setTop g) target) ∨
    (∃ (q : Addr) (vm₁ : Vm) (B : Pt), s.WarmedH vm₁ ∧ Stand p l e R s m args below meth c B.U B.locs B.cells B.slots ∧ PostX ⟨T.setVm vm₁, locs, cells, slots⟩ (Value.ref b :: argsL).toArray q B ∧
      Steps p.tables e below (T.setTop g) ((B.U.setTop { g with stack := rest }).pushFrame (.throwing q))) := by
  obtain ⟨mk, methM, hnamed, hmethM, hstM, habM⟩ := Cond.instanceMethod_spec hinst
  obtain ⟨m8, methM', cM, hn8, hmethM', -, -, -, -, -, -, hsigM⟩ := Cond.codeWith_spec hcode
  cases Option.some.inj (hn8.symm.trans hnamed)
  cases hmethM.symm.trans hmethM'
  obtain ⟨c2, r2, m2, q1, q2, q3, q4, kP, hkP, hkPi⟩ := Cond.selects_spec hsel
  cases hcls.symm.trans q1
  cases (State.methodFound?_of_named hnamed hy).symm.trans q2
  cases hnamed.symm.trans q3
  have hselP : selectMethod e.platform s.vm cellB.cls mk = .method mk := by rw [Launch.admits_selectMethod X.admits]; exact q4
  obtain ⟨vm₁, X₁, hstep₁⟩ := X.invokevirtual hexec hown hlink hnamed hmethM hstM hkP hkPi hy (a := b) (cell := cellB) hcell
    (fun z h => by rw [h] at hobj; cases hobj) hselP hmethM habM hkP hkPi (g := g) hg (argsL := argsL) (rest := rest) (hlen _ hsigM) hstack hdg
  rcases hK m meth c ⟨T.setVm vm₁, locs, cells, slots⟩ { g with stack := rest } (.invokevirtual index) mk (Value.ref b :: argsL).toArray X₁ hg hsize hdg hW (X₁.named hnamed) (hpre vm₁ X₁.warmed) with ⟨v, B, X', hpost, hsteps⟩ | ⟨q, B, X', hpost, hsteps⟩
  · exact Or.inl ⟨v, vm₁, B, X₁.warmed, X', hpost, fun target h => hstep₁ _ fun acts => by rw [doInvoke_state]; exact hsteps.trans h⟩
  · exact Or.inr ⟨q, vm₁, B, X₁.warmed, X', hpost, hstep₁ _ fun acts => by rw [doInvoke_state]; exact hsteps⟩
theorem vx_callSX (X : Stand p l e R s m args below meth c T locs cells slots) (hexec : p.tables.exec = Jvm.exec) {own : String} {index : Nat} {y : MethodName} {bytes : ByteArray} {maxL : Nat} {ret : Option FieldType} {hh : List (Nat × Nat × Nat × Nat)}
    (hown : s.vm.findClass own = some m.cls) (hlink : (Cond.methodLink own index y).before args s = true) (hstat : (Cond.static y).before args s = true) (hinit : (Cond.initialized y.cls).before args s = true)
    (hcode : (Cond.codeWith y bytes maxL ret hh).before args s = true) (hy : y.cls ≠ "java/lang/invoke/MethodHandle" ∧ y.cls ≠ "java/lang/invoke/VarHandle")
    {W9 : Nat} {Pre : Pt → Array Value → Prop} {Post : Pt → Array Value → Option Value → Pt → Prop} {PostX : Pt → Array Value → Addr → Pt → Prop} (hK : vx_Back l R p e below s args y 3 W9 Pre Post PostX)
    {g : JFrame} (hg : g.method = m) (hsize : g.locals.size = c.maxLocals) {argsL rest : List Value} (hlen : ∀ sig, parseMethodDescriptor y.desc = some sig → argsL.length = sig.parameters.length)
    (hstack : g.stack = argsL.reverse ++ rest) (hW : 2 * g.monitorRoom + (rest.map fun v => v.category).sum ≤ W9) (hdg : decode c.code g.pc = .ok (.invokestatic index, 3))
    (hpre : ∀ vm₁, s.WarmedH vm₁ → Pre ⟨T.setVm vm₁, locs, cells, slots⟩ argsL.toArray) :
    (∃ (v : Option Value) (vm₁ : Vm) (B : Pt), s.WarmedH vm₁ ∧ Stand p l e R s m args below meth c B.U B.locs B.cells B.slots ∧ Post ⟨T.setVm vm₁, locs, cells, slots⟩ argsL.toArray v B ∧
      ∀ target, Steps p.tables e below (B.U.setTop { g with pc := g.pc + 3, stack := v.toList ++ rest }) target → Steps p.tables e below (T.setTop g) target) ∨
    (∃ (q : Addr) (vm₁ : Vm) (B : Pt), s.WarmedH vm₁ ∧ Stand p l e R s m args below meth c B.U B.locs B.cells B.slots ∧ PostX ⟨T.setVm vm₁, locs, cells, slots⟩ argsL.toArray q B ∧
      Steps p.tables e below (T.setTop g) ((B.U.setTop { g with stack := rest }).pushFrame (.throwing q))) := by
  obtain ⟨mk, methM, cM, hnamed, hmethM, -, -, -, -, -, -, hsigM⟩ := Cond.codeWith_spec hcode
  have hstatic : methM.isStatic = true := Cond.static_spec hnamed hmethM hstat
  obtain ⟨kP, hkP, -⟩ := className_of_methodNamed hnamed
  have hinitP : kP.init = .initialized := Cond.initialized_spec (findClass_of_methodNamed hnamed) hkP hinit
  obtain ⟨vm₁, X₁, hstep₁⟩ := X.invokestatic hexec hown hlink hnamed hmethM hstatic hkP hinitP hy (g := g) hg (argsL := argsL) (rest := rest) (hlen _ hsigM) hstack hdg
  rcases hK m meth c ⟨T.setVm vm₁, locs, cells, slots⟩ { g with stack := rest } (.invokestatic index) mk argsL.toArray X₁ hg hsize hdg hW (X₁.named hnamed) (hpre vm₁ X₁.warmed) with ⟨v, B, X', hpost, hsteps⟩ | ⟨q, B, X', hpost, hsteps⟩
  · exact Or.inl ⟨v, vm₁, B, X₁.warmed, X', hpost, fun target h => hstep₁ _ fun acts => by rw [doInvoke_state]; exact hsteps.trans h⟩
  · exact Or.inr ⟨q, vm₁, B, X₁.warmed, X', hpost, hstep₁ _ fun acts => by rw [doInvoke_state]; exact hsteps⟩
theorem vx_callVW (X : Stand p l e R s m args below meth c T locs cells slots) (hexec : p.tables.exec = Jvm.exec) {own C : String} {index : Nat} {y : MethodName} {bytes : ByteArray} {maxL : Nat} {ret : Option FieldType} {hh : List (Nat × Nat × Nat × Nat)}
    (hown : s.vm.findClass own = some m.cls) (hlink : (Cond.methodLink own index y).before args s = true) (hinst : (Cond.instanceMethod y).before args s = true) (hsel : (Cond.selects C y y).before args s = true)
    (hcode : (Cond.codeWith y bytes maxL ret hh).before args s = true) (hy : y.cls ≠ "java/lang/invoke/MethodHandle" ∧ y.cls ≠ "java/lang/invoke/VarHandle")
    {W9 : Nat} {Pre : Pt → Array Value → Prop} {Post : Pt → Array Value → Option Value → Pt → Prop} (hK : Back l R p e below s args y 3 W9 Pre Post)
    {b : Addr} {cellB : Cell} (hcell : T.heap[b]? = some cellB) (hobj : cellB.vm.isStatics = false) (hcls : s.vm.findClass C = some cellB.cls)
    {g : JFrame} (hg : g.method = m) (hsize : g.locals.size = c.maxLocals) {argsL rest : List Value} (hlen : ∀ sig, parseMethodDescriptor y.desc = some sig → argsL.length = sig.parameters.length)
    (hstack : g.stack = argsL.reverse ++ .ref b :: rest) (hW : 2 * g.monitorRoom + (rest.map fun v => v.category).sum ≤ W9) (hdg : decode c.code g.pc = .ok (.invokevirtual index, 3))
    (hpre : ∀ vm₁, s.WarmedH vm₁ → Pre ⟨T.setVm vm₁, locs, cells, slots⟩ (Value.ref b :: argsL).toArray) :
    ∃ (v : Option Value) (vm₁ : Vm) (B : Pt), s.WarmedH vm₁ ∧ Stand p l e R s m args below meth c B.U B.locs B.cells B.slots ∧ Post ⟨T.setVm vm₁, locs, cells, slots⟩ (Value.ref b :: argsL).toArray v B ∧
      ∀ target, Steps p.tables e below (B.U.setTop { g with pc := g.pc + 3, stack := v.toList ++ rest }) target → Steps p.tables e below (T.setTop g) target := by
  obtain ⟨mk, methM, hnamed, hmethM, hstM, habM⟩ := Cond.instanceMethod_spec hinst
  obtain ⟨m8, methM', cM, hn8, hmethM', -, -, -, -, -, -, hsigM⟩ := Cond.codeWith_spec hcode
  cases Option.some.inj (hn8.symm.trans hnamed)
  cases hmethM.symm.trans hmethM'
  obtain ⟨c2, r2, m2, q1, q2, q3, q4, kP, hkP, hkPi⟩ := Cond.selects_spec hsel
  cases hcls.symm.trans q1
  cases (State.methodFound?_of_named hnamed hy).symm.trans q2
  cases hnamed.symm.trans q3
  have hselP : selectMethod e.platform s.vm cellB.cls mk = .method mk := by rw [Launch.admits_selectMethod X.admits]; exact q4
  obtain ⟨vm₁, X₁, hstep₁⟩ := X.invokevirtual hexec hown hlink hnamed hmethM hstM hkP hkPi hy (a := b) (cell := cellB) hcell
    (fun z h => by rw [h] at hobj; cases hobj) hselP hmethM habM hkP hkPi (g := g) hg (argsL := argsL) (rest := rest) (hlen _ hsigM) hstack hdg
  obtain ⟨v, B, X', hpost, hsteps⟩ := hK m meth c ⟨T.setVm vm₁, locs, cells, slots⟩ { g with stack := rest } (.invokevirtual index) mk (Value.ref b :: argsL).toArray X₁ hg hsize hdg hW (X₁.named hnamed) (hpre vm₁ X₁.warmed)
  exact ⟨v, vm₁, B, X₁.warmed, X', hpost, fun target h => hstep₁ _ fun acts => by rw [doInvoke_state]; exact hsteps.trans h⟩
abbrev vx_CVW (R : Room) (s : State) (args : Array Value) (own C : String) (index : Nat) (y : MethodName) (bytes : ByteArray) (maxL : Nat) (ret : Option FieldType) (hh : List (Nat × Nat × Nat × Nat)) (ws : List Cond) (rm : Room) (mc ms n : Nat) : Prop :=
  (rm.cells = mc ∧ rm.slots = ms ∧ rm.frames + 1 ≤ R.frames ∧ 8 + (maxL + 11) + rm.locals ≤ R.locals ∧ (∀ w ∈ ws, ∀ (a' : Array Value) (U : State), s.WarmedH U.vm → w.before a' U = true) ∧ Cond.codeWith y bytes maxL ret hh ∈ ws) ∧
  (Cond.codeWith y bytes maxL ret hh).before args s = true ∧ (Cond.initialized y.cls).before args s = true ∧ (y.cls ≠ "java/lang/invoke/MethodHandle" ∧ y.cls ≠ "java/lang/invoke/VarHandle") ∧
  (∀ sig, parseMethodDescriptor y.desc = some sig → n = sig.parameters.length) ∧ (Cond.methodLink own index y).before args s = true ∧ (Cond.instanceMethod y).before args s = true ∧ (Cond.selects C y y).before args s = true
theorem vx_cwVW {own C : String} {index maxL mc ms : Nat} {y : MethodName} {bytes : ByteArray} {ret : Option FieldType} {hh : List (Nat × Nat × Nat × Nat)} {Ts ws ws' : List Cond} {rm : Room} (n : Nat) (ht : ∀ w ∈ Ts, w.before args s = true) (hT : GoodIn Ts (wsV own index C y ws)) (hw : ws = Cond.codeWith y bytes maxL ret hh :: ws') (hrc : rm.cells = mc) (hrs : rm.slots = ms)
    (hd : y.cls = C ∧ y.cls ≠ "java/lang/invoke/MethodHandle" ∧ y.cls ≠ "java/lang/invoke/VarHandle" ∧ (parseMethodDescriptor y.desc).map (fun d => d.parameters.length) = some n) (hR : rm.frames + 1 ≤ R.frames ∧ 8 + (maxL + 11) + rm.locals ≤ R.locals) :
    vx_CVW R s args own C index y bytes maxL ret hh ws rm mc ms n := by
  obtain ⟨hC, hd⟩ := hd
  subst hC
  have ok : ∀ w ∈ wsV own index y.cls y ws, w.before args s = true := fun w h => ht w (hT w h).1
  have hG : GoodIn Ts ws := fun w h => hT w (by unfold wsV; exact List.mem_append_right _ h)
  have hc : Cond.codeWith y bytes maxL ret hh ∈ ws := by rw [hw]; exact List.mem_cons_self
  refine ⟨⟨hrc, hrs, hR.1, hR.2, pay_in ht hG, hc⟩, ht _ (hG _ hc).1, ok _ (by simp [wsV]), ⟨hd.1, hd.2.1⟩, fun sig h => ?_, ok _ (by simp [wsV]), ok _ (by simp [wsV]), ok _ (by simp [wsV])⟩
  have h2 := hd.2.2
  rw [h] at h2
  exact (Option.some.inj h2).symm
theorem vx_runVW {y : MethodName} {bytes cc : ByteArray} {maxL nL mc ms n index : Nat} {ret : Option FieldType} {hh : List (Nat × Nat × Nat × Nat)} {ws : List Cond} {rm : Room} {Pc : Array Value → State → Prop} {Qc : Array Value → State → Outcome → State → Prop} {free : Addr → Prop} {Ts : List Cond} {own C : String} {b : Addr} {As rest : List Value} {g : JFrame}
    (S : CallFix p m c cc nL s args Ts own) (hM : Met l y ws rm Pc Qc mc ms free) (cw : vx_CVW R s args own C index y bytes maxL ret hh ws rm mc ms n) (hp : PreV s H C b Pc As)
    (hg : g.method = m) (hn : As.length = n) (hsize : g.locals.size = nL) (hstack : g.stack = As.reverse ++ .ref b :: rest) (hW : 2 * g.monitorRoom + (rest.map fun v => v.category).sum ≤ 8) (hdg : decode cc g.pc = .ok (.invokevirtual index, 3)) (hf : cells + mc ≤ R.cells ∧ slots + ms ≤ R.slots) :
    va_Run p l e R s m args below meth c H locs cells slots mc ms g rest (Qc (Value.ref b :: As).toArray) free := by
  obtain ⟨⟨hrc, hrs, hfr, hlo, hws, hcw⟩, hcode, hini, hy, hlen, hl, hin, hse⟩ := cw
  have hK : Back l R p e below s args y 3 8 (PreOf R mc ms Pc) (PostOf Qc mc ms free) := va_backW (hh := hh) (bytes := bytes) (maxL := maxL) (ret := ret) hM hp.1 hrc hrs hfr hlo hws hcw (fun a' U hW => word_at hW (Or.inl (by first | rfl | simp [Cond.onTables, Cond.keeps, Cond.steady])) hini)
  obtain ⟨hx, hb, hml, ho, -⟩ := S
  obtain ⟨-, ⟨cellB, hcB, hoB, hclB⟩, hPc⟩ := hp
  intro T hT X
  obtain ⟨v, vm₁, ⟨U', l2, c2, s2⟩, hW₁, X', ⟨g', mk, t, L, e1, e2, hq, h1, hL, h2, h3⟩, st⟩ := vx_callVW X hx (C := C) (hh := hh) (bytes := bytes) (maxL := maxL) (ret := ret) ho hl hin hse hcode hy hK (by rw [hT]; exact hcB) hoB hclB hg (hsize.trans hml.symm) (argsL := As) (rest := rest) (fun sig h => hn.trans (hlen sig h)) hstack hW (by rw [hb]; exact hdg)
    (fun vm₁ hW₁ => ⟨hf.1, hf.2, hPc (T.setVm vm₁) hT hW₁⟩)
  dsimp only [Pt.U, Pt.locs, Pt.cells, Pt.slots] at X' e1 e2 h1 h2 h3 st
  subst h1; subst h2; subst h3
  exact ⟨v, (T.setVm vm₁).calling g' mk (Value.ref b :: As).toArray, t, U', L, hT, X', hL, e1, e2, hq, st⟩
section
variable {y : MethodName} {bytes cc : ByteArray} {maxL nL mc ms n index : Nat} {ret : Option FieldType} {ws : List Cond} {rm : Room} {Pc : Array Value → State → Prop} {Qc : Array Value → State → Outcome → State → Prop} {XC : String → State → State → Prop} {free : Addr → Prop} {Ts : List Cond} {own C : String} {b : Addr} {As rest : List Value} {g : JFrame}
theorem vx_runVX {hh : List (Nat × Nat × Nat × Nat)} (S : CallFix p m c cc nL s args Ts own) (hM : vx_Met l y ws rm Pc Qc XC mc ms free) (cw : vx_CVW R s args own C index y bytes maxL ret hh ws rm mc ms n) (hp : PreV s H C b Pc As)
    (hg : g.method = m) (hn : As.length = n) (hsize : g.locals.size = nL) (hstack : g.stack = As.reverse ++ .ref b :: rest) (hW : 2 * g.monitorRoom + (rest.map fun v => v.category).sum ≤ 8) (hdg : decode cc g.pc = .ok (.invokevirtual index, 3)) (hf : cells + mc ≤ R.cells ∧ slots + ms ≤ R.slots) :
    vx_Run p l e R s m args below meth c H locs cells slots mc ms g rest (Qc (Value.ref b :: As).toArray) XC free := by
  obtain ⟨⟨hrc, hrs, hfr, hlo, hws, hcw⟩, hcode, hini, hy, hlen, hl, hin, hse⟩ := cw
  have hK : vx_Back l R p e below s args y 3 8 (PreOf R mc ms Pc) (PostOf Qc mc ms free) (vx_Post XC mc ms free) := vx_backW (hh := hh) (bytes := bytes) (maxL := maxL) (ret := ret) hM hp.1 hrc hrs hfr hlo hws hcw (fun a' U hW => word_at hW (Or.inl (by first | rfl | simp [Cond.onTables, Cond.keeps, Cond.steady])) hini)
  obtain ⟨hx, hb, hml, ho, -⟩ := S
  obtain ⟨-, ⟨cellB, hcB, hoB, hclB⟩, hPc⟩ := hp
  intro T hT X
  rcases vx_callVX X hx (C := C) (hh := hh) (bytes := bytes) (maxL := maxL) (ret := ret) ho hl hin hse hcode hy hK (by rw [hT]; exact hcB) hoB hclB hg (hsize.trans hml.symm) (argsL := As) (rest := rest) (fun sig h => hn.trans (hlen sig h)) hstack hW (by rw [hb]; exact hdg)
    (fun vm₁ hW₁ => ⟨hf.1, hf.2, hPc (T.setVm vm₁) hT hW₁⟩) with ⟨v, vm₁, ⟨U', l2, c2, s2⟩, hW₁, X', ⟨g', mk, t, L, e1, e2, hq, h1, hL, h2, h3⟩, st⟩ | ⟨q, vm₁, ⟨U', l2, c2, s2⟩, hW₁, X', ⟨g', mk, t, L, E, ce, e1, e2, hq, hce, hcv, hcl, h1, hL, h2, h3⟩, st⟩
  · dsimp only [Pt.U, Pt.locs, Pt.cells, Pt.slots] at X' e1 e2 h1 h2 h3 st
    subst h1; subst h2; subst h3
    exact Or.inl ⟨v, (T.setVm vm₁).calling g' mk (Value.ref b :: As).toArray, t, U', L, hT, X', hL, e1, e2, hq, st⟩
  · dsimp only [Pt.U, Pt.locs, Pt.cells, Pt.slots] at X' e1 e2 h1 h2 h3 st hcl
    subst h1; subst h2; subst h3
    exact Or.inr ⟨q, (T.setVm vm₁).calling g' mk (Value.ref b :: As).toArray, t, U', L, E, ce, hT, X', hL, e1, e2, hq, hce, hcv, vx_cls hW₁ hcl, st⟩
theorem vx_runSX {hh : List (Nat × Nat × Nat × Nat)} (S : CallFix p m c cc nL s args Ts own) (hM : vx_Met l y ws rm Pc Qc XC mc ms free) (cw : vx_CSW R s args own index y bytes maxL ret hh ws rm mc ms n) (hp : PreS s H Pc As)
    (hg : g.method = m) (hn : As.length = n) (hsize : g.locals.size = nL) (hstack : g.stack = As.reverse ++ rest) (hW : 2 * g.monitorRoom + (rest.map fun v => v.category).sum ≤ 8) (hdg : decode cc g.pc = .ok (.invokestatic index, 3)) (hf : cells + mc ≤ R.cells ∧ slots + ms ≤ R.slots) :
    vx_Run p l e R s m args below meth c H locs cells slots mc ms g rest (Qc As.toArray) XC free := by
  obtain ⟨⟨hrc, hrs, hfr, hlo, hws, hcw⟩, hcode, hini, hy, hlen, hl, hstt⟩ := cw
  have hK : vx_Back l R p e below s args y 3 8 (PreOf R mc ms Pc) (PostOf Qc mc ms free) (vx_Post XC mc ms free) := vx_backW (hh := hh) (bytes := bytes) (maxL := maxL) (ret := ret) hM hp.1 hrc hrs hfr hlo hws hcw (fun a' U hW => word_at hW (Or.inl (by first | rfl | simp [Cond.onTables, Cond.keeps, Cond.steady])) hini)
  obtain ⟨hx, hb, hml, ho, -⟩ := S
  intro T hT X
  rcases vx_callSX X hx (hh := hh) (bytes := bytes) (maxL := maxL) (ret := ret) ho hl hstt hini hcode hy hK hg (hsize.trans hml.symm) (argsL := As) (rest := rest) (fun sig h => hn.trans (hlen sig h)) hstack hW (by rw [hb]; exact hdg)
    (fun vm₁ hW₁ => ⟨hf.1, hf.2, hp.2 (T.setVm vm₁) hT hW₁⟩) with ⟨v, vm₁, ⟨U', l2, c2, s2⟩, hW₁, X', ⟨g', mk, t, L, e1, e2, hq, h1, hL, h2, h3⟩, st⟩ | ⟨q, vm₁, ⟨U', l2, c2, s2⟩, hW₁, X', ⟨g', mk, t, L, E, ce, e1, e2, hq, hce, hcv, hcl, h1, hL, h2, h3⟩, st⟩
  · dsimp only [Pt.U, Pt.locs, Pt.cells, Pt.slots] at X' e1 e2 h1 h2 h3 st
    subst h1; subst h2; subst h3
    exact Or.inl ⟨v, (T.setVm vm₁).calling g' mk As.toArray, t, U', L, hT, X', hL, e1, e2, hq, st⟩
  · dsimp only [Pt.U, Pt.locs, Pt.cells, Pt.slots] at X' e1 e2 h1 h2 h3 st hcl
    subst h1; subst h2; subst h3
    exact Or.inr ⟨q, (T.setVm vm₁).calling g' mk As.toArray, t, U', L, E, ce, hT, X', hL, e1, e2, hq, hce, hcv, vx_cls hW₁ hcl, st⟩
end
end VXH
theorem vx_ofWH {l : Launch} {y : MethodName} {ws ws' : List Cond} {rm : Room} {Pc : Array Value → State → Prop} {Qc : Array Value → State → Outcome → State → Prop} {XC : String → State → State → Prop} {mc ms : Nat} {free : Addr → Prop} {cc : ByteArray} {maxL : Nat} {ret : Option FieldType} {hh : List (Nat × Nat × Nat × Nat)}
    (hy : plainName y.cls = true) (hw : ws = Cond.codeWith y cc maxL ret hh :: ws')
    (body : ∀ p e s m args below meth c s₁, BodyLoose p l y (headSpec ws rm) cc maxL ret e s m args below meth c s₁ → c.maxLocals = maxL → Pc args s →
      W p l e (headSpec ws rm).room s m args below meth c s.heap [] 0 0 (vx_MQ below Qc XC args s mc ms free) (entryFrame m args maxL)) : vx_Met l y ws rm Pc Qc XC mc ms free := by
  refine MetFree.of_bodyS (code := cc) (maxLocals := maxL) (ret := ret) hy ?_ ?_
  · intro args s m h hn
    obtain ⟨m9, meth, c, hn9, h1, h2, h3, h4, -, h5, h6, -⟩ := Cond.codeWith_spec (atoms_spec (ws := ws) h _ (by rw [hw]; exact List.mem_cons_self))
    cases hn.symm.trans hn9
    exact ⟨meth, c, h1, h2, h3, h4, h5, h6⟩
  · intro p e s m args below meth c s₁ B hml hP _
    have hh0 : s₁.heap = s.heap := by rw [B.state]; rfl
    obtain ⟨t, a1, o, b1, b2, b3⟩ := body p e s m args below meth c s₁ B hml hP s₁ hh0 (Stand.of_body B)
    exact ⟨t, o, a1, b1, b2, b3⟩
/-! ===== END ===== -/
end
section
/-! names -/
def R_P : String := "PressureNets"
def T_P : u_T := fun k => match k with
  | 0 => ("PressureNets", "net", "LPressureNets$Net;", true)
  | 1 => ("PressureNets", "settler", "LPressureNets$Settler;", true)
  | 2 => ("PressureNets", "stuff", "LPressureNets$Stuff;", true)
  | 3 => ("PressureNets", "present", "LPressureNets$State;", true)
  | 4 => ("PressureNets", "cases", "[LPressureNets$State;", true)
  | _ => ("PressureNets", "caseCount", "I", false)
def ty_P : Nat → FieldType := fun k => match k with
  | 0 => .object "PressureNets$Net"
  | 1 => .object "PressureNets$Settler"
  | 2 => .object "PressureNets$Stuff"
  | 3 => .object "PressureNets$State"
  | 4 => .array (.object "PressureNets$State")
  | _ => .int
theorem nm_P : ∀ a, a < 6 → ∀ b, b < 6 → a ≠ b → (T_P a).2.1 ≠ (T_P b).2.1 := by decide +kernel
theorem ty_P_ok : ∀ k, k < 6 → parseFieldDescriptor (T_P k).2.2.1 = some (ty_P k) := by decide +kernel
def R_N : String := "PressureNets$Net"
def T_N : u_T := fun k => match k with
  | 0 => ("PressureNets$Net", "wind", "[I", true)
  | 1 => ("PressureNets$Net", "warmthAt", "[I", true)
  | 2 => ("PressureNets$Net", "volume", "[I", true)
  | 3 => ("PressureNets$Net", "from", "[I", true)
  | 4 => ("PressureNets$Net", "to", "[I", true)
  | 5 => ("PressureNets$Net", "height", "[I", true)
  | 6 => ("PressureNets$Net", "area", "[I", true)
  | 7 => ("PressureNets$Net", "kind", "[I", true)
  | 8 => ("PressureNets$Net", "stack", "[I", true)
  | 9 => ("PressureNets$Net", "fanFlow", "[I", true)
  | 10 => ("PressureNets$Net", "slope", "[I", true)
  | 11 => ("PressureNets$Net", "ductsAt", "[[I", true)
  | 12 => ("PressureNets$Net", "ductCountAt", "[I", true)
  | 13 => ("PressureNets$Net", "zoneCount", "I", false)
  | 14 => ("PressureNets$Net", "leakCount", "I", false)
  | 15 => ("PressureNets$Net", "fanCount", "I", false)
  | _ => ("PressureNets$Net", "version", "I", false)
def ty_N : Nat → FieldType := fun k => match k with
  | 0 => .array .int
  | 1 => .array .int
  | 2 => .array .int
  | 3 => .array .int
  | 4 => .array .int
  | 5 => .array .int
  | 6 => .array .int
  | 7 => .array .int
  | 8 => .array .int
  | 9 => .array .int
  | 10 => .array .int
  | 11 => .array (.array .int)
  | 12 => .array .int
  | 13 => .int
  | 14 => .int
  | 15 => .int
  | _ => .int
theorem nm_N : ∀ a, a < 17 → ∀ b, b < 17 → a ≠ b → (T_N a).2.1 ≠ (T_N b).2.1 := by decide +kernel
theorem ty_N_ok : ∀ k, k < 17 → parseFieldDescriptor (T_N k).2.2.1 = some (ty_N k) := by decide +kernel
def R_S : String := "PressureNets$Settler"
def T_S : u_T := fun k => match k with
  | 0 => ("PressureNets$Settler", "net", "LPressureNets$Net;", true)
  | _ => ("PressureNets$Settler", "before", "[I", true)
def ty_S : Nat → FieldType := fun k => match k with
  | 0 => .object "PressureNets$Net"
  | _ => .array .int
theorem nm_S : ∀ a, a < 2 → ∀ b, b < 2 → a ≠ b → (T_S a).2.1 ≠ (T_S b).2.1 := by decide +kernel
theorem ty_S_ok : ∀ k, k < 2 → parseFieldDescriptor (T_S k).2.2.1 = some (ty_S k) := by decide +kernel
def R_T : String := "PressureNets$State"
def T_T : u_T := fun k => match k with
  | 0 => ("PressureNets$State", "pressure", "[I", true)
  | 1 => ("PressureNets$State", "shutSet", "I", false)
  | 2 => ("PressureNets$State", "madeFor", "I", false)
  | _ => ("PressureNets$State", "stands", "Z", false)
def ty_T : Nat → FieldType := fun k => match k with
  | 0 => .array .int
  | 1 => .int
  | 2 => .int
  | _ => .boolean
theorem nm_T : ∀ a, a < 4 → ∀ b, b < 4 → a ≠ b → (T_T a).2.1 ≠ (T_T b).2.1 := by decide +kernel
theorem ty_T_ok : ∀ k, k < 4 → parseFieldDescriptor (T_T k).2.2.1 = some (ty_T k) := by decide +kernel
def R_U : String := "PressureNets$Stuff"
def T_U : u_T := fun k => match k with
  | 0 => ("PressureNets$Stuff", "held", "[J", true)
  | 1 => ("PressureNets$Stuff", "sources", "[I", true)
  | 2 => ("PressureNets$Stuff", "net", "LPressureNets$Net;", true)
  | 3 => ("PressureNets$Stuff", "flows", "[I", true)
  | 4 => ("PressureNets$Stuff", "wholes", "[J", true)
  | _ => ("PressureNets$Stuff", "then", "[J", true)
def ty_U : Nat → FieldType := fun k => match k with
  | 0 => .array .long
  | 1 => .array .int
  | 2 => .object "PressureNets$Net"
  | 3 => .array .int
  | 4 => .array .long
  | _ => .array .long
theorem nm_U : ∀ a, a < 6 → ∀ b, b < 6 → a ≠ b → (T_U a).2.1 ≠ (T_U b).2.1 := by decide +kernel
theorem ty_U_ok : ∀ k, k < 6 → parseFieldDescriptor (T_U k).2.2.1 = some (ty_U k) := by decide +kernel
def R_M : String := "PressureNetsModel"
def T_M : u_T := fun k => match k with
  | 0 => ("PressureNetsModel", "code", "I", false)
  | 1 => ("PressureNetsModel", "winds", "[I", true)
  | 2 => ("PressureNetsModel", "air", "I", false)
  | 3 => ("PressureNetsModel", "zones", "I", false)
  | 4 => ("PressureNetsModel", "warmths", "[I", true)
  | 5 => ("PressureNetsModel", "volumes", "[I", true)
  | 6 => ("PressureNetsModel", "holds", "[J", true)
  | 7 => ("PressureNetsModel", "sources", "[I", true)
  | 8 => ("PressureNetsModel", "leaks", "I", false)
  | 9 => ("PressureNetsModel", "leakA", "[I", true)
  | 10 => ("PressureNetsModel", "leakB", "[I", true)
  | 11 => ("PressureNetsModel", "heights", "[I", true)
  | 12 => ("PressureNetsModel", "areas", "[I", true)
  | 13 => ("PressureNetsModel", "kinds", "[I", true)
  | 14 => ("PressureNetsModel", "isShut", "[Z", true)
  | 15 => ("PressureNetsModel", "fans", "I", false)
  | 16 => ("PressureNetsModel", "fanA", "[I", true)
  | 17 => ("PressureNetsModel", "fanB", "[I", true)
  | 18 => ("PressureNetsModel", "fanFlow", "[I", true)
  | 19 => ("PressureNetsModel", "slopes", "[I", true)
  | 20 => ("PressureNetsModel", "cases", "I", false)
  | 21 => ("PressureNetsModel", "sets", "[I", true)
  | 22 => ("PressureNetsModel", "gone", "[J", true)
  | 23 => ("PressureNetsModel", "state", "[I", true)
  | 24 => ("PressureNetsModel", "closed", "I", false)
  | 25 => ("PressureNetsModel", "next", "[J", true)
  | _ => ("PressureNetsModel", "nextGone", "[J", true)
def ty_M : Nat → FieldType := fun k => match k with
  | 0 => .int
  | 1 => .array .int
  | 2 => .int
  | 3 => .int
  | 4 => .array .int
  | 5 => .array .int
  | 6 => .array .long
  | 7 => .array .int
  | 8 => .int
  | 9 => .array .int
  | 10 => .array .int
  | 11 => .array .int
  | 12 => .array .int
  | 13 => .array .int
  | 14 => .array .boolean
  | 15 => .int
  | 16 => .array .int
  | 17 => .array .int
  | 18 => .array .int
  | 19 => .array .int
  | 20 => .int
  | 21 => .array .int
  | 22 => .array .long
  | 23 => .array .int
  | 24 => .int
  | 25 => .array .long
  | _ => .array .long
theorem nm_M : ∀ a, a < 27 → ∀ b, b < 27 → a ≠ b → (T_M a).2.1 ≠ (T_M b).2.1 := by decide +kernel
theorem ty_M_ok : ∀ k, k < 27 → parseFieldDescriptor (T_M k).2.2.1 = some (ty_M k) := by decide +kernel
def RL : String := "PressureNetsLaw"
abbrev pn_cl : List vw_C := [(R_P, T_P, 6), (R_N, T_N, 17), (R_S, T_S, 2), (R_T, T_T, 4), (R_U, T_U, 6), (R_M, T_M, 27)]
abbrev b_P_init : ByteArray := prog_1_method_1_code
def y_P_init : MethodName := ⟨"PressureNets", "<init>", "()V"⟩
abbrev b_P_zone : ByteArray := prog_1_method_2_code
def y_P_zone : MethodName := ⟨"PressureNets", "zone", "(II)I"⟩
abbrev b_P_wind : ByteArray := prog_1_method_3_code
def y_P_wind : MethodName := ⟨"PressureNets", "wind", "(II)I"⟩
abbrev b_P_warmth : ByteArray := prog_1_method_4_code
def y_P_warmth : MethodName := ⟨"PressureNets", "warmth", "(II)I"⟩
abbrev b_P_leak : ByteArray := prog_1_method_5_code
def y_P_leak : MethodName := ⟨"PressureNets", "leak", "(IIIII)I"⟩
abbrev b_P_shut : ByteArray := prog_1_method_6_code
def y_P_shut : MethodName := ⟨"PressureNets", "shut", "(IZ)Z"⟩
abbrev b_P_fan : ByteArray := prog_1_method_7_code
def y_P_fan : MethodName := ⟨"PressureNets", "fan", "(IIII)I"⟩
abbrev b_P_pressure : ByteArray := prog_1_method_8_code
def y_P_pressure : MethodName := ⟨"PressureNets", "pressure", "(I)I"⟩
abbrev b_P_told : ByteArray := prog_1_method_9_code
def y_P_told : MethodName := ⟨"PressureNets", "told", "(II)I"⟩
abbrev b_P_blows : ByteArray := prog_1_method_10_code
def y_P_blows : MethodName := ⟨"PressureNets", "blows", "(I)I"⟩
abbrev b_P_gain : ByteArray := prog_1_method_11_code
def y_P_gain : MethodName := ⟨"PressureNets", "gain", "(I)I"⟩
abbrev b_P_caseOf : ByteArray := prog_1_method_12_code
def y_P_caseOf : MethodName := ⟨"PressureNets", "caseOf", "(I)I"⟩
abbrev b_P_worst : ByteArray := prog_1_method_13_code
def y_P_worst : MethodName := ⟨"PressureNets", "worst", "(II)I"⟩
abbrev b_P_put : ByteArray := prog_1_method_14_code
def y_P_put : MethodName := ⟨"PressureNets", "put", "(II)I"⟩
abbrev b_P_source : ByteArray := prog_1_method_15_code
def y_P_source : MethodName := ⟨"PressureNets", "source", "(II)I"⟩
abbrev b_P_steps : ByteArray := prog_1_method_16_code
def y_P_steps : MethodName := ⟨"PressureNets", "steps", "(I)I"⟩
abbrev b_P_gone : ByteArray := prog_1_method_17_code
def y_P_gone : MethodName := ⟨"PressureNets", "gone", "(I)J"⟩
abbrev b_P_demandLegal : ByteArray := prog_1_method_18_code
def y_P_demandLegal : MethodName := ⟨"PressureNets", "demandLegal", "(Z)V"⟩
abbrev b_P_demandRoom : ByteArray := prog_1_method_19_code
def y_P_demandRoom : MethodName := ⟨"PressureNets", "demandRoom", "(Z)V"⟩
abbrev b_P_isWithin : ByteArray := prog_1_method_20_code
def y_P_isWithin : MethodName := ⟨"PressureNets", "isWithin", "(III)Z"⟩
abbrev b_P_isWarmth : ByteArray := prog_1_method_21_code
def y_P_isWarmth : MethodName := ⟨"PressureNets", "isWarmth", "(I)Z"⟩
abbrev b_P_isSide : ByteArray := prog_1_method_22_code
def y_P_isSide : MethodName := ⟨"PressureNets", "isSide", "(I)Z"⟩
abbrev b_P_isZone : ByteArray := prog_1_method_23_code
def y_P_isZone : MethodName := ⟨"PressureNets", "isZone", "(I)Z"⟩
abbrev b_P_isPlace : ByteArray := prog_1_method_24_code
def y_P_isPlace : MethodName := ⟨"PressureNets", "isPlace", "(I)Z"⟩
abbrev b_P_canJoin : ByteArray := prog_1_method_25_code
def y_P_canJoin : MethodName := ⟨"PressureNets", "canJoin", "(II)Z"⟩
abbrev b_P_isLeak : ByteArray := prog_1_method_26_code
def y_P_isLeak : MethodName := ⟨"PressureNets", "isLeak", "(I)Z"⟩
abbrev b_P_rowOf : ByteArray := prog_1_method_27_code
def y_P_rowOf : MethodName := ⟨"PressureNets", "rowOf", "(I)I"⟩
abbrev b_P_ductOfFan : ByteArray := prog_1_method_28_code
def y_P_ductOfFan : MethodName := ⟨"PressureNets", "ductOfFan", "(I)I"⟩
abbrev b_M_init : ByteArray := prog_7_method_1_code
def y_M_init : MethodName := ⟨"PressureNetsModel", "<init>", "()V"⟩
abbrev b_M_thrown : ByteArray := prog_7_method_2_code
def y_M_thrown : MethodName := ⟨"PressureNetsModel", "thrown", "()I"⟩
abbrev b_M_in : ByteArray := prog_7_method_3_code
def y_M_in : MethodName := ⟨"PressureNetsModel", "in", "(JJJ)Z"⟩
abbrev b_M_isZone : ByteArray := prog_7_method_4_code
def y_M_isZone : MethodName := ⟨"PressureNetsModel", "isZone", "(I)Z"⟩
abbrev b_M_isPlace : ByteArray := prog_7_method_5_code
def y_M_isPlace : MethodName := ⟨"PressureNetsModel", "isPlace", "(I)Z"⟩
abbrev b_M_zone : ByteArray := prog_7_method_6_code
def y_M_zone : MethodName := ⟨"PressureNetsModel", "zone", "(II)I"⟩
abbrev b_M_wind : ByteArray := prog_7_method_7_code
def y_M_wind : MethodName := ⟨"PressureNetsModel", "wind", "(II)I"⟩
abbrev b_M_warmth : ByteArray := prog_7_method_8_code
def y_M_warmth : MethodName := ⟨"PressureNetsModel", "warmth", "(II)I"⟩
abbrev b_M_isPair : ByteArray := prog_7_method_9_code
def y_M_isPair : MethodName := ⟨"PressureNetsModel", "isPair", "(II)Z"⟩
abbrev b_M_leak : ByteArray := prog_7_method_10_code
def y_M_leak : MethodName := ⟨"PressureNetsModel", "leak", "(IIIII)I"⟩
abbrev b_M_shut : ByteArray := prog_7_method_11_code
def y_M_shut : MethodName := ⟨"PressureNetsModel", "shut", "(IZ)Z"⟩
abbrev b_M_fan : ByteArray := prog_7_method_12_code
def y_M_fan : MethodName := ⟨"PressureNetsModel", "fan", "(IIII)I"⟩
abbrev b_M_warmthOf : ByteArray := prog_7_method_13_code
def y_M_warmthOf : MethodName := ⟨"PressureNetsModel", "warmthOf", "(I)I"⟩
abbrev b_M_pressureOf : ByteArray := prog_7_method_14_code
def y_M_pressureOf : MethodName := ⟨"PressureNetsModel", "pressureOf", "(I)I"⟩
abbrev b_M_driveOf : ByteArray := prog_7_method_15_code
def y_M_driveOf : MethodName := ⟨"PressureNetsModel", "driveOf", "(I)I"⟩
abbrev b_M_rootOf : ByteArray := prog_7_method_16_code
def y_M_rootOf : MethodName := ⟨"PressureNetsModel", "rootOf", "(J)J"⟩
abbrev b_M_flowOf : ByteArray := prog_7_method_17_code
def y_M_flowOf : MethodName := ⟨"PressureNetsModel", "flowOf", "(I)J"⟩
abbrev b_M_blown : ByteArray := prog_7_method_18_code
def y_M_blown : MethodName := ⟨"PressureNetsModel", "blown", "(I)J"⟩
abbrev b_M_gainOf : ByteArray := prog_7_method_19_code
def y_M_gainOf : MethodName := ⟨"PressureNetsModel", "gainOf", "(I)J"⟩
abbrev b_M_rise : ByteArray := prog_7_method_20_code
def y_M_rise : MethodName := ⟨"PressureNetsModel", "rise", "(I)Z"⟩
abbrev b_M_make : ByteArray := prog_7_method_21_code
def y_M_make : MethodName := ⟨"PressureNetsModel", "make", "(I)Z"⟩
abbrev b_M_shutOnes : ByteArray := prog_7_method_22_code
def y_M_shutOnes : MethodName := ⟨"PressureNetsModel", "shutOnes", "()I"⟩
abbrev b_M_makeNow : ByteArray := prog_7_method_23_code
def y_M_makeNow : MethodName := ⟨"PressureNetsModel", "makeNow", "()Z"⟩
abbrev b_M_pressure : ByteArray := prog_7_method_24_code
def y_M_pressure : MethodName := ⟨"PressureNetsModel", "pressure", "(I)I"⟩
abbrev b_M_told : ByteArray := prog_7_method_25_code
def y_M_told : MethodName := ⟨"PressureNetsModel", "told", "(II)I"⟩
abbrev b_M_blows : ByteArray := prog_7_method_26_code
def y_M_blows : MethodName := ⟨"PressureNetsModel", "blows", "(I)I"⟩
abbrev b_M_gain : ByteArray := prog_7_method_27_code
def y_M_gain : MethodName := ⟨"PressureNetsModel", "gain", "(I)I"⟩
abbrev b_M_caseOf : ByteArray := prog_7_method_28_code
def y_M_caseOf : MethodName := ⟨"PressureNetsModel", "caseOf", "(I)I"⟩
abbrev b_M_worst : ByteArray := prog_7_method_29_code
def y_M_worst : MethodName := ⟨"PressureNetsModel", "worst", "(II)I"⟩
abbrev b_M_put : ByteArray := prog_7_method_30_code
def y_M_put : MethodName := ⟨"PressureNetsModel", "put", "(II)I"⟩
abbrev b_M_source : ByteArray := prog_7_method_31_code
def y_M_source : MethodName := ⟨"PressureNetsModel", "source", "(II)I"⟩
abbrev b_M_outBy : ByteArray := prog_7_method_32_code
def y_M_outBy : MethodName := ⟨"PressureNetsModel", "outBy", "(II)J"⟩
abbrev b_M_other : ByteArray := prog_7_method_33_code
def y_M_other : MethodName := ⟨"PressureNetsModel", "other", "(II)I"⟩
abbrev b_M_step : ByteArray := prog_7_method_34_code
def y_M_step : MethodName := ⟨"PressureNetsModel", "step", "()Z"⟩
abbrev b_M_steps : ByteArray := prog_7_method_35_code
def y_M_steps : MethodName := ⟨"PressureNetsModel", "steps", "(I)I"⟩
abbrev b_M_gone : ByteArray := prog_7_method_36_code
def y_M_gone : MethodName := ⟨"PressureNetsModel", "gone", "(I)J"⟩
abbrev b_N_init : ByteArray := prog_2_method_1_code
def y_N_init : MethodName := ⟨"PressureNets$Net", "<init>", "()V"⟩
abbrev b_N_addZone : ByteArray := prog_2_method_2_code
def y_N_addZone : MethodName := ⟨"PressureNets$Net", "addZone", "(II)I"⟩
abbrev b_N_changeWind : ByteArray := prog_2_method_3_code
def y_N_changeWind : MethodName := ⟨"PressureNets$Net", "changeWind", "(II)I"⟩
abbrev b_N_changeWarmth : ByteArray := prog_2_method_4_code
def y_N_changeWarmth : MethodName := ⟨"PressureNets$Net", "changeWarmth", "(II)I"⟩
abbrev b_N_addLeak : ByteArray := prog_2_method_5_code
def y_N_addLeak : MethodName := ⟨"PressureNets$Net", "addLeak", "(IIIII)I"⟩
abbrev b_N_addFan : ByteArray := prog_2_method_6_code
def y_N_addFan : MethodName := ⟨"PressureNets$Net", "addFan", "(IIII)I"⟩
abbrev b_N_join : ByteArray := prog_2_method_7_code
def y_N_join : MethodName := ⟨"PressureNets$Net", "join", "(III)V"⟩
abbrev b_N_noteDuct : ByteArray := prog_2_method_8_code
def y_N_noteDuct : MethodName := ⟨"PressureNets$Net", "noteDuct", "(II)V"⟩
abbrev b_N_measureStack : ByteArray := prog_2_method_9_code
def y_N_measureStack : MethodName := ⟨"PressureNets$Net", "measureStack", "(I)V"⟩
abbrev b_N_isDuct : ByteArray := prog_2_method_10_code
def y_N_isDuct : MethodName := ⟨"PressureNets$Net", "isDuct", "(I)Z"⟩
abbrev b_N_driveOf : ByteArray := prog_2_method_11_code
def y_N_driveOf : MethodName := ⟨"PressureNets$Net", "driveOf", "(I[I)I"⟩
abbrev b_N_flowOf : ByteArray := prog_2_method_12_code
def y_N_flowOf : MethodName := ⟨"PressureNets$Net", "flowOf", "(ILPressureNets$State;)I"⟩
abbrev b_N_gainOf : ByteArray := prog_2_method_13_code
def y_N_gainOf : MethodName := ⟨"PressureNets$Net", "gainOf", "(ILPressureNets$State;)I"⟩
abbrev b_N_rootFlow : ByteArray := prog_2_method_14_code
def y_N_rootFlow : MethodName := ⟨"PressureNets$Net", "rootFlow", "(II)I"⟩
abbrev b_S_init : ByteArray := prog_3_method_1_code
def y_S_init : MethodName := ⟨"PressureNets$Settler", "<init>", "(LPressureNets$Net;)V"⟩
abbrev b_S_settles : ByteArray := prog_3_method_2_code
def y_S_settles : MethodName := ⟨"PressureNets$Settler", "settles", "(LPressureNets$State;)Z"⟩
abbrev b_S_begin : ByteArray := prog_3_method_3_code
def y_S_begin : MethodName := ⟨"PressureNets$Settler", "begin", "(LPressureNets$State;)V"⟩
abbrev b_S_isPastHighest : ByteArray := prog_3_method_4_code
def y_S_isPastHighest : MethodName := ⟨"PressureNets$Settler", "isPastHighest", "(LPressureNets$State;)Z"⟩
abbrev b_S_doBout : ByteArray := prog_3_method_5_code
def y_S_doBout : MethodName := ⟨"PressureNets$Settler", "doBout", "(LPressureNets$State;I)I"⟩
abbrev b_S_raises : ByteArray := prog_3_method_6_code
def y_S_raises : MethodName := ⟨"PressureNets$Settler", "raises", "(LPressureNets$State;I)Z"⟩
abbrev b_S_lifts : ByteArray := prog_3_method_7_code
def y_S_lifts : MethodName := ⟨"PressureNets$Settler", "lifts", "(LPressureNets$State;II)Z"⟩
abbrev b_T_init : ByteArray := prog_4_method_1_code
def y_T_init : MethodName := ⟨"PressureNets$State", "<init>", "()V"⟩
abbrev b_U_init : ByteArray := prog_5_method_1_code
def y_U_init : MethodName := ⟨"PressureNets$Stuff", "<init>", "(LPressureNets$Net;)V"⟩
abbrev b_U_follow : ByteArray := prog_5_method_2_code
def y_U_follow : MethodName := ⟨"PressureNets$Stuff", "follow", "(LPressureNets$State;)V"⟩
abbrev b_U_giverOf : ByteArray := prog_5_method_3_code
def y_U_giverOf : MethodName := ⟨"PressureNets$Stuff", "giverOf", "(I)I"⟩
abbrev b_U_takerOf : ByteArray := prog_5_method_4_code
def y_U_takerOf : MethodName := ⟨"PressureNets$Stuff", "takerOf", "(I)I"⟩
abbrev b_U_doesStep : ByteArray := prog_5_method_5_code
def y_U_doesStep : MethodName := ⟨"PressureNets$Stuff", "doesStep", "()Z"⟩
abbrev b_U_carry : ByteArray := prog_5_method_6_code
def y_U_carry : MethodName := ⟨"PressureNets$Stuff", "carry", "(I)V"⟩
abbrev b_L_zone : ByteArray := method_3_code
def y_L_zone : MethodName := ⟨"PressureNetsLaw", "zone", "(LPressureNets;II[J)I"⟩
abbrev b_L_wind : ByteArray := method_4_code
def y_L_wind : MethodName := ⟨"PressureNetsLaw", "wind", "(LPressureNets;II[J)I"⟩
abbrev b_L_warmth : ByteArray := method_5_code
def y_L_warmth : MethodName := ⟨"PressureNetsLaw", "warmth", "(LPressureNets;II[J)I"⟩
abbrev b_L_leak : ByteArray := method_6_code
def y_L_leak : MethodName := ⟨"PressureNetsLaw", "leak", "(LPressureNets;IIIII[J)I"⟩
abbrev b_L_shut : ByteArray := method_7_code
def y_L_shut : MethodName := ⟨"PressureNetsLaw", "shut", "(LPressureNets;IZ[J)I"⟩
abbrev b_L_fan : ByteArray := method_8_code
def y_L_fan : MethodName := ⟨"PressureNetsLaw", "fan", "(LPressureNets;IIII[J)I"⟩
abbrev b_L_pressure : ByteArray := method_9_code
def y_L_pressure : MethodName := ⟨"PressureNetsLaw", "pressure", "(LPressureNets;I[J)I"⟩
abbrev b_L_told : ByteArray := method_10_code
def y_L_told : MethodName := ⟨"PressureNetsLaw", "told", "(LPressureNets;II[J)I"⟩
abbrev b_L_blows : ByteArray := method_11_code
def y_L_blows : MethodName := ⟨"PressureNetsLaw", "blows", "(LPressureNets;I[J)I"⟩
abbrev b_L_gain : ByteArray := method_12_code
def y_L_gain : MethodName := ⟨"PressureNetsLaw", "gain", "(LPressureNets;I[J)I"⟩
abbrev b_L_caseOf : ByteArray := method_13_code
def y_L_caseOf : MethodName := ⟨"PressureNetsLaw", "caseOf", "(LPressureNets;I[J)I"⟩
abbrev b_L_worst : ByteArray := method_14_code
def y_L_worst : MethodName := ⟨"PressureNetsLaw", "worst", "(LPressureNets;II[J)I"⟩
abbrev b_L_put : ByteArray := method_15_code
def y_L_put : MethodName := ⟨"PressureNetsLaw", "put", "(LPressureNets;II[J)I"⟩
abbrev b_L_source : ByteArray := method_16_code
def y_L_source : MethodName := ⟨"PressureNetsLaw", "source", "(LPressureNets;II[J)I"⟩
abbrev b_L_steps : ByteArray := method_17_code
def y_L_steps : MethodName := ⟨"PressureNetsLaw", "steps", "(LPressureNets;I[J)I"⟩
abbrev b_L_gone : ByteArray := method_18_code
def y_L_gone : MethodName := ⟨"PressureNetsLaw", "gone", "(LPressureNets;I[J)I"⟩
-- not reached: ('PressureNetsLaw', 'law', '([I)Z')
def pn_W : List Cond := lw_tbl.filter goodWord
theorem pn_mem {w : Cond} (i : Nat) (h : lw_tbl[i]? = some w) (g : goodWord w = true) : w ∈ pn_W := List.mem_filter.mpr ⟨List.mem_of_getElem? h, g⟩
theorem pn_sub : ∀ w ∈ pn_W, w ∈ lw_tbl := fun _ h => (List.mem_filter.mp h).1
theorem pn_gd {c0 w : Cond} (h : w ∈ pn_W) : w ∈ c0 :: pn_W ∧ ((w.onTables && w.keeps) = true ∨ ∃ ty, w = .arrayClass ty) := ⟨List.mem_cons_of_mem _ h, good_of_word (List.mem_filter.mp h).2⟩
theorem pn_g {c0 c1 : Cond} (h : c1 ∈ pn_W) : GoodIn (c0 :: pn_W) (c1 :: pn_W) := fun w hw => (List.mem_cons.mp hw).elim (fun e => by rw [e]; exact pn_gd h) (fun q => pn_gd q)
theorem pn_gV {c0 c1 : Cond} {own : String} {idx : Nat} {C : String} {y : MethodName} (h1 : Cond.methodLink own idx y ∈ pn_W) (h2 : Cond.instanceMethod y ∈ pn_W) (h3 : Cond.selects C y y ∈ pn_W) (h4 : Cond.initialized C ∈ pn_W) (h : c1 ∈ pn_W) : GoodIn (c0 :: pn_W) (wsV own idx C y (c1 :: pn_W)) := by
  intro w hw
  unfold wsV at hw
  rcases List.mem_append.mp hw with q | q
  · simp only [List.mem_cons, List.not_mem_nil, or_false] at q
    rcases q with rfl | rfl | rfl | rfl
    · exact pn_gd h1
    · exact pn_gd h2
    · exact pn_gd h3
    · exact pn_gd h4
  · exact pn_g h w q
theorem pn_gS {c0 c1 : Cond} {own : String} {idx : Nat} {y : MethodName} (h1 : Cond.methodLink own idx y ∈ pn_W) (h2 : Cond.static y ∈ pn_W) (h3 : Cond.initialized own ∈ pn_W) (h : c1 ∈ pn_W) : GoodIn (c0 :: pn_W) (wsS own idx y (c1 :: pn_W)) := by
  intro w hw
  unfold wsS at hw
  rcases List.mem_append.mp hw with q | q
  · simp only [List.mem_cons, List.not_mem_nil, or_false] at q
    rcases q with rfl | rfl | rfl
    · exact pn_gd h1
    · exact pn_gd h2
    · exact pn_gd h3
  · exact pn_g h w q
end
section
theorem m_0 : (Cond.selects "java/lang/Throwable" ({ cls := "java/lang/Throwable", name := "fillInStackTrace", desc := "(I)Ljava/lang/Throwable;" } : MethodName) ({ cls := "java/lang/Throwable", name := "fillInStackTrace", desc := "(I)Ljava/lang/Throwable;" } : MethodName)) ∈ pn_W := pn_mem 0 (by decide +kernel) (by decide +kernel)
theorem m_1 : (Cond.selects "PressureNets" ({ cls := "PressureNets", name := "isPlace", desc := "(I)Z" } : MethodName) ({ cls := "PressureNets", name := "isPlace", desc := "(I)Z" } : MethodName)) ∈ pn_W := pn_mem 1 (by decide +kernel) (by decide +kernel)
theorem m_2 : (Cond.selects "PressureNets" ({ cls := "PressureNets", name := "isZone", desc := "(I)Z" } : MethodName) ({ cls := "PressureNets", name := "isZone", desc := "(I)Z" } : MethodName)) ∈ pn_W := pn_mem 2 (by decide +kernel) (by decide +kernel)
theorem m_3 : (Cond.selects "PressureNets$Net" ({ cls := "PressureNets$Net", name := "measureStack", desc := "(I)V" } : MethodName) ({ cls := "PressureNets$Net", name := "measureStack", desc := "(I)V" } : MethodName)) ∈ pn_W := pn_mem 3 (by decide +kernel) (by decide +kernel)
theorem m_4 : (Cond.selects "PressureNets" ({ cls := "PressureNets", name := "canJoin", desc := "(II)Z" } : MethodName) ({ cls := "PressureNets", name := "canJoin", desc := "(II)Z" } : MethodName)) ∈ pn_W := pn_mem 4 (by decide +kernel) (by decide +kernel)
theorem m_5 : (Cond.selects "PressureNets$Net" ({ cls := "PressureNets$Net", name := "join", desc := "(III)V" } : MethodName) ({ cls := "PressureNets$Net", name := "join", desc := "(III)V" } : MethodName)) ∈ pn_W := pn_mem 5 (by decide +kernel) (by decide +kernel)
theorem m_6 : (Cond.selects "PressureNets$Net" ({ cls := "PressureNets$Net", name := "noteDuct", desc := "(II)V" } : MethodName) ({ cls := "PressureNets$Net", name := "noteDuct", desc := "(II)V" } : MethodName)) ∈ pn_W := pn_mem 6 (by decide +kernel) (by decide +kernel)
theorem m_7 : (Cond.selects "PressureNets" ({ cls := "PressureNets", name := "isLeak", desc := "(I)Z" } : MethodName) ({ cls := "PressureNets", name := "isLeak", desc := "(I)Z" } : MethodName)) ∈ pn_W := pn_mem 7 (by decide +kernel) (by decide +kernel)
theorem m_8 : (Cond.selects "PressureNets$Settler" ({ cls := "PressureNets$Settler", name := "begin", desc := "(LPressureNets$State;)V" } : MethodName) ({ cls := "PressureNets$Settler", name := "begin", desc := "(LPressureNets$State;)V" } : MethodName)) ∈ pn_W := pn_mem 8 (by decide +kernel) (by decide +kernel)
theorem m_9 : (Cond.selects "PressureNets$Settler" ({ cls := "PressureNets$Settler", name := "isPastHighest", desc := "(LPressureNets$State;)Z" } : MethodName) ({ cls := "PressureNets$Settler", name := "isPastHighest", desc := "(LPressureNets$State;)Z" } : MethodName)) ∈ pn_W := pn_mem 9 (by decide +kernel) (by decide +kernel)
theorem m_10 : (Cond.selects "PressureNets$Settler" ({ cls := "PressureNets$Settler", name := "doBout", desc := "(LPressureNets$State;I)I" } : MethodName) ({ cls := "PressureNets$Settler", name := "doBout", desc := "(LPressureNets$State;I)I" } : MethodName)) ∈ pn_W := pn_mem 10 (by decide +kernel) (by decide +kernel)
theorem m_11 : (Cond.selects "PressureNets$Settler" ({ cls := "PressureNets$Settler", name := "raises", desc := "(LPressureNets$State;I)Z" } : MethodName) ({ cls := "PressureNets$Settler", name := "raises", desc := "(LPressureNets$State;I)Z" } : MethodName)) ∈ pn_W := pn_mem 11 (by decide +kernel) (by decide +kernel)
theorem m_12 : (Cond.selects "PressureNets$Settler" ({ cls := "PressureNets$Settler", name := "lifts", desc := "(LPressureNets$State;II)Z" } : MethodName) ({ cls := "PressureNets$Settler", name := "lifts", desc := "(LPressureNets$State;II)Z" } : MethodName)) ∈ pn_W := pn_mem 12 (by decide +kernel) (by decide +kernel)
theorem m_13 : (Cond.selects "PressureNets$Stuff" ({ cls := "PressureNets$Stuff", name := "giverOf", desc := "(I)I" } : MethodName) ({ cls := "PressureNets$Stuff", name := "giverOf", desc := "(I)I" } : MethodName)) ∈ pn_W := pn_mem 13 (by decide +kernel) (by decide +kernel)
theorem m_14 : (Cond.selects "PressureNets$Stuff" ({ cls := "PressureNets$Stuff", name := "carry", desc := "(I)V" } : MethodName) ({ cls := "PressureNets$Stuff", name := "carry", desc := "(I)V" } : MethodName)) ∈ pn_W := pn_mem 14 (by decide +kernel) (by decide +kernel)
theorem m_15 : (Cond.selects "PressureNets$Stuff" ({ cls := "PressureNets$Stuff", name := "takerOf", desc := "(I)I" } : MethodName) ({ cls := "PressureNets$Stuff", name := "takerOf", desc := "(I)I" } : MethodName)) ∈ pn_W := pn_mem 15 (by decide +kernel) (by decide +kernel)
theorem m_16 : (Cond.selects "PressureNetsModel" ({ cls := "PressureNetsModel", name := "isPlace", desc := "(I)Z" } : MethodName) ({ cls := "PressureNetsModel", name := "isPlace", desc := "(I)Z" } : MethodName)) ∈ pn_W := pn_mem 16 (by decide +kernel) (by decide +kernel)
theorem m_17 : (Cond.selects "PressureNetsModel" ({ cls := "PressureNetsModel", name := "warmthOf", desc := "(I)I" } : MethodName) ({ cls := "PressureNetsModel", name := "warmthOf", desc := "(I)I" } : MethodName)) ∈ pn_W := pn_mem 17 (by decide +kernel) (by decide +kernel)
theorem m_18 : (Cond.selects "PressureNetsModel" ({ cls := "PressureNetsModel", name := "isPair", desc := "(II)Z" } : MethodName) ({ cls := "PressureNetsModel", name := "isPair", desc := "(II)Z" } : MethodName)) ∈ pn_W := pn_mem 18 (by decide +kernel) (by decide +kernel)
theorem m_19 : (Cond.selects "PressureNetsModel" ({ cls := "PressureNetsModel", name := "makeNow", desc := "()Z" } : MethodName) ({ cls := "PressureNetsModel", name := "makeNow", desc := "()Z" } : MethodName)) ∈ pn_W := pn_mem 19 (by decide +kernel) (by decide +kernel)
theorem m_20 : (Cond.selects "PressureNetsModel" ({ cls := "PressureNetsModel", name := "shutOnes", desc := "()I" } : MethodName) ({ cls := "PressureNetsModel", name := "shutOnes", desc := "()I" } : MethodName)) ∈ pn_W := pn_mem 20 (by decide +kernel) (by decide +kernel)
theorem m_21 : (Cond.selects "PressureNetsModel" ({ cls := "PressureNetsModel", name := "make", desc := "(I)Z" } : MethodName) ({ cls := "PressureNetsModel", name := "make", desc := "(I)Z" } : MethodName)) ∈ pn_W := pn_mem 21 (by decide +kernel) (by decide +kernel)
theorem m_22 : (Cond.selects "PressureNetsModel" ({ cls := "PressureNetsModel", name := "gainOf", desc := "(I)J" } : MethodName) ({ cls := "PressureNetsModel", name := "gainOf", desc := "(I)J" } : MethodName)) ∈ pn_W := pn_mem 22 (by decide +kernel) (by decide +kernel)
theorem m_23 : (Cond.selects "PressureNetsModel" ({ cls := "PressureNetsModel", name := "flowOf", desc := "(I)J" } : MethodName) ({ cls := "PressureNetsModel", name := "flowOf", desc := "(I)J" } : MethodName)) ∈ pn_W := pn_mem 23 (by decide +kernel) (by decide +kernel)
theorem m_24 : (Cond.selects "PressureNetsModel" ({ cls := "PressureNetsModel", name := "driveOf", desc := "(I)I" } : MethodName) ({ cls := "PressureNetsModel", name := "driveOf", desc := "(I)I" } : MethodName)) ∈ pn_W := pn_mem 24 (by decide +kernel) (by decide +kernel)
theorem m_25 : (Cond.selects "PressureNetsModel" ({ cls := "PressureNetsModel", name := "pressureOf", desc := "(I)I" } : MethodName) ({ cls := "PressureNetsModel", name := "pressureOf", desc := "(I)I" } : MethodName)) ∈ pn_W := pn_mem 25 (by decide +kernel) (by decide +kernel)
theorem m_26 : (Cond.selects "PressureNetsModel" ({ cls := "PressureNetsModel", name := "blown", desc := "(I)J" } : MethodName) ({ cls := "PressureNetsModel", name := "blown", desc := "(I)J" } : MethodName)) ∈ pn_W := pn_mem 26 (by decide +kernel) (by decide +kernel)
theorem m_27 : (Cond.selects "PressureNetsModel" ({ cls := "PressureNetsModel", name := "rise", desc := "(I)Z" } : MethodName) ({ cls := "PressureNetsModel", name := "rise", desc := "(I)Z" } : MethodName)) ∈ pn_W := pn_mem 27 (by decide +kernel) (by decide +kernel)
theorem m_28 : (Cond.selects "PressureNetsModel" ({ cls := "PressureNetsModel", name := "isZone", desc := "(I)Z" } : MethodName) ({ cls := "PressureNetsModel", name := "isZone", desc := "(I)Z" } : MethodName)) ∈ pn_W := pn_mem 28 (by decide +kernel) (by decide +kernel)
theorem m_29 : (Cond.selects "PressureNetsModel" ({ cls := "PressureNetsModel", name := "step", desc := "()Z" } : MethodName) ({ cls := "PressureNetsModel", name := "step", desc := "()Z" } : MethodName)) ∈ pn_W := pn_mem 29 (by decide +kernel) (by decide +kernel)
theorem m_30 : (Cond.selects "PressureNetsModel" ({ cls := "PressureNetsModel", name := "outBy", desc := "(II)J" } : MethodName) ({ cls := "PressureNetsModel", name := "outBy", desc := "(II)J" } : MethodName)) ∈ pn_W := pn_mem 30 (by decide +kernel) (by decide +kernel)
theorem m_31 : (Cond.selects "PressureNetsModel" ({ cls := "PressureNetsModel", name := "other", desc := "(II)I" } : MethodName) ({ cls := "PressureNetsModel", name := "other", desc := "(II)I" } : MethodName)) ∈ pn_W := pn_mem 31 (by decide +kernel) (by decide +kernel)
theorem m_32 : (Cond.initialized "PressureNetsLaw") ∈ pn_W := pn_mem 32 (by decide +kernel) (by decide +kernel)
theorem m_33 : (Cond.initialized "PressureNets") ∈ pn_W := pn_mem 33 (by decide +kernel) (by decide +kernel)
theorem m_34 : (Cond.initialized "PressureNets$Net") ∈ pn_W := pn_mem 34 (by decide +kernel) (by decide +kernel)
theorem m_35 : (Cond.initialized "PressureNets$Settler") ∈ pn_W := pn_mem 35 (by decide +kernel) (by decide +kernel)
theorem m_36 : (Cond.initialized "PressureNets$Stuff") ∈ pn_W := pn_mem 36 (by decide +kernel) (by decide +kernel)
theorem m_37 : (Cond.initialized "PressureNets$State") ∈ pn_W := pn_mem 37 (by decide +kernel) (by decide +kernel)
theorem m_38 : (Cond.initialized "PressureNetsModel") ∈ pn_W := pn_mem 38 (by decide +kernel) (by decide +kernel)
theorem m_39 : (Cond.initialized "java/lang/Throwable") ∈ pn_W := pn_mem 39 (by decide +kernel) (by decide +kernel)
theorem m_40 : (Cond.initialized "java/lang/Exception") ∈ pn_W := pn_mem 40 (by decide +kernel) (by decide +kernel)
theorem m_41 : (Cond.initialized "java/lang/RuntimeException") ∈ pn_W := pn_mem 41 (by decide +kernel) (by decide +kernel)
theorem m_42 : (Cond.initialized "java/lang/IllegalArgumentException") ∈ pn_W := pn_mem 42 (by decide +kernel) (by decide +kernel)
theorem m_43 : (Cond.initialized "java/lang/IllegalStateException") ∈ pn_W := pn_mem 43 (by decide +kernel) (by decide +kernel)
theorem m_44 : (Cond.initialized "java/util/Arrays") ∈ pn_W := pn_mem 44 (by decide +kernel) (by decide +kernel)
theorem m_45 : (Cond.initialized "java/lang/System") ∈ pn_W := pn_mem 45 (by decide +kernel) (by decide +kernel)
theorem m_46 : (Cond.initialized "java/lang/Math") ∈ pn_W := pn_mem 46 (by decide +kernel) (by decide +kernel)
theorem m_47 : (Cond.classLink "PressureNetsLaw" (8 : Nat) "PressureNets") ∈ pn_W := pn_mem 47 (by decide +kernel) (by decide +kernel)
theorem m_48 : (Cond.instantiable "PressureNets" (6 : Nat)) ∈ pn_W := pn_mem 48 (by decide +kernel) (by decide +kernel)
theorem m_49 : (Cond.methodLink "PressureNetsLaw" (67 : Nat) ({ cls := "PressureNets", name := "<init>", desc := "()V" } : MethodName)) ∈ pn_W := pn_mem 49 (by decide +kernel) (by decide +kernel)
theorem m_50 : (Cond.instanceMethod ({ cls := "PressureNets", name := "<init>", desc := "()V" } : MethodName)) ∈ pn_W := pn_mem 50 (by decide +kernel) (by decide +kernel)
theorem m_51 : (Cond.code ({ cls := "PressureNets", name := "<init>", desc := "()V" } : MethodName) prog_1_method_1_code (2 : Nat) none) ∈ pn_W := pn_mem 51 (by decide +kernel) (by decide +kernel)
theorem m_52 : (Cond.methodLink "PressureNets" (3 : Nat) ({ cls := "java/lang/Object", name := "<init>", desc := "()V" } : MethodName)) ∈ pn_W := pn_mem 52 (by decide +kernel) (by decide +kernel)
theorem m_53 : (Cond.instanceMethod ({ cls := "java/lang/Object", name := "<init>", desc := "()V" } : MethodName)) ∈ pn_W := pn_mem 53 (by decide +kernel) (by decide +kernel)
theorem m_54 : (Cond.code ({ cls := "java/lang/Object", name := "<init>", desc := "()V" } : MethodName) object_method_1_code (1 : Nat) none) ∈ pn_W := pn_mem 54 (by decide +kernel) (by decide +kernel)
theorem m_55 : (Cond.classLink "PressureNets" (9 : Nat) "PressureNets$Net") ∈ pn_W := pn_mem 55 (by decide +kernel) (by decide +kernel)
theorem m_56 : (Cond.instantiable "PressureNets$Net" (17 : Nat)) ∈ pn_W := pn_mem 56 (by decide +kernel) (by decide +kernel)
theorem m_58 : (Cond.instanceMethod ({ cls := "PressureNets$Net", name := "<init>", desc := "()V" } : MethodName)) ∈ pn_W := pn_mem 58 (by decide +kernel) (by decide +kernel)
theorem m_59 : (Cond.code ({ cls := "PressureNets$Net", name := "<init>", desc := "()V" } : MethodName) prog_2_method_1_code (1 : Nat) none) ∈ pn_W := pn_mem 59 (by decide +kernel) (by decide +kernel)
theorem m_60 : (Cond.methodLink "PressureNets$Net" (3 : Nat) ({ cls := "java/lang/Object", name := "<init>", desc := "()V" } : MethodName)) ∈ pn_W := pn_mem 60 (by decide +kernel) (by decide +kernel)
theorem m_61 : (Cond.classLink "PressureNets$Net" (45 : Nat) "[[I") ∈ pn_W := pn_mem 61 (by decide +kernel) (by decide +kernel)
theorem m_63 : (Cond.fieldLink "PressureNets$Net" (9 : Nat) "PressureNets$Net" "wind" "[I") ∈ pn_W := pn_mem 63 (by decide +kernel) (by decide +kernel)
theorem m_64 : (Cond.fieldLink "PressureNets$Settler" (63 : Nat) "PressureNets$Net" "wind" "[I") ∈ pn_W := pn_mem 64 (by decide +kernel) (by decide +kernel)
theorem m_65 : (Cond.fieldLink "PressureNets" (113 : Nat) "PressureNets$Net" "wind" "[I") ∈ pn_W := pn_mem 65 (by decide +kernel) (by decide +kernel)
theorem m_66 : (Cond.fieldLink "PressureNets$Net" (15 : Nat) "PressureNets$Net" "warmthAt" "[I") ∈ pn_W := pn_mem 66 (by decide +kernel) (by decide +kernel)
theorem m_67 : (Cond.fieldLink "PressureNets$Net" (18 : Nat) "PressureNets$Net" "volume" "[I") ∈ pn_W := pn_mem 67 (by decide +kernel) (by decide +kernel)
theorem m_68 : (Cond.fieldLink "PressureNets$Stuff" (64 : Nat) "PressureNets$Net" "volume" "[I") ∈ pn_W := pn_mem 68 (by decide +kernel) (by decide +kernel)
theorem m_69 : (Cond.fieldLink "PressureNets$Net" (21 : Nat) "PressureNets$Net" "from" "[I") ∈ pn_W := pn_mem 69 (by decide +kernel) (by decide +kernel)
theorem m_70 : (Cond.fieldLink "PressureNets$Stuff" (74 : Nat) "PressureNets$Net" "from" "[I") ∈ pn_W := pn_mem 70 (by decide +kernel) (by decide +kernel)
theorem m_71 : (Cond.fieldLink "PressureNets$Net" (24 : Nat) "PressureNets$Net" "to" "[I") ∈ pn_W := pn_mem 71 (by decide +kernel) (by decide +kernel)
theorem m_72 : (Cond.fieldLink "PressureNets$Stuff" (71 : Nat) "PressureNets$Net" "to" "[I") ∈ pn_W := pn_mem 72 (by decide +kernel) (by decide +kernel)
theorem m_73 : (Cond.fieldLink "PressureNets$Net" (27 : Nat) "PressureNets$Net" "height" "[I") ∈ pn_W := pn_mem 73 (by decide +kernel) (by decide +kernel)
theorem m_74 : (Cond.fieldLink "PressureNets$Net" (30 : Nat) "PressureNets$Net" "area" "[I") ∈ pn_W := pn_mem 74 (by decide +kernel) (by decide +kernel)
theorem m_75 : (Cond.fieldLink "PressureNets$Net" (33 : Nat) "PressureNets$Net" "kind" "[I") ∈ pn_W := pn_mem 75 (by decide +kernel) (by decide +kernel)
theorem m_76 : (Cond.fieldLink "PressureNets$Net" (36 : Nat) "PressureNets$Net" "stack" "[I") ∈ pn_W := pn_mem 76 (by decide +kernel) (by decide +kernel)
theorem m_77 : (Cond.fieldLink "PressureNets$Net" (39 : Nat) "PressureNets$Net" "fanFlow" "[I") ∈ pn_W := pn_mem 77 (by decide +kernel) (by decide +kernel)
theorem m_78 : (Cond.fieldLink "PressureNets$Net" (42 : Nat) "PressureNets$Net" "slope" "[I") ∈ pn_W := pn_mem 78 (by decide +kernel) (by decide +kernel)
theorem m_79 : (Cond.fieldLink "PressureNets$Net" (47 : Nat) "PressureNets$Net" "ductsAt" "[[I") ∈ pn_W := pn_mem 79 (by decide +kernel) (by decide +kernel)
theorem m_80 : (Cond.fieldLink "PressureNets$Net" (50 : Nat) "PressureNets$Net" "ductCountAt" "[I") ∈ pn_W := pn_mem 80 (by decide +kernel) (by decide +kernel)
theorem m_81 : (Cond.fieldLink "PressureNets$Net" (53 : Nat) "PressureNets$Net" "zoneCount" "I") ∈ pn_W := pn_mem 81 (by decide +kernel) (by decide +kernel)
theorem m_82 : (Cond.fieldLink "PressureNets" (60 : Nat) "PressureNets$Net" "zoneCount" "I") ∈ pn_W := pn_mem 82 (by decide +kernel) (by decide +kernel)
theorem m_83 : (Cond.fieldLink "PressureNets$Settler" (38 : Nat) "PressureNets$Net" "zoneCount" "I") ∈ pn_W := pn_mem 83 (by decide +kernel) (by decide +kernel)
theorem m_84 : (Cond.fieldLink "PressureNets$Stuff" (57 : Nat) "PressureNets$Net" "zoneCount" "I") ∈ pn_W := pn_mem 84 (by decide +kernel) (by decide +kernel)
theorem m_85 : (Cond.fieldLink "PressureNets$Net" (57 : Nat) "PressureNets$Net" "leakCount" "I") ∈ pn_W := pn_mem 85 (by decide +kernel) (by decide +kernel)
theorem m_86 : (Cond.fieldLink "PressureNets" (90 : Nat) "PressureNets$Net" "leakCount" "I") ∈ pn_W := pn_mem 86 (by decide +kernel) (by decide +kernel)
theorem m_87 : (Cond.fieldLink "PressureNets$Net" (60 : Nat) "PressureNets$Net" "fanCount" "I") ∈ pn_W := pn_mem 87 (by decide +kernel) (by decide +kernel)
theorem m_88 : (Cond.fieldLink "PressureNets" (106 : Nat) "PressureNets$Net" "fanCount" "I") ∈ pn_W := pn_mem 88 (by decide +kernel) (by decide +kernel)
theorem m_89 : (Cond.fieldLink "PressureNets$Net" (63 : Nat) "PressureNets$Net" "version" "I") ∈ pn_W := pn_mem 89 (by decide +kernel) (by decide +kernel)
theorem m_90 : (Cond.fieldLink "PressureNets$Settler" (25 : Nat) "PressureNets$Net" "version" "I") ∈ pn_W := pn_mem 90 (by decide +kernel) (by decide +kernel)
theorem m_91 : (Cond.laysFinal "PressureNets$Net" "PressureNets$Net" "wind" "[I") ∈ pn_W := pn_mem 91 (by decide +kernel) (by decide +kernel)
theorem m_92 : (Cond.soleField "PressureNets$Net" "wind") ∈ pn_W := pn_mem 92 (by decide +kernel) (by decide +kernel)
theorem m_93 : (Cond.laysFinal "PressureNets$Net" "PressureNets$Net" "warmthAt" "[I") ∈ pn_W := pn_mem 93 (by decide +kernel) (by decide +kernel)
theorem m_94 : (Cond.soleField "PressureNets$Net" "warmthAt") ∈ pn_W := pn_mem 94 (by decide +kernel) (by decide +kernel)
theorem m_95 : (Cond.laysFinal "PressureNets$Net" "PressureNets$Net" "volume" "[I") ∈ pn_W := pn_mem 95 (by decide +kernel) (by decide +kernel)
theorem m_96 : (Cond.soleField "PressureNets$Net" "volume") ∈ pn_W := pn_mem 96 (by decide +kernel) (by decide +kernel)
theorem m_97 : (Cond.laysFinal "PressureNets$Net" "PressureNets$Net" "from" "[I") ∈ pn_W := pn_mem 97 (by decide +kernel) (by decide +kernel)
theorem m_98 : (Cond.soleField "PressureNets$Net" "from") ∈ pn_W := pn_mem 98 (by decide +kernel) (by decide +kernel)
theorem m_99 : (Cond.laysFinal "PressureNets$Net" "PressureNets$Net" "to" "[I") ∈ pn_W := pn_mem 99 (by decide +kernel) (by decide +kernel)
theorem m_100 : (Cond.soleField "PressureNets$Net" "to") ∈ pn_W := pn_mem 100 (by decide +kernel) (by decide +kernel)
theorem m_101 : (Cond.laysFinal "PressureNets$Net" "PressureNets$Net" "height" "[I") ∈ pn_W := pn_mem 101 (by decide +kernel) (by decide +kernel)
theorem m_102 : (Cond.soleField "PressureNets$Net" "height") ∈ pn_W := pn_mem 102 (by decide +kernel) (by decide +kernel)
theorem m_103 : (Cond.laysFinal "PressureNets$Net" "PressureNets$Net" "area" "[I") ∈ pn_W := pn_mem 103 (by decide +kernel) (by decide +kernel)
theorem m_104 : (Cond.soleField "PressureNets$Net" "area") ∈ pn_W := pn_mem 104 (by decide +kernel) (by decide +kernel)
theorem m_105 : (Cond.laysFinal "PressureNets$Net" "PressureNets$Net" "kind" "[I") ∈ pn_W := pn_mem 105 (by decide +kernel) (by decide +kernel)
theorem m_106 : (Cond.soleField "PressureNets$Net" "kind") ∈ pn_W := pn_mem 106 (by decide +kernel) (by decide +kernel)
theorem m_107 : (Cond.laysFinal "PressureNets$Net" "PressureNets$Net" "stack" "[I") ∈ pn_W := pn_mem 107 (by decide +kernel) (by decide +kernel)
theorem m_108 : (Cond.soleField "PressureNets$Net" "stack") ∈ pn_W := pn_mem 108 (by decide +kernel) (by decide +kernel)
theorem m_109 : (Cond.laysFinal "PressureNets$Net" "PressureNets$Net" "fanFlow" "[I") ∈ pn_W := pn_mem 109 (by decide +kernel) (by decide +kernel)
theorem m_110 : (Cond.soleField "PressureNets$Net" "fanFlow") ∈ pn_W := pn_mem 110 (by decide +kernel) (by decide +kernel)
theorem m_111 : (Cond.laysFinal "PressureNets$Net" "PressureNets$Net" "slope" "[I") ∈ pn_W := pn_mem 111 (by decide +kernel) (by decide +kernel)
theorem m_112 : (Cond.soleField "PressureNets$Net" "slope") ∈ pn_W := pn_mem 112 (by decide +kernel) (by decide +kernel)
theorem m_113 : (Cond.laysFinal "PressureNets$Net" "PressureNets$Net" "ductsAt" "[[I") ∈ pn_W := pn_mem 113 (by decide +kernel) (by decide +kernel)
theorem m_114 : (Cond.soleField "PressureNets$Net" "ductsAt") ∈ pn_W := pn_mem 114 (by decide +kernel) (by decide +kernel)
theorem m_115 : (Cond.laysFinal "PressureNets$Net" "PressureNets$Net" "ductCountAt" "[I") ∈ pn_W := pn_mem 115 (by decide +kernel) (by decide +kernel)
theorem m_116 : (Cond.soleField "PressureNets$Net" "ductCountAt") ∈ pn_W := pn_mem 116 (by decide +kernel) (by decide +kernel)
theorem m_117 : (Cond.lays "PressureNets$Net" "PressureNets$Net" "zoneCount" "I") ∈ pn_W := pn_mem 117 (by decide +kernel) (by decide +kernel)
theorem m_118 : (Cond.soleField "PressureNets$Net" "zoneCount") ∈ pn_W := pn_mem 118 (by decide +kernel) (by decide +kernel)
theorem m_119 : (Cond.lays "PressureNets$Net" "PressureNets$Net" "leakCount" "I") ∈ pn_W := pn_mem 119 (by decide +kernel) (by decide +kernel)
theorem m_120 : (Cond.soleField "PressureNets$Net" "leakCount") ∈ pn_W := pn_mem 120 (by decide +kernel) (by decide +kernel)
theorem m_121 : (Cond.lays "PressureNets$Net" "PressureNets$Net" "fanCount" "I") ∈ pn_W := pn_mem 121 (by decide +kernel) (by decide +kernel)
theorem m_122 : (Cond.soleField "PressureNets$Net" "fanCount") ∈ pn_W := pn_mem 122 (by decide +kernel) (by decide +kernel)
theorem m_123 : (Cond.lays "PressureNets$Net" "PressureNets$Net" "version" "I") ∈ pn_W := pn_mem 123 (by decide +kernel) (by decide +kernel)
theorem m_124 : (Cond.soleField "PressureNets$Net" "version") ∈ pn_W := pn_mem 124 (by decide +kernel) (by decide +kernel)
theorem m_125 : (Cond.superclass "PressureNets$Net" "java/lang/Object") ∈ pn_W := pn_mem 125 (by decide +kernel) (by decide +kernel)
theorem m_126 : (Cond.arrayClass FieldType.int) ∈ pn_W := pn_mem 126 (by decide +kernel) (by decide +kernel)
theorem m_127 : (Cond.classLink "PressureNets" (16 : Nat) "PressureNets$Settler") ∈ pn_W := pn_mem 127 (by decide +kernel) (by decide +kernel)
theorem m_128 : (Cond.instantiable "PressureNets$Settler" (2 : Nat)) ∈ pn_W := pn_mem 128 (by decide +kernel) (by decide +kernel)
theorem m_129 : (Cond.methodLink "PressureNets" (18 : Nat) ({ cls := "PressureNets$Settler", name := "<init>", desc := "(LPressureNets$Net;)V" } : MethodName)) ∈ pn_W := pn_mem 129 (by decide +kernel) (by decide +kernel)
theorem m_130 : (Cond.instanceMethod ({ cls := "PressureNets$Settler", name := "<init>", desc := "(LPressureNets$Net;)V" } : MethodName)) ∈ pn_W := pn_mem 130 (by decide +kernel) (by decide +kernel)
theorem m_131 : (Cond.code ({ cls := "PressureNets$Settler", name := "<init>", desc := "(LPressureNets$Net;)V" } : MethodName) prog_3_method_1_code (2 : Nat) none) ∈ pn_W := pn_mem 131 (by decide +kernel) (by decide +kernel)
theorem m_132 : (Cond.methodLink "PressureNets$Settler" (3 : Nat) ({ cls := "java/lang/Object", name := "<init>", desc := "()V" } : MethodName)) ∈ pn_W := pn_mem 132 (by decide +kernel) (by decide +kernel)
theorem m_133 : (Cond.fieldLink "PressureNets$Settler" (15 : Nat) "PressureNets$Settler" "net" "LPressureNets$Net;") ∈ pn_W := pn_mem 133 (by decide +kernel) (by decide +kernel)
theorem m_134 : (Cond.fieldLink "PressureNets$Settler" (9 : Nat) "PressureNets$Settler" "before" "[I") ∈ pn_W := pn_mem 134 (by decide +kernel) (by decide +kernel)
theorem m_135 : (Cond.laysFinal "PressureNets$Settler" "PressureNets$Settler" "net" "LPressureNets$Net;") ∈ pn_W := pn_mem 135 (by decide +kernel) (by decide +kernel)
theorem m_136 : (Cond.soleField "PressureNets$Settler" "net") ∈ pn_W := pn_mem 136 (by decide +kernel) (by decide +kernel)
theorem m_137 : (Cond.laysFinal "PressureNets$Settler" "PressureNets$Settler" "before" "[I") ∈ pn_W := pn_mem 137 (by decide +kernel) (by decide +kernel)
theorem m_138 : (Cond.soleField "PressureNets$Settler" "before") ∈ pn_W := pn_mem 138 (by decide +kernel) (by decide +kernel)
theorem m_139 : (Cond.superclass "PressureNets$Settler" "java/lang/Object") ∈ pn_W := pn_mem 139 (by decide +kernel) (by decide +kernel)
theorem m_140 : (Cond.classLink "PressureNets" (25 : Nat) "PressureNets$Stuff") ∈ pn_W := pn_mem 140 (by decide +kernel) (by decide +kernel)
theorem m_141 : (Cond.instantiable "PressureNets$Stuff" (6 : Nat)) ∈ pn_W := pn_mem 141 (by decide +kernel) (by decide +kernel)
theorem m_142 : (Cond.methodLink "PressureNets" (27 : Nat) ({ cls := "PressureNets$Stuff", name := "<init>", desc := "(LPressureNets$Net;)V" } : MethodName)) ∈ pn_W := pn_mem 142 (by decide +kernel) (by decide +kernel)
theorem m_143 : (Cond.instanceMethod ({ cls := "PressureNets$Stuff", name := "<init>", desc := "(LPressureNets$Net;)V" } : MethodName)) ∈ pn_W := pn_mem 143 (by decide +kernel) (by decide +kernel)
theorem m_144 : (Cond.code ({ cls := "PressureNets$Stuff", name := "<init>", desc := "(LPressureNets$Net;)V" } : MethodName) prog_5_method_1_code (2 : Nat) none) ∈ pn_W := pn_mem 144 (by decide +kernel) (by decide +kernel)
theorem m_145 : (Cond.methodLink "PressureNets$Stuff" (3 : Nat) ({ cls := "java/lang/Object", name := "<init>", desc := "()V" } : MethodName)) ∈ pn_W := pn_mem 145 (by decide +kernel) (by decide +kernel)
theorem m_146 : (Cond.fieldLink "PressureNets$Stuff" (9 : Nat) "PressureNets$Stuff" "held" "[J") ∈ pn_W := pn_mem 146 (by decide +kernel) (by decide +kernel)
theorem m_147 : (Cond.fieldLink "PressureNets" (144 : Nat) "PressureNets$Stuff" "held" "[J") ∈ pn_W := pn_mem 147 (by decide +kernel) (by decide +kernel)
theorem m_148 : (Cond.fieldLink "PressureNets$Stuff" (15 : Nat) "PressureNets$Stuff" "sources" "[I") ∈ pn_W := pn_mem 148 (by decide +kernel) (by decide +kernel)
theorem m_149 : (Cond.fieldLink "PressureNets" (151 : Nat) "PressureNets$Stuff" "sources" "[I") ∈ pn_W := pn_mem 149 (by decide +kernel) (by decide +kernel)
theorem m_150 : (Cond.fieldLink "PressureNets$Stuff" (28 : Nat) "PressureNets$Stuff" "net" "LPressureNets$Net;") ∈ pn_W := pn_mem 150 (by decide +kernel) (by decide +kernel)
theorem m_151 : (Cond.fieldLink "PressureNets$Stuff" (19 : Nat) "PressureNets$Stuff" "flows" "[I") ∈ pn_W := pn_mem 151 (by decide +kernel) (by decide +kernel)
theorem m_152 : (Cond.fieldLink "PressureNets$Stuff" (22 : Nat) "PressureNets$Stuff" "wholes" "[J") ∈ pn_W := pn_mem 152 (by decide +kernel) (by decide +kernel)
theorem m_153 : (Cond.fieldLink "PressureNets$Stuff" (25 : Nat) "PressureNets$Stuff" "then" "[J") ∈ pn_W := pn_mem 153 (by decide +kernel) (by decide +kernel)
theorem m_154 : (Cond.laysFinal "PressureNets$Stuff" "PressureNets$Stuff" "held" "[J") ∈ pn_W := pn_mem 154 (by decide +kernel) (by decide +kernel)
theorem m_155 : (Cond.soleField "PressureNets$Stuff" "held") ∈ pn_W := pn_mem 155 (by decide +kernel) (by decide +kernel)
theorem m_156 : (Cond.laysFinal "PressureNets$Stuff" "PressureNets$Stuff" "sources" "[I") ∈ pn_W := pn_mem 156 (by decide +kernel) (by decide +kernel)
theorem m_157 : (Cond.soleField "PressureNets$Stuff" "sources") ∈ pn_W := pn_mem 157 (by decide +kernel) (by decide +kernel)
theorem m_158 : (Cond.laysFinal "PressureNets$Stuff" "PressureNets$Stuff" "net" "LPressureNets$Net;") ∈ pn_W := pn_mem 158 (by decide +kernel) (by decide +kernel)
theorem m_159 : (Cond.soleField "PressureNets$Stuff" "net") ∈ pn_W := pn_mem 159 (by decide +kernel) (by decide +kernel)
theorem m_160 : (Cond.laysFinal "PressureNets$Stuff" "PressureNets$Stuff" "flows" "[I") ∈ pn_W := pn_mem 160 (by decide +kernel) (by decide +kernel)
theorem m_161 : (Cond.soleField "PressureNets$Stuff" "flows") ∈ pn_W := pn_mem 161 (by decide +kernel) (by decide +kernel)
theorem m_162 : (Cond.laysFinal "PressureNets$Stuff" "PressureNets$Stuff" "wholes" "[J") ∈ pn_W := pn_mem 162 (by decide +kernel) (by decide +kernel)
theorem m_163 : (Cond.soleField "PressureNets$Stuff" "wholes") ∈ pn_W := pn_mem 163 (by decide +kernel) (by decide +kernel)
theorem m_164 : (Cond.laysFinal "PressureNets$Stuff" "PressureNets$Stuff" "then" "[J") ∈ pn_W := pn_mem 164 (by decide +kernel) (by decide +kernel)
theorem m_165 : (Cond.soleField "PressureNets$Stuff" "then") ∈ pn_W := pn_mem 165 (by decide +kernel) (by decide +kernel)
theorem m_166 : (Cond.superclass "PressureNets$Stuff" "java/lang/Object") ∈ pn_W := pn_mem 166 (by decide +kernel) (by decide +kernel)
theorem m_167 : (Cond.arrayClass FieldType.long) ∈ pn_W := pn_mem 167 (by decide +kernel) (by decide +kernel)
theorem m_168 : (Cond.classLink "PressureNets" (32 : Nat) "PressureNets$State") ∈ pn_W := pn_mem 168 (by decide +kernel) (by decide +kernel)
theorem m_169 : (Cond.instantiable "PressureNets$State" (4 : Nat)) ∈ pn_W := pn_mem 169 (by decide +kernel) (by decide +kernel)
theorem m_171 : (Cond.instanceMethod ({ cls := "PressureNets$State", name := "<init>", desc := "()V" } : MethodName)) ∈ pn_W := pn_mem 171 (by decide +kernel) (by decide +kernel)
theorem m_172 : (Cond.code ({ cls := "PressureNets$State", name := "<init>", desc := "()V" } : MethodName) prog_4_method_1_code (1 : Nat) none) ∈ pn_W := pn_mem 172 (by decide +kernel) (by decide +kernel)
theorem m_173 : (Cond.methodLink "PressureNets$State" (3 : Nat) ({ cls := "java/lang/Object", name := "<init>", desc := "()V" } : MethodName)) ∈ pn_W := pn_mem 173 (by decide +kernel) (by decide +kernel)
theorem m_174 : (Cond.fieldLink "PressureNets$State" (9 : Nat) "PressureNets$State" "pressure" "[I") ∈ pn_W := pn_mem 174 (by decide +kernel) (by decide +kernel)
theorem m_175 : (Cond.fieldLink "PressureNets$Settler" (54 : Nat) "PressureNets$State" "pressure" "[I") ∈ pn_W := pn_mem 175 (by decide +kernel) (by decide +kernel)
theorem m_176 : (Cond.fieldLink "PressureNets" (121 : Nat) "PressureNets$State" "pressure" "[I") ∈ pn_W := pn_mem 176 (by decide +kernel) (by decide +kernel)
theorem m_177 : (Cond.fieldLink "PressureNets$Net" (85 : Nat) "PressureNets$State" "pressure" "[I") ∈ pn_W := pn_mem 177 (by decide +kernel) (by decide +kernel)
theorem m_178 : (Cond.fieldLink "PressureNets$State" (15 : Nat) "PressureNets$State" "shutSet" "I") ∈ pn_W := pn_mem 178 (by decide +kernel) (by decide +kernel)
theorem m_179 : (Cond.fieldLink "PressureNets" (100 : Nat) "PressureNets$State" "shutSet" "I") ∈ pn_W := pn_mem 179 (by decide +kernel) (by decide +kernel)
theorem m_180 : (Cond.fieldLink "PressureNets$Net" (99 : Nat) "PressureNets$State" "shutSet" "I") ∈ pn_W := pn_mem 180 (by decide +kernel) (by decide +kernel)
theorem m_181 : (Cond.fieldLink "PressureNets$State" (19 : Nat) "PressureNets$State" "madeFor" "I") ∈ pn_W := pn_mem 181 (by decide +kernel) (by decide +kernel)
theorem m_182 : (Cond.fieldLink "PressureNets$Settler" (19 : Nat) "PressureNets$State" "madeFor" "I") ∈ pn_W := pn_mem 182 (by decide +kernel) (by decide +kernel)
theorem m_183 : (Cond.fieldLink "PressureNets" (103 : Nat) "PressureNets$State" "madeFor" "I") ∈ pn_W := pn_mem 183 (by decide +kernel) (by decide +kernel)
theorem m_184 : (Cond.fieldLink "PressureNets$State" (22 : Nat) "PressureNets$State" "stands" "Z") ∈ pn_W := pn_mem 184 (by decide +kernel) (by decide +kernel)
theorem m_185 : (Cond.fieldLink "PressureNets$Settler" (30 : Nat) "PressureNets$State" "stands" "Z") ∈ pn_W := pn_mem 185 (by decide +kernel) (by decide +kernel)
theorem m_186 : (Cond.laysFinal "PressureNets$State" "PressureNets$State" "pressure" "[I") ∈ pn_W := pn_mem 186 (by decide +kernel) (by decide +kernel)
theorem m_187 : (Cond.soleField "PressureNets$State" "pressure") ∈ pn_W := pn_mem 187 (by decide +kernel) (by decide +kernel)
theorem m_188 : (Cond.lays "PressureNets$State" "PressureNets$State" "shutSet" "I") ∈ pn_W := pn_mem 188 (by decide +kernel) (by decide +kernel)
theorem m_189 : (Cond.soleField "PressureNets$State" "shutSet") ∈ pn_W := pn_mem 189 (by decide +kernel) (by decide +kernel)
theorem m_190 : (Cond.lays "PressureNets$State" "PressureNets$State" "madeFor" "I") ∈ pn_W := pn_mem 190 (by decide +kernel) (by decide +kernel)
theorem m_191 : (Cond.soleField "PressureNets$State" "madeFor") ∈ pn_W := pn_mem 191 (by decide +kernel) (by decide +kernel)
theorem m_192 : (Cond.lays "PressureNets$State" "PressureNets$State" "stands" "Z") ∈ pn_W := pn_mem 192 (by decide +kernel) (by decide +kernel)
theorem m_193 : (Cond.soleField "PressureNets$State" "stands") ∈ pn_W := pn_mem 193 (by decide +kernel) (by decide +kernel)
theorem m_194 : (Cond.superclass "PressureNets$State" "java/lang/Object") ∈ pn_W := pn_mem 194 (by decide +kernel) (by decide +kernel)
theorem m_196 : (Cond.fieldLink "PressureNets" (12 : Nat) "PressureNets" "net" "LPressureNets$Net;") ∈ pn_W := pn_mem 196 (by decide +kernel) (by decide +kernel)
theorem m_197 : (Cond.fieldLink "PressureNets" (21 : Nat) "PressureNets" "settler" "LPressureNets$Settler;") ∈ pn_W := pn_mem 197 (by decide +kernel) (by decide +kernel)
theorem m_198 : (Cond.fieldLink "PressureNets" (28 : Nat) "PressureNets" "stuff" "LPressureNets$Stuff;") ∈ pn_W := pn_mem 198 (by decide +kernel) (by decide +kernel)
theorem m_199 : (Cond.fieldLink "PressureNets" (35 : Nat) "PressureNets" "present" "LPressureNets$State;") ∈ pn_W := pn_mem 199 (by decide +kernel) (by decide +kernel)
theorem m_200 : (Cond.fieldLink "PressureNets" (39 : Nat) "PressureNets" "cases" "[LPressureNets$State;") ∈ pn_W := pn_mem 200 (by decide +kernel) (by decide +kernel)
theorem m_201 : (Cond.fieldLink "PressureNets" (43 : Nat) "PressureNets" "caseCount" "I") ∈ pn_W := pn_mem 201 (by decide +kernel) (by decide +kernel)
theorem m_202 : (Cond.laysFinal "PressureNets" "PressureNets" "net" "LPressureNets$Net;") ∈ pn_W := pn_mem 202 (by decide +kernel) (by decide +kernel)
theorem m_203 : (Cond.soleField "PressureNets" "net") ∈ pn_W := pn_mem 203 (by decide +kernel) (by decide +kernel)
theorem m_204 : (Cond.laysFinal "PressureNets" "PressureNets" "settler" "LPressureNets$Settler;") ∈ pn_W := pn_mem 204 (by decide +kernel) (by decide +kernel)
theorem m_205 : (Cond.soleField "PressureNets" "settler") ∈ pn_W := pn_mem 205 (by decide +kernel) (by decide +kernel)
theorem m_206 : (Cond.laysFinal "PressureNets" "PressureNets" "stuff" "LPressureNets$Stuff;") ∈ pn_W := pn_mem 206 (by decide +kernel) (by decide +kernel)
theorem m_207 : (Cond.soleField "PressureNets" "stuff") ∈ pn_W := pn_mem 207 (by decide +kernel) (by decide +kernel)
theorem m_208 : (Cond.laysFinal "PressureNets" "PressureNets" "present" "LPressureNets$State;") ∈ pn_W := pn_mem 208 (by decide +kernel) (by decide +kernel)
theorem m_209 : (Cond.soleField "PressureNets" "present") ∈ pn_W := pn_mem 209 (by decide +kernel) (by decide +kernel)
theorem m_210 : (Cond.laysFinal "PressureNets" "PressureNets" "cases" "[LPressureNets$State;") ∈ pn_W := pn_mem 210 (by decide +kernel) (by decide +kernel)
theorem m_211 : (Cond.soleField "PressureNets" "cases") ∈ pn_W := pn_mem 211 (by decide +kernel) (by decide +kernel)
theorem m_212 : (Cond.lays "PressureNets" "PressureNets" "caseCount" "I") ∈ pn_W := pn_mem 212 (by decide +kernel) (by decide +kernel)
theorem m_213 : (Cond.soleField "PressureNets" "caseCount") ∈ pn_W := pn_mem 213 (by decide +kernel) (by decide +kernel)
theorem m_214 : (Cond.superclass "PressureNets" "java/lang/Object") ∈ pn_W := pn_mem 214 (by decide +kernel) (by decide +kernel)
theorem m_215 : (Cond.methodLink "PressureNetsLaw" (71 : Nat) ({ cls := "PressureNetsLaw", name := "zone", desc := "(LPressureNets;II[J)I" } : MethodName)) ∈ pn_W := pn_mem 215 (by decide +kernel) (by decide +kernel)
theorem m_216 : (Cond.static ({ cls := "PressureNetsLaw", name := "zone", desc := "(LPressureNets;II[J)I" } : MethodName)) ∈ pn_W := pn_mem 216 (by decide +kernel) (by decide +kernel)
theorem m_218 : (Cond.classLink "PressureNetsLaw" (13 : Nat) "java/lang/IllegalArgumentException") ∈ pn_W := pn_mem 218 (by decide +kernel) (by decide +kernel)
theorem m_219 : (Cond.classLink "PressureNetsLaw" (15 : Nat) "java/lang/IllegalStateException") ∈ pn_W := pn_mem 219 (by decide +kernel) (by decide +kernel)
theorem m_220 : (Cond.methodLink "PressureNetsLaw" (7 : Nat) ({ cls := "PressureNets", name := "zone", desc := "(II)I" } : MethodName)) ∈ pn_W := pn_mem 220 (by decide +kernel) (by decide +kernel)
theorem m_221 : (Cond.instanceMethod ({ cls := "PressureNets", name := "zone", desc := "(II)I" } : MethodName)) ∈ pn_W := pn_mem 221 (by decide +kernel) (by decide +kernel)
theorem m_222 : (Cond.selects "PressureNets" ({ cls := "PressureNets", name := "zone", desc := "(II)I" } : MethodName) ({ cls := "PressureNets", name := "zone", desc := "(II)I" } : MethodName)) ∈ pn_W := pn_mem 222 (by decide +kernel) (by decide +kernel)
theorem m_223 : (Cond.code ({ cls := "PressureNets", name := "zone", desc := "(II)I" } : MethodName) prog_1_method_2_code (3 : Nat) (Option.some FieldType.int)) ∈ pn_W := pn_mem 223 (by decide +kernel) (by decide +kernel)
theorem m_224 : (Cond.methodLink "PressureNets" (47 : Nat) ({ cls := "PressureNets", name := "isWarmth", desc := "(I)Z" } : MethodName)) ∈ pn_W := pn_mem 224 (by decide +kernel) (by decide +kernel)
theorem m_225 : (Cond.static ({ cls := "PressureNets", name := "isWarmth", desc := "(I)Z" } : MethodName)) ∈ pn_W := pn_mem 225 (by decide +kernel) (by decide +kernel)
theorem m_226 : (Cond.code ({ cls := "PressureNets", name := "isWarmth", desc := "(I)Z" } : MethodName) prog_1_method_21_code (1 : Nat) (Option.some FieldType.boolean)) ∈ pn_W := pn_mem 226 (by decide +kernel) (by decide +kernel)
theorem m_227 : (Cond.methodLink "PressureNets" (52 : Nat) ({ cls := "PressureNets", name := "isWithin", desc := "(III)Z" } : MethodName)) ∈ pn_W := pn_mem 227 (by decide +kernel) (by decide +kernel)
theorem m_228 : (Cond.static ({ cls := "PressureNets", name := "isWithin", desc := "(III)Z" } : MethodName)) ∈ pn_W := pn_mem 228 (by decide +kernel) (by decide +kernel)
theorem m_229 : (Cond.code ({ cls := "PressureNets", name := "isWithin", desc := "(III)Z" } : MethodName) prog_1_method_20_code (3 : Nat) (Option.some FieldType.boolean)) ∈ pn_W := pn_mem 229 (by decide +kernel) (by decide +kernel)
theorem m_230 : (Cond.constant "PressureNets" (51 : Nat) (100000 : Int32)) ∈ pn_W := pn_mem 230 (by decide +kernel) (by decide +kernel)
theorem m_231 : (Cond.methodLink "PressureNets" (56 : Nat) ({ cls := "PressureNets", name := "demandLegal", desc := "(Z)V" } : MethodName)) ∈ pn_W := pn_mem 231 (by decide +kernel) (by decide +kernel)
theorem m_232 : (Cond.static ({ cls := "PressureNets", name := "demandLegal", desc := "(Z)V" } : MethodName)) ∈ pn_W := pn_mem 232 (by decide +kernel) (by decide +kernel)
theorem m_233 : (Cond.code ({ cls := "PressureNets", name := "demandLegal", desc := "(Z)V" } : MethodName) prog_1_method_18_code (1 : Nat) none) ∈ pn_W := pn_mem 233 (by decide +kernel) (by decide +kernel)
theorem m_234 : (Cond.classLink "PressureNets" (162 : Nat) "java/lang/IllegalArgumentException") ∈ pn_W := pn_mem 234 (by decide +kernel) (by decide +kernel)
theorem m_235 : (Cond.instantiable "java/lang/IllegalArgumentException" (6 : Nat)) ∈ pn_W := pn_mem 235 (by decide +kernel) (by decide +kernel)
theorem m_243 : (Cond.selects "java/lang/IllegalArgumentException" ({ cls := "java/lang/Throwable", name := "fillInStackTrace", desc := "(I)Ljava/lang/Throwable;" } : MethodName) ({ cls := "java/lang/Throwable", name := "fillInStackTrace", desc := "(I)Ljava/lang/Throwable;" } : MethodName)) ∈ pn_W := pn_mem 243 (by decide +kernel) (by decide +kernel)
theorem m_244 : (Cond.selects "java/lang/IllegalArgumentException" ({ cls := "java/lang/Throwable", name := "fillInStackTrace", desc := "()Ljava/lang/Throwable;" } : MethodName) ({ cls := "java/lang/Throwable", name := "fillInStackTrace", desc := "()Ljava/lang/Throwable;" } : MethodName)) ∈ pn_W := pn_mem 244 (by decide +kernel) (by decide +kernel)
theorem m_245 : (Cond.lays "java/lang/IllegalArgumentException" "java/lang/Throwable" "cause" "Ljava/lang/Throwable;") ∈ pn_W := pn_mem 245 (by decide +kernel) (by decide +kernel)
theorem m_246 : (Cond.lays "java/lang/Throwable" "java/lang/Throwable" "cause" "Ljava/lang/Throwable;") ∈ pn_W := pn_mem 246 (by decide +kernel) (by decide +kernel)
theorem m_247 : (Cond.lays "java/lang/IllegalArgumentException" "java/lang/Throwable" "stackTrace" "[Ljava/lang/StackTraceElement;") ∈ pn_W := pn_mem 247 (by decide +kernel) (by decide +kernel)
theorem m_248 : (Cond.lays "java/lang/Throwable" "java/lang/Throwable" "stackTrace" "[Ljava/lang/StackTraceElement;") ∈ pn_W := pn_mem 248 (by decide +kernel) (by decide +kernel)
theorem m_249 : (Cond.lays "java/lang/IllegalArgumentException" "java/lang/Throwable" "suppressedExceptions" "Ljava/util/List;") ∈ pn_W := pn_mem 249 (by decide +kernel) (by decide +kernel)
theorem m_250 : (Cond.lays "java/lang/Throwable" "java/lang/Throwable" "suppressedExceptions" "Ljava/util/List;") ∈ pn_W := pn_mem 250 (by decide +kernel) (by decide +kernel)
theorem m_251 : (Cond.lays "java/lang/IllegalArgumentException" "java/lang/Throwable" "detailMessage" "Ljava/lang/String;") ∈ pn_W := pn_mem 251 (by decide +kernel) (by decide +kernel)
theorem m_252 : (Cond.lays "java/lang/Throwable" "java/lang/Throwable" "detailMessage" "Ljava/lang/String;") ∈ pn_W := pn_mem 252 (by decide +kernel) (by decide +kernel)
theorem m_253 : (Cond.lays "java/lang/IllegalArgumentException" "java/lang/Throwable" "backtrace" "Ljava/lang/Object;") ∈ pn_W := pn_mem 253 (by decide +kernel) (by decide +kernel)
theorem m_254 : (Cond.lays "java/lang/Throwable" "java/lang/Throwable" "backtrace" "Ljava/lang/Object;") ∈ pn_W := pn_mem 254 (by decide +kernel) (by decide +kernel)
theorem m_255 : (Cond.fieldLink "java/lang/Throwable" (198 : Nat) "java/lang/Throwable" "backtrace" "Ljava/lang/Object;") ∈ pn_W := pn_mem 255 (by decide +kernel) (by decide +kernel)
theorem m_256 : (Cond.superclass "java/lang/Throwable" "java/lang/Object") ∈ pn_W := pn_mem 256 (by decide +kernel) (by decide +kernel)
theorem m_257 : (Cond.instanceMethod ({ cls := "java/lang/Throwable", name := "<init>", desc := "()V" } : MethodName)) ∈ pn_W := pn_mem 257 (by decide +kernel) (by decide +kernel)
theorem m_258 : (Cond.code ({ cls := "java/lang/Throwable", name := "<init>", desc := "()V" } : MethodName) prog_15_method_1_code (1 : Nat) none) ∈ pn_W := pn_mem 258 (by decide +kernel) (by decide +kernel)
theorem m_259 : (Cond.methodLink "java/lang/Throwable" (1 : Nat) ({ cls := "java/lang/Object", name := "<init>", desc := "()V" } : MethodName)) ∈ pn_W := pn_mem 259 (by decide +kernel) (by decide +kernel)
theorem m_260 : (Cond.fieldLink "java/lang/Throwable" (13 : Nat) "java/lang/Throwable" "UNASSIGNED_STACK" "[Ljava/lang/StackTraceElement;") ∈ pn_W := pn_mem 260 (by decide +kernel) (by decide +kernel)
theorem m_262 : (Cond.fieldLink "java/lang/Throwable" (20 : Nat) "java/lang/Throwable" "SUPPRESSED_SENTINEL" "Ljava/util/List;") ∈ pn_W := pn_mem 262 (by decide +kernel) (by decide +kernel)
theorem m_264 : (Cond.methodLink "java/lang/Throwable" (27 : Nat) ({ cls := "java/lang/Throwable", name := "fillInStackTrace", desc := "()Ljava/lang/Throwable;" } : MethodName)) ∈ pn_W := pn_mem 264 (by decide +kernel) (by decide +kernel)
theorem m_265 : (Cond.instanceMethod ({ cls := "java/lang/Throwable", name := "fillInStackTrace", desc := "()Ljava/lang/Throwable;" } : MethodName)) ∈ pn_W := pn_mem 265 (by decide +kernel) (by decide +kernel)
theorem m_267 : (Cond.selects "java/lang/IllegalStateException" ({ cls := "java/lang/Throwable", name := "fillInStackTrace", desc := "()Ljava/lang/Throwable;" } : MethodName) ({ cls := "java/lang/Throwable", name := "fillInStackTrace", desc := "()Ljava/lang/Throwable;" } : MethodName)) ∈ pn_W := pn_mem 267 (by decide +kernel) (by decide +kernel)
theorem m_269 : (Cond.methodLink "java/lang/Throwable" (202 : Nat) ({ cls := "java/lang/Throwable", name := "fillInStackTrace", desc := "(I)Ljava/lang/Throwable;" } : MethodName)) ∈ pn_W := pn_mem 269 (by decide +kernel) (by decide +kernel)
theorem m_271 : (Cond.instanceMethod ({ cls := "java/lang/Throwable", name := "fillInStackTrace", desc := "(I)Ljava/lang/Throwable;" } : MethodName)) ∈ pn_W := pn_mem 271 (by decide +kernel) (by decide +kernel)
theorem m_272 : (Cond.instantiable "java/lang/Throwable" (6 : Nat)) ∈ pn_W := pn_mem 272 (by decide +kernel) (by decide +kernel)
theorem m_275 : (Cond.methodLink "PressureNets" (166 : Nat) ({ cls := "java/lang/IllegalArgumentException", name := "<init>", desc := "(Ljava/lang/String;)V" } : MethodName)) ∈ pn_W := pn_mem 275 (by decide +kernel) (by decide +kernel)
theorem m_276 : (Cond.instanceMethod ({ cls := "java/lang/IllegalArgumentException", name := "<init>", desc := "(Ljava/lang/String;)V" } : MethodName)) ∈ pn_W := pn_mem 276 (by decide +kernel) (by decide +kernel)
theorem m_277 : (Cond.code ({ cls := "java/lang/IllegalArgumentException", name := "<init>", desc := "(Ljava/lang/String;)V" } : MethodName) prog_9_method_2_code (2 : Nat) none) ∈ pn_W := pn_mem 277 (by decide +kernel) (by decide +kernel)
theorem m_278 : (Cond.methodLink "java/lang/IllegalArgumentException" (7 : Nat) ({ cls := "java/lang/RuntimeException", name := "<init>", desc := "(Ljava/lang/String;)V" } : MethodName)) ∈ pn_W := pn_mem 278 (by decide +kernel) (by decide +kernel)
theorem m_279 : (Cond.instanceMethod ({ cls := "java/lang/RuntimeException", name := "<init>", desc := "(Ljava/lang/String;)V" } : MethodName)) ∈ pn_W := pn_mem 279 (by decide +kernel) (by decide +kernel)
theorem m_280 : (Cond.code ({ cls := "java/lang/RuntimeException", name := "<init>", desc := "(Ljava/lang/String;)V" } : MethodName) prog_12_method_2_code (2 : Nat) none) ∈ pn_W := pn_mem 280 (by decide +kernel) (by decide +kernel)
theorem m_281 : (Cond.methodLink "java/lang/RuntimeException" (7 : Nat) ({ cls := "java/lang/Exception", name := "<init>", desc := "(Ljava/lang/String;)V" } : MethodName)) ∈ pn_W := pn_mem 281 (by decide +kernel) (by decide +kernel)
theorem m_282 : (Cond.instanceMethod ({ cls := "java/lang/Exception", name := "<init>", desc := "(Ljava/lang/String;)V" } : MethodName)) ∈ pn_W := pn_mem 282 (by decide +kernel) (by decide +kernel)
theorem m_283 : (Cond.code ({ cls := "java/lang/Exception", name := "<init>", desc := "(Ljava/lang/String;)V" } : MethodName) prog_8_method_2_code (2 : Nat) none) ∈ pn_W := pn_mem 283 (by decide +kernel) (by decide +kernel)
theorem m_284 : (Cond.methodLink "java/lang/Exception" (7 : Nat) ({ cls := "java/lang/Throwable", name := "<init>", desc := "(Ljava/lang/String;)V" } : MethodName)) ∈ pn_W := pn_mem 284 (by decide +kernel) (by decide +kernel)
theorem m_285 : (Cond.instanceMethod ({ cls := "java/lang/Throwable", name := "<init>", desc := "(Ljava/lang/String;)V" } : MethodName)) ∈ pn_W := pn_mem 285 (by decide +kernel) (by decide +kernel)
theorem m_286 : (Cond.code ({ cls := "java/lang/Throwable", name := "<init>", desc := "(Ljava/lang/String;)V" } : MethodName) prog_15_method_2_code (2 : Nat) none) ∈ pn_W := pn_mem 286 (by decide +kernel) (by decide +kernel)
theorem m_287 : (Cond.fieldLink "java/lang/Throwable" (198 : Nat) "java/lang/Throwable" "backtrace" "Ljava/lang/Object;") ∈ pn_W := pn_mem 287 (by decide +kernel) (by decide +kernel)
theorem m_288 : (Cond.fieldLink "java/lang/Throwable" (31 : Nat) "java/lang/Throwable" "detailMessage" "Ljava/lang/String;") ∈ pn_W := pn_mem 288 (by decide +kernel) (by decide +kernel)
theorem m_289 : (Cond.fieldLink "java/lang/Throwable" (7 : Nat) "java/lang/Throwable" "cause" "Ljava/lang/Throwable;") ∈ pn_W := pn_mem 289 (by decide +kernel) (by decide +kernel)
theorem m_290 : (Cond.fieldLink "java/lang/Throwable" (17 : Nat) "java/lang/Throwable" "stackTrace" "[Ljava/lang/StackTraceElement;") ∈ pn_W := pn_mem 290 (by decide +kernel) (by decide +kernel)
theorem m_291 : (Cond.fieldLink "java/lang/Throwable" (24 : Nat) "java/lang/Throwable" "suppressedExceptions" "Ljava/util/List;") ∈ pn_W := pn_mem 291 (by decide +kernel) (by decide +kernel)
theorem m_292 : (Cond.soleField "java/lang/Throwable" "backtrace") ∈ pn_W := pn_mem 292 (by decide +kernel) (by decide +kernel)
theorem m_293 : (Cond.soleField "java/lang/Throwable" "detailMessage") ∈ pn_W := pn_mem 293 (by decide +kernel) (by decide +kernel)
theorem m_294 : (Cond.soleField "java/lang/Throwable" "cause") ∈ pn_W := pn_mem 294 (by decide +kernel) (by decide +kernel)
theorem m_295 : (Cond.soleField "java/lang/Throwable" "stackTrace") ∈ pn_W := pn_mem 295 (by decide +kernel) (by decide +kernel)
theorem m_296 : (Cond.lays "java/lang/IllegalArgumentException" "java/lang/Throwable" "depth" "I") ∈ pn_W := pn_mem 296 (by decide +kernel) (by decide +kernel)
theorem m_297 : (Cond.soleField "java/lang/Throwable" "depth") ∈ pn_W := pn_mem 297 (by decide +kernel) (by decide +kernel)
theorem m_298 : (Cond.soleField "java/lang/Throwable" "suppressedExceptions") ∈ pn_W := pn_mem 298 (by decide +kernel) (by decide +kernel)
theorem m_299 : (Cond.superclass "java/lang/IllegalArgumentException" "java/lang/RuntimeException") ∈ pn_W := pn_mem 299 (by decide +kernel) (by decide +kernel)
theorem m_300 : (Cond.arrayClass FieldType.byte) ∈ pn_W := pn_mem 300 (by decide +kernel) (by decide +kernel)
theorem m_301 : (Cond.methodLink "PressureNets" (63 : Nat) ({ cls := "PressureNets", name := "demandRoom", desc := "(Z)V" } : MethodName)) ∈ pn_W := pn_mem 301 (by decide +kernel) (by decide +kernel)
theorem m_302 : (Cond.static ({ cls := "PressureNets", name := "demandRoom", desc := "(Z)V" } : MethodName)) ∈ pn_W := pn_mem 302 (by decide +kernel) (by decide +kernel)
theorem m_303 : (Cond.code ({ cls := "PressureNets", name := "demandRoom", desc := "(Z)V" } : MethodName) prog_1_method_19_code (1 : Nat) none) ∈ pn_W := pn_mem 303 (by decide +kernel) (by decide +kernel)
theorem m_304 : (Cond.classLink "PressureNets" (169 : Nat) "java/lang/IllegalStateException") ∈ pn_W := pn_mem 304 (by decide +kernel) (by decide +kernel)
theorem m_305 : (Cond.instantiable "java/lang/IllegalStateException" (6 : Nat)) ∈ pn_W := pn_mem 305 (by decide +kernel) (by decide +kernel)
theorem m_307 : (Cond.selects "java/lang/IllegalStateException" ({ cls := "java/lang/Throwable", name := "fillInStackTrace", desc := "(I)Ljava/lang/Throwable;" } : MethodName) ({ cls := "java/lang/Throwable", name := "fillInStackTrace", desc := "(I)Ljava/lang/Throwable;" } : MethodName)) ∈ pn_W := pn_mem 307 (by decide +kernel) (by decide +kernel)
theorem m_308 : (Cond.lays "java/lang/IllegalStateException" "java/lang/Throwable" "cause" "Ljava/lang/Throwable;") ∈ pn_W := pn_mem 308 (by decide +kernel) (by decide +kernel)
theorem m_309 : (Cond.lays "java/lang/IllegalStateException" "java/lang/Throwable" "stackTrace" "[Ljava/lang/StackTraceElement;") ∈ pn_W := pn_mem 309 (by decide +kernel) (by decide +kernel)
theorem m_310 : (Cond.lays "java/lang/IllegalStateException" "java/lang/Throwable" "suppressedExceptions" "Ljava/util/List;") ∈ pn_W := pn_mem 310 (by decide +kernel) (by decide +kernel)
theorem m_311 : (Cond.lays "java/lang/IllegalStateException" "java/lang/Throwable" "detailMessage" "Ljava/lang/String;") ∈ pn_W := pn_mem 311 (by decide +kernel) (by decide +kernel)
theorem m_312 : (Cond.lays "java/lang/IllegalStateException" "java/lang/Throwable" "backtrace" "Ljava/lang/Object;") ∈ pn_W := pn_mem 312 (by decide +kernel) (by decide +kernel)
theorem m_314 : (Cond.methodLink "PressureNets" (173 : Nat) ({ cls := "java/lang/IllegalStateException", name := "<init>", desc := "(Ljava/lang/String;)V" } : MethodName)) ∈ pn_W := pn_mem 314 (by decide +kernel) (by decide +kernel)
theorem m_315 : (Cond.instanceMethod ({ cls := "java/lang/IllegalStateException", name := "<init>", desc := "(Ljava/lang/String;)V" } : MethodName)) ∈ pn_W := pn_mem 315 (by decide +kernel) (by decide +kernel)
theorem m_316 : (Cond.code ({ cls := "java/lang/IllegalStateException", name := "<init>", desc := "(Ljava/lang/String;)V" } : MethodName) prog_10_method_2_code (2 : Nat) none) ∈ pn_W := pn_mem 316 (by decide +kernel) (by decide +kernel)
theorem m_317 : (Cond.methodLink "java/lang/IllegalStateException" (7 : Nat) ({ cls := "java/lang/RuntimeException", name := "<init>", desc := "(Ljava/lang/String;)V" } : MethodName)) ∈ pn_W := pn_mem 317 (by decide +kernel) (by decide +kernel)
theorem m_318 : (Cond.lays "java/lang/IllegalStateException" "java/lang/Throwable" "depth" "I") ∈ pn_W := pn_mem 318 (by decide +kernel) (by decide +kernel)
theorem m_319 : (Cond.superclass "java/lang/IllegalStateException" "java/lang/RuntimeException") ∈ pn_W := pn_mem 319 (by decide +kernel) (by decide +kernel)
theorem m_320 : (Cond.methodLink "PressureNets" (66 : Nat) ({ cls := "PressureNets$Net", name := "addZone", desc := "(II)I" } : MethodName)) ∈ pn_W := pn_mem 320 (by decide +kernel) (by decide +kernel)
theorem m_321 : (Cond.instanceMethod ({ cls := "PressureNets$Net", name := "addZone", desc := "(II)I" } : MethodName)) ∈ pn_W := pn_mem 321 (by decide +kernel) (by decide +kernel)
theorem m_322 : (Cond.selects "PressureNets$Net" ({ cls := "PressureNets$Net", name := "addZone", desc := "(II)I" } : MethodName) ({ cls := "PressureNets$Net", name := "addZone", desc := "(II)I" } : MethodName)) ∈ pn_W := pn_mem 322 (by decide +kernel) (by decide +kernel)
theorem m_323 : (Cond.code ({ cls := "PressureNets$Net", name := "addZone", desc := "(II)I" } : MethodName) prog_2_method_2_code (4 : Nat) (Option.some FieldType.int)) ∈ pn_W := pn_mem 323 (by decide +kernel) (by decide +kernel)
theorem m_325 : (Cond.static ({ cls := "PressureNets", name := "rowOf", desc := "(I)I" } : MethodName)) ∈ pn_W := pn_mem 325 (by decide +kernel) (by decide +kernel)
theorem m_326 : (Cond.code ({ cls := "PressureNets", name := "rowOf", desc := "(I)I" } : MethodName) prog_1_method_27_code (1 : Nat) (Option.some FieldType.int)) ∈ pn_W := pn_mem 326 (by decide +kernel) (by decide +kernel)
theorem m_327 : (Cond.methodLink "PressureNetsLaw" (81 : Nat) ({ cls := "PressureNetsLaw", name := "wind", desc := "(LPressureNets;II[J)I" } : MethodName)) ∈ pn_W := pn_mem 327 (by decide +kernel) (by decide +kernel)
theorem m_328 : (Cond.static ({ cls := "PressureNetsLaw", name := "wind", desc := "(LPressureNets;II[J)I" } : MethodName)) ∈ pn_W := pn_mem 328 (by decide +kernel) (by decide +kernel)
theorem m_330 : (Cond.methodLink "PressureNetsLaw" (17 : Nat) ({ cls := "PressureNets", name := "wind", desc := "(II)I" } : MethodName)) ∈ pn_W := pn_mem 330 (by decide +kernel) (by decide +kernel)
theorem m_331 : (Cond.instanceMethod ({ cls := "PressureNets", name := "wind", desc := "(II)I" } : MethodName)) ∈ pn_W := pn_mem 331 (by decide +kernel) (by decide +kernel)
theorem m_332 : (Cond.selects "PressureNets" ({ cls := "PressureNets", name := "wind", desc := "(II)I" } : MethodName) ({ cls := "PressureNets", name := "wind", desc := "(II)I" } : MethodName)) ∈ pn_W := pn_mem 332 (by decide +kernel) (by decide +kernel)
theorem m_333 : (Cond.code ({ cls := "PressureNets", name := "wind", desc := "(II)I" } : MethodName) prog_1_method_3_code (3 : Nat) (Option.some FieldType.int)) ∈ pn_W := pn_mem 333 (by decide +kernel) (by decide +kernel)
theorem m_334 : (Cond.methodLink "PressureNets" (70 : Nat) ({ cls := "PressureNets", name := "isSide", desc := "(I)Z" } : MethodName)) ∈ pn_W := pn_mem 334 (by decide +kernel) (by decide +kernel)
theorem m_335 : (Cond.static ({ cls := "PressureNets", name := "isSide", desc := "(I)Z" } : MethodName)) ∈ pn_W := pn_mem 335 (by decide +kernel) (by decide +kernel)
theorem m_336 : (Cond.code ({ cls := "PressureNets", name := "isSide", desc := "(I)Z" } : MethodName) prog_1_method_22_code (1 : Nat) (Option.some FieldType.boolean)) ∈ pn_W := pn_mem 336 (by decide +kernel) (by decide +kernel)
theorem m_337 : (Cond.methodLink "PressureNets" (73 : Nat) ({ cls := "PressureNets", name := "rowOf", desc := "(I)I" } : MethodName)) ∈ pn_W := pn_mem 337 (by decide +kernel) (by decide +kernel)
theorem m_338 : (Cond.methodLink "PressureNets" (77 : Nat) ({ cls := "PressureNets$Net", name := "changeWind", desc := "(II)I" } : MethodName)) ∈ pn_W := pn_mem 338 (by decide +kernel) (by decide +kernel)
theorem m_339 : (Cond.instanceMethod ({ cls := "PressureNets$Net", name := "changeWind", desc := "(II)I" } : MethodName)) ∈ pn_W := pn_mem 339 (by decide +kernel) (by decide +kernel)
theorem m_340 : (Cond.selects "PressureNets$Net" ({ cls := "PressureNets$Net", name := "changeWind", desc := "(II)I" } : MethodName) ({ cls := "PressureNets$Net", name := "changeWind", desc := "(II)I" } : MethodName)) ∈ pn_W := pn_mem 340 (by decide +kernel) (by decide +kernel)
theorem m_341 : (Cond.code ({ cls := "PressureNets$Net", name := "changeWind", desc := "(II)I" } : MethodName) prog_2_method_3_code (4 : Nat) (Option.some FieldType.int)) ∈ pn_W := pn_mem 341 (by decide +kernel) (by decide +kernel)
theorem m_342 : (Cond.methodLink "PressureNetsLaw" (84 : Nat) ({ cls := "PressureNetsLaw", name := "warmth", desc := "(LPressureNets;II[J)I" } : MethodName)) ∈ pn_W := pn_mem 342 (by decide +kernel) (by decide +kernel)
theorem m_343 : (Cond.static ({ cls := "PressureNetsLaw", name := "warmth", desc := "(LPressureNets;II[J)I" } : MethodName)) ∈ pn_W := pn_mem 343 (by decide +kernel) (by decide +kernel)
theorem m_345 : (Cond.methodLink "PressureNetsLaw" (20 : Nat) ({ cls := "PressureNets", name := "warmth", desc := "(II)I" } : MethodName)) ∈ pn_W := pn_mem 345 (by decide +kernel) (by decide +kernel)
theorem m_346 : (Cond.instanceMethod ({ cls := "PressureNets", name := "warmth", desc := "(II)I" } : MethodName)) ∈ pn_W := pn_mem 346 (by decide +kernel) (by decide +kernel)
theorem m_347 : (Cond.selects "PressureNets" ({ cls := "PressureNets", name := "warmth", desc := "(II)I" } : MethodName) ({ cls := "PressureNets", name := "warmth", desc := "(II)I" } : MethodName)) ∈ pn_W := pn_mem 347 (by decide +kernel) (by decide +kernel)
theorem m_348 : (Cond.code ({ cls := "PressureNets", name := "warmth", desc := "(II)I" } : MethodName) prog_1_method_4_code (3 : Nat) (Option.some FieldType.int)) ∈ pn_W := pn_mem 348 (by decide +kernel) (by decide +kernel)
theorem m_349 : (Cond.methodLink "PressureNets" (80 : Nat) ({ cls := "PressureNets", name := "isPlace", desc := "(I)Z" } : MethodName)) ∈ pn_W := pn_mem 349 (by decide +kernel) (by decide +kernel)
theorem m_351 : (Cond.instanceMethod ({ cls := "PressureNets", name := "isPlace", desc := "(I)Z" } : MethodName)) ∈ pn_W := pn_mem 351 (by decide +kernel) (by decide +kernel)
theorem m_352 : (Cond.code ({ cls := "PressureNets", name := "isPlace", desc := "(I)Z" } : MethodName) prog_1_method_24_code (2 : Nat) (Option.some FieldType.boolean)) ∈ pn_W := pn_mem 352 (by decide +kernel) (by decide +kernel)
theorem m_353 : (Cond.methodLink "PressureNets" (136 : Nat) ({ cls := "PressureNets", name := "isZone", desc := "(I)Z" } : MethodName)) ∈ pn_W := pn_mem 353 (by decide +kernel) (by decide +kernel)
theorem m_355 : (Cond.instanceMethod ({ cls := "PressureNets", name := "isZone", desc := "(I)Z" } : MethodName)) ∈ pn_W := pn_mem 355 (by decide +kernel) (by decide +kernel)
theorem m_356 : (Cond.code ({ cls := "PressureNets", name := "isZone", desc := "(I)Z" } : MethodName) prog_1_method_23_code (2 : Nat) (Option.some FieldType.boolean)) ∈ pn_W := pn_mem 356 (by decide +kernel) (by decide +kernel)
theorem m_357 : (Cond.methodLink "PressureNets" (83 : Nat) ({ cls := "PressureNets$Net", name := "changeWarmth", desc := "(II)I" } : MethodName)) ∈ pn_W := pn_mem 357 (by decide +kernel) (by decide +kernel)
theorem m_358 : (Cond.instanceMethod ({ cls := "PressureNets$Net", name := "changeWarmth", desc := "(II)I" } : MethodName)) ∈ pn_W := pn_mem 358 (by decide +kernel) (by decide +kernel)
theorem m_359 : (Cond.selects "PressureNets$Net" ({ cls := "PressureNets$Net", name := "changeWarmth", desc := "(II)I" } : MethodName) ({ cls := "PressureNets$Net", name := "changeWarmth", desc := "(II)I" } : MethodName)) ∈ pn_W := pn_mem 359 (by decide +kernel) (by decide +kernel)
theorem m_360 : (Cond.code ({ cls := "PressureNets$Net", name := "changeWarmth", desc := "(II)I" } : MethodName) prog_2_method_4_code (5 : Nat) (Option.some FieldType.int)) ∈ pn_W := pn_mem 360 (by decide +kernel) (by decide +kernel)
theorem m_361 : (Cond.methodLink "PressureNets$Net" (70 : Nat) ({ cls := "PressureNets$Net", name := "measureStack", desc := "(I)V" } : MethodName)) ∈ pn_W := pn_mem 361 (by decide +kernel) (by decide +kernel)
theorem m_363 : (Cond.instanceMethod ({ cls := "PressureNets$Net", name := "measureStack", desc := "(I)V" } : MethodName)) ∈ pn_W := pn_mem 363 (by decide +kernel) (by decide +kernel)
theorem m_364 : (Cond.code ({ cls := "PressureNets$Net", name := "measureStack", desc := "(I)V" } : MethodName) prog_2_method_9_code (2 : Nat) none) ∈ pn_W := pn_mem 364 (by decide +kernel) (by decide +kernel)
theorem m_365 : (Cond.methodLink "PressureNetsLaw" (87 : Nat) ({ cls := "PressureNetsLaw", name := "leak", desc := "(LPressureNets;IIIII[J)I" } : MethodName)) ∈ pn_W := pn_mem 365 (by decide +kernel) (by decide +kernel)
theorem m_366 : (Cond.static ({ cls := "PressureNetsLaw", name := "leak", desc := "(LPressureNets;IIIII[J)I" } : MethodName)) ∈ pn_W := pn_mem 366 (by decide +kernel) (by decide +kernel)
theorem m_368 : (Cond.methodLink "PressureNetsLaw" (23 : Nat) ({ cls := "PressureNets", name := "leak", desc := "(IIIII)I" } : MethodName)) ∈ pn_W := pn_mem 368 (by decide +kernel) (by decide +kernel)
theorem m_369 : (Cond.instanceMethod ({ cls := "PressureNets", name := "leak", desc := "(IIIII)I" } : MethodName)) ∈ pn_W := pn_mem 369 (by decide +kernel) (by decide +kernel)
theorem m_370 : (Cond.selects "PressureNets" ({ cls := "PressureNets", name := "leak", desc := "(IIIII)I" } : MethodName) ({ cls := "PressureNets", name := "leak", desc := "(IIIII)I" } : MethodName)) ∈ pn_W := pn_mem 370 (by decide +kernel) (by decide +kernel)
theorem m_371 : (Cond.code ({ cls := "PressureNets", name := "leak", desc := "(IIIII)I" } : MethodName) prog_1_method_5_code (6 : Nat) (Option.some FieldType.int)) ∈ pn_W := pn_mem 371 (by decide +kernel) (by decide +kernel)
theorem m_372 : (Cond.methodLink "PressureNets" (86 : Nat) ({ cls := "PressureNets", name := "canJoin", desc := "(II)Z" } : MethodName)) ∈ pn_W := pn_mem 372 (by decide +kernel) (by decide +kernel)
theorem m_374 : (Cond.instanceMethod ({ cls := "PressureNets", name := "canJoin", desc := "(II)Z" } : MethodName)) ∈ pn_W := pn_mem 374 (by decide +kernel) (by decide +kernel)
theorem m_375 : (Cond.code ({ cls := "PressureNets", name := "canJoin", desc := "(II)Z" } : MethodName) prog_1_method_25_code (3 : Nat) (Option.some FieldType.boolean)) ∈ pn_W := pn_mem 375 (by decide +kernel) (by decide +kernel)
theorem m_376 : (Cond.methodLink "PressureNets" (93 : Nat) ({ cls := "PressureNets$Net", name := "addLeak", desc := "(IIIII)I" } : MethodName)) ∈ pn_W := pn_mem 376 (by decide +kernel) (by decide +kernel)
theorem m_377 : (Cond.instanceMethod ({ cls := "PressureNets$Net", name := "addLeak", desc := "(IIIII)I" } : MethodName)) ∈ pn_W := pn_mem 377 (by decide +kernel) (by decide +kernel)
theorem m_378 : (Cond.selects "PressureNets$Net" ({ cls := "PressureNets$Net", name := "addLeak", desc := "(IIIII)I" } : MethodName) ({ cls := "PressureNets$Net", name := "addLeak", desc := "(IIIII)I" } : MethodName)) ∈ pn_W := pn_mem 378 (by decide +kernel) (by decide +kernel)
theorem m_379 : (Cond.code ({ cls := "PressureNets$Net", name := "addLeak", desc := "(IIIII)I" } : MethodName) prog_2_method_5_code (7 : Nat) (Option.some FieldType.int)) ∈ pn_W := pn_mem 379 (by decide +kernel) (by decide +kernel)
theorem m_380 : (Cond.methodLink "PressureNets$Net" (74 : Nat) ({ cls := "PressureNets$Net", name := "join", desc := "(III)V" } : MethodName)) ∈ pn_W := pn_mem 380 (by decide +kernel) (by decide +kernel)
theorem m_382 : (Cond.instanceMethod ({ cls := "PressureNets$Net", name := "join", desc := "(III)V" } : MethodName)) ∈ pn_W := pn_mem 382 (by decide +kernel) (by decide +kernel)
theorem m_383 : (Cond.code ({ cls := "PressureNets$Net", name := "join", desc := "(III)V" } : MethodName) prog_2_method_7_code (4 : Nat) none) ∈ pn_W := pn_mem 383 (by decide +kernel) (by decide +kernel)
theorem m_384 : (Cond.methodLink "PressureNets$Net" (81 : Nat) ({ cls := "PressureNets$Net", name := "noteDuct", desc := "(II)V" } : MethodName)) ∈ pn_W := pn_mem 384 (by decide +kernel) (by decide +kernel)
theorem m_386 : (Cond.instanceMethod ({ cls := "PressureNets$Net", name := "noteDuct", desc := "(II)V" } : MethodName)) ∈ pn_W := pn_mem 386 (by decide +kernel) (by decide +kernel)
theorem m_387 : (Cond.code ({ cls := "PressureNets$Net", name := "noteDuct", desc := "(II)V" } : MethodName) prog_2_method_8_code (3 : Nat) none) ∈ pn_W := pn_mem 387 (by decide +kernel) (by decide +kernel)
theorem m_388 : (Cond.methodLink "PressureNetsLaw" (91 : Nat) ({ cls := "PressureNetsLaw", name := "shut", desc := "(LPressureNets;IZ[J)I" } : MethodName)) ∈ pn_W := pn_mem 388 (by decide +kernel) (by decide +kernel)
theorem m_389 : (Cond.static ({ cls := "PressureNetsLaw", name := "shut", desc := "(LPressureNets;IZ[J)I" } : MethodName)) ∈ pn_W := pn_mem 389 (by decide +kernel) (by decide +kernel)
theorem m_391 : (Cond.methodLink "PressureNetsLaw" (27 : Nat) ({ cls := "PressureNets", name := "shut", desc := "(IZ)Z" } : MethodName)) ∈ pn_W := pn_mem 391 (by decide +kernel) (by decide +kernel)
theorem m_392 : (Cond.instanceMethod ({ cls := "PressureNets", name := "shut", desc := "(IZ)Z" } : MethodName)) ∈ pn_W := pn_mem 392 (by decide +kernel) (by decide +kernel)
theorem m_393 : (Cond.selects "PressureNets" ({ cls := "PressureNets", name := "shut", desc := "(IZ)Z" } : MethodName) ({ cls := "PressureNets", name := "shut", desc := "(IZ)Z" } : MethodName)) ∈ pn_W := pn_mem 393 (by decide +kernel) (by decide +kernel)
theorem m_394 : (Cond.code ({ cls := "PressureNets", name := "shut", desc := "(IZ)Z" } : MethodName) prog_1_method_6_code (5 : Nat) (Option.some FieldType.boolean)) ∈ pn_W := pn_mem 394 (by decide +kernel) (by decide +kernel)
theorem m_395 : (Cond.methodLink "PressureNets" (97 : Nat) ({ cls := "PressureNets", name := "isLeak", desc := "(I)Z" } : MethodName)) ∈ pn_W := pn_mem 395 (by decide +kernel) (by decide +kernel)
theorem m_397 : (Cond.instanceMethod ({ cls := "PressureNets", name := "isLeak", desc := "(I)Z" } : MethodName)) ∈ pn_W := pn_mem 397 (by decide +kernel) (by decide +kernel)
theorem m_398 : (Cond.code ({ cls := "PressureNets", name := "isLeak", desc := "(I)Z" } : MethodName) prog_1_method_26_code (2 : Nat) (Option.some FieldType.boolean)) ∈ pn_W := pn_mem 398 (by decide +kernel) (by decide +kernel)
theorem m_399 : (Cond.methodLink "PressureNetsLaw" (95 : Nat) ({ cls := "PressureNetsLaw", name := "fan", desc := "(LPressureNets;IIII[J)I" } : MethodName)) ∈ pn_W := pn_mem 399 (by decide +kernel) (by decide +kernel)
theorem m_400 : (Cond.static ({ cls := "PressureNetsLaw", name := "fan", desc := "(LPressureNets;IIII[J)I" } : MethodName)) ∈ pn_W := pn_mem 400 (by decide +kernel) (by decide +kernel)
theorem m_402 : (Cond.methodLink "PressureNetsLaw" (31 : Nat) ({ cls := "PressureNets", name := "fan", desc := "(IIII)I" } : MethodName)) ∈ pn_W := pn_mem 402 (by decide +kernel) (by decide +kernel)
theorem m_403 : (Cond.instanceMethod ({ cls := "PressureNets", name := "fan", desc := "(IIII)I" } : MethodName)) ∈ pn_W := pn_mem 403 (by decide +kernel) (by decide +kernel)
theorem m_404 : (Cond.selects "PressureNets" ({ cls := "PressureNets", name := "fan", desc := "(IIII)I" } : MethodName) ({ cls := "PressureNets", name := "fan", desc := "(IIII)I" } : MethodName)) ∈ pn_W := pn_mem 404 (by decide +kernel) (by decide +kernel)
theorem m_405 : (Cond.code ({ cls := "PressureNets", name := "fan", desc := "(IIII)I" } : MethodName) prog_1_method_7_code (5 : Nat) (Option.some FieldType.int)) ∈ pn_W := pn_mem 405 (by decide +kernel) (by decide +kernel)
theorem m_406 : (Cond.methodLink "PressureNets" (109 : Nat) ({ cls := "PressureNets$Net", name := "addFan", desc := "(IIII)I" } : MethodName)) ∈ pn_W := pn_mem 406 (by decide +kernel) (by decide +kernel)
theorem m_407 : (Cond.instanceMethod ({ cls := "PressureNets$Net", name := "addFan", desc := "(IIII)I" } : MethodName)) ∈ pn_W := pn_mem 407 (by decide +kernel) (by decide +kernel)
theorem m_408 : (Cond.selects "PressureNets$Net" ({ cls := "PressureNets$Net", name := "addFan", desc := "(IIII)I" } : MethodName) ({ cls := "PressureNets$Net", name := "addFan", desc := "(IIII)I" } : MethodName)) ∈ pn_W := pn_mem 408 (by decide +kernel) (by decide +kernel)
theorem m_409 : (Cond.code ({ cls := "PressureNets$Net", name := "addFan", desc := "(IIII)I" } : MethodName) prog_2_method_6_code (6 : Nat) (Option.some FieldType.int)) ∈ pn_W := pn_mem 409 (by decide +kernel) (by decide +kernel)
theorem m_411 : (Cond.static ({ cls := "PressureNets", name := "ductOfFan", desc := "(I)I" } : MethodName)) ∈ pn_W := pn_mem 411 (by decide +kernel) (by decide +kernel)
end
section
theorem m_412 : (Cond.code ({ cls := "PressureNets", name := "ductOfFan", desc := "(I)I" } : MethodName) prog_1_method_28_code (1 : Nat) (Option.some FieldType.int)) ∈ pn_W := pn_mem 412 (by decide +kernel) (by decide +kernel)
theorem m_413 : (Cond.methodLink "PressureNetsLaw" (99 : Nat) ({ cls := "PressureNetsLaw", name := "pressure", desc := "(LPressureNets;I[J)I" } : MethodName)) ∈ pn_W := pn_mem 413 (by decide +kernel) (by decide +kernel)
theorem m_414 : (Cond.static ({ cls := "PressureNetsLaw", name := "pressure", desc := "(LPressureNets;I[J)I" } : MethodName)) ∈ pn_W := pn_mem 414 (by decide +kernel) (by decide +kernel)
theorem m_416 : (Cond.methodLink "PressureNetsLaw" (35 : Nat) ({ cls := "PressureNets", name := "pressure", desc := "(I)I" } : MethodName)) ∈ pn_W := pn_mem 416 (by decide +kernel) (by decide +kernel)
theorem m_417 : (Cond.instanceMethod ({ cls := "PressureNets", name := "pressure", desc := "(I)I" } : MethodName)) ∈ pn_W := pn_mem 417 (by decide +kernel) (by decide +kernel)
theorem m_418 : (Cond.selects "PressureNets" ({ cls := "PressureNets", name := "pressure", desc := "(I)I" } : MethodName) ({ cls := "PressureNets", name := "pressure", desc := "(I)I" } : MethodName)) ∈ pn_W := pn_mem 418 (by decide +kernel) (by decide +kernel)
theorem m_419 : (Cond.code ({ cls := "PressureNets", name := "pressure", desc := "(I)I" } : MethodName) prog_1_method_8_code (2 : Nat) (Option.some FieldType.int)) ∈ pn_W := pn_mem 419 (by decide +kernel) (by decide +kernel)
theorem m_420 : (Cond.methodLink "PressureNets" (117 : Nat) ({ cls := "PressureNets$Settler", name := "settles", desc := "(LPressureNets$State;)Z" } : MethodName)) ∈ pn_W := pn_mem 420 (by decide +kernel) (by decide +kernel)
theorem m_421 : (Cond.instanceMethod ({ cls := "PressureNets$Settler", name := "settles", desc := "(LPressureNets$State;)Z" } : MethodName)) ∈ pn_W := pn_mem 421 (by decide +kernel) (by decide +kernel)
theorem m_422 : (Cond.selects "PressureNets$Settler" ({ cls := "PressureNets$Settler", name := "settles", desc := "(LPressureNets$State;)Z" } : MethodName) ({ cls := "PressureNets$Settler", name := "settles", desc := "(LPressureNets$State;)Z" } : MethodName)) ∈ pn_W := pn_mem 422 (by decide +kernel) (by decide +kernel)
theorem m_423 : (Cond.code ({ cls := "PressureNets$Settler", name := "settles", desc := "(LPressureNets$State;)Z" } : MethodName) prog_3_method_2_code (6 : Nat) (Option.some FieldType.boolean)) ∈ pn_W := pn_mem 423 (by decide +kernel) (by decide +kernel)
theorem m_424 : (Cond.methodLink "PressureNets$Settler" (34 : Nat) ({ cls := "PressureNets$Settler", name := "begin", desc := "(LPressureNets$State;)V" } : MethodName)) ∈ pn_W := pn_mem 424 (by decide +kernel) (by decide +kernel)
theorem m_426 : (Cond.instanceMethod ({ cls := "PressureNets$Settler", name := "begin", desc := "(LPressureNets$State;)V" } : MethodName)) ∈ pn_W := pn_mem 426 (by decide +kernel) (by decide +kernel)
theorem m_427 : (Cond.code ({ cls := "PressureNets$Settler", name := "begin", desc := "(LPressureNets$State;)V" } : MethodName) prog_3_method_3_code (2 : Nat) none) ∈ pn_W := pn_mem 427 (by decide +kernel) (by decide +kernel)
theorem m_428 : (Cond.methodLink "PressureNets$Settler" (57 : Nat) ({ cls := "java/util/Arrays", name := "fill", desc := "([II)V" } : MethodName)) ∈ pn_W := pn_mem 428 (by decide +kernel) (by decide +kernel)
theorem m_429 : (Cond.static ({ cls := "java/util/Arrays", name := "fill", desc := "([II)V" } : MethodName)) ∈ pn_W := pn_mem 429 (by decide +kernel) (by decide +kernel)
theorem m_430 : (Cond.code ({ cls := "java/util/Arrays", name := "fill", desc := "([II)V" } : MethodName) prog_16_method_103_code (4 : Nat) none) ∈ pn_W := pn_mem 430 (by decide +kernel) (by decide +kernel)
theorem m_431 : (Cond.methodLink "PressureNets$Settler" (66 : Nat) ({ cls := "java/lang/System", name := "arraycopy", desc := "(Ljava/lang/Object;ILjava/lang/Object;II)V" } : MethodName)) ∈ pn_W := pn_mem 431 (by decide +kernel) (by decide +kernel)
theorem m_432 : (Cond.static ({ cls := "java/lang/System", name := "arraycopy", desc := "(Ljava/lang/Object;ILjava/lang/Object;II)V" } : MethodName)) ∈ pn_W := pn_mem 432 (by decide +kernel) (by decide +kernel)
theorem m_434 : (Cond.constant "PressureNets$Settler" (41 : Nat) (80009 : Int32)) ∈ pn_W := pn_mem 434 (by decide +kernel) (by decide +kernel)
theorem m_435 : (Cond.methodLink "PressureNets$Settler" (42 : Nat) ({ cls := "PressureNets$Settler", name := "isPastHighest", desc := "(LPressureNets$State;)Z" } : MethodName)) ∈ pn_W := pn_mem 435 (by decide +kernel) (by decide +kernel)
theorem m_437 : (Cond.instanceMethod ({ cls := "PressureNets$Settler", name := "isPastHighest", desc := "(LPressureNets$State;)Z" } : MethodName)) ∈ pn_W := pn_mem 437 (by decide +kernel) (by decide +kernel)
theorem m_438 : (Cond.code ({ cls := "PressureNets$Settler", name := "isPastHighest", desc := "(LPressureNets$State;)Z" } : MethodName) prog_3_method_4_code (3 : Nat) (Option.some FieldType.boolean)) ∈ pn_W := pn_mem 438 (by decide +kernel) (by decide +kernel)
theorem m_439 : (Cond.methodLink "PressureNets$Settler" (46 : Nat) ({ cls := "PressureNets$Settler", name := "doBout", desc := "(LPressureNets$State;I)I" } : MethodName)) ∈ pn_W := pn_mem 439 (by decide +kernel) (by decide +kernel)
theorem m_441 : (Cond.instanceMethod ({ cls := "PressureNets$Settler", name := "doBout", desc := "(LPressureNets$State;I)I" } : MethodName)) ∈ pn_W := pn_mem 441 (by decide +kernel) (by decide +kernel)
theorem m_442 : (Cond.code ({ cls := "PressureNets$Settler", name := "doBout", desc := "(LPressureNets$State;I)I" } : MethodName) prog_3_method_5_code (7 : Nat) (Option.some FieldType.int)) ∈ pn_W := pn_mem 442 (by decide +kernel) (by decide +kernel)
theorem m_443 : (Cond.methodLink "PressureNets$Settler" (72 : Nat) ({ cls := "PressureNets$Settler", name := "raises", desc := "(LPressureNets$State;I)Z" } : MethodName)) ∈ pn_W := pn_mem 443 (by decide +kernel) (by decide +kernel)
theorem m_445 : (Cond.instanceMethod ({ cls := "PressureNets$Settler", name := "raises", desc := "(LPressureNets$State;I)Z" } : MethodName)) ∈ pn_W := pn_mem 445 (by decide +kernel) (by decide +kernel)
theorem m_446 : (Cond.code ({ cls := "PressureNets$Settler", name := "raises", desc := "(LPressureNets$State;I)Z" } : MethodName) prog_3_method_6_code (9 : Nat) (Option.some FieldType.boolean)) ∈ pn_W := pn_mem 446 (by decide +kernel) (by decide +kernel)
theorem m_448 : (Cond.methodLink "PressureNets$Settler" (80 : Nat) ({ cls := "PressureNets$Net", name := "gainOf", desc := "(ILPressureNets$State;)I" } : MethodName)) ∈ pn_W := pn_mem 448 (by decide +kernel) (by decide +kernel)
theorem m_449 : (Cond.instanceMethod ({ cls := "PressureNets$Net", name := "gainOf", desc := "(ILPressureNets$State;)I" } : MethodName)) ∈ pn_W := pn_mem 449 (by decide +kernel) (by decide +kernel)
theorem m_450 : (Cond.selects "PressureNets$Net" ({ cls := "PressureNets$Net", name := "gainOf", desc := "(ILPressureNets$State;)I" } : MethodName) ({ cls := "PressureNets$Net", name := "gainOf", desc := "(ILPressureNets$State;)I" } : MethodName)) ∈ pn_W := pn_mem 450 (by decide +kernel) (by decide +kernel)
theorem m_451 : (Cond.code ({ cls := "PressureNets$Net", name := "gainOf", desc := "(ILPressureNets$State;)I" } : MethodName) prog_2_method_13_code (10 : Nat) (Option.some FieldType.int)) ∈ pn_W := pn_mem 451 (by decide +kernel) (by decide +kernel)
theorem m_452 : (Cond.methodLink "PressureNets$Net" (109 : Nat) ({ cls := "PressureNets$Net", name := "flowOf", desc := "(ILPressureNets$State;)I" } : MethodName)) ∈ pn_W := pn_mem 452 (by decide +kernel) (by decide +kernel)
theorem m_453 : (Cond.instanceMethod ({ cls := "PressureNets$Net", name := "flowOf", desc := "(ILPressureNets$State;)I" } : MethodName)) ∈ pn_W := pn_mem 453 (by decide +kernel) (by decide +kernel)
theorem m_454 : (Cond.selects "PressureNets$Net" ({ cls := "PressureNets$Net", name := "flowOf", desc := "(ILPressureNets$State;)I" } : MethodName) ({ cls := "PressureNets$Net", name := "flowOf", desc := "(ILPressureNets$State;)I" } : MethodName)) ∈ pn_W := pn_mem 454 (by decide +kernel) (by decide +kernel)
theorem m_455 : (Cond.code ({ cls := "PressureNets$Net", name := "flowOf", desc := "(ILPressureNets$State;)I" } : MethodName) prog_2_method_12_code (7 : Nat) (Option.some FieldType.int)) ∈ pn_W := pn_mem 455 (by decide +kernel) (by decide +kernel)
theorem m_456 : (Cond.methodLink "PressureNets$Net" (90 : Nat) ({ cls := "java/lang/Math", name := "min", desc := "(II)I" } : MethodName)) ∈ pn_W := pn_mem 456 (by decide +kernel) (by decide +kernel)
theorem m_457 : (Cond.static ({ cls := "java/lang/Math", name := "min", desc := "(II)I" } : MethodName)) ∈ pn_W := pn_mem 457 (by decide +kernel) (by decide +kernel)
theorem m_458 : (Cond.code ({ cls := "java/lang/Math", name := "min", desc := "(II)I" } : MethodName) prog_11_method_69_code (2 : Nat) (Option.some FieldType.int)) ∈ pn_W := pn_mem 458 (by decide +kernel) (by decide +kernel)
theorem m_459 : (Cond.methodLink "PressureNets$Net" (96 : Nat) ({ cls := "java/lang/Math", name := "max", desc := "(II)I" } : MethodName)) ∈ pn_W := pn_mem 459 (by decide +kernel) (by decide +kernel)
theorem m_460 : (Cond.static ({ cls := "java/lang/Math", name := "max", desc := "(II)I" } : MethodName)) ∈ pn_W := pn_mem 460 (by decide +kernel) (by decide +kernel)
theorem m_461 : (Cond.code ({ cls := "java/lang/Math", name := "max", desc := "(II)I" } : MethodName) prog_11_method_65_code (2 : Nat) (Option.some FieldType.int)) ∈ pn_W := pn_mem 461 (by decide +kernel) (by decide +kernel)
theorem m_462 : (Cond.methodLink "PressureNets$Net" (102 : Nat) ({ cls := "PressureNets$Net", name := "driveOf", desc := "(I[I)I" } : MethodName)) ∈ pn_W := pn_mem 462 (by decide +kernel) (by decide +kernel)
theorem m_463 : (Cond.instanceMethod ({ cls := "PressureNets$Net", name := "driveOf", desc := "(I[I)I" } : MethodName)) ∈ pn_W := pn_mem 463 (by decide +kernel) (by decide +kernel)
theorem m_464 : (Cond.selects "PressureNets$Net" ({ cls := "PressureNets$Net", name := "driveOf", desc := "(I[I)I" } : MethodName) ({ cls := "PressureNets$Net", name := "driveOf", desc := "(I[I)I" } : MethodName)) ∈ pn_W := pn_mem 464 (by decide +kernel) (by decide +kernel)
theorem m_465 : (Cond.code ({ cls := "PressureNets$Net", name := "driveOf", desc := "(I[I)I" } : MethodName) prog_2_method_11_code (3 : Nat) (Option.some FieldType.int)) ∈ pn_W := pn_mem 465 (by decide +kernel) (by decide +kernel)
theorem m_466 : (Cond.methodLink "PressureNets$Net" (106 : Nat) ({ cls := "PressureNets$Net", name := "rootFlow", desc := "(II)I" } : MethodName)) ∈ pn_W := pn_mem 466 (by decide +kernel) (by decide +kernel)
theorem m_467 : (Cond.static ({ cls := "PressureNets$Net", name := "rootFlow", desc := "(II)I" } : MethodName)) ∈ pn_W := pn_mem 467 (by decide +kernel) (by decide +kernel)
theorem m_468 : (Cond.code ({ cls := "PressureNets$Net", name := "rootFlow", desc := "(II)I" } : MethodName) prog_2_method_14_code (11 : Nat) (Option.some FieldType.int)) ∈ pn_W := pn_mem 468 (by decide +kernel) (by decide +kernel)
theorem m_469 : (Cond.constantLong "PressureNets$Net" (113 : Nat) (2 : Int64)) ∈ pn_W := pn_mem 469 (by decide +kernel) (by decide +kernel)
theorem m_470 : (Cond.methodLink "PressureNets$Settler" (84 : Nat) ({ cls := "java/lang/Math", name := "min", desc := "(II)I" } : MethodName)) ∈ pn_W := pn_mem 470 (by decide +kernel) (by decide +kernel)
theorem m_471 : (Cond.methodLink "PressureNets$Settler" (50 : Nat) ({ cls := "PressureNets$Settler", name := "lifts", desc := "(LPressureNets$State;II)Z" } : MethodName)) ∈ pn_W := pn_mem 471 (by decide +kernel) (by decide +kernel)
theorem m_473 : (Cond.instanceMethod ({ cls := "PressureNets$Settler", name := "lifts", desc := "(LPressureNets$State;II)Z" } : MethodName)) ∈ pn_W := pn_mem 473 (by decide +kernel) (by decide +kernel)
theorem m_474 : (Cond.code ({ cls := "PressureNets$Settler", name := "lifts", desc := "(LPressureNets$State;II)Z" } : MethodName) prog_3_method_7_code (5 : Nat) (Option.some FieldType.boolean)) ∈ pn_W := pn_mem 474 (by decide +kernel) (by decide +kernel)
theorem m_475 : (Cond.constant "PressureNets" (124 : Nat) (-1000000 : Int32)) ∈ pn_W := pn_mem 475 (by decide +kernel) (by decide +kernel)
theorem m_476 : (Cond.methodLink "PressureNetsLaw" (103 : Nat) ({ cls := "PressureNetsLaw", name := "told", desc := "(LPressureNets;II[J)I" } : MethodName)) ∈ pn_W := pn_mem 476 (by decide +kernel) (by decide +kernel)
theorem m_477 : (Cond.static ({ cls := "PressureNetsLaw", name := "told", desc := "(LPressureNets;II[J)I" } : MethodName)) ∈ pn_W := pn_mem 477 (by decide +kernel) (by decide +kernel)
theorem m_479 : (Cond.methodLink "PressureNetsLaw" (39 : Nat) ({ cls := "PressureNets", name := "told", desc := "(II)I" } : MethodName)) ∈ pn_W := pn_mem 479 (by decide +kernel) (by decide +kernel)
theorem m_480 : (Cond.instanceMethod ({ cls := "PressureNets", name := "told", desc := "(II)I" } : MethodName)) ∈ pn_W := pn_mem 480 (by decide +kernel) (by decide +kernel)
theorem m_481 : (Cond.selects "PressureNets" ({ cls := "PressureNets", name := "told", desc := "(II)I" } : MethodName) ({ cls := "PressureNets", name := "told", desc := "(II)I" } : MethodName)) ∈ pn_W := pn_mem 481 (by decide +kernel) (by decide +kernel)
theorem m_482 : (Cond.code ({ cls := "PressureNets", name := "told", desc := "(II)I" } : MethodName) prog_1_method_9_code (3 : Nat) (Option.some FieldType.int)) ∈ pn_W := pn_mem 482 (by decide +kernel) (by decide +kernel)
theorem m_483 : (Cond.methodLink "PressureNets" (125 : Nat) ({ cls := "PressureNets$Net", name := "driveOf", desc := "(I[I)I" } : MethodName)) ∈ pn_W := pn_mem 483 (by decide +kernel) (by decide +kernel)
theorem m_484 : (Cond.methodLink "PressureNets" (129 : Nat) ({ cls := "PressureNets$Net", name := "flowOf", desc := "(ILPressureNets$State;)I" } : MethodName)) ∈ pn_W := pn_mem 484 (by decide +kernel) (by decide +kernel)
theorem m_485 : (Cond.methodLink "PressureNetsLaw" (106 : Nat) ({ cls := "PressureNetsLaw", name := "blows", desc := "(LPressureNets;I[J)I" } : MethodName)) ∈ pn_W := pn_mem 485 (by decide +kernel) (by decide +kernel)
theorem m_486 : (Cond.static ({ cls := "PressureNetsLaw", name := "blows", desc := "(LPressureNets;I[J)I" } : MethodName)) ∈ pn_W := pn_mem 486 (by decide +kernel) (by decide +kernel)
theorem m_488 : (Cond.methodLink "PressureNetsLaw" (42 : Nat) ({ cls := "PressureNets", name := "blows", desc := "(I)I" } : MethodName)) ∈ pn_W := pn_mem 488 (by decide +kernel) (by decide +kernel)
theorem m_489 : (Cond.instanceMethod ({ cls := "PressureNets", name := "blows", desc := "(I)I" } : MethodName)) ∈ pn_W := pn_mem 489 (by decide +kernel) (by decide +kernel)
theorem m_490 : (Cond.selects "PressureNets" ({ cls := "PressureNets", name := "blows", desc := "(I)I" } : MethodName) ({ cls := "PressureNets", name := "blows", desc := "(I)I" } : MethodName)) ∈ pn_W := pn_mem 490 (by decide +kernel) (by decide +kernel)
theorem m_491 : (Cond.code ({ cls := "PressureNets", name := "blows", desc := "(I)I" } : MethodName) prog_1_method_10_code (2 : Nat) (Option.some FieldType.int)) ∈ pn_W := pn_mem 491 (by decide +kernel) (by decide +kernel)
theorem m_492 : (Cond.methodLink "PressureNets" (133 : Nat) ({ cls := "PressureNets", name := "ductOfFan", desc := "(I)I" } : MethodName)) ∈ pn_W := pn_mem 492 (by decide +kernel) (by decide +kernel)
theorem m_493 : (Cond.methodLink "PressureNetsLaw" (109 : Nat) ({ cls := "PressureNetsLaw", name := "gain", desc := "(LPressureNets;I[J)I" } : MethodName)) ∈ pn_W := pn_mem 493 (by decide +kernel) (by decide +kernel)
theorem m_494 : (Cond.static ({ cls := "PressureNetsLaw", name := "gain", desc := "(LPressureNets;I[J)I" } : MethodName)) ∈ pn_W := pn_mem 494 (by decide +kernel) (by decide +kernel)
theorem m_496 : (Cond.methodLink "PressureNetsLaw" (45 : Nat) ({ cls := "PressureNets", name := "gain", desc := "(I)I" } : MethodName)) ∈ pn_W := pn_mem 496 (by decide +kernel) (by decide +kernel)
theorem m_497 : (Cond.instanceMethod ({ cls := "PressureNets", name := "gain", desc := "(I)I" } : MethodName)) ∈ pn_W := pn_mem 497 (by decide +kernel) (by decide +kernel)
theorem m_498 : (Cond.selects "PressureNets" ({ cls := "PressureNets", name := "gain", desc := "(I)I" } : MethodName) ({ cls := "PressureNets", name := "gain", desc := "(I)I" } : MethodName)) ∈ pn_W := pn_mem 498 (by decide +kernel) (by decide +kernel)
theorem m_499 : (Cond.code ({ cls := "PressureNets", name := "gain", desc := "(I)I" } : MethodName) prog_1_method_11_code (2 : Nat) (Option.some FieldType.int)) ∈ pn_W := pn_mem 499 (by decide +kernel) (by decide +kernel)
theorem m_500 : (Cond.methodLink "PressureNets" (139 : Nat) ({ cls := "PressureNets$Net", name := "gainOf", desc := "(ILPressureNets$State;)I" } : MethodName)) ∈ pn_W := pn_mem 500 (by decide +kernel) (by decide +kernel)
theorem m_501 : (Cond.methodLink "PressureNetsLaw" (112 : Nat) ({ cls := "PressureNetsLaw", name := "caseOf", desc := "(LPressureNets;I[J)I" } : MethodName)) ∈ pn_W := pn_mem 501 (by decide +kernel) (by decide +kernel)
theorem m_502 : (Cond.static ({ cls := "PressureNetsLaw", name := "caseOf", desc := "(LPressureNets;I[J)I" } : MethodName)) ∈ pn_W := pn_mem 502 (by decide +kernel) (by decide +kernel)
theorem m_504 : (Cond.methodLink "PressureNetsLaw" (48 : Nat) ({ cls := "PressureNets", name := "caseOf", desc := "(I)I" } : MethodName)) ∈ pn_W := pn_mem 504 (by decide +kernel) (by decide +kernel)
theorem m_505 : (Cond.instanceMethod ({ cls := "PressureNets", name := "caseOf", desc := "(I)I" } : MethodName)) ∈ pn_W := pn_mem 505 (by decide +kernel) (by decide +kernel)
theorem m_506 : (Cond.selects "PressureNets" ({ cls := "PressureNets", name := "caseOf", desc := "(I)I" } : MethodName) ({ cls := "PressureNets", name := "caseOf", desc := "(I)I" } : MethodName)) ∈ pn_W := pn_mem 506 (by decide +kernel) (by decide +kernel)
theorem m_507 : (Cond.code ({ cls := "PressureNets", name := "caseOf", desc := "(I)I" } : MethodName) prog_1_method_12_code (3 : Nat) (Option.some FieldType.int)) ∈ pn_W := pn_mem 507 (by decide +kernel) (by decide +kernel)
theorem m_508 : (Cond.methodLink "PressureNetsLaw" (115 : Nat) ({ cls := "PressureNetsLaw", name := "worst", desc := "(LPressureNets;II[J)I" } : MethodName)) ∈ pn_W := pn_mem 508 (by decide +kernel) (by decide +kernel)
theorem m_509 : (Cond.static ({ cls := "PressureNetsLaw", name := "worst", desc := "(LPressureNets;II[J)I" } : MethodName)) ∈ pn_W := pn_mem 509 (by decide +kernel) (by decide +kernel)
theorem m_511 : (Cond.methodLink "PressureNetsLaw" (51 : Nat) ({ cls := "PressureNets", name := "worst", desc := "(II)I" } : MethodName)) ∈ pn_W := pn_mem 511 (by decide +kernel) (by decide +kernel)
theorem m_512 : (Cond.instanceMethod ({ cls := "PressureNets", name := "worst", desc := "(II)I" } : MethodName)) ∈ pn_W := pn_mem 512 (by decide +kernel) (by decide +kernel)
theorem m_513 : (Cond.selects "PressureNets" ({ cls := "PressureNets", name := "worst", desc := "(II)I" } : MethodName) ({ cls := "PressureNets", name := "worst", desc := "(II)I" } : MethodName)) ∈ pn_W := pn_mem 513 (by decide +kernel) (by decide +kernel)
theorem m_514 : (Cond.code ({ cls := "PressureNets", name := "worst", desc := "(II)I" } : MethodName) prog_1_method_13_code (9 : Nat) (Option.some FieldType.int)) ∈ pn_W := pn_mem 514 (by decide +kernel) (by decide +kernel)
theorem m_515 : (Cond.methodLink "PressureNetsLaw" (118 : Nat) ({ cls := "PressureNetsLaw", name := "put", desc := "(LPressureNets;II[J)I" } : MethodName)) ∈ pn_W := pn_mem 515 (by decide +kernel) (by decide +kernel)
theorem m_516 : (Cond.static ({ cls := "PressureNetsLaw", name := "put", desc := "(LPressureNets;II[J)I" } : MethodName)) ∈ pn_W := pn_mem 516 (by decide +kernel) (by decide +kernel)
theorem m_518 : (Cond.methodLink "PressureNetsLaw" (54 : Nat) ({ cls := "PressureNets", name := "put", desc := "(II)I" } : MethodName)) ∈ pn_W := pn_mem 518 (by decide +kernel) (by decide +kernel)
theorem m_519 : (Cond.instanceMethod ({ cls := "PressureNets", name := "put", desc := "(II)I" } : MethodName)) ∈ pn_W := pn_mem 519 (by decide +kernel) (by decide +kernel)
theorem m_520 : (Cond.selects "PressureNets" ({ cls := "PressureNets", name := "put", desc := "(II)I" } : MethodName) ({ cls := "PressureNets", name := "put", desc := "(II)I" } : MethodName)) ∈ pn_W := pn_mem 520 (by decide +kernel) (by decide +kernel)
theorem m_521 : (Cond.code ({ cls := "PressureNets", name := "put", desc := "(II)I" } : MethodName) prog_1_method_14_code (5 : Nat) (Option.some FieldType.int)) ∈ pn_W := pn_mem 521 (by decide +kernel) (by decide +kernel)
theorem m_522 : (Cond.constant "PressureNets" (142 : Nat) (-1000000000 : Int32)) ∈ pn_W := pn_mem 522 (by decide +kernel) (by decide +kernel)
theorem m_523 : (Cond.constant "PressureNets" (143 : Nat) (1000000000 : Int32)) ∈ pn_W := pn_mem 523 (by decide +kernel) (by decide +kernel)
theorem m_524 : (Cond.constantLong "PressureNets" (148 : Nat) (1000000000 : Int64)) ∈ pn_W := pn_mem 524 (by decide +kernel) (by decide +kernel)
theorem m_525 : (Cond.methodLink "PressureNetsLaw" (121 : Nat) ({ cls := "PressureNetsLaw", name := "source", desc := "(LPressureNets;II[J)I" } : MethodName)) ∈ pn_W := pn_mem 525 (by decide +kernel) (by decide +kernel)
theorem m_526 : (Cond.static ({ cls := "PressureNetsLaw", name := "source", desc := "(LPressureNets;II[J)I" } : MethodName)) ∈ pn_W := pn_mem 526 (by decide +kernel) (by decide +kernel)
theorem m_528 : (Cond.methodLink "PressureNetsLaw" (57 : Nat) ({ cls := "PressureNets", name := "source", desc := "(II)I" } : MethodName)) ∈ pn_W := pn_mem 528 (by decide +kernel) (by decide +kernel)
theorem m_529 : (Cond.instanceMethod ({ cls := "PressureNets", name := "source", desc := "(II)I" } : MethodName)) ∈ pn_W := pn_mem 529 (by decide +kernel) (by decide +kernel)
theorem m_530 : (Cond.selects "PressureNets" ({ cls := "PressureNets", name := "source", desc := "(II)I" } : MethodName) ({ cls := "PressureNets", name := "source", desc := "(II)I" } : MethodName)) ∈ pn_W := pn_mem 530 (by decide +kernel) (by decide +kernel)
theorem m_531 : (Cond.code ({ cls := "PressureNets", name := "source", desc := "(II)I" } : MethodName) prog_1_method_15_code (4 : Nat) (Option.some FieldType.int)) ∈ pn_W := pn_mem 531 (by decide +kernel) (by decide +kernel)
theorem m_532 : (Cond.constant "PressureNets" (150 : Nat) (1000000 : Int32)) ∈ pn_W := pn_mem 532 (by decide +kernel) (by decide +kernel)
theorem m_533 : (Cond.methodLink "PressureNetsLaw" (124 : Nat) ({ cls := "PressureNetsLaw", name := "steps", desc := "(LPressureNets;I[J)I" } : MethodName)) ∈ pn_W := pn_mem 533 (by decide +kernel) (by decide +kernel)
theorem m_534 : (Cond.static ({ cls := "PressureNetsLaw", name := "steps", desc := "(LPressureNets;I[J)I" } : MethodName)) ∈ pn_W := pn_mem 534 (by decide +kernel) (by decide +kernel)
theorem m_536 : (Cond.methodLink "PressureNetsLaw" (60 : Nat) ({ cls := "PressureNets", name := "steps", desc := "(I)I" } : MethodName)) ∈ pn_W := pn_mem 536 (by decide +kernel) (by decide +kernel)
theorem m_537 : (Cond.instanceMethod ({ cls := "PressureNets", name := "steps", desc := "(I)I" } : MethodName)) ∈ pn_W := pn_mem 537 (by decide +kernel) (by decide +kernel)
theorem m_538 : (Cond.selects "PressureNets" ({ cls := "PressureNets", name := "steps", desc := "(I)I" } : MethodName) ({ cls := "PressureNets", name := "steps", desc := "(I)I" } : MethodName)) ∈ pn_W := pn_mem 538 (by decide +kernel) (by decide +kernel)
theorem m_539 : (Cond.code ({ cls := "PressureNets", name := "steps", desc := "(I)I" } : MethodName) prog_1_method_16_code (3 : Nat) (Option.some FieldType.int)) ∈ pn_W := pn_mem 539 (by decide +kernel) (by decide +kernel)
theorem m_540 : (Cond.methodLink "PressureNets" (154 : Nat) ({ cls := "PressureNets$Stuff", name := "follow", desc := "(LPressureNets$State;)V" } : MethodName)) ∈ pn_W := pn_mem 540 (by decide +kernel) (by decide +kernel)
theorem m_541 : (Cond.instanceMethod ({ cls := "PressureNets$Stuff", name := "follow", desc := "(LPressureNets$State;)V" } : MethodName)) ∈ pn_W := pn_mem 541 (by decide +kernel) (by decide +kernel)
theorem m_542 : (Cond.selects "PressureNets$Stuff" ({ cls := "PressureNets$Stuff", name := "follow", desc := "(LPressureNets$State;)V" } : MethodName) ({ cls := "PressureNets$Stuff", name := "follow", desc := "(LPressureNets$State;)V" } : MethodName)) ∈ pn_W := pn_mem 542 (by decide +kernel) (by decide +kernel)
theorem m_543 : (Cond.code ({ cls := "PressureNets$Stuff", name := "follow", desc := "(LPressureNets$State;)V" } : MethodName) prog_5_method_2_code (3 : Nat) none) ∈ pn_W := pn_mem 543 (by decide +kernel) (by decide +kernel)
theorem m_544 : (Cond.methodLink "PressureNets$Stuff" (32 : Nat) ({ cls := "java/util/Arrays", name := "fill", desc := "([JJ)V" } : MethodName)) ∈ pn_W := pn_mem 544 (by decide +kernel) (by decide +kernel)
theorem m_545 : (Cond.static ({ cls := "java/util/Arrays", name := "fill", desc := "([JJ)V" } : MethodName)) ∈ pn_W := pn_mem 545 (by decide +kernel) (by decide +kernel)
theorem m_546 : (Cond.code ({ cls := "java/util/Arrays", name := "fill", desc := "([JJ)V" } : MethodName) prog_16_method_101_code (5 : Nat) none) ∈ pn_W := pn_mem 546 (by decide +kernel) (by decide +kernel)
theorem m_547 : (Cond.methodLink "PressureNets$Stuff" (38 : Nat) ({ cls := "PressureNets$Net", name := "isDuct", desc := "(I)Z" } : MethodName)) ∈ pn_W := pn_mem 547 (by decide +kernel) (by decide +kernel)
theorem m_548 : (Cond.instanceMethod ({ cls := "PressureNets$Net", name := "isDuct", desc := "(I)Z" } : MethodName)) ∈ pn_W := pn_mem 548 (by decide +kernel) (by decide +kernel)
theorem m_549 : (Cond.selects "PressureNets$Net" ({ cls := "PressureNets$Net", name := "isDuct", desc := "(I)Z" } : MethodName) ({ cls := "PressureNets$Net", name := "isDuct", desc := "(I)Z" } : MethodName)) ∈ pn_W := pn_mem 549 (by decide +kernel) (by decide +kernel)
theorem m_550 : (Cond.code ({ cls := "PressureNets$Net", name := "isDuct", desc := "(I)Z" } : MethodName) prog_2_method_10_code (2 : Nat) (Option.some FieldType.boolean)) ∈ pn_W := pn_mem 550 (by decide +kernel) (by decide +kernel)
theorem m_551 : (Cond.methodLink "PressureNets$Stuff" (44 : Nat) ({ cls := "PressureNets$Net", name := "flowOf", desc := "(ILPressureNets$State;)I" } : MethodName)) ∈ pn_W := pn_mem 551 (by decide +kernel) (by decide +kernel)
theorem m_552 : (Cond.methodLink "PressureNets$Stuff" (48 : Nat) ({ cls := "PressureNets$Stuff", name := "giverOf", desc := "(I)I" } : MethodName)) ∈ pn_W := pn_mem 552 (by decide +kernel) (by decide +kernel)
theorem m_554 : (Cond.instanceMethod ({ cls := "PressureNets$Stuff", name := "giverOf", desc := "(I)I" } : MethodName)) ∈ pn_W := pn_mem 554 (by decide +kernel) (by decide +kernel)
theorem m_555 : (Cond.code ({ cls := "PressureNets$Stuff", name := "giverOf", desc := "(I)I" } : MethodName) prog_5_method_3_code (2 : Nat) (Option.some FieldType.int)) ∈ pn_W := pn_mem 555 (by decide +kernel) (by decide +kernel)
theorem m_556 : (Cond.methodLink "PressureNets$Stuff" (52 : Nat) ({ cls := "java/lang/Math", name := "abs", desc := "(I)I" } : MethodName)) ∈ pn_W := pn_mem 556 (by decide +kernel) (by decide +kernel)
theorem m_557 : (Cond.static ({ cls := "java/lang/Math", name := "abs", desc := "(I)I" } : MethodName)) ∈ pn_W := pn_mem 557 (by decide +kernel) (by decide +kernel)
theorem m_558 : (Cond.code ({ cls := "java/lang/Math", name := "abs", desc := "(I)I" } : MethodName) prog_11_method_59_code (1 : Nat) (Option.some FieldType.int)) ∈ pn_W := pn_mem 558 (by decide +kernel) (by decide +kernel)
theorem m_560 : (Cond.methodLink "PressureNets$Stuff" (67 : Nat) ({ cls := "java/lang/Math", name := "max", desc := "(JJ)J" } : MethodName)) ∈ pn_W := pn_mem 560 (by decide +kernel) (by decide +kernel)
theorem m_561 : (Cond.static ({ cls := "java/lang/Math", name := "max", desc := "(JJ)J" } : MethodName)) ∈ pn_W := pn_mem 561 (by decide +kernel) (by decide +kernel)
theorem m_562 : (Cond.code ({ cls := "java/lang/Math", name := "max", desc := "(JJ)J" } : MethodName) prog_11_method_66_code (4 : Nat) (Option.some FieldType.long)) ∈ pn_W := pn_mem 562 (by decide +kernel) (by decide +kernel)
theorem m_563 : (Cond.methodLink "PressureNets" (158 : Nat) ({ cls := "PressureNets$Stuff", name := "doesStep", desc := "()Z" } : MethodName)) ∈ pn_W := pn_mem 563 (by decide +kernel) (by decide +kernel)
theorem m_564 : (Cond.instanceMethod ({ cls := "PressureNets$Stuff", name := "doesStep", desc := "()Z" } : MethodName)) ∈ pn_W := pn_mem 564 (by decide +kernel) (by decide +kernel)
theorem m_565 : (Cond.selects "PressureNets$Stuff" ({ cls := "PressureNets$Stuff", name := "doesStep", desc := "()Z" } : MethodName) ({ cls := "PressureNets$Stuff", name := "doesStep", desc := "()Z" } : MethodName)) ∈ pn_W := pn_mem 565 (by decide +kernel) (by decide +kernel)
theorem m_566 : (Cond.code ({ cls := "PressureNets$Stuff", name := "doesStep", desc := "()Z" } : MethodName) prog_5_method_5_code (2 : Nat) (Option.some FieldType.boolean)) ∈ pn_W := pn_mem 566 (by decide +kernel) (by decide +kernel)
theorem m_567 : (Cond.methodLink "PressureNets$Stuff" (77 : Nat) ({ cls := "java/lang/System", name := "arraycopy", desc := "(Ljava/lang/Object;ILjava/lang/Object;II)V" } : MethodName)) ∈ pn_W := pn_mem 567 (by decide +kernel) (by decide +kernel)
theorem m_568 : (Cond.methodLink "PressureNets$Stuff" (83 : Nat) ({ cls := "PressureNets$Stuff", name := "carry", desc := "(I)V" } : MethodName)) ∈ pn_W := pn_mem 568 (by decide +kernel) (by decide +kernel)
theorem m_570 : (Cond.instanceMethod ({ cls := "PressureNets$Stuff", name := "carry", desc := "(I)V" } : MethodName)) ∈ pn_W := pn_mem 570 (by decide +kernel) (by decide +kernel)
theorem m_571 : (Cond.code ({ cls := "PressureNets$Stuff", name := "carry", desc := "(I)V" } : MethodName) prog_5_method_6_code (5 : Nat) none) ∈ pn_W := pn_mem 571 (by decide +kernel) (by decide +kernel)
theorem m_572 : (Cond.methodLink "PressureNets$Stuff" (89 : Nat) ({ cls := "PressureNets$Stuff", name := "takerOf", desc := "(I)I" } : MethodName)) ∈ pn_W := pn_mem 572 (by decide +kernel) (by decide +kernel)
theorem m_574 : (Cond.instanceMethod ({ cls := "PressureNets$Stuff", name := "takerOf", desc := "(I)I" } : MethodName)) ∈ pn_W := pn_mem 574 (by decide +kernel) (by decide +kernel)
theorem m_575 : (Cond.code ({ cls := "PressureNets$Stuff", name := "takerOf", desc := "(I)I" } : MethodName) prog_5_method_4_code (2 : Nat) (Option.some FieldType.int)) ∈ pn_W := pn_mem 575 (by decide +kernel) (by decide +kernel)
theorem m_576 : (Cond.constantLong "PressureNets$Stuff" (87 : Nat) (1000000000 : Int64)) ∈ pn_W := pn_mem 576 (by decide +kernel) (by decide +kernel)
theorem m_577 : (Cond.methodLink "PressureNetsLaw" (127 : Nat) ({ cls := "PressureNetsLaw", name := "gone", desc := "(LPressureNets;I[J)I" } : MethodName)) ∈ pn_W := pn_mem 577 (by decide +kernel) (by decide +kernel)
theorem m_578 : (Cond.static ({ cls := "PressureNetsLaw", name := "gone", desc := "(LPressureNets;I[J)I" } : MethodName)) ∈ pn_W := pn_mem 578 (by decide +kernel) (by decide +kernel)
theorem m_580 : (Cond.methodLink "PressureNetsLaw" (63 : Nat) ({ cls := "PressureNets", name := "gone", desc := "(I)J" } : MethodName)) ∈ pn_W := pn_mem 580 (by decide +kernel) (by decide +kernel)
theorem m_581 : (Cond.instanceMethod ({ cls := "PressureNets", name := "gone", desc := "(I)J" } : MethodName)) ∈ pn_W := pn_mem 581 (by decide +kernel) (by decide +kernel)
theorem m_582 : (Cond.selects "PressureNets" ({ cls := "PressureNets", name := "gone", desc := "(I)J" } : MethodName) ({ cls := "PressureNets", name := "gone", desc := "(I)J" } : MethodName)) ∈ pn_W := pn_mem 582 (by decide +kernel) (by decide +kernel)
theorem m_583 : (Cond.code ({ cls := "PressureNets", name := "gone", desc := "(I)J" } : MethodName) prog_1_method_17_code (2 : Nat) (Option.some FieldType.long)) ∈ pn_W := pn_mem 583 (by decide +kernel) (by decide +kernel)
theorem m_584 : (Cond.classLink "PressureNetsLaw" (68 : Nat) "PressureNetsModel") ∈ pn_W := pn_mem 584 (by decide +kernel) (by decide +kernel)
theorem m_585 : (Cond.instantiable "PressureNetsModel" (27 : Nat)) ∈ pn_W := pn_mem 585 (by decide +kernel) (by decide +kernel)
theorem m_586 : (Cond.methodLink "PressureNetsLaw" (70 : Nat) ({ cls := "PressureNetsModel", name := "<init>", desc := "()V" } : MethodName)) ∈ pn_W := pn_mem 586 (by decide +kernel) (by decide +kernel)
theorem m_587 : (Cond.instanceMethod ({ cls := "PressureNetsModel", name := "<init>", desc := "()V" } : MethodName)) ∈ pn_W := pn_mem 587 (by decide +kernel) (by decide +kernel)
theorem m_588 : (Cond.code ({ cls := "PressureNetsModel", name := "<init>", desc := "()V" } : MethodName) prog_7_method_1_code (1 : Nat) none) ∈ pn_W := pn_mem 588 (by decide +kernel) (by decide +kernel)
theorem m_589 : (Cond.methodLink "PressureNetsModel" (1 : Nat) ({ cls := "java/lang/Object", name := "<init>", desc := "()V" } : MethodName)) ∈ pn_W := pn_mem 589 (by decide +kernel) (by decide +kernel)
theorem m_590 : (Cond.fieldLink "PressureNetsModel" (72 : Nat) "PressureNetsModel" "code" "I") ∈ pn_W := pn_mem 590 (by decide +kernel) (by decide +kernel)
theorem m_591 : (Cond.fieldLink "PressureNetsModel" (7 : Nat) "PressureNetsModel" "winds" "[I") ∈ pn_W := pn_mem 591 (by decide +kernel) (by decide +kernel)
theorem m_592 : (Cond.fieldLink "PressureNetsModel" (101 : Nat) "PressureNetsModel" "air" "I") ∈ pn_W := pn_mem 592 (by decide +kernel) (by decide +kernel)
theorem m_593 : (Cond.fieldLink "PressureNetsModel" (76 : Nat) "PressureNetsModel" "zones" "I") ∈ pn_W := pn_mem 593 (by decide +kernel) (by decide +kernel)
theorem m_594 : (Cond.fieldLink "PressureNetsModel" (13 : Nat) "PressureNetsModel" "warmths" "[I") ∈ pn_W := pn_mem 594 (by decide +kernel) (by decide +kernel)
theorem m_595 : (Cond.fieldLink "PressureNetsModel" (16 : Nat) "PressureNetsModel" "volumes" "[I") ∈ pn_W := pn_mem 595 (by decide +kernel) (by decide +kernel)
theorem m_596 : (Cond.fieldLink "PressureNetsModel" (19 : Nat) "PressureNetsModel" "holds" "[J") ∈ pn_W := pn_mem 596 (by decide +kernel) (by decide +kernel)
theorem m_597 : (Cond.fieldLink "PressureNetsModel" (23 : Nat) "PressureNetsModel" "sources" "[I") ∈ pn_W := pn_mem 597 (by decide +kernel) (by decide +kernel)
theorem m_598 : (Cond.fieldLink "PressureNetsModel" (110 : Nat) "PressureNetsModel" "leaks" "I") ∈ pn_W := pn_mem 598 (by decide +kernel) (by decide +kernel)
theorem m_599 : (Cond.fieldLink "PressureNetsModel" (26 : Nat) "PressureNetsModel" "leakA" "[I") ∈ pn_W := pn_mem 599 (by decide +kernel) (by decide +kernel)
theorem m_600 : (Cond.fieldLink "PressureNetsModel" (29 : Nat) "PressureNetsModel" "leakB" "[I") ∈ pn_W := pn_mem 600 (by decide +kernel) (by decide +kernel)
theorem m_601 : (Cond.fieldLink "PressureNetsModel" (32 : Nat) "PressureNetsModel" "heights" "[I") ∈ pn_W := pn_mem 601 (by decide +kernel) (by decide +kernel)
theorem m_602 : (Cond.fieldLink "PressureNetsModel" (35 : Nat) "PressureNetsModel" "areas" "[I") ∈ pn_W := pn_mem 602 (by decide +kernel) (by decide +kernel)
theorem m_603 : (Cond.fieldLink "PressureNetsModel" (38 : Nat) "PressureNetsModel" "kinds" "[I") ∈ pn_W := pn_mem 603 (by decide +kernel) (by decide +kernel)
theorem m_604 : (Cond.fieldLink "PressureNetsModel" (41 : Nat) "PressureNetsModel" "isShut" "[Z") ∈ pn_W := pn_mem 604 (by decide +kernel) (by decide +kernel)
theorem m_605 : (Cond.fieldLink "PressureNetsModel" (115 : Nat) "PressureNetsModel" "fans" "I") ∈ pn_W := pn_mem 605 (by decide +kernel) (by decide +kernel)
theorem m_606 : (Cond.fieldLink "PressureNetsModel" (45 : Nat) "PressureNetsModel" "fanA" "[I") ∈ pn_W := pn_mem 606 (by decide +kernel) (by decide +kernel)
theorem m_607 : (Cond.fieldLink "PressureNetsModel" (48 : Nat) "PressureNetsModel" "fanB" "[I") ∈ pn_W := pn_mem 607 (by decide +kernel) (by decide +kernel)
theorem m_608 : (Cond.fieldLink "PressureNetsModel" (51 : Nat) "PressureNetsModel" "fanFlow" "[I") ∈ pn_W := pn_mem 608 (by decide +kernel) (by decide +kernel)
theorem m_609 : (Cond.fieldLink "PressureNetsModel" (54 : Nat) "PressureNetsModel" "slopes" "[I") ∈ pn_W := pn_mem 609 (by decide +kernel) (by decide +kernel)
theorem m_610 : (Cond.fieldLink "PressureNetsModel" (163 : Nat) "PressureNetsModel" "cases" "I") ∈ pn_W := pn_mem 610 (by decide +kernel) (by decide +kernel)
theorem m_611 : (Cond.fieldLink "PressureNetsModel" (57 : Nat) "PressureNetsModel" "sets" "[I") ∈ pn_W := pn_mem 611 (by decide +kernel) (by decide +kernel)
theorem m_612 : (Cond.fieldLink "PressureNetsModel" (60 : Nat) "PressureNetsModel" "gone" "[J") ∈ pn_W := pn_mem 612 (by decide +kernel) (by decide +kernel)
theorem m_613 : (Cond.fieldLink "PressureNetsModel" (63 : Nat) "PressureNetsModel" "state" "[I") ∈ pn_W := pn_mem 613 (by decide +kernel) (by decide +kernel)
theorem m_614 : (Cond.fieldLink "PressureNetsModel" (125 : Nat) "PressureNetsModel" "closed" "I") ∈ pn_W := pn_mem 614 (by decide +kernel) (by decide +kernel)
theorem m_615 : (Cond.fieldLink "PressureNetsModel" (66 : Nat) "PressureNetsModel" "next" "[J") ∈ pn_W := pn_mem 615 (by decide +kernel) (by decide +kernel)
theorem m_616 : (Cond.fieldLink "PressureNetsModel" (69 : Nat) "PressureNetsModel" "nextGone" "[J") ∈ pn_W := pn_mem 616 (by decide +kernel) (by decide +kernel)
theorem m_617 : (Cond.lays "PressureNetsModel" "PressureNetsModel" "code" "I") ∈ pn_W := pn_mem 617 (by decide +kernel) (by decide +kernel)
theorem m_618 : (Cond.soleField "PressureNetsModel" "code") ∈ pn_W := pn_mem 618 (by decide +kernel) (by decide +kernel)
theorem m_619 : (Cond.laysFinal "PressureNetsModel" "PressureNetsModel" "winds" "[I") ∈ pn_W := pn_mem 619 (by decide +kernel) (by decide +kernel)
theorem m_620 : (Cond.soleField "PressureNetsModel" "winds") ∈ pn_W := pn_mem 620 (by decide +kernel) (by decide +kernel)
theorem m_621 : (Cond.lays "PressureNetsModel" "PressureNetsModel" "air" "I") ∈ pn_W := pn_mem 621 (by decide +kernel) (by decide +kernel)
theorem m_622 : (Cond.soleField "PressureNetsModel" "air") ∈ pn_W := pn_mem 622 (by decide +kernel) (by decide +kernel)
theorem m_623 : (Cond.lays "PressureNetsModel" "PressureNetsModel" "zones" "I") ∈ pn_W := pn_mem 623 (by decide +kernel) (by decide +kernel)
theorem m_624 : (Cond.soleField "PressureNetsModel" "zones") ∈ pn_W := pn_mem 624 (by decide +kernel) (by decide +kernel)
theorem m_625 : (Cond.laysFinal "PressureNetsModel" "PressureNetsModel" "warmths" "[I") ∈ pn_W := pn_mem 625 (by decide +kernel) (by decide +kernel)
theorem m_626 : (Cond.soleField "PressureNetsModel" "warmths") ∈ pn_W := pn_mem 626 (by decide +kernel) (by decide +kernel)
theorem m_627 : (Cond.laysFinal "PressureNetsModel" "PressureNetsModel" "volumes" "[I") ∈ pn_W := pn_mem 627 (by decide +kernel) (by decide +kernel)
theorem m_628 : (Cond.soleField "PressureNetsModel" "volumes") ∈ pn_W := pn_mem 628 (by decide +kernel) (by decide +kernel)
theorem m_629 : (Cond.laysFinal "PressureNetsModel" "PressureNetsModel" "holds" "[J") ∈ pn_W := pn_mem 629 (by decide +kernel) (by decide +kernel)
theorem m_630 : (Cond.soleField "PressureNetsModel" "holds") ∈ pn_W := pn_mem 630 (by decide +kernel) (by decide +kernel)
theorem m_631 : (Cond.laysFinal "PressureNetsModel" "PressureNetsModel" "sources" "[I") ∈ pn_W := pn_mem 631 (by decide +kernel) (by decide +kernel)
theorem m_632 : (Cond.soleField "PressureNetsModel" "sources") ∈ pn_W := pn_mem 632 (by decide +kernel) (by decide +kernel)
theorem m_633 : (Cond.lays "PressureNetsModel" "PressureNetsModel" "leaks" "I") ∈ pn_W := pn_mem 633 (by decide +kernel) (by decide +kernel)
theorem m_634 : (Cond.soleField "PressureNetsModel" "leaks") ∈ pn_W := pn_mem 634 (by decide +kernel) (by decide +kernel)
theorem m_635 : (Cond.laysFinal "PressureNetsModel" "PressureNetsModel" "leakA" "[I") ∈ pn_W := pn_mem 635 (by decide +kernel) (by decide +kernel)
theorem m_636 : (Cond.soleField "PressureNetsModel" "leakA") ∈ pn_W := pn_mem 636 (by decide +kernel) (by decide +kernel)
theorem m_637 : (Cond.laysFinal "PressureNetsModel" "PressureNetsModel" "leakB" "[I") ∈ pn_W := pn_mem 637 (by decide +kernel) (by decide +kernel)
theorem m_638 : (Cond.soleField "PressureNetsModel" "leakB") ∈ pn_W := pn_mem 638 (by decide +kernel) (by decide +kernel)
theorem m_639 : (Cond.laysFinal "PressureNetsModel" "PressureNetsModel" "heights" "[I") ∈ pn_W := pn_mem 639 (by decide +kernel) (by decide +kernel)
theorem m_640 : (Cond.soleField "PressureNetsModel" "heights") ∈ pn_W := pn_mem 640 (by decide +kernel) (by decide +kernel)
theorem m_641 : (Cond.laysFinal "PressureNetsModel" "PressureNetsModel" "areas" "[I") ∈ pn_W := pn_mem 641 (by decide +kernel) (by decide +kernel)
theorem m_642 : (Cond.soleField "PressureNetsModel" "areas") ∈ pn_W := pn_mem 642 (by decide +kernel) (by decide +kernel)
theorem m_643 : (Cond.laysFinal "PressureNetsModel" "PressureNetsModel" "kinds" "[I") ∈ pn_W := pn_mem 643 (by decide +kernel) (by decide +kernel)
theorem m_644 : (Cond.soleField "PressureNetsModel" "kinds") ∈ pn_W := pn_mem 644 (by decide +kernel) (by decide +kernel)
theorem m_645 : (Cond.laysFinal "PressureNetsModel" "PressureNetsModel" "isShut" "[Z") ∈ pn_W := pn_mem 645 (by decide +kernel) (by decide +kernel)
theorem m_646 : (Cond.soleField "PressureNetsModel" "isShut") ∈ pn_W := pn_mem 646 (by decide +kernel) (by decide +kernel)
theorem m_647 : (Cond.lays "PressureNetsModel" "PressureNetsModel" "fans" "I") ∈ pn_W := pn_mem 647 (by decide +kernel) (by decide +kernel)
theorem m_648 : (Cond.soleField "PressureNetsModel" "fans") ∈ pn_W := pn_mem 648 (by decide +kernel) (by decide +kernel)
theorem m_649 : (Cond.laysFinal "PressureNetsModel" "PressureNetsModel" "fanA" "[I") ∈ pn_W := pn_mem 649 (by decide +kernel) (by decide +kernel)
theorem m_650 : (Cond.soleField "PressureNetsModel" "fanA") ∈ pn_W := pn_mem 650 (by decide +kernel) (by decide +kernel)
theorem m_651 : (Cond.laysFinal "PressureNetsModel" "PressureNetsModel" "fanB" "[I") ∈ pn_W := pn_mem 651 (by decide +kernel) (by decide +kernel)
theorem m_652 : (Cond.soleField "PressureNetsModel" "fanB") ∈ pn_W := pn_mem 652 (by decide +kernel) (by decide +kernel)
theorem m_653 : (Cond.laysFinal "PressureNetsModel" "PressureNetsModel" "fanFlow" "[I") ∈ pn_W := pn_mem 653 (by decide +kernel) (by decide +kernel)
theorem m_654 : (Cond.soleField "PressureNetsModel" "fanFlow") ∈ pn_W := pn_mem 654 (by decide +kernel) (by decide +kernel)
theorem m_655 : (Cond.laysFinal "PressureNetsModel" "PressureNetsModel" "slopes" "[I") ∈ pn_W := pn_mem 655 (by decide +kernel) (by decide +kernel)
theorem m_656 : (Cond.soleField "PressureNetsModel" "slopes") ∈ pn_W := pn_mem 656 (by decide +kernel) (by decide +kernel)
theorem m_657 : (Cond.lays "PressureNetsModel" "PressureNetsModel" "cases" "I") ∈ pn_W := pn_mem 657 (by decide +kernel) (by decide +kernel)
theorem m_658 : (Cond.soleField "PressureNetsModel" "cases") ∈ pn_W := pn_mem 658 (by decide +kernel) (by decide +kernel)
theorem m_659 : (Cond.laysFinal "PressureNetsModel" "PressureNetsModel" "sets" "[I") ∈ pn_W := pn_mem 659 (by decide +kernel) (by decide +kernel)
theorem m_660 : (Cond.soleField "PressureNetsModel" "sets") ∈ pn_W := pn_mem 660 (by decide +kernel) (by decide +kernel)
theorem m_661 : (Cond.laysFinal "PressureNetsModel" "PressureNetsModel" "gone" "[J") ∈ pn_W := pn_mem 661 (by decide +kernel) (by decide +kernel)
theorem m_662 : (Cond.soleField "PressureNetsModel" "gone") ∈ pn_W := pn_mem 662 (by decide +kernel) (by decide +kernel)
theorem m_663 : (Cond.laysFinal "PressureNetsModel" "PressureNetsModel" "state" "[I") ∈ pn_W := pn_mem 663 (by decide +kernel) (by decide +kernel)
theorem m_664 : (Cond.soleField "PressureNetsModel" "state") ∈ pn_W := pn_mem 664 (by decide +kernel) (by decide +kernel)
theorem m_665 : (Cond.lays "PressureNetsModel" "PressureNetsModel" "closed" "I") ∈ pn_W := pn_mem 665 (by decide +kernel) (by decide +kernel)
theorem m_666 : (Cond.soleField "PressureNetsModel" "closed") ∈ pn_W := pn_mem 666 (by decide +kernel) (by decide +kernel)
theorem m_667 : (Cond.laysFinal "PressureNetsModel" "PressureNetsModel" "next" "[J") ∈ pn_W := pn_mem 667 (by decide +kernel) (by decide +kernel)
theorem m_668 : (Cond.soleField "PressureNetsModel" "next") ∈ pn_W := pn_mem 668 (by decide +kernel) (by decide +kernel)
theorem m_669 : (Cond.laysFinal "PressureNetsModel" "PressureNetsModel" "nextGone" "[J") ∈ pn_W := pn_mem 669 (by decide +kernel) (by decide +kernel)
theorem m_670 : (Cond.soleField "PressureNetsModel" "nextGone") ∈ pn_W := pn_mem 670 (by decide +kernel) (by decide +kernel)
theorem m_671 : (Cond.superclass "PressureNetsModel" "java/lang/Object") ∈ pn_W := pn_mem 671 (by decide +kernel) (by decide +kernel)
theorem m_672 : (Cond.arrayClass FieldType.boolean) ∈ pn_W := pn_mem 672 (by decide +kernel) (by decide +kernel)
theorem m_673 : (Cond.methodLink "PressureNetsLaw" (77 : Nat) ({ cls := "PressureNetsModel", name := "thrown", desc := "()I" } : MethodName)) ∈ pn_W := pn_mem 673 (by decide +kernel) (by decide +kernel)
theorem m_674 : (Cond.instanceMethod ({ cls := "PressureNetsModel", name := "thrown", desc := "()I" } : MethodName)) ∈ pn_W := pn_mem 674 (by decide +kernel) (by decide +kernel)
theorem m_675 : (Cond.selects "PressureNetsModel" ({ cls := "PressureNetsModel", name := "thrown", desc := "()I" } : MethodName) ({ cls := "PressureNetsModel", name := "thrown", desc := "()I" } : MethodName)) ∈ pn_W := pn_mem 675 (by decide +kernel) (by decide +kernel)
theorem m_676 : (Cond.code ({ cls := "PressureNetsModel", name := "thrown", desc := "()I" } : MethodName) prog_7_method_2_code (1 : Nat) (Option.some FieldType.int)) ∈ pn_W := pn_mem 676 (by decide +kernel) (by decide +kernel)
theorem m_677 : (Cond.methodLink "PressureNetsLaw" (76 : Nat) ({ cls := "PressureNetsModel", name := "zone", desc := "(II)I" } : MethodName)) ∈ pn_W := pn_mem 677 (by decide +kernel) (by decide +kernel)
theorem m_678 : (Cond.instanceMethod ({ cls := "PressureNetsModel", name := "zone", desc := "(II)I" } : MethodName)) ∈ pn_W := pn_mem 678 (by decide +kernel) (by decide +kernel)
theorem m_679 : (Cond.selects "PressureNetsModel" ({ cls := "PressureNetsModel", name := "zone", desc := "(II)I" } : MethodName) ({ cls := "PressureNetsModel", name := "zone", desc := "(II)I" } : MethodName)) ∈ pn_W := pn_mem 679 (by decide +kernel) (by decide +kernel)
theorem m_680 : (Cond.code ({ cls := "PressureNetsModel", name := "zone", desc := "(II)I" } : MethodName) prog_7_method_6_code (3 : Nat) (Option.some FieldType.int)) ∈ pn_W := pn_mem 680 (by decide +kernel) (by decide +kernel)
theorem m_681 : (Cond.constantLong "PressureNetsModel" (85 : Nat) (-1000 : Int64)) ∈ pn_W := pn_mem 681 (by decide +kernel) (by decide +kernel)
theorem m_682 : (Cond.constantLong "PressureNetsModel" (87 : Nat) (1000 : Int64)) ∈ pn_W := pn_mem 682 (by decide +kernel) (by decide +kernel)
theorem m_683 : (Cond.methodLink "PressureNetsModel" (79 : Nat) ({ cls := "PressureNetsModel", name := "in", desc := "(JJJ)Z" } : MethodName)) ∈ pn_W := pn_mem 683 (by decide +kernel) (by decide +kernel)
theorem m_684 : (Cond.static ({ cls := "PressureNetsModel", name := "in", desc := "(JJJ)Z" } : MethodName)) ∈ pn_W := pn_mem 684 (by decide +kernel) (by decide +kernel)
theorem m_685 : (Cond.code ({ cls := "PressureNetsModel", name := "in", desc := "(JJJ)Z" } : MethodName) prog_7_method_3_code (6 : Nat) (Option.some FieldType.boolean)) ∈ pn_W := pn_mem 685 (by decide +kernel) (by decide +kernel)
theorem m_686 : (Cond.constantLong "PressureNetsModel" (89 : Nat) (100000 : Int64)) ∈ pn_W := pn_mem 686 (by decide +kernel) (by decide +kernel)
theorem m_687 : (Cond.methodLink "PressureNetsLaw" (83 : Nat) ({ cls := "PressureNetsModel", name := "wind", desc := "(II)I" } : MethodName)) ∈ pn_W := pn_mem 687 (by decide +kernel) (by decide +kernel)
theorem m_688 : (Cond.instanceMethod ({ cls := "PressureNetsModel", name := "wind", desc := "(II)I" } : MethodName)) ∈ pn_W := pn_mem 688 (by decide +kernel) (by decide +kernel)
theorem m_689 : (Cond.selects "PressureNetsModel" ({ cls := "PressureNetsModel", name := "wind", desc := "(II)I" } : MethodName) ({ cls := "PressureNetsModel", name := "wind", desc := "(II)I" } : MethodName)) ∈ pn_W := pn_mem 689 (by decide +kernel) (by decide +kernel)
theorem m_690 : (Cond.code ({ cls := "PressureNetsModel", name := "wind", desc := "(II)I" } : MethodName) prog_7_method_7_code (4 : Nat) (Option.some FieldType.int)) ∈ pn_W := pn_mem 690 (by decide +kernel) (by decide +kernel)
theorem m_691 : (Cond.constantLong "PressureNetsModel" (83 : Nat) (-4 : Int64)) ∈ pn_W := pn_mem 691 (by decide +kernel) (by decide +kernel)
theorem m_692 : (Cond.constantLong "PressureNetsModel" (91 : Nat) (-1 : Int64)) ∈ pn_W := pn_mem 692 (by decide +kernel) (by decide +kernel)
theorem m_693 : (Cond.methodLink "PressureNetsLaw" (86 : Nat) ({ cls := "PressureNetsModel", name := "warmth", desc := "(II)I" } : MethodName)) ∈ pn_W := pn_mem 693 (by decide +kernel) (by decide +kernel)
theorem m_694 : (Cond.instanceMethod ({ cls := "PressureNetsModel", name := "warmth", desc := "(II)I" } : MethodName)) ∈ pn_W := pn_mem 694 (by decide +kernel) (by decide +kernel)
theorem m_695 : (Cond.selects "PressureNetsModel" ({ cls := "PressureNetsModel", name := "warmth", desc := "(II)I" } : MethodName) ({ cls := "PressureNetsModel", name := "warmth", desc := "(II)I" } : MethodName)) ∈ pn_W := pn_mem 695 (by decide +kernel) (by decide +kernel)
theorem m_696 : (Cond.code ({ cls := "PressureNetsModel", name := "warmth", desc := "(II)I" } : MethodName) prog_7_method_8_code (4 : Nat) (Option.some FieldType.int)) ∈ pn_W := pn_mem 696 (by decide +kernel) (by decide +kernel)
theorem m_697 : (Cond.methodLink "PressureNetsModel" (93 : Nat) ({ cls := "PressureNetsModel", name := "isPlace", desc := "(I)Z" } : MethodName)) ∈ pn_W := pn_mem 697 (by decide +kernel) (by decide +kernel)
theorem m_699 : (Cond.instanceMethod ({ cls := "PressureNetsModel", name := "isPlace", desc := "(I)Z" } : MethodName)) ∈ pn_W := pn_mem 699 (by decide +kernel) (by decide +kernel)
theorem m_700 : (Cond.code ({ cls := "PressureNetsModel", name := "isPlace", desc := "(I)Z" } : MethodName) prog_7_method_5_code (2 : Nat) (Option.some FieldType.boolean)) ∈ pn_W := pn_mem 700 (by decide +kernel) (by decide +kernel)
theorem m_701 : (Cond.methodLink "PressureNetsModel" (97 : Nat) ({ cls := "PressureNetsModel", name := "warmthOf", desc := "(I)I" } : MethodName)) ∈ pn_W := pn_mem 701 (by decide +kernel) (by decide +kernel)
theorem m_703 : (Cond.instanceMethod ({ cls := "PressureNetsModel", name := "warmthOf", desc := "(I)I" } : MethodName)) ∈ pn_W := pn_mem 703 (by decide +kernel) (by decide +kernel)
theorem m_704 : (Cond.code ({ cls := "PressureNetsModel", name := "warmthOf", desc := "(I)I" } : MethodName) prog_7_method_13_code (2 : Nat) (Option.some FieldType.int)) ∈ pn_W := pn_mem 704 (by decide +kernel) (by decide +kernel)
theorem m_705 : (Cond.methodLink "PressureNetsLaw" (90 : Nat) ({ cls := "PressureNetsModel", name := "leak", desc := "(IIIII)I" } : MethodName)) ∈ pn_W := pn_mem 705 (by decide +kernel) (by decide +kernel)
theorem m_706 : (Cond.instanceMethod ({ cls := "PressureNetsModel", name := "leak", desc := "(IIIII)I" } : MethodName)) ∈ pn_W := pn_mem 706 (by decide +kernel) (by decide +kernel)
theorem m_707 : (Cond.selects "PressureNetsModel" ({ cls := "PressureNetsModel", name := "leak", desc := "(IIIII)I" } : MethodName) ({ cls := "PressureNetsModel", name := "leak", desc := "(IIIII)I" } : MethodName)) ∈ pn_W := pn_mem 707 (by decide +kernel) (by decide +kernel)
theorem m_708 : (Cond.code ({ cls := "PressureNetsModel", name := "leak", desc := "(IIIII)I" } : MethodName) prog_7_method_10_code (6 : Nat) (Option.some FieldType.int)) ∈ pn_W := pn_mem 708 (by decide +kernel) (by decide +kernel)
theorem m_709 : (Cond.methodLink "PressureNetsModel" (104 : Nat) ({ cls := "PressureNetsModel", name := "isPair", desc := "(II)Z" } : MethodName)) ∈ pn_W := pn_mem 709 (by decide +kernel) (by decide +kernel)
theorem m_711 : (Cond.instanceMethod ({ cls := "PressureNetsModel", name := "isPair", desc := "(II)Z" } : MethodName)) ∈ pn_W := pn_mem 711 (by decide +kernel) (by decide +kernel)
theorem m_712 : (Cond.code ({ cls := "PressureNetsModel", name := "isPair", desc := "(II)Z" } : MethodName) prog_7_method_9_code (3 : Nat) (Option.some FieldType.boolean)) ∈ pn_W := pn_mem 712 (by decide +kernel) (by decide +kernel)
theorem m_713 : (Cond.constantLong "PressureNetsModel" (108 : Nat) (100 : Int64)) ∈ pn_W := pn_mem 713 (by decide +kernel) (by decide +kernel)
theorem m_714 : (Cond.methodLink "PressureNetsLaw" (94 : Nat) ({ cls := "PressureNetsModel", name := "shut", desc := "(IZ)Z" } : MethodName)) ∈ pn_W := pn_mem 714 (by decide +kernel) (by decide +kernel)
theorem m_715 : (Cond.instanceMethod ({ cls := "PressureNetsModel", name := "shut", desc := "(IZ)Z" } : MethodName)) ∈ pn_W := pn_mem 715 (by decide +kernel) (by decide +kernel)
theorem m_716 : (Cond.selects "PressureNetsModel" ({ cls := "PressureNetsModel", name := "shut", desc := "(IZ)Z" } : MethodName) ({ cls := "PressureNetsModel", name := "shut", desc := "(IZ)Z" } : MethodName)) ∈ pn_W := pn_mem 716 (by decide +kernel) (by decide +kernel)
theorem m_717 : (Cond.code ({ cls := "PressureNetsModel", name := "shut", desc := "(IZ)Z" } : MethodName) prog_7_method_11_code (4 : Nat) (Option.some FieldType.boolean)) ∈ pn_W := pn_mem 717 (by decide +kernel) (by decide +kernel)
theorem m_718 : (Cond.methodLink "PressureNetsLaw" (98 : Nat) ({ cls := "PressureNetsModel", name := "fan", desc := "(IIII)I" } : MethodName)) ∈ pn_W := pn_mem 718 (by decide +kernel) (by decide +kernel)
theorem m_719 : (Cond.instanceMethod ({ cls := "PressureNetsModel", name := "fan", desc := "(IIII)I" } : MethodName)) ∈ pn_W := pn_mem 719 (by decide +kernel) (by decide +kernel)
theorem m_720 : (Cond.selects "PressureNetsModel" ({ cls := "PressureNetsModel", name := "fan", desc := "(IIII)I" } : MethodName) ({ cls := "PressureNetsModel", name := "fan", desc := "(IIII)I" } : MethodName)) ∈ pn_W := pn_mem 720 (by decide +kernel) (by decide +kernel)
theorem m_721 : (Cond.code ({ cls := "PressureNetsModel", name := "fan", desc := "(IIII)I" } : MethodName) prog_7_method_12_code (5 : Nat) (Option.some FieldType.int)) ∈ pn_W := pn_mem 721 (by decide +kernel) (by decide +kernel)
theorem m_722 : (Cond.constantLong "PressureNetsModel" (113 : Nat) (10000 : Int64)) ∈ pn_W := pn_mem 722 (by decide +kernel) (by decide +kernel)
theorem m_723 : (Cond.methodLink "PressureNetsLaw" (102 : Nat) ({ cls := "PressureNetsModel", name := "pressure", desc := "(I)I" } : MethodName)) ∈ pn_W := pn_mem 723 (by decide +kernel) (by decide +kernel)
theorem m_724 : (Cond.instanceMethod ({ cls := "PressureNetsModel", name := "pressure", desc := "(I)I" } : MethodName)) ∈ pn_W := pn_mem 724 (by decide +kernel) (by decide +kernel)
theorem m_725 : (Cond.selects "PressureNetsModel" ({ cls := "PressureNetsModel", name := "pressure", desc := "(I)I" } : MethodName) ({ cls := "PressureNetsModel", name := "pressure", desc := "(I)I" } : MethodName)) ∈ pn_W := pn_mem 725 (by decide +kernel) (by decide +kernel)
theorem m_726 : (Cond.code ({ cls := "PressureNetsModel", name := "pressure", desc := "(I)I" } : MethodName) prog_7_method_24_code (2 : Nat) (Option.some FieldType.int)) ∈ pn_W := pn_mem 726 (by decide +kernel) (by decide +kernel)
theorem m_727 : (Cond.methodLink "PressureNetsModel" (155 : Nat) ({ cls := "PressureNetsModel", name := "makeNow", desc := "()Z" } : MethodName)) ∈ pn_W := pn_mem 727 (by decide +kernel) (by decide +kernel)
theorem m_729 : (Cond.instanceMethod ({ cls := "PressureNetsModel", name := "makeNow", desc := "()Z" } : MethodName)) ∈ pn_W := pn_mem 729 (by decide +kernel) (by decide +kernel)
theorem m_730 : (Cond.code ({ cls := "PressureNetsModel", name := "makeNow", desc := "()Z" } : MethodName) prog_7_method_23_code (1 : Nat) (Option.some FieldType.boolean)) ∈ pn_W := pn_mem 730 (by decide +kernel) (by decide +kernel)
theorem m_731 : (Cond.methodLink "PressureNetsModel" (148 : Nat) ({ cls := "PressureNetsModel", name := "shutOnes", desc := "()I" } : MethodName)) ∈ pn_W := pn_mem 731 (by decide +kernel) (by decide +kernel)
theorem m_733 : (Cond.instanceMethod ({ cls := "PressureNetsModel", name := "shutOnes", desc := "()I" } : MethodName)) ∈ pn_W := pn_mem 733 (by decide +kernel) (by decide +kernel)
theorem m_734 : (Cond.code ({ cls := "PressureNetsModel", name := "shutOnes", desc := "()I" } : MethodName) prog_7_method_22_code (3 : Nat) (Option.some FieldType.int)) ∈ pn_W := pn_mem 734 (by decide +kernel) (by decide +kernel)
theorem m_735 : (Cond.methodLink "PressureNetsModel" (152 : Nat) ({ cls := "PressureNetsModel", name := "make", desc := "(I)Z" } : MethodName)) ∈ pn_W := pn_mem 735 (by decide +kernel) (by decide +kernel)
theorem m_737 : (Cond.instanceMethod ({ cls := "PressureNetsModel", name := "make", desc := "(I)Z" } : MethodName)) ∈ pn_W := pn_mem 737 (by decide +kernel) (by decide +kernel)
theorem m_738 : (Cond.code ({ cls := "PressureNetsModel", name := "make", desc := "(I)Z" } : MethodName) prog_7_method_21_code (4 : Nat) (Option.some FieldType.boolean)) ∈ pn_W := pn_mem 738 (by decide +kernel) (by decide +kernel)
theorem m_739 : (Cond.methodLink "PressureNetsModel" (142 : Nat) ({ cls := "PressureNetsModel", name := "gainOf", desc := "(I)J" } : MethodName)) ∈ pn_W := pn_mem 739 (by decide +kernel) (by decide +kernel)
theorem m_741 : (Cond.instanceMethod ({ cls := "PressureNetsModel", name := "gainOf", desc := "(I)J" } : MethodName)) ∈ pn_W := pn_mem 741 (by decide +kernel) (by decide +kernel)
theorem m_742 : (Cond.code ({ cls := "PressureNetsModel", name := "gainOf", desc := "(I)J" } : MethodName) prog_7_method_19_code (5 : Nat) (Option.some FieldType.long)) ∈ pn_W := pn_mem 742 (by decide +kernel) (by decide +kernel)
theorem m_743 : (Cond.methodLink "PressureNetsModel" (135 : Nat) ({ cls := "PressureNetsModel", name := "flowOf", desc := "(I)J" } : MethodName)) ∈ pn_W := pn_mem 743 (by decide +kernel) (by decide +kernel)
theorem m_745 : (Cond.instanceMethod ({ cls := "PressureNetsModel", name := "flowOf", desc := "(I)J" } : MethodName)) ∈ pn_W := pn_mem 745 (by decide +kernel) (by decide +kernel)
theorem m_746 : (Cond.code ({ cls := "PressureNetsModel", name := "flowOf", desc := "(I)J" } : MethodName) prog_7_method_17_code (8 : Nat) (Option.some FieldType.long)) ∈ pn_W := pn_mem 746 (by decide +kernel) (by decide +kernel)
theorem m_747 : (Cond.methodLink "PressureNetsModel" (128 : Nat) ({ cls := "PressureNetsModel", name := "driveOf", desc := "(I)I" } : MethodName)) ∈ pn_W := pn_mem 747 (by decide +kernel) (by decide +kernel)
theorem m_749 : (Cond.instanceMethod ({ cls := "PressureNetsModel", name := "driveOf", desc := "(I)I" } : MethodName)) ∈ pn_W := pn_mem 749 (by decide +kernel) (by decide +kernel)
theorem m_750 : (Cond.code ({ cls := "PressureNetsModel", name := "driveOf", desc := "(I)I" } : MethodName) prog_7_method_15_code (3 : Nat) (Option.some FieldType.int)) ∈ pn_W := pn_mem 750 (by decide +kernel) (by decide +kernel)
theorem m_751 : (Cond.methodLink "PressureNetsModel" (118 : Nat) ({ cls := "PressureNetsModel", name := "pressureOf", desc := "(I)I" } : MethodName)) ∈ pn_W := pn_mem 751 (by decide +kernel) (by decide +kernel)
theorem m_753 : (Cond.instanceMethod ({ cls := "PressureNetsModel", name := "pressureOf", desc := "(I)I" } : MethodName)) ∈ pn_W := pn_mem 753 (by decide +kernel) (by decide +kernel)
theorem m_754 : (Cond.code ({ cls := "PressureNetsModel", name := "pressureOf", desc := "(I)I" } : MethodName) prog_7_method_14_code (2 : Nat) (Option.some FieldType.int)) ∈ pn_W := pn_mem 754 (by decide +kernel) (by decide +kernel)
theorem m_755 : (Cond.methodLink "PressureNetsModel" (131 : Nat) ({ cls := "PressureNetsModel", name := "rootOf", desc := "(J)J" } : MethodName)) ∈ pn_W := pn_mem 755 (by decide +kernel) (by decide +kernel)
theorem m_756 : (Cond.static ({ cls := "PressureNetsModel", name := "rootOf", desc := "(J)J" } : MethodName)) ∈ pn_W := pn_mem 756 (by decide +kernel) (by decide +kernel)
theorem m_757 : (Cond.code ({ cls := "PressureNetsModel", name := "rootOf", desc := "(J)J" } : MethodName) prog_7_method_16_code (8 : Nat) (Option.some FieldType.long)) ∈ pn_W := pn_mem 757 (by decide +kernel) (by decide +kernel)
theorem m_758 : (Cond.constantLong "PressureNetsModel" (121 : Nat) (2000000 : Int64)) ∈ pn_W := pn_mem 758 (by decide +kernel) (by decide +kernel)
theorem m_759 : (Cond.constantLong "PressureNetsModel" (123 : Nat) (2 : Int64)) ∈ pn_W := pn_mem 759 (by decide +kernel) (by decide +kernel)
theorem m_760 : (Cond.methodLink "PressureNetsModel" (139 : Nat) ({ cls := "PressureNetsModel", name := "blown", desc := "(I)J" } : MethodName)) ∈ pn_W := pn_mem 760 (by decide +kernel) (by decide +kernel)
theorem m_762 : (Cond.instanceMethod ({ cls := "PressureNetsModel", name := "blown", desc := "(I)J" } : MethodName)) ∈ pn_W := pn_mem 762 (by decide +kernel) (by decide +kernel)
theorem m_763 : (Cond.code ({ cls := "PressureNetsModel", name := "blown", desc := "(I)J" } : MethodName) prog_7_method_18_code (4 : Nat) (Option.some FieldType.long)) ∈ pn_W := pn_mem 763 (by decide +kernel) (by decide +kernel)
theorem m_764 : (Cond.methodLink "PressureNetsModel" (145 : Nat) ({ cls := "PressureNetsModel", name := "rise", desc := "(I)Z" } : MethodName)) ∈ pn_W := pn_mem 764 (by decide +kernel) (by decide +kernel)
theorem m_766 : (Cond.instanceMethod ({ cls := "PressureNetsModel", name := "rise", desc := "(I)Z" } : MethodName)) ∈ pn_W := pn_mem 766 (by decide +kernel) (by decide +kernel)
theorem m_767 : (Cond.code ({ cls := "PressureNetsModel", name := "rise", desc := "(I)Z" } : MethodName) prog_7_method_20_code (5 : Nat) (Option.some FieldType.boolean)) ∈ pn_W := pn_mem 767 (by decide +kernel) (by decide +kernel)
theorem m_768 : (Cond.constant "PressureNetsModel" (159 : Nat) (-1000000 : Int32)) ∈ pn_W := pn_mem 768 (by decide +kernel) (by decide +kernel)
theorem m_769 : (Cond.methodLink "PressureNetsLaw" (105 : Nat) ({ cls := "PressureNetsModel", name := "told", desc := "(II)I" } : MethodName)) ∈ pn_W := pn_mem 769 (by decide +kernel) (by decide +kernel)
theorem m_770 : (Cond.instanceMethod ({ cls := "PressureNetsModel", name := "told", desc := "(II)I" } : MethodName)) ∈ pn_W := pn_mem 770 (by decide +kernel) (by decide +kernel)
theorem m_771 : (Cond.selects "PressureNetsModel" ({ cls := "PressureNetsModel", name := "told", desc := "(II)I" } : MethodName) ({ cls := "PressureNetsModel", name := "told", desc := "(II)I" } : MethodName)) ∈ pn_W := pn_mem 771 (by decide +kernel) (by decide +kernel)
theorem m_772 : (Cond.code ({ cls := "PressureNetsModel", name := "told", desc := "(II)I" } : MethodName) prog_7_method_25_code (3 : Nat) (Option.some FieldType.int)) ∈ pn_W := pn_mem 772 (by decide +kernel) (by decide +kernel)
theorem m_773 : (Cond.methodLink "PressureNetsLaw" (108 : Nat) ({ cls := "PressureNetsModel", name := "blows", desc := "(I)I" } : MethodName)) ∈ pn_W := pn_mem 773 (by decide +kernel) (by decide +kernel)
theorem m_774 : (Cond.instanceMethod ({ cls := "PressureNetsModel", name := "blows", desc := "(I)I" } : MethodName)) ∈ pn_W := pn_mem 774 (by decide +kernel) (by decide +kernel)
theorem m_775 : (Cond.selects "PressureNetsModel" ({ cls := "PressureNetsModel", name := "blows", desc := "(I)I" } : MethodName) ({ cls := "PressureNetsModel", name := "blows", desc := "(I)I" } : MethodName)) ∈ pn_W := pn_mem 775 (by decide +kernel) (by decide +kernel)
theorem m_776 : (Cond.code ({ cls := "PressureNetsModel", name := "blows", desc := "(I)I" } : MethodName) prog_7_method_26_code (2 : Nat) (Option.some FieldType.int)) ∈ pn_W := pn_mem 776 (by decide +kernel) (by decide +kernel)
theorem m_777 : (Cond.methodLink "PressureNetsLaw" (111 : Nat) ({ cls := "PressureNetsModel", name := "gain", desc := "(I)I" } : MethodName)) ∈ pn_W := pn_mem 777 (by decide +kernel) (by decide +kernel)
theorem m_778 : (Cond.instanceMethod ({ cls := "PressureNetsModel", name := "gain", desc := "(I)I" } : MethodName)) ∈ pn_W := pn_mem 778 (by decide +kernel) (by decide +kernel)
theorem m_779 : (Cond.selects "PressureNetsModel" ({ cls := "PressureNetsModel", name := "gain", desc := "(I)I" } : MethodName) ({ cls := "PressureNetsModel", name := "gain", desc := "(I)I" } : MethodName)) ∈ pn_W := pn_mem 779 (by decide +kernel) (by decide +kernel)
theorem m_780 : (Cond.code ({ cls := "PressureNetsModel", name := "gain", desc := "(I)I" } : MethodName) prog_7_method_27_code (2 : Nat) (Option.some FieldType.int)) ∈ pn_W := pn_mem 780 (by decide +kernel) (by decide +kernel)
theorem m_781 : (Cond.methodLink "PressureNetsModel" (160 : Nat) ({ cls := "PressureNetsModel", name := "isZone", desc := "(I)Z" } : MethodName)) ∈ pn_W := pn_mem 781 (by decide +kernel) (by decide +kernel)
theorem m_783 : (Cond.instanceMethod ({ cls := "PressureNetsModel", name := "isZone", desc := "(I)Z" } : MethodName)) ∈ pn_W := pn_mem 783 (by decide +kernel) (by decide +kernel)
theorem m_784 : (Cond.code ({ cls := "PressureNetsModel", name := "isZone", desc := "(I)Z" } : MethodName) prog_7_method_4_code (2 : Nat) (Option.some FieldType.boolean)) ∈ pn_W := pn_mem 784 (by decide +kernel) (by decide +kernel)
theorem m_785 : (Cond.methodLink "PressureNetsLaw" (114 : Nat) ({ cls := "PressureNetsModel", name := "caseOf", desc := "(I)I" } : MethodName)) ∈ pn_W := pn_mem 785 (by decide +kernel) (by decide +kernel)
theorem m_786 : (Cond.instanceMethod ({ cls := "PressureNetsModel", name := "caseOf", desc := "(I)I" } : MethodName)) ∈ pn_W := pn_mem 786 (by decide +kernel) (by decide +kernel)
theorem m_787 : (Cond.selects "PressureNetsModel" ({ cls := "PressureNetsModel", name := "caseOf", desc := "(I)I" } : MethodName) ({ cls := "PressureNetsModel", name := "caseOf", desc := "(I)I" } : MethodName)) ∈ pn_W := pn_mem 787 (by decide +kernel) (by decide +kernel)
theorem m_788 : (Cond.code ({ cls := "PressureNetsModel", name := "caseOf", desc := "(I)I" } : MethodName) prog_7_method_28_code (2 : Nat) (Option.some FieldType.int)) ∈ pn_W := pn_mem 788 (by decide +kernel) (by decide +kernel)
theorem m_789 : (Cond.methodLink "PressureNetsLaw" (117 : Nat) ({ cls := "PressureNetsModel", name := "worst", desc := "(II)I" } : MethodName)) ∈ pn_W := pn_mem 789 (by decide +kernel) (by decide +kernel)
theorem m_790 : (Cond.instanceMethod ({ cls := "PressureNetsModel", name := "worst", desc := "(II)I" } : MethodName)) ∈ pn_W := pn_mem 790 (by decide +kernel) (by decide +kernel)
theorem m_791 : (Cond.selects "PressureNetsModel" ({ cls := "PressureNetsModel", name := "worst", desc := "(II)I" } : MethodName) ({ cls := "PressureNetsModel", name := "worst", desc := "(II)I" } : MethodName)) ∈ pn_W := pn_mem 791 (by decide +kernel) (by decide +kernel)
theorem m_792 : (Cond.code ({ cls := "PressureNetsModel", name := "worst", desc := "(II)I" } : MethodName) prog_7_method_29_code (9 : Nat) (Option.some FieldType.int)) ∈ pn_W := pn_mem 792 (by decide +kernel) (by decide +kernel)
theorem m_793 : (Cond.constantLong "PressureNetsModel" (166 : Nat) (3 : Int64)) ∈ pn_W := pn_mem 793 (by decide +kernel) (by decide +kernel)
theorem m_794 : (Cond.methodLink "PressureNetsLaw" (120 : Nat) ({ cls := "PressureNetsModel", name := "put", desc := "(II)I" } : MethodName)) ∈ pn_W := pn_mem 794 (by decide +kernel) (by decide +kernel)
theorem m_795 : (Cond.instanceMethod ({ cls := "PressureNetsModel", name := "put", desc := "(II)I" } : MethodName)) ∈ pn_W := pn_mem 795 (by decide +kernel) (by decide +kernel)
theorem m_796 : (Cond.selects "PressureNetsModel" ({ cls := "PressureNetsModel", name := "put", desc := "(II)I" } : MethodName) ({ cls := "PressureNetsModel", name := "put", desc := "(II)I" } : MethodName)) ∈ pn_W := pn_mem 796 (by decide +kernel) (by decide +kernel)
theorem m_797 : (Cond.code ({ cls := "PressureNetsModel", name := "put", desc := "(II)I" } : MethodName) prog_7_method_30_code (3 : Nat) (Option.some FieldType.int)) ∈ pn_W := pn_mem 797 (by decide +kernel) (by decide +kernel)
theorem m_798 : (Cond.constantLong "PressureNetsModel" (168 : Nat) (-1000000000 : Int64)) ∈ pn_W := pn_mem 798 (by decide +kernel) (by decide +kernel)
theorem m_799 : (Cond.constantLong "PressureNetsModel" (170 : Nat) (1000000000 : Int64)) ∈ pn_W := pn_mem 799 (by decide +kernel) (by decide +kernel)
theorem m_800 : (Cond.methodLink "PressureNetsLaw" (123 : Nat) ({ cls := "PressureNetsModel", name := "source", desc := "(II)I" } : MethodName)) ∈ pn_W := pn_mem 800 (by decide +kernel) (by decide +kernel)
theorem m_801 : (Cond.instanceMethod ({ cls := "PressureNetsModel", name := "source", desc := "(II)I" } : MethodName)) ∈ pn_W := pn_mem 801 (by decide +kernel) (by decide +kernel)
theorem m_802 : (Cond.selects "PressureNetsModel" ({ cls := "PressureNetsModel", name := "source", desc := "(II)I" } : MethodName) ({ cls := "PressureNetsModel", name := "source", desc := "(II)I" } : MethodName)) ∈ pn_W := pn_mem 802 (by decide +kernel) (by decide +kernel)
theorem m_803 : (Cond.code ({ cls := "PressureNetsModel", name := "source", desc := "(II)I" } : MethodName) prog_7_method_31_code (4 : Nat) (Option.some FieldType.int)) ∈ pn_W := pn_mem 803 (by decide +kernel) (by decide +kernel)
theorem m_804 : (Cond.constantLong "PressureNetsModel" (172 : Nat) (1000000 : Int64)) ∈ pn_W := pn_mem 804 (by decide +kernel) (by decide +kernel)
theorem m_805 : (Cond.methodLink "PressureNetsLaw" (126 : Nat) ({ cls := "PressureNetsModel", name := "steps", desc := "(I)I" } : MethodName)) ∈ pn_W := pn_mem 805 (by decide +kernel) (by decide +kernel)
theorem m_806 : (Cond.instanceMethod ({ cls := "PressureNetsModel", name := "steps", desc := "(I)I" } : MethodName)) ∈ pn_W := pn_mem 806 (by decide +kernel) (by decide +kernel)
theorem m_807 : (Cond.selects "PressureNetsModel" ({ cls := "PressureNetsModel", name := "steps", desc := "(I)I" } : MethodName) ({ cls := "PressureNetsModel", name := "steps", desc := "(I)I" } : MethodName)) ∈ pn_W := pn_mem 807 (by decide +kernel) (by decide +kernel)
theorem m_808 : (Cond.code ({ cls := "PressureNetsModel", name := "steps", desc := "(I)I" } : MethodName) prog_7_method_35_code (3 : Nat) (Option.some FieldType.int)) ∈ pn_W := pn_mem 808 (by decide +kernel) (by decide +kernel)
theorem m_809 : (Cond.constantLong "PressureNetsModel" (182 : Nat) (200 : Int64)) ∈ pn_W := pn_mem 809 (by decide +kernel) (by decide +kernel)
theorem m_810 : (Cond.methodLink "PressureNetsModel" (184 : Nat) ({ cls := "PressureNetsModel", name := "step", desc := "()Z" } : MethodName)) ∈ pn_W := pn_mem 810 (by decide +kernel) (by decide +kernel)
theorem m_812 : (Cond.instanceMethod ({ cls := "PressureNetsModel", name := "step", desc := "()Z" } : MethodName)) ∈ pn_W := pn_mem 812 (by decide +kernel) (by decide +kernel)
theorem m_813 : (Cond.code ({ cls := "PressureNetsModel", name := "step", desc := "()Z" } : MethodName) prog_7_method_34_code (12 : Nat) (Option.some FieldType.boolean)) ∈ pn_W := pn_mem 813 (by decide +kernel) (by decide +kernel)
theorem m_814 : (Cond.methodLink "PressureNetsModel" (174 : Nat) ({ cls := "PressureNetsModel", name := "outBy", desc := "(II)J" } : MethodName)) ∈ pn_W := pn_mem 814 (by decide +kernel) (by decide +kernel)
theorem m_816 : (Cond.instanceMethod ({ cls := "PressureNetsModel", name := "outBy", desc := "(II)J" } : MethodName)) ∈ pn_W := pn_mem 816 (by decide +kernel) (by decide +kernel)
theorem m_817 : (Cond.code ({ cls := "PressureNetsModel", name := "outBy", desc := "(II)J" } : MethodName) prog_7_method_32_code (6 : Nat) (Option.some FieldType.long)) ∈ pn_W := pn_mem 817 (by decide +kernel) (by decide +kernel)
theorem m_818 : (Cond.methodLink "PressureNetsModel" (178 : Nat) ({ cls := "PressureNetsModel", name := "other", desc := "(II)I" } : MethodName)) ∈ pn_W := pn_mem 818 (by decide +kernel) (by decide +kernel)
theorem m_820 : (Cond.instanceMethod ({ cls := "PressureNetsModel", name := "other", desc := "(II)I" } : MethodName)) ∈ pn_W := pn_mem 820 (by decide +kernel) (by decide +kernel)
theorem m_821 : (Cond.code ({ cls := "PressureNetsModel", name := "other", desc := "(II)I" } : MethodName) prog_7_method_33_code (3 : Nat) (Option.some FieldType.int)) ∈ pn_W := pn_mem 821 (by decide +kernel) (by decide +kernel)
theorem m_822 : (Cond.methodLink "PressureNetsLaw" (129 : Nat) ({ cls := "PressureNetsModel", name := "gone", desc := "(I)J" } : MethodName)) ∈ pn_W := pn_mem 822 (by decide +kernel) (by decide +kernel)
theorem m_823 : (Cond.instanceMethod ({ cls := "PressureNetsModel", name := "gone", desc := "(I)J" } : MethodName)) ∈ pn_W := pn_mem 823 (by decide +kernel) (by decide +kernel)
theorem m_824 : (Cond.selects "PressureNetsModel" ({ cls := "PressureNetsModel", name := "gone", desc := "(I)J" } : MethodName) ({ cls := "PressureNetsModel", name := "gone", desc := "(I)J" } : MethodName)) ∈ pn_W := pn_mem 824 (by decide +kernel) (by decide +kernel)
theorem m_825 : (Cond.code ({ cls := "PressureNetsModel", name := "gone", desc := "(I)J" } : MethodName) prog_7_method_36_code (2 : Nat) (Option.some FieldType.long)) ∈ pn_W := pn_mem 825 (by decide +kernel) (by decide +kernel)
end
section
theorem d_N_init_0 : decode b_N_init 0 = .ok (.aload_n 0, 1) := by decide +kernel
theorem d_N_init_1 : decode b_N_init 1 = .ok (.invokespecial 3, 3) := by decide +kernel
theorem d_N_init_4 : decode b_N_init 4 = .ok (.aload_n 0, 1) := by decide +kernel
theorem d_N_init_5 : decode b_N_init 5 = .ok (.iconst 4, 1) := by decide +kernel
theorem d_N_init_6 : decode b_N_init 6 = .ok (.newarray .int, 2) := by decide +kernel
theorem d_N_init_8 : decode b_N_init 8 = .ok (.putfield 9, 3) := by decide +kernel
theorem d_N_init_11 : decode b_N_init 11 = .ok (.aload_n 0, 1) := by decide +kernel
theorem d_N_init_12 : decode b_N_init 12 = .ok (.bipush 12, 2) := by decide +kernel
theorem d_N_init_14 : decode b_N_init 14 = .ok (.newarray .int, 2) := by decide +kernel
theorem d_N_init_16 : decode b_N_init 16 = .ok (.putfield 15, 3) := by decide +kernel
theorem d_N_init_19 : decode b_N_init 19 = .ok (.aload_n 0, 1) := by decide +kernel
theorem d_N_init_20 : decode b_N_init 20 = .ok (.bipush 8, 2) := by decide +kernel
theorem d_N_init_22 : decode b_N_init 22 = .ok (.newarray .int, 2) := by decide +kernel
theorem d_N_init_24 : decode b_N_init 24 = .ok (.putfield 18, 3) := by decide +kernel
theorem d_N_init_27 : decode b_N_init 27 = .ok (.aload_n 0, 1) := by decide +kernel
theorem d_N_init_28 : decode b_N_init 28 = .ok (.bipush 24, 2) := by decide +kernel
theorem d_N_init_30 : decode b_N_init 30 = .ok (.newarray .int, 2) := by decide +kernel
theorem d_N_init_32 : decode b_N_init 32 = .ok (.putfield 21, 3) := by decide +kernel
theorem d_N_init_35 : decode b_N_init 35 = .ok (.aload_n 0, 1) := by decide +kernel
theorem d_N_init_36 : decode b_N_init 36 = .ok (.bipush 24, 2) := by decide +kernel
theorem d_N_init_38 : decode b_N_init 38 = .ok (.newarray .int, 2) := by decide +kernel
theorem d_N_init_40 : decode b_N_init 40 = .ok (.putfield 24, 3) := by decide +kernel
theorem d_N_init_43 : decode b_N_init 43 = .ok (.aload_n 0, 1) := by decide +kernel
theorem d_N_init_44 : decode b_N_init 44 = .ok (.bipush 20, 2) := by decide +kernel
theorem d_N_init_46 : decode b_N_init 46 = .ok (.newarray .int, 2) := by decide +kernel
theorem d_N_init_48 : decode b_N_init 48 = .ok (.putfield 27, 3) := by decide +kernel
theorem d_N_init_51 : decode b_N_init 51 = .ok (.aload_n 0, 1) := by decide +kernel
theorem d_N_init_52 : decode b_N_init 52 = .ok (.bipush 20, 2) := by decide +kernel
theorem d_N_init_54 : decode b_N_init 54 = .ok (.newarray .int, 2) := by decide +kernel
theorem d_N_init_56 : decode b_N_init 56 = .ok (.putfield 30, 3) := by decide +kernel
theorem d_N_init_59 : decode b_N_init 59 = .ok (.aload_n 0, 1) := by decide +kernel
theorem d_N_init_60 : decode b_N_init 60 = .ok (.bipush 20, 2) := by decide +kernel
theorem d_N_init_62 : decode b_N_init 62 = .ok (.newarray .int, 2) := by decide +kernel
theorem d_N_init_64 : decode b_N_init 64 = .ok (.putfield 33, 3) := by decide +kernel
theorem d_N_init_67 : decode b_N_init 67 = .ok (.aload_n 0, 1) := by decide +kernel
theorem d_N_init_68 : decode b_N_init 68 = .ok (.bipush 20, 2) := by decide +kernel
theorem d_N_init_70 : decode b_N_init 70 = .ok (.newarray .int, 2) := by decide +kernel
theorem d_N_init_72 : decode b_N_init 72 = .ok (.putfield 36, 3) := by decide +kernel
theorem d_N_init_75 : decode b_N_init 75 = .ok (.aload_n 0, 1) := by decide +kernel
theorem d_N_init_76 : decode b_N_init 76 = .ok (.iconst 4, 1) := by decide +kernel
theorem d_N_init_77 : decode b_N_init 77 = .ok (.newarray .int, 2) := by decide +kernel
theorem d_N_init_79 : decode b_N_init 79 = .ok (.putfield 39, 3) := by decide +kernel
theorem d_N_init_82 : decode b_N_init 82 = .ok (.aload_n 0, 1) := by decide +kernel
theorem d_N_init_83 : decode b_N_init 83 = .ok (.iconst 4, 1) := by decide +kernel
theorem d_N_init_84 : decode b_N_init 84 = .ok (.newarray .int, 2) := by decide +kernel
theorem d_N_init_86 : decode b_N_init 86 = .ok (.putfield 42, 3) := by decide +kernel
theorem d_N_init_89 : decode b_N_init 89 = .ok (.aload_n 0, 1) := by decide +kernel
theorem d_N_init_90 : decode b_N_init 90 = .ok (.bipush 12, 2) := by decide +kernel
theorem d_N_init_92 : decode b_N_init 92 = .ok (.bipush 24, 2) := by decide +kernel
theorem d_N_init_94 : decode b_N_init 94 = .ok (.multianewarray 45 2, 4) := by decide +kernel
theorem d_N_init_98 : decode b_N_init 98 = .ok (.putfield 47, 3) := by decide +kernel
theorem d_N_init_101 : decode b_N_init 101 = .ok (.aload_n 0, 1) := by decide +kernel
theorem d_N_init_102 : decode b_N_init 102 = .ok (.bipush 12, 2) := by decide +kernel
theorem d_N_init_104 : decode b_N_init 104 = .ok (.newarray .int, 2) := by decide +kernel
theorem d_N_init_106 : decode b_N_init 106 = .ok (.putfield 50, 3) := by decide +kernel
theorem d_N_init_109 : decode b_N_init 109 = .ok (.aload_n 0, 1) := by decide +kernel
theorem d_N_init_110 : decode b_N_init 110 = .ok (.iconst 0, 1) := by decide +kernel
theorem d_N_init_111 : decode b_N_init 111 = .ok (.putfield 53, 3) := by decide +kernel
theorem d_N_init_114 : decode b_N_init 114 = .ok (.aload_n 0, 1) := by decide +kernel
theorem d_N_init_115 : decode b_N_init 115 = .ok (.iconst 0, 1) := by decide +kernel
theorem d_N_init_116 : decode b_N_init 116 = .ok (.putfield 57, 3) := by decide +kernel
theorem d_N_init_119 : decode b_N_init 119 = .ok (.aload_n 0, 1) := by decide +kernel
theorem d_N_init_120 : decode b_N_init 120 = .ok (.iconst 0, 1) := by decide +kernel
theorem d_N_init_121 : decode b_N_init 121 = .ok (.putfield 60, 3) := by decide +kernel
theorem d_N_init_124 : decode b_N_init 124 = .ok (.aload_n 0, 1) := by decide +kernel
theorem d_N_init_125 : decode b_N_init 125 = .ok (.iconst 0, 1) := by decide +kernel
theorem d_N_init_126 : decode b_N_init 126 = .ok (.putfield 63, 3) := by decide +kernel
theorem d_N_init_129 : decode b_N_init 129 = .ok (.return_, 1) := by decide +kernel
theorem d_N_addZone_0 : decode b_N_addZone 0 = .ok (.aload_n 0, 1) := by decide +kernel
theorem d_N_addZone_1 : decode b_N_addZone 1 = .ok (.getfield 53, 3) := by decide +kernel
theorem d_N_addZone_4 : decode b_N_addZone 4 = .ok (.istore_n 3, 1) := by decide +kernel
theorem d_N_addZone_5 : decode b_N_addZone 5 = .ok (.aload_n 0, 1) := by decide +kernel
theorem d_N_addZone_6 : decode b_N_addZone 6 = .ok (.getfield 15, 3) := by decide +kernel
theorem d_N_addZone_9 : decode b_N_addZone 9 = .ok (.iload_n 3, 1) := by decide +kernel
theorem d_N_addZone_10 : decode b_N_addZone 10 = .ok (.invokestatic 66, 3) := by decide +kernel
theorem d_N_addZone_13 : decode b_N_addZone 13 = .ok (.iload_n 1, 1) := by decide +kernel
theorem d_N_addZone_14 : decode b_N_addZone 14 = .ok (.iastore, 1) := by decide +kernel
theorem d_N_addZone_15 : decode b_N_addZone 15 = .ok (.aload_n 0, 1) := by decide +kernel
theorem d_N_addZone_16 : decode b_N_addZone 16 = .ok (.getfield 18, 3) := by decide +kernel
theorem d_N_addZone_19 : decode b_N_addZone 19 = .ok (.iload_n 3, 1) := by decide +kernel
theorem d_N_addZone_20 : decode b_N_addZone 20 = .ok (.iload_n 2, 1) := by decide +kernel
theorem d_N_addZone_21 : decode b_N_addZone 21 = .ok (.iastore, 1) := by decide +kernel
theorem d_N_addZone_22 : decode b_N_addZone 22 = .ok (.aload_n 0, 1) := by decide +kernel
theorem d_N_addZone_23 : decode b_N_addZone 23 = .ok (.dup, 1) := by decide +kernel
theorem d_N_addZone_24 : decode b_N_addZone 24 = .ok (.getfield 53, 3) := by decide +kernel
theorem d_N_addZone_27 : decode b_N_addZone 27 = .ok (.iconst 1, 1) := by decide +kernel
theorem d_N_addZone_28 : decode b_N_addZone 28 = .ok (.iadd, 1) := by decide +kernel
theorem d_N_addZone_29 : decode b_N_addZone 29 = .ok (.putfield 53, 3) := by decide +kernel
theorem d_N_addZone_32 : decode b_N_addZone 32 = .ok (.aload_n 0, 1) := by decide +kernel
theorem d_N_addZone_33 : decode b_N_addZone 33 = .ok (.dup, 1) := by decide +kernel
theorem d_N_addZone_34 : decode b_N_addZone 34 = .ok (.getfield 63, 3) := by decide +kernel
theorem d_N_addZone_37 : decode b_N_addZone 37 = .ok (.iconst 1, 1) := by decide +kernel
theorem d_N_addZone_38 : decode b_N_addZone 38 = .ok (.iadd, 1) := by decide +kernel
theorem d_N_addZone_39 : decode b_N_addZone 39 = .ok (.putfield 63, 3) := by decide +kernel
theorem d_N_addZone_42 : decode b_N_addZone 42 = .ok (.iload_n 3, 1) := by decide +kernel
theorem d_N_addZone_43 : decode b_N_addZone 43 = .ok (.ireturn, 1) := by decide +kernel
theorem d_N_changeWind_0 : decode b_N_changeWind 0 = .ok (.aload_n 0, 1) := by decide +kernel
theorem d_N_changeWind_1 : decode b_N_changeWind 1 = .ok (.getfield 9, 3) := by decide +kernel
theorem d_N_changeWind_4 : decode b_N_changeWind 4 = .ok (.iload_n 1, 1) := by decide +kernel
theorem d_N_changeWind_5 : decode b_N_changeWind 5 = .ok (.iaload, 1) := by decide +kernel
theorem d_N_changeWind_6 : decode b_N_changeWind 6 = .ok (.istore_n 3, 1) := by decide +kernel
theorem d_N_changeWind_7 : decode b_N_changeWind 7 = .ok (.aload_n 0, 1) := by decide +kernel
theorem d_N_changeWind_8 : decode b_N_changeWind 8 = .ok (.getfield 9, 3) := by decide +kernel
theorem d_N_changeWind_11 : decode b_N_changeWind 11 = .ok (.iload_n 1, 1) := by decide +kernel
theorem d_N_changeWind_12 : decode b_N_changeWind 12 = .ok (.iload_n 2, 1) := by decide +kernel
theorem d_N_changeWind_13 : decode b_N_changeWind 13 = .ok (.iastore, 1) := by decide +kernel
theorem d_N_changeWind_14 : decode b_N_changeWind 14 = .ok (.aload_n 0, 1) := by decide +kernel
theorem d_N_changeWind_15 : decode b_N_changeWind 15 = .ok (.dup, 1) := by decide +kernel
theorem d_N_changeWind_16 : decode b_N_changeWind 16 = .ok (.getfield 63, 3) := by decide +kernel
theorem d_N_changeWind_19 : decode b_N_changeWind 19 = .ok (.iconst 1, 1) := by decide +kernel
theorem d_N_changeWind_20 : decode b_N_changeWind 20 = .ok (.iadd, 1) := by decide +kernel
theorem d_N_changeWind_21 : decode b_N_changeWind 21 = .ok (.putfield 63, 3) := by decide +kernel
theorem d_N_changeWind_24 : decode b_N_changeWind 24 = .ok (.iload_n 3, 1) := by decide +kernel
theorem d_N_changeWind_25 : decode b_N_changeWind 25 = .ok (.ireturn, 1) := by decide +kernel
theorem d_N_changeWarmth_0 : decode b_N_changeWarmth 0 = .ok (.aload_n 0, 1) := by decide +kernel
theorem d_N_changeWarmth_1 : decode b_N_changeWarmth 1 = .ok (.getfield 15, 3) := by decide +kernel
theorem d_N_changeWarmth_4 : decode b_N_changeWarmth 4 = .ok (.iload_n 1, 1) := by decide +kernel
theorem d_N_changeWarmth_5 : decode b_N_changeWarmth 5 = .ok (.iaload, 1) := by decide +kernel
theorem d_N_changeWarmth_6 : decode b_N_changeWarmth 6 = .ok (.istore_n 3, 1) := by decide +kernel
theorem d_N_changeWarmth_7 : decode b_N_changeWarmth 7 = .ok (.aload_n 0, 1) := by decide +kernel
theorem d_N_changeWarmth_8 : decode b_N_changeWarmth 8 = .ok (.getfield 15, 3) := by decide +kernel
theorem d_N_changeWarmth_11 : decode b_N_changeWarmth 11 = .ok (.iload_n 1, 1) := by decide +kernel
theorem d_N_changeWarmth_12 : decode b_N_changeWarmth 12 = .ok (.iload_n 2, 1) := by decide +kernel
theorem d_N_changeWarmth_13 : decode b_N_changeWarmth 13 = .ok (.iastore, 1) := by decide +kernel
theorem d_N_changeWarmth_14 : decode b_N_changeWarmth 14 = .ok (.iconst 0, 1) := by decide +kernel
theorem d_N_changeWarmth_15 : decode b_N_changeWarmth 15 = .ok (.istore 4, 2) := by decide +kernel
theorem d_N_changeWarmth_17 : decode b_N_changeWarmth 17 = .ok (.iload 4, 2) := by decide +kernel
theorem d_N_changeWarmth_19 : decode b_N_changeWarmth 19 = .ok (.iconst 4, 1) := by decide +kernel
theorem d_N_changeWarmth_20 : decode b_N_changeWarmth 20 = .ok (.if_icmp .ge 22, 3) := by decide +kernel
theorem d_N_changeWarmth_23 : decode b_N_changeWarmth 23 = .ok (.iload_n 1, 1) := by decide +kernel
theorem d_N_changeWarmth_24 : decode b_N_changeWarmth 24 = .ok (.iconst 4, 1) := by decide +kernel
theorem d_N_changeWarmth_25 : decode b_N_changeWarmth 25 = .ok (.if_icmp .ge 17, 3) := by decide +kernel
theorem d_N_changeWarmth_28 : decode b_N_changeWarmth 28 = .ok (.aload_n 0, 1) := by decide +kernel
theorem d_N_changeWarmth_29 : decode b_N_changeWarmth 29 = .ok (.getfield 15, 3) := by decide +kernel
theorem d_N_changeWarmth_32 : decode b_N_changeWarmth 32 = .ok (.iload 4, 2) := by decide +kernel
theorem d_N_changeWarmth_34 : decode b_N_changeWarmth 34 = .ok (.iload_n 2, 1) := by decide +kernel
theorem d_N_changeWarmth_35 : decode b_N_changeWarmth 35 = .ok (.iastore, 1) := by decide +kernel
theorem d_N_changeWarmth_36 : decode b_N_changeWarmth 36 = .ok (.iinc 4 1, 3) := by decide +kernel
theorem d_N_changeWarmth_39 : decode b_N_changeWarmth 39 = .ok (.goto (-22), 3) := by decide +kernel
theorem d_N_changeWarmth_42 : decode b_N_changeWarmth 42 = .ok (.iconst 0, 1) := by decide +kernel
theorem d_N_changeWarmth_43 : decode b_N_changeWarmth 43 = .ok (.istore 4, 2) := by decide +kernel
theorem d_N_changeWarmth_45 : decode b_N_changeWarmth 45 = .ok (.iload 4, 2) := by decide +kernel
theorem d_N_changeWarmth_47 : decode b_N_changeWarmth 47 = .ok (.aload_n 0, 1) := by decide +kernel
theorem d_N_changeWarmth_48 : decode b_N_changeWarmth 48 = .ok (.getfield 57, 3) := by decide +kernel
theorem d_N_changeWarmth_51 : decode b_N_changeWarmth 51 = .ok (.if_icmp .ge 15, 3) := by decide +kernel
theorem d_N_changeWarmth_54 : decode b_N_changeWarmth 54 = .ok (.aload_n 0, 1) := by decide +kernel
theorem d_N_changeWarmth_55 : decode b_N_changeWarmth 55 = .ok (.iload 4, 2) := by decide +kernel
theorem d_N_changeWarmth_57 : decode b_N_changeWarmth 57 = .ok (.invokevirtual 70, 3) := by decide +kernel
theorem d_N_changeWarmth_60 : decode b_N_changeWarmth 60 = .ok (.iinc 4 1, 3) := by decide +kernel
theorem d_N_changeWarmth_63 : decode b_N_changeWarmth 63 = .ok (.goto (-18), 3) := by decide +kernel
theorem d_N_changeWarmth_66 : decode b_N_changeWarmth 66 = .ok (.aload_n 0, 1) := by decide +kernel
theorem d_N_changeWarmth_67 : decode b_N_changeWarmth 67 = .ok (.dup, 1) := by decide +kernel
theorem d_N_changeWarmth_68 : decode b_N_changeWarmth 68 = .ok (.getfield 63, 3) := by decide +kernel
theorem d_N_changeWarmth_71 : decode b_N_changeWarmth 71 = .ok (.iconst 1, 1) := by decide +kernel
theorem d_N_changeWarmth_72 : decode b_N_changeWarmth 72 = .ok (.iadd, 1) := by decide +kernel
theorem d_N_changeWarmth_73 : decode b_N_changeWarmth 73 = .ok (.putfield 63, 3) := by decide +kernel
theorem d_N_changeWarmth_76 : decode b_N_changeWarmth 76 = .ok (.iload_n 3, 1) := by decide +kernel
theorem d_N_changeWarmth_77 : decode b_N_changeWarmth 77 = .ok (.ireturn, 1) := by decide +kernel
theorem d_N_addLeak_0 : decode b_N_addLeak 0 = .ok (.aload_n 0, 1) := by decide +kernel
theorem d_N_addLeak_1 : decode b_N_addLeak 1 = .ok (.getfield 57, 3) := by decide +kernel
theorem d_N_addLeak_4 : decode b_N_addLeak 4 = .ok (.istore 6, 2) := by decide +kernel
theorem d_N_addLeak_6 : decode b_N_addLeak 6 = .ok (.aload_n 0, 1) := by decide +kernel
theorem d_N_addLeak_7 : decode b_N_addLeak 7 = .ok (.getfield 27, 3) := by decide +kernel
theorem d_N_addLeak_10 : decode b_N_addLeak 10 = .ok (.iload 6, 2) := by decide +kernel
theorem d_N_addLeak_12 : decode b_N_addLeak 12 = .ok (.iload_n 3, 1) := by decide +kernel
theorem d_N_addLeak_13 : decode b_N_addLeak 13 = .ok (.iastore, 1) := by decide +kernel
theorem d_N_addLeak_14 : decode b_N_addLeak 14 = .ok (.aload_n 0, 1) := by decide +kernel
theorem d_N_addLeak_15 : decode b_N_addLeak 15 = .ok (.getfield 30, 3) := by decide +kernel
theorem d_N_addLeak_18 : decode b_N_addLeak 18 = .ok (.iload 6, 2) := by decide +kernel
theorem d_N_addLeak_20 : decode b_N_addLeak 20 = .ok (.iload 4, 2) := by decide +kernel
theorem d_N_addLeak_22 : decode b_N_addLeak 22 = .ok (.iastore, 1) := by decide +kernel
theorem d_N_addLeak_23 : decode b_N_addLeak 23 = .ok (.aload_n 0, 1) := by decide +kernel
theorem d_N_addLeak_24 : decode b_N_addLeak 24 = .ok (.getfield 33, 3) := by decide +kernel
theorem d_N_addLeak_27 : decode b_N_addLeak 27 = .ok (.iload 6, 2) := by decide +kernel
theorem d_N_addLeak_29 : decode b_N_addLeak 29 = .ok (.iload 5, 2) := by decide +kernel
theorem d_N_addLeak_31 : decode b_N_addLeak 31 = .ok (.iastore, 1) := by decide +kernel
theorem d_N_addLeak_32 : decode b_N_addLeak 32 = .ok (.aload_n 0, 1) := by decide +kernel
theorem d_N_addLeak_33 : decode b_N_addLeak 33 = .ok (.dup, 1) := by decide +kernel
theorem d_N_addLeak_34 : decode b_N_addLeak 34 = .ok (.getfield 57, 3) := by decide +kernel
theorem d_N_addLeak_37 : decode b_N_addLeak 37 = .ok (.iconst 1, 1) := by decide +kernel
theorem d_N_addLeak_38 : decode b_N_addLeak 38 = .ok (.iadd, 1) := by decide +kernel
theorem d_N_addLeak_39 : decode b_N_addLeak 39 = .ok (.putfield 57, 3) := by decide +kernel
theorem d_N_addLeak_42 : decode b_N_addLeak 42 = .ok (.aload_n 0, 1) := by decide +kernel
theorem d_N_addLeak_43 : decode b_N_addLeak 43 = .ok (.iload 6, 2) := by decide +kernel
theorem d_N_addLeak_45 : decode b_N_addLeak 45 = .ok (.iload_n 1, 1) := by decide +kernel
theorem d_N_addLeak_46 : decode b_N_addLeak 46 = .ok (.iload_n 2, 1) := by decide +kernel
theorem d_N_addLeak_47 : decode b_N_addLeak 47 = .ok (.invokevirtual 74, 3) := by decide +kernel
theorem d_N_addLeak_50 : decode b_N_addLeak 50 = .ok (.aload_n 0, 1) := by decide +kernel
theorem d_N_addLeak_51 : decode b_N_addLeak 51 = .ok (.iload 6, 2) := by decide +kernel
theorem d_N_addLeak_53 : decode b_N_addLeak 53 = .ok (.invokevirtual 70, 3) := by decide +kernel
theorem d_N_addLeak_56 : decode b_N_addLeak 56 = .ok (.iload 6, 2) := by decide +kernel
theorem d_N_addLeak_58 : decode b_N_addLeak 58 = .ok (.ireturn, 1) := by decide +kernel
theorem d_N_addFan_0 : decode b_N_addFan 0 = .ok (.aload_n 0, 1) := by decide +kernel
theorem d_N_addFan_1 : decode b_N_addFan 1 = .ok (.getfield 60, 3) := by decide +kernel
theorem d_N_addFan_4 : decode b_N_addFan 4 = .ok (.istore 5, 2) := by decide +kernel
theorem d_N_addFan_6 : decode b_N_addFan 6 = .ok (.aload_n 0, 1) := by decide +kernel
theorem d_N_addFan_7 : decode b_N_addFan 7 = .ok (.getfield 39, 3) := by decide +kernel
theorem d_N_addFan_10 : decode b_N_addFan 10 = .ok (.iload 5, 2) := by decide +kernel
theorem d_N_addFan_12 : decode b_N_addFan 12 = .ok (.iload_n 3, 1) := by decide +kernel
theorem d_N_addFan_13 : decode b_N_addFan 13 = .ok (.iastore, 1) := by decide +kernel
theorem d_N_addFan_14 : decode b_N_addFan 14 = .ok (.aload_n 0, 1) := by decide +kernel
theorem d_N_addFan_15 : decode b_N_addFan 15 = .ok (.getfield 42, 3) := by decide +kernel
theorem d_N_addFan_18 : decode b_N_addFan 18 = .ok (.iload 5, 2) := by decide +kernel
theorem d_N_addFan_20 : decode b_N_addFan 20 = .ok (.iload 4, 2) := by decide +kernel
theorem d_N_addFan_22 : decode b_N_addFan 22 = .ok (.iastore, 1) := by decide +kernel
theorem d_N_addFan_23 : decode b_N_addFan 23 = .ok (.aload_n 0, 1) := by decide +kernel
theorem d_N_addFan_24 : decode b_N_addFan 24 = .ok (.dup, 1) := by decide +kernel
theorem d_N_addFan_25 : decode b_N_addFan 25 = .ok (.getfield 60, 3) := by decide +kernel
theorem d_N_addFan_28 : decode b_N_addFan 28 = .ok (.iconst 1, 1) := by decide +kernel
theorem d_N_addFan_29 : decode b_N_addFan 29 = .ok (.iadd, 1) := by decide +kernel
theorem d_N_addFan_30 : decode b_N_addFan 30 = .ok (.putfield 60, 3) := by decide +kernel
theorem d_N_addFan_33 : decode b_N_addFan 33 = .ok (.aload_n 0, 1) := by decide +kernel
theorem d_N_addFan_34 : decode b_N_addFan 34 = .ok (.iload 5, 2) := by decide +kernel
theorem d_N_addFan_36 : decode b_N_addFan 36 = .ok (.invokestatic 78, 3) := by decide +kernel
theorem d_N_addFan_39 : decode b_N_addFan 39 = .ok (.iload_n 1, 1) := by decide +kernel
theorem d_N_addFan_40 : decode b_N_addFan 40 = .ok (.iload_n 2, 1) := by decide +kernel
theorem d_N_addFan_41 : decode b_N_addFan 41 = .ok (.invokevirtual 74, 3) := by decide +kernel
theorem d_N_addFan_44 : decode b_N_addFan 44 = .ok (.iload 5, 2) := by decide +kernel
theorem d_N_addFan_46 : decode b_N_addFan 46 = .ok (.ireturn, 1) := by decide +kernel
theorem d_N_join_0 : decode b_N_join 0 = .ok (.aload_n 0, 1) := by decide +kernel
theorem d_N_join_1 : decode b_N_join 1 = .ok (.getfield 21, 3) := by decide +kernel
theorem d_N_join_4 : decode b_N_join 4 = .ok (.iload_n 1, 1) := by decide +kernel
theorem d_N_join_5 : decode b_N_join 5 = .ok (.iload_n 2, 1) := by decide +kernel
theorem d_N_join_6 : decode b_N_join 6 = .ok (.iastore, 1) := by decide +kernel
theorem d_N_join_7 : decode b_N_join 7 = .ok (.aload_n 0, 1) := by decide +kernel
theorem d_N_join_8 : decode b_N_join 8 = .ok (.getfield 24, 3) := by decide +kernel
theorem d_N_join_11 : decode b_N_join 11 = .ok (.iload_n 1, 1) := by decide +kernel
theorem d_N_join_12 : decode b_N_join 12 = .ok (.iload_n 3, 1) := by decide +kernel
theorem d_N_join_13 : decode b_N_join 13 = .ok (.iastore, 1) := by decide +kernel
theorem d_N_join_14 : decode b_N_join 14 = .ok (.aload_n 0, 1) := by decide +kernel
theorem d_N_join_15 : decode b_N_join 15 = .ok (.iload_n 2, 1) := by decide +kernel
theorem d_N_join_16 : decode b_N_join 16 = .ok (.iload_n 1, 1) := by decide +kernel
theorem d_N_join_17 : decode b_N_join 17 = .ok (.invokevirtual 81, 3) := by decide +kernel
theorem d_N_join_20 : decode b_N_join 20 = .ok (.aload_n 0, 1) := by decide +kernel
theorem d_N_join_21 : decode b_N_join 21 = .ok (.iload_n 3, 1) := by decide +kernel
theorem d_N_join_22 : decode b_N_join 22 = .ok (.iload_n 1, 1) := by decide +kernel
theorem d_N_join_23 : decode b_N_join 23 = .ok (.invokevirtual 81, 3) := by decide +kernel
theorem d_N_join_26 : decode b_N_join 26 = .ok (.aload_n 0, 1) := by decide +kernel
theorem d_N_join_27 : decode b_N_join 27 = .ok (.dup, 1) := by decide +kernel
theorem d_N_join_28 : decode b_N_join 28 = .ok (.getfield 63, 3) := by decide +kernel
theorem d_N_join_31 : decode b_N_join 31 = .ok (.iconst 1, 1) := by decide +kernel
theorem d_N_join_32 : decode b_N_join 32 = .ok (.iadd, 1) := by decide +kernel
theorem d_N_join_33 : decode b_N_join 33 = .ok (.putfield 63, 3) := by decide +kernel
theorem d_N_join_36 : decode b_N_join 36 = .ok (.return_, 1) := by decide +kernel
theorem d_N_noteDuct_0 : decode b_N_noteDuct 0 = .ok (.aload_n 0, 1) := by decide +kernel
theorem d_N_noteDuct_1 : decode b_N_noteDuct 1 = .ok (.getfield 47, 3) := by decide +kernel
theorem d_N_noteDuct_4 : decode b_N_noteDuct 4 = .ok (.iload_n 1, 1) := by decide +kernel
theorem d_N_noteDuct_5 : decode b_N_noteDuct 5 = .ok (.aaload, 1) := by decide +kernel
theorem d_N_noteDuct_6 : decode b_N_noteDuct 6 = .ok (.aload_n 0, 1) := by decide +kernel
theorem d_N_noteDuct_7 : decode b_N_noteDuct 7 = .ok (.getfield 50, 3) := by decide +kernel
theorem d_N_noteDuct_10 : decode b_N_noteDuct 10 = .ok (.iload_n 1, 1) := by decide +kernel
theorem d_N_noteDuct_11 : decode b_N_noteDuct 11 = .ok (.iaload, 1) := by decide +kernel
theorem d_N_noteDuct_12 : decode b_N_noteDuct 12 = .ok (.iload_n 2, 1) := by decide +kernel
theorem d_N_noteDuct_13 : decode b_N_noteDuct 13 = .ok (.iastore, 1) := by decide +kernel
theorem d_N_noteDuct_14 : decode b_N_noteDuct 14 = .ok (.aload_n 0, 1) := by decide +kernel
theorem d_N_noteDuct_15 : decode b_N_noteDuct 15 = .ok (.getfield 50, 3) := by decide +kernel
theorem d_N_noteDuct_18 : decode b_N_noteDuct 18 = .ok (.iload_n 1, 1) := by decide +kernel
theorem d_N_noteDuct_19 : decode b_N_noteDuct 19 = .ok (.dup2, 1) := by decide +kernel
theorem d_N_noteDuct_20 : decode b_N_noteDuct 20 = .ok (.iaload, 1) := by decide +kernel
theorem d_N_noteDuct_21 : decode b_N_noteDuct 21 = .ok (.iconst 1, 1) := by decide +kernel
theorem d_N_noteDuct_22 : decode b_N_noteDuct 22 = .ok (.iadd, 1) := by decide +kernel
theorem d_N_noteDuct_23 : decode b_N_noteDuct 23 = .ok (.iastore, 1) := by decide +kernel
theorem d_N_noteDuct_24 : decode b_N_noteDuct 24 = .ok (.return_, 1) := by decide +kernel
theorem d_N_measureStack_0 : decode b_N_measureStack 0 = .ok (.aload_n 0, 1) := by decide +kernel
theorem d_N_measureStack_1 : decode b_N_measureStack 1 = .ok (.getfield 36, 3) := by decide +kernel
theorem d_N_measureStack_4 : decode b_N_measureStack 4 = .ok (.iload_n 1, 1) := by decide +kernel
theorem d_N_measureStack_5 : decode b_N_measureStack 5 = .ok (.aload_n 0, 1) := by decide +kernel
theorem d_N_measureStack_6 : decode b_N_measureStack 6 = .ok (.getfield 27, 3) := by decide +kernel
theorem d_N_measureStack_9 : decode b_N_measureStack 9 = .ok (.iload_n 1, 1) := by decide +kernel
theorem d_N_measureStack_10 : decode b_N_measureStack 10 = .ok (.iaload, 1) := by decide +kernel
theorem d_N_measureStack_11 : decode b_N_measureStack 11 = .ok (.aload_n 0, 1) := by decide +kernel
theorem d_N_measureStack_12 : decode b_N_measureStack 12 = .ok (.getfield 15, 3) := by decide +kernel
theorem d_N_measureStack_15 : decode b_N_measureStack 15 = .ok (.aload_n 0, 1) := by decide +kernel
theorem d_N_measureStack_16 : decode b_N_measureStack 16 = .ok (.getfield 21, 3) := by decide +kernel
theorem d_N_measureStack_19 : decode b_N_measureStack 19 = .ok (.iload_n 1, 1) := by decide +kernel
theorem d_N_measureStack_20 : decode b_N_measureStack 20 = .ok (.iaload, 1) := by decide +kernel
theorem d_N_measureStack_21 : decode b_N_measureStack 21 = .ok (.iaload, 1) := by decide +kernel
theorem d_N_measureStack_22 : decode b_N_measureStack 22 = .ok (.aload_n 0, 1) := by decide +kernel
theorem d_N_measureStack_23 : decode b_N_measureStack 23 = .ok (.getfield 15, 3) := by decide +kernel
theorem d_N_measureStack_26 : decode b_N_measureStack 26 = .ok (.aload_n 0, 1) := by decide +kernel
theorem d_N_measureStack_27 : decode b_N_measureStack 27 = .ok (.getfield 24, 3) := by decide +kernel
theorem d_N_measureStack_30 : decode b_N_measureStack 30 = .ok (.iload_n 1, 1) := by decide +kernel
theorem d_N_measureStack_31 : decode b_N_measureStack 31 = .ok (.iaload, 1) := by decide +kernel
theorem d_N_measureStack_32 : decode b_N_measureStack 32 = .ok (.iaload, 1) := by decide +kernel
theorem d_N_measureStack_33 : decode b_N_measureStack 33 = .ok (.isub, 1) := by decide +kernel
theorem d_N_measureStack_34 : decode b_N_measureStack 34 = .ok (.imul, 1) := by decide +kernel
theorem d_N_measureStack_35 : decode b_N_measureStack 35 = .ok (.bipush 100, 2) := by decide +kernel
theorem d_N_measureStack_37 : decode b_N_measureStack 37 = .ok (.idiv, 1) := by decide +kernel
theorem d_N_measureStack_38 : decode b_N_measureStack 38 = .ok (.iastore, 1) := by decide +kernel
theorem d_N_measureStack_39 : decode b_N_measureStack 39 = .ok (.return_, 1) := by decide +kernel
theorem d_N_isDuct_0 : decode b_N_isDuct 0 = .ok (.iload_n 1, 1) := by decide +kernel
theorem d_N_isDuct_1 : decode b_N_isDuct 1 = .ok (.bipush 20, 2) := by decide +kernel
theorem d_N_isDuct_3 : decode b_N_isDuct 3 = .ok (.if_icmp .ge 19, 3) := by decide +kernel
theorem d_N_isDuct_6 : decode b_N_isDuct 6 = .ok (.iload_n 1, 1) := by decide +kernel
theorem d_N_isDuct_7 : decode b_N_isDuct 7 = .ok (.aload_n 0, 1) := by decide +kernel
theorem d_N_isDuct_8 : decode b_N_isDuct 8 = .ok (.getfield 57, 3) := by decide +kernel
theorem d_N_isDuct_11 : decode b_N_isDuct 11 = .ok (.if_icmp .ge 7, 3) := by decide +kernel
theorem d_N_isDuct_14 : decode b_N_isDuct 14 = .ok (.iconst 1, 1) := by decide +kernel
theorem d_N_isDuct_15 : decode b_N_isDuct 15 = .ok (.goto 23, 3) := by decide +kernel
theorem d_N_isDuct_18 : decode b_N_isDuct 18 = .ok (.iconst 0, 1) := by decide +kernel
end
section
theorem d_N_isDuct_19 : decode b_N_isDuct 19 = .ok (.goto 19, 3) := by decide +kernel
theorem d_N_isDuct_22 : decode b_N_isDuct 22 = .ok (.iload_n 1, 1) := by decide +kernel
theorem d_N_isDuct_23 : decode b_N_isDuct 23 = .ok (.bipush 20, 2) := by decide +kernel
theorem d_N_isDuct_25 : decode b_N_isDuct 25 = .ok (.isub, 1) := by decide +kernel
theorem d_N_isDuct_26 : decode b_N_isDuct 26 = .ok (.aload_n 0, 1) := by decide +kernel
theorem d_N_isDuct_27 : decode b_N_isDuct 27 = .ok (.getfield 60, 3) := by decide +kernel
theorem d_N_isDuct_30 : decode b_N_isDuct 30 = .ok (.if_icmp .ge 7, 3) := by decide +kernel
theorem d_N_isDuct_33 : decode b_N_isDuct 33 = .ok (.iconst 1, 1) := by decide +kernel
theorem d_N_isDuct_34 : decode b_N_isDuct 34 = .ok (.goto 4, 3) := by decide +kernel
theorem d_N_isDuct_37 : decode b_N_isDuct 37 = .ok (.iconst 0, 1) := by decide +kernel
theorem d_N_isDuct_38 : decode b_N_isDuct 38 = .ok (.ireturn, 1) := by decide +kernel
theorem d_N_driveOf_0 : decode b_N_driveOf 0 = .ok (.aload_n 2, 1) := by decide +kernel
theorem d_N_driveOf_1 : decode b_N_driveOf 1 = .ok (.aload_n 0, 1) := by decide +kernel
theorem d_N_driveOf_2 : decode b_N_driveOf 2 = .ok (.getfield 21, 3) := by decide +kernel
theorem d_N_driveOf_5 : decode b_N_driveOf 5 = .ok (.iload_n 1, 1) := by decide +kernel
theorem d_N_driveOf_6 : decode b_N_driveOf 6 = .ok (.iaload, 1) := by decide +kernel
theorem d_N_driveOf_7 : decode b_N_driveOf 7 = .ok (.iaload, 1) := by decide +kernel
theorem d_N_driveOf_8 : decode b_N_driveOf 8 = .ok (.aload_n 2, 1) := by decide +kernel
theorem d_N_driveOf_9 : decode b_N_driveOf 9 = .ok (.aload_n 0, 1) := by decide +kernel
theorem d_N_driveOf_10 : decode b_N_driveOf 10 = .ok (.getfield 24, 3) := by decide +kernel
theorem d_N_driveOf_13 : decode b_N_driveOf 13 = .ok (.iload_n 1, 1) := by decide +kernel
theorem d_N_driveOf_14 : decode b_N_driveOf 14 = .ok (.iaload, 1) := by decide +kernel
theorem d_N_driveOf_15 : decode b_N_driveOf 15 = .ok (.iaload, 1) := by decide +kernel
theorem d_N_driveOf_16 : decode b_N_driveOf 16 = .ok (.isub, 1) := by decide +kernel
theorem d_N_driveOf_17 : decode b_N_driveOf 17 = .ok (.aload_n 0, 1) := by decide +kernel
theorem d_N_driveOf_18 : decode b_N_driveOf 18 = .ok (.getfield 36, 3) := by decide +kernel
theorem d_N_driveOf_21 : decode b_N_driveOf 21 = .ok (.iload_n 1, 1) := by decide +kernel
theorem d_N_driveOf_22 : decode b_N_driveOf 22 = .ok (.iaload, 1) := by decide +kernel
theorem d_N_driveOf_23 : decode b_N_driveOf 23 = .ok (.iadd, 1) := by decide +kernel
theorem d_N_driveOf_24 : decode b_N_driveOf 24 = .ok (.ireturn, 1) := by decide +kernel
theorem d_N_flowOf_0 : decode b_N_flowOf 0 = .ok (.aload_n 2, 1) := by decide +kernel
theorem d_N_flowOf_1 : decode b_N_flowOf 1 = .ok (.getfield 85, 3) := by decide +kernel
theorem d_N_flowOf_4 : decode b_N_flowOf 4 = .ok (.astore_n 3, 1) := by decide +kernel
theorem d_N_flowOf_5 : decode b_N_flowOf 5 = .ok (.iload_n 1, 1) := by decide +kernel
theorem d_N_flowOf_6 : decode b_N_flowOf 6 = .ok (.bipush 20, 2) := by decide +kernel
theorem d_N_flowOf_8 : decode b_N_flowOf 8 = .ok (.if_icmp .lt 67, 3) := by decide +kernel
theorem d_N_flowOf_11 : decode b_N_flowOf 11 = .ok (.iload_n 1, 1) := by decide +kernel
theorem d_N_flowOf_12 : decode b_N_flowOf 12 = .ok (.bipush 20, 2) := by decide +kernel
theorem d_N_flowOf_14 : decode b_N_flowOf 14 = .ok (.isub, 1) := by decide +kernel
theorem d_N_flowOf_15 : decode b_N_flowOf 15 = .ok (.istore 4, 2) := by decide +kernel
theorem d_N_flowOf_17 : decode b_N_flowOf 17 = .ok (.aload_n 3, 1) := by decide +kernel
theorem d_N_flowOf_18 : decode b_N_flowOf 18 = .ok (.aload_n 0, 1) := by decide +kernel
theorem d_N_flowOf_19 : decode b_N_flowOf 19 = .ok (.getfield 24, 3) := by decide +kernel
theorem d_N_flowOf_22 : decode b_N_flowOf 22 = .ok (.iload_n 1, 1) := by decide +kernel
theorem d_N_flowOf_23 : decode b_N_flowOf 23 = .ok (.iaload, 1) := by decide +kernel
theorem d_N_flowOf_24 : decode b_N_flowOf 24 = .ok (.iaload, 1) := by decide +kernel
theorem d_N_flowOf_25 : decode b_N_flowOf 25 = .ok (.aload_n 3, 1) := by decide +kernel
theorem d_N_flowOf_26 : decode b_N_flowOf 26 = .ok (.aload_n 0, 1) := by decide +kernel
theorem d_N_flowOf_27 : decode b_N_flowOf 27 = .ok (.getfield 21, 3) := by decide +kernel
theorem d_N_flowOf_30 : decode b_N_flowOf 30 = .ok (.iload_n 1, 1) := by decide +kernel
theorem d_N_flowOf_31 : decode b_N_flowOf 31 = .ok (.iaload, 1) := by decide +kernel
theorem d_N_flowOf_32 : decode b_N_flowOf 32 = .ok (.iaload, 1) := by decide +kernel
theorem d_N_flowOf_33 : decode b_N_flowOf 33 = .ok (.isub, 1) := by decide +kernel
theorem d_N_flowOf_34 : decode b_N_flowOf 34 = .ok (.istore 5, 2) := by decide +kernel
theorem d_N_flowOf_36 : decode b_N_flowOf 36 = .ok (.aload_n 0, 1) := by decide +kernel
theorem d_N_flowOf_37 : decode b_N_flowOf 37 = .ok (.getfield 39, 3) := by decide +kernel
theorem d_N_flowOf_40 : decode b_N_flowOf 40 = .ok (.iload 4, 2) := by decide +kernel
theorem d_N_flowOf_42 : decode b_N_flowOf 42 = .ok (.iaload, 1) := by decide +kernel
theorem d_N_flowOf_43 : decode b_N_flowOf 43 = .ok (.aload_n 0, 1) := by decide +kernel
theorem d_N_flowOf_44 : decode b_N_flowOf 44 = .ok (.getfield 42, 3) := by decide +kernel
theorem d_N_flowOf_47 : decode b_N_flowOf 47 = .ok (.iload 4, 2) := by decide +kernel
theorem d_N_flowOf_49 : decode b_N_flowOf 49 = .ok (.iaload, 1) := by decide +kernel
theorem d_N_flowOf_50 : decode b_N_flowOf 50 = .ok (.iload 5, 2) := by decide +kernel
theorem d_N_flowOf_52 : decode b_N_flowOf 52 = .ok (.imul, 1) := by decide +kernel
theorem d_N_flowOf_53 : decode b_N_flowOf 53 = .ok (.isub, 1) := by decide +kernel
theorem d_N_flowOf_54 : decode b_N_flowOf 54 = .ok (.istore 6, 2) := by decide +kernel
theorem d_N_flowOf_56 : decode b_N_flowOf 56 = .ok (.iconst 0, 1) := by decide +kernel
theorem d_N_flowOf_57 : decode b_N_flowOf 57 = .ok (.iload 6, 2) := by decide +kernel
theorem d_N_flowOf_59 : decode b_N_flowOf 59 = .ok (.iconst 2, 1) := by decide +kernel
theorem d_N_flowOf_60 : decode b_N_flowOf 60 = .ok (.aload_n 0, 1) := by decide +kernel
theorem d_N_flowOf_61 : decode b_N_flowOf 61 = .ok (.getfield 39, 3) := by decide +kernel
theorem d_N_flowOf_64 : decode b_N_flowOf 64 = .ok (.iload 4, 2) := by decide +kernel
theorem d_N_flowOf_66 : decode b_N_flowOf 66 = .ok (.iaload, 1) := by decide +kernel
theorem d_N_flowOf_67 : decode b_N_flowOf 67 = .ok (.imul, 1) := by decide +kernel
theorem d_N_flowOf_68 : decode b_N_flowOf 68 = .ok (.invokestatic 90, 3) := by decide +kernel
theorem d_N_flowOf_71 : decode b_N_flowOf 71 = .ok (.invokestatic 96, 3) := by decide +kernel
theorem d_N_flowOf_74 : decode b_N_flowOf 74 = .ok (.ireturn, 1) := by decide +kernel
theorem d_N_flowOf_75 : decode b_N_flowOf 75 = .ok (.aload_n 2, 1) := by decide +kernel
theorem d_N_flowOf_76 : decode b_N_flowOf 76 = .ok (.getfield 99, 3) := by decide +kernel
theorem d_N_flowOf_79 : decode b_N_flowOf 79 = .ok (.iload_n 1, 1) := by decide +kernel
theorem d_N_flowOf_80 : decode b_N_flowOf 80 = .ok (.ishr, 1) := by decide +kernel
theorem d_N_flowOf_81 : decode b_N_flowOf 81 = .ok (.iconst 1, 1) := by decide +kernel
theorem d_N_flowOf_82 : decode b_N_flowOf 82 = .ok (.iand, 1) := by decide +kernel
theorem d_N_flowOf_83 : decode b_N_flowOf 83 = .ok (.ifCond .eq 5, 3) := by decide +kernel
theorem d_N_flowOf_86 : decode b_N_flowOf 86 = .ok (.iconst 0, 1) := by decide +kernel
theorem d_N_flowOf_87 : decode b_N_flowOf 87 = .ok (.ireturn, 1) := by decide +kernel
theorem d_N_flowOf_88 : decode b_N_flowOf 88 = .ok (.aload_n 0, 1) := by decide +kernel
theorem d_N_flowOf_89 : decode b_N_flowOf 89 = .ok (.iload_n 1, 1) := by decide +kernel
theorem d_N_flowOf_90 : decode b_N_flowOf 90 = .ok (.aload_n 3, 1) := by decide +kernel
theorem d_N_flowOf_91 : decode b_N_flowOf 91 = .ok (.invokevirtual 102, 3) := by decide +kernel
theorem d_N_flowOf_94 : decode b_N_flowOf 94 = .ok (.istore 4, 2) := by decide +kernel
theorem d_N_flowOf_96 : decode b_N_flowOf 96 = .ok (.aload_n 0, 1) := by decide +kernel
theorem d_N_flowOf_97 : decode b_N_flowOf 97 = .ok (.getfield 33, 3) := by decide +kernel
theorem d_N_flowOf_100 : decode b_N_flowOf 100 = .ok (.iload_n 1, 1) := by decide +kernel
theorem d_N_flowOf_101 : decode b_N_flowOf 101 = .ok (.iaload, 1) := by decide +kernel
theorem d_N_flowOf_102 : decode b_N_flowOf 102 = .ok (.iconst 1, 1) := by decide +kernel
theorem d_N_flowOf_103 : decode b_N_flowOf 103 = .ok (.if_icmp .ne 13, 3) := by decide +kernel
theorem d_N_flowOf_106 : decode b_N_flowOf 106 = .ok (.aload_n 0, 1) := by decide +kernel
theorem d_N_flowOf_107 : decode b_N_flowOf 107 = .ok (.getfield 30, 3) := by decide +kernel
theorem d_N_flowOf_110 : decode b_N_flowOf 110 = .ok (.iload_n 1, 1) := by decide +kernel
theorem d_N_flowOf_111 : decode b_N_flowOf 111 = .ok (.iaload, 1) := by decide +kernel
theorem d_N_flowOf_112 : decode b_N_flowOf 112 = .ok (.iload 4, 2) := by decide +kernel
theorem d_N_flowOf_114 : decode b_N_flowOf 114 = .ok (.imul, 1) := by decide +kernel
theorem d_N_flowOf_115 : decode b_N_flowOf 115 = .ok (.ireturn, 1) := by decide +kernel
theorem d_N_flowOf_116 : decode b_N_flowOf 116 = .ok (.iload 4, 2) := by decide +kernel
theorem d_N_flowOf_118 : decode b_N_flowOf 118 = .ok (.ifCond .ge 19, 3) := by decide +kernel
theorem d_N_flowOf_121 : decode b_N_flowOf 121 = .ok (.aload_n 0, 1) := by decide +kernel
theorem d_N_flowOf_122 : decode b_N_flowOf 122 = .ok (.getfield 30, 3) := by decide +kernel
theorem d_N_flowOf_125 : decode b_N_flowOf 125 = .ok (.iload_n 1, 1) := by decide +kernel
theorem d_N_flowOf_126 : decode b_N_flowOf 126 = .ok (.iaload, 1) := by decide +kernel
theorem d_N_flowOf_127 : decode b_N_flowOf 127 = .ok (.iload 4, 2) := by decide +kernel
theorem d_N_flowOf_129 : decode b_N_flowOf 129 = .ok (.ineg, 1) := by decide +kernel
theorem d_N_flowOf_130 : decode b_N_flowOf 130 = .ok (.invokestatic 106, 3) := by decide +kernel
theorem d_N_flowOf_133 : decode b_N_flowOf 133 = .ok (.ineg, 1) := by decide +kernel
theorem d_N_flowOf_134 : decode b_N_flowOf 134 = .ok (.goto 14, 3) := by decide +kernel
theorem d_N_flowOf_137 : decode b_N_flowOf 137 = .ok (.aload_n 0, 1) := by decide +kernel
theorem d_N_flowOf_138 : decode b_N_flowOf 138 = .ok (.getfield 30, 3) := by decide +kernel
theorem d_N_flowOf_141 : decode b_N_flowOf 141 = .ok (.iload_n 1, 1) := by decide +kernel
theorem d_N_flowOf_142 : decode b_N_flowOf 142 = .ok (.iaload, 1) := by decide +kernel
theorem d_N_flowOf_143 : decode b_N_flowOf 143 = .ok (.iload 4, 2) := by decide +kernel
theorem d_N_flowOf_145 : decode b_N_flowOf 145 = .ok (.invokestatic 106, 3) := by decide +kernel
theorem d_N_flowOf_148 : decode b_N_flowOf 148 = .ok (.ireturn, 1) := by decide +kernel
theorem d_N_gainOf_0 : decode b_N_gainOf 0 = .ok (.iload_n 1, 1) := by decide +kernel
theorem d_N_gainOf_1 : decode b_N_gainOf 1 = .ok (.invokestatic 66, 3) := by decide +kernel
theorem d_N_gainOf_4 : decode b_N_gainOf 4 = .ok (.istore_n 3, 1) := by decide +kernel
theorem d_N_gainOf_5 : decode b_N_gainOf 5 = .ok (.aload_n 0, 1) := by decide +kernel
theorem d_N_gainOf_6 : decode b_N_gainOf 6 = .ok (.getfield 47, 3) := by decide +kernel
theorem d_N_gainOf_9 : decode b_N_gainOf 9 = .ok (.iload_n 3, 1) := by decide +kernel
theorem d_N_gainOf_10 : decode b_N_gainOf 10 = .ok (.aaload, 1) := by decide +kernel
theorem d_N_gainOf_11 : decode b_N_gainOf 11 = .ok (.astore 4, 2) := by decide +kernel
theorem d_N_gainOf_13 : decode b_N_gainOf 13 = .ok (.aload_n 0, 1) := by decide +kernel
theorem d_N_gainOf_14 : decode b_N_gainOf 14 = .ok (.getfield 50, 3) := by decide +kernel
theorem d_N_gainOf_17 : decode b_N_gainOf 17 = .ok (.iload_n 3, 1) := by decide +kernel
theorem d_N_gainOf_18 : decode b_N_gainOf 18 = .ok (.iaload, 1) := by decide +kernel
theorem d_N_gainOf_19 : decode b_N_gainOf 19 = .ok (.istore 5, 2) := by decide +kernel
theorem d_N_gainOf_21 : decode b_N_gainOf 21 = .ok (.iconst 0, 1) := by decide +kernel
theorem d_N_gainOf_22 : decode b_N_gainOf 22 = .ok (.istore 6, 2) := by decide +kernel
theorem d_N_gainOf_24 : decode b_N_gainOf 24 = .ok (.iconst 0, 1) := by decide +kernel
theorem d_N_gainOf_25 : decode b_N_gainOf 25 = .ok (.istore 7, 2) := by decide +kernel
theorem d_N_gainOf_27 : decode b_N_gainOf 27 = .ok (.iload 7, 2) := by decide +kernel
theorem d_N_gainOf_29 : decode b_N_gainOf 29 = .ok (.iload 5, 2) := by decide +kernel
theorem d_N_gainOf_31 : decode b_N_gainOf 31 = .ok (.if_icmp .ge 49, 3) := by decide +kernel
theorem d_N_gainOf_34 : decode b_N_gainOf 34 = .ok (.aload 4, 2) := by decide +kernel
theorem d_N_gainOf_36 : decode b_N_gainOf 36 = .ok (.iload 7, 2) := by decide +kernel
theorem d_N_gainOf_38 : decode b_N_gainOf 38 = .ok (.iaload, 1) := by decide +kernel
theorem d_N_gainOf_39 : decode b_N_gainOf 39 = .ok (.istore 8, 2) := by decide +kernel
theorem d_N_gainOf_41 : decode b_N_gainOf 41 = .ok (.aload_n 0, 1) := by decide +kernel
theorem d_N_gainOf_42 : decode b_N_gainOf 42 = .ok (.iload 8, 2) := by decide +kernel
theorem d_N_gainOf_44 : decode b_N_gainOf 44 = .ok (.aload_n 2, 1) := by decide +kernel
theorem d_N_gainOf_45 : decode b_N_gainOf 45 = .ok (.invokevirtual 109, 3) := by decide +kernel
theorem d_N_gainOf_48 : decode b_N_gainOf 48 = .ok (.istore 9, 2) := by decide +kernel
theorem d_N_gainOf_50 : decode b_N_gainOf 50 = .ok (.iload 6, 2) := by decide +kernel
theorem d_N_gainOf_52 : decode b_N_gainOf 52 = .ok (.aload_n 0, 1) := by decide +kernel
theorem d_N_gainOf_53 : decode b_N_gainOf 53 = .ok (.getfield 24, 3) := by decide +kernel
theorem d_N_gainOf_56 : decode b_N_gainOf 56 = .ok (.iload 8, 2) := by decide +kernel
theorem d_N_gainOf_58 : decode b_N_gainOf 58 = .ok (.iaload, 1) := by decide +kernel
theorem d_N_gainOf_59 : decode b_N_gainOf 59 = .ok (.iload_n 3, 1) := by decide +kernel
theorem d_N_gainOf_60 : decode b_N_gainOf 60 = .ok (.if_icmp .ne 8, 3) := by decide +kernel
theorem d_N_gainOf_63 : decode b_N_gainOf 63 = .ok (.iload 9, 2) := by decide +kernel
theorem d_N_gainOf_65 : decode b_N_gainOf 65 = .ok (.goto 6, 3) := by decide +kernel
theorem d_N_gainOf_68 : decode b_N_gainOf 68 = .ok (.iload 9, 2) := by decide +kernel
theorem d_N_gainOf_70 : decode b_N_gainOf 70 = .ok (.ineg, 1) := by decide +kernel
theorem d_N_gainOf_71 : decode b_N_gainOf 71 = .ok (.iadd, 1) := by decide +kernel
theorem d_N_gainOf_72 : decode b_N_gainOf 72 = .ok (.istore 6, 2) := by decide +kernel
theorem d_N_gainOf_74 : decode b_N_gainOf 74 = .ok (.iinc 7 1, 3) := by decide +kernel
theorem d_N_gainOf_77 : decode b_N_gainOf 77 = .ok (.goto (-50), 3) := by decide +kernel
theorem d_N_gainOf_80 : decode b_N_gainOf 80 = .ok (.iload 6, 2) := by decide +kernel
theorem d_N_gainOf_82 : decode b_N_gainOf 82 = .ok (.ireturn, 1) := by decide +kernel
theorem d_N_rootFlow_0 : decode b_N_rootFlow 0 = .ok (.iload_n 1, 1) := by decide +kernel
theorem d_N_rootFlow_1 : decode b_N_rootFlow 1 = .ok (.ifCond .gt 5, 3) := by decide +kernel
theorem d_N_rootFlow_4 : decode b_N_rootFlow 4 = .ok (.iconst 0, 1) := by decide +kernel
theorem d_N_rootFlow_5 : decode b_N_rootFlow 5 = .ok (.ireturn, 1) := by decide +kernel
theorem d_N_rootFlow_6 : decode b_N_rootFlow 6 = .ok (.lconst 1, 1) := by decide +kernel
theorem d_N_rootFlow_7 : decode b_N_rootFlow 7 = .ok (.lstore_n 2, 1) := by decide +kernel
theorem d_N_rootFlow_8 : decode b_N_rootFlow 8 = .ok (.lload_n 2, 1) := by decide +kernel
theorem d_N_rootFlow_9 : decode b_N_rootFlow 9 = .ok (.lload_n 2, 1) := by decide +kernel
theorem d_N_rootFlow_10 : decode b_N_rootFlow 10 = .ok (.lmul, 1) := by decide +kernel
theorem d_N_rootFlow_11 : decode b_N_rootFlow 11 = .ok (.iload_n 1, 1) := by decide +kernel
theorem d_N_rootFlow_12 : decode b_N_rootFlow 12 = .ok (.i2l, 1) := by decide +kernel
theorem d_N_rootFlow_13 : decode b_N_rootFlow 13 = .ok (.lcmp, 1) := by decide +kernel
theorem d_N_rootFlow_14 : decode b_N_rootFlow 14 = .ok (.ifCond .ge 12, 3) := by decide +kernel
theorem d_N_rootFlow_17 : decode b_N_rootFlow 17 = .ok (.lload_n 2, 1) := by decide +kernel
theorem d_N_rootFlow_18 : decode b_N_rootFlow 18 = .ok (.ldc2_w 113, 3) := by decide +kernel
theorem d_N_rootFlow_21 : decode b_N_rootFlow 21 = .ok (.lmul, 1) := by decide +kernel
theorem d_N_rootFlow_22 : decode b_N_rootFlow 22 = .ok (.lstore_n 2, 1) := by decide +kernel
theorem d_N_rootFlow_23 : decode b_N_rootFlow 23 = .ok (.goto (-15), 3) := by decide +kernel
theorem d_N_rootFlow_26 : decode b_N_rootFlow 26 = .ok (.iload_n 0, 1) := by decide +kernel
theorem d_N_rootFlow_27 : decode b_N_rootFlow 27 = .ok (.i2l, 1) := by decide +kernel
theorem d_N_rootFlow_28 : decode b_N_rootFlow 28 = .ok (.iload_n 0, 1) := by decide +kernel
theorem d_N_rootFlow_29 : decode b_N_rootFlow 29 = .ok (.i2l, 1) := by decide +kernel
theorem d_N_rootFlow_30 : decode b_N_rootFlow 30 = .ok (.lmul, 1) := by decide +kernel
theorem d_N_rootFlow_31 : decode b_N_rootFlow 31 = .ok (.iload_n 1, 1) := by decide +kernel
theorem d_N_rootFlow_32 : decode b_N_rootFlow 32 = .ok (.i2l, 1) := by decide +kernel
theorem d_N_rootFlow_33 : decode b_N_rootFlow 33 = .ok (.lmul, 1) := by decide +kernel
theorem d_N_rootFlow_34 : decode b_N_rootFlow 34 = .ok (.lstore 4, 2) := by decide +kernel
theorem d_N_rootFlow_36 : decode b_N_rootFlow 36 = .ok (.iload_n 0, 1) := by decide +kernel
theorem d_N_rootFlow_37 : decode b_N_rootFlow 37 = .ok (.i2l, 1) := by decide +kernel
theorem d_N_rootFlow_38 : decode b_N_rootFlow 38 = .ok (.lload_n 2, 1) := by decide +kernel
theorem d_N_rootFlow_39 : decode b_N_rootFlow 39 = .ok (.lmul, 1) := by decide +kernel
theorem d_N_rootFlow_40 : decode b_N_rootFlow 40 = .ok (.lstore 6, 2) := by decide +kernel
theorem d_N_rootFlow_42 : decode b_N_rootFlow 42 = .ok (.iconst 0, 1) := by decide +kernel
theorem d_N_rootFlow_43 : decode b_N_rootFlow 43 = .ok (.istore 8, 2) := by decide +kernel
theorem d_N_rootFlow_45 : decode b_N_rootFlow 45 = .ok (.iload 8, 2) := by decide +kernel
theorem d_N_rootFlow_47 : decode b_N_rootFlow 47 = .ok (.bipush 64, 2) := by decide +kernel
theorem d_N_rootFlow_49 : decode b_N_rootFlow 49 = .ok (.if_icmp .ge 45, 3) := by decide +kernel
theorem d_N_rootFlow_52 : decode b_N_rootFlow 52 = .ok (.lload 6, 2) := by decide +kernel
theorem d_N_rootFlow_54 : decode b_N_rootFlow 54 = .ok (.lconst 0, 1) := by decide +kernel
theorem d_N_rootFlow_55 : decode b_N_rootFlow 55 = .ok (.lcmp, 1) := by decide +kernel
theorem d_N_rootFlow_56 : decode b_N_rootFlow 56 = .ok (.ifCond .le 38, 3) := by decide +kernel
theorem d_N_rootFlow_59 : decode b_N_rootFlow 59 = .ok (.lload 6, 2) := by decide +kernel
theorem d_N_rootFlow_61 : decode b_N_rootFlow 61 = .ok (.lload 4, 2) := by decide +kernel
theorem d_N_rootFlow_63 : decode b_N_rootFlow 63 = .ok (.lload 6, 2) := by decide +kernel
theorem d_N_rootFlow_65 : decode b_N_rootFlow 65 = .ok (.ldiv, 1) := by decide +kernel
theorem d_N_rootFlow_66 : decode b_N_rootFlow 66 = .ok (.ladd, 1) := by decide +kernel
theorem d_N_rootFlow_67 : decode b_N_rootFlow 67 = .ok (.ldc2_w 113, 3) := by decide +kernel
theorem d_N_rootFlow_70 : decode b_N_rootFlow 70 = .ok (.ldiv, 1) := by decide +kernel
theorem d_N_rootFlow_71 : decode b_N_rootFlow 71 = .ok (.lstore 9, 2) := by decide +kernel
theorem d_N_rootFlow_73 : decode b_N_rootFlow 73 = .ok (.lload 9, 2) := by decide +kernel
theorem d_N_rootFlow_75 : decode b_N_rootFlow 75 = .ok (.lload 6, 2) := by decide +kernel
theorem d_N_rootFlow_77 : decode b_N_rootFlow 77 = .ok (.lcmp, 1) := by decide +kernel
theorem d_N_rootFlow_78 : decode b_N_rootFlow 78 = .ok (.ifCond .lt 6, 3) := by decide +kernel
theorem d_N_rootFlow_81 : decode b_N_rootFlow 81 = .ok (.goto 13, 3) := by decide +kernel
theorem d_N_rootFlow_84 : decode b_N_rootFlow 84 = .ok (.lload 9, 2) := by decide +kernel
theorem d_N_rootFlow_86 : decode b_N_rootFlow 86 = .ok (.lstore 6, 2) := by decide +kernel
theorem d_N_rootFlow_88 : decode b_N_rootFlow 88 = .ok (.iinc 8 1, 3) := by decide +kernel
theorem d_N_rootFlow_91 : decode b_N_rootFlow 91 = .ok (.goto (-46), 3) := by decide +kernel
theorem d_N_rootFlow_94 : decode b_N_rootFlow 94 = .ok (.lload 6, 2) := by decide +kernel
theorem d_N_rootFlow_96 : decode b_N_rootFlow 96 = .ok (.l2i, 1) := by decide +kernel
theorem d_N_rootFlow_97 : decode b_N_rootFlow 97 = .ok (.ireturn, 1) := by decide +kernel
end
section
theorem d_P_init_0 : decode b_P_init 0 = .ok (.aload_n 0, 1) := by decide +kernel
theorem d_P_init_1 : decode b_P_init 1 = .ok (.invokespecial 3, 3) := by decide +kernel
theorem d_P_init_4 : decode b_P_init 4 = .ok (.aload_n 0, 1) := by decide +kernel
theorem d_P_init_5 : decode b_P_init 5 = .ok (.new 9, 3) := by decide +kernel
theorem d_P_init_8 : decode b_P_init 8 = .ok (.dup, 1) := by decide +kernel
theorem d_P_init_9 : decode b_P_init 9 = .ok (.invokespecial 11, 3) := by decide +kernel
theorem d_P_init_12 : decode b_P_init 12 = .ok (.putfield 12, 3) := by decide +kernel
theorem d_P_init_15 : decode b_P_init 15 = .ok (.aload_n 0, 1) := by decide +kernel
theorem d_P_init_16 : decode b_P_init 16 = .ok (.new 16, 3) := by decide +kernel
theorem d_P_init_19 : decode b_P_init 19 = .ok (.dup, 1) := by decide +kernel
theorem d_P_init_20 : decode b_P_init 20 = .ok (.aload_n 0, 1) := by decide +kernel
theorem d_P_init_21 : decode b_P_init 21 = .ok (.getfield 12, 3) := by decide +kernel
theorem d_P_init_24 : decode b_P_init 24 = .ok (.invokespecial 18, 3) := by decide +kernel
theorem d_P_init_27 : decode b_P_init 27 = .ok (.putfield 21, 3) := by decide +kernel
theorem d_P_init_30 : decode b_P_init 30 = .ok (.aload_n 0, 1) := by decide +kernel
theorem d_P_init_31 : decode b_P_init 31 = .ok (.new 25, 3) := by decide +kernel
theorem d_P_init_34 : decode b_P_init 34 = .ok (.dup, 1) := by decide +kernel
theorem d_P_init_35 : decode b_P_init 35 = .ok (.aload_n 0, 1) := by decide +kernel
theorem d_P_init_36 : decode b_P_init 36 = .ok (.getfield 12, 3) := by decide +kernel
theorem d_P_init_39 : decode b_P_init 39 = .ok (.invokespecial 27, 3) := by decide +kernel
theorem d_P_init_42 : decode b_P_init 42 = .ok (.putfield 28, 3) := by decide +kernel
theorem d_P_init_45 : decode b_P_init 45 = .ok (.aload_n 0, 1) := by decide +kernel
theorem d_P_init_46 : decode b_P_init 46 = .ok (.new 32, 3) := by decide +kernel
theorem d_P_init_49 : decode b_P_init 49 = .ok (.dup, 1) := by decide +kernel
theorem d_P_init_50 : decode b_P_init 50 = .ok (.invokespecial 34, 3) := by decide +kernel
theorem d_P_init_53 : decode b_P_init 53 = .ok (.putfield 35, 3) := by decide +kernel
theorem d_P_init_56 : decode b_P_init 56 = .ok (.aload_n 0, 1) := by decide +kernel
theorem d_P_init_57 : decode b_P_init 57 = .ok (.bipush 8, 2) := by decide +kernel
theorem d_P_init_59 : decode b_P_init 59 = .ok (.anewarray 32, 3) := by decide +kernel
theorem d_P_init_62 : decode b_P_init 62 = .ok (.putfield 39, 3) := by decide +kernel
theorem d_P_init_65 : decode b_P_init 65 = .ok (.aload_n 0, 1) := by decide +kernel
theorem d_P_init_66 : decode b_P_init 66 = .ok (.iconst 0, 1) := by decide +kernel
theorem d_P_init_67 : decode b_P_init 67 = .ok (.putfield 43, 3) := by decide +kernel
theorem d_P_init_70 : decode b_P_init 70 = .ok (.iconst 0, 1) := by decide +kernel
theorem d_P_init_71 : decode b_P_init 71 = .ok (.istore_n 1, 1) := by decide +kernel
theorem d_P_init_72 : decode b_P_init 72 = .ok (.iload_n 1, 1) := by decide +kernel
theorem d_P_init_73 : decode b_P_init 73 = .ok (.bipush 8, 2) := by decide +kernel
theorem d_P_init_75 : decode b_P_init 75 = .ok (.if_icmp .ge 22, 3) := by decide +kernel
theorem d_P_init_78 : decode b_P_init 78 = .ok (.aload_n 0, 1) := by decide +kernel
theorem d_P_init_79 : decode b_P_init 79 = .ok (.getfield 39, 3) := by decide +kernel
theorem d_P_init_82 : decode b_P_init 82 = .ok (.iload_n 1, 1) := by decide +kernel
theorem d_P_init_83 : decode b_P_init 83 = .ok (.new 32, 3) := by decide +kernel
theorem d_P_init_86 : decode b_P_init 86 = .ok (.dup, 1) := by decide +kernel
theorem d_P_init_87 : decode b_P_init 87 = .ok (.invokespecial 34, 3) := by decide +kernel
theorem d_P_init_90 : decode b_P_init 90 = .ok (.aastore, 1) := by decide +kernel
theorem d_P_init_91 : decode b_P_init 91 = .ok (.iinc 1 1, 3) := by decide +kernel
theorem d_P_init_94 : decode b_P_init 94 = .ok (.goto (-22), 3) := by decide +kernel
theorem d_P_init_97 : decode b_P_init 97 = .ok (.return_, 1) := by decide +kernel
theorem d_P_zone_0 : decode b_P_zone 0 = .ok (.iload_n 1, 1) := by decide +kernel
theorem d_P_zone_1 : decode b_P_zone 1 = .ok (.invokestatic 47, 3) := by decide +kernel
theorem d_P_zone_4 : decode b_P_zone 4 = .ok (.ifCond .eq 17, 3) := by decide +kernel
theorem d_P_zone_7 : decode b_P_zone 7 = .ok (.iload_n 2, 1) := by decide +kernel
theorem d_P_zone_8 : decode b_P_zone 8 = .ok (.iconst 1, 1) := by decide +kernel
theorem d_P_zone_9 : decode b_P_zone 9 = .ok (.ldc 51, 2) := by decide +kernel
theorem d_P_zone_11 : decode b_P_zone 11 = .ok (.invokestatic 52, 3) := by decide +kernel
theorem d_P_zone_14 : decode b_P_zone 14 = .ok (.ifCond .eq 7, 3) := by decide +kernel
theorem d_P_zone_17 : decode b_P_zone 17 = .ok (.iconst 1, 1) := by decide +kernel
theorem d_P_zone_18 : decode b_P_zone 18 = .ok (.goto 4, 3) := by decide +kernel
theorem d_P_zone_21 : decode b_P_zone 21 = .ok (.iconst 0, 1) := by decide +kernel
theorem d_P_zone_22 : decode b_P_zone 22 = .ok (.invokestatic 56, 3) := by decide +kernel
theorem d_P_zone_25 : decode b_P_zone 25 = .ok (.aload_n 0, 1) := by decide +kernel
theorem d_P_zone_26 : decode b_P_zone 26 = .ok (.getfield 12, 3) := by decide +kernel
theorem d_P_zone_29 : decode b_P_zone 29 = .ok (.getfield 60, 3) := by decide +kernel
theorem d_P_zone_32 : decode b_P_zone 32 = .ok (.bipush 8, 2) := by decide +kernel
theorem d_P_zone_34 : decode b_P_zone 34 = .ok (.if_icmp .ge 7, 3) := by decide +kernel
theorem d_P_zone_37 : decode b_P_zone 37 = .ok (.iconst 1, 1) := by decide +kernel
theorem d_P_zone_38 : decode b_P_zone 38 = .ok (.goto 4, 3) := by decide +kernel
theorem d_P_zone_41 : decode b_P_zone 41 = .ok (.iconst 0, 1) := by decide +kernel
theorem d_P_zone_42 : decode b_P_zone 42 = .ok (.invokestatic 63, 3) := by decide +kernel
theorem d_P_zone_45 : decode b_P_zone 45 = .ok (.aload_n 0, 1) := by decide +kernel
theorem d_P_zone_46 : decode b_P_zone 46 = .ok (.getfield 12, 3) := by decide +kernel
theorem d_P_zone_49 : decode b_P_zone 49 = .ok (.iload_n 1, 1) := by decide +kernel
theorem d_P_zone_50 : decode b_P_zone 50 = .ok (.iload_n 2, 1) := by decide +kernel
theorem d_P_zone_51 : decode b_P_zone 51 = .ok (.invokevirtual 66, 3) := by decide +kernel
theorem d_P_zone_54 : decode b_P_zone 54 = .ok (.ireturn, 1) := by decide +kernel
theorem d_P_wind_0 : decode b_P_wind 0 = .ok (.iload_n 1, 1) := by decide +kernel
theorem d_P_wind_1 : decode b_P_wind 1 = .ok (.invokestatic 70, 3) := by decide +kernel
theorem d_P_wind_4 : decode b_P_wind 4 = .ok (.ifCond .eq 20, 3) := by decide +kernel
theorem d_P_wind_7 : decode b_P_wind 7 = .ok (.iload_n 2, 1) := by decide +kernel
theorem d_P_wind_8 : decode b_P_wind 8 = .ok (.sipush (-1000), 3) := by decide +kernel
theorem d_P_wind_11 : decode b_P_wind 11 = .ok (.sipush 1000, 3) := by decide +kernel
theorem d_P_wind_14 : decode b_P_wind 14 = .ok (.invokestatic 52, 3) := by decide +kernel
theorem d_P_wind_17 : decode b_P_wind 17 = .ok (.ifCond .eq 7, 3) := by decide +kernel
theorem d_P_wind_20 : decode b_P_wind 20 = .ok (.iconst 1, 1) := by decide +kernel
theorem d_P_wind_21 : decode b_P_wind 21 = .ok (.goto 4, 3) := by decide +kernel
theorem d_P_wind_24 : decode b_P_wind 24 = .ok (.iconst 0, 1) := by decide +kernel
theorem d_P_wind_25 : decode b_P_wind 25 = .ok (.invokestatic 56, 3) := by decide +kernel
theorem d_P_wind_28 : decode b_P_wind 28 = .ok (.aload_n 0, 1) := by decide +kernel
theorem d_P_wind_29 : decode b_P_wind 29 = .ok (.getfield 12, 3) := by decide +kernel
theorem d_P_wind_32 : decode b_P_wind 32 = .ok (.iload_n 1, 1) := by decide +kernel
theorem d_P_wind_33 : decode b_P_wind 33 = .ok (.invokestatic 73, 3) := by decide +kernel
theorem d_P_wind_36 : decode b_P_wind 36 = .ok (.iload_n 2, 1) := by decide +kernel
theorem d_P_wind_37 : decode b_P_wind 37 = .ok (.invokevirtual 77, 3) := by decide +kernel
theorem d_P_wind_40 : decode b_P_wind 40 = .ok (.ireturn, 1) := by decide +kernel
theorem d_P_warmth_0 : decode b_P_warmth 0 = .ok (.aload_n 0, 1) := by decide +kernel
theorem d_P_warmth_1 : decode b_P_warmth 1 = .ok (.iload_n 1, 1) := by decide +kernel
theorem d_P_warmth_2 : decode b_P_warmth 2 = .ok (.invokevirtual 80, 3) := by decide +kernel
theorem d_P_warmth_5 : decode b_P_warmth 5 = .ok (.ifCond .eq 14, 3) := by decide +kernel
theorem d_P_warmth_8 : decode b_P_warmth 8 = .ok (.iload_n 2, 1) := by decide +kernel
theorem d_P_warmth_9 : decode b_P_warmth 9 = .ok (.invokestatic 47, 3) := by decide +kernel
theorem d_P_warmth_12 : decode b_P_warmth 12 = .ok (.ifCond .eq 7, 3) := by decide +kernel
theorem d_P_warmth_15 : decode b_P_warmth 15 = .ok (.iconst 1, 1) := by decide +kernel
theorem d_P_warmth_16 : decode b_P_warmth 16 = .ok (.goto 4, 3) := by decide +kernel
theorem d_P_warmth_19 : decode b_P_warmth 19 = .ok (.iconst 0, 1) := by decide +kernel
theorem d_P_warmth_20 : decode b_P_warmth 20 = .ok (.invokestatic 56, 3) := by decide +kernel
theorem d_P_warmth_23 : decode b_P_warmth 23 = .ok (.aload_n 0, 1) := by decide +kernel
theorem d_P_warmth_24 : decode b_P_warmth 24 = .ok (.getfield 12, 3) := by decide +kernel
theorem d_P_warmth_27 : decode b_P_warmth 27 = .ok (.iload_n 1, 1) := by decide +kernel
theorem d_P_warmth_28 : decode b_P_warmth 28 = .ok (.invokestatic 73, 3) := by decide +kernel
theorem d_P_warmth_31 : decode b_P_warmth 31 = .ok (.iload_n 2, 1) := by decide +kernel
theorem d_P_warmth_32 : decode b_P_warmth 32 = .ok (.invokevirtual 83, 3) := by decide +kernel
theorem d_P_warmth_35 : decode b_P_warmth 35 = .ok (.ireturn, 1) := by decide +kernel
theorem d_P_leak_0 : decode b_P_leak 0 = .ok (.aload_n 0, 1) := by decide +kernel
theorem d_P_leak_1 : decode b_P_leak 1 = .ok (.iload_n 1, 1) := by decide +kernel
theorem d_P_leak_2 : decode b_P_leak 2 = .ok (.iload_n 2, 1) := by decide +kernel
theorem d_P_leak_3 : decode b_P_leak 3 = .ok (.invokevirtual 86, 3) := by decide +kernel
theorem d_P_leak_6 : decode b_P_leak 6 = .ok (.ifCond .eq 39, 3) := by decide +kernel
theorem d_P_leak_9 : decode b_P_leak 9 = .ok (.iload_n 3, 1) := by decide +kernel
theorem d_P_leak_10 : decode b_P_leak 10 = .ok (.iconst 0, 1) := by decide +kernel
theorem d_P_leak_11 : decode b_P_leak 11 = .ok (.bipush 100, 2) := by decide +kernel
theorem d_P_leak_13 : decode b_P_leak 13 = .ok (.invokestatic 52, 3) := by decide +kernel
theorem d_P_leak_16 : decode b_P_leak 16 = .ok (.ifCond .eq 29, 3) := by decide +kernel
theorem d_P_leak_19 : decode b_P_leak 19 = .ok (.iload 4, 2) := by decide +kernel
theorem d_P_leak_21 : decode b_P_leak 21 = .ok (.iconst 1, 1) := by decide +kernel
theorem d_P_leak_22 : decode b_P_leak 22 = .ok (.sipush 1000, 3) := by decide +kernel
theorem d_P_leak_25 : decode b_P_leak 25 = .ok (.invokestatic 52, 3) := by decide +kernel
theorem d_P_leak_28 : decode b_P_leak 28 = .ok (.ifCond .eq 17, 3) := by decide +kernel
theorem d_P_leak_31 : decode b_P_leak 31 = .ok (.iload 5, 2) := by decide +kernel
theorem d_P_leak_33 : decode b_P_leak 33 = .ok (.iconst 0, 1) := by decide +kernel
theorem d_P_leak_34 : decode b_P_leak 34 = .ok (.iconst 1, 1) := by decide +kernel
theorem d_P_leak_35 : decode b_P_leak 35 = .ok (.invokestatic 52, 3) := by decide +kernel
theorem d_P_leak_38 : decode b_P_leak 38 = .ok (.ifCond .eq 7, 3) := by decide +kernel
theorem d_P_leak_41 : decode b_P_leak 41 = .ok (.iconst 1, 1) := by decide +kernel
theorem d_P_leak_42 : decode b_P_leak 42 = .ok (.goto 4, 3) := by decide +kernel
theorem d_P_leak_45 : decode b_P_leak 45 = .ok (.iconst 0, 1) := by decide +kernel
theorem d_P_leak_46 : decode b_P_leak 46 = .ok (.invokestatic 56, 3) := by decide +kernel
theorem d_P_leak_49 : decode b_P_leak 49 = .ok (.aload_n 0, 1) := by decide +kernel
theorem d_P_leak_50 : decode b_P_leak 50 = .ok (.getfield 12, 3) := by decide +kernel
theorem d_P_leak_53 : decode b_P_leak 53 = .ok (.getfield 90, 3) := by decide +kernel
theorem d_P_leak_56 : decode b_P_leak 56 = .ok (.bipush 20, 2) := by decide +kernel
theorem d_P_leak_58 : decode b_P_leak 58 = .ok (.if_icmp .ge 7, 3) := by decide +kernel
theorem d_P_leak_61 : decode b_P_leak 61 = .ok (.iconst 1, 1) := by decide +kernel
theorem d_P_leak_62 : decode b_P_leak 62 = .ok (.goto 4, 3) := by decide +kernel
theorem d_P_leak_65 : decode b_P_leak 65 = .ok (.iconst 0, 1) := by decide +kernel
theorem d_P_leak_66 : decode b_P_leak 66 = .ok (.invokestatic 63, 3) := by decide +kernel
theorem d_P_leak_69 : decode b_P_leak 69 = .ok (.aload_n 0, 1) := by decide +kernel
theorem d_P_leak_70 : decode b_P_leak 70 = .ok (.getfield 12, 3) := by decide +kernel
theorem d_P_leak_73 : decode b_P_leak 73 = .ok (.iload_n 1, 1) := by decide +kernel
theorem d_P_leak_74 : decode b_P_leak 74 = .ok (.invokestatic 73, 3) := by decide +kernel
theorem d_P_leak_77 : decode b_P_leak 77 = .ok (.iload_n 2, 1) := by decide +kernel
theorem d_P_leak_78 : decode b_P_leak 78 = .ok (.invokestatic 73, 3) := by decide +kernel
theorem d_P_leak_81 : decode b_P_leak 81 = .ok (.iload_n 3, 1) := by decide +kernel
theorem d_P_leak_82 : decode b_P_leak 82 = .ok (.iload 4, 2) := by decide +kernel
theorem d_P_leak_84 : decode b_P_leak 84 = .ok (.iload 5, 2) := by decide +kernel
theorem d_P_leak_86 : decode b_P_leak 86 = .ok (.invokevirtual 93, 3) := by decide +kernel
theorem d_P_leak_89 : decode b_P_leak 89 = .ok (.ireturn, 1) := by decide +kernel
theorem d_P_shut_0 : decode b_P_shut 0 = .ok (.aload_n 0, 1) := by decide +kernel
theorem d_P_shut_1 : decode b_P_shut 1 = .ok (.iload_n 1, 1) := by decide +kernel
theorem d_P_shut_2 : decode b_P_shut 2 = .ok (.invokevirtual 97, 3) := by decide +kernel
theorem d_P_shut_5 : decode b_P_shut 5 = .ok (.invokestatic 56, 3) := by decide +kernel
theorem d_P_shut_8 : decode b_P_shut 8 = .ok (.iconst 1, 1) := by decide +kernel
theorem d_P_shut_9 : decode b_P_shut 9 = .ok (.iload_n 1, 1) := by decide +kernel
theorem d_P_shut_10 : decode b_P_shut 10 = .ok (.ishl, 1) := by decide +kernel
theorem d_P_shut_11 : decode b_P_shut 11 = .ok (.istore_n 3, 1) := by decide +kernel
theorem d_P_shut_12 : decode b_P_shut 12 = .ok (.aload_n 0, 1) := by decide +kernel
theorem d_P_shut_13 : decode b_P_shut 13 = .ok (.getfield 35, 3) := by decide +kernel
theorem d_P_shut_16 : decode b_P_shut 16 = .ok (.getfield 100, 3) := by decide +kernel
theorem d_P_shut_19 : decode b_P_shut 19 = .ok (.iload_n 3, 1) := by decide +kernel
theorem d_P_shut_20 : decode b_P_shut 20 = .ok (.iand, 1) := by decide +kernel
theorem d_P_shut_21 : decode b_P_shut 21 = .ok (.ifCond .eq 7, 3) := by decide +kernel
theorem d_P_shut_24 : decode b_P_shut 24 = .ok (.iconst 1, 1) := by decide +kernel
theorem d_P_shut_25 : decode b_P_shut 25 = .ok (.goto 4, 3) := by decide +kernel
theorem d_P_shut_28 : decode b_P_shut 28 = .ok (.iconst 0, 1) := by decide +kernel
theorem d_P_shut_29 : decode b_P_shut 29 = .ok (.istore 4, 2) := by decide +kernel
theorem d_P_shut_31 : decode b_P_shut 31 = .ok (.iload 4, 2) := by decide +kernel
theorem d_P_shut_33 : decode b_P_shut 33 = .ok (.iload_n 2, 1) := by decide +kernel
theorem d_P_shut_34 : decode b_P_shut 34 = .ok (.if_icmp .eq 24, 3) := by decide +kernel
theorem d_P_shut_37 : decode b_P_shut 37 = .ok (.aload_n 0, 1) := by decide +kernel
theorem d_P_shut_38 : decode b_P_shut 38 = .ok (.getfield 35, 3) := by decide +kernel
theorem d_P_shut_41 : decode b_P_shut 41 = .ok (.dup, 1) := by decide +kernel
theorem d_P_shut_42 : decode b_P_shut 42 = .ok (.getfield 100, 3) := by decide +kernel
theorem d_P_shut_45 : decode b_P_shut 45 = .ok (.iload_n 3, 1) := by decide +kernel
theorem d_P_shut_46 : decode b_P_shut 46 = .ok (.ixor, 1) := by decide +kernel
theorem d_P_shut_47 : decode b_P_shut 47 = .ok (.putfield 100, 3) := by decide +kernel
theorem d_P_shut_50 : decode b_P_shut 50 = .ok (.aload_n 0, 1) := by decide +kernel
theorem d_P_shut_51 : decode b_P_shut 51 = .ok (.getfield 35, 3) := by decide +kernel
theorem d_P_shut_54 : decode b_P_shut 54 = .ok (.iconst (-1), 1) := by decide +kernel
theorem d_P_shut_55 : decode b_P_shut 55 = .ok (.putfield 103, 3) := by decide +kernel
theorem d_P_shut_58 : decode b_P_shut 58 = .ok (.iload 4, 2) := by decide +kernel
theorem d_P_shut_60 : decode b_P_shut 60 = .ok (.ireturn, 1) := by decide +kernel
theorem d_P_fan_0 : decode b_P_fan 0 = .ok (.aload_n 0, 1) := by decide +kernel
theorem d_P_fan_1 : decode b_P_fan 1 = .ok (.iload_n 1, 1) := by decide +kernel
theorem d_P_fan_2 : decode b_P_fan 2 = .ok (.iload_n 2, 1) := by decide +kernel
theorem d_P_fan_3 : decode b_P_fan 3 = .ok (.invokevirtual 86, 3) := by decide +kernel
theorem d_P_fan_6 : decode b_P_fan 6 = .ok (.ifCond .eq 29, 3) := by decide +kernel
theorem d_P_fan_9 : decode b_P_fan 9 = .ok (.iload_n 3, 1) := by decide +kernel
theorem d_P_fan_10 : decode b_P_fan 10 = .ok (.iconst 0, 1) := by decide +kernel
theorem d_P_fan_11 : decode b_P_fan 11 = .ok (.sipush 10000, 3) := by decide +kernel
theorem d_P_fan_14 : decode b_P_fan 14 = .ok (.invokestatic 52, 3) := by decide +kernel
theorem d_P_fan_17 : decode b_P_fan 17 = .ok (.ifCond .eq 18, 3) := by decide +kernel
theorem d_P_fan_20 : decode b_P_fan 20 = .ok (.iload 4, 2) := by decide +kernel
theorem d_P_fan_22 : decode b_P_fan 22 = .ok (.iconst 0, 1) := by decide +kernel
theorem d_P_fan_23 : decode b_P_fan 23 = .ok (.bipush 100, 2) := by decide +kernel
theorem d_P_fan_25 : decode b_P_fan 25 = .ok (.invokestatic 52, 3) := by decide +kernel
theorem d_P_fan_28 : decode b_P_fan 28 = .ok (.ifCond .eq 7, 3) := by decide +kernel
theorem d_P_fan_31 : decode b_P_fan 31 = .ok (.iconst 1, 1) := by decide +kernel
theorem d_P_fan_32 : decode b_P_fan 32 = .ok (.goto 4, 3) := by decide +kernel
theorem d_P_fan_35 : decode b_P_fan 35 = .ok (.iconst 0, 1) := by decide +kernel
theorem d_P_fan_36 : decode b_P_fan 36 = .ok (.invokestatic 56, 3) := by decide +kernel
theorem d_P_fan_39 : decode b_P_fan 39 = .ok (.aload_n 0, 1) := by decide +kernel
theorem d_P_fan_40 : decode b_P_fan 40 = .ok (.getfield 12, 3) := by decide +kernel
theorem d_P_fan_43 : decode b_P_fan 43 = .ok (.getfield 106, 3) := by decide +kernel
theorem d_P_fan_46 : decode b_P_fan 46 = .ok (.iconst 4, 1) := by decide +kernel
theorem d_P_fan_47 : decode b_P_fan 47 = .ok (.if_icmp .ge 7, 3) := by decide +kernel
theorem d_P_fan_50 : decode b_P_fan 50 = .ok (.iconst 1, 1) := by decide +kernel
theorem d_P_fan_51 : decode b_P_fan 51 = .ok (.goto 4, 3) := by decide +kernel
theorem d_P_fan_54 : decode b_P_fan 54 = .ok (.iconst 0, 1) := by decide +kernel
theorem d_P_fan_55 : decode b_P_fan 55 = .ok (.invokestatic 63, 3) := by decide +kernel
theorem d_P_fan_58 : decode b_P_fan 58 = .ok (.aload_n 0, 1) := by decide +kernel
theorem d_P_fan_59 : decode b_P_fan 59 = .ok (.getfield 12, 3) := by decide +kernel
theorem d_P_fan_62 : decode b_P_fan 62 = .ok (.iload_n 1, 1) := by decide +kernel
theorem d_P_fan_63 : decode b_P_fan 63 = .ok (.invokestatic 73, 3) := by decide +kernel
theorem d_P_fan_66 : decode b_P_fan 66 = .ok (.iload_n 2, 1) := by decide +kernel
theorem d_P_fan_67 : decode b_P_fan 67 = .ok (.invokestatic 73, 3) := by decide +kernel
theorem d_P_fan_70 : decode b_P_fan 70 = .ok (.iload_n 3, 1) := by decide +kernel
theorem d_P_fan_71 : decode b_P_fan 71 = .ok (.iload 4, 2) := by decide +kernel
theorem d_P_fan_73 : decode b_P_fan 73 = .ok (.invokevirtual 109, 3) := by decide +kernel
theorem d_P_fan_76 : decode b_P_fan 76 = .ok (.ireturn, 1) := by decide +kernel
theorem d_P_pressure_0 : decode b_P_pressure 0 = .ok (.aload_n 0, 1) := by decide +kernel
theorem d_P_pressure_1 : decode b_P_pressure 1 = .ok (.iload_n 1, 1) := by decide +kernel
theorem d_P_pressure_2 : decode b_P_pressure 2 = .ok (.invokevirtual 80, 3) := by decide +kernel
theorem d_P_pressure_5 : decode b_P_pressure 5 = .ok (.invokestatic 56, 3) := by decide +kernel
theorem d_P_pressure_8 : decode b_P_pressure 8 = .ok (.iload_n 1, 1) := by decide +kernel
theorem d_P_pressure_9 : decode b_P_pressure 9 = .ok (.invokestatic 70, 3) := by decide +kernel
theorem d_P_pressure_12 : decode b_P_pressure 12 = .ok (.ifCond .eq 16, 3) := by decide +kernel
theorem d_P_pressure_15 : decode b_P_pressure 15 = .ok (.aload_n 0, 1) := by decide +kernel
theorem d_P_pressure_16 : decode b_P_pressure 16 = .ok (.getfield 12, 3) := by decide +kernel
theorem d_P_pressure_19 : decode b_P_pressure 19 = .ok (.getfield 113, 3) := by decide +kernel
theorem d_P_pressure_22 : decode b_P_pressure 22 = .ok (.iload_n 1, 1) := by decide +kernel
theorem d_P_pressure_23 : decode b_P_pressure 23 = .ok (.invokestatic 73, 3) := by decide +kernel
theorem d_P_pressure_26 : decode b_P_pressure 26 = .ok (.iaload, 1) := by decide +kernel
theorem d_P_pressure_27 : decode b_P_pressure 27 = .ok (.ireturn, 1) := by decide +kernel
theorem d_P_pressure_28 : decode b_P_pressure 28 = .ok (.aload_n 0, 1) := by decide +kernel
theorem d_P_pressure_29 : decode b_P_pressure 29 = .ok (.getfield 21, 3) := by decide +kernel
theorem d_P_pressure_32 : decode b_P_pressure 32 = .ok (.aload_n 0, 1) := by decide +kernel
theorem d_P_pressure_33 : decode b_P_pressure 33 = .ok (.getfield 35, 3) := by decide +kernel
theorem d_P_pressure_36 : decode b_P_pressure 36 = .ok (.invokevirtual 117, 3) := by decide +kernel
theorem d_P_pressure_39 : decode b_P_pressure 39 = .ok (.ifCond .eq 18, 3) := by decide +kernel
theorem d_P_pressure_42 : decode b_P_pressure 42 = .ok (.aload_n 0, 1) := by decide +kernel
theorem d_P_pressure_43 : decode b_P_pressure 43 = .ok (.getfield 35, 3) := by decide +kernel
theorem d_P_pressure_46 : decode b_P_pressure 46 = .ok (.getfield 121, 3) := by decide +kernel
theorem d_P_pressure_49 : decode b_P_pressure 49 = .ok (.iload_n 1, 1) := by decide +kernel
theorem d_P_pressure_50 : decode b_P_pressure 50 = .ok (.invokestatic 73, 3) := by decide +kernel
theorem d_P_pressure_53 : decode b_P_pressure 53 = .ok (.iaload, 1) := by decide +kernel
theorem d_P_pressure_54 : decode b_P_pressure 54 = .ok (.goto 5, 3) := by decide +kernel
theorem d_P_pressure_57 : decode b_P_pressure 57 = .ok (.ldc 124, 2) := by decide +kernel
theorem d_P_pressure_59 : decode b_P_pressure 59 = .ok (.ireturn, 1) := by decide +kernel
theorem d_P_told_0 : decode b_P_told 0 = .ok (.aload_n 0, 1) := by decide +kernel
theorem d_P_told_1 : decode b_P_told 1 = .ok (.iload_n 1, 1) := by decide +kernel
theorem d_P_told_2 : decode b_P_told 2 = .ok (.invokevirtual 97, 3) := by decide +kernel
theorem d_P_told_5 : decode b_P_told 5 = .ok (.ifCond .eq 16, 3) := by decide +kernel
theorem d_P_told_8 : decode b_P_told 8 = .ok (.iload_n 2, 1) := by decide +kernel
theorem d_P_told_9 : decode b_P_told 9 = .ok (.iconst 0, 1) := by decide +kernel
theorem d_P_told_10 : decode b_P_told 10 = .ok (.iconst 1, 1) := by decide +kernel
theorem d_P_told_11 : decode b_P_told 11 = .ok (.invokestatic 52, 3) := by decide +kernel
theorem d_P_told_14 : decode b_P_told 14 = .ok (.ifCond .eq 7, 3) := by decide +kernel
theorem d_P_told_17 : decode b_P_told 17 = .ok (.iconst 1, 1) := by decide +kernel
theorem d_P_told_18 : decode b_P_told 18 = .ok (.goto 4, 3) := by decide +kernel
theorem d_P_told_21 : decode b_P_told 21 = .ok (.iconst 0, 1) := by decide +kernel
theorem d_P_told_22 : decode b_P_told 22 = .ok (.invokestatic 56, 3) := by decide +kernel
theorem d_P_told_25 : decode b_P_told 25 = .ok (.aload_n 0, 1) := by decide +kernel
theorem d_P_told_26 : decode b_P_told 26 = .ok (.getfield 21, 3) := by decide +kernel
theorem d_P_told_29 : decode b_P_told 29 = .ok (.aload_n 0, 1) := by decide +kernel
theorem d_P_told_30 : decode b_P_told 30 = .ok (.getfield 35, 3) := by decide +kernel
theorem d_P_told_33 : decode b_P_told 33 = .ok (.invokevirtual 117, 3) := by decide +kernel
theorem d_P_told_36 : decode b_P_told 36 = .ok (.ifCond .ne 6, 3) := by decide +kernel
theorem d_P_told_39 : decode b_P_told 39 = .ok (.ldc 124, 2) := by decide +kernel
theorem d_P_told_41 : decode b_P_told 41 = .ok (.ireturn, 1) := by decide +kernel
theorem d_P_told_42 : decode b_P_told 42 = .ok (.iload_n 2, 1) := by decide +kernel
theorem d_P_told_43 : decode b_P_told 43 = .ok (.ifCond .ne 21, 3) := by decide +kernel
theorem d_P_told_46 : decode b_P_told 46 = .ok (.aload_n 0, 1) := by decide +kernel
theorem d_P_told_47 : decode b_P_told 47 = .ok (.getfield 12, 3) := by decide +kernel
theorem d_P_told_50 : decode b_P_told 50 = .ok (.iload_n 1, 1) := by decide +kernel
theorem d_P_told_51 : decode b_P_told 51 = .ok (.aload_n 0, 1) := by decide +kernel
theorem d_P_told_52 : decode b_P_told 52 = .ok (.getfield 35, 3) := by decide +kernel
theorem d_P_told_55 : decode b_P_told 55 = .ok (.getfield 121, 3) := by decide +kernel
theorem d_P_told_58 : decode b_P_told 58 = .ok (.invokevirtual 125, 3) := by decide +kernel
theorem d_P_told_61 : decode b_P_told 61 = .ok (.goto 15, 3) := by decide +kernel
theorem d_P_told_64 : decode b_P_told 64 = .ok (.aload_n 0, 1) := by decide +kernel
theorem d_P_told_65 : decode b_P_told 65 = .ok (.getfield 12, 3) := by decide +kernel
theorem d_P_told_68 : decode b_P_told 68 = .ok (.iload_n 1, 1) := by decide +kernel
theorem d_P_told_69 : decode b_P_told 69 = .ok (.aload_n 0, 1) := by decide +kernel
theorem d_P_told_70 : decode b_P_told 70 = .ok (.getfield 35, 3) := by decide +kernel
theorem d_P_told_73 : decode b_P_told 73 = .ok (.invokevirtual 129, 3) := by decide +kernel
theorem d_P_told_76 : decode b_P_told 76 = .ok (.ireturn, 1) := by decide +kernel
theorem d_P_blows_0 : decode b_P_blows 0 = .ok (.iload_n 1, 1) := by decide +kernel
theorem d_P_blows_1 : decode b_P_blows 1 = .ok (.iconst 0, 1) := by decide +kernel
theorem d_P_blows_2 : decode b_P_blows 2 = .ok (.aload_n 0, 1) := by decide +kernel
theorem d_P_blows_3 : decode b_P_blows 3 = .ok (.getfield 12, 3) := by decide +kernel
theorem d_P_blows_6 : decode b_P_blows 6 = .ok (.getfield 106, 3) := by decide +kernel
end
section
theorem d_P_blows_9 : decode b_P_blows 9 = .ok (.iconst 1, 1) := by decide +kernel
theorem d_P_blows_10 : decode b_P_blows 10 = .ok (.isub, 1) := by decide +kernel
theorem d_P_blows_11 : decode b_P_blows 11 = .ok (.invokestatic 52, 3) := by decide +kernel
theorem d_P_blows_14 : decode b_P_blows 14 = .ok (.invokestatic 56, 3) := by decide +kernel
theorem d_P_blows_17 : decode b_P_blows 17 = .ok (.aload_n 0, 1) := by decide +kernel
theorem d_P_blows_18 : decode b_P_blows 18 = .ok (.getfield 21, 3) := by decide +kernel
theorem d_P_blows_21 : decode b_P_blows 21 = .ok (.aload_n 0, 1) := by decide +kernel
theorem d_P_blows_22 : decode b_P_blows 22 = .ok (.getfield 35, 3) := by decide +kernel
theorem d_P_blows_25 : decode b_P_blows 25 = .ok (.invokevirtual 117, 3) := by decide +kernel
theorem d_P_blows_28 : decode b_P_blows 28 = .ok (.ifCond .eq 21, 3) := by decide +kernel
theorem d_P_blows_31 : decode b_P_blows 31 = .ok (.aload_n 0, 1) := by decide +kernel
theorem d_P_blows_32 : decode b_P_blows 32 = .ok (.getfield 12, 3) := by decide +kernel
theorem d_P_blows_35 : decode b_P_blows 35 = .ok (.iload_n 1, 1) := by decide +kernel
theorem d_P_blows_36 : decode b_P_blows 36 = .ok (.invokestatic 133, 3) := by decide +kernel
theorem d_P_blows_39 : decode b_P_blows 39 = .ok (.aload_n 0, 1) := by decide +kernel
theorem d_P_blows_40 : decode b_P_blows 40 = .ok (.getfield 35, 3) := by decide +kernel
theorem d_P_blows_43 : decode b_P_blows 43 = .ok (.invokevirtual 129, 3) := by decide +kernel
theorem d_P_blows_46 : decode b_P_blows 46 = .ok (.goto 5, 3) := by decide +kernel
theorem d_P_blows_49 : decode b_P_blows 49 = .ok (.ldc 124, 2) := by decide +kernel
theorem d_P_blows_51 : decode b_P_blows 51 = .ok (.ireturn, 1) := by decide +kernel
theorem d_P_gain_0 : decode b_P_gain 0 = .ok (.aload_n 0, 1) := by decide +kernel
theorem d_P_gain_1 : decode b_P_gain 1 = .ok (.iload_n 1, 1) := by decide +kernel
theorem d_P_gain_2 : decode b_P_gain 2 = .ok (.invokevirtual 136, 3) := by decide +kernel
theorem d_P_gain_5 : decode b_P_gain 5 = .ok (.invokestatic 56, 3) := by decide +kernel
theorem d_P_gain_8 : decode b_P_gain 8 = .ok (.aload_n 0, 1) := by decide +kernel
theorem d_P_gain_9 : decode b_P_gain 9 = .ok (.getfield 21, 3) := by decide +kernel
theorem d_P_gain_12 : decode b_P_gain 12 = .ok (.aload_n 0, 1) := by decide +kernel
theorem d_P_gain_13 : decode b_P_gain 13 = .ok (.getfield 35, 3) := by decide +kernel
theorem d_P_gain_16 : decode b_P_gain 16 = .ok (.invokevirtual 117, 3) := by decide +kernel
theorem d_P_gain_19 : decode b_P_gain 19 = .ok (.ifCond .eq 18, 3) := by decide +kernel
theorem d_P_gain_22 : decode b_P_gain 22 = .ok (.aload_n 0, 1) := by decide +kernel
theorem d_P_gain_23 : decode b_P_gain 23 = .ok (.getfield 12, 3) := by decide +kernel
theorem d_P_gain_26 : decode b_P_gain 26 = .ok (.iload_n 1, 1) := by decide +kernel
theorem d_P_gain_27 : decode b_P_gain 27 = .ok (.aload_n 0, 1) := by decide +kernel
theorem d_P_gain_28 : decode b_P_gain 28 = .ok (.getfield 35, 3) := by decide +kernel
theorem d_P_gain_31 : decode b_P_gain 31 = .ok (.invokevirtual 139, 3) := by decide +kernel
theorem d_P_gain_34 : decode b_P_gain 34 = .ok (.goto 5, 3) := by decide +kernel
theorem d_P_gain_37 : decode b_P_gain 37 = .ok (.ldc 124, 2) := by decide +kernel
theorem d_P_gain_39 : decode b_P_gain 39 = .ok (.ireturn, 1) := by decide +kernel
theorem d_P_caseOf_0 : decode b_P_caseOf 0 = .ok (.iload_n 1, 1) := by decide +kernel
theorem d_P_caseOf_1 : decode b_P_caseOf 1 = .ok (.aload_n 0, 1) := by decide +kernel
theorem d_P_caseOf_2 : decode b_P_caseOf 2 = .ok (.getfield 12, 3) := by decide +kernel
theorem d_P_caseOf_5 : decode b_P_caseOf 5 = .ok (.getfield 90, 3) := by decide +kernel
theorem d_P_caseOf_8 : decode b_P_caseOf 8 = .ok (.iushr, 1) := by decide +kernel
theorem d_P_caseOf_9 : decode b_P_caseOf 9 = .ok (.ifCond .ne 7, 3) := by decide +kernel
theorem d_P_caseOf_12 : decode b_P_caseOf 12 = .ok (.iconst 1, 1) := by decide +kernel
theorem d_P_caseOf_13 : decode b_P_caseOf 13 = .ok (.goto 4, 3) := by decide +kernel
theorem d_P_caseOf_16 : decode b_P_caseOf 16 = .ok (.iconst 0, 1) := by decide +kernel
theorem d_P_caseOf_17 : decode b_P_caseOf 17 = .ok (.invokestatic 56, 3) := by decide +kernel
theorem d_P_caseOf_20 : decode b_P_caseOf 20 = .ok (.aload_n 0, 1) := by decide +kernel
theorem d_P_caseOf_21 : decode b_P_caseOf 21 = .ok (.getfield 43, 3) := by decide +kernel
theorem d_P_caseOf_24 : decode b_P_caseOf 24 = .ok (.bipush 8, 2) := by decide +kernel
theorem d_P_caseOf_26 : decode b_P_caseOf 26 = .ok (.if_icmp .ge 7, 3) := by decide +kernel
theorem d_P_caseOf_29 : decode b_P_caseOf 29 = .ok (.iconst 1, 1) := by decide +kernel
theorem d_P_caseOf_30 : decode b_P_caseOf 30 = .ok (.goto 4, 3) := by decide +kernel
theorem d_P_caseOf_33 : decode b_P_caseOf 33 = .ok (.iconst 0, 1) := by decide +kernel
theorem d_P_caseOf_34 : decode b_P_caseOf 34 = .ok (.invokestatic 63, 3) := by decide +kernel
theorem d_P_caseOf_37 : decode b_P_caseOf 37 = .ok (.aload_n 0, 1) := by decide +kernel
theorem d_P_caseOf_38 : decode b_P_caseOf 38 = .ok (.getfield 43, 3) := by decide +kernel
theorem d_P_caseOf_41 : decode b_P_caseOf 41 = .ok (.istore_n 2, 1) := by decide +kernel
theorem d_P_caseOf_42 : decode b_P_caseOf 42 = .ok (.aload_n 0, 1) := by decide +kernel
theorem d_P_caseOf_43 : decode b_P_caseOf 43 = .ok (.getfield 39, 3) := by decide +kernel
theorem d_P_caseOf_46 : decode b_P_caseOf 46 = .ok (.iload_n 2, 1) := by decide +kernel
theorem d_P_caseOf_47 : decode b_P_caseOf 47 = .ok (.aaload, 1) := by decide +kernel
theorem d_P_caseOf_48 : decode b_P_caseOf 48 = .ok (.iload_n 1, 1) := by decide +kernel
theorem d_P_caseOf_49 : decode b_P_caseOf 49 = .ok (.putfield 100, 3) := by decide +kernel
theorem d_P_caseOf_52 : decode b_P_caseOf 52 = .ok (.aload_n 0, 1) := by decide +kernel
theorem d_P_caseOf_53 : decode b_P_caseOf 53 = .ok (.dup, 1) := by decide +kernel
theorem d_P_caseOf_54 : decode b_P_caseOf 54 = .ok (.getfield 43, 3) := by decide +kernel
theorem d_P_caseOf_57 : decode b_P_caseOf 57 = .ok (.iconst 1, 1) := by decide +kernel
theorem d_P_caseOf_58 : decode b_P_caseOf 58 = .ok (.iadd, 1) := by decide +kernel
theorem d_P_caseOf_59 : decode b_P_caseOf 59 = .ok (.putfield 43, 3) := by decide +kernel
theorem d_P_caseOf_62 : decode b_P_caseOf 62 = .ok (.iload_n 2, 1) := by decide +kernel
theorem d_P_caseOf_63 : decode b_P_caseOf 63 = .ok (.ireturn, 1) := by decide +kernel
theorem d_P_worst_0 : decode b_P_worst 0 = .ok (.aload_n 0, 1) := by decide +kernel
theorem d_P_worst_1 : decode b_P_worst 1 = .ok (.iload_n 1, 1) := by decide +kernel
theorem d_P_worst_2 : decode b_P_worst 2 = .ok (.invokevirtual 97, 3) := by decide +kernel
theorem d_P_worst_5 : decode b_P_worst 5 = .ok (.ifCond .eq 16, 3) := by decide +kernel
theorem d_P_worst_8 : decode b_P_worst 8 = .ok (.iload_n 2, 1) := by decide +kernel
theorem d_P_worst_9 : decode b_P_worst 9 = .ok (.iconst 0, 1) := by decide +kernel
theorem d_P_worst_10 : decode b_P_worst 10 = .ok (.iconst 3, 1) := by decide +kernel
theorem d_P_worst_11 : decode b_P_worst 11 = .ok (.invokestatic 52, 3) := by decide +kernel
theorem d_P_worst_14 : decode b_P_worst 14 = .ok (.ifCond .eq 7, 3) := by decide +kernel
theorem d_P_worst_17 : decode b_P_worst 17 = .ok (.iconst 1, 1) := by decide +kernel
theorem d_P_worst_18 : decode b_P_worst 18 = .ok (.goto 4, 3) := by decide +kernel
theorem d_P_worst_21 : decode b_P_worst 21 = .ok (.iconst 0, 1) := by decide +kernel
theorem d_P_worst_22 : decode b_P_worst 22 = .ok (.invokestatic 56, 3) := by decide +kernel
theorem d_P_worst_25 : decode b_P_worst 25 = .ok (.iload_n 2, 1) := by decide +kernel
theorem d_P_worst_26 : decode b_P_worst 26 = .ok (.iconst 1, 1) := by decide +kernel
theorem d_P_worst_27 : decode b_P_worst 27 = .ok (.if_icmp .eq 8, 3) := by decide +kernel
theorem d_P_worst_30 : decode b_P_worst 30 = .ok (.iload_n 2, 1) := by decide +kernel
theorem d_P_worst_31 : decode b_P_worst 31 = .ok (.iconst 3, 1) := by decide +kernel
theorem d_P_worst_32 : decode b_P_worst 32 = .ok (.if_icmp .ne 7, 3) := by decide +kernel
theorem d_P_worst_35 : decode b_P_worst 35 = .ok (.iconst 1, 1) := by decide +kernel
theorem d_P_worst_36 : decode b_P_worst 36 = .ok (.goto 4, 3) := by decide +kernel
theorem d_P_worst_39 : decode b_P_worst 39 = .ok (.iconst 0, 1) := by decide +kernel
theorem d_P_worst_40 : decode b_P_worst 40 = .ok (.istore_n 3, 1) := by decide +kernel
theorem d_P_worst_41 : decode b_P_worst 41 = .ok (.ldc 124, 2) := by decide +kernel
theorem d_P_worst_43 : decode b_P_worst 43 = .ok (.istore 4, 2) := by decide +kernel
theorem d_P_worst_45 : decode b_P_worst 45 = .ok (.ldc 124, 2) := by decide +kernel
theorem d_P_worst_47 : decode b_P_worst 47 = .ok (.istore 5, 2) := by decide +kernel
theorem d_P_worst_49 : decode b_P_worst 49 = .ok (.iconst 0, 1) := by decide +kernel
theorem d_P_worst_50 : decode b_P_worst 50 = .ok (.istore 6, 2) := by decide +kernel
theorem d_P_worst_52 : decode b_P_worst 52 = .ok (.iload 6, 2) := by decide +kernel
theorem d_P_worst_54 : decode b_P_worst 54 = .ok (.aload_n 0, 1) := by decide +kernel
theorem d_P_worst_55 : decode b_P_worst 55 = .ok (.getfield 43, 3) := by decide +kernel
theorem d_P_worst_58 : decode b_P_worst 58 = .ok (.if_icmp .ge 102, 3) := by decide +kernel
theorem d_P_worst_61 : decode b_P_worst 61 = .ok (.aload_n 0, 1) := by decide +kernel
theorem d_P_worst_62 : decode b_P_worst 62 = .ok (.getfield 21, 3) := by decide +kernel
theorem d_P_worst_65 : decode b_P_worst 65 = .ok (.aload_n 0, 1) := by decide +kernel
theorem d_P_worst_66 : decode b_P_worst 66 = .ok (.getfield 39, 3) := by decide +kernel
theorem d_P_worst_69 : decode b_P_worst 69 = .ok (.iload 6, 2) := by decide +kernel
theorem d_P_worst_71 : decode b_P_worst 71 = .ok (.aaload, 1) := by decide +kernel
theorem d_P_worst_72 : decode b_P_worst 72 = .ok (.invokevirtual 117, 3) := by decide +kernel
theorem d_P_worst_75 : decode b_P_worst 75 = .ok (.ifCond .ne 6, 3) := by decide +kernel
theorem d_P_worst_78 : decode b_P_worst 78 = .ok (.ldc 124, 2) := by decide +kernel
theorem d_P_worst_80 : decode b_P_worst 80 = .ok (.ireturn, 1) := by decide +kernel
theorem d_P_worst_81 : decode b_P_worst 81 = .ok (.aload_n 0, 1) := by decide +kernel
theorem d_P_worst_82 : decode b_P_worst 82 = .ok (.getfield 12, 3) := by decide +kernel
theorem d_P_worst_85 : decode b_P_worst 85 = .ok (.iload_n 1, 1) := by decide +kernel
theorem d_P_worst_86 : decode b_P_worst 86 = .ok (.aload_n 0, 1) := by decide +kernel
theorem d_P_worst_87 : decode b_P_worst 87 = .ok (.getfield 39, 3) := by decide +kernel
theorem d_P_worst_90 : decode b_P_worst 90 = .ok (.iload 6, 2) := by decide +kernel
theorem d_P_worst_92 : decode b_P_worst 92 = .ok (.aaload, 1) := by decide +kernel
theorem d_P_worst_93 : decode b_P_worst 93 = .ok (.getfield 121, 3) := by decide +kernel
theorem d_P_worst_96 : decode b_P_worst 96 = .ok (.invokevirtual 125, 3) := by decide +kernel
theorem d_P_worst_99 : decode b_P_worst 99 = .ok (.istore 7, 2) := by decide +kernel
theorem d_P_worst_101 : decode b_P_worst 101 = .ok (.iload_n 3, 1) := by decide +kernel
theorem d_P_worst_102 : decode b_P_worst 102 = .ok (.ifCond .eq 18, 3) := by decide +kernel
theorem d_P_worst_105 : decode b_P_worst 105 = .ok (.iload 7, 2) := by decide +kernel
theorem d_P_worst_107 : decode b_P_worst 107 = .ok (.iload 5, 2) := by decide +kernel
theorem d_P_worst_109 : decode b_P_worst 109 = .ok (.if_icmp .le 7, 3) := by decide +kernel
theorem d_P_worst_112 : decode b_P_worst 112 = .ok (.iconst 1, 1) := by decide +kernel
theorem d_P_worst_113 : decode b_P_worst 113 = .ok (.goto 19, 3) := by decide +kernel
theorem d_P_worst_116 : decode b_P_worst 116 = .ok (.iconst 0, 1) := by decide +kernel
theorem d_P_worst_117 : decode b_P_worst 117 = .ok (.goto 15, 3) := by decide +kernel
theorem d_P_worst_120 : decode b_P_worst 120 = .ok (.iload 7, 2) := by decide +kernel
theorem d_P_worst_122 : decode b_P_worst 122 = .ok (.iload 5, 2) := by decide +kernel
theorem d_P_worst_124 : decode b_P_worst 124 = .ok (.if_icmp .ge 7, 3) := by decide +kernel
theorem d_P_worst_127 : decode b_P_worst 127 = .ok (.iconst 1, 1) := by decide +kernel
theorem d_P_worst_128 : decode b_P_worst 128 = .ok (.goto 4, 3) := by decide +kernel
theorem d_P_worst_131 : decode b_P_worst 131 = .ok (.iconst 0, 1) := by decide +kernel
theorem d_P_worst_132 : decode b_P_worst 132 = .ok (.istore 8, 2) := by decide +kernel
theorem d_P_worst_134 : decode b_P_worst 134 = .ok (.iload 4, 2) := by decide +kernel
theorem d_P_worst_136 : decode b_P_worst 136 = .ok (.ldc 124, 2) := by decide +kernel
theorem d_P_worst_138 : decode b_P_worst 138 = .ok (.if_icmp .eq 8, 3) := by decide +kernel
theorem d_P_worst_141 : decode b_P_worst 141 = .ok (.iload 8, 2) := by decide +kernel
theorem d_P_worst_143 : decode b_P_worst 143 = .ok (.ifCond .eq 11, 3) := by decide +kernel
theorem d_P_worst_146 : decode b_P_worst 146 = .ok (.iload 6, 2) := by decide +kernel
theorem d_P_worst_148 : decode b_P_worst 148 = .ok (.istore 4, 2) := by decide +kernel
theorem d_P_worst_150 : decode b_P_worst 150 = .ok (.iload 7, 2) := by decide +kernel
theorem d_P_worst_152 : decode b_P_worst 152 = .ok (.istore 5, 2) := by decide +kernel
theorem d_P_worst_154 : decode b_P_worst 154 = .ok (.iinc 6 1, 3) := by decide +kernel
theorem d_P_worst_157 : decode b_P_worst 157 = .ok (.goto (-105), 3) := by decide +kernel
theorem d_P_worst_160 : decode b_P_worst 160 = .ok (.iload_n 2, 1) := by decide +kernel
theorem d_P_worst_161 : decode b_P_worst 161 = .ok (.iconst 2, 1) := by decide +kernel
theorem d_P_worst_162 : decode b_P_worst 162 = .ok (.if_icmp .eq 8, 3) := by decide +kernel
theorem d_P_worst_165 : decode b_P_worst 165 = .ok (.iload_n 2, 1) := by decide +kernel
theorem d_P_worst_166 : decode b_P_worst 166 = .ok (.iconst 3, 1) := by decide +kernel
theorem d_P_worst_167 : decode b_P_worst 167 = .ok (.if_icmp .ne 8, 3) := by decide +kernel
theorem d_P_worst_170 : decode b_P_worst 170 = .ok (.iload 4, 2) := by decide +kernel
theorem d_P_worst_172 : decode b_P_worst 172 = .ok (.goto 5, 3) := by decide +kernel
theorem d_P_worst_175 : decode b_P_worst 175 = .ok (.iload 5, 2) := by decide +kernel
theorem d_P_worst_177 : decode b_P_worst 177 = .ok (.ireturn, 1) := by decide +kernel
theorem d_P_put_0 : decode b_P_put 0 = .ok (.aload_n 0, 1) := by decide +kernel
theorem d_P_put_1 : decode b_P_put 1 = .ok (.iload_n 1, 1) := by decide +kernel
theorem d_P_put_2 : decode b_P_put 2 = .ok (.invokevirtual 136, 3) := by decide +kernel
theorem d_P_put_5 : decode b_P_put 5 = .ok (.ifCond .eq 18, 3) := by decide +kernel
theorem d_P_put_8 : decode b_P_put 8 = .ok (.iload_n 2, 1) := by decide +kernel
theorem d_P_put_9 : decode b_P_put 9 = .ok (.ldc 142, 2) := by decide +kernel
theorem d_P_put_11 : decode b_P_put 11 = .ok (.ldc 143, 2) := by decide +kernel
theorem d_P_put_13 : decode b_P_put 13 = .ok (.invokestatic 52, 3) := by decide +kernel
theorem d_P_put_16 : decode b_P_put 16 = .ok (.ifCond .eq 7, 3) := by decide +kernel
theorem d_P_put_19 : decode b_P_put 19 = .ok (.iconst 1, 1) := by decide +kernel
theorem d_P_put_20 : decode b_P_put 20 = .ok (.goto 4, 3) := by decide +kernel
theorem d_P_put_23 : decode b_P_put 23 = .ok (.iconst 0, 1) := by decide +kernel
theorem d_P_put_24 : decode b_P_put 24 = .ok (.invokestatic 56, 3) := by decide +kernel
theorem d_P_put_27 : decode b_P_put 27 = .ok (.aload_n 0, 1) := by decide +kernel
theorem d_P_put_28 : decode b_P_put 28 = .ok (.getfield 28, 3) := by decide +kernel
theorem d_P_put_31 : decode b_P_put 31 = .ok (.getfield 144, 3) := by decide +kernel
theorem d_P_put_34 : decode b_P_put 34 = .ok (.iload_n 1, 1) := by decide +kernel
theorem d_P_put_35 : decode b_P_put 35 = .ok (.invokestatic 73, 3) := by decide +kernel
theorem d_P_put_38 : decode b_P_put 38 = .ok (.laload, 1) := by decide +kernel
theorem d_P_put_39 : decode b_P_put 39 = .ok (.iload_n 2, 1) := by decide +kernel
theorem d_P_put_40 : decode b_P_put 40 = .ok (.i2l, 1) := by decide +kernel
theorem d_P_put_41 : decode b_P_put 41 = .ok (.ladd, 1) := by decide +kernel
theorem d_P_put_42 : decode b_P_put 42 = .ok (.lstore_n 3, 1) := by decide +kernel
theorem d_P_put_43 : decode b_P_put 43 = .ok (.lload_n 3, 1) := by decide +kernel
theorem d_P_put_44 : decode b_P_put 44 = .ok (.lconst 0, 1) := by decide +kernel
theorem d_P_put_45 : decode b_P_put 45 = .ok (.lcmp, 1) := by decide +kernel
theorem d_P_put_46 : decode b_P_put 46 = .ok (.ifCond .lt 15, 3) := by decide +kernel
theorem d_P_put_49 : decode b_P_put 49 = .ok (.lload_n 3, 1) := by decide +kernel
theorem d_P_put_50 : decode b_P_put 50 = .ok (.ldc2_w 148, 3) := by decide +kernel
theorem d_P_put_53 : decode b_P_put 53 = .ok (.lcmp, 1) := by decide +kernel
theorem d_P_put_54 : decode b_P_put 54 = .ok (.ifCond .gt 7, 3) := by decide +kernel
theorem d_P_put_57 : decode b_P_put 57 = .ok (.iconst 1, 1) := by decide +kernel
theorem d_P_put_58 : decode b_P_put 58 = .ok (.goto 4, 3) := by decide +kernel
theorem d_P_put_61 : decode b_P_put 61 = .ok (.iconst 0, 1) := by decide +kernel
theorem d_P_put_62 : decode b_P_put 62 = .ok (.invokestatic 56, 3) := by decide +kernel
theorem d_P_put_65 : decode b_P_put 65 = .ok (.aload_n 0, 1) := by decide +kernel
theorem d_P_put_66 : decode b_P_put 66 = .ok (.getfield 28, 3) := by decide +kernel
theorem d_P_put_69 : decode b_P_put 69 = .ok (.getfield 144, 3) := by decide +kernel
theorem d_P_put_72 : decode b_P_put 72 = .ok (.iload_n 1, 1) := by decide +kernel
theorem d_P_put_73 : decode b_P_put 73 = .ok (.invokestatic 73, 3) := by decide +kernel
theorem d_P_put_76 : decode b_P_put 76 = .ok (.lload_n 3, 1) := by decide +kernel
theorem d_P_put_77 : decode b_P_put 77 = .ok (.lastore, 1) := by decide +kernel
theorem d_P_put_78 : decode b_P_put 78 = .ok (.lload_n 3, 1) := by decide +kernel
theorem d_P_put_79 : decode b_P_put 79 = .ok (.l2i, 1) := by decide +kernel
theorem d_P_put_80 : decode b_P_put 80 = .ok (.ireturn, 1) := by decide +kernel
theorem d_P_source_0 : decode b_P_source 0 = .ok (.aload_n 0, 1) := by decide +kernel
theorem d_P_source_1 : decode b_P_source 1 = .ok (.iload_n 1, 1) := by decide +kernel
theorem d_P_source_2 : decode b_P_source 2 = .ok (.invokevirtual 136, 3) := by decide +kernel
theorem d_P_source_5 : decode b_P_source 5 = .ok (.ifCond .eq 17, 3) := by decide +kernel
theorem d_P_source_8 : decode b_P_source 8 = .ok (.iload_n 2, 1) := by decide +kernel
theorem d_P_source_9 : decode b_P_source 9 = .ok (.iconst 0, 1) := by decide +kernel
theorem d_P_source_10 : decode b_P_source 10 = .ok (.ldc 150, 2) := by decide +kernel
theorem d_P_source_12 : decode b_P_source 12 = .ok (.invokestatic 52, 3) := by decide +kernel
theorem d_P_source_15 : decode b_P_source 15 = .ok (.ifCond .eq 7, 3) := by decide +kernel
theorem d_P_source_18 : decode b_P_source 18 = .ok (.iconst 1, 1) := by decide +kernel
theorem d_P_source_19 : decode b_P_source 19 = .ok (.goto 4, 3) := by decide +kernel
theorem d_P_source_22 : decode b_P_source 22 = .ok (.iconst 0, 1) := by decide +kernel
theorem d_P_source_23 : decode b_P_source 23 = .ok (.invokestatic 56, 3) := by decide +kernel
theorem d_P_source_26 : decode b_P_source 26 = .ok (.aload_n 0, 1) := by decide +kernel
theorem d_P_source_27 : decode b_P_source 27 = .ok (.getfield 28, 3) := by decide +kernel
theorem d_P_source_30 : decode b_P_source 30 = .ok (.getfield 151, 3) := by decide +kernel
theorem d_P_source_33 : decode b_P_source 33 = .ok (.iload_n 1, 1) := by decide +kernel
theorem d_P_source_34 : decode b_P_source 34 = .ok (.invokestatic 73, 3) := by decide +kernel
theorem d_P_source_37 : decode b_P_source 37 = .ok (.iaload, 1) := by decide +kernel
theorem d_P_source_38 : decode b_P_source 38 = .ok (.istore_n 3, 1) := by decide +kernel
theorem d_P_source_39 : decode b_P_source 39 = .ok (.aload_n 0, 1) := by decide +kernel
theorem d_P_source_40 : decode b_P_source 40 = .ok (.getfield 28, 3) := by decide +kernel
theorem d_P_source_43 : decode b_P_source 43 = .ok (.getfield 151, 3) := by decide +kernel
theorem d_P_source_46 : decode b_P_source 46 = .ok (.iload_n 1, 1) := by decide +kernel
theorem d_P_source_47 : decode b_P_source 47 = .ok (.invokestatic 73, 3) := by decide +kernel
theorem d_P_source_50 : decode b_P_source 50 = .ok (.iload_n 2, 1) := by decide +kernel
theorem d_P_source_51 : decode b_P_source 51 = .ok (.iastore, 1) := by decide +kernel
theorem d_P_source_52 : decode b_P_source 52 = .ok (.iload_n 3, 1) := by decide +kernel
theorem d_P_source_53 : decode b_P_source 53 = .ok (.ireturn, 1) := by decide +kernel
theorem d_P_steps_0 : decode b_P_steps 0 = .ok (.iload_n 1, 1) := by decide +kernel
theorem d_P_steps_1 : decode b_P_steps 1 = .ok (.iconst 1, 1) := by decide +kernel
theorem d_P_steps_2 : decode b_P_steps 2 = .ok (.sipush 200, 3) := by decide +kernel
theorem d_P_steps_5 : decode b_P_steps 5 = .ok (.invokestatic 52, 3) := by decide +kernel
theorem d_P_steps_8 : decode b_P_steps 8 = .ok (.invokestatic 56, 3) := by decide +kernel
theorem d_P_steps_11 : decode b_P_steps 11 = .ok (.aload_n 0, 1) := by decide +kernel
theorem d_P_steps_12 : decode b_P_steps 12 = .ok (.getfield 21, 3) := by decide +kernel
theorem d_P_steps_15 : decode b_P_steps 15 = .ok (.aload_n 0, 1) := by decide +kernel
theorem d_P_steps_16 : decode b_P_steps 16 = .ok (.getfield 35, 3) := by decide +kernel
theorem d_P_steps_19 : decode b_P_steps 19 = .ok (.invokevirtual 117, 3) := by decide +kernel
theorem d_P_steps_22 : decode b_P_steps 22 = .ok (.ifCond .ne 5, 3) := by decide +kernel
theorem d_P_steps_25 : decode b_P_steps 25 = .ok (.iconst 0, 1) := by decide +kernel
theorem d_P_steps_26 : decode b_P_steps 26 = .ok (.ireturn, 1) := by decide +kernel
theorem d_P_steps_27 : decode b_P_steps 27 = .ok (.aload_n 0, 1) := by decide +kernel
theorem d_P_steps_28 : decode b_P_steps 28 = .ok (.getfield 28, 3) := by decide +kernel
theorem d_P_steps_31 : decode b_P_steps 31 = .ok (.aload_n 0, 1) := by decide +kernel
theorem d_P_steps_32 : decode b_P_steps 32 = .ok (.getfield 35, 3) := by decide +kernel
theorem d_P_steps_35 : decode b_P_steps 35 = .ok (.invokevirtual 154, 3) := by decide +kernel
theorem d_P_steps_38 : decode b_P_steps 38 = .ok (.iconst 0, 1) := by decide +kernel
theorem d_P_steps_39 : decode b_P_steps 39 = .ok (.istore_n 2, 1) := by decide +kernel
theorem d_P_steps_40 : decode b_P_steps 40 = .ok (.iload_n 2, 1) := by decide +kernel
theorem d_P_steps_41 : decode b_P_steps 41 = .ok (.iload_n 1, 1) := by decide +kernel
theorem d_P_steps_42 : decode b_P_steps 42 = .ok (.if_icmp .ge 19, 3) := by decide +kernel
theorem d_P_steps_45 : decode b_P_steps 45 = .ok (.aload_n 0, 1) := by decide +kernel
theorem d_P_steps_46 : decode b_P_steps 46 = .ok (.getfield 28, 3) := by decide +kernel
theorem d_P_steps_49 : decode b_P_steps 49 = .ok (.invokevirtual 158, 3) := by decide +kernel
theorem d_P_steps_52 : decode b_P_steps 52 = .ok (.ifCond .eq 9, 3) := by decide +kernel
theorem d_P_steps_55 : decode b_P_steps 55 = .ok (.iinc 2 1, 3) := by decide +kernel
theorem d_P_steps_58 : decode b_P_steps 58 = .ok (.goto (-18), 3) := by decide +kernel
theorem d_P_steps_61 : decode b_P_steps 61 = .ok (.iload_n 2, 1) := by decide +kernel
theorem d_P_steps_62 : decode b_P_steps 62 = .ok (.ireturn, 1) := by decide +kernel
theorem d_P_gone_0 : decode b_P_gone 0 = .ok (.iload_n 1, 1) := by decide +kernel
theorem d_P_gone_1 : decode b_P_gone 1 = .ok (.invokestatic 70, 3) := by decide +kernel
theorem d_P_gone_4 : decode b_P_gone 4 = .ok (.invokestatic 56, 3) := by decide +kernel
theorem d_P_gone_7 : decode b_P_gone 7 = .ok (.aload_n 0, 1) := by decide +kernel
theorem d_P_gone_8 : decode b_P_gone 8 = .ok (.getfield 28, 3) := by decide +kernel
theorem d_P_gone_11 : decode b_P_gone 11 = .ok (.getfield 144, 3) := by decide +kernel
theorem d_P_gone_14 : decode b_P_gone 14 = .ok (.iload_n 1, 1) := by decide +kernel
theorem d_P_gone_15 : decode b_P_gone 15 = .ok (.invokestatic 73, 3) := by decide +kernel
theorem d_P_gone_18 : decode b_P_gone 18 = .ok (.laload, 1) := by decide +kernel
theorem d_P_gone_19 : decode b_P_gone 19 = .ok (.lreturn, 1) := by decide +kernel
theorem d_P_demandLegal_0 : decode b_P_demandLegal 0 = .ok (.iload_n 0, 1) := by decide +kernel
theorem d_P_demandLegal_1 : decode b_P_demandLegal 1 = .ok (.ifCond .ne 13, 3) := by decide +kernel
theorem d_P_demandLegal_4 : decode b_P_demandLegal 4 = .ok (.new 162, 3) := by decide +kernel
theorem d_P_demandLegal_7 : decode b_P_demandLegal 7 = .ok (.dup, 1) := by decide +kernel
theorem d_P_demandLegal_8 : decode b_P_demandLegal 8 = .ok (.ldc 164, 2) := by decide +kernel
theorem d_P_demandLegal_10 : decode b_P_demandLegal 10 = .ok (.invokespecial 166, 3) := by decide +kernel
theorem d_P_demandLegal_13 : decode b_P_demandLegal 13 = .ok (.athrow, 1) := by decide +kernel
theorem d_P_demandLegal_14 : decode b_P_demandLegal 14 = .ok (.return_, 1) := by decide +kernel
theorem d_P_demandRoom_0 : decode b_P_demandRoom 0 = .ok (.iload_n 0, 1) := by decide +kernel
theorem d_P_demandRoom_1 : decode b_P_demandRoom 1 = .ok (.ifCond .ne 13, 3) := by decide +kernel
theorem d_P_demandRoom_4 : decode b_P_demandRoom 4 = .ok (.new 169, 3) := by decide +kernel
theorem d_P_demandRoom_7 : decode b_P_demandRoom 7 = .ok (.dup, 1) := by decide +kernel
theorem d_P_demandRoom_8 : decode b_P_demandRoom 8 = .ok (.ldc 171, 2) := by decide +kernel
theorem d_P_demandRoom_10 : decode b_P_demandRoom 10 = .ok (.invokespecial 173, 3) := by decide +kernel
theorem d_P_demandRoom_13 : decode b_P_demandRoom 13 = .ok (.athrow, 1) := by decide +kernel
theorem d_P_demandRoom_14 : decode b_P_demandRoom 14 = .ok (.return_, 1) := by decide +kernel
theorem d_P_isWithin_0 : decode b_P_isWithin 0 = .ok (.iload_n 0, 1) := by decide +kernel
theorem d_P_isWithin_1 : decode b_P_isWithin 1 = .ok (.iload_n 1, 1) := by decide +kernel
theorem d_P_isWithin_2 : decode b_P_isWithin 2 = .ok (.if_icmp .lt 12, 3) := by decide +kernel
theorem d_P_isWithin_5 : decode b_P_isWithin 5 = .ok (.iload_n 0, 1) := by decide +kernel
theorem d_P_isWithin_6 : decode b_P_isWithin 6 = .ok (.iload_n 2, 1) := by decide +kernel
end
section
theorem d_P_isWithin_7 : decode b_P_isWithin 7 = .ok (.if_icmp .gt 7, 3) := by decide +kernel
theorem d_P_isWithin_10 : decode b_P_isWithin 10 = .ok (.iconst 1, 1) := by decide +kernel
theorem d_P_isWithin_11 : decode b_P_isWithin 11 = .ok (.goto 4, 3) := by decide +kernel
theorem d_P_isWithin_14 : decode b_P_isWithin 14 = .ok (.iconst 0, 1) := by decide +kernel
theorem d_P_isWithin_15 : decode b_P_isWithin 15 = .ok (.ireturn, 1) := by decide +kernel
theorem d_P_isWarmth_0 : decode b_P_isWarmth 0 = .ok (.iload_n 0, 1) := by decide +kernel
theorem d_P_isWarmth_1 : decode b_P_isWarmth 1 = .ok (.sipush (-1000), 3) := by decide +kernel
theorem d_P_isWarmth_4 : decode b_P_isWarmth 4 = .ok (.sipush 1000, 3) := by decide +kernel
theorem d_P_isWarmth_7 : decode b_P_isWarmth 7 = .ok (.invokestatic 52, 3) := by decide +kernel
theorem d_P_isWarmth_10 : decode b_P_isWarmth 10 = .ok (.ireturn, 1) := by decide +kernel
theorem d_P_isSide_0 : decode b_P_isSide 0 = .ok (.iload_n 0, 1) := by decide +kernel
theorem d_P_isSide_1 : decode b_P_isSide 1 = .ok (.bipush (-4), 2) := by decide +kernel
theorem d_P_isSide_3 : decode b_P_isSide 3 = .ok (.iconst (-1), 1) := by decide +kernel
theorem d_P_isSide_4 : decode b_P_isSide 4 = .ok (.invokestatic 52, 3) := by decide +kernel
theorem d_P_isSide_7 : decode b_P_isSide 7 = .ok (.ireturn, 1) := by decide +kernel
theorem d_P_isZone_0 : decode b_P_isZone 0 = .ok (.iload_n 1, 1) := by decide +kernel
theorem d_P_isZone_1 : decode b_P_isZone 1 = .ok (.iconst 0, 1) := by decide +kernel
theorem d_P_isZone_2 : decode b_P_isZone 2 = .ok (.aload_n 0, 1) := by decide +kernel
theorem d_P_isZone_3 : decode b_P_isZone 3 = .ok (.getfield 12, 3) := by decide +kernel
theorem d_P_isZone_6 : decode b_P_isZone 6 = .ok (.getfield 60, 3) := by decide +kernel
theorem d_P_isZone_9 : decode b_P_isZone 9 = .ok (.iconst 1, 1) := by decide +kernel
theorem d_P_isZone_10 : decode b_P_isZone 10 = .ok (.isub, 1) := by decide +kernel
theorem d_P_isZone_11 : decode b_P_isZone 11 = .ok (.invokestatic 52, 3) := by decide +kernel
theorem d_P_isZone_14 : decode b_P_isZone 14 = .ok (.ireturn, 1) := by decide +kernel
theorem d_P_isPlace_0 : decode b_P_isPlace 0 = .ok (.iload_n 1, 1) := by decide +kernel
theorem d_P_isPlace_1 : decode b_P_isPlace 1 = .ok (.invokestatic 70, 3) := by decide +kernel
theorem d_P_isPlace_4 : decode b_P_isPlace 4 = .ok (.ifCond .ne 11, 3) := by decide +kernel
theorem d_P_isPlace_7 : decode b_P_isPlace 7 = .ok (.aload_n 0, 1) := by decide +kernel
theorem d_P_isPlace_8 : decode b_P_isPlace 8 = .ok (.iload_n 1, 1) := by decide +kernel
theorem d_P_isPlace_9 : decode b_P_isPlace 9 = .ok (.invokevirtual 136, 3) := by decide +kernel
theorem d_P_isPlace_12 : decode b_P_isPlace 12 = .ok (.ifCond .eq 7, 3) := by decide +kernel
theorem d_P_isPlace_15 : decode b_P_isPlace 15 = .ok (.iconst 1, 1) := by decide +kernel
theorem d_P_isPlace_16 : decode b_P_isPlace 16 = .ok (.goto 4, 3) := by decide +kernel
theorem d_P_isPlace_19 : decode b_P_isPlace 19 = .ok (.iconst 0, 1) := by decide +kernel
theorem d_P_isPlace_20 : decode b_P_isPlace 20 = .ok (.ireturn, 1) := by decide +kernel
theorem d_P_canJoin_0 : decode b_P_canJoin 0 = .ok (.aload_n 0, 1) := by decide +kernel
theorem d_P_canJoin_1 : decode b_P_canJoin 1 = .ok (.iload_n 1, 1) := by decide +kernel
theorem d_P_canJoin_2 : decode b_P_canJoin 2 = .ok (.invokevirtual 80, 3) := by decide +kernel
theorem d_P_canJoin_5 : decode b_P_canJoin 5 = .ok (.ifCond .eq 34, 3) := by decide +kernel
theorem d_P_canJoin_8 : decode b_P_canJoin 8 = .ok (.aload_n 0, 1) := by decide +kernel
theorem d_P_canJoin_9 : decode b_P_canJoin 9 = .ok (.iload_n 2, 1) := by decide +kernel
theorem d_P_canJoin_10 : decode b_P_canJoin 10 = .ok (.invokevirtual 80, 3) := by decide +kernel
theorem d_P_canJoin_13 : decode b_P_canJoin 13 = .ok (.ifCond .eq 26, 3) := by decide +kernel
theorem d_P_canJoin_16 : decode b_P_canJoin 16 = .ok (.iload_n 1, 1) := by decide +kernel
theorem d_P_canJoin_17 : decode b_P_canJoin 17 = .ok (.iload_n 2, 1) := by decide +kernel
theorem d_P_canJoin_18 : decode b_P_canJoin 18 = .ok (.if_icmp .eq 21, 3) := by decide +kernel
theorem d_P_canJoin_21 : decode b_P_canJoin 21 = .ok (.iload_n 1, 1) := by decide +kernel
theorem d_P_canJoin_22 : decode b_P_canJoin 22 = .ok (.invokestatic 70, 3) := by decide +kernel
theorem d_P_canJoin_25 : decode b_P_canJoin 25 = .ok (.ifCond .eq 10, 3) := by decide +kernel
theorem d_P_canJoin_28 : decode b_P_canJoin 28 = .ok (.iload_n 2, 1) := by decide +kernel
theorem d_P_canJoin_29 : decode b_P_canJoin 29 = .ok (.invokestatic 70, 3) := by decide +kernel
theorem d_P_canJoin_32 : decode b_P_canJoin 32 = .ok (.ifCond .ne 7, 3) := by decide +kernel
theorem d_P_canJoin_35 : decode b_P_canJoin 35 = .ok (.iconst 1, 1) := by decide +kernel
theorem d_P_canJoin_36 : decode b_P_canJoin 36 = .ok (.goto 4, 3) := by decide +kernel
theorem d_P_canJoin_39 : decode b_P_canJoin 39 = .ok (.iconst 0, 1) := by decide +kernel
theorem d_P_canJoin_40 : decode b_P_canJoin 40 = .ok (.ireturn, 1) := by decide +kernel
theorem d_P_isLeak_0 : decode b_P_isLeak 0 = .ok (.iload_n 1, 1) := by decide +kernel
theorem d_P_isLeak_1 : decode b_P_isLeak 1 = .ok (.iconst 0, 1) := by decide +kernel
theorem d_P_isLeak_2 : decode b_P_isLeak 2 = .ok (.aload_n 0, 1) := by decide +kernel
theorem d_P_isLeak_3 : decode b_P_isLeak 3 = .ok (.getfield 12, 3) := by decide +kernel
theorem d_P_isLeak_6 : decode b_P_isLeak 6 = .ok (.getfield 90, 3) := by decide +kernel
theorem d_P_isLeak_9 : decode b_P_isLeak 9 = .ok (.iconst 1, 1) := by decide +kernel
theorem d_P_isLeak_10 : decode b_P_isLeak 10 = .ok (.isub, 1) := by decide +kernel
theorem d_P_isLeak_11 : decode b_P_isLeak 11 = .ok (.invokestatic 52, 3) := by decide +kernel
theorem d_P_isLeak_14 : decode b_P_isLeak 14 = .ok (.ireturn, 1) := by decide +kernel
theorem d_P_rowOf_0 : decode b_P_rowOf 0 = .ok (.iload_n 0, 1) := by decide +kernel
theorem d_P_rowOf_1 : decode b_P_rowOf 1 = .ok (.iconst 4, 1) := by decide +kernel
theorem d_P_rowOf_2 : decode b_P_rowOf 2 = .ok (.iadd, 1) := by decide +kernel
theorem d_P_rowOf_3 : decode b_P_rowOf 3 = .ok (.ireturn, 1) := by decide +kernel
theorem d_P_ductOfFan_0 : decode b_P_ductOfFan 0 = .ok (.bipush 20, 2) := by decide +kernel
theorem d_P_ductOfFan_2 : decode b_P_ductOfFan 2 = .ok (.iload_n 0, 1) := by decide +kernel
theorem d_P_ductOfFan_3 : decode b_P_ductOfFan 3 = .ok (.iadd, 1) := by decide +kernel
theorem d_P_ductOfFan_4 : decode b_P_ductOfFan 4 = .ok (.ireturn, 1) := by decide +kernel
end
section
theorem d_S_init_0 : decode b_S_init 0 = .ok (.aload_n 0, 1) := by decide +kernel
theorem d_S_init_1 : decode b_S_init 1 = .ok (.invokespecial 3, 3) := by decide +kernel
theorem d_S_init_4 : decode b_S_init 4 = .ok (.aload_n 0, 1) := by decide +kernel
theorem d_S_init_5 : decode b_S_init 5 = .ok (.bipush 12, 2) := by decide +kernel
theorem d_S_init_7 : decode b_S_init 7 = .ok (.newarray .int, 2) := by decide +kernel
theorem d_S_init_9 : decode b_S_init 9 = .ok (.putfield 9, 3) := by decide +kernel
theorem d_S_init_12 : decode b_S_init 12 = .ok (.aload_n 0, 1) := by decide +kernel
theorem d_S_init_13 : decode b_S_init 13 = .ok (.aload_n 1, 1) := by decide +kernel
theorem d_S_init_14 : decode b_S_init 14 = .ok (.putfield 15, 3) := by decide +kernel
theorem d_S_init_17 : decode b_S_init 17 = .ok (.return_, 1) := by decide +kernel
theorem d_S_settles_0 : decode b_S_settles 0 = .ok (.aload_n 1, 1) := by decide +kernel
theorem d_S_settles_1 : decode b_S_settles 1 = .ok (.getfield 19, 3) := by decide +kernel
theorem d_S_settles_4 : decode b_S_settles 4 = .ok (.aload_n 0, 1) := by decide +kernel
theorem d_S_settles_5 : decode b_S_settles 5 = .ok (.getfield 15, 3) := by decide +kernel
theorem d_S_settles_8 : decode b_S_settles 8 = .ok (.getfield 25, 3) := by decide +kernel
theorem d_S_settles_11 : decode b_S_settles 11 = .ok (.if_icmp .ne 8, 3) := by decide +kernel
theorem d_S_settles_14 : decode b_S_settles 14 = .ok (.aload_n 1, 1) := by decide +kernel
theorem d_S_settles_15 : decode b_S_settles 15 = .ok (.getfield 30, 3) := by decide +kernel
theorem d_S_settles_18 : decode b_S_settles 18 = .ok (.ireturn, 1) := by decide +kernel
theorem d_S_settles_19 : decode b_S_settles 19 = .ok (.aload_n 0, 1) := by decide +kernel
theorem d_S_settles_20 : decode b_S_settles 20 = .ok (.aload_n 1, 1) := by decide +kernel
theorem d_S_settles_21 : decode b_S_settles 21 = .ok (.invokevirtual 34, 3) := by decide +kernel
theorem d_S_settles_24 : decode b_S_settles 24 = .ok (.iconst 1, 1) := by decide +kernel
theorem d_S_settles_25 : decode b_S_settles 25 = .ok (.aload_n 0, 1) := by decide +kernel
theorem d_S_settles_26 : decode b_S_settles 26 = .ok (.getfield 15, 3) := by decide +kernel
theorem d_S_settles_29 : decode b_S_settles 29 = .ok (.getfield 38, 3) := by decide +kernel
theorem d_S_settles_32 : decode b_S_settles 32 = .ok (.ishl, 1) := by decide +kernel
theorem d_S_settles_33 : decode b_S_settles 33 = .ok (.iconst 1, 1) := by decide +kernel
theorem d_S_settles_34 : decode b_S_settles 34 = .ok (.isub, 1) := by decide +kernel
theorem d_S_settles_35 : decode b_S_settles 35 = .ok (.istore_n 2, 1) := by decide +kernel
theorem d_S_settles_36 : decode b_S_settles 36 = .ok (.iload_n 2, 1) := by decide +kernel
theorem d_S_settles_37 : decode b_S_settles 37 = .ok (.istore_n 3, 1) := by decide +kernel
theorem d_S_settles_38 : decode b_S_settles 38 = .ok (.iconst 0, 1) := by decide +kernel
theorem d_S_settles_39 : decode b_S_settles 39 = .ok (.istore 4, 2) := by decide +kernel
theorem d_S_settles_41 : decode b_S_settles 41 = .ok (.iload 4, 2) := by decide +kernel
theorem d_S_settles_43 : decode b_S_settles 43 = .ok (.ldc 41, 2) := by decide +kernel
theorem d_S_settles_45 : decode b_S_settles 45 = .ok (.if_icmp .ge 92, 3) := by decide +kernel
theorem d_S_settles_48 : decode b_S_settles 48 = .ok (.iload_n 3, 1) := by decide +kernel
theorem d_S_settles_49 : decode b_S_settles 49 = .ok (.ifCond .eq 88, 3) := by decide +kernel
theorem d_S_settles_52 : decode b_S_settles 52 = .ok (.aload_n 0, 1) := by decide +kernel
theorem d_S_settles_53 : decode b_S_settles 53 = .ok (.aload_n 1, 1) := by decide +kernel
theorem d_S_settles_54 : decode b_S_settles 54 = .ok (.invokevirtual 42, 3) := by decide +kernel
theorem d_S_settles_57 : decode b_S_settles 57 = .ok (.ifCond .ne 80, 3) := by decide +kernel
theorem d_S_settles_60 : decode b_S_settles 60 = .ok (.aload_n 0, 1) := by decide +kernel
theorem d_S_settles_61 : decode b_S_settles 61 = .ok (.aload_n 1, 1) := by decide +kernel
theorem d_S_settles_62 : decode b_S_settles 62 = .ok (.iload_n 2, 1) := by decide +kernel
theorem d_S_settles_63 : decode b_S_settles 63 = .ok (.invokevirtual 46, 3) := by decide +kernel
theorem d_S_settles_66 : decode b_S_settles 66 = .ok (.istore_n 3, 1) := by decide +kernel
theorem d_S_settles_67 : decode b_S_settles 67 = .ok (.iconst 1, 1) := by decide +kernel
theorem d_S_settles_68 : decode b_S_settles 68 = .ok (.istore 5, 2) := by decide +kernel
theorem d_S_settles_70 : decode b_S_settles 70 = .ok (.iload_n 3, 1) := by decide +kernel
theorem d_S_settles_71 : decode b_S_settles 71 = .ok (.ifCond .eq 31, 3) := by decide +kernel
theorem d_S_settles_74 : decode b_S_settles 74 = .ok (.iload 5, 2) := by decide +kernel
theorem d_S_settles_76 : decode b_S_settles 76 = .ok (.sipush 10000, 3) := by decide +kernel
theorem d_S_settles_79 : decode b_S_settles 79 = .ok (.if_icmp .ge 23, 3) := by decide +kernel
theorem d_S_settles_82 : decode b_S_settles 82 = .ok (.aload_n 0, 1) := by decide +kernel
theorem d_S_settles_83 : decode b_S_settles 83 = .ok (.aload_n 1, 1) := by decide +kernel
theorem d_S_settles_84 : decode b_S_settles 84 = .ok (.iload_n 3, 1) := by decide +kernel
theorem d_S_settles_85 : decode b_S_settles 85 = .ok (.iload 5, 2) := by decide +kernel
theorem d_S_settles_87 : decode b_S_settles 87 = .ok (.invokevirtual 50, 3) := by decide +kernel
theorem d_S_settles_90 : decode b_S_settles 90 = .ok (.ifCond .eq 12, 3) := by decide +kernel
theorem d_S_settles_93 : decode b_S_settles 93 = .ok (.iload 5, 2) := by decide +kernel
theorem d_S_settles_95 : decode b_S_settles 95 = .ok (.iconst 2, 1) := by decide +kernel
theorem d_S_settles_96 : decode b_S_settles 96 = .ok (.imul, 1) := by decide +kernel
theorem d_S_settles_97 : decode b_S_settles 97 = .ok (.istore 5, 2) := by decide +kernel
theorem d_S_settles_99 : decode b_S_settles 99 = .ok (.goto (-29), 3) := by decide +kernel
theorem d_S_settles_102 : decode b_S_settles 102 = .ok (.iload 5, 2) := by decide +kernel
theorem d_S_settles_104 : decode b_S_settles 104 = .ok (.iconst 2, 1) := by decide +kernel
theorem d_S_settles_105 : decode b_S_settles 105 = .ok (.idiv, 1) := by decide +kernel
theorem d_S_settles_106 : decode b_S_settles 106 = .ok (.istore 5, 2) := by decide +kernel
theorem d_S_settles_108 : decode b_S_settles 108 = .ok (.iload 5, 2) := by decide +kernel
theorem d_S_settles_110 : decode b_S_settles 110 = .ok (.ifCond .le 21, 3) := by decide +kernel
theorem d_S_settles_113 : decode b_S_settles 113 = .ok (.aload_n 0, 1) := by decide +kernel
theorem d_S_settles_114 : decode b_S_settles 114 = .ok (.aload_n 1, 1) := by decide +kernel
theorem d_S_settles_115 : decode b_S_settles 115 = .ok (.iload_n 3, 1) := by decide +kernel
theorem d_S_settles_116 : decode b_S_settles 116 = .ok (.iload 5, 2) := by decide +kernel
theorem d_S_settles_118 : decode b_S_settles 118 = .ok (.invokevirtual 50, 3) := by decide +kernel
theorem d_S_settles_121 : decode b_S_settles 121 = .ok (.pop, 1) := by decide +kernel
theorem d_S_settles_122 : decode b_S_settles 122 = .ok (.iload 5, 2) := by decide +kernel
theorem d_S_settles_124 : decode b_S_settles 124 = .ok (.iconst 2, 1) := by decide +kernel
theorem d_S_settles_125 : decode b_S_settles 125 = .ok (.idiv, 1) := by decide +kernel
theorem d_S_settles_126 : decode b_S_settles 126 = .ok (.istore 5, 2) := by decide +kernel
theorem d_S_settles_128 : decode b_S_settles 128 = .ok (.goto (-20), 3) := by decide +kernel
theorem d_S_settles_131 : decode b_S_settles 131 = .ok (.iinc 4 1, 3) := by decide +kernel
theorem d_S_settles_134 : decode b_S_settles 134 = .ok (.goto (-93), 3) := by decide +kernel
theorem d_S_settles_137 : decode b_S_settles 137 = .ok (.aload_n 1, 1) := by decide +kernel
theorem d_S_settles_138 : decode b_S_settles 138 = .ok (.aload_n 0, 1) := by decide +kernel
theorem d_S_settles_139 : decode b_S_settles 139 = .ok (.aload_n 1, 1) := by decide +kernel
theorem d_S_settles_140 : decode b_S_settles 140 = .ok (.invokevirtual 42, 3) := by decide +kernel
theorem d_S_settles_143 : decode b_S_settles 143 = .ok (.ifCond .ne 7, 3) := by decide +kernel
theorem d_S_settles_146 : decode b_S_settles 146 = .ok (.iconst 1, 1) := by decide +kernel
theorem d_S_settles_147 : decode b_S_settles 147 = .ok (.goto 4, 3) := by decide +kernel
theorem d_S_settles_150 : decode b_S_settles 150 = .ok (.iconst 0, 1) := by decide +kernel
theorem d_S_settles_151 : decode b_S_settles 151 = .ok (.putfield 30, 3) := by decide +kernel
theorem d_S_settles_154 : decode b_S_settles 154 = .ok (.aload_n 1, 1) := by decide +kernel
theorem d_S_settles_155 : decode b_S_settles 155 = .ok (.aload_n 0, 1) := by decide +kernel
theorem d_S_settles_156 : decode b_S_settles 156 = .ok (.getfield 15, 3) := by decide +kernel
theorem d_S_settles_159 : decode b_S_settles 159 = .ok (.getfield 25, 3) := by decide +kernel
theorem d_S_settles_162 : decode b_S_settles 162 = .ok (.putfield 19, 3) := by decide +kernel
theorem d_S_settles_165 : decode b_S_settles 165 = .ok (.aload_n 1, 1) := by decide +kernel
theorem d_S_settles_166 : decode b_S_settles 166 = .ok (.getfield 30, 3) := by decide +kernel
theorem d_S_settles_169 : decode b_S_settles 169 = .ok (.ireturn, 1) := by decide +kernel
theorem d_S_begin_0 : decode b_S_begin 0 = .ok (.aload_n 1, 1) := by decide +kernel
theorem d_S_begin_1 : decode b_S_begin 1 = .ok (.getfield 54, 3) := by decide +kernel
theorem d_S_begin_4 : decode b_S_begin 4 = .ok (.sipush (-5000), 3) := by decide +kernel
theorem d_S_begin_7 : decode b_S_begin 7 = .ok (.invokestatic 57, 3) := by decide +kernel
theorem d_S_begin_10 : decode b_S_begin 10 = .ok (.aload_n 0, 1) := by decide +kernel
theorem d_S_begin_11 : decode b_S_begin 11 = .ok (.getfield 15, 3) := by decide +kernel
theorem d_S_begin_14 : decode b_S_begin 14 = .ok (.getfield 63, 3) := by decide +kernel
theorem d_S_begin_17 : decode b_S_begin 17 = .ok (.iconst 0, 1) := by decide +kernel
theorem d_S_begin_18 : decode b_S_begin 18 = .ok (.aload_n 1, 1) := by decide +kernel
theorem d_S_begin_19 : decode b_S_begin 19 = .ok (.getfield 54, 3) := by decide +kernel
theorem d_S_begin_22 : decode b_S_begin 22 = .ok (.iconst 0, 1) := by decide +kernel
theorem d_S_begin_23 : decode b_S_begin 23 = .ok (.iconst 4, 1) := by decide +kernel
theorem d_S_begin_24 : decode b_S_begin 24 = .ok (.invokestatic 66, 3) := by decide +kernel
theorem d_S_begin_27 : decode b_S_begin 27 = .ok (.return_, 1) := by decide +kernel
theorem d_S_isPastHighest_0 : decode b_S_isPastHighest 0 = .ok (.iconst 4, 1) := by decide +kernel
theorem d_S_isPastHighest_1 : decode b_S_isPastHighest 1 = .ok (.istore_n 2, 1) := by decide +kernel
theorem d_S_isPastHighest_2 : decode b_S_isPastHighest 2 = .ok (.iload_n 2, 1) := by decide +kernel
theorem d_S_isPastHighest_3 : decode b_S_isPastHighest 3 = .ok (.bipush 12, 2) := by decide +kernel
theorem d_S_isPastHighest_5 : decode b_S_isPastHighest 5 = .ok (.if_icmp .ge 23, 3) := by decide +kernel
theorem d_S_isPastHighest_8 : decode b_S_isPastHighest 8 = .ok (.aload_n 1, 1) := by decide +kernel
theorem d_S_isPastHighest_9 : decode b_S_isPastHighest 9 = .ok (.getfield 54, 3) := by decide +kernel
theorem d_S_isPastHighest_12 : decode b_S_isPastHighest 12 = .ok (.iload_n 2, 1) := by decide +kernel
theorem d_S_isPastHighest_13 : decode b_S_isPastHighest 13 = .ok (.iaload, 1) := by decide +kernel
theorem d_S_isPastHighest_14 : decode b_S_isPastHighest 14 = .ok (.sipush 5000, 3) := by decide +kernel
theorem d_S_isPastHighest_17 : decode b_S_isPastHighest 17 = .ok (.if_icmp .le 5, 3) := by decide +kernel
theorem d_S_isPastHighest_20 : decode b_S_isPastHighest 20 = .ok (.iconst 1, 1) := by decide +kernel
theorem d_S_isPastHighest_21 : decode b_S_isPastHighest 21 = .ok (.ireturn, 1) := by decide +kernel
theorem d_S_isPastHighest_22 : decode b_S_isPastHighest 22 = .ok (.iinc 2 1, 3) := by decide +kernel
theorem d_S_isPastHighest_25 : decode b_S_isPastHighest 25 = .ok (.goto (-23), 3) := by decide +kernel
theorem d_S_isPastHighest_28 : decode b_S_isPastHighest 28 = .ok (.iconst 0, 1) := by decide +kernel
theorem d_S_isPastHighest_29 : decode b_S_isPastHighest 29 = .ok (.ireturn, 1) := by decide +kernel
theorem d_S_doBout_0 : decode b_S_doBout 0 = .ok (.iconst 0, 1) := by decide +kernel
theorem d_S_doBout_1 : decode b_S_doBout 1 = .ok (.istore_n 3, 1) := by decide +kernel
theorem d_S_doBout_2 : decode b_S_doBout 2 = .ok (.iconst 1, 1) := by decide +kernel
theorem d_S_doBout_3 : decode b_S_doBout 3 = .ok (.istore 4, 2) := by decide +kernel
theorem d_S_doBout_5 : decode b_S_doBout 5 = .ok (.iconst 0, 1) := by decide +kernel
theorem d_S_doBout_6 : decode b_S_doBout 6 = .ok (.istore 5, 2) := by decide +kernel
theorem d_S_doBout_8 : decode b_S_doBout 8 = .ok (.iload 5, 2) := by decide +kernel
theorem d_S_doBout_10 : decode b_S_doBout 10 = .ok (.iconst 4, 1) := by decide +kernel
theorem d_S_doBout_11 : decode b_S_doBout 11 = .ok (.if_icmp .ge 72, 3) := by decide +kernel
theorem d_S_doBout_14 : decode b_S_doBout 14 = .ok (.iload 4, 2) := by decide +kernel
theorem d_S_doBout_16 : decode b_S_doBout 16 = .ok (.ifCond .eq 67, 3) := by decide +kernel
theorem d_S_doBout_19 : decode b_S_doBout 19 = .ok (.iload_n 3, 1) := by decide +kernel
theorem d_S_doBout_20 : decode b_S_doBout 20 = .ok (.iload_n 2, 1) := by decide +kernel
theorem d_S_doBout_21 : decode b_S_doBout 21 = .ok (.if_icmp .eq 62, 3) := by decide +kernel
theorem d_S_doBout_24 : decode b_S_doBout 24 = .ok (.iconst 0, 1) := by decide +kernel
theorem d_S_doBout_25 : decode b_S_doBout 25 = .ok (.istore 4, 2) := by decide +kernel
theorem d_S_doBout_27 : decode b_S_doBout 27 = .ok (.iconst 0, 1) := by decide +kernel
theorem d_S_doBout_28 : decode b_S_doBout 28 = .ok (.istore 6, 2) := by decide +kernel
theorem d_S_doBout_30 : decode b_S_doBout 30 = .ok (.iload 6, 2) := by decide +kernel
theorem d_S_doBout_32 : decode b_S_doBout 32 = .ok (.aload_n 0, 1) := by decide +kernel
theorem d_S_doBout_33 : decode b_S_doBout 33 = .ok (.getfield 15, 3) := by decide +kernel
theorem d_S_doBout_36 : decode b_S_doBout 36 = .ok (.getfield 38, 3) := by decide +kernel
theorem d_S_doBout_39 : decode b_S_doBout 39 = .ok (.if_icmp .ge 38, 3) := by decide +kernel
theorem d_S_doBout_42 : decode b_S_doBout 42 = .ok (.iload_n 2, 1) := by decide +kernel
theorem d_S_doBout_43 : decode b_S_doBout 43 = .ok (.iload 6, 2) := by decide +kernel
theorem d_S_doBout_45 : decode b_S_doBout 45 = .ok (.ishr, 1) := by decide +kernel
theorem d_S_doBout_46 : decode b_S_doBout 46 = .ok (.iconst 1, 1) := by decide +kernel
theorem d_S_doBout_47 : decode b_S_doBout 47 = .ok (.iand, 1) := by decide +kernel
theorem d_S_doBout_48 : decode b_S_doBout 48 = .ok (.ifCond .eq 23, 3) := by decide +kernel
theorem d_S_doBout_51 : decode b_S_doBout 51 = .ok (.aload_n 0, 1) := by decide +kernel
theorem d_S_doBout_52 : decode b_S_doBout 52 = .ok (.aload_n 1, 1) := by decide +kernel
theorem d_S_doBout_53 : decode b_S_doBout 53 = .ok (.iload 6, 2) := by decide +kernel
theorem d_S_doBout_55 : decode b_S_doBout 55 = .ok (.invokevirtual 72, 3) := by decide +kernel
theorem d_S_doBout_58 : decode b_S_doBout 58 = .ok (.ifCond .eq 13, 3) := by decide +kernel
theorem d_S_doBout_61 : decode b_S_doBout 61 = .ok (.iload_n 3, 1) := by decide +kernel
theorem d_S_doBout_62 : decode b_S_doBout 62 = .ok (.iconst 1, 1) := by decide +kernel
theorem d_S_doBout_63 : decode b_S_doBout 63 = .ok (.iload 6, 2) := by decide +kernel
theorem d_S_doBout_65 : decode b_S_doBout 65 = .ok (.ishl, 1) := by decide +kernel
theorem d_S_doBout_66 : decode b_S_doBout 66 = .ok (.ior, 1) := by decide +kernel
theorem d_S_doBout_67 : decode b_S_doBout 67 = .ok (.istore_n 3, 1) := by decide +kernel
theorem d_S_doBout_68 : decode b_S_doBout 68 = .ok (.iconst 1, 1) := by decide +kernel
theorem d_S_doBout_69 : decode b_S_doBout 69 = .ok (.istore 4, 2) := by decide +kernel
theorem d_S_doBout_71 : decode b_S_doBout 71 = .ok (.iinc 6 1, 3) := by decide +kernel
theorem d_S_doBout_74 : decode b_S_doBout 74 = .ok (.goto (-44), 3) := by decide +kernel
theorem d_S_doBout_77 : decode b_S_doBout 77 = .ok (.iinc 5 1, 3) := by decide +kernel
theorem d_S_doBout_80 : decode b_S_doBout 80 = .ok (.goto (-72), 3) := by decide +kernel
theorem d_S_doBout_83 : decode b_S_doBout 83 = .ok (.iload_n 3, 1) := by decide +kernel
theorem d_S_doBout_84 : decode b_S_doBout 84 = .ok (.ireturn, 1) := by decide +kernel
theorem d_S_raises_0 : decode b_S_raises 0 = .ok (.iload_n 2, 1) := by decide +kernel
theorem d_S_raises_1 : decode b_S_raises 1 = .ok (.invokestatic 76, 3) := by decide +kernel
theorem d_S_raises_4 : decode b_S_raises 4 = .ok (.istore_n 3, 1) := by decide +kernel
theorem d_S_raises_5 : decode b_S_raises 5 = .ok (.aload_n 1, 1) := by decide +kernel
theorem d_S_raises_6 : decode b_S_raises 6 = .ok (.getfield 54, 3) := by decide +kernel
theorem d_S_raises_9 : decode b_S_raises 9 = .ok (.iload_n 3, 1) := by decide +kernel
theorem d_S_raises_10 : decode b_S_raises 10 = .ok (.iaload, 1) := by decide +kernel
theorem d_S_raises_11 : decode b_S_raises 11 = .ok (.istore 4, 2) := by decide +kernel
theorem d_S_raises_13 : decode b_S_raises 13 = .ok (.iload 4, 2) := by decide +kernel
theorem d_S_raises_15 : decode b_S_raises 15 = .ok (.sipush 5000, 3) := by decide +kernel
theorem d_S_raises_18 : decode b_S_raises 18 = .ok (.if_icmp .gt 15, 3) := by decide +kernel
theorem d_S_raises_21 : decode b_S_raises 21 = .ok (.aload_n 0, 1) := by decide +kernel
theorem d_S_raises_22 : decode b_S_raises 22 = .ok (.getfield 15, 3) := by decide +kernel
theorem d_S_raises_25 : decode b_S_raises 25 = .ok (.iload_n 2, 1) := by decide +kernel
theorem d_S_raises_26 : decode b_S_raises 26 = .ok (.aload_n 1, 1) := by decide +kernel
theorem d_S_raises_27 : decode b_S_raises 27 = .ok (.invokevirtual 80, 3) := by decide +kernel
theorem d_S_raises_30 : decode b_S_raises 30 = .ok (.ifCond .gt 5, 3) := by decide +kernel
theorem d_S_raises_33 : decode b_S_raises 33 = .ok (.iconst 0, 1) := by decide +kernel
theorem d_S_raises_34 : decode b_S_raises 34 = .ok (.ireturn, 1) := by decide +kernel
theorem d_S_raises_35 : decode b_S_raises 35 = .ok (.sipush 5001, 3) := by decide +kernel
theorem d_S_raises_38 : decode b_S_raises 38 = .ok (.istore 5, 2) := by decide +kernel
theorem d_S_raises_40 : decode b_S_raises 40 = .ok (.iconst 1, 1) := by decide +kernel
theorem d_S_raises_41 : decode b_S_raises 41 = .ok (.istore 6, 2) := by decide +kernel
theorem d_S_raises_43 : decode b_S_raises 43 = .ok (.iconst 0, 1) := by decide +kernel
theorem d_S_raises_44 : decode b_S_raises 44 = .ok (.istore 7, 2) := by decide +kernel
theorem d_S_raises_46 : decode b_S_raises 46 = .ok (.iload 7, 2) := by decide +kernel
theorem d_S_raises_48 : decode b_S_raises 48 = .ok (.bipush 64, 2) := by decide +kernel
theorem d_S_raises_50 : decode b_S_raises 50 = .ok (.if_icmp .ge 72, 3) := by decide +kernel
theorem d_S_raises_53 : decode b_S_raises 53 = .ok (.iload 5, 2) := by decide +kernel
theorem d_S_raises_55 : decode b_S_raises 55 = .ok (.iload 4, 2) := by decide +kernel
theorem d_S_raises_57 : decode b_S_raises 57 = .ok (.isub, 1) := by decide +kernel
theorem d_S_raises_58 : decode b_S_raises 58 = .ok (.iconst 1, 1) := by decide +kernel
theorem d_S_raises_59 : decode b_S_raises 59 = .ok (.if_icmp .le 63, 3) := by decide +kernel
theorem d_S_raises_62 : decode b_S_raises 62 = .ok (.iload 4, 2) := by decide +kernel
theorem d_S_raises_64 : decode b_S_raises 64 = .ok (.iload 6, 2) := by decide +kernel
theorem d_S_raises_66 : decode b_S_raises 66 = .ok (.iload 5, 2) := by decide +kernel
theorem d_S_raises_68 : decode b_S_raises 68 = .ok (.iload 4, 2) := by decide +kernel
theorem d_S_raises_70 : decode b_S_raises 70 = .ok (.isub, 1) := by decide +kernel
theorem d_S_raises_71 : decode b_S_raises 71 = .ok (.iconst 2, 1) := by decide +kernel
theorem d_S_raises_72 : decode b_S_raises 72 = .ok (.idiv, 1) := by decide +kernel
theorem d_S_raises_73 : decode b_S_raises 73 = .ok (.invokestatic 84, 3) := by decide +kernel
theorem d_S_raises_76 : decode b_S_raises 76 = .ok (.iadd, 1) := by decide +kernel
theorem d_S_raises_77 : decode b_S_raises 77 = .ok (.istore 8, 2) := by decide +kernel
theorem d_S_raises_79 : decode b_S_raises 79 = .ok (.aload_n 1, 1) := by decide +kernel
theorem d_S_raises_80 : decode b_S_raises 80 = .ok (.getfield 54, 3) := by decide +kernel
theorem d_S_raises_83 : decode b_S_raises 83 = .ok (.iload_n 3, 1) := by decide +kernel
theorem d_S_raises_84 : decode b_S_raises 84 = .ok (.iload 8, 2) := by decide +kernel
theorem d_S_raises_86 : decode b_S_raises 86 = .ok (.iastore, 1) := by decide +kernel
theorem d_S_raises_87 : decode b_S_raises 87 = .ok (.aload_n 0, 1) := by decide +kernel
theorem d_S_raises_88 : decode b_S_raises 88 = .ok (.getfield 15, 3) := by decide +kernel
theorem d_S_raises_91 : decode b_S_raises 91 = .ok (.iload_n 2, 1) := by decide +kernel
theorem d_S_raises_92 : decode b_S_raises 92 = .ok (.aload_n 1, 1) := by decide +kernel
theorem d_S_raises_93 : decode b_S_raises 93 = .ok (.invokevirtual 80, 3) := by decide +kernel
theorem d_S_raises_96 : decode b_S_raises 96 = .ok (.ifCond .le 16, 3) := by decide +kernel
theorem d_S_raises_99 : decode b_S_raises 99 = .ok (.iload 8, 2) := by decide +kernel
theorem d_S_raises_101 : decode b_S_raises 101 = .ok (.istore 4, 2) := by decide +kernel
theorem d_S_raises_103 : decode b_S_raises 103 = .ok (.iload 6, 2) := by decide +kernel
theorem d_S_raises_105 : decode b_S_raises 105 = .ok (.iconst 2, 1) := by decide +kernel
theorem d_S_raises_106 : decode b_S_raises 106 = .ok (.imul, 1) := by decide +kernel
theorem d_S_raises_107 : decode b_S_raises 107 = .ok (.istore 6, 2) := by decide +kernel
theorem d_S_raises_109 : decode b_S_raises 109 = .ok (.goto 7, 3) := by decide +kernel
theorem d_S_raises_112 : decode b_S_raises 112 = .ok (.iload 8, 2) := by decide +kernel
theorem d_S_raises_114 : decode b_S_raises 114 = .ok (.istore 5, 2) := by decide +kernel
theorem d_S_raises_116 : decode b_S_raises 116 = .ok (.iinc 7 1, 3) := by decide +kernel
theorem d_S_raises_119 : decode b_S_raises 119 = .ok (.goto (-73), 3) := by decide +kernel
theorem d_S_raises_122 : decode b_S_raises 122 = .ok (.aload_n 1, 1) := by decide +kernel
theorem d_S_raises_123 : decode b_S_raises 123 = .ok (.getfield 54, 3) := by decide +kernel
theorem d_S_raises_126 : decode b_S_raises 126 = .ok (.iload_n 3, 1) := by decide +kernel
theorem d_S_raises_127 : decode b_S_raises 127 = .ok (.iload 5, 2) := by decide +kernel
theorem d_S_raises_129 : decode b_S_raises 129 = .ok (.iastore, 1) := by decide +kernel
theorem d_S_raises_130 : decode b_S_raises 130 = .ok (.iconst 1, 1) := by decide +kernel
theorem d_S_raises_131 : decode b_S_raises 131 = .ok (.ireturn, 1) := by decide +kernel
theorem d_S_lifts_0 : decode b_S_lifts 0 = .ok (.aload_n 1, 1) := by decide +kernel
theorem d_S_lifts_1 : decode b_S_lifts 1 = .ok (.getfield 54, 3) := by decide +kernel
theorem d_S_lifts_4 : decode b_S_lifts 4 = .ok (.iconst 0, 1) := by decide +kernel
theorem d_S_lifts_5 : decode b_S_lifts 5 = .ok (.aload_n 0, 1) := by decide +kernel
theorem d_S_lifts_6 : decode b_S_lifts 6 = .ok (.getfield 9, 3) := by decide +kernel
theorem d_S_lifts_9 : decode b_S_lifts 9 = .ok (.iconst 0, 1) := by decide +kernel
theorem d_S_lifts_10 : decode b_S_lifts 10 = .ok (.bipush 12, 2) := by decide +kernel
theorem d_S_lifts_12 : decode b_S_lifts 12 = .ok (.invokestatic 66, 3) := by decide +kernel
theorem d_S_lifts_15 : decode b_S_lifts 15 = .ok (.iconst 0, 1) := by decide +kernel
theorem d_S_lifts_16 : decode b_S_lifts 16 = .ok (.istore 4, 2) := by decide +kernel
theorem d_S_lifts_18 : decode b_S_lifts 18 = .ok (.iload 4, 2) := by decide +kernel
theorem d_S_lifts_20 : decode b_S_lifts 20 = .ok (.aload_n 0, 1) := by decide +kernel
theorem d_S_lifts_21 : decode b_S_lifts 21 = .ok (.getfield 15, 3) := by decide +kernel
theorem d_S_lifts_24 : decode b_S_lifts 24 = .ok (.getfield 38, 3) := by decide +kernel
theorem d_S_lifts_27 : decode b_S_lifts 27 = .ok (.if_icmp .ge 32, 3) := by decide +kernel
theorem d_S_lifts_30 : decode b_S_lifts 30 = .ok (.iload_n 2, 1) := by decide +kernel
theorem d_S_lifts_31 : decode b_S_lifts 31 = .ok (.iload 4, 2) := by decide +kernel
theorem d_S_lifts_33 : decode b_S_lifts 33 = .ok (.ishr, 1) := by decide +kernel
theorem d_S_lifts_34 : decode b_S_lifts 34 = .ok (.iconst 1, 1) := by decide +kernel
theorem d_S_lifts_35 : decode b_S_lifts 35 = .ok (.iand, 1) := by decide +kernel
theorem d_S_lifts_36 : decode b_S_lifts 36 = .ok (.ifCond .eq 17, 3) := by decide +kernel
theorem d_S_lifts_39 : decode b_S_lifts 39 = .ok (.aload_n 1, 1) := by decide +kernel
theorem d_S_lifts_40 : decode b_S_lifts 40 = .ok (.getfield 54, 3) := by decide +kernel
theorem d_S_lifts_43 : decode b_S_lifts 43 = .ok (.iload 4, 2) := by decide +kernel
theorem d_S_lifts_45 : decode b_S_lifts 45 = .ok (.invokestatic 76, 3) := by decide +kernel
theorem d_S_lifts_48 : decode b_S_lifts 48 = .ok (.dup2, 1) := by decide +kernel
theorem d_S_lifts_49 : decode b_S_lifts 49 = .ok (.iaload, 1) := by decide +kernel
theorem d_S_lifts_50 : decode b_S_lifts 50 = .ok (.iload_n 3, 1) := by decide +kernel
theorem d_S_lifts_51 : decode b_S_lifts 51 = .ok (.iadd, 1) := by decide +kernel
theorem d_S_lifts_52 : decode b_S_lifts 52 = .ok (.iastore, 1) := by decide +kernel
theorem d_S_lifts_53 : decode b_S_lifts 53 = .ok (.iinc 4 1, 3) := by decide +kernel
theorem d_S_lifts_56 : decode b_S_lifts 56 = .ok (.goto (-38), 3) := by decide +kernel
theorem d_S_lifts_59 : decode b_S_lifts 59 = .ok (.aload_n 0, 1) := by decide +kernel
theorem d_S_lifts_60 : decode b_S_lifts 60 = .ok (.aload_n 1, 1) := by decide +kernel
theorem d_S_lifts_61 : decode b_S_lifts 61 = .ok (.invokevirtual 42, 3) := by decide +kernel
theorem d_S_lifts_64 : decode b_S_lifts 64 = .ok (.ifCond .ne 15, 3) := by decide +kernel
theorem d_S_lifts_67 : decode b_S_lifts 67 = .ok (.aload_n 0, 1) := by decide +kernel
theorem d_S_lifts_68 : decode b_S_lifts 68 = .ok (.aload_n 1, 1) := by decide +kernel
theorem d_S_lifts_69 : decode b_S_lifts 69 = .ok (.iload_n 2, 1) := by decide +kernel
theorem d_S_lifts_70 : decode b_S_lifts 70 = .ok (.invokevirtual 46, 3) := by decide +kernel
theorem d_S_lifts_73 : decode b_S_lifts 73 = .ok (.iload_n 2, 1) := by decide +kernel
theorem d_S_lifts_74 : decode b_S_lifts 74 = .ok (.if_icmp .ne 5, 3) := by decide +kernel
theorem d_S_lifts_77 : decode b_S_lifts 77 = .ok (.iconst 1, 1) := by decide +kernel
theorem d_S_lifts_78 : decode b_S_lifts 78 = .ok (.ireturn, 1) := by decide +kernel
theorem d_S_lifts_79 : decode b_S_lifts 79 = .ok (.aload_n 0, 1) := by decide +kernel
theorem d_S_lifts_80 : decode b_S_lifts 80 = .ok (.getfield 9, 3) := by decide +kernel
theorem d_S_lifts_83 : decode b_S_lifts 83 = .ok (.iconst 0, 1) := by decide +kernel
end
section
theorem d_S_lifts_84 : decode b_S_lifts 84 = .ok (.aload_n 1, 1) := by decide +kernel
theorem d_S_lifts_85 : decode b_S_lifts 85 = .ok (.getfield 54, 3) := by decide +kernel
theorem d_S_lifts_88 : decode b_S_lifts 88 = .ok (.iconst 0, 1) := by decide +kernel
theorem d_S_lifts_89 : decode b_S_lifts 89 = .ok (.bipush 12, 2) := by decide +kernel
theorem d_S_lifts_91 : decode b_S_lifts 91 = .ok (.invokestatic 66, 3) := by decide +kernel
theorem d_S_lifts_94 : decode b_S_lifts 94 = .ok (.iconst 0, 1) := by decide +kernel
theorem d_S_lifts_95 : decode b_S_lifts 95 = .ok (.ireturn, 1) := by decide +kernel
end
section
theorem d_T_init_0 : decode b_T_init 0 = .ok (.aload_n 0, 1) := by decide +kernel
theorem d_T_init_1 : decode b_T_init 1 = .ok (.invokespecial 3, 3) := by decide +kernel
theorem d_T_init_4 : decode b_T_init 4 = .ok (.aload_n 0, 1) := by decide +kernel
theorem d_T_init_5 : decode b_T_init 5 = .ok (.bipush 12, 2) := by decide +kernel
theorem d_T_init_7 : decode b_T_init 7 = .ok (.newarray .int, 2) := by decide +kernel
theorem d_T_init_9 : decode b_T_init 9 = .ok (.putfield 9, 3) := by decide +kernel
theorem d_T_init_12 : decode b_T_init 12 = .ok (.aload_n 0, 1) := by decide +kernel
theorem d_T_init_13 : decode b_T_init 13 = .ok (.iconst 0, 1) := by decide +kernel
theorem d_T_init_14 : decode b_T_init 14 = .ok (.putfield 15, 3) := by decide +kernel
theorem d_T_init_17 : decode b_T_init 17 = .ok (.aload_n 0, 1) := by decide +kernel
theorem d_T_init_18 : decode b_T_init 18 = .ok (.iconst (-1), 1) := by decide +kernel
theorem d_T_init_19 : decode b_T_init 19 = .ok (.putfield 19, 3) := by decide +kernel
theorem d_T_init_22 : decode b_T_init 22 = .ok (.aload_n 0, 1) := by decide +kernel
theorem d_T_init_23 : decode b_T_init 23 = .ok (.iconst 0, 1) := by decide +kernel
theorem d_T_init_24 : decode b_T_init 24 = .ok (.putfield 22, 3) := by decide +kernel
theorem d_T_init_27 : decode b_T_init 27 = .ok (.return_, 1) := by decide +kernel
end
section
theorem d_U_init_0 : decode b_U_init 0 = .ok (.aload_n 0, 1) := by decide +kernel
theorem d_U_init_1 : decode b_U_init 1 = .ok (.invokespecial 3, 3) := by decide +kernel
theorem d_U_init_4 : decode b_U_init 4 = .ok (.aload_n 0, 1) := by decide +kernel
theorem d_U_init_5 : decode b_U_init 5 = .ok (.bipush 12, 2) := by decide +kernel
theorem d_U_init_7 : decode b_U_init 7 = .ok (.newarray .long, 2) := by decide +kernel
theorem d_U_init_9 : decode b_U_init 9 = .ok (.putfield 9, 3) := by decide +kernel
theorem d_U_init_12 : decode b_U_init 12 = .ok (.aload_n 0, 1) := by decide +kernel
theorem d_U_init_13 : decode b_U_init 13 = .ok (.bipush 12, 2) := by decide +kernel
theorem d_U_init_15 : decode b_U_init 15 = .ok (.newarray .int, 2) := by decide +kernel
theorem d_U_init_17 : decode b_U_init 17 = .ok (.putfield 15, 3) := by decide +kernel
theorem d_U_init_20 : decode b_U_init 20 = .ok (.aload_n 0, 1) := by decide +kernel
theorem d_U_init_21 : decode b_U_init 21 = .ok (.bipush 24, 2) := by decide +kernel
theorem d_U_init_23 : decode b_U_init 23 = .ok (.newarray .int, 2) := by decide +kernel
theorem d_U_init_25 : decode b_U_init 25 = .ok (.putfield 19, 3) := by decide +kernel
theorem d_U_init_28 : decode b_U_init 28 = .ok (.aload_n 0, 1) := by decide +kernel
theorem d_U_init_29 : decode b_U_init 29 = .ok (.bipush 12, 2) := by decide +kernel
theorem d_U_init_31 : decode b_U_init 31 = .ok (.newarray .long, 2) := by decide +kernel
theorem d_U_init_33 : decode b_U_init 33 = .ok (.putfield 22, 3) := by decide +kernel
theorem d_U_init_36 : decode b_U_init 36 = .ok (.aload_n 0, 1) := by decide +kernel
theorem d_U_init_37 : decode b_U_init 37 = .ok (.bipush 12, 2) := by decide +kernel
theorem d_U_init_39 : decode b_U_init 39 = .ok (.newarray .long, 2) := by decide +kernel
theorem d_U_init_41 : decode b_U_init 41 = .ok (.putfield 25, 3) := by decide +kernel
theorem d_U_init_44 : decode b_U_init 44 = .ok (.aload_n 0, 1) := by decide +kernel
theorem d_U_init_45 : decode b_U_init 45 = .ok (.aload_n 1, 1) := by decide +kernel
theorem d_U_init_46 : decode b_U_init 46 = .ok (.putfield 28, 3) := by decide +kernel
theorem d_U_init_49 : decode b_U_init 49 = .ok (.return_, 1) := by decide +kernel
theorem d_U_follow_0 : decode b_U_follow 0 = .ok (.aload_n 0, 1) := by decide +kernel
theorem d_U_follow_1 : decode b_U_follow 1 = .ok (.getfield 22, 3) := by decide +kernel
theorem d_U_follow_4 : decode b_U_follow 4 = .ok (.lconst 0, 1) := by decide +kernel
theorem d_U_follow_5 : decode b_U_follow 5 = .ok (.invokestatic 32, 3) := by decide +kernel
theorem d_U_follow_8 : decode b_U_follow 8 = .ok (.iconst 0, 1) := by decide +kernel
theorem d_U_follow_9 : decode b_U_follow 9 = .ok (.istore_n 2, 1) := by decide +kernel
theorem d_U_follow_10 : decode b_U_follow 10 = .ok (.iload_n 2, 1) := by decide +kernel
theorem d_U_follow_11 : decode b_U_follow 11 = .ok (.bipush 24, 2) := by decide +kernel
theorem d_U_follow_13 : decode b_U_follow 13 = .ok (.if_icmp .ge 62, 3) := by decide +kernel
theorem d_U_follow_16 : decode b_U_follow 16 = .ok (.aload_n 0, 1) := by decide +kernel
theorem d_U_follow_17 : decode b_U_follow 17 = .ok (.getfield 19, 3) := by decide +kernel
theorem d_U_follow_20 : decode b_U_follow 20 = .ok (.iload_n 2, 1) := by decide +kernel
theorem d_U_follow_21 : decode b_U_follow 21 = .ok (.aload_n 0, 1) := by decide +kernel
theorem d_U_follow_22 : decode b_U_follow 22 = .ok (.getfield 28, 3) := by decide +kernel
theorem d_U_follow_25 : decode b_U_follow 25 = .ok (.iload_n 2, 1) := by decide +kernel
theorem d_U_follow_26 : decode b_U_follow 26 = .ok (.invokevirtual 38, 3) := by decide +kernel
theorem d_U_follow_29 : decode b_U_follow 29 = .ok (.ifCond .eq 15, 3) := by decide +kernel
theorem d_U_follow_32 : decode b_U_follow 32 = .ok (.aload_n 0, 1) := by decide +kernel
theorem d_U_follow_33 : decode b_U_follow 33 = .ok (.getfield 28, 3) := by decide +kernel
theorem d_U_follow_36 : decode b_U_follow 36 = .ok (.iload_n 2, 1) := by decide +kernel
theorem d_U_follow_37 : decode b_U_follow 37 = .ok (.aload_n 1, 1) := by decide +kernel
theorem d_U_follow_38 : decode b_U_follow 38 = .ok (.invokevirtual 44, 3) := by decide +kernel
theorem d_U_follow_41 : decode b_U_follow 41 = .ok (.goto 4, 3) := by decide +kernel
theorem d_U_follow_44 : decode b_U_follow 44 = .ok (.iconst 0, 1) := by decide +kernel
theorem d_U_follow_45 : decode b_U_follow 45 = .ok (.iastore, 1) := by decide +kernel
theorem d_U_follow_46 : decode b_U_follow 46 = .ok (.aload_n 0, 1) := by decide +kernel
theorem d_U_follow_47 : decode b_U_follow 47 = .ok (.getfield 22, 3) := by decide +kernel
theorem d_U_follow_50 : decode b_U_follow 50 = .ok (.aload_n 0, 1) := by decide +kernel
theorem d_U_follow_51 : decode b_U_follow 51 = .ok (.iload_n 2, 1) := by decide +kernel
theorem d_U_follow_52 : decode b_U_follow 52 = .ok (.invokevirtual 48, 3) := by decide +kernel
theorem d_U_follow_55 : decode b_U_follow 55 = .ok (.dup2, 1) := by decide +kernel
theorem d_U_follow_56 : decode b_U_follow 56 = .ok (.laload, 1) := by decide +kernel
theorem d_U_follow_57 : decode b_U_follow 57 = .ok (.aload_n 0, 1) := by decide +kernel
theorem d_U_follow_58 : decode b_U_follow 58 = .ok (.getfield 19, 3) := by decide +kernel
theorem d_U_follow_61 : decode b_U_follow 61 = .ok (.iload_n 2, 1) := by decide +kernel
theorem d_U_follow_62 : decode b_U_follow 62 = .ok (.iaload, 1) := by decide +kernel
theorem d_U_follow_63 : decode b_U_follow 63 = .ok (.invokestatic 52, 3) := by decide +kernel
theorem d_U_follow_66 : decode b_U_follow 66 = .ok (.i2l, 1) := by decide +kernel
theorem d_U_follow_67 : decode b_U_follow 67 = .ok (.ladd, 1) := by decide +kernel
theorem d_U_follow_68 : decode b_U_follow 68 = .ok (.lastore, 1) := by decide +kernel
theorem d_U_follow_69 : decode b_U_follow 69 = .ok (.iinc 2 1, 3) := by decide +kernel
theorem d_U_follow_72 : decode b_U_follow 72 = .ok (.goto (-62), 3) := by decide +kernel
theorem d_U_follow_75 : decode b_U_follow 75 = .ok (.iconst 0, 1) := by decide +kernel
theorem d_U_follow_76 : decode b_U_follow 76 = .ok (.istore_n 2, 1) := by decide +kernel
theorem d_U_follow_77 : decode b_U_follow 77 = .ok (.iload_n 2, 1) := by decide +kernel
theorem d_U_follow_78 : decode b_U_follow 78 = .ok (.aload_n 0, 1) := by decide +kernel
theorem d_U_follow_79 : decode b_U_follow 79 = .ok (.getfield 28, 3) := by decide +kernel
theorem d_U_follow_82 : decode b_U_follow 82 = .ok (.getfield 57, 3) := by decide +kernel
theorem d_U_follow_85 : decode b_U_follow 85 = .ok (.if_icmp .ge 40, 3) := by decide +kernel
theorem d_U_follow_88 : decode b_U_follow 88 = .ok (.aload_n 0, 1) := by decide +kernel
theorem d_U_follow_89 : decode b_U_follow 89 = .ok (.getfield 22, 3) := by decide +kernel
theorem d_U_follow_92 : decode b_U_follow 92 = .ok (.iload_n 2, 1) := by decide +kernel
theorem d_U_follow_93 : decode b_U_follow 93 = .ok (.invokestatic 61, 3) := by decide +kernel
theorem d_U_follow_96 : decode b_U_follow 96 = .ok (.aload_n 0, 1) := by decide +kernel
theorem d_U_follow_97 : decode b_U_follow 97 = .ok (.getfield 22, 3) := by decide +kernel
theorem d_U_follow_100 : decode b_U_follow 100 = .ok (.iload_n 2, 1) := by decide +kernel
theorem d_U_follow_101 : decode b_U_follow 101 = .ok (.invokestatic 61, 3) := by decide +kernel
theorem d_U_follow_104 : decode b_U_follow 104 = .ok (.laload, 1) := by decide +kernel
theorem d_U_follow_105 : decode b_U_follow 105 = .ok (.aload_n 0, 1) := by decide +kernel
theorem d_U_follow_106 : decode b_U_follow 106 = .ok (.getfield 28, 3) := by decide +kernel
theorem d_U_follow_109 : decode b_U_follow 109 = .ok (.getfield 64, 3) := by decide +kernel
theorem d_U_follow_112 : decode b_U_follow 112 = .ok (.iload_n 2, 1) := by decide +kernel
theorem d_U_follow_113 : decode b_U_follow 113 = .ok (.iaload, 1) := by decide +kernel
theorem d_U_follow_114 : decode b_U_follow 114 = .ok (.i2l, 1) := by decide +kernel
theorem d_U_follow_115 : decode b_U_follow 115 = .ok (.invokestatic 67, 3) := by decide +kernel
theorem d_U_follow_118 : decode b_U_follow 118 = .ok (.lastore, 1) := by decide +kernel
theorem d_U_follow_119 : decode b_U_follow 119 = .ok (.iinc 2 1, 3) := by decide +kernel
theorem d_U_follow_122 : decode b_U_follow 122 = .ok (.goto (-45), 3) := by decide +kernel
theorem d_U_follow_125 : decode b_U_follow 125 = .ok (.return_, 1) := by decide +kernel
theorem d_U_giverOf_0 : decode b_U_giverOf 0 = .ok (.aload_n 0, 1) := by decide +kernel
theorem d_U_giverOf_1 : decode b_U_giverOf 1 = .ok (.getfield 19, 3) := by decide +kernel
theorem d_U_giverOf_4 : decode b_U_giverOf 4 = .ok (.iload_n 1, 1) := by decide +kernel
theorem d_U_giverOf_5 : decode b_U_giverOf 5 = .ok (.iaload, 1) := by decide +kernel
theorem d_U_giverOf_6 : decode b_U_giverOf 6 = .ok (.ifCond .ge 15, 3) := by decide +kernel
theorem d_U_giverOf_9 : decode b_U_giverOf 9 = .ok (.aload_n 0, 1) := by decide +kernel
theorem d_U_giverOf_10 : decode b_U_giverOf 10 = .ok (.getfield 28, 3) := by decide +kernel
theorem d_U_giverOf_13 : decode b_U_giverOf 13 = .ok (.getfield 71, 3) := by decide +kernel
theorem d_U_giverOf_16 : decode b_U_giverOf 16 = .ok (.iload_n 1, 1) := by decide +kernel
theorem d_U_giverOf_17 : decode b_U_giverOf 17 = .ok (.iaload, 1) := by decide +kernel
theorem d_U_giverOf_18 : decode b_U_giverOf 18 = .ok (.goto 12, 3) := by decide +kernel
theorem d_U_giverOf_21 : decode b_U_giverOf 21 = .ok (.aload_n 0, 1) := by decide +kernel
theorem d_U_giverOf_22 : decode b_U_giverOf 22 = .ok (.getfield 28, 3) := by decide +kernel
theorem d_U_giverOf_25 : decode b_U_giverOf 25 = .ok (.getfield 74, 3) := by decide +kernel
theorem d_U_giverOf_28 : decode b_U_giverOf 28 = .ok (.iload_n 1, 1) := by decide +kernel
theorem d_U_giverOf_29 : decode b_U_giverOf 29 = .ok (.iaload, 1) := by decide +kernel
theorem d_U_giverOf_30 : decode b_U_giverOf 30 = .ok (.ireturn, 1) := by decide +kernel
theorem d_U_takerOf_0 : decode b_U_takerOf 0 = .ok (.aload_n 0, 1) := by decide +kernel
theorem d_U_takerOf_1 : decode b_U_takerOf 1 = .ok (.getfield 19, 3) := by decide +kernel
theorem d_U_takerOf_4 : decode b_U_takerOf 4 = .ok (.iload_n 1, 1) := by decide +kernel
theorem d_U_takerOf_5 : decode b_U_takerOf 5 = .ok (.iaload, 1) := by decide +kernel
theorem d_U_takerOf_6 : decode b_U_takerOf 6 = .ok (.ifCond .ge 15, 3) := by decide +kernel
theorem d_U_takerOf_9 : decode b_U_takerOf 9 = .ok (.aload_n 0, 1) := by decide +kernel
theorem d_U_takerOf_10 : decode b_U_takerOf 10 = .ok (.getfield 28, 3) := by decide +kernel
theorem d_U_takerOf_13 : decode b_U_takerOf 13 = .ok (.getfield 74, 3) := by decide +kernel
theorem d_U_takerOf_16 : decode b_U_takerOf 16 = .ok (.iload_n 1, 1) := by decide +kernel
theorem d_U_takerOf_17 : decode b_U_takerOf 17 = .ok (.iaload, 1) := by decide +kernel
theorem d_U_takerOf_18 : decode b_U_takerOf 18 = .ok (.goto 12, 3) := by decide +kernel
theorem d_U_takerOf_21 : decode b_U_takerOf 21 = .ok (.aload_n 0, 1) := by decide +kernel
theorem d_U_takerOf_22 : decode b_U_takerOf 22 = .ok (.getfield 28, 3) := by decide +kernel
theorem d_U_takerOf_25 : decode b_U_takerOf 25 = .ok (.getfield 71, 3) := by decide +kernel
theorem d_U_takerOf_28 : decode b_U_takerOf 28 = .ok (.iload_n 1, 1) := by decide +kernel
theorem d_U_takerOf_29 : decode b_U_takerOf 29 = .ok (.iaload, 1) := by decide +kernel
theorem d_U_takerOf_30 : decode b_U_takerOf 30 = .ok (.ireturn, 1) := by decide +kernel
theorem d_U_doesStep_0 : decode b_U_doesStep 0 = .ok (.aload_n 0, 1) := by decide +kernel
theorem d_U_doesStep_1 : decode b_U_doesStep 1 = .ok (.getfield 9, 3) := by decide +kernel
theorem d_U_doesStep_4 : decode b_U_doesStep 4 = .ok (.iconst 0, 1) := by decide +kernel
theorem d_U_doesStep_5 : decode b_U_doesStep 5 = .ok (.aload_n 0, 1) := by decide +kernel
theorem d_U_doesStep_6 : decode b_U_doesStep 6 = .ok (.getfield 25, 3) := by decide +kernel
theorem d_U_doesStep_9 : decode b_U_doesStep 9 = .ok (.iconst 0, 1) := by decide +kernel
theorem d_U_doesStep_10 : decode b_U_doesStep 10 = .ok (.bipush 12, 2) := by decide +kernel
theorem d_U_doesStep_12 : decode b_U_doesStep 12 = .ok (.invokestatic 77, 3) := by decide +kernel
theorem d_U_doesStep_15 : decode b_U_doesStep 15 = .ok (.iconst 0, 1) := by decide +kernel
theorem d_U_doesStep_16 : decode b_U_doesStep 16 = .ok (.istore_n 1, 1) := by decide +kernel
theorem d_U_doesStep_17 : decode b_U_doesStep 17 = .ok (.iload_n 1, 1) := by decide +kernel
theorem d_U_doesStep_18 : decode b_U_doesStep 18 = .ok (.bipush 24, 2) := by decide +kernel
theorem d_U_doesStep_20 : decode b_U_doesStep 20 = .ok (.if_icmp .ge 14, 3) := by decide +kernel
theorem d_U_doesStep_23 : decode b_U_doesStep 23 = .ok (.aload_n 0, 1) := by decide +kernel
theorem d_U_doesStep_24 : decode b_U_doesStep 24 = .ok (.iload_n 1, 1) := by decide +kernel
theorem d_U_doesStep_25 : decode b_U_doesStep 25 = .ok (.invokevirtual 83, 3) := by decide +kernel
theorem d_U_doesStep_28 : decode b_U_doesStep 28 = .ok (.iinc 1 1, 3) := by decide +kernel
theorem d_U_doesStep_31 : decode b_U_doesStep 31 = .ok (.goto (-14), 3) := by decide +kernel
theorem d_U_doesStep_34 : decode b_U_doesStep 34 = .ok (.iconst 4, 1) := by decide +kernel
theorem d_U_doesStep_35 : decode b_U_doesStep 35 = .ok (.istore_n 1, 1) := by decide +kernel
theorem d_U_doesStep_36 : decode b_U_doesStep 36 = .ok (.iload_n 1, 1) := by decide +kernel
theorem d_U_doesStep_37 : decode b_U_doesStep 37 = .ok (.bipush 12, 2) := by decide +kernel
theorem d_U_doesStep_39 : decode b_U_doesStep 39 = .ok (.if_icmp .ge 40, 3) := by decide +kernel
theorem d_U_doesStep_42 : decode b_U_doesStep 42 = .ok (.aload_n 0, 1) := by decide +kernel
theorem d_U_doesStep_43 : decode b_U_doesStep 43 = .ok (.getfield 25, 3) := by decide +kernel
theorem d_U_doesStep_46 : decode b_U_doesStep 46 = .ok (.iload_n 1, 1) := by decide +kernel
theorem d_U_doesStep_47 : decode b_U_doesStep 47 = .ok (.dup2, 1) := by decide +kernel
theorem d_U_doesStep_48 : decode b_U_doesStep 48 = .ok (.laload, 1) := by decide +kernel
theorem d_U_doesStep_49 : decode b_U_doesStep 49 = .ok (.aload_n 0, 1) := by decide +kernel
theorem d_U_doesStep_50 : decode b_U_doesStep 50 = .ok (.getfield 15, 3) := by decide +kernel
theorem d_U_doesStep_53 : decode b_U_doesStep 53 = .ok (.iload_n 1, 1) := by decide +kernel
theorem d_U_doesStep_54 : decode b_U_doesStep 54 = .ok (.iaload, 1) := by decide +kernel
theorem d_U_doesStep_55 : decode b_U_doesStep 55 = .ok (.i2l, 1) := by decide +kernel
theorem d_U_doesStep_56 : decode b_U_doesStep 56 = .ok (.ladd, 1) := by decide +kernel
theorem d_U_doesStep_57 : decode b_U_doesStep 57 = .ok (.lastore, 1) := by decide +kernel
theorem d_U_doesStep_58 : decode b_U_doesStep 58 = .ok (.aload_n 0, 1) := by decide +kernel
theorem d_U_doesStep_59 : decode b_U_doesStep 59 = .ok (.getfield 25, 3) := by decide +kernel
theorem d_U_doesStep_62 : decode b_U_doesStep 62 = .ok (.iload_n 1, 1) := by decide +kernel
theorem d_U_doesStep_63 : decode b_U_doesStep 63 = .ok (.laload, 1) := by decide +kernel
theorem d_U_doesStep_64 : decode b_U_doesStep 64 = .ok (.ldc2_w 87, 3) := by decide +kernel
theorem d_U_doesStep_67 : decode b_U_doesStep 67 = .ok (.lcmp, 1) := by decide +kernel
theorem d_U_doesStep_68 : decode b_U_doesStep 68 = .ok (.ifCond .le 5, 3) := by decide +kernel
theorem d_U_doesStep_71 : decode b_U_doesStep 71 = .ok (.iconst 0, 1) := by decide +kernel
theorem d_U_doesStep_72 : decode b_U_doesStep 72 = .ok (.ireturn, 1) := by decide +kernel
theorem d_U_doesStep_73 : decode b_U_doesStep 73 = .ok (.iinc 1 1, 3) := by decide +kernel
theorem d_U_doesStep_76 : decode b_U_doesStep 76 = .ok (.goto (-40), 3) := by decide +kernel
theorem d_U_doesStep_79 : decode b_U_doesStep 79 = .ok (.aload_n 0, 1) := by decide +kernel
theorem d_U_doesStep_80 : decode b_U_doesStep 80 = .ok (.getfield 25, 3) := by decide +kernel
theorem d_U_doesStep_83 : decode b_U_doesStep 83 = .ok (.iconst 0, 1) := by decide +kernel
theorem d_U_doesStep_84 : decode b_U_doesStep 84 = .ok (.aload_n 0, 1) := by decide +kernel
theorem d_U_doesStep_85 : decode b_U_doesStep 85 = .ok (.getfield 9, 3) := by decide +kernel
theorem d_U_doesStep_88 : decode b_U_doesStep 88 = .ok (.iconst 0, 1) := by decide +kernel
theorem d_U_doesStep_89 : decode b_U_doesStep 89 = .ok (.bipush 12, 2) := by decide +kernel
theorem d_U_doesStep_91 : decode b_U_doesStep 91 = .ok (.invokestatic 77, 3) := by decide +kernel
theorem d_U_doesStep_94 : decode b_U_doesStep 94 = .ok (.iconst 1, 1) := by decide +kernel
theorem d_U_doesStep_95 : decode b_U_doesStep 95 = .ok (.ireturn, 1) := by decide +kernel
theorem d_U_carry_0 : decode b_U_carry 0 = .ok (.aload_n 0, 1) := by decide +kernel
theorem d_U_carry_1 : decode b_U_carry 1 = .ok (.iload_n 1, 1) := by decide +kernel
theorem d_U_carry_2 : decode b_U_carry 2 = .ok (.invokevirtual 48, 3) := by decide +kernel
theorem d_U_carry_5 : decode b_U_carry 5 = .ok (.istore_n 2, 1) := by decide +kernel
theorem d_U_carry_6 : decode b_U_carry 6 = .ok (.aload_n 0, 1) := by decide +kernel
theorem d_U_carry_7 : decode b_U_carry 7 = .ok (.getfield 19, 3) := by decide +kernel
theorem d_U_carry_10 : decode b_U_carry 10 = .ok (.iload_n 1, 1) := by decide +kernel
theorem d_U_carry_11 : decode b_U_carry 11 = .ok (.iaload, 1) := by decide +kernel
theorem d_U_carry_12 : decode b_U_carry 12 = .ok (.ifCond .eq 19, 3) := by decide +kernel
theorem d_U_carry_15 : decode b_U_carry 15 = .ok (.iload_n 2, 1) := by decide +kernel
theorem d_U_carry_16 : decode b_U_carry 16 = .ok (.iconst 4, 1) := by decide +kernel
theorem d_U_carry_17 : decode b_U_carry 17 = .ok (.if_icmp .lt 14, 3) := by decide +kernel
theorem d_U_carry_20 : decode b_U_carry 20 = .ok (.aload_n 0, 1) := by decide +kernel
theorem d_U_carry_21 : decode b_U_carry 21 = .ok (.getfield 22, 3) := by decide +kernel
theorem d_U_carry_24 : decode b_U_carry 24 = .ok (.iload_n 2, 1) := by decide +kernel
theorem d_U_carry_25 : decode b_U_carry 25 = .ok (.laload, 1) := by decide +kernel
theorem d_U_carry_26 : decode b_U_carry 26 = .ok (.lconst 0, 1) := by decide +kernel
theorem d_U_carry_27 : decode b_U_carry 27 = .ok (.lcmp, 1) := by decide +kernel
theorem d_U_carry_28 : decode b_U_carry 28 = .ok (.ifCond .gt 4, 3) := by decide +kernel
theorem d_U_carry_31 : decode b_U_carry 31 = .ok (.return_, 1) := by decide +kernel
theorem d_U_carry_32 : decode b_U_carry 32 = .ok (.aload_n 0, 1) := by decide +kernel
theorem d_U_carry_33 : decode b_U_carry 33 = .ok (.getfield 9, 3) := by decide +kernel
theorem d_U_carry_36 : decode b_U_carry 36 = .ok (.iload_n 2, 1) := by decide +kernel
theorem d_U_carry_37 : decode b_U_carry 37 = .ok (.laload, 1) := by decide +kernel
theorem d_U_carry_38 : decode b_U_carry 38 = .ok (.aload_n 0, 1) := by decide +kernel
theorem d_U_carry_39 : decode b_U_carry 39 = .ok (.getfield 19, 3) := by decide +kernel
theorem d_U_carry_42 : decode b_U_carry 42 = .ok (.iload_n 1, 1) := by decide +kernel
theorem d_U_carry_43 : decode b_U_carry 43 = .ok (.iaload, 1) := by decide +kernel
theorem d_U_carry_44 : decode b_U_carry 44 = .ok (.invokestatic 52, 3) := by decide +kernel
theorem d_U_carry_47 : decode b_U_carry 47 = .ok (.i2l, 1) := by decide +kernel
theorem d_U_carry_48 : decode b_U_carry 48 = .ok (.lmul, 1) := by decide +kernel
theorem d_U_carry_49 : decode b_U_carry 49 = .ok (.aload_n 0, 1) := by decide +kernel
theorem d_U_carry_50 : decode b_U_carry 50 = .ok (.getfield 22, 3) := by decide +kernel
theorem d_U_carry_53 : decode b_U_carry 53 = .ok (.iload_n 2, 1) := by decide +kernel
theorem d_U_carry_54 : decode b_U_carry 54 = .ok (.laload, 1) := by decide +kernel
theorem d_U_carry_55 : decode b_U_carry 55 = .ok (.ldiv, 1) := by decide +kernel
theorem d_U_carry_56 : decode b_U_carry 56 = .ok (.lstore_n 3, 1) := by decide +kernel
theorem d_U_carry_57 : decode b_U_carry 57 = .ok (.aload_n 0, 1) := by decide +kernel
theorem d_U_carry_58 : decode b_U_carry 58 = .ok (.getfield 25, 3) := by decide +kernel
theorem d_U_carry_61 : decode b_U_carry 61 = .ok (.iload_n 2, 1) := by decide +kernel
theorem d_U_carry_62 : decode b_U_carry 62 = .ok (.dup2, 1) := by decide +kernel
theorem d_U_carry_63 : decode b_U_carry 63 = .ok (.laload, 1) := by decide +kernel
theorem d_U_carry_64 : decode b_U_carry 64 = .ok (.lload_n 3, 1) := by decide +kernel
theorem d_U_carry_65 : decode b_U_carry 65 = .ok (.lsub, 1) := by decide +kernel
theorem d_U_carry_66 : decode b_U_carry 66 = .ok (.lastore, 1) := by decide +kernel
theorem d_U_carry_67 : decode b_U_carry 67 = .ok (.aload_n 0, 1) := by decide +kernel
theorem d_U_carry_68 : decode b_U_carry 68 = .ok (.getfield 25, 3) := by decide +kernel
theorem d_U_carry_71 : decode b_U_carry 71 = .ok (.aload_n 0, 1) := by decide +kernel
theorem d_U_carry_72 : decode b_U_carry 72 = .ok (.iload_n 1, 1) := by decide +kernel
theorem d_U_carry_73 : decode b_U_carry 73 = .ok (.invokevirtual 89, 3) := by decide +kernel
theorem d_U_carry_76 : decode b_U_carry 76 = .ok (.dup2, 1) := by decide +kernel
theorem d_U_carry_77 : decode b_U_carry 77 = .ok (.laload, 1) := by decide +kernel
theorem d_U_carry_78 : decode b_U_carry 78 = .ok (.lload_n 3, 1) := by decide +kernel
theorem d_U_carry_79 : decode b_U_carry 79 = .ok (.ladd, 1) := by decide +kernel
theorem d_U_carry_80 : decode b_U_carry 80 = .ok (.lastore, 1) := by decide +kernel
theorem d_U_carry_81 : decode b_U_carry 81 = .ok (.return_, 1) := by decide +kernel
end
section
/-! ints and longs by whole numbers -/
def iI (z : Int) : Int32 := Int32.ofInt z
def lI (z : Int) : Int64 := Int64.ofInt z
def i3 (z : Int) : Prop := -2147483648 ≤ z ∧ z ≤ 2147483647
def i6 (z : Int) : Prop := -9223372036854775808 ≤ z ∧ z ≤ 9223372036854775807
theorem iI_t {z : Int} (h : i3 z) : (iI z).toInt = z := by
  obtain ⟨h1, h2⟩ := h
  exact Int32.toInt_ofInt_of_le (by omega) (by omega)
theorem lI_t {z : Int} (h : i6 z) : (lI z).toInt = z := by
  obtain ⟨h1, h2⟩ := h
  exact Int64.toInt_ofInt_of_le (by omega) (by omega)
theorem iI_of (x : Int32) : iI x.toInt = x := Int32.ofInt_toInt x
theorem lI_of (x : Int64) : lI x.toInt = x := Int64.ofInt_toInt x
theorem iI_r (x : Int32) : i3 x.toInt := by
  have h1 := Int32.le_toInt x
  have h2 := Int32.toInt_lt x
  exact ⟨by omega, by omega⟩
theorem lI_r (x : Int64) : i6 x.toInt := by
  have h1 := Int64.le_toInt x
  have h2 := Int64.toInt_lt x
  exact ⟨by omega, by omega⟩
theorem iI_lt {A B : Int} (hA : i3 A) (hB : i3 B) : iI A < iI B ↔ A < B := by rw [Int32.lt_iff_toInt_lt, iI_t hA, iI_t hB]
theorem iI_le {A B : Int} (hA : i3 A) (hB : i3 B) : iI A ≤ iI B ↔ A ≤ B := by rw [Int32.le_iff_toInt_le, iI_t hA, iI_t hB]
theorem iI_eq {A B : Int} (hA : i3 A) (hB : i3 B) : iI A = iI B ↔ A = B := ⟨fun h => by rw [← iI_t hA, h, iI_t hB], fun h => by rw [h]⟩
theorem lI_lt {A B : Int} (hA : i6 A) (hB : i6 B) : lI A < lI B ↔ A < B := by rw [Int64.lt_iff_toInt_lt, lI_t hA, lI_t hB]
theorem lI_le {A B : Int} (hA : i6 A) (hB : i6 B) : lI A ≤ lI B ↔ A ≤ B := by rw [Int64.le_iff_toInt_le, lI_t hA, lI_t hB]
theorem lI_eq {A B : Int} (hA : i6 A) (hB : i6 B) : lI A = lI B ↔ A = B := ⟨fun h => by rw [← lI_t hA, h, lI_t hB], fun h => by rw [h]⟩
theorem i3_of {A : Int} (h1 : -2147483648 ≤ A) (h2 : A ≤ 2147483647) : i3 A := ⟨h1, h2⟩
theorem i6_of {A : Int} (h1 : -9223372036854775808 ≤ A) (h2 : A ≤ 9223372036854775807) : i6 A := ⟨h1, h2⟩
theorem iI_0 : iI 0 = 0 := by decide
theorem i3_0 : i3 0 := ⟨by omega, by omega⟩
theorem iI_l {A : Int} (h : i3 A) : (iI A).toInt64 = lI A := by
  rw [← Int64.toInt_inj, Int32.toInt_toInt64, iI_t h, lI_t]
  obtain ⟨h1, h2⟩ := h
  exact ⟨by omega, by omega⟩
theorem lI_i (A : Int) : (lI A).toInt32 = iI A := by
  unfold lI iI
  simp
theorem iI_nat (n : Nat) : iI (n : Int) = Int32.ofNat n := Int32.ofInt_eq_ofNat
theorem iI_clamp {V : Int} (h0 : 0 ≤ V) (h1 : V ≤ 2147483647) : (iI V).toNatClampNeg = V.toNat := by
  have h2 := iI_t (z := V) ⟨by omega, h1⟩
  show (iI V).toInt.toNat = V.toNat
  rw [h2]
theorem iI_in {V : Int} {n : Nat} (hn : n ≤ 2147483647) (h0 : 0 ≤ V) (h1 : V < n) : vp_in (iI V) n := by
  rw [vp_in_iff, iI_t ⟨by omega, by omega⟩]
  exact ⟨h0, h1⟩
theorem iI_add (A B : Int) : iI (A + B) = iI A + iI B := Int32.ofInt_add A B
theorem iI_sub (A B : Int) : iI (A - B) = iI A - iI B := Int32.ofInt_sub A B
theorem iI_mul (A B : Int) : iI (A * B) = iI A * iI B := Int32.ofInt_mul A B
theorem iI_neg (A : Int) : iI (-A) = -iI A := Int32.ofInt_neg A
theorem lI_add (A B : Int) : lI (A + B) = lI A + lI B := Int64.ofInt_add A B
theorem lI_sub (A B : Int) : lI (A - B) = lI A - lI B := Int64.ofInt_sub A B
theorem lI_mul (A B : Int) : lI (A * B) = lI A * lI B := Int64.ofInt_mul A B
theorem lI_neg (A : Int) : lI (-A) = -lI A := Int64.ofInt_neg A
theorem iI_div {A B : Int} (hA : i3 A) (hB : i3 B) : iI (A.tdiv B) = iI A / iI B := Int32.ofInt_tdiv (by have := hA.1; exact this) (by have := hA.2; exact this) (by have := hB.1; exact this) (by have := hB.2; exact this)
theorem lI_div {A B : Int} (hA : i6 A) (hB : i6 B) : lI (A.tdiv B) = lI A / lI B := Int64.ofInt_tdiv (by have := hA.1; exact this) (by have := hA.2; exact this) (by have := hB.1; exact this) (by have := hB.2; exact this)
/-- an array's contents by whole numbers, one place changed -/
def pu (f : Int → Int) (k : Int) (v : Int) : Int → Int := fun j => if j = k then v else f j
theorem pu_s (f : Int → Int) (k v : Int) : pu f k v k = v := if_pos rfl
theorem pu_n (f : Int → Int) {k j : Int} (v : Int) (h : j ≠ k) : pu f k v j = f j := if_neg h
def ai (f : Int → Int) : Nat → Int32 := fun j => iI (f (j : Int))
def al (f : Int → Int) : Nat → Int64 := fun j => lI (f (j : Int))
theorem ai_at (f : Int → Int) {V : Int} (h0 : 0 ≤ V) : ai f V.toNat = iI (f V) := by unfold ai; rw [Int.toNat_of_nonneg h0]
theorem al_at (f : Int → Int) {V : Int} (h0 : 0 ≤ V) : al f V.toNat = lI (f V) := by unfold al; rw [Int.toNat_of_nonneg h0]
theorem ai_up (f : Int → Int) {V : Int} (x : Int) (h0 : 0 ≤ V) : upd (ai f) V.toNat (iI x) = ai (pu f V x) := by
  funext j
  unfold upd ai pu
  by_cases h : j = V.toNat
  · rw [if_pos h, if_pos (by omega)]
  · rw [if_neg h, if_neg (by omega)]
theorem al_up (f : Int → Int) {V : Int} (x : Int) (h0 : 0 ≤ V) : vp_updL (al f) V.toNat (lI x) = al (pu f V x) := by
  funext j
  unfold vp_updL al pu
  by_cases h : j = V.toNat
  · rw [if_pos h, if_pos (by omega)]
  · rw [if_neg h, if_neg (by omega)]
section PR
variable {p : Program} {l : Launch} {e : Env} {R : Room} {s : State} {m : MethodId} {args : Array Value} {below : List Frame} {meth : Method} {c : Code} {H : Heap} {locs : List Loc} {cells slots : Nat} {Q : State → Prop}
variable {cc : ByteArray} {pc : Nat} {ls : Array Slot} {rest : List Value} {D : va_G} {cl : List vw_C} {A0 : Nat → Prop} {a : Nat} {tys : List (ClassId × FieldType)} {ws : va_W} {H0 : Heap}
theorem pr_iadd (hx : p.tables.exec = Jvm.exec) (hb : c.code = cc) {A B : Int} (hd : decode cc pc = .ok (.iadd, 1)) (k : W p l e R s m args below meth c H locs cells slots Q (F0 m (pc + 1) ls (.int (iI (A + B)) :: rest))) : W p l e R s m args below meth c H locs cells slots Q (F0 m pc ls (.int (iI B) :: .int (iI A) :: rest)) := lv_iadd hx hb hd (by rw [← iI_add]; exact k)
theorem pr_isub (hx : p.tables.exec = Jvm.exec) (hb : c.code = cc) {A B : Int} (hd : decode cc pc = .ok (.isub, 1)) (k : W p l e R s m args below meth c H locs cells slots Q (F0 m (pc + 1) ls (.int (iI (A - B)) :: rest))) : W p l e R s m args below meth c H locs cells slots Q (F0 m pc ls (.int (iI B) :: .int (iI A) :: rest)) := lv_isub hx hb hd (by rw [← iI_sub]; exact k)
theorem pr_imul (hx : p.tables.exec = Jvm.exec) (hb : c.code = cc) {A B : Int} (hd : decode cc pc = .ok (.imul, 1)) (k : W p l e R s m args below meth c H locs cells slots Q (F0 m (pc + 1) ls (.int (iI (A * B)) :: rest))) : W p l e R s m args below meth c H locs cells slots Q (F0 m pc ls (.int (iI B) :: .int (iI A) :: rest)) := lv_imul hx hb hd (by rw [← iI_mul]; exact k)
theorem pr_ladd (hx : p.tables.exec = Jvm.exec) (hb : c.code = cc) {A B : Int} (hd : decode cc pc = .ok (.ladd, 1)) (k : W p l e R s m args below meth c H locs cells slots Q (F0 m (pc + 1) ls (.long (lI (A + B)) :: rest))) : W p l e R s m args below meth c H locs cells slots Q (F0 m pc ls (.long (lI B) :: .long (lI A) :: rest)) := lv_ladd hx hb hd (by rw [← lI_add]; exact k)
theorem pr_lsub (hx : p.tables.exec = Jvm.exec) (hb : c.code = cc) {A B : Int} (hd : decode cc pc = .ok (.lsub, 1)) (k : W p l e R s m args below meth c H locs cells slots Q (F0 m (pc + 1) ls (.long (lI (A - B)) :: rest))) : W p l e R s m args below meth c H locs cells slots Q (F0 m pc ls (.long (lI B) :: .long (lI A) :: rest)) := lv_lsub hx hb hd (by rw [← lI_sub]; exact k)
theorem pr_lmul (hx : p.tables.exec = Jvm.exec) (hb : c.code = cc) {A B : Int} (hd : decode cc pc = .ok (.lmul, 1)) (k : W p l e R s m args below meth c H locs cells slots Q (F0 m (pc + 1) ls (.long (lI (A * B)) :: rest))) : W p l e R s m args below meth c H locs cells slots Q (F0 m pc ls (.long (lI B) :: .long (lI A) :: rest)) := lv_lmul hx hb hd (by rw [← lI_mul]; exact k)
theorem pr_ineg (hx : p.tables.exec = Jvm.exec) (hb : c.code = cc) {A : Int} (hd : decode cc pc = .ok (.ineg, 1)) (k : W p l e R s m args below meth c H locs cells slots Q (F0 m (pc + 1) ls (.int (iI (-A)) :: rest))) : W p l e R s m args below meth c H locs cells slots Q (F0 m pc ls (.int (iI A) :: rest)) := lv_ineg hx hb hd (by rw [← iI_neg]; exact k)
theorem pr_lneg (hx : p.tables.exec = Jvm.exec) (hb : c.code = cc) {A : Int} (hd : decode cc pc = .ok (.lneg, 1)) (k : W p l e R s m args below meth c H locs cells slots Q (F0 m (pc + 1) ls (.long (lI (-A)) :: rest))) : W p l e R s m args below meth c H locs cells slots Q (F0 m pc ls (.long (lI A) :: rest)) := lv_lneg hx hb hd (by rw [← lI_neg]; exact k)
theorem pr_idiv (hx : p.tables.exec = Jvm.exec) (hb : c.code = cc) {A B : Int} (hA : i3 A) (hB : i3 B) (hz : B ≠ 0) (hd : decode cc pc = .ok (.idiv, 1)) (k : W p l e R s m args below meth c H locs cells slots Q (F0 m (pc + 1) ls (.int (iI (A.tdiv B)) :: rest))) : W p l e R s m args below meth c H locs cells slots Q (F0 m pc ls (.int (iI B) :: .int (iI A) :: rest)) := lv_idiv hx hb hd (fun q => hz (by rw [← iI_t hB, q]; rfl)) (by rw [← iI_div hA hB]; exact k)
theorem pr_ldiv (hx : p.tables.exec = Jvm.exec) (hb : c.code = cc) {A B : Int} (hA : i6 A) (hB : i6 B) (hz : B ≠ 0) (hd : decode cc pc = .ok (.ldiv, 1)) (k : W p l e R s m args below meth c H locs cells slots Q (F0 m (pc + 1) ls (.long (lI (A.tdiv B)) :: rest))) : W p l e R s m args below meth c H locs cells slots Q (F0 m pc ls (.long (lI B) :: .long (lI A) :: rest)) := lv_ldiv hx hb hd (fun q => hz (by rw [← lI_t hB, q]; rfl)) (by rw [← lI_div hA hB]; exact k)
theorem pr_i2l (hx : p.tables.exec = Jvm.exec) (hb : c.code = cc) {A : Int} (hA : i3 A) (hd : decode cc pc = .ok (.i2l, 1)) (k : W p l e R s m args below meth c H locs cells slots Q (F0 m (pc + 1) ls (.long (lI A) :: rest))) : W p l e R s m args below meth c H locs cells slots Q (F0 m pc ls (.int (iI A) :: rest)) := lv_i2l hx hb hd (iI_l hA) k
theorem pr_l2i (hx : p.tables.exec = Jvm.exec) (hb : c.code = cc) {A : Int} (hd : decode cc pc = .ok (.l2i, 1)) (k : W p l e R s m args below meth c H locs cells slots Q (F0 m (pc + 1) ls (.int (iI A) :: rest))) : W p l e R s m args below meth c H locs cells slots Q (F0 m pc ls (.long (lI A) :: rest)) := lv_l2i hx hb hd (lI_i A) k
theorem pr_icmp_eq (hx : p.tables.exec = Jvm.exec) (hb : c.code = cc) {A B : Int} {off : Int} {tgt : Nat} (hA : i3 A) (hB : i3 B) (hd : decode cc pc = .ok (.if_icmp .eq off, 3)) (ht : (pc : Int) + off = (tgt : Int)) (kt : A = B → W p l e R s m args below meth c H locs cells slots Q (F0 m tgt ls (rest))) (kf : A ≠ B → W p l e R s m args below meth c H locs cells slots Q (F0 m (pc + 3) ls (rest))) : W p l e R s m args below meth c H locs cells slots Q (F0 m pc ls (.int (iI B) :: .int (iI A) :: rest)) := lv_icmp_eq hx hb hd ht (fun q => kt ((iI_eq hA hB).mp q)) (fun q => kf (fun z => q ((iI_eq hA hB).mpr z)))
theorem pr_if_eq (hx : p.tables.exec = Jvm.exec) (hb : c.code = cc) {A : Int} {off : Int} {tgt : Nat} (hA : i3 A) (hd : decode cc pc = .ok (.ifCond .eq off, 3)) (ht : (pc : Int) + off = (tgt : Int)) (kt : A = 0 → W p l e R s m args below meth c H locs cells slots Q (F0 m tgt ls (rest))) (kf : A ≠ 0 → W p l e R s m args below meth c H locs cells slots Q (F0 m (pc + 3) ls (rest))) : W p l e R s m args below meth c H locs cells slots Q (F0 m pc ls (.int (iI A) :: rest)) := lv_if_eq hx hb hd ht (fun q => kt ((iI_eq hA i3_0).mp (by rw [iI_0]; exact q))) (fun q => kf (fun z => q (by rw [← iI_0]; exact (iI_eq hA i3_0).mpr z)))
theorem pr_icmp_ne (hx : p.tables.exec = Jvm.exec) (hb : c.code = cc) {A B : Int} {off : Int} {tgt : Nat} (hA : i3 A) (hB : i3 B) (hd : decode cc pc = .ok (.if_icmp .ne off, 3)) (ht : (pc : Int) + off = (tgt : Int)) (kt : A ≠ B → W p l e R s m args below meth c H locs cells slots Q (F0 m tgt ls (rest))) (kf : A = B → W p l e R s m args below meth c H locs cells slots Q (F0 m (pc + 3) ls (rest))) : W p l e R s m args below meth c H locs cells slots Q (F0 m pc ls (.int (iI B) :: .int (iI A) :: rest)) := lv_icmp_ne hx hb hd ht (fun q => kt (fun z => q ((iI_eq hA hB).mpr z))) (fun q => kf ((iI_eq hA hB).mp q))
theorem pr_if_ne (hx : p.tables.exec = Jvm.exec) (hb : c.code = cc) {A : Int} {off : Int} {tgt : Nat} (hA : i3 A) (hd : decode cc pc = .ok (.ifCond .ne off, 3)) (ht : (pc : Int) + off = (tgt : Int)) (kt : A ≠ 0 → W p l e R s m args below meth c H locs cells slots Q (F0 m tgt ls (rest))) (kf : A = 0 → W p l e R s m args below meth c H locs cells slots Q (F0 m (pc + 3) ls (rest))) : W p l e R s m args below meth c H locs cells slots Q (F0 m pc ls (.int (iI A) :: rest)) := lv_if_ne hx hb hd ht (fun q => kt (fun z => q (by rw [← iI_0]; exact (iI_eq hA i3_0).mpr z))) (fun q => kf ((iI_eq hA i3_0).mp (by rw [iI_0]; exact q)))
theorem pr_icmp_lt (hx : p.tables.exec = Jvm.exec) (hb : c.code = cc) {A B : Int} {off : Int} {tgt : Nat} (hA : i3 A) (hB : i3 B) (hd : decode cc pc = .ok (.if_icmp .lt off, 3)) (ht : (pc : Int) + off = (tgt : Int)) (kt : A < B → W p l e R s m args below meth c H locs cells slots Q (F0 m tgt ls (rest))) (kf : B ≤ A → W p l e R s m args below meth c H locs cells slots Q (F0 m (pc + 3) ls (rest))) : W p l e R s m args below meth c H locs cells slots Q (F0 m pc ls (.int (iI B) :: .int (iI A) :: rest)) := lv_icmp_lt hx hb hd ht (fun q => kt ((iI_lt hA hB).mp q)) (fun q => kf (Int.not_lt.mp (fun z => q ((iI_lt hA hB).mpr z))))
theorem pr_if_lt (hx : p.tables.exec = Jvm.exec) (hb : c.code = cc) {A : Int} {off : Int} {tgt : Nat} (hA : i3 A) (hd : decode cc pc = .ok (.ifCond .lt off, 3)) (ht : (pc : Int) + off = (tgt : Int)) (kt : A < 0 → W p l e R s m args below meth c H locs cells slots Q (F0 m tgt ls (rest))) (kf : 0 ≤ A → W p l e R s m args below meth c H locs cells slots Q (F0 m (pc + 3) ls (rest))) : W p l e R s m args below meth c H locs cells slots Q (F0 m pc ls (.int (iI A) :: rest)) := lv_if_lt hx hb hd ht (fun q => kt ((iI_lt hA i3_0).mp (by rw [iI_0]; exact q))) (fun q => kf (Int.not_lt.mp (fun z => q (by rw [← iI_0]; exact (iI_lt hA i3_0).mpr z))))
theorem pr_icmp_ge (hx : p.tables.exec = Jvm.exec) (hb : c.code = cc) {A B : Int} {off : Int} {tgt : Nat} (hA : i3 A) (hB : i3 B) (hd : decode cc pc = .ok (.if_icmp .ge off, 3)) (ht : (pc : Int) + off = (tgt : Int)) (kt : B ≤ A → W p l e R s m args below meth c H locs cells slots Q (F0 m tgt ls (rest))) (kf : A < B → W p l e R s m args below meth c H locs cells slots Q (F0 m (pc + 3) ls (rest))) : W p l e R s m args below meth c H locs cells slots Q (F0 m pc ls (.int (iI B) :: .int (iI A) :: rest)) := lv_icmp_ge hx hb hd ht (fun q => kt ((iI_le hB hA).mp q)) (fun q => kf (Int.not_le.mp (fun z => q ((iI_le hB hA).mpr z))))
theorem pr_if_ge (hx : p.tables.exec = Jvm.exec) (hb : c.code = cc) {A : Int} {off : Int} {tgt : Nat} (hA : i3 A) (hd : decode cc pc = .ok (.ifCond .ge off, 3)) (ht : (pc : Int) + off = (tgt : Int)) (kt : 0 ≤ A → W p l e R s m args below meth c H locs cells slots Q (F0 m tgt ls (rest))) (kf : A < 0 → W p l e R s m args below meth c H locs cells slots Q (F0 m (pc + 3) ls (rest))) : W p l e R s m args below meth c H locs cells slots Q (F0 m pc ls (.int (iI A) :: rest)) := lv_if_ge hx hb hd ht (fun q => kt ((iI_le i3_0 hA).mp (by rw [iI_0]; exact q))) (fun q => kf (Int.not_le.mp (fun z => q (by rw [← iI_0]; exact (iI_le i3_0 hA).mpr z))))
theorem pr_icmp_gt (hx : p.tables.exec = Jvm.exec) (hb : c.code = cc) {A B : Int} {off : Int} {tgt : Nat} (hA : i3 A) (hB : i3 B) (hd : decode cc pc = .ok (.if_icmp .gt off, 3)) (ht : (pc : Int) + off = (tgt : Int)) (kt : B < A → W p l e R s m args below meth c H locs cells slots Q (F0 m tgt ls (rest))) (kf : A ≤ B → W p l e R s m args below meth c H locs cells slots Q (F0 m (pc + 3) ls (rest))) : W p l e R s m args below meth c H locs cells slots Q (F0 m pc ls (.int (iI B) :: .int (iI A) :: rest)) := lv_icmp_gt hx hb hd ht (fun q => kt ((iI_lt hB hA).mp q)) (fun q => kf (Int.not_lt.mp (fun z => q ((iI_lt hB hA).mpr z))))
theorem pr_if_gt (hx : p.tables.exec = Jvm.exec) (hb : c.code = cc) {A : Int} {off : Int} {tgt : Nat} (hA : i3 A) (hd : decode cc pc = .ok (.ifCond .gt off, 3)) (ht : (pc : Int) + off = (tgt : Int)) (kt : 0 < A → W p l e R s m args below meth c H locs cells slots Q (F0 m tgt ls (rest))) (kf : A ≤ 0 → W p l e R s m args below meth c H locs cells slots Q (F0 m (pc + 3) ls (rest))) : W p l e R s m args below meth c H locs cells slots Q (F0 m pc ls (.int (iI A) :: rest)) := lv_if_gt hx hb hd ht (fun q => kt ((iI_lt i3_0 hA).mp (by rw [iI_0]; exact q))) (fun q => kf (Int.not_lt.mp (fun z => q (by rw [← iI_0]; exact (iI_lt i3_0 hA).mpr z))))
theorem pr_icmp_le (hx : p.tables.exec = Jvm.exec) (hb : c.code = cc) {A B : Int} {off : Int} {tgt : Nat} (hA : i3 A) (hB : i3 B) (hd : decode cc pc = .ok (.if_icmp .le off, 3)) (ht : (pc : Int) + off = (tgt : Int)) (kt : A ≤ B → W p l e R s m args below meth c H locs cells slots Q (F0 m tgt ls (rest))) (kf : B < A → W p l e R s m args below meth c H locs cells slots Q (F0 m (pc + 3) ls (rest))) : W p l e R s m args below meth c H locs cells slots Q (F0 m pc ls (.int (iI B) :: .int (iI A) :: rest)) := lv_icmp_le hx hb hd ht (fun q => kt ((iI_le hA hB).mp q)) (fun q => kf (Int.not_le.mp (fun z => q ((iI_le hA hB).mpr z))))
theorem pr_if_le (hx : p.tables.exec = Jvm.exec) (hb : c.code = cc) {A : Int} {off : Int} {tgt : Nat} (hA : i3 A) (hd : decode cc pc = .ok (.ifCond .le off, 3)) (ht : (pc : Int) + off = (tgt : Int)) (kt : A ≤ 0 → W p l e R s m args below meth c H locs cells slots Q (F0 m tgt ls (rest))) (kf : 0 < A → W p l e R s m args below meth c H locs cells slots Q (F0 m (pc + 3) ls (rest))) : W p l e R s m args below meth c H locs cells slots Q (F0 m pc ls (.int (iI A) :: rest)) := lv_if_le hx hb hd ht (fun q => kt ((iI_le hA i3_0).mp (by rw [iI_0]; exact q))) (fun q => kf (Int.not_le.mp (fun z => q (by rw [← iI_0]; exact (iI_le hA i3_0).mpr z))))
theorem pr_cmp_r (A B : Int) : i3 (if B < A then 1 else if A = B then 0 else -1) := by
  by_cases h : B < A
  · rw [if_pos h]; exact ⟨by omega, by omega⟩
  · rw [if_neg h]
    by_cases h2 : A = B
    · rw [if_pos h2]; exact ⟨by omega, by omega⟩
    · rw [if_neg h2]; exact ⟨by omega, by omega⟩
theorem pr_cmp_v (A B : Int) (hA : i6 A) (hB : i6 B) : lg_cmp (lI A) (lI B) = iI (if B < A then 1 else if A = B then 0 else -1) := by
  unfold lg_cmp
  by_cases h : B < A
  · rw [if_pos ((lI_lt hB hA).mpr h), if_pos h]; rfl
  · rw [if_neg (fun q => h ((lI_lt hB hA).mp q)), if_neg h]
    by_cases h2 : A = B
    · rw [if_pos ((lI_eq hA hB).mpr h2), if_pos h2]; rfl
    · rw [if_neg (fun q => h2 ((lI_eq hA hB).mp q)), if_neg h2]; rfl
theorem pr_lcmp_eq (hx : p.tables.exec = Jvm.exec) (hb : c.code = cc) {A B : Int} {off : Int} {tgt : Nat} (hA : i6 A) (hB : i6 B) (hd0 : decode cc pc = .ok (.lcmp, 1)) (hd : decode cc (pc + 1) = .ok (.ifCond .eq off, 3)) (ht : ((pc + 1 : Nat) : Int) + off = (tgt : Int)) (kt : A = B → W p l e R s m args below meth c H locs cells slots Q (F0 m tgt ls (rest))) (kf : A ≠ B → W p l e R s m args below meth c H locs cells slots Q (F0 m (pc + 4) ls (rest))) : W p l e R s m args below meth c H locs cells slots Q (F0 m pc ls (.long (lI B) :: .long (lI A) :: rest)) := by
  refine W.lcmp hx hb hd0 ?_
  rw [pr_cmp_v A B hA hB]
  refine pr_if_eq hx hb (pr_cmp_r A B) hd ht (fun q => kt ?_) (fun q => kf ?_)
  · by_cases h : B < A
    · rw [if_pos h] at q; omega
    · rw [if_neg h] at q
      by_cases h2 : A = B
      · rw [if_pos h2] at q; omega
      · rw [if_neg h2] at q; omega
  · by_cases h : B < A
    · rw [if_pos h] at q; omega
    · rw [if_neg h] at q
      by_cases h2 : A = B
      · rw [if_pos h2] at q; omega
      · rw [if_neg h2] at q; omega
theorem pr_lcmp_ne (hx : p.tables.exec = Jvm.exec) (hb : c.code = cc) {A B : Int} {off : Int} {tgt : Nat} (hA : i6 A) (hB : i6 B) (hd0 : decode cc pc = .ok (.lcmp, 1)) (hd : decode cc (pc + 1) = .ok (.ifCond .ne off, 3)) (ht : ((pc + 1 : Nat) : Int) + off = (tgt : Int)) (kt : A ≠ B → W p l e R s m args below meth c H locs cells slots Q (F0 m tgt ls (rest))) (kf : A = B → W p l e R s m args below meth c H locs cells slots Q (F0 m (pc + 4) ls (rest))) : W p l e R s m args below meth c H locs cells slots Q (F0 m pc ls (.long (lI B) :: .long (lI A) :: rest)) := by
  refine W.lcmp hx hb hd0 ?_
  rw [pr_cmp_v A B hA hB]
  refine pr_if_ne hx hb (pr_cmp_r A B) hd ht (fun q => kt ?_) (fun q => kf ?_)
  · by_cases h : B < A
    · rw [if_pos h] at q; omega
    · rw [if_neg h] at q
      by_cases h2 : A = B
      · rw [if_pos h2] at q; omega
      · rw [if_neg h2] at q; omega
  · by_cases h : B < A
    · rw [if_pos h] at q; omega
    · rw [if_neg h] at q
      by_cases h2 : A = B
      · rw [if_pos h2] at q; omega
      · rw [if_neg h2] at q; omega
theorem pr_lcmp_lt (hx : p.tables.exec = Jvm.exec) (hb : c.code = cc) {A B : Int} {off : Int} {tgt : Nat} (hA : i6 A) (hB : i6 B) (hd0 : decode cc pc = .ok (.lcmp, 1)) (hd : decode cc (pc + 1) = .ok (.ifCond .lt off, 3)) (ht : ((pc + 1 : Nat) : Int) + off = (tgt : Int)) (kt : A < B → W p l e R s m args below meth c H locs cells slots Q (F0 m tgt ls (rest))) (kf : B ≤ A → W p l e R s m args below meth c H locs cells slots Q (F0 m (pc + 4) ls (rest))) : W p l e R s m args below meth c H locs cells slots Q (F0 m pc ls (.long (lI B) :: .long (lI A) :: rest)) := by
  refine W.lcmp hx hb hd0 ?_
  rw [pr_cmp_v A B hA hB]
  refine pr_if_lt hx hb (pr_cmp_r A B) hd ht (fun q => kt ?_) (fun q => kf ?_)
  · by_cases h : B < A
    · rw [if_pos h] at q; omega
    · rw [if_neg h] at q
      by_cases h2 : A = B
      · rw [if_pos h2] at q; omega
      · rw [if_neg h2] at q; omega
  · by_cases h : B < A
    · rw [if_pos h] at q; omega
    · rw [if_neg h] at q
      by_cases h2 : A = B
      · rw [if_pos h2] at q; omega
      · rw [if_neg h2] at q; omega
theorem pr_lcmp_ge (hx : p.tables.exec = Jvm.exec) (hb : c.code = cc) {A B : Int} {off : Int} {tgt : Nat} (hA : i6 A) (hB : i6 B) (hd0 : decode cc pc = .ok (.lcmp, 1)) (hd : decode cc (pc + 1) = .ok (.ifCond .ge off, 3)) (ht : ((pc + 1 : Nat) : Int) + off = (tgt : Int)) (kt : B ≤ A → W p l e R s m args below meth c H locs cells slots Q (F0 m tgt ls (rest))) (kf : A < B → W p l e R s m args below meth c H locs cells slots Q (F0 m (pc + 4) ls (rest))) : W p l e R s m args below meth c H locs cells slots Q (F0 m pc ls (.long (lI B) :: .long (lI A) :: rest)) := by
  refine W.lcmp hx hb hd0 ?_
  rw [pr_cmp_v A B hA hB]
  refine pr_if_ge hx hb (pr_cmp_r A B) hd ht (fun q => kt ?_) (fun q => kf ?_)
  · by_cases h : B < A
    · rw [if_pos h] at q; omega
    · rw [if_neg h] at q
      by_cases h2 : A = B
      · rw [if_pos h2] at q; omega
      · rw [if_neg h2] at q; omega
  · by_cases h : B < A
    · rw [if_pos h] at q; omega
    · rw [if_neg h] at q
      by_cases h2 : A = B
      · rw [if_pos h2] at q; omega
      · rw [if_neg h2] at q; omega
theorem pr_lcmp_gt (hx : p.tables.exec = Jvm.exec) (hb : c.code = cc) {A B : Int} {off : Int} {tgt : Nat} (hA : i6 A) (hB : i6 B) (hd0 : decode cc pc = .ok (.lcmp, 1)) (hd : decode cc (pc + 1) = .ok (.ifCond .gt off, 3)) (ht : ((pc + 1 : Nat) : Int) + off = (tgt : Int)) (kt : B < A → W p l e R s m args below meth c H locs cells slots Q (F0 m tgt ls (rest))) (kf : A ≤ B → W p l e R s m args below meth c H locs cells slots Q (F0 m (pc + 4) ls (rest))) : W p l e R s m args below meth c H locs cells slots Q (F0 m pc ls (.long (lI B) :: .long (lI A) :: rest)) := by
  refine W.lcmp hx hb hd0 ?_
  rw [pr_cmp_v A B hA hB]
  refine pr_if_gt hx hb (pr_cmp_r A B) hd ht (fun q => kt ?_) (fun q => kf ?_)
  · by_cases h : B < A
    · rw [if_pos h] at q; omega
    · rw [if_neg h] at q
      by_cases h2 : A = B
      · rw [if_pos h2] at q; omega
      · rw [if_neg h2] at q; omega
  · by_cases h : B < A
    · rw [if_pos h] at q; omega
    · rw [if_neg h] at q
      by_cases h2 : A = B
      · rw [if_pos h2] at q; omega
      · rw [if_neg h2] at q; omega
theorem pr_lcmp_le (hx : p.tables.exec = Jvm.exec) (hb : c.code = cc) {A B : Int} {off : Int} {tgt : Nat} (hA : i6 A) (hB : i6 B) (hd0 : decode cc pc = .ok (.lcmp, 1)) (hd : decode cc (pc + 1) = .ok (.ifCond .le off, 3)) (ht : ((pc + 1 : Nat) : Int) + off = (tgt : Int)) (kt : A ≤ B → W p l e R s m args below meth c H locs cells slots Q (F0 m tgt ls (rest))) (kf : B < A → W p l e R s m args below meth c H locs cells slots Q (F0 m (pc + 4) ls (rest))) : W p l e R s m args below meth c H locs cells slots Q (F0 m pc ls (.long (lI B) :: .long (lI A) :: rest)) := by
  refine W.lcmp hx hb hd0 ?_
  rw [pr_cmp_v A B hA hB]
  refine pr_if_le hx hb (pr_cmp_r A B) hd ht (fun q => kt ?_) (fun q => kf ?_)
  · by_cases h : B < A
    · rw [if_pos h] at q; omega
    · rw [if_neg h] at q
      by_cases h2 : A = B
      · rw [if_pos h2] at q; omega
      · rw [if_neg h2] at q; omega
  · by_cases h : B < A
    · rw [if_pos h] at q; omega
    · rw [if_neg h] at q
      by_cases h2 : A = B
      · rw [if_pos h2] at q; omega
      · rw [if_neg h2] at q; omega
theorem pr_iald (hx : p.tables.exec = Jvm.exec) (hb : c.code = cc) (hK : va_K D cl tys s) (hP : va_P D cl ws H) (q0 t0 : Nat) {cA : ClassId} {n : Nat} {f : Int → Int} (ha : ws[q0]? = some (a, .inl (cA, n, .inl (ai f)))) (ht : tys[t0]? = some (cA, .int)) {V : Int} (hn : n ≤ 2147483647) (h0 : 0 ≤ V) (h1 : V < n) (hd : decode cc pc = .ok (.iaload, 1))
    (k : W p l e R s m args below meth c H locs cells slots Q (F0 m (pc + 1) ls (.int (iI (f V)) :: rest))) : W p l e R s m args below meth c H locs cells slots Q (F0 m pc ls (.int (iI V) :: .ref a :: rest)) :=
  va_iald hx hb hK hP q0 t0 ha ht (iI_in hn h0 h1) hd (by rw [iI_clamp h0 (by omega), ai_at f h0]; exact k)
theorem pr_lald (hx : p.tables.exec = Jvm.exec) (hb : c.code = cc) (hK : va_K D cl tys s) (hP : va_P D cl ws H) (q0 t0 : Nat) {cA : ClassId} {n : Nat} {f : Int → Int} (ha : ws[q0]? = some (a, .inl (cA, n, .inr (.inl (al f))))) (ht : tys[t0]? = some (cA, .long)) {V : Int} (hn : n ≤ 2147483647) (h0 : 0 ≤ V) (h1 : V < n) (hd : decode cc pc = .ok (.laload, 1))
    (k : W p l e R s m args below meth c H locs cells slots Q (F0 m (pc + 1) ls (.long (lI (f V)) :: rest))) : W p l e R s m args below meth c H locs cells slots Q (F0 m pc ls (.int (iI V) :: .ref a :: rest)) :=
  va_lald hx hb hK hP q0 t0 ha ht (iI_in hn h0 h1) hd (by rw [iI_clamp h0 (by omega), al_at f h0]; exact k)
theorem pr_iast (hx : p.tables.exec = Jvm.exec) (hb : c.code = cc) (hK : va_K D cl tys s) (hP : va_P D cl ws H) (hD : va_D A0 ws) (hS : va_S A0 H0 H locs) (q0 t0 : Nat) {cA : ClassId} {n : Nat} {f : Int → Int} (ha : ws[q0]? = some (a, .inl (cA, n, .inl (ai f)))) (ht : tys[t0]? = some (cA, .int)) {V x : Int} {ws' : va_W} (hn : n ≤ 2147483647) (h0 : 0 ≤ V) (h1 : V < n) (hw : ws.set q0 (a, .inl (cA, n, .inl (ai (pu f V x)))) = ws') (hd : decode cc pc = .ok (.iastore, 1))
    (k : ∀ (H1 : Heap) (locs1 : List Loc), va_P D cl ws' H1 → va_D A0 ws' → va_S A0 H0 H1 locs1 → W p l e R s m args below meth c H1 locs1 cells slots Q (F0 m (pc + 1) ls rest)) : W p l e R s m args below meth c H locs cells slots Q (F0 m pc ls (.int (iI x) :: .int (iI V) :: .ref a :: rest)) := by
  subst hw
  refine va_iast hx hb hK hP hD hS q0 t0 ha ht (iI_in hn h0 h1) hd (fun H1 locs1 q1 q2 q3 => ?_)
  rw [iI_clamp h0 (by omega), ai_up f x h0] at q1 q2
  exact k H1 locs1 q1 q2 q3
theorem pr_last (hx : p.tables.exec = Jvm.exec) (hb : c.code = cc) (hK : va_K D cl tys s) (hP : va_P D cl ws H) (hD : va_D A0 ws) (hS : va_S A0 H0 H locs) (q0 t0 : Nat) {cA : ClassId} {n : Nat} {f : Int → Int} (ha : ws[q0]? = some (a, .inl (cA, n, .inr (.inl (al f))))) (ht : tys[t0]? = some (cA, .long)) {V x : Int} {ws' : va_W} (hn : n ≤ 2147483647) (h0 : 0 ≤ V) (h1 : V < n) (hw : ws.set q0 (a, .inl (cA, n, .inr (.inl (al (pu f V x))))) = ws') (hd : decode cc pc = .ok (.lastore, 1))
    (k : ∀ (H1 : Heap) (locs1 : List Loc), va_P D cl ws' H1 → va_D A0 ws' → va_S A0 H0 H1 locs1 → W p l e R s m args below meth c H1 locs1 cells slots Q (F0 m (pc + 1) ls rest)) : W p l e R s m args below meth c H locs cells slots Q (F0 m pc ls (.long (lI x) :: .int (iI V) :: .ref a :: rest)) := by
  subst hw
  refine va_last hx hb hK hP hD hS q0 t0 ha ht (iI_in hn h0 h1) hd (fun H1 locs1 q1 q2 q3 => ?_)
  rw [iI_clamp h0 (by omega), al_up f x h0] at q1 q2
  exact k H1 locs1 q1 q2 q3
end PR
end
section
/-! calls -/
theorem pr_all {A0 : Nat → Prop} {ws : va_W} {H0 H : Heap} {locs : List Loc} (hD : va_D A0 ws) (hS : va_S A0 H0 H locs) (hA : ∀ q, H0.size ≤ q → A0 q) : ∀ q, va_A ws H.size q → A0 q := by
  intro q h
  rcases h with ⟨k, e, h⟩ | h
  · exact hD.2 k (q, e) h
  · exact hA q (Nat.le_trans hS.1 h)
section PC
variable {p : Program} {l : Launch} {e : Env} {R : Room} {s : State} {m : MethodId} {args : Array Value} {below : List Frame} {meth : Method} {c : Code} {H : Heap} {locs : List Loc} {cells slots : Nat} {Q : State → Prop}
variable {cc : ByteArray} {pc : Nat} {ls : Array Slot} {rest st0 : List Value} {D : va_G} {cl : List vw_C} {A0 : Nat → Prop} {aa : Array Value} {ws : va_W} {H0 : Heap} {mc ms : Nat}
theorem pr_pi {v : Int} (hr : va_Run p l e R s m args below meth c H locs cells slots 0 0 (F0 m pc ls st0) rest (vp_Si (fun r => r = iI v) aa) (fun _ => False)) (k : W p l e R s m args below meth c H locs cells slots Q (F0 m (pc + 3) ls (.int (iI v) :: rest))) : W p l e R s m args below meth c H locs cells slots Q (F0 m pc ls st0) := by
  intro T hT X
  obtain ⟨v, st₀, t, T', L, h0, X', hL, e1, e2, ⟨r, hv, hp, hh⟩, st⟩ := hr T hT X
  cases hv
  subst hp
  obtain ⟨t2, a1, b1⟩ := k T' (by rw [e1, hh, h0]) (Stand.forget X' (fun q h => (hL q h).elim))
  exact ⟨t2, st t2 a1, b1⟩
theorem pr_pl {v : Int} (hr : va_Run p l e R s m args below meth c H locs cells slots 0 0 (F0 m pc ls st0) rest (vp_Sl (fun r => r = lI v) aa) (fun _ => False)) (k : W p l e R s m args below meth c H locs cells slots Q (F0 m (pc + 3) ls (.long (lI v) :: rest))) : W p l e R s m args below meth c H locs cells slots Q (F0 m pc ls st0) := by
  intro T hT X
  obtain ⟨v, st₀, t, T', L, h0, X', hL, e1, e2, ⟨r, hv, hp, hh⟩, st⟩ := hr T hT X
  cases hv
  subst hp
  obtain ⟨t2, a1, b1⟩ := k T' (by rw [e1, hh, h0]) (Stand.forget X' (fun q h => (hL q h).elim))
  exact ⟨t2, st t2 a1, b1⟩
theorem pr_cv {S : Type} {post : S → Prop} {wf : S → va_W} (hr : va_Run p l e R s m args below meth c H locs cells slots mc ms (F0 m pc ls st0) rest (va_Qv post (fun u t => va_P D cl (wf u) t.heap ∧ va_D (va_A ws H.size) (wf u)) (va_A ws H.size) aa) (va_A ws H.size)) (hD : va_D A0 ws) (hS : va_S A0 H0 H locs) (hA : ∀ q, H0.size ≤ q → A0 q)
    (k : ∀ (u : S) (H1 : Heap) (locs1 : List Loc), post u → va_P D cl (wf u) H1 → va_D A0 (wf u) → va_S A0 H0 H1 locs1 → W p l e R s m args below meth c H1 locs1 (cells + mc) (slots + ms) Q (F0 m (pc + 3) ls rest)) : W p l e R s m args below meth c H locs cells slots Q (F0 m pc ls st0) :=
  va_callv hr hS (fun q _ h => pr_all hD hS hA q h) (pr_all hD hS hA) (fun u t H1 locs1 ht _ hp hB _ _ hS1 => k u H1 locs1 hp (by rw [← ht]; exact hB.1) (hB.2.weaken (fun _ _ _ h => pr_all hD hS hA _ h)) hS1)
theorem pr_ci {S : Type} {post : Int32 → S → Prop} {wf : S → va_W} (hr : va_Run p l e R s m args below meth c H locs cells slots mc ms (F0 m pc ls st0) rest (va_Qi post (fun u t => va_P D cl (wf u) t.heap ∧ va_D (va_A ws H.size) (wf u)) (va_A ws H.size) aa) (va_A ws H.size)) (hD : va_D A0 ws) (hS : va_S A0 H0 H locs) (hA : ∀ q, H0.size ≤ q → A0 q)
    (k : ∀ (r : Int32) (u : S) (H1 : Heap) (locs1 : List Loc), post r u → va_P D cl (wf u) H1 → va_D A0 (wf u) → va_S A0 H0 H1 locs1 → W p l e R s m args below meth c H1 locs1 (cells + mc) (slots + ms) Q (F0 m (pc + 3) ls (.int r :: rest))) : W p l e R s m args below meth c H locs cells slots Q (F0 m pc ls st0) :=
  va_calli hr hS (fun q _ h => pr_all hD hS hA q h) (pr_all hD hS hA) (fun r u t H1 locs1 ht _ hp hB _ _ hS1 => k r u H1 locs1 hp (by rw [← ht]; exact hB.1) (hB.2.weaken (fun _ _ _ h => pr_all hD hS hA _ h)) hS1)
end PC
end
section
/-! sets of leaks and of zones, as bits of an int -/
def bn (b : Bool) : Int := if b then 1 else 0
theorem nb_nI (n : Nat) : iI (n : Int) = nI n := iI_nat n
theorem nb_s : ∀ j, j < 32 → ((nI j &&& 31).toBitVec.smod 32).toNat = j := by decide +kernel
theorem nb_shr {n j : Nat} (hn : n < 2 ^ 31) (hj : j < 32) : iI (n : Int) >>> (iI (j : Int) &&& 31) = iI ((n / 2 ^ j : Nat) : Int) := by
  rw [nb_nI, nb_nI, nb_nI]
  exact pk_shrN hn _ j (nb_s j hj)
theorem nb_one {n : Nat} (hn : n < 2 ^ 31) : iI (n : Int) &&& iI 1 = iI ((n % 2 : Nat) : Int) := by
  have h := pk_andN (n := n) (by omega) (m := 1) 1 (by decide)
  rw [nb_nI, nb_nI]
  exact h
theorem nb_tb (n j : Nat) : ((n / 2 ^ j % 2 : Nat) : Int) = bn (n.testBit j) := by
  unfold bn
  rw [Nat.testBit_eq_decide_div_mod_eq]
  by_cases h : n / 2 ^ j % 2 = 1
  · rw [h]; simp
  · have h0 : n / 2 ^ j % 2 = 0 := by omega
    rw [h0]; simp
theorem nb_bit {n j : Nat} (hn : n < 2 ^ 31) (hj : j < 32) : iI (n : Int) >>> (iI (j : Int) &&& 31) &&& iI 1 = iI (bn (n.testBit j)) := by
  rw [nb_shr hn hj, nb_one (Nat.lt_of_le_of_lt (Nat.div_le_self _ _) hn), nb_tb]
theorem nb_shl : ∀ j, j < 31 → (1 : Int32) <<< (nI j &&& 31) = nI (2 ^ j) := by decide +kernel
theorem nb_sh {j : Nat} (hj : j < 31) : iI 1 <<< (iI (j : Int) &&& 31) = iI ((2 ^ j : Nat) : Int) := by
  rw [nb_nI, nb_nI]
  exact nb_shl j hj
theorem nb_and (a b : Nat) : nI a &&& nI b = nI (a &&& b) := by
  apply Int32.toBitVec.inj
  show BitVec.ofNat 32 a &&& BitVec.ofNat 32 b = BitVec.ofNat 32 (a &&& b)
  apply BitVec.eq_of_toNat_eq
  simp [Nat.and_mod_two_pow]
theorem nb_or (a b : Nat) : nI a ||| nI b = nI (a ||| b) := by
  apply Int32.toBitVec.inj
  show BitVec.ofNat 32 a ||| BitVec.ofNat 32 b = BitVec.ofNat 32 (a ||| b)
  apply BitVec.eq_of_toNat_eq
  simp [Nat.or_mod_two_pow]
theorem nb_xor (a b : Nat) : nI a ^^^ nI b = nI (a ^^^ b) := by
  apply Int32.toBitVec.inj
  show BitVec.ofNat 32 a ^^^ BitVec.ofNat 32 b = BitVec.ofNat 32 (a ^^^ b)
  apply BitVec.eq_of_toNat_eq
  simp [Nat.xor_mod_two_pow]
theorem iI_and (a b : Nat) : iI (a : Int) &&& iI (b : Int) = iI ((a &&& b : Nat) : Int) := by rw [nb_nI, nb_nI, nb_nI, nb_and]
theorem iI_or (a b : Nat) : iI (a : Int) ||| iI (b : Int) = iI ((a ||| b : Nat) : Int) := by rw [nb_nI, nb_nI, nb_nI, nb_or]
theorem iI_xor (a b : Nat) : iI (a : Int) ^^^ iI (b : Int) = iI ((a ^^^ b : Nat) : Int) := by rw [nb_nI, nb_nI, nb_nI, nb_xor]
theorem nb_and_pow (n j : Nat) : (n &&& 2 ^ j) = if n.testBit j then 2 ^ j else 0 := by
  apply Nat.eq_of_testBit_eq
  intro i
  rw [Nat.testBit_and, Nat.testBit_two_pow]
  by_cases h : n.testBit j = true
  · rw [if_pos h, Nat.testBit_two_pow]
    by_cases e : j = i
    · subst e; simp [h]
    · simp [e]
  · rw [if_neg h]
    by_cases e : j = i
    · subst e; simp [h]
    · simp [e]
end
section
/-! roots, in whole numbers -/
def pn_sq : Nat → Nat
  | 0 => 0
  | n + 1 => if (pn_sq n + 1) * (pn_sq n + 1) ≤ n + 1 then pn_sq n + 1 else pn_sq n
theorem pn_sq_spec (n : Nat) : pn_sq n * pn_sq n ≤ n ∧ n < (pn_sq n + 1) * (pn_sq n + 1) := by
  induction n with
  | zero => simp [pn_sq]
  | succ n ih =>
    obtain ⟨h1, h2⟩ := ih
    unfold pn_sq
    by_cases h : (pn_sq n + 1) * (pn_sq n + 1) ≤ n + 1
    · rw [if_pos h]
      refine ⟨h, ?_⟩
      simp only [Nat.add_mul, Nat.mul_add] at h h2 ⊢
      omega
    · rw [if_neg h]
      exact ⟨by omega, by omega⟩
theorem pn_sq_of_le {n r : Nat} (h : r * r ≤ n) : r ≤ pn_sq n := by
  have h2 := (pn_sq_spec n).2
  rcases Nat.lt_or_ge (pn_sq n) r with q | q
  · have := Nat.mul_le_mul (show pn_sq n + 1 ≤ r from q) (show pn_sq n + 1 ≤ r from q)
    omega
  · exact q
theorem pn_sq_of_lt {n r : Nat} (h : n < (r + 1) * (r + 1)) : pn_sq n ≤ r := by
  have h1 := (pn_sq_spec n).1
  rcases Nat.lt_or_ge r (pn_sq n) with q | q
  · have := Nat.mul_le_mul (show r + 1 ≤ pn_sq n from q) (show r + 1 ≤ pn_sq n from q)
    omega
  · exact q
theorem pn_sq_eq {n r : Nat} (h1 : r * r ≤ n) (h2 : n < (r + 1) * (r + 1)) : pn_sq n = r := Nat.le_antisymm (pn_sq_of_lt h2) (pn_sq_of_le h1)
theorem pn_sq_mono {a b : Nat} (h : a ≤ b) : pn_sq a ≤ pn_sq b := pn_sq_of_le (Nat.le_trans (pn_sq_spec a).1 h)
theorem pn_sq_zero : pn_sq 0 = 0 := rfl
/-- a step of the way down stays above the root -/
theorem pn_newton_ge {n x : Nat} (hx : 0 < x) : pn_sq n ≤ (x + n / x) / 2 := by
  have h1 := (pn_sq_spec n).1
  rw [Nat.le_div_iff_mul_le (by omega)]
  rcases Nat.le_total (pn_sq n * 2) x with q | q
  · exact Nat.le_trans q (Nat.le_add_right _ _)
  · obtain ⟨d, hd⟩ := Nat.exists_eq_add_of_le q
    have h3 : d * x ≤ n := by
      refine Nat.le_trans ?_ h1
      -- (2r - x) * x ≤ r * r
      have e : ((pn_sq n : Int) - x) * ((pn_sq n : Int) - x) ≥ 0 := by
        rcases Int.le_total 0 ((pn_sq n : Int) - x) with z | z
        · exact Int.mul_nonneg z z
        · exact Int.mul_nonneg_of_nonpos_of_nonpos z z
      have hd' : (pn_sq n : Int) * 2 = x + d := by exact_mod_cast hd
      have e2 : (d : Int) * x ≤ (pn_sq n : Int) * pn_sq n := by
        have : (d : Int) = pn_sq n * 2 - x := by omega
        rw [this]
        simp only [Int.sub_mul, Int.mul_sub] at e ⊢
        have c : (pn_sq n : Int) * 2 * x = 2 * (pn_sq n * x) := by rw [Int.mul_comm (pn_sq n : Int) 2, Int.mul_assoc]
        have c2 : (x : Int) * pn_sq n = pn_sq n * x := Int.mul_comm _ _
        rw [c]; rw [c2] at e
        omega
      exact_mod_cast e2
    have h4 : d ≤ n / x := (Nat.le_div_iff_mul_le hx).mpr h3
    rw [hd]
    exact Nat.add_le_add_left h4 x
/-- where it goes down no more it is the root -/
theorem pn_newton_stop {n x : Nat} (hx : 0 < x) (hr : pn_sq n ≤ x) (h : x ≤ (x + n / x) / 2) : x = pn_sq n := by
  have h1 : x ≤ n / x := by
    have := (Nat.le_div_iff_mul_le (k := 2) (by omega)).mp h
    generalize n / x = g at this ⊢
    omega
  have h2 : x * x ≤ n := (Nat.le_div_iff_mul_le hx).mp h1
  exact Nat.le_antisymm (pn_sq_of_le h2) hr
/-- the gap halves -/
theorem pn_newton_gap {n x : Nat} (hx : pn_sq n < x) : ((x + n / x) / 2 - pn_sq n) * 2 ≤ x - pn_sq n := by
  have h2 := (pn_sq_spec n).2
  have h3 : n / x ≤ pn_sq n := by
    have : n / x < pn_sq n + 1 := by
      rw [Nat.div_lt_iff_lt_mul (by omega)]
      exact Nat.lt_of_lt_of_le h2 (Nat.mul_le_mul_left _ hx)
    exact Nat.le_of_lt_succ this
  generalize n / x = g at h3 ⊢
  omega
end
section
/-! the least state, over rows 0 .. 3 (sides) and 4 .. 3 + n (zones) -/
def pn_up (P : Int → Int) (k : Int) (v : Int) : Int → Int := fun j => if j = k then v else P j
theorem pn_up_s (P : Int → Int) (k : Int) (v : Int) : pn_up P k v k = v := if_pos rfl
theorem pn_up_n (P : Int → Int) {k j : Int} (v : Int) (h : j ≠ k) : pn_up P k v j = P j := if_neg h
def pn_zone (n z : Int) : Prop := 4 ≤ z ∧ z < 4 + n
/-- the gain falls where all differences grow -/
def pn_Mono (n : Int) (G : (Int → Int) → Int → Int) : Prop := ∀ (P Q : Int → Int) (z : Int), pn_zone n z → (∀ w, 0 ≤ w → w < 4 + n → P z - P w ≤ Q z - Q w) → G Q z ≤ G P z
/-- a state -/
def pn_St (n : Int) (wd : Int → Int) (G : (Int → Int) → Int → Int) (Q : Int → Int) : Prop := (∀ w, 0 ≤ w → w < 4 → Q w = wd w) ∧ ∀ z, pn_zone n z → -5000 ≤ Q z ∧ Q z ≤ 5000 ∧ G Q z ≤ 0
/-- below every state -/
def pn_Be (n : Int) (wd : Int → Int) (G : (Int → Int) → Int → Int) (P : Int → Int) : Prop := (∀ w, 0 ≤ w → w < 4 → P w = wd w) ∧ ∀ Q, pn_St n wd G Q → ∀ z, pn_zone n z → P z ≤ Q z
theorem pn_raise {n : Int} {wd : Int → Int} {G : (Int → Int) → Int → Int} (hM : pn_Mono n G) {P : Int → Int} (hB : pn_Be n wd G P) {z : Int} (hz : pn_zone n z) {v : Int} (hg : 0 < G (pn_up P z v) z) : pn_Be n wd G (pn_up P z (v + 1)) := by
  refine ⟨fun w hw0 hw => ?_, fun Q hQ y hy => ?_⟩
  · rw [pn_up_n _ _ (by have := hz.1; omega)]
    exact hB.1 w hw0 hw
  · by_cases e : y = z
    · subst e
      rw [pn_up_s]
      rcases Int.lt_or_le v (Q y) with q | q
      · omega
      · have h1 : G (pn_up P y v) y ≤ G Q y := by
          refine hM Q (pn_up P y v) y hz (fun w hw0 hw => ?_)
          rw [pn_up_s]
          by_cases e2 : w = y
          · subst e2; rw [pn_up_s]; omega
          · rw [pn_up_n _ _ e2]
            by_cases h4 : w < 4
            · rw [hB.1 w hw0 h4, hQ.1 w hw0 h4]; omega
            · have := hB.2 Q hQ w ⟨by omega, hw⟩
              omega
        have := (hQ.2 y hz).2.2
        omega
    · rw [pn_up_n _ _ e]
      exact hB.2 Q hQ y hy
theorem pn_Be.down {n : Int} {wd : Int → Int} {G : (Int → Int) → Int → Int} {P R : Int → Int} (hB : pn_Be n wd G P) (hs : ∀ w, 0 ≤ w → w < 4 → R w = P w) (hz : ∀ z, pn_zone n z → R z ≤ P z) : pn_Be n wd G R :=
  ⟨fun w h0 hw => (hs w h0 hw).trans (hB.1 w h0 hw), fun Q hQ z h => Int.le_trans (hz z h) (hB.2 Q hQ z h)⟩
/-- P' comes out of P by raises of zones in S, each to just above a pressure at which the zone gains -/
def pn_Re (n : Int) (G : (Int → Int) → Int → Int) (S : Int → Prop) (P P' : Int → Int) : Prop :=
  ∀ I : (Int → Int) → Prop, I P → (∀ (Q : Int → Int) (z : Int) (v : Int), I Q → pn_zone n z → S z → Q z < v → 0 < G (pn_up Q z (v - 1)) z → I (pn_up Q z v)) → I P'
theorem pn_Re.rf {n : Int} {G : (Int → Int) → Int → Int} {S : Int → Prop} {P : Int → Int} : pn_Re n G S P P := fun _ h _ => h
theorem pn_Re.step {n : Int} {G : (Int → Int) → Int → Int} {S : Int → Prop} {P Q : Int → Int} (h : pn_Re n G S P Q) {z : Int} {v : Int} (hz : pn_zone n z) (hS : S z) (hv : Q z < v) (hg : 0 < G (pn_up Q z (v - 1)) z) : pn_Re n G S P (pn_up Q z v) :=
  fun I h0 hs => hs Q z v (h I h0 hs) hz hS hv hg
theorem pn_Re.trans {n : Int} {G : (Int → Int) → Int → Int} {S : Int → Prop} {P Q R : Int → Int} (h : pn_Re n G S P Q) (h2 : pn_Re n G S Q R) : pn_Re n G S P R := fun I h0 hs => h2 I (h I h0 hs) hs
theorem pn_Re.be {n : Int} {wd : Int → Int} {G : (Int → Int) → Int → Int} (hM : pn_Mono n G) {S : Int → Prop} {P P' : Int → Int} (h : pn_Re n G S P P') (hB : pn_Be n wd G P) : pn_Be n wd G P' :=
  h (pn_Be n wd G) hB (fun Q z v hQ hz _ _ hg => by
    have := pn_raise hM hQ hz hg
    rwa [show v - 1 + 1 = v by omega] at this)
theorem pn_Re.ge {n : Int} {G : (Int → Int) → Int → Int} {S : Int → Prop} {P P' : Int → Int} (h : pn_Re n G S P P') : ∀ w, P w ≤ P' w :=
  h (fun Q => ∀ w, P w ≤ Q w) (fun _ => Int.le_refl _) (fun Q z v hQ _ _ hv _ w => by
    by_cases e : w = z
    · subst e; rw [pn_up_s]; have := hQ w; omega
    · rw [pn_up_n _ _ e]; exact hQ w)
theorem pn_Re.off {n : Int} {G : (Int → Int) → Int → Int} {S : Int → Prop} {P P' : Int → Int} (h : pn_Re n G S P P') : ∀ w, ¬ (pn_zone n w ∧ S w) → P' w = P w :=
  h (fun Q => ∀ w, ¬ (pn_zone n w ∧ S w) → Q w = P w) (fun _ _ => rfl) (fun Q z v hQ hz hS _ _ w hw => by
    by_cases e : w = z
    · subst e; exact absurd ⟨hz, hS⟩ hw
    · rw [pn_up_n _ _ e]; exact hQ w hw)
theorem pn_Re.mono {n : Int} {G : (Int → Int) → Int → Int} {S S' : Int → Prop} {P P' : Int → Int} (h : pn_Re n G S P P') (hS : ∀ z, S z → S' z) : pn_Re n G S' P P' :=
  fun I h0 hs => h I h0 (fun Q z v hQ hz hS0 hv hg => hs Q z v hQ hz (hS z hS0) hv hg)
def pn_lift (S : Int → Bool) (k : Int) (P : Int → Int) : Int → Int := fun w => if S w then P w + k else P w
/-- zones that a bout raises all behind a lift are not above the least state there -/
theorem pn_lifts {n : Int} {wd : Int → Int} {G : (Int → Int) → Int → Int} (hM : pn_Mono n G) {S : Int → Bool} (hSz : ∀ w, S w = true → pn_zone n w) {P P' : Int → Int} {k : Nat} (hB : pn_Be n wd G P)
    (hR : pn_Re n G (fun w => S w = true) (pn_lift S k P) P') (hall : ∀ w, S w = true → pn_lift S k P w < P' w) : pn_Be n wd G P' := by
  have key : ∀ t : Nat, t ≤ k → pn_Be n wd G (pn_lift S t P) → pn_Be n wd G (pn_lift S (-((k : Int) - t)) P') := by
    intro t ht hBt
    refine hR (fun Q => pn_Be n wd G (pn_lift S (-((k : Int) - t)) Q)) ?_ ?_
    · have e : pn_lift S (-((k : Int) - t)) (pn_lift S k P) = pn_lift S t P := by
        funext w
        unfold pn_lift
        by_cases h : S w = true
        · simp only [if_pos h]; omega
        · simp only [if_neg h]
      rw [e]; exact hBt
    · intro Q z v hQ hz hS _ hg
      have h1 : G (pn_up Q z (v - 1)) z ≤ G (pn_up (pn_lift S (-((k : Int) - t)) Q) z (v - 1 - ((k : Int) - t))) z := by
        refine hM _ _ z hz (fun w _ _ => ?_)
        rw [pn_up_s, pn_up_s]
        by_cases e : w = z
        · subst e; rw [pn_up_s, pn_up_s]; omega
        · rw [pn_up_n _ _ e, pn_up_n _ _ e]
          unfold pn_lift
          by_cases h : S w = true
          · simp only [if_pos h]; omega
          · simp only [if_neg h]; omega
      have h2 := pn_raise hM hQ hz (v := v - 1 - ((k : Int) - t)) (by omega)
      have e : pn_up (pn_lift S (-((k : Int) - t)) Q) z (v - 1 - ((k : Int) - t) + 1) = pn_lift S (-((k : Int) - t)) (pn_up Q z v) := by
        funext w
        unfold pn_lift pn_up
        by_cases h : w = z
        · subst h; simp only [if_pos hS, if_true]; omega
        · simp only [if_neg h]
      rw [← e]; exact h2
  have up : ∀ t : Nat, t ≤ k → pn_Be n wd G (pn_lift S t P) := by
    intro t
    induction t with
    | zero =>
      intro _
      have e : pn_lift S ((0 : Nat) : Int) P = P := by
        funext w; unfold pn_lift; by_cases h : S w = true
        · simp only [if_pos h]; omega
        · simp only [if_neg h]
      rw [e]; exact hB
    | succ t ih =>
      intro ht
      refine (key t (by omega) (ih (by omega))).down (fun w _ hw => ?_) (fun z hz => ?_)
      · have hn : ¬ S w = true := fun h => by have := (hSz w h).1; omega
        have h3 := hR.off w (fun q => hn q.2)
        unfold pn_lift at h3 ⊢
        simp only [if_neg hn] at h3 ⊢
        exact h3.symm
      · by_cases h : S z = true
        · have h3 := hall z h
          unfold pn_lift at h3 ⊢
          simp only [if_pos h] at h3 ⊢
          omega
        · have h3 := hR.off z (fun q => h q.2)
          unfold pn_lift at h3 ⊢
          simp only [if_neg h] at h3 ⊢
          omega
  have h9 := key k (Nat.le_refl k) (up k (Nat.le_refl k))
  have e : pn_lift S (-((k : Int) - (k : Nat))) P' = P' := by
    funext w; unfold pn_lift; by_cases h : S w = true
    · simp only [if_pos h]; omega
    · simp only [if_neg h]
  rwa [e] at h9
end
section
/-! the world of the system -/
def cw (a : Nat → Nat) (cI cL cD cS : ClassId) (nf : Nat → Int → Int) (ns : Nat → Int) (da : Int → Int → Int) (be : Int → Int) (ui ul : Nat → Int → Int) (cn : Int) (ss : Nat → Nat) (mf sd : Nat → Int) (pr : Nat → Int → Int) : va_W := [
  (a 0, .inr (0, [.ref (a 1), .ref (a 27), .ref (a 29), .ref (a 36), .ref (a 35), .int (iI cn)])),
  (a 1, .inr (1, [.ref (a 2), .ref (a 3), .ref (a 4), .ref (a 5), .ref (a 6), .ref (a 7), .ref (a 8), .ref (a 9), .ref (a 10), .ref (a 11), .ref (a 12), .ref (a 14), .ref (a 13), .int (iI (ns 0)), .int (iI (ns 1)), .int (iI (ns 2)), .int (iI (ns 3))])),
  (a 2, .inl (cI, 4, .inl (ai (nf 0)))),
  (a 3, .inl (cI, 12, .inl (ai (nf 1)))),
  (a 4, .inl (cI, 8, .inl (ai (nf 2)))),
  (a 5, .inl (cI, 24, .inl (ai (nf 3)))),
  (a 6, .inl (cI, 24, .inl (ai (nf 4)))),
  (a 7, .inl (cI, 20, .inl (ai (nf 5)))),
  (a 8, .inl (cI, 20, .inl (ai (nf 6)))),
  (a 9, .inl (cI, 20, .inl (ai (nf 7)))),
  (a 10, .inl (cI, 20, .inl (ai (nf 8)))),
  (a 11, .inl (cI, 4, .inl (ai (nf 9)))),
  (a 12, .inl (cI, 4, .inl (ai (nf 10)))),
  (a 13, .inl (cI, 12, .inl (ai (nf 11)))),
  (a 14, .inl (cD, 12, .inr (.inr (.inr (.inr (fun j => if j < 12 then some (a (15 + j)) else none)))))),
  (a 15, .inl (cI, 24, .inl (ai (da 0)))),
  (a 16, .inl (cI, 24, .inl (ai (da 1)))),
  (a 17, .inl (cI, 24, .inl (ai (da 2)))),
  (a 18, .inl (cI, 24, .inl (ai (da 3)))),
  (a 19, .inl (cI, 24, .inl (ai (da 4)))),
  (a 20, .inl (cI, 24, .inl (ai (da 5)))),
  (a 21, .inl (cI, 24, .inl (ai (da 6)))),
  (a 22, .inl (cI, 24, .inl (ai (da 7)))),
  (a 23, .inl (cI, 24, .inl (ai (da 8)))),
  (a 24, .inl (cI, 24, .inl (ai (da 9)))),
  (a 25, .inl (cI, 24, .inl (ai (da 10)))),
  (a 26, .inl (cI, 24, .inl (ai (da 11)))),
  (a 27, .inr (2, [.ref (a 1), .ref (a 28)])),
  (a 28, .inl (cI, 12, .inl (ai be))),
  (a 29, .inr (4, [.ref (a 30), .ref (a 31), .ref (a 1), .ref (a 32), .ref (a 33), .ref (a 34)])),
  (a 30, .inl (cL, 12, .inr (.inl (al (ul 0))))),
  (a 31, .inl (cI, 12, .inl (ai (ui 0)))),
  (a 32, .inl (cI, 24, .inl (ai (ui 1)))),
  (a 33, .inl (cL, 12, .inr (.inl (al (ul 1))))),
  (a 34, .inl (cL, 12, .inr (.inl (al (ul 2))))),
  (a 35, .inl (cS, 8, .inr (.inr (.inr (.inr (fun j => if j < 8 then some (a (38 + 2 * j)) else none)))))),
  (a 36, .inr (3, [.ref (a 37), .int (iI (ss 0 : Nat)), .int (iI (mf 0)), .int (iI (sd 0))])),
  (a 37, .inl (cI, 12, .inl (ai (pr 0)))),
  (a 38, .inr (3, [.ref (a 39), .int (iI (ss 1 : Nat)), .int (iI (mf 1)), .int (iI (sd 1))])),
  (a 39, .inl (cI, 12, .inl (ai (pr 1)))),
  (a 40, .inr (3, [.ref (a 41), .int (iI (ss 2 : Nat)), .int (iI (mf 2)), .int (iI (sd 2))])),
  (a 41, .inl (cI, 12, .inl (ai (pr 2)))),
  (a 42, .inr (3, [.ref (a 43), .int (iI (ss 3 : Nat)), .int (iI (mf 3)), .int (iI (sd 3))])),
  (a 43, .inl (cI, 12, .inl (ai (pr 3)))),
  (a 44, .inr (3, [.ref (a 45), .int (iI (ss 4 : Nat)), .int (iI (mf 4)), .int (iI (sd 4))])),
  (a 45, .inl (cI, 12, .inl (ai (pr 4)))),
  (a 46, .inr (3, [.ref (a 47), .int (iI (ss 5 : Nat)), .int (iI (mf 5)), .int (iI (sd 5))])),
  (a 47, .inl (cI, 12, .inl (ai (pr 5)))),
  (a 48, .inr (3, [.ref (a 49), .int (iI (ss 6 : Nat)), .int (iI (mf 6)), .int (iI (sd 6))])),
  (a 49, .inl (cI, 12, .inl (ai (pr 6)))),
  (a 50, .inr (3, [.ref (a 51), .int (iI (ss 7 : Nat)), .int (iI (mf 7)), .int (iI (sd 7))])),
  (a 51, .inl (cI, 12, .inl (ai (pr 7)))),
  (a 52, .inr (3, [.ref (a 53), .int (iI (ss 8 : Nat)), .int (iI (mf 8)), .int (iI (sd 8))])),
  (a 53, .inl (cI, 12, .inl (ai (pr 8))))]
/-- one of several, changed -/
def nw {α : Type} (f : Nat → α) (k : Nat) (x : α) : Nat → α := fun j => if j = k then x else f j
theorem nw_s {α : Type} (f : Nat → α) (k : Nat) (x : α) : nw f k x k = x := if_pos rfl
theorem nw_n {α : Type} (f : Nat → α) {k j : Nat} (x : α) (h : j ≠ k) : nw f k x j = f j := if_neg h
def pw (f : Int → Int → Int) (k : Int) (x : Int → Int) : Int → Int → Int := fun j => if j = k then x else f j
theorem pw_s (f : Int → Int → Int) (k : Int) (x : Int → Int) : pw f k x k = x := if_pos rfl
theorem pw_n (f : Int → Int → Int) {k j : Int} (x : Int → Int) (h : j ≠ k) : pw f k x j = f j := if_neg h
theorem cw_row {a : Nat → Nat} {cI cL cD cS : ClassId} {nf : Nat → Int → Int} {ns : Nat → Int} {da : Int → Int → Int} {be : Int → Int} {ui ul : Nat → Int → Int} {cn : Int} {ss : Nat → Nat} {mf sd : Nat → Int} {pr : Nat → Int → Int} : ∀ (r : Nat), r < 12 → (cw a cI cL cD cS nf ns da be ui ul cn ss mf sd pr)[15 + r]? = some (a (15 + r), .inl (cI, 24, .inl (ai (da (r : Int)))))
  | 0, _ => rfl
  | 1, _ => rfl
  | 2, _ => rfl
  | 3, _ => rfl
  | 4, _ => rfl
  | 5, _ => rfl
  | 6, _ => rfl
  | 7, _ => rfl
  | 8, _ => rfl
  | 9, _ => rfl
  | 10, _ => rfl
  | 11, _ => rfl
  | k + 12, h => absurd h (by omega)
theorem cw_so {a : Nat → Nat} {cI cL cD cS : ClassId} {nf : Nat → Int → Int} {ns : Nat → Int} {da : Int → Int → Int} {be : Int → Int} {ui ul : Nat → Int → Int} {cn : Int} {ss : Nat → Nat} {mf sd : Nat → Int} {pr : Nat → Int → Int} : ∀ (k : Nat), k < 9 → (cw a cI cL cD cS nf ns da be ui ul cn ss mf sd pr)[36 + 2 * k]? = some (a (36 + 2 * k), .inr (3, [.ref (a (37 + 2 * k)), .int (iI (ss k : Nat)), .int (iI (mf k)), .int (iI (sd k))]))
  | 0, _ => rfl
  | 1, _ => rfl
  | 2, _ => rfl
  | 3, _ => rfl
  | 4, _ => rfl
  | 5, _ => rfl
  | 6, _ => rfl
  | 7, _ => rfl
  | 8, _ => rfl
  | k + 9, h => absurd h (by omega)
theorem cw_sp {a : Nat → Nat} {cI cL cD cS : ClassId} {nf : Nat → Int → Int} {ns : Nat → Int} {da : Int → Int → Int} {be : Int → Int} {ui ul : Nat → Int → Int} {cn : Int} {ss : Nat → Nat} {mf sd : Nat → Int} {pr : Nat → Int → Int} : ∀ (k : Nat), k < 9 → (cw a cI cL cD cS nf ns da be ui ul cn ss mf sd pr)[37 + 2 * k]? = some (a (37 + 2 * k), .inl (cI, 12, .inl (ai (pr k))))
  | 0, _ => rfl
  | 1, _ => rfl
  | 2, _ => rfl
  | 3, _ => rfl
  | 4, _ => rfl
  | 5, _ => rfl
  | 6, _ => rfl
  | 7, _ => rfl
  | 8, _ => rfl
  | k + 9, h => absurd h (by omega)
theorem cw_upr {a : Nat → Nat} {cI cL cD cS : ClassId} {nf : Nat → Int → Int} {ns : Nat → Int} {da : Int → Int → Int} {be : Int → Int} {ui ul : Nat → Int → Int} {cn : Int} {ss : Nat → Nat} {mf sd : Nat → Int} {pr : Nat → Int → Int} {g : Int → Int} : ∀ (k : Nat), k < 9 → (cw a cI cL cD cS nf ns da be ui ul cn ss mf sd pr).set (37 + 2 * k) (a (37 + 2 * k), .inl (cI, 12, .inl (ai g))) = cw a cI cL cD cS nf ns da be ui ul cn ss mf sd (nw pr k g)
  | 0, _ => rfl
  | 1, _ => rfl
  | 2, _ => rfl
  | 3, _ => rfl
  | 4, _ => rfl
  | 5, _ => rfl
  | 6, _ => rfl
  | 7, _ => rfl
  | 8, _ => rfl
  | k + 9, h => absurd h (by omega)
theorem cw_uda {a : Nat → Nat} {cI cL cD cS : ClassId} {nf : Nat → Int → Int} {ns : Nat → Int} {da : Int → Int → Int} {be : Int → Int} {ui ul : Nat → Int → Int} {cn : Int} {ss : Nat → Nat} {mf sd : Nat → Int} {pr : Nat → Int → Int} {g : Int → Int} : ∀ (r : Nat), r < 12 → (cw a cI cL cD cS nf ns da be ui ul cn ss mf sd pr).set (15 + r) (a (15 + r), .inl (cI, 24, .inl (ai g))) = cw a cI cL cD cS nf ns (pw da (r : Int) g) be ui ul cn ss mf sd pr
  | 0, _ => rfl
  | 1, _ => rfl
  | 2, _ => rfl
  | 3, _ => rfl
  | 4, _ => rfl
  | 5, _ => rfl
  | 6, _ => rfl
  | 7, _ => rfl
  | 8, _ => rfl
  | 9, _ => rfl
  | 10, _ => rfl
  | 11, _ => rfl
  | k + 12, h => absurd h (by omega)
theorem cw_uss {a : Nat → Nat} {cI cL cD cS : ClassId} {nf : Nat → Int → Int} {ns : Nat → Int} {da : Int → Int → Int} {be : Int → Int} {ui ul : Nat → Int → Int} {cn : Int} {ss : Nat → Nat} {mf sd : Nat → Int} {pr : Nat → Int → Int} {x : Nat} : ∀ (k : Nat), k < 9 → (cw a cI cL cD cS nf ns da be ui ul cn ss mf sd pr).set (36 + 2 * k) (a (36 + 2 * k), .inr (3, [.ref (a (37 + 2 * k)), .int (iI (x : Nat)), .int (iI (mf k)), .int (iI (sd k))])) = cw a cI cL cD cS nf ns da be ui ul cn (nw ss k x) mf sd pr
  | 0, _ => rfl
  | 1, _ => rfl
  | 2, _ => rfl
  | 3, _ => rfl
  | 4, _ => rfl
  | 5, _ => rfl
  | 6, _ => rfl
  | 7, _ => rfl
  | 8, _ => rfl
  | k + 9, h => absurd h (by omega)
theorem cw_umf {a : Nat → Nat} {cI cL cD cS : ClassId} {nf : Nat → Int → Int} {ns : Nat → Int} {da : Int → Int → Int} {be : Int → Int} {ui ul : Nat → Int → Int} {cn : Int} {ss : Nat → Nat} {mf sd : Nat → Int} {pr : Nat → Int → Int} {x : Int} : ∀ (k : Nat), k < 9 → (cw a cI cL cD cS nf ns da be ui ul cn ss mf sd pr).set (36 + 2 * k) (a (36 + 2 * k), .inr (3, [.ref (a (37 + 2 * k)), .int (iI (ss k : Nat)), .int (iI x), .int (iI (sd k))])) = cw a cI cL cD cS nf ns da be ui ul cn ss (nw mf k x) sd pr
  | 0, _ => rfl
  | 1, _ => rfl
  | 2, _ => rfl
  | 3, _ => rfl
  | 4, _ => rfl
  | 5, _ => rfl
  | 6, _ => rfl
  | 7, _ => rfl
  | 8, _ => rfl
  | k + 9, h => absurd h (by omega)
theorem cw_usd {a : Nat → Nat} {cI cL cD cS : ClassId} {nf : Nat → Int → Int} {ns : Nat → Int} {da : Int → Int → Int} {be : Int → Int} {ui ul : Nat → Int → Int} {cn : Int} {ss : Nat → Nat} {mf sd : Nat → Int} {pr : Nat → Int → Int} {x : Int} : ∀ (k : Nat), k < 9 → (cw a cI cL cD cS nf ns da be ui ul cn ss mf sd pr).set (36 + 2 * k) (a (36 + 2 * k), .inr (3, [.ref (a (37 + 2 * k)), .int (iI (ss k : Nat)), .int (iI (mf k)), .int (iI x)])) = cw a cI cL cD cS nf ns da be ui ul cn ss mf (nw sd k x) pr
  | 0, _ => rfl
  | 1, _ => rfl
  | 2, _ => rfl
  | 3, _ => rfl
  | 4, _ => rfl
  | 5, _ => rfl
  | 6, _ => rfl
  | 7, _ => rfl
  | 8, _ => rfl
  | k + 9, h => absurd h (by omega)
/-- what a method takes as given beside the words: the tables' numbers, the links between nest mates -/
def pn_nest : List (String × Nat × MethodName) := [("PressureNets", 11, y_N_init), ("PressureNets", 34, y_T_init), ("PressureNets$Net", 66, y_P_rowOf), ("PressureNets$Net", 78, y_P_ductOfFan), ("PressureNets$Settler", 76, y_P_rowOf), ("PressureNets$Stuff", 61, y_P_rowOf)]
abbrev pn_tys (cI cL cD cS : ClassId) : List (ClassId × FieldType) := [(cI, .int), (cL, .long), (cD, .array .int), (cS, .object "PressureNets$State")]
def pn_E (D : va_G) (cI cL cD cS : ClassId) (U : State) : Prop := va_K D pn_cl (pn_tys cI cL cD cS) U ∧ ∀ q ∈ pn_nest, va_Nw (.methodLinkNest q.1 q.2.1 q.2.2 "PressureNets") U
theorem pn_E.warm {D : va_G} {cI cL cD cS : ClassId} {s U : State} (hW : s.WarmedH U.vm) (h : pn_E D cI cL cD cS s) : pn_E D cI cL cD cS U := ⟨va_K.moved hW.alike h.1, fun q hq => va_Nw.warmM hW (h.2 q hq)⟩
theorem pn_E.same {D : va_G} {cI cL cD cS : ClassId} {s U : State} (hv : s.vm = U.vm) (h : pn_E D cI cL cD cS s) : pn_E D cI cL cD cS U := ⟨va_K.moved (by rw [hv]; exact Vm.Alike.refl U.vm) h.1, fun q hq => va_Nw.same rfl hv (h.2 q hq)⟩
theorem in0_P : ∀ w ∈ u_ws R_P T_P 6, w ∈ lw_tbl := by decide +kernel
theorem in1_P : ∀ w ∈ u_ws R_P T_P 6, goodWord w = true := by decide +kernel
theorem in_P (c0 : Cond) : ∀ w ∈ u_ws R_P T_P 6, w ∈ c0 :: pn_W := fun w h => List.mem_cons_of_mem _ (List.mem_filter.mpr ⟨in0_P w h, in1_P w h⟩)
theorem in0_N : ∀ w ∈ u_ws R_N T_N 17, w ∈ lw_tbl := by decide +kernel
theorem in1_N : ∀ w ∈ u_ws R_N T_N 17, goodWord w = true := by decide +kernel
theorem in_N (c0 : Cond) : ∀ w ∈ u_ws R_N T_N 17, w ∈ c0 :: pn_W := fun w h => List.mem_cons_of_mem _ (List.mem_filter.mpr ⟨in0_N w h, in1_N w h⟩)
theorem in0_S : ∀ w ∈ u_ws R_S T_S 2, w ∈ lw_tbl := by decide +kernel
theorem in1_S : ∀ w ∈ u_ws R_S T_S 2, goodWord w = true := by decide +kernel
theorem in_S (c0 : Cond) : ∀ w ∈ u_ws R_S T_S 2, w ∈ c0 :: pn_W := fun w h => List.mem_cons_of_mem _ (List.mem_filter.mpr ⟨in0_S w h, in1_S w h⟩)
theorem in0_T : ∀ w ∈ u_ws R_T T_T 4, w ∈ lw_tbl := by decide +kernel
theorem in1_T : ∀ w ∈ u_ws R_T T_T 4, goodWord w = true := by decide +kernel
theorem in_T (c0 : Cond) : ∀ w ∈ u_ws R_T T_T 4, w ∈ c0 :: pn_W := fun w h => List.mem_cons_of_mem _ (List.mem_filter.mpr ⟨in0_T w h, in1_T w h⟩)
theorem in0_U : ∀ w ∈ u_ws R_U T_U 6, w ∈ lw_tbl := by decide +kernel
theorem in1_U : ∀ w ∈ u_ws R_U T_U 6, goodWord w = true := by decide +kernel
theorem in_U (c0 : Cond) : ∀ w ∈ u_ws R_U T_U 6, w ∈ c0 :: pn_W := fun w h => List.mem_cons_of_mem _ (List.mem_filter.mpr ⟨in0_U w h, in1_U w h⟩)
theorem in0_M : ∀ w ∈ u_ws R_M T_M 27, w ∈ lw_tbl := by decide +kernel
theorem in1_M : ∀ w ∈ u_ws R_M T_M 27, goodWord w = true := by decide +kernel
theorem in_M (c0 : Cond) : ∀ w ∈ u_ws R_M T_M 27, w ∈ c0 :: pn_W := fun w h => List.mem_cons_of_mem _ (List.mem_filter.mpr ⟨in0_M w h, in1_M w h⟩)
end
section
/-! ends of methods, what is given at calls -/
def b2 (P : Prop) [Decidable P] : Int := if P then 1 else 0
theorem b2_t {P : Prop} [Decidable P] (h : P) : b2 P = 1 := if_pos h
theorem b2_f {P : Prop} [Decidable P] (h : ¬ P) : b2 P = 0 := if_neg h
theorem b2_01 (P : Prop) [Decidable P] : b2 P = 0 ∨ b2 P = 1 := by
  by_cases h : P
  · exact Or.inr (b2_t h)
  · exact Or.inl (b2_f h)
theorem b2_r (P : Prop) [Decidable P] : 0 ≤ b2 P ∧ b2 P ≤ 1 := by
  rcases b2_01 P with h | h <;> rw [h] <;> exact ⟨by decide, by decide⟩
theorem i3_b2 (P : Prop) [Decidable P] : i3 (b2 P) := by
  have h := b2_r P
  exact ⟨by omega, by omega⟩
theorem b2_iff {P Q : Prop} [Decidable P] [Decidable Q] (h : P ↔ Q) : b2 P = b2 Q := by
  by_cases p : P
  · rw [b2_t p, b2_t (h.mp p)]
  · rw [b2_f p, b2_f (fun q => p (h.mpr q))]
theorem b2_1 {P : Prop} [Decidable P] (h : b2 P = 1) : P := Classical.byContradiction fun q => by rw [b2_f q] at h; cases h
theorem b2_n1 {P : Prop} [Decidable P] (h : b2 P ≠ 0) : P := Classical.byContradiction fun q => h (b2_f q)
theorem b2_0 {P : Prop} [Decidable P] (h : b2 P = 0) : ¬ P := fun q => by rw [b2_t q] at h; cases h
section PE
variable {p : Program} {l : Launch} {e : Env} {R : Room} {s : State} {m : MethodId} {args : Array Value} {below : List Frame} {meth : Method} {c : Code} {H : Heap} {locs : List Loc} {cells slots : Nat} {Q : State → Prop}
variable {cc : ByteArray} {pc : Nat} {ls : Array Slot} {rest : List Value} {D : va_G} {cl : List vw_C} {A0 : Nat → Prop} {a : Nat} {tys : List (ClassId × FieldType)} {ws : va_W} {H0 : Heap}
theorem pr_ri {v x : Int} (hx : p.tables.exec = Jvm.exec) (hb : c.code = cc) (hr : meth.sig.returnType = some .int) (hlocks : meth.locks = false) (hd : decode cc pc = .ok (.ireturn, 1)) (hv : x = v) : W p l e R s m args below meth c s.heap [] 0 0 (MQ below (vp_Si (fun r => r = iI v)) args s 0 0 (fun _ => False)) (F0 m pc ls [.int (iI x)]) := by
  subst hv
  exact W.iret hx hb hr (fun t ht _ => ⟨_, rfl, rfl, ht⟩) (fun q h => nomatch h) hd
theorem pr_rz {v x : Int} (hx : p.tables.exec = Jvm.exec) (hb : c.code = cc) (hr : meth.sig.returnType = some .boolean) (hlocks : meth.locks = false) (hd : decode cc pc = .ok (.ireturn, 1)) (h01 : x = 0 ∨ x = 1) (hv : x = v) : W p l e R s m args below meth c s.heap [] 0 0 (MQ below (vp_Si (fun r => r = iI v)) args s 0 0 (fun _ => False)) (F0 m pc ls [.int (iI x)]) := by
  subst hv
  exact W.zret hx hb hr (by rcases h01 with h | h <;> rw [h] <;> decide) (fun t ht _ => ⟨_, rfl, rfl, ht⟩) (fun q h => nomatch h) hd
theorem pr_rl {v x : Int} (hx : p.tables.exec = Jvm.exec) (hb : c.code = cc) (hr : meth.sig.returnType = some .long) (hlocks : meth.locks = false) (hd : decode cc pc = .ok (.lreturn, 1)) (hv : x = v) : W p l e R s m args below meth c s.heap [] 0 0 (MQ below (vp_Sl (fun r => r = lI v)) args s 0 0 (fun _ => False)) (F0 m pc ls [.long (lI x)]) := by
  subst hv
  exact W.lret hx hb hr (fun t ht _ => ⟨_, rfl, rfl, ht⟩) (fun q h => nomatch h) hd
theorem pr_aald (hx : p.tables.exec = Jvm.exec) (hb : c.code = cc) (hK : va_K D cl tys s) (hP : va_P D cl ws H) (q0 t0 : Nat) {cA : ClassId} {ty : FieldType} (hty : ty.isReference = true) {n : Nat} {f : Nat → Option Nat} (ha : ws[q0]? = some (a, .inl (cA, n, .inr (.inr (.inr (.inr f)))))) (ht : tys[t0]? = some (cA, ty)) {V : Int} (r q : Nat) (hV : V = (r : Int)) (hn : n ≤ 2147483647) (hr : r < n) (hf : f r = some q) (hd : decode cc pc = .ok (.aaload, 1))
    (k : W p l e R s m args below meth c H locs cells slots Q (F0 m (pc + 1) ls (.ref q :: rest))) : W p l e R s m args below meth c H locs cells slots Q (F0 m pc ls (.int (iI V) :: .ref a :: rest)) := by
  subst hV
  have hc : (iI (r : Int)).toNatClampNeg = r := by rw [iI_clamp (by omega) (by omega)]; exact Int.toNat_natCast r
  have hin := iI_in (V := (r : Int)) (n := n) hn (by omega) (by omega)
  refine W.aald (v := .ref q) (ty := ty) hx hb (hP q0 _ ha) ((hK.2 t0 _ ht).1 n (fun j => va_rf (f j))) hty (fun q => by cases q) (by show ¬ (_ ∨ (arrV _ _ _).slots.size ≤ _); rw [arrV_size]; exact hin) (by show (arrV _ _ _).slots[_]? = _; rw [hc, arrV_read _ _ hr, hf]; rfl) rfl rfl hd k
end PE
section PP
variable {s : State} {H : Heap} {D : va_G} {cI cL cD cS : ClassId} {ws : va_W}
theorem pn_blind {av : List Value} : FrameBlind (va_Pc av (fun U => va_P D pn_cl ws U.heap ∧ pn_E D cI cL cD cS U)) := fun _ _ _ _ q => ⟨q.1, q.2.1, pn_E.same rfl q.2.2⟩
theorem pn_blind0 {av : List Value} : FrameBlind (va_Pc av (fun _ => True)) := fun _ _ _ _ q => ⟨q.1, trivial⟩
theorem pn_pre0 {As : List Value} : PreS s H (va_Pc As (fun _ => True)) As := ⟨pn_blind0, fun _ _ _ => ⟨rfl, trivial⟩⟩
theorem pn_preS {As : List Value} (hP : va_P D pn_cl ws H) (hE : pn_E D cI cL cD cS s) : PreS s H (va_Pc As (fun U => va_P D pn_cl ws U.heap ∧ pn_E D cI cL cD cS U)) As := ⟨pn_blind, fun U hU hW => ⟨rfl, by rw [hU]; exact hP, pn_E.warm hW hE⟩⟩
theorem pn_preV {As : List Value} {b q0 ci : Nat} {q : vw_C} {fs : List Value} (hP : va_P D pn_cl ws H) (hE : pn_E D cI cL cD cS s) (hc : pn_cl[ci]? = some q) (he : ws[q0]? = some (b, .inr (ci, fs))) : PreV s H q.1 b (va_Pc (.ref b :: As) (fun U => va_P D pn_cl ws U.heap ∧ pn_E D cI cL cD cS U)) As := ⟨pn_blind, va_recv hE.1 hP hc he, fun U hU hW => ⟨rfl, by rw [hU]; exact hP, pn_E.warm hW hE⟩⟩
end PP
end
section
abbrev w_P_isWithin : List Cond := .code y_P_isWithin b_P_isWithin 3 (some .boolean) :: pn_W
set_option maxHeartbeats 4000000 in
set_option maxRecDepth 100000 in
theorem c_P_isWithin (l : Launch) (x y z : Int) (gx : i3 x) (gy : i3 y) (gz : i3 z) : Met l y_P_isWithin w_P_isWithin ({ frames := 0, cells := 0, slots := 0, locals := 0 }) (va_Pc [.int (iI (x)), .int (iI (y)), .int (iI (z))] (fun _ => True)) (vp_Si (fun r => r = iI (b2 (y ≤ x ∧ x ≤ z)))) 0 0 (fun _ => False) := by
  refine Met.ofW (cc := b_P_isWithin) (maxL := 3) (ret := (some .boolean)) (by decide) rfl ?_
  intro p e s m args below meth c s₁ B hml hv
  obtain ⟨rfl, -⟩ := hv
  have hx := B.exec
  have hb := B.bytes
  have hr := B.returns
  have hts := atoms_spec (ws := w_P_isWithin) B.pre
  have ht : ∀ w ∈ pn_W, w.before _ s = true := fun w h => hts w (List.mem_cons_of_mem _ h)
  have hown : s.vm.findClass R_P = some m.cls := findClass_of_methodNamed B.named
  have hlocks := B.notSynchronized
  have hl := lv_entry ([.int (iI (x)), .int (iI (y)), .int (iI (z))]) (n := 3) (Nat.le_of_ble_eq_true rfl)
  rw [lg_entry_eq]
  generalize (lg_sl ([.int (iI (x)), .int (iI (y)), .int (iI (z))]) ++ List.replicate (3 - (lg_sl ([.int (iI (x)), .int (iI (y)), .int (iI (z))])).length) Slot.unset).toArray = ls at hl ⊢
  have hl : lv_has ls 3 [(0, .int (iI (x))), (1, .int (iI (y))), (2, .int (iI (z)))] := hl
  obtain ⟨gx1, gx2⟩ := gx
  obtain ⟨gy1, gy2⟩ := gy
  obtain ⟨gz1, gz2⟩ := gz
  refine lv_iload_n hx hb d_P_isWithin_0 rfl (lv_at hl 0 rfl) ?_
  refine lv_iload_n hx hb d_P_isWithin_1 rfl (lv_at hl 1 rfl) ?_
  refine pr_icmp_lt (tgt := 14) hx hb (i3_of (by omega) (by omega)) (i3_of (by omega) (by omega)) d_P_isWithin_2 (by decide) (fun c_1 => ?_) (fun c_1 => ?_)
  · skip
    refine lv_iconst (v := iI (0)) hx hb d_P_isWithin_14 rfl ?_
    exact pr_rz hx hb hr hlocks d_P_isWithin_15 (by first | exact Or.inl rfl | exact Or.inr rfl | exact b2_01 _) (by first | rfl | exact (b2_t (by omega)).symm | exact (b2_f (by omega)).symm)
  · skip
    refine lv_iload_n hx hb d_P_isWithin_5 rfl (lv_at hl 0 rfl) ?_
    refine lv_iload_n hx hb d_P_isWithin_6 rfl (lv_at hl 2 rfl) ?_
    refine pr_icmp_gt (tgt := 14) hx hb (i3_of (by omega) (by omega)) (i3_of (by omega) (by omega)) d_P_isWithin_7 (by decide) (fun c_2 => ?_) (fun c_2 => ?_)
    · skip
      refine lv_iconst (v := iI (0)) hx hb d_P_isWithin_14 rfl ?_
      exact pr_rz hx hb hr hlocks d_P_isWithin_15 (by first | exact Or.inl rfl | exact Or.inr rfl | exact b2_01 _) (by first | rfl | exact (b2_t (by omega)).symm | exact (b2_f (by omega)).symm)
    · skip
      refine lv_iconst (v := iI (1)) hx hb d_P_isWithin_10 rfl ?_
      refine lv_goto (tgt := 15) hx hb d_P_isWithin_11 (by decide) ?_
      exact pr_rz hx hb hr hlocks d_P_isWithin_15 (by first | exact Or.inl rfl | exact Or.inr rfl | exact b2_01 _) (by first | rfl | exact (b2_t (by omega)).symm | exact (b2_f (by omega)).symm)
abbrev w_P_isWarmth : List Cond := .code y_P_isWarmth b_P_isWarmth 1 (some .boolean) :: pn_W
set_option maxHeartbeats 4000000 in
set_option maxRecDepth 100000 in
theorem c_P_isWarmth (l : Launch) (x : Int) (gx : i3 x) : Met l y_P_isWarmth w_P_isWarmth ({ frames := 1, cells := 0, slots := 0, locals := 22 }) (va_Pc [.int (iI (x))] (fun _ => True)) (vp_Si (fun r => r = iI (b2 (-1000 ≤ x ∧ x ≤ 1000)))) 0 0 (fun _ => False) := by
  refine Met.ofW (cc := b_P_isWarmth) (maxL := 1) (ret := (some .boolean)) (by decide) rfl ?_
  intro p e s m args below meth c s₁ B hml hv
  obtain ⟨rfl, -⟩ := hv
  have hx := B.exec
  have hb := B.bytes
  have hr := B.returns
  have hts := atoms_spec (ws := w_P_isWarmth) B.pre
  have ht : ∀ w ∈ pn_W, w.before _ s = true := fun w h => hts w (List.mem_cons_of_mem _ h)
  have hown : s.vm.findClass R_P = some m.cls := findClass_of_methodNamed B.named
  have hlocks := B.notSynchronized
  have hl := lv_entry ([.int (iI (x))]) (n := 1) (Nat.le_of_ble_eq_true rfl)
  rw [lg_entry_eq]
  generalize (lg_sl ([.int (iI (x))]) ++ List.replicate (1 - (lg_sl ([.int (iI (x))])).length) Slot.unset).toArray = ls at hl ⊢
  have hl : lv_has ls 1 [(0, .int (iI (x)))] := hl
  obtain ⟨gx1, gx2⟩ := gx
  refine lv_iload_n hx hb d_P_isWarmth_0 rfl (lv_at hl 0 rfl) ?_
  refine lv_sipush (v := iI (-1000)) hx hb d_P_isWarmth_1 (by decide) ?_
  refine lv_sipush (v := iI (1000)) hx hb d_P_isWarmth_4 (by decide) ?_
  refine pr_pi (va_runS (As := [.int (iI (x)), .int (iI (-1000)), .int (iI (1000))]) (rest := []) ⟨hx, hb, hml, hown, hts⟩ (c_P_isWithin l (x) (-1000) (1000) (i3_of (by omega) (by omega)) (i3_of (by decide) (by decide)) (i3_of (by decide) (by decide))) (cwS 3 hts (pn_gS m_227 m_228 m_33 m_229) rfl rfl rfl (by decide +kernel) ⟨Nat.le_of_ble_eq_true rfl, Nat.le_of_ble_eq_true rfl⟩) pn_pre0 rfl rfl hl.1 rfl (lv_room (Nat.le_of_ble_eq_true rfl)) d_P_isWarmth_7 ⟨Nat.le_of_ble_eq_true rfl, Nat.le_of_ble_eq_true rfl⟩) ?_
  exact pr_rz hx hb hr hlocks d_P_isWarmth_10 (by first | exact Or.inl rfl | exact Or.inr rfl | exact b2_01 _) (by first | rfl | exact (b2_t (by omega)).symm | exact (b2_f (by omega)).symm)
abbrev w_P_isSide : List Cond := .code y_P_isSide b_P_isSide 1 (some .boolean) :: pn_W
set_option maxHeartbeats 4000000 in
set_option maxRecDepth 100000 in
theorem c_P_isSide (l : Launch) (x : Int) (gx : i3 x) : Met l y_P_isSide w_P_isSide ({ frames := 1, cells := 0, slots := 0, locals := 22 }) (va_Pc [.int (iI (x))] (fun _ => True)) (vp_Si (fun r => r = iI (b2 (-4 ≤ x ∧ x ≤ -1)))) 0 0 (fun _ => False) := by
  refine Met.ofW (cc := b_P_isSide) (maxL := 1) (ret := (some .boolean)) (by decide) rfl ?_
  intro p e s m args below meth c s₁ B hml hv
  obtain ⟨rfl, -⟩ := hv
  have hx := B.exec
  have hb := B.bytes
  have hr := B.returns
  have hts := atoms_spec (ws := w_P_isSide) B.pre
  have ht : ∀ w ∈ pn_W, w.before _ s = true := fun w h => hts w (List.mem_cons_of_mem _ h)
  have hown : s.vm.findClass R_P = some m.cls := findClass_of_methodNamed B.named
  have hlocks := B.notSynchronized
  have hl := lv_entry ([.int (iI (x))]) (n := 1) (Nat.le_of_ble_eq_true rfl)
  rw [lg_entry_eq]
  generalize (lg_sl ([.int (iI (x))]) ++ List.replicate (1 - (lg_sl ([.int (iI (x))])).length) Slot.unset).toArray = ls at hl ⊢
  have hl : lv_has ls 1 [(0, .int (iI (x)))] := hl
  obtain ⟨gx1, gx2⟩ := gx
  refine lv_iload_n hx hb d_P_isSide_0 rfl (lv_at hl 0 rfl) ?_
  refine lv_bipush (v := iI (-4)) hx hb d_P_isSide_1 (by decide) ?_
  refine lv_iconst (v := iI (-1)) hx hb d_P_isSide_3 rfl ?_
  refine pr_pi (va_runS (As := [.int (iI (x)), .int (iI (-4)), .int (iI (-1))]) (rest := []) ⟨hx, hb, hml, hown, hts⟩ (c_P_isWithin l (x) (-4) (-1) (i3_of (by omega) (by omega)) (i3_of (by decide) (by decide)) (i3_of (by decide) (by decide))) (cwS 3 hts (pn_gS m_227 m_228 m_33 m_229) rfl rfl rfl (by decide +kernel) ⟨Nat.le_of_ble_eq_true rfl, Nat.le_of_ble_eq_true rfl⟩) pn_pre0 rfl rfl hl.1 rfl (lv_room (Nat.le_of_ble_eq_true rfl)) d_P_isSide_4 ⟨Nat.le_of_ble_eq_true rfl, Nat.le_of_ble_eq_true rfl⟩) ?_
  exact pr_rz hx hb hr hlocks d_P_isSide_7 (by first | exact Or.inl rfl | exact Or.inr rfl | exact b2_01 _) (by first | rfl | exact (b2_t (by omega)).symm | exact (b2_f (by omega)).symm)
abbrev w_P_rowOf : List Cond := .code y_P_rowOf b_P_rowOf 1 (some .int) :: pn_W
set_option maxHeartbeats 4000000 in
set_option maxRecDepth 100000 in
theorem c_P_rowOf (l : Launch) (x : Int)  : Met l y_P_rowOf w_P_rowOf ({ frames := 0, cells := 0, slots := 0, locals := 0 }) (va_Pc [.int (iI (x))] (fun _ => True)) (vp_Si (fun r => r = iI (x + 4))) 0 0 (fun _ => False) := by
  refine Met.ofW (cc := b_P_rowOf) (maxL := 1) (ret := (some .int)) (by decide) rfl ?_
  intro p e s m args below meth c s₁ B hml hv
  obtain ⟨rfl, -⟩ := hv
  have hx := B.exec
  have hb := B.bytes
  have hr := B.returns
  have hts := atoms_spec (ws := w_P_rowOf) B.pre
  have ht : ∀ w ∈ pn_W, w.before _ s = true := fun w h => hts w (List.mem_cons_of_mem _ h)
  have hown : s.vm.findClass R_P = some m.cls := findClass_of_methodNamed B.named
  have hlocks := B.notSynchronized
  have hl := lv_entry ([.int (iI (x))]) (n := 1) (Nat.le_of_ble_eq_true rfl)
  rw [lg_entry_eq]
  generalize (lg_sl ([.int (iI (x))]) ++ List.replicate (1 - (lg_sl ([.int (iI (x))])).length) Slot.unset).toArray = ls at hl ⊢
  have hl : lv_has ls 1 [(0, .int (iI (x)))] := hl
  refine lv_iload_n hx hb d_P_rowOf_0 rfl (lv_at hl 0 rfl) ?_
  refine lv_iconst (v := iI (4)) hx hb d_P_rowOf_1 rfl ?_
  refine pr_iadd hx hb d_P_rowOf_2 ?_
  exact pr_ri hx hb hr hlocks d_P_rowOf_3 (by first | rfl | exact (b2_t (by omega)).symm | exact (b2_f (by omega)).symm)
abbrev w_P_ductOfFan : List Cond := .code y_P_ductOfFan b_P_ductOfFan 1 (some .int) :: pn_W
set_option maxHeartbeats 4000000 in
set_option maxRecDepth 100000 in
theorem c_P_ductOfFan (l : Launch) (x : Int)  : Met l y_P_ductOfFan w_P_ductOfFan ({ frames := 0, cells := 0, slots := 0, locals := 0 }) (va_Pc [.int (iI (x))] (fun _ => True)) (vp_Si (fun r => r = iI (20 + x))) 0 0 (fun _ => False) := by
  refine Met.ofW (cc := b_P_ductOfFan) (maxL := 1) (ret := (some .int)) (by decide) rfl ?_
  intro p e s m args below meth c s₁ B hml hv
  obtain ⟨rfl, -⟩ := hv
  have hx := B.exec
  have hb := B.bytes
  have hr := B.returns
  have hts := atoms_spec (ws := w_P_ductOfFan) B.pre
  have ht : ∀ w ∈ pn_W, w.before _ s = true := fun w h => hts w (List.mem_cons_of_mem _ h)
  have hown : s.vm.findClass R_P = some m.cls := findClass_of_methodNamed B.named
  have hlocks := B.notSynchronized
  have hl := lv_entry ([.int (iI (x))]) (n := 1) (Nat.le_of_ble_eq_true rfl)
  rw [lg_entry_eq]
  generalize (lg_sl ([.int (iI (x))]) ++ List.replicate (1 - (lg_sl ([.int (iI (x))])).length) Slot.unset).toArray = ls at hl ⊢
  have hl : lv_has ls 1 [(0, .int (iI (x)))] := hl
  refine lv_bipush (v := iI (20)) hx hb d_P_ductOfFan_0 (by decide) ?_
  refine lv_iload_n hx hb d_P_ductOfFan_2 rfl (lv_at hl 0 rfl) ?_
  refine pr_iadd hx hb d_P_ductOfFan_3 ?_
  exact pr_ri hx hb hr hlocks d_P_ductOfFan_4 (by first | rfl | exact (b2_t (by omega)).symm | exact (b2_f (by omega)).symm)
end
section
/-- what holds of the net's numbers -/
def pn_Ok (nf : Nat → Int → Int) (ns : Nat → Int) (da : Int → Int → Int) : Prop :=
  (0 ≤ ns 0 ∧ ns 0 ≤ 8) ∧ (0 ≤ ns 1 ∧ ns 1 ≤ 20) ∧ (0 ≤ ns 2 ∧ ns 2 ≤ 4) ∧ (0 ≤ ns 3 ∧ ns 3 ≤ 512) ∧
  (∀ j, 0 ≤ j → j < 4 → -1000 ≤ nf 0 j ∧ nf 0 j ≤ 1000) ∧ (∀ j, 0 ≤ j → j < 12 → -1000 ≤ nf 1 j ∧ nf 1 j ≤ 1000) ∧ (∀ j, 0 ≤ j → j < 8 → 0 ≤ nf 2 j ∧ nf 2 j ≤ 100000) ∧
  (∀ j, 0 ≤ j → j < 24 → 0 ≤ nf 3 j ∧ nf 3 j ≤ 11) ∧ (∀ j, 0 ≤ j → j < 24 → 0 ≤ nf 4 j ∧ nf 4 j ≤ 11) ∧ (∀ j, 0 ≤ j → j < 20 → 0 ≤ nf 5 j ∧ nf 5 j ≤ 100) ∧ (∀ j, 0 ≤ j → j < 20 → 0 ≤ nf 6 j ∧ nf 6 j ≤ 1000) ∧
  (∀ j, 0 ≤ j → j < 20 → 0 ≤ nf 7 j ∧ nf 7 j ≤ 1) ∧ (∀ j, 0 ≤ j → j < 20 → -2000 ≤ nf 8 j ∧ nf 8 j ≤ 2000) ∧ (∀ j, 0 ≤ j → j < 4 → 0 ≤ nf 9 j ∧ nf 9 j ≤ 10000) ∧ (∀ j, 0 ≤ j → j < 4 → 0 ≤ nf 10 j ∧ nf 10 j ≤ 100) ∧
  (∀ j, 0 ≤ j → j < 12 → 0 ≤ nf 11 j ∧ nf 11 j ≤ 24) ∧ (∀ r j, 0 ≤ r → r < 12 → 0 ≤ j → j < 24 → 0 ≤ da r j ∧ da r j ≤ 23)
/-- pressures that may stand in a state while it is made -/
def pn_Pr (P : Int → Int) : Prop := ∀ j, 0 ≤ j → j < 12 → -5000 ≤ P j ∧ P j ≤ 20000
def m_drive (nf : Nat → Int → Int) (P : Int → Int) (j : Int) : Int := P (nf 3 j) - P (nf 4 j) + nf 8 j
abbrev w_P_isZone : List Cond := .code y_P_isZone b_P_isZone 2 (some .boolean) :: pn_W
set_option maxHeartbeats 4000000 in
set_option maxRecDepth 100000 in
theorem c_P_isZone (l : Launch) {D : va_G} {a : Nat → Nat} {cI cL cD cS : ClassId} {nf : Nat → Int → Int} {ns : Nat → Int} {da : Int → Int → Int} {be : Int → Int} {ui ul : Nat → Int → Int} {cn : Int} {ss : Nat → Nat} {mf sd : Nat → Int} {pr : Nat → Int → Int} (x : Int) (hOk : pn_Ok nf ns da) (gx : i3 x) : Met l y_P_isZone w_P_isZone ({ frames := 1, cells := 0, slots := 0, locals := 22 }) (va_Pc [.ref (a 0), .int (iI (x))] (fun U => va_P D pn_cl (cw a cI cL cD cS nf ns da be ui ul cn ss mf sd pr) U.heap ∧ pn_E D cI cL cD cS U)) (vp_Si (fun r => r = iI (b2 (0 ≤ x ∧ x ≤ ns 0 - 1)))) 0 0 (fun _ => False) := by
  refine Met.ofW (cc := b_P_isZone) (maxL := 2) (ret := (some .boolean)) (by decide) rfl ?_
  intro p e s m args below meth c s₁ B hml hv
  obtain ⟨rfl, hP, hE⟩ := hv
  have hx := B.exec
  have hb := B.bytes
  have hr := B.returns
  have hts := atoms_spec (ws := w_P_isZone) B.pre
  have ht : ∀ w ∈ pn_W, w.before _ s = true := fun w h => hts w (List.mem_cons_of_mem _ h)
  have hown : s.vm.findClass R_P = some m.cls := findClass_of_methodNamed B.named
  have hlocks := B.notSynchronized
  have hK := hE.1
  have hl := lv_entry ([.ref (a 0), .int (iI (x))]) (n := 2) (Nat.le_of_ble_eq_true rfl)
  rw [lg_entry_eq]
  generalize (lg_sl ([.ref (a 0), .int (iI (x))]) ++ List.replicate (2 - (lg_sl ([.ref (a 0), .int (iI (x))])).length) Slot.unset).toArray = ls at hl ⊢
  have hl : lv_has ls 2 [(0, .ref (a 0)), (1, .int (iI (x)))] := hl
  obtain ⟨o_zc, o_lc, o_fc, o_ve, o_wi, o_wa, o_vo, o_fr, o_to, o_he, o_ar, o_ki, o_st, o_ff, o_sl, o_dc, o_da⟩ := id hOk
  obtain ⟨gx1, gx2⟩ := gx
  refine lv_iload_n hx hb d_P_isZone_0 rfl (lv_at hl 1 rfl) ?_
  refine lv_iconst (v := iI (0)) hx hb d_P_isZone_1 rfl ?_
  refine lv_aload_n hx hb d_P_isZone_2 rfl (lv_at hl 0 rfl) ?_
  refine va_get (D := D) (ci := 0) (v := .ref (a 1)) (C := R_P) (T := T_P) (N := 6) hx hb hts (in_P _) hown hK hP 0 rfl rfl 0 (by decide) (ht _ m_196) (fun _ h9 => h9) rfl d_P_isZone_3 ?_
  refine va_get (D := D) (ci := 1) (v := .int (iI (ns 0))) (C := R_N) (T := T_N) (N := 17) hx hb hts (in_N _) hown hK hP 1 rfl rfl 13 (by decide) (ht _ m_82) (fun _ h9 => h9) rfl d_P_isZone_6 ?_
  refine lv_iconst (v := iI (1)) hx hb d_P_isZone_9 rfl ?_
  refine pr_isub hx hb d_P_isZone_10 ?_
  refine pr_pi (va_runS (As := [.int (iI (x)), .int (iI (0)), .int (iI ((ns 0) - (1)))]) (rest := []) ⟨hx, hb, hml, hown, hts⟩ (c_P_isWithin l (x) (0) ((ns 0) - (1)) (i3_of (by omega) (by omega)) (i3_of (by decide) (by decide)) (i3_of (by omega) (by omega))) (cwS 3 hts (pn_gS m_227 m_228 m_33 m_229) rfl rfl rfl (by decide +kernel) ⟨Nat.le_of_ble_eq_true rfl, Nat.le_of_ble_eq_true rfl⟩) pn_pre0 rfl rfl hl.1 rfl (lv_room (Nat.le_of_ble_eq_true rfl)) d_P_isZone_11 ⟨Nat.le_of_ble_eq_true rfl, Nat.le_of_ble_eq_true rfl⟩) ?_
  exact pr_rz hx hb hr hlocks d_P_isZone_14 (by first | exact Or.inl rfl | exact Or.inr rfl | exact b2_01 _) (by first | rfl | exact (b2_t (by omega)).symm | exact (b2_f (by omega)).symm)
abbrev w_P_isLeak : List Cond := .code y_P_isLeak b_P_isLeak 2 (some .boolean) :: pn_W
set_option maxHeartbeats 4000000 in
set_option maxRecDepth 100000 in
theorem c_P_isLeak (l : Launch) {D : va_G} {a : Nat → Nat} {cI cL cD cS : ClassId} {nf : Nat → Int → Int} {ns : Nat → Int} {da : Int → Int → Int} {be : Int → Int} {ui ul : Nat → Int → Int} {cn : Int} {ss : Nat → Nat} {mf sd : Nat → Int} {pr : Nat → Int → Int} (x : Int) (hOk : pn_Ok nf ns da) (gx : i3 x) : Met l y_P_isLeak w_P_isLeak ({ frames := 1, cells := 0, slots := 0, locals := 22 }) (va_Pc [.ref (a 0), .int (iI (x))] (fun U => va_P D pn_cl (cw a cI cL cD cS nf ns da be ui ul cn ss mf sd pr) U.heap ∧ pn_E D cI cL cD cS U)) (vp_Si (fun r => r = iI (b2 (0 ≤ x ∧ x ≤ ns 1 - 1)))) 0 0 (fun _ => False) := by
  refine Met.ofW (cc := b_P_isLeak) (maxL := 2) (ret := (some .boolean)) (by decide) rfl ?_
  intro p e s m args below meth c s₁ B hml hv
  obtain ⟨rfl, hP, hE⟩ := hv
  have hx := B.exec
  have hb := B.bytes
  have hr := B.returns
  have hts := atoms_spec (ws := w_P_isLeak) B.pre
  have ht : ∀ w ∈ pn_W, w.before _ s = true := fun w h => hts w (List.mem_cons_of_mem _ h)
  have hown : s.vm.findClass R_P = some m.cls := findClass_of_methodNamed B.named
  have hlocks := B.notSynchronized
  have hK := hE.1
  have hl := lv_entry ([.ref (a 0), .int (iI (x))]) (n := 2) (Nat.le_of_ble_eq_true rfl)
  rw [lg_entry_eq]
  generalize (lg_sl ([.ref (a 0), .int (iI (x))]) ++ List.replicate (2 - (lg_sl ([.ref (a 0), .int (iI (x))])).length) Slot.unset).toArray = ls at hl ⊢
  have hl : lv_has ls 2 [(0, .ref (a 0)), (1, .int (iI (x)))] := hl
  obtain ⟨o_zc, o_lc, o_fc, o_ve, o_wi, o_wa, o_vo, o_fr, o_to, o_he, o_ar, o_ki, o_st, o_ff, o_sl, o_dc, o_da⟩ := id hOk
  obtain ⟨gx1, gx2⟩ := gx
  refine lv_iload_n hx hb d_P_isLeak_0 rfl (lv_at hl 1 rfl) ?_
  refine lv_iconst (v := iI (0)) hx hb d_P_isLeak_1 rfl ?_
  refine lv_aload_n hx hb d_P_isLeak_2 rfl (lv_at hl 0 rfl) ?_
  refine va_get (D := D) (ci := 0) (v := .ref (a 1)) (C := R_P) (T := T_P) (N := 6) hx hb hts (in_P _) hown hK hP 0 rfl rfl 0 (by decide) (ht _ m_196) (fun _ h9 => h9) rfl d_P_isLeak_3 ?_
  refine va_get (D := D) (ci := 1) (v := .int (iI (ns 1))) (C := R_N) (T := T_N) (N := 17) hx hb hts (in_N _) hown hK hP 1 rfl rfl 14 (by decide) (ht _ m_86) (fun _ h9 => h9) rfl d_P_isLeak_6 ?_
  refine lv_iconst (v := iI (1)) hx hb d_P_isLeak_9 rfl ?_
  refine pr_isub hx hb d_P_isLeak_10 ?_
  refine pr_pi (va_runS (As := [.int (iI (x)), .int (iI (0)), .int (iI ((ns 1) - (1)))]) (rest := []) ⟨hx, hb, hml, hown, hts⟩ (c_P_isWithin l (x) (0) ((ns 1) - (1)) (i3_of (by omega) (by omega)) (i3_of (by decide) (by decide)) (i3_of (by omega) (by omega))) (cwS 3 hts (pn_gS m_227 m_228 m_33 m_229) rfl rfl rfl (by decide +kernel) ⟨Nat.le_of_ble_eq_true rfl, Nat.le_of_ble_eq_true rfl⟩) pn_pre0 rfl rfl hl.1 rfl (lv_room (Nat.le_of_ble_eq_true rfl)) d_P_isLeak_11 ⟨Nat.le_of_ble_eq_true rfl, Nat.le_of_ble_eq_true rfl⟩) ?_
  exact pr_rz hx hb hr hlocks d_P_isLeak_14 (by first | exact Or.inl rfl | exact Or.inr rfl | exact b2_01 _) (by first | rfl | exact (b2_t (by omega)).symm | exact (b2_f (by omega)).symm)
abbrev w_P_isPlace : List Cond := .code y_P_isPlace b_P_isPlace 2 (some .boolean) :: pn_W
set_option maxHeartbeats 4000000 in
set_option maxRecDepth 100000 in
theorem c_P_isPlace (l : Launch) {D : va_G} {a : Nat → Nat} {cI cL cD cS : ClassId} {nf : Nat → Int → Int} {ns : Nat → Int} {da : Int → Int → Int} {be : Int → Int} {ui ul : Nat → Int → Int} {cn : Int} {ss : Nat → Nat} {mf sd : Nat → Int} {pr : Nat → Int → Int} (x : Int) (hOk : pn_Ok nf ns da) (gx : i3 x) : Met l y_P_isPlace w_P_isPlace ({ frames := 2, cells := 0, slots := 0, locals := 43 }) (va_Pc [.ref (a 0), .int (iI (x))] (fun U => va_P D pn_cl (cw a cI cL cD cS nf ns da be ui ul cn ss mf sd pr) U.heap ∧ pn_E D cI cL cD cS U)) (vp_Si (fun r => r = iI (b2 (-4 ≤ x ∧ x ≤ ns 0 - 1)))) 0 0 (fun _ => False) := by
  refine Met.ofW (cc := b_P_isPlace) (maxL := 2) (ret := (some .boolean)) (by decide) rfl ?_
  intro p e s m args below meth c s₁ B hml hv
  obtain ⟨rfl, hP, hE⟩ := hv
  have hx := B.exec
  have hb := B.bytes
  have hr := B.returns
  have hts := atoms_spec (ws := w_P_isPlace) B.pre
  have ht : ∀ w ∈ pn_W, w.before _ s = true := fun w h => hts w (List.mem_cons_of_mem _ h)
  have hown : s.vm.findClass R_P = some m.cls := findClass_of_methodNamed B.named
  have hlocks := B.notSynchronized
  have hK := hE.1
  have hl := lv_entry ([.ref (a 0), .int (iI (x))]) (n := 2) (Nat.le_of_ble_eq_true rfl)
  rw [lg_entry_eq]
  generalize (lg_sl ([.ref (a 0), .int (iI (x))]) ++ List.replicate (2 - (lg_sl ([.ref (a 0), .int (iI (x))])).length) Slot.unset).toArray = ls at hl ⊢
  have hl : lv_has ls 2 [(0, .ref (a 0)), (1, .int (iI (x)))] := hl
  obtain ⟨o_zc, o_lc, o_fc, o_ve, o_wi, o_wa, o_vo, o_fr, o_to, o_he, o_ar, o_ki, o_st, o_ff, o_sl, o_dc, o_da⟩ := id hOk
  obtain ⟨gx1, gx2⟩ := gx
  refine lv_iload_n hx hb d_P_isPlace_0 rfl (lv_at hl 1 rfl) ?_
  refine pr_pi (va_runS (As := [.int (iI (x))]) (rest := []) ⟨hx, hb, hml, hown, hts⟩ (c_P_isSide l (x) (i3_of (by omega) (by omega))) (cwS 1 hts (pn_gS m_334 m_335 m_33 m_336) rfl rfl rfl (by decide +kernel) ⟨Nat.le_of_ble_eq_true rfl, Nat.le_of_ble_eq_true rfl⟩) pn_pre0 rfl rfl hl.1 rfl (lv_room (Nat.le_of_ble_eq_true rfl)) d_P_isPlace_1 ⟨Nat.le_of_ble_eq_true rfl, Nat.le_of_ble_eq_true rfl⟩) ?_
  refine pr_if_ne (tgt := 15) hx hb (i3_b2 _) d_P_isPlace_4 (by decide) (fun c_1 => ?_) (fun c_1 => ?_)
  · replace c_1 := b2_n1 c_1
    refine lv_iconst (v := iI (1)) hx hb d_P_isPlace_15 rfl ?_
    refine lv_goto (tgt := 20) hx hb d_P_isPlace_16 (by decide) ?_
    exact pr_rz hx hb hr hlocks d_P_isPlace_20 (by first | exact Or.inl rfl | exact Or.inr rfl | exact b2_01 _) (by first | rfl | exact (b2_t (by omega)).symm | exact (b2_f (by omega)).symm)
  · replace c_1 := b2_0 c_1
    refine lv_aload_n hx hb d_P_isPlace_7 rfl (lv_at hl 0 rfl) ?_
    refine lv_iload_n hx hb d_P_isPlace_8 rfl (lv_at hl 1 rfl) ?_
    refine pr_pi (va_runV (As := [.int (iI (x))]) (rest := []) ⟨hx, hb, hml, hown, hts⟩ (c_P_isZone l (x) hOk (i3_of (by omega) (by omega))) (cwV 1 hts (pn_gV m_353 m_355 m_2 m_33 m_356) rfl rfl rfl (by decide +kernel) ⟨Nat.le_of_ble_eq_true rfl, Nat.le_of_ble_eq_true rfl⟩) (pn_preV (q0 := 0) (ci := 0) (q := (R_P, T_P, 6)) hP hE rfl rfl) rfl rfl hl.1 rfl (lv_room (Nat.le_of_ble_eq_true rfl)) d_P_isPlace_9 ⟨Nat.le_of_ble_eq_true rfl, Nat.le_of_ble_eq_true rfl⟩) ?_
    refine pr_if_eq (tgt := 19) hx hb (i3_b2 _) d_P_isPlace_12 (by decide) (fun c_2 => ?_) (fun c_2 => ?_)
    · replace c_2 := b2_0 c_2
      refine lv_iconst (v := iI (0)) hx hb d_P_isPlace_19 rfl ?_
      exact pr_rz hx hb hr hlocks d_P_isPlace_20 (by first | exact Or.inl rfl | exact Or.inr rfl | exact b2_01 _) (by first | rfl | exact (b2_t (by omega)).symm | exact (b2_f (by omega)).symm)
    · replace c_2 := b2_n1 c_2
      refine lv_iconst (v := iI (1)) hx hb d_P_isPlace_15 rfl ?_
      refine lv_goto (tgt := 20) hx hb d_P_isPlace_16 (by decide) ?_
      exact pr_rz hx hb hr hlocks d_P_isPlace_20 (by first | exact Or.inl rfl | exact Or.inr rfl | exact b2_01 _) (by first | rfl | exact (b2_t (by omega)).symm | exact (b2_f (by omega)).symm)
abbrev w_P_canJoin : List Cond := .code y_P_canJoin b_P_canJoin 3 (some .boolean) :: pn_W
set_option maxHeartbeats 4000000 in
set_option maxRecDepth 100000 in
theorem c_P_canJoin (l : Launch) {D : va_G} {a : Nat → Nat} {cI cL cD cS : ClassId} {nf : Nat → Int → Int} {ns : Nat → Int} {da : Int → Int → Int} {be : Int → Int} {ui ul : Nat → Int → Int} {cn : Int} {ss : Nat → Nat} {mf sd : Nat → Int} {pr : Nat → Int → Int} (x y : Int) (hOk : pn_Ok nf ns da) (gx : i3 x) (gy : i3 y) : Met l y_P_canJoin w_P_canJoin ({ frames := 3, cells := 0, slots := 0, locals := 64 }) (va_Pc [.ref (a 0), .int (iI (x)), .int (iI (y))] (fun U => va_P D pn_cl (cw a cI cL cD cS nf ns da be ui ul cn ss mf sd pr) U.heap ∧ pn_E D cI cL cD cS U)) (vp_Si (fun r => r = iI (b2 ((-4 ≤ x ∧ x ≤ ns 0 - 1) ∧ (-4 ≤ y ∧ y ≤ ns 0 - 1) ∧ x ≠ y ∧ ¬ ((-4 ≤ x ∧ x ≤ -1) ∧ (-4 ≤ y ∧ y ≤ -1)))))) 0 0 (fun _ => False) := by
  refine Met.ofW (cc := b_P_canJoin) (maxL := 3) (ret := (some .boolean)) (by decide) rfl ?_
  intro p e s m args below meth c s₁ B hml hv
  obtain ⟨rfl, hP, hE⟩ := hv
  have hx := B.exec
  have hb := B.bytes
  have hr := B.returns
  have hts := atoms_spec (ws := w_P_canJoin) B.pre
  have ht : ∀ w ∈ pn_W, w.before _ s = true := fun w h => hts w (List.mem_cons_of_mem _ h)
  have hown : s.vm.findClass R_P = some m.cls := findClass_of_methodNamed B.named
  have hlocks := B.notSynchronized
  have hK := hE.1
  have hl := lv_entry ([.ref (a 0), .int (iI (x)), .int (iI (y))]) (n := 3) (Nat.le_of_ble_eq_true rfl)
  rw [lg_entry_eq]
  generalize (lg_sl ([.ref (a 0), .int (iI (x)), .int (iI (y))]) ++ List.replicate (3 - (lg_sl ([.ref (a 0), .int (iI (x)), .int (iI (y))])).length) Slot.unset).toArray = ls at hl ⊢
  have hl : lv_has ls 3 [(0, .ref (a 0)), (1, .int (iI (x))), (2, .int (iI (y)))] := hl
  obtain ⟨o_zc, o_lc, o_fc, o_ve, o_wi, o_wa, o_vo, o_fr, o_to, o_he, o_ar, o_ki, o_st, o_ff, o_sl, o_dc, o_da⟩ := id hOk
  obtain ⟨gx1, gx2⟩ := gx
  obtain ⟨gy1, gy2⟩ := gy
  refine lv_aload_n hx hb d_P_canJoin_0 rfl (lv_at hl 0 rfl) ?_
  refine lv_iload_n hx hb d_P_canJoin_1 rfl (lv_at hl 1 rfl) ?_
  refine pr_pi (va_runV (As := [.int (iI (x))]) (rest := []) ⟨hx, hb, hml, hown, hts⟩ (c_P_isPlace l (x) hOk (i3_of (by omega) (by omega))) (cwV 1 hts (pn_gV m_349 m_351 m_1 m_33 m_352) rfl rfl rfl (by decide +kernel) ⟨Nat.le_of_ble_eq_true rfl, Nat.le_of_ble_eq_true rfl⟩) (pn_preV (q0 := 0) (ci := 0) (q := (R_P, T_P, 6)) hP hE rfl rfl) rfl rfl hl.1 rfl (lv_room (Nat.le_of_ble_eq_true rfl)) d_P_canJoin_2 ⟨Nat.le_of_ble_eq_true rfl, Nat.le_of_ble_eq_true rfl⟩) ?_
  refine pr_if_eq (tgt := 39) hx hb (i3_b2 _) d_P_canJoin_5 (by decide) (fun c_1 => ?_) (fun c_1 => ?_)
  · replace c_1 := b2_0 c_1
    refine lv_iconst (v := iI (0)) hx hb d_P_canJoin_39 rfl ?_
    exact pr_rz hx hb hr hlocks d_P_canJoin_40 (by first | exact Or.inl rfl | exact Or.inr rfl | exact b2_01 _) (by first | rfl | exact (b2_t (by omega)).symm | exact (b2_f (by omega)).symm)
  · replace c_1 := b2_n1 c_1
    refine lv_aload_n hx hb d_P_canJoin_8 rfl (lv_at hl 0 rfl) ?_
    refine lv_iload_n hx hb d_P_canJoin_9 rfl (lv_at hl 2 rfl) ?_
    refine pr_pi (va_runV (As := [.int (iI (y))]) (rest := []) ⟨hx, hb, hml, hown, hts⟩ (c_P_isPlace l (y) hOk (i3_of (by omega) (by omega))) (cwV 1 hts (pn_gV m_349 m_351 m_1 m_33 m_352) rfl rfl rfl (by decide +kernel) ⟨Nat.le_of_ble_eq_true rfl, Nat.le_of_ble_eq_true rfl⟩) (pn_preV (q0 := 0) (ci := 0) (q := (R_P, T_P, 6)) hP hE rfl rfl) rfl rfl hl.1 rfl (lv_room (Nat.le_of_ble_eq_true rfl)) d_P_canJoin_10 ⟨Nat.le_of_ble_eq_true rfl, Nat.le_of_ble_eq_true rfl⟩) ?_
    refine pr_if_eq (tgt := 39) hx hb (i3_b2 _) d_P_canJoin_13 (by decide) (fun c_2 => ?_) (fun c_2 => ?_)
    · replace c_2 := b2_0 c_2
      refine lv_iconst (v := iI (0)) hx hb d_P_canJoin_39 rfl ?_
      exact pr_rz hx hb hr hlocks d_P_canJoin_40 (by first | exact Or.inl rfl | exact Or.inr rfl | exact b2_01 _) (by first | rfl | exact (b2_t (by omega)).symm | exact (b2_f (by omega)).symm)
    · replace c_2 := b2_n1 c_2
      refine lv_iload_n hx hb d_P_canJoin_16 rfl (lv_at hl 1 rfl) ?_
      refine lv_iload_n hx hb d_P_canJoin_17 rfl (lv_at hl 2 rfl) ?_
      refine pr_icmp_eq (tgt := 39) hx hb (i3_of (by omega) (by omega)) (i3_of (by omega) (by omega)) d_P_canJoin_18 (by decide) (fun c_3 => ?_) (fun c_3 => ?_)
      · skip
        refine lv_iconst (v := iI (0)) hx hb d_P_canJoin_39 rfl ?_
        exact pr_rz hx hb hr hlocks d_P_canJoin_40 (by first | exact Or.inl rfl | exact Or.inr rfl | exact b2_01 _) (by first | rfl | exact (b2_t (by omega)).symm | exact (b2_f (by omega)).symm)
      · skip
        refine lv_iload_n hx hb d_P_canJoin_21 rfl (lv_at hl 1 rfl) ?_
        refine pr_pi (va_runS (As := [.int (iI (x))]) (rest := []) ⟨hx, hb, hml, hown, hts⟩ (c_P_isSide l (x) (i3_of (by omega) (by omega))) (cwS 1 hts (pn_gS m_334 m_335 m_33 m_336) rfl rfl rfl (by decide +kernel) ⟨Nat.le_of_ble_eq_true rfl, Nat.le_of_ble_eq_true rfl⟩) pn_pre0 rfl rfl hl.1 rfl (lv_room (Nat.le_of_ble_eq_true rfl)) d_P_canJoin_22 ⟨Nat.le_of_ble_eq_true rfl, Nat.le_of_ble_eq_true rfl⟩) ?_
        refine pr_if_eq (tgt := 35) hx hb (i3_b2 _) d_P_canJoin_25 (by decide) (fun c_4 => ?_) (fun c_4 => ?_)
        · replace c_4 := b2_0 c_4
          refine lv_iconst (v := iI (1)) hx hb d_P_canJoin_35 rfl ?_
          refine lv_goto (tgt := 40) hx hb d_P_canJoin_36 (by decide) ?_
          exact pr_rz hx hb hr hlocks d_P_canJoin_40 (by first | exact Or.inl rfl | exact Or.inr rfl | exact b2_01 _) (by first | rfl | exact (b2_t (by omega)).symm | exact (b2_f (by omega)).symm)
        · replace c_4 := b2_n1 c_4
          refine lv_iload_n hx hb d_P_canJoin_28 rfl (lv_at hl 2 rfl) ?_
          refine pr_pi (va_runS (As := [.int (iI (y))]) (rest := []) ⟨hx, hb, hml, hown, hts⟩ (c_P_isSide l (y) (i3_of (by omega) (by omega))) (cwS 1 hts (pn_gS m_334 m_335 m_33 m_336) rfl rfl rfl (by decide +kernel) ⟨Nat.le_of_ble_eq_true rfl, Nat.le_of_ble_eq_true rfl⟩) pn_pre0 rfl rfl hl.1 rfl (lv_room (Nat.le_of_ble_eq_true rfl)) d_P_canJoin_29 ⟨Nat.le_of_ble_eq_true rfl, Nat.le_of_ble_eq_true rfl⟩) ?_
          refine pr_if_ne (tgt := 39) hx hb (i3_b2 _) d_P_canJoin_32 (by decide) (fun c_5 => ?_) (fun c_5 => ?_)
          · replace c_5 := b2_n1 c_5
            refine lv_iconst (v := iI (0)) hx hb d_P_canJoin_39 rfl ?_
            exact pr_rz hx hb hr hlocks d_P_canJoin_40 (by first | exact Or.inl rfl | exact Or.inr rfl | exact b2_01 _) (by first | rfl | exact (b2_t (by omega)).symm | exact (b2_f (by omega)).symm)
          · replace c_5 := b2_0 c_5
            refine lv_iconst (v := iI (1)) hx hb d_P_canJoin_35 rfl ?_
            refine lv_goto (tgt := 40) hx hb d_P_canJoin_36 (by decide) ?_
            exact pr_rz hx hb hr hlocks d_P_canJoin_40 (by first | exact Or.inl rfl | exact Or.inr rfl | exact b2_01 _) (by first | rfl | exact (b2_t (by omega)).symm | exact (b2_f (by omega)).symm)
end
section
/-! flows by whole numbers -/
def m_root (A d : Int) : Int := ((pn_sq (A * A * d).toNat : Nat) : Int)
def m_leak (A K d : Int) : Int := if K = 1 then A * d else if d < 0 then -(m_root A (-d)) else m_root A d
def m_blow (F S u : Int) : Int := max 0 (min (F - S * u) (2 * F))
def m_flow (nf : Nat → Int → Int) (S : Nat) (P : Int → Int) (d : Int) : Int := if 20 ≤ d then m_blow (nf 9 (d - 20)) (nf 10 (d - 20)) (P (nf 4 d) - P (nf 3 d)) else if S.testBit d.toNat then 0 else m_leak (nf 6 d) (nf 7 d) (m_drive nf P d)
def m_term (nf : Nat → Int → Int) (S : Nat) (P : Int → Int) (r d : Int) : Int := if nf 4 d = r then m_flow nf S P d else -(m_flow nf S P d)
def m_sum (f : Int → Int) : Nat → Int
  | 0 => 0
  | n + 1 => m_sum f n + f (n : Int)
def m_gain (nf : Nat → Int → Int) (da : Int → Int → Int) (S : Nat) (P : Int → Int) (r : Int) : Int := m_sum (fun t => m_term nf S P r (da r t)) (nf 11 r).toNat
theorem m_sum_b {f : Int → Int} {B : Int} {n : Nat} (h : ∀ t : Nat, t < n → -B ≤ f t ∧ f t ≤ B) : -(B * n) ≤ m_sum f n ∧ m_sum f n ≤ B * n := by
  induction n with
  | zero => simp [m_sum]
  | succ n ih =>
    have h1 := ih (fun t ht => h t (by omega))
    have h2 := h n (by omega)
    have e : B * ((n + 1 : Nat) : Int) = B * n + B := by rw [Int.natCast_succ, Int.mul_add, Int.mul_one]
    rw [e]
    show -(B * n + B) ≤ m_sum f n + f n ∧ m_sum f n + f n ≤ B * n + B
    omega
theorem m_root_0 (A : Int) {d : Int} (h : d ≤ 0) : m_root A d = 0 := by
  unfold m_root
  have h1 : 0 ≤ A * A := by
    rcases Int.le_total 0 A with z | z
    · exact Int.mul_nonneg z z
    · exact Int.mul_nonneg_of_nonpos_of_nonpos z z
  have h2 : A * A * d ≤ 0 := Int.mul_nonpos_of_nonneg_of_nonpos h1 h
  rw [Int.toNat_of_nonpos h2]
  rfl
theorem pn_exit1 {x r i : Nat} (h : (x - r) * 2 ^ i ≤ 400000) (hi : 64 ≤ i) (hr : r ≤ x) : x = r := by
  rcases Nat.eq_or_lt_of_le hr with q | q
  · exact q.symm
  · exfalso
    have h1 : 2 ^ 64 ≤ 2 ^ i := Nat.pow_le_pow_right (by omega) hi
    have h2 : 1 * 2 ^ i ≤ (x - r) * 2 ^ i := Nat.mul_le_mul_right _ (by omega)
    have h3 : (2 : Nat) ^ 64 = 18446744073709551616 := by decide
    omega
theorem pn_gapN {n x i : Nat} (h : (x - pn_sq n) * 2 ^ i ≤ 400000) (hr : pn_sq n ≤ x) (hlt : (x + n / x) / 2 < x) : ((x + n / x) / 2 - pn_sq n) * 2 ^ (i + 1) ≤ 400000 := by
  rcases Nat.eq_or_lt_of_le hr with q | q
  · exfalso
    have := pn_newton_ge (n := n) (x := x) (Nat.lt_of_le_of_lt (Nat.zero_le _) hlt)
    omega
  · have h1 := pn_newton_gap q
    refine Nat.le_trans ?_ h
    have e : ((x + n / x) / 2 - pn_sq n) * 2 ^ (i + 1) = ((x + n / x) / 2 - pn_sq n) * 2 * 2 ^ i := by rw [Nat.pow_succ, Nat.mul_comm (2 ^ i) 2, Nat.mul_assoc]
    rw [e]
    exact Nat.mul_le_mul_right _ h1
theorem pn_lt174 {ab : Nat} (h : (ab : Int) * ab < 30001) : ab ≤ 173 := by
  rcases Nat.lt_or_ge 173 ab with q | q
  · have := Nat.mul_le_mul (show 174 ≤ ab from q) (show 174 ≤ ab from q)
    have h2 : ((ab * ab : Nat) : Int) < 30001 := by rw [Int.natCast_mul]; exact h
    omega
  · exact q
theorem pn_abs {ab : Nat} (h : ab ≤ 400) : 0 ≤ (ab : Int) * ab ∧ (ab : Int) * ab ≤ 160000 := by
  have h1 := Nat.mul_le_mul h h
  have h2 : (ab : Int) * ab = ((ab * ab : Nat) : Int) := (Int.natCast_mul ab ab).symm
  rw [h2]
  omega
theorem pn_aad {A d : Int} (hA : 0 ≤ A ∧ A ≤ 1000) (hd : 0 < d ∧ d ≤ 30000) : 0 ≤ A * A ∧ A * A ≤ 1000000 ∧ 0 ≤ A * A * d ∧ A * A * d ≤ 30000000000 := by
  have h1 : 0 ≤ A * A := Int.mul_nonneg hA.1 hA.1
  have h2 : A * A ≤ 1000 * 1000 := Int.mul_le_mul hA.2 hA.2 hA.1 (by decide)
  have h3 : A * A * d ≤ 1000 * 1000 * 30000 := Int.mul_le_mul h2 hd.2 (by omega) (by decide)
  exact ⟨h1, by omega, Int.mul_nonneg h1 (by omega), by omega⟩
theorem pn_aab {A : Int} {ab : Nat} (hA : 0 ≤ A ∧ A ≤ 1000) (h : ab ≤ 400) : 0 ≤ A * ab ∧ A * ab ≤ 400000 := by
  have h3 : A * (ab : Int) ≤ 1000 * 400 := Int.mul_le_mul hA.2 (by omega) (by omega) (by decide)
  exact ⟨Int.mul_nonneg hA.1 (by omega), by omega⟩
theorem pn_root0 {A d : Int} {ab : Nat} (hA : 0 ≤ A) (h : d ≤ (ab : Int) * ab) : pn_sq (A * A * d).toNat ≤ (A * ab).toNat := by
  refine pn_sq_of_lt ?_
  have h0 : 0 ≤ A * ab := Int.mul_nonneg hA (by omega)
  have h1 : A * A * d ≤ (A * ab) * (A * ab) := by
    have e : (A * ab) * (A * ab) = A * A * ((ab : Int) * ab) := by
      rw [Int.mul_assoc, Int.mul_assoc, ← Int.mul_assoc (ab : Int) A, Int.mul_comm (ab : Int) A, Int.mul_assoc]
    rw [e]
    exact Int.mul_le_mul_of_nonneg_left h (Int.mul_nonneg hA hA)
  obtain ⟨x, hx⟩ := Int.eq_ofNat_of_zero_le h0
  rw [hx] at h1 ⊢
  have h2 : (x : Int) * x = ((x * x : Nat) : Int) := (Int.natCast_mul x x).symm
  rw [h2] at h1
  have h3 : (A * A * d).toNat ≤ x * x := by omega
  have h4 : (x + 1) * (x + 1) = x * x + x + x + 1 := by simp only [Nat.add_mul, Nat.mul_add]; omega
  rw [Int.toNat_natCast, h4]
  omega
section PL
variable {p : Program} {l : Launch} {e : Env} {R : Room} {s : State} {m : MethodId} {args : Array Value} {below : List Frame} {meth : Method} {c : Code} {H : Heap} {locs : List Loc} {cells slots : Nat} {Q : State → Prop} {pc : Nat} {ls : Array Slot} {rest : List Value}
theorem pr_lre {A B : Int} (h : A = B) (k : W p l e R s m args below meth c H locs cells slots Q (F0 m pc ls (.long (lI B) :: rest))) : W p l e R s m args below meth c H locs cells slots Q (F0 m pc ls (.long (lI A) :: rest)) := by subst h; exact k
theorem pr_ire {A B : Int} (h : A = B) (k : W p l e R s m args below meth c H locs cells slots Q (F0 m pc ls (.int (iI B) :: rest))) : W p l e R s m args below meth c H locs cells slots Q (F0 m pc ls (.int (iI A) :: rest)) := by subst h; exact k
theorem pr_ixe {v : Int32} {B : Int} (h : v = iI B) (k : W p l e R s m args below meth c H locs cells slots Q (F0 m pc ls (.int (iI B) :: rest))) : W p l e R s m args below meth c H locs cells slots Q (F0 m pc ls (.int v :: rest)) := by subst h; exact k
end PL
end
section
abbrev w_N_rootFlow : List Cond := .code y_N_rootFlow b_N_rootFlow 11 (some .int) :: pn_W
set_option maxHeartbeats 4000000 in
set_option maxRecDepth 100000 in
theorem c_N_rootFlow (l : Launch) (A d : Int) (gA : 0 ≤ A ∧ A ≤ 1000) (gd : -30000 ≤ d ∧ d ≤ 30000) : Met l y_N_rootFlow w_N_rootFlow ({ frames := 0, cells := 0, slots := 0, locals := 0 }) (va_Pc [.int (iI (A)), .int (iI (d))] (fun _ => True)) (vp_Si (fun r => r = iI (m_root A d))) 0 0 (fun _ => False) := by
  refine Met.ofW (cc := b_N_rootFlow) (maxL := 11) (ret := (some .int)) (by decide) rfl ?_
  intro p e s m args below meth c s₁ B hml hv
  obtain ⟨rfl, -⟩ := hv
  have hx := B.exec
  have hb := B.bytes
  have hr := B.returns
  have hts := atoms_spec (ws := w_N_rootFlow) B.pre
  have ht : ∀ w ∈ pn_W, w.before _ s = true := fun w h => hts w (List.mem_cons_of_mem _ h)
  have hown : s.vm.findClass R_N = some m.cls := findClass_of_methodNamed B.named
  have hlocks := B.notSynchronized
  have hl := lv_entry ([.int (iI (A)), .int (iI (d))]) (n := 11) (Nat.le_of_ble_eq_true rfl)
  rw [lg_entry_eq]
  generalize (lg_sl ([.int (iI (A)), .int (iI (d))]) ++ List.replicate (11 - (lg_sl ([.int (iI (A)), .int (iI (d))])).length) Slot.unset).toArray = ls at hl ⊢
  have hl : lv_has ls 11 [(0, .int (iI (A))), (1, .int (iI (d)))] := hl
  obtain ⟨gd1, gd2⟩ := gd
  by_cases hd0 : d ≤ 0
  · skip
    refine lv_iload_n hx hb d_N_rootFlow_0 rfl (lv_at hl 1 rfl) ?_
    refine pr_if_gt (tgt := 6) hx hb (i3_of (by omega) (by omega)) d_N_rootFlow_1 (by decide) (fun c_1 => ?_) (fun c_1 => ?_)
    · skip
      exact absurd c_1 (by omega)
    · skip
      refine lv_iconst (v := iI (0)) hx hb d_N_rootFlow_4 rfl ?_
      exact pr_ri hx hb hr hlocks d_N_rootFlow_5 (m_root_0 A hd0).symm
  · skip
    have hd1 : 0 < d := by omega
    obtain ⟨a1, a2, a3, a4⟩ := pn_aad gA ⟨hd1, gd2⟩
    have hN : A * A * d = (((A * A * d).toNat : Nat) : Int) := (Int.toNat_of_nonneg a3).symm
    have hN2 : (A * A * d).toNat ≤ 30000000000 := by omega
    have loop2 : ∀ (n : Nat) (i : Nat) (x : Nat) (ls : Array Slot), i ≤ 64 → pn_sq (A * A * d).toNat ≤ x → x ≤ 40000000000 → (x - pn_sq (A * A * d).toNat) * 2 ^ i ≤ 400000 → (64 - i) < n → lv_has ls 11 [(4, .long (lI ((((A * A * d).toNat : Nat) : Int)))), (6, .long (lI (((x : Nat) : Int)))), (8, .int (iI (((i : Nat) : Int))))] → W p l e (headSpec w_N_rootFlow ({ frames := 0, cells := 0, slots := 0, locals := 0 })).room s m ([.int (iI (A)), .int (iI (d))] : List Value).toArray below meth c s.heap [] 0 0 (MQ below (vp_Si (fun r => r = iI (m_root A d))) ([.int (iI (A)), .int (iI (d))] : List Value).toArray s 0 0 (fun _ => False)) (F0 m 45 ls []) := by
      intro n
      induction n with
      | zero => intro i x ls _ _ _ _ hm; exact absurd hm (Nat.not_lt_zero _)
      | succ n ih =>
        intro i x ls q0 q1 q2 q3 hm hl
        refine lv_iload hx hb d_N_rootFlow_45 (lv_at hl 2 rfl) ?_
        refine lv_bipush (v := iI (64)) hx hb d_N_rootFlow_47 (by decide) ?_
        refine pr_icmp_ge (tgt := 94) hx hb (i3_of (by omega) (by omega)) (i3_of (by decide) (by decide)) d_N_rootFlow_49 (by decide) (fun c_2 => ?_) (fun c_2 => ?_)
        · skip
          have hxr : x = pn_sq (A * A * d).toNat := by first | exact pn_exit1 q3 (by omega) q1 | exact (by omega : x = 0).trans (by omega) | exact pn_newton_stop (by omega) q1 (by rw [← hg]; omega)
          refine lv_lload hx hb d_N_rootFlow_94 (lv_at hl 1 rfl) ?_
          refine pr_l2i hx hb d_N_rootFlow_96 ?_
          exact pr_ri hx hb hr hlocks d_N_rootFlow_97 (by rw [hxr]; rfl)
        · skip
          refine lv_lload hx hb d_N_rootFlow_52 (lv_at hl 1 rfl) ?_
          refine lv_lconst (v := lI 0) hx hb d_N_rootFlow_54 (by decide) ?_
          refine pr_lcmp_le (tgt := 94) hx hb (i6_of (by omega) (by omega)) (i6_of (by decide) (by decide)) d_N_rootFlow_55 d_N_rootFlow_56 (by decide) (fun c_3 => ?_) (fun c_3 => ?_)
          · skip
            have hxr : x = pn_sq (A * A * d).toNat := by first | exact pn_exit1 q3 (by omega) q1 | exact (by omega : x = 0).trans (by omega) | exact pn_newton_stop (by omega) q1 (by rw [← hg]; omega)
            refine lv_lload hx hb d_N_rootFlow_94 (lv_at hl 1 rfl) ?_
            refine pr_l2i hx hb d_N_rootFlow_96 ?_
            exact pr_ri hx hb hr hlocks d_N_rootFlow_97 (by rw [hxr]; rfl)
          · skip
            have hxp : 0 < x := by omega
            obtain ⟨g, hg⟩ : ∃ g : Nat, g = (A * A * d).toNat / x := ⟨_, rfl⟩
            have hdl : g ≤ (A * A * d).toNat := by rw [hg]; exact Nat.div_le_self _ _
            refine lv_lload hx hb d_N_rootFlow_59 (lv_at hl 1 rfl) ?_
            refine lv_lload hx hb d_N_rootFlow_61 (lv_at hl 0 rfl) ?_
            refine lv_lload hx hb d_N_rootFlow_63 (lv_at hl 1 rfl) ?_
            refine pr_ldiv hx hb (i6_of (by omega) (by omega)) (i6_of (by omega) (by omega)) (by omega) d_N_rootFlow_65 ?_
            refine pr_lre (B := ((g : Nat) : Int)) (by rw [hg, ← Int.ofNat_tdiv]) ?_
            refine pr_ladd hx hb d_N_rootFlow_66 ?_
            refine pr_lre (B := ((x + g : Nat) : Int)) (by rw [Int.natCast_add]) ?_
            refine lv_ldc2 (v := lI (2)) hx hb hown (ht (.constantLong _ 113 (lI (2))) m_469) d_N_rootFlow_67 ?_
            refine pr_ldiv hx hb (i6_of (by omega) (by omega)) (i6_of (by decide) (by decide)) (by omega) d_N_rootFlow_70 ?_
            refine pr_lre (B := (((x + g) / 2 : Nat) : Int)) (Int.ofNat_tdiv _ _).symm ?_
            refine lv_lstore (lv' := [(9, .long (lI ((((x + g) / 2 : Nat) : Int)))), (4, .long (lI ((((A * A * d).toNat : Nat) : Int)))), (6, .long (lI (((x : Nat) : Int)))), (8, .int (iI (((i : Nat) : Int))))]) hx hb d_N_rootFlow_71 hl (by decide) rfl (fun ls hl => ?_)
            refine lv_lload hx hb d_N_rootFlow_73 (lv_at hl 0 rfl) ?_
            refine lv_lload hx hb d_N_rootFlow_75 (lv_at hl 2 rfl) ?_
            refine pr_lcmp_lt (tgt := 84) hx hb (i6_of (by omega) (by omega)) (i6_of (by omega) (by omega)) d_N_rootFlow_77 d_N_rootFlow_78 (by decide) (fun c_4 => ?_) (fun c_4 => ?_)
            · skip
              refine lv_lload hx hb d_N_rootFlow_84 (lv_at hl 0 rfl) ?_
              refine lv_lstore (lv' := [(6, .long (lI ((((x + g) / 2 : Nat) : Int)))), (9, .long (lI ((((x + g) / 2 : Nat) : Int)))), (4, .long (lI ((((A * A * d).toNat : Nat) : Int)))), (8, .int (iI (((i : Nat) : Int))))]) hx hb d_N_rootFlow_86 hl (by decide) rfl (fun ls hl => ?_)
              refine lv_iinc (v := iI (((i : Nat) : Int) + 1)) (lv' := [(8, .int (iI (((i : Nat) : Int) + 1))), (6, .long (lI ((((x + g) / 2 : Nat) : Int)))), (9, .long (lI ((((x + g) / 2 : Nat) : Int)))), (4, .long (lI ((((A * A * d).toNat : Nat) : Int))))]) hx hb d_N_rootFlow_88 hl (k := 3) rfl (iI_add _ _).symm (by decide) rfl (fun ls hl => ?_)
              refine lv_goto (tgt := 45) hx hb d_N_rootFlow_91 (by decide) ?_
              exact ih (i + 1) ((x + g) / 2) ls (by omega) (by rw [hg]; exact pn_newton_ge (by omega)) (by omega) (by rw [hg]; exact pn_gapN q3 q1 (by rw [← hg]; omega)) (by omega) (lv_sub hl [3, 1, 0] rfl)
            · skip
              refine lv_goto (tgt := 94) hx hb d_N_rootFlow_81 (by decide) ?_
              have hxr : x = pn_sq (A * A * d).toNat := by first | exact pn_exit1 q3 (by omega) q1 | exact (by omega : x = 0).trans (by omega) | exact pn_newton_stop (by omega) q1 (by rw [← hg]; omega)
              refine lv_lload hx hb d_N_rootFlow_94 (lv_at hl 2 rfl) ?_
              refine pr_l2i hx hb d_N_rootFlow_96 ?_
              exact pr_ri hx hb hr hlocks d_N_rootFlow_97 (by rw [hxr]; rfl)
    have loop1 : ∀ (n : Nat) (ab : Nat) (ls : Array Slot), 1 ≤ ab → ab ≤ 400 → (400 - ab) < n → lv_has ls 11 [(0, .int (iI (A))), (1, .int (iI (d))), (2, .long (lI (((ab : Nat) : Int))))] → W p l e (headSpec w_N_rootFlow ({ frames := 0, cells := 0, slots := 0, locals := 0 })).room s m ([.int (iI (A)), .int (iI (d))] : List Value).toArray below meth c s.heap [] 0 0 (MQ below (vp_Si (fun r => r = iI (m_root A d))) ([.int (iI (A)), .int (iI (d))] : List Value).toArray s 0 0 (fun _ => False)) (F0 m 8 ls []) := by
      intro n
      induction n with
      | zero => intro ab ls _ _ hm; exact absurd hm (Nat.not_lt_zero _)
      | succ n ih =>
        intro ab ls q4 q5 hm hl
        obtain ⟨b1, b2⟩ := pn_abs q5
        obtain ⟨b3, b4⟩ := pn_aab gA q5
        refine lv_lload_n hx hb d_N_rootFlow_8 rfl (lv_at hl 2 rfl) ?_
        refine lv_lload_n hx hb d_N_rootFlow_9 rfl (lv_at hl 2 rfl) ?_
        refine pr_lmul hx hb d_N_rootFlow_10 ?_
        refine lv_iload_n hx hb d_N_rootFlow_11 rfl (lv_at hl 1 rfl) ?_
        refine pr_i2l hx hb (i3_of (by omega) (by omega)) d_N_rootFlow_12 ?_
        refine pr_lcmp_ge (tgt := 26) hx hb (i6_of (by omega) (by omega)) (i6_of (by omega) (by omega)) d_N_rootFlow_13 d_N_rootFlow_14 (by decide) (fun c_5 => ?_) (fun c_5 => ?_)
        · skip
          refine lv_iload_n hx hb d_N_rootFlow_26 rfl (lv_at hl 0 rfl) ?_
          refine pr_i2l hx hb (i3_of (by omega) (by omega)) d_N_rootFlow_27 ?_
          refine lv_iload_n hx hb d_N_rootFlow_28 rfl (lv_at hl 0 rfl) ?_
          refine pr_i2l hx hb (i3_of (by omega) (by omega)) d_N_rootFlow_29 ?_
          refine pr_lmul hx hb d_N_rootFlow_30 ?_
          refine lv_iload_n hx hb d_N_rootFlow_31 rfl (lv_at hl 1 rfl) ?_
          refine pr_i2l hx hb (i3_of (by omega) (by omega)) d_N_rootFlow_32 ?_
          refine pr_lmul hx hb d_N_rootFlow_33 ?_
          refine pr_lre (B := (((A * A * d).toNat : Nat) : Int)) hN ?_
          refine lv_lstore (lv' := [(4, .long (lI ((((A * A * d).toNat : Nat) : Int)))), (0, .int (iI (A))), (1, .int (iI (d))), (2, .long (lI (((ab : Nat) : Int))))]) hx hb d_N_rootFlow_34 hl (by decide) rfl (fun ls hl => ?_)
          refine lv_iload_n hx hb d_N_rootFlow_36 rfl (lv_at hl 1 rfl) ?_
          refine pr_i2l hx hb (i3_of (by omega) (by omega)) d_N_rootFlow_37 ?_
          refine lv_lload_n hx hb d_N_rootFlow_38 rfl (lv_at hl 3 rfl) ?_
          refine pr_lmul hx hb d_N_rootFlow_39 ?_
          refine pr_lre (B := ((((A * ab).toNat : Nat)) : Int)) (Int.toNat_of_nonneg b3).symm ?_
          refine lv_lstore (lv' := [(6, .long (lI (((((A * ab).toNat : Nat)) : Int)))), (4, .long (lI ((((A * A * d).toNat : Nat) : Int)))), (0, .int (iI (A))), (1, .int (iI (d))), (2, .long (lI (((ab : Nat) : Int))))]) hx hb d_N_rootFlow_40 hl (by decide) rfl (fun ls hl => ?_)
          refine lv_iconst (v := iI (0)) hx hb d_N_rootFlow_42 rfl ?_
          refine lv_istore (lv' := [(8, .int (iI (0))), (6, .long (lI (((((A * ab).toNat : Nat)) : Int)))), (4, .long (lI ((((A * A * d).toNat : Nat) : Int)))), (0, .int (iI (A))), (1, .int (iI (d))), (2, .long (lI (((ab : Nat) : Int))))]) hx hb d_N_rootFlow_43 hl (by decide) rfl (fun ls hl => ?_)
          exact loop2 _ (0) ((A * ab).toNat) ls (by omega) (pn_root0 gA.1 (by omega)) (by omega) (by rw [Nat.pow_zero, Nat.mul_one]; omega) (Nat.lt_succ_self _) (lv_sub hl [2, 1, 0] rfl)
        · skip
          have q6 := pn_lt174 (ab := ab) (by omega)
          refine lv_lload_n hx hb d_N_rootFlow_17 rfl (lv_at hl 2 rfl) ?_
          refine lv_ldc2 (v := lI (2)) hx hb hown (ht (.constantLong _ 113 (lI (2))) m_469) d_N_rootFlow_18 ?_
          refine pr_lmul hx hb d_N_rootFlow_21 ?_
          refine lv_lstore_n (lv' := [(2, .long (lI ((((ab : Nat) : Int)) * (2)))), (0, .int (iI (A))), (1, .int (iI (d)))]) hx hb d_N_rootFlow_22 rfl hl (by decide) rfl (fun ls hl => ?_)
          refine lv_goto (tgt := 8) hx hb d_N_rootFlow_23 (by decide) ?_
          exact ih (ab * 2) ls (by omega) (by omega) (by omega) (lv_sub hl [1, 2, 0] rfl)
    refine lv_iload_n hx hb d_N_rootFlow_0 rfl (lv_at hl 1 rfl) ?_
    refine pr_if_gt (tgt := 6) hx hb (i3_of (by omega) (by omega)) d_N_rootFlow_1 (by decide) (fun c_6 => ?_) (fun c_6 => ?_)
    · skip
      refine lv_lconst (v := lI 1) hx hb d_N_rootFlow_6 (by decide) ?_
      refine lv_lstore_n (lv' := [(2, .long (lI (1))), (0, .int (iI (A))), (1, .int (iI (d)))]) hx hb d_N_rootFlow_7 rfl hl (by decide) rfl (fun ls hl => ?_)
      exact loop1 _ (1) ls (by omega) (by omega) (Nat.lt_succ_self _) (lv_sub hl [1, 2, 0] rfl)
    · skip
      exact absurd c_6 (by omega)
end
section
theorem mul_b {x y X Y : Int} (h1 : -X ≤ x) (h2 : x ≤ X) (h3 : -Y ≤ y) (h4 : y ≤ Y) : -(X * Y) ≤ x * y ∧ x * y ≤ X * Y := by
  have hX : 0 ≤ X := by omega
  have hY : 0 ≤ Y := by omega
  have k1 : 0 ≤ (X - x) * (Y + y) := Int.mul_nonneg (by omega) (by omega)
  have k2 : 0 ≤ (X + x) * (Y - y) := Int.mul_nonneg (by omega) (by omega)
  have k3 : 0 ≤ (X - x) * (Y - y) := Int.mul_nonneg (by omega) (by omega)
  have k4 : 0 ≤ (X + x) * (Y + y) := Int.mul_nonneg (by omega) (by omega)
  simp only [Int.sub_mul, Int.add_mul, Int.mul_sub, Int.mul_add] at k1 k2 k3 k4
  omega
theorem iI_min {A B : Int} (hA : i3 A) (hB : i3 B) : (if iI B < iI A then iI B else iI A) = iI (min A B) := by
  by_cases h : B < A
  · rw [if_pos ((iI_lt hB hA).mpr h), Int.min_eq_right (by omega)]
  · rw [if_neg (fun q => h ((iI_lt hB hA).mp q)), Int.min_eq_left (by omega)]
theorem iI_max {A B : Int} (hA : i3 A) (hB : i3 B) : (if iI A < iI B then iI B else iI A) = iI (max A B) := by
  by_cases h : A < B
  · rw [if_pos ((iI_lt hA hB).mpr h), Int.max_eq_right (by omega)]
  · rw [if_neg (fun q => h ((iI_lt hA hB).mp q)), Int.max_eq_left (by omega)]
theorem m_drive_b {nf : Nat → Int → Int} {ns : Nat → Int} {da : Int → Int → Int} {P : Int → Int} {j : Int} (hOk : pn_Ok nf ns da) (hPr : pn_Pr P) (h0 : 0 ≤ j) (h1 : j < 20) : -27000 ≤ m_drive nf P j ∧ m_drive nf P j ≤ 27000 := by
  obtain ⟨o_zc, o_lc, o_fc, o_ve, o_wi, o_wa, o_vo, o_fr, o_to, o_he, o_ar, o_ki, o_st, o_ff, o_sl, o_dc, o_da⟩ := hOk
  have a1 := o_fr j h0 (by omega)
  have a2 := o_to j h0 (by omega)
  have a3 := o_st j h0 h1
  have a4 := hPr (nf 3 j) a1.1 (by omega)
  have a5 := hPr (nf 4 j) a2.1 (by omega)
  unfold m_drive
  omega
theorem m_root_b {A d : Int} (hA : 0 ≤ A ∧ A ≤ 1000) (hd : d ≤ 30000) : 0 ≤ m_root A d ∧ m_root A d ≤ 400000 := by
  by_cases h : d ≤ 0
  · rw [m_root_0 A h]; omega
  · have h2 := pn_aad hA ⟨by omega, hd⟩
    unfold m_root
    have h3 : pn_sq (A * A * d).toNat ≤ 400000 := pn_sq_of_lt (by omega)
    omega
theorem m_leak_b {A K d : Int} (hA : 0 ≤ A ∧ A ≤ 1000) (hd : -27000 ≤ d ∧ d ≤ 27000) : -27000000 ≤ m_leak A K d ∧ m_leak A K d ≤ 27000000 := by
  unfold m_leak
  have h1 := mul_b (x := A) (y := d) (X := 1000) (Y := 27000) (by omega) (by omega) hd.1 hd.2
  have h2 := m_root_b (A := A) (d := d) hA (by omega)
  have h3 := m_root_b (A := A) (d := -d) hA (by omega)
  by_cases k : K = 1
  · rw [if_pos k]; omega
  · rw [if_neg k]
    by_cases q : d < 0
    · rw [if_pos q]; omega
    · rw [if_neg q]; omega
theorem m_blow_b {F S u : Int} (hF : 0 ≤ F ∧ F ≤ 10000) : 0 ≤ m_blow F S u ∧ m_blow F S u ≤ 20000 := by
  unfold m_blow
  omega
theorem m_flow_b {nf : Nat → Int → Int} {ns : Nat → Int} {da : Int → Int → Int} {S : Nat} {P : Int → Int} {d : Int} (hOk : pn_Ok nf ns da) (hPr : pn_Pr P) (h0 : 0 ≤ d) (h1 : d < 24) : -27000000 ≤ m_flow nf S P d ∧ m_flow nf S P d ≤ 27000000 := by
  have hOk2 := hOk
  obtain ⟨o_zc, o_lc, o_fc, o_ve, o_wi, o_wa, o_vo, o_fr, o_to, o_he, o_ar, o_ki, o_st, o_ff, o_sl, o_dc, o_da⟩ := hOk
  unfold m_flow
  by_cases h : 20 ≤ d
  · rw [if_pos h]
    have := m_blow_b (F := nf 9 (d - 20)) (S := nf 10 (d - 20)) (u := P (nf 4 d) - P (nf 3 d)) (o_ff _ (by omega) (by omega))
    omega
  · rw [if_neg h]
    by_cases b : S.testBit d.toNat = true
    · rw [if_pos b]; omega
    · rw [if_neg b]
      exact m_leak_b (o_ar d h0 (by omega)) (m_drive_b hOk2 hPr h0 (by omega))
theorem m_flow_fan {nf : Nat → Int → Int} {S : Nat} {P : Int → Int} {d : Int} (h : 20 ≤ d) : m_flow nf S P d = max 0 (min (nf 9 (d - 20) - nf 10 (d - 20) * (P (nf 4 d) - P (nf 3 d))) (2 * nf 9 (d - 20))) := if_pos h
theorem m_flow_shut {nf : Nat → Int → Int} {S : Nat} {P : Int → Int} {d : Int} (h : d < 20) (b : S.testBit d.toNat = true) : m_flow nf S P d = 0 := by
  unfold m_flow; rw [if_neg (by omega), if_pos b]
theorem m_flow_one {nf : Nat → Int → Int} {S : Nat} {P : Int → Int} {d : Int} (h : d < 20) (b : ¬ S.testBit d.toNat = true) (k : nf 7 d = 1) : m_flow nf S P d = nf 6 d * m_drive nf P d := by
  unfold m_flow m_leak; rw [if_neg (by omega), if_neg b, if_pos k]
theorem m_flow_neg {nf : Nat → Int → Int} {S : Nat} {P : Int → Int} {d : Int} (h : d < 20) (b : ¬ S.testBit d.toNat = true) (k : nf 7 d ≠ 1) (q : m_drive nf P d < 0) : m_flow nf S P d = -(m_root (nf 6 d) (-(m_drive nf P d))) := by
  unfold m_flow m_leak; rw [if_neg (by omega), if_neg b, if_neg k, if_pos q]
theorem m_flow_pos {nf : Nat → Int → Int} {S : Nat} {P : Int → Int} {d : Int} (h : d < 20) (b : ¬ S.testBit d.toNat = true) (k : nf 7 d ≠ 1) (q : 0 ≤ m_drive nf P d) : m_flow nf S P d = m_root (nf 6 d) (m_drive nf P d) := by
  unfold m_flow m_leak; rw [if_neg (by omega), if_neg b, if_neg k, if_neg (by omega)]
end
section
abbrev w_N_driveOf : List Cond := .code y_N_driveOf b_N_driveOf 3 (some .int) :: pn_W
set_option maxHeartbeats 4000000 in
set_option maxRecDepth 100000 in
theorem c_N_driveOf (l : Launch) {D : va_G} {a : Nat → Nat} {cI cL cD cS : ClassId} {nf : Nat → Int → Int} {ns : Nat → Int} {da : Int → Int → Int} {be : Int → Int} {ui ul : Nat → Int → Int} {cn : Int} {ss : Nat → Nat} {mf sd : Nat → Int} {pr : Nat → Int → Int} (k : Nat) (d : Int) (hOk : pn_Ok nf ns da) (hk : k < 9) (gd : 0 ≤ d ∧ d < 20) : Met l y_N_driveOf w_N_driveOf ({ frames := 0, cells := 0, slots := 0, locals := 0 }) (va_Pc [.ref (a 1), .int (iI (d)), .ref (a (37 + 2 * k))] (fun U => va_P D pn_cl (cw a cI cL cD cS nf ns da be ui ul cn ss mf sd pr) U.heap ∧ pn_E D cI cL cD cS U)) (vp_Si (fun r => r = iI (m_drive nf (pr k) d))) 0 0 (fun _ => False) := by
  refine Met.ofW (cc := b_N_driveOf) (maxL := 3) (ret := (some .int)) (by decide) rfl ?_
  intro p e s m args below meth c s₁ B hml hv
  obtain ⟨rfl, hP, hE⟩ := hv
  have hx := B.exec
  have hb := B.bytes
  have hr := B.returns
  have hts := atoms_spec (ws := w_N_driveOf) B.pre
  have ht : ∀ w ∈ pn_W, w.before _ s = true := fun w h => hts w (List.mem_cons_of_mem _ h)
  have hown : s.vm.findClass R_N = some m.cls := findClass_of_methodNamed B.named
  have hlocks := B.notSynchronized
  have hK := hE.1
  have hl := lv_entry ([.ref (a 1), .int (iI (d)), .ref (a (37 + 2 * k))]) (n := 3) (Nat.le_of_ble_eq_true rfl)
  rw [lg_entry_eq]
  generalize (lg_sl ([.ref (a 1), .int (iI (d)), .ref (a (37 + 2 * k))]) ++ List.replicate (3 - (lg_sl ([.ref (a 1), .int (iI (d)), .ref (a (37 + 2 * k))])).length) Slot.unset).toArray = ls at hl ⊢
  have hl : lv_has ls 3 [(0, .ref (a 1)), (1, .int (iI (d))), (2, .ref (a (37 + 2 * k)))] := hl
  obtain ⟨o_zc, o_lc, o_fc, o_ve, o_wi, o_wa, o_vo, o_fr, o_to, o_he, o_ar, o_ki, o_st, o_ff, o_sl, o_dc, o_da⟩ := id hOk
  have a1 := o_fr d (by omega) (by omega)
  have a2 := o_to d (by omega) (by omega)
  refine lv_aload_n hx hb d_N_driveOf_0 rfl (lv_at hl 2 rfl) ?_
  refine lv_aload_n hx hb d_N_driveOf_1 rfl (lv_at hl 0 rfl) ?_
  refine va_get (D := D) (ci := 1) (v := .ref (a 5)) (C := R_N) (T := T_N) (N := 17) hx hb hts (in_N _) hown hK hP 1 rfl rfl 3 (by decide) (ht _ m_69) (fun _ h9 => h9) rfl d_N_driveOf_2 ?_
  refine lv_iload_n hx hb d_N_driveOf_5 rfl (lv_at hl 1 rfl) ?_
  refine pr_iald hx hb hK hP 5 0 rfl rfl (by decide) (by omega) (by omega) d_N_driveOf_6 ?_
  refine pr_iald hx hb hK hP (37 + 2 * k) 0 (cw_sp k hk) rfl (by decide) (by omega) (by omega) d_N_driveOf_7 ?_
  refine lv_aload_n hx hb d_N_driveOf_8 rfl (lv_at hl 2 rfl) ?_
  refine lv_aload_n hx hb d_N_driveOf_9 rfl (lv_at hl 0 rfl) ?_
  refine va_get (D := D) (ci := 1) (v := .ref (a 6)) (C := R_N) (T := T_N) (N := 17) hx hb hts (in_N _) hown hK hP 1 rfl rfl 4 (by decide) (ht _ m_71) (fun _ h9 => h9) rfl d_N_driveOf_10 ?_
  refine lv_iload_n hx hb d_N_driveOf_13 rfl (lv_at hl 1 rfl) ?_
  refine pr_iald hx hb hK hP 6 0 rfl rfl (by decide) (by omega) (by omega) d_N_driveOf_14 ?_
  refine pr_iald hx hb hK hP (37 + 2 * k) 0 (cw_sp k hk) rfl (by decide) (by omega) (by omega) d_N_driveOf_15 ?_
  refine pr_isub hx hb d_N_driveOf_16 ?_
  refine lv_aload_n hx hb d_N_driveOf_17 rfl (lv_at hl 0 rfl) ?_
  refine va_get (D := D) (ci := 1) (v := .ref (a 10)) (C := R_N) (T := T_N) (N := 17) hx hb hts (in_N _) hown hK hP 1 rfl rfl 8 (by decide) (ht _ m_76) (fun _ h9 => h9) rfl d_N_driveOf_18 ?_
  refine lv_iload_n hx hb d_N_driveOf_21 rfl (lv_at hl 1 rfl) ?_
  refine pr_iald hx hb hK hP 10 0 rfl rfl (by decide) (by omega) (by omega) d_N_driveOf_22 ?_
  refine pr_iadd hx hb d_N_driveOf_23 ?_
  exact pr_ri hx hb hr hlocks d_N_driveOf_24 (by first | rfl | exact (b2_t (by omega)).symm | exact (b2_f (by omega)).symm)
abbrev w_N_isDuct : List Cond := .code y_N_isDuct b_N_isDuct 2 (some .boolean) :: pn_W
set_option maxHeartbeats 4000000 in
set_option maxRecDepth 100000 in
theorem c_N_isDuct (l : Launch) {D : va_G} {a : Nat → Nat} {cI cL cD cS : ClassId} {nf : Nat → Int → Int} {ns : Nat → Int} {da : Int → Int → Int} {be : Int → Int} {ui ul : Nat → Int → Int} {cn : Int} {ss : Nat → Nat} {mf sd : Nat → Int} {pr : Nat → Int → Int} (d : Int) (hOk : pn_Ok nf ns da) (gd : 0 ≤ d ∧ d < 24) : Met l y_N_isDuct w_N_isDuct ({ frames := 0, cells := 0, slots := 0, locals := 0 }) (va_Pc [.ref (a 1), .int (iI (d))] (fun U => va_P D pn_cl (cw a cI cL cD cS nf ns da be ui ul cn ss mf sd pr) U.heap ∧ pn_E D cI cL cD cS U)) (vp_Si (fun r => r = iI (b2 ((d < 20 ∧ d < ns 1) ∨ (20 ≤ d ∧ d - 20 < ns 2))))) 0 0 (fun _ => False) := by
  refine Met.ofW (cc := b_N_isDuct) (maxL := 2) (ret := (some .boolean)) (by decide) rfl ?_
  intro p e s m args below meth c s₁ B hml hv
  obtain ⟨rfl, hP, hE⟩ := hv
  have hx := B.exec
  have hb := B.bytes
  have hr := B.returns
  have hts := atoms_spec (ws := w_N_isDuct) B.pre
  have ht : ∀ w ∈ pn_W, w.before _ s = true := fun w h => hts w (List.mem_cons_of_mem _ h)
  have hown : s.vm.findClass R_N = some m.cls := findClass_of_methodNamed B.named
  have hlocks := B.notSynchronized
  have hK := hE.1
  have hl := lv_entry ([.ref (a 1), .int (iI (d))]) (n := 2) (Nat.le_of_ble_eq_true rfl)
  rw [lg_entry_eq]
  generalize (lg_sl ([.ref (a 1), .int (iI (d))]) ++ List.replicate (2 - (lg_sl ([.ref (a 1), .int (iI (d))])).length) Slot.unset).toArray = ls at hl ⊢
  have hl : lv_has ls 2 [(0, .ref (a 1)), (1, .int (iI (d)))] := hl
  obtain ⟨o_zc, o_lc, o_fc, o_ve, o_wi, o_wa, o_vo, o_fr, o_to, o_he, o_ar, o_ki, o_st, o_ff, o_sl, o_dc, o_da⟩ := id hOk
  refine lv_iload_n hx hb d_N_isDuct_0 rfl (lv_at hl 1 rfl) ?_
  refine lv_bipush (v := iI (20)) hx hb d_N_isDuct_1 (by decide) ?_
  refine pr_icmp_ge (tgt := 22) hx hb (i3_of (by omega) (by omega)) (i3_of (by decide) (by decide)) d_N_isDuct_3 (by decide) (fun c_1 => ?_) (fun c_1 => ?_)
  · skip
    refine lv_iload_n hx hb d_N_isDuct_22 rfl (lv_at hl 1 rfl) ?_
    refine lv_bipush (v := iI (20)) hx hb d_N_isDuct_23 (by decide) ?_
    refine pr_isub hx hb d_N_isDuct_25 ?_
    refine lv_aload_n hx hb d_N_isDuct_26 rfl (lv_at hl 0 rfl) ?_
    refine va_get (D := D) (ci := 1) (v := .int (iI (ns 2))) (C := R_N) (T := T_N) (N := 17) hx hb hts (in_N _) hown hK hP 1 rfl rfl 15 (by decide) (ht _ m_87) (fun _ h9 => h9) rfl d_N_isDuct_27 ?_
    refine pr_icmp_ge (tgt := 37) hx hb (i3_of (by omega) (by omega)) (i3_of (by omega) (by omega)) d_N_isDuct_30 (by decide) (fun c_2 => ?_) (fun c_2 => ?_)
    · skip
      refine lv_iconst (v := iI (0)) hx hb d_N_isDuct_37 rfl ?_
      exact pr_rz hx hb hr hlocks d_N_isDuct_38 (by first | exact Or.inl rfl | exact Or.inr rfl | exact b2_01 _) (by first | rfl | exact (b2_t (by omega)).symm | exact (b2_f (by omega)).symm)
    · skip
      refine lv_iconst (v := iI (1)) hx hb d_N_isDuct_33 rfl ?_
      refine lv_goto (tgt := 38) hx hb d_N_isDuct_34 (by decide) ?_
      exact pr_rz hx hb hr hlocks d_N_isDuct_38 (by first | exact Or.inl rfl | exact Or.inr rfl | exact b2_01 _) (by first | rfl | exact (b2_t (by omega)).symm | exact (b2_f (by omega)).symm)
  · skip
    refine lv_iload_n hx hb d_N_isDuct_6 rfl (lv_at hl 1 rfl) ?_
    refine lv_aload_n hx hb d_N_isDuct_7 rfl (lv_at hl 0 rfl) ?_
    refine va_get (D := D) (ci := 1) (v := .int (iI (ns 1))) (C := R_N) (T := T_N) (N := 17) hx hb hts (in_N _) hown hK hP 1 rfl rfl 14 (by decide) (ht _ m_85) (fun _ h9 => h9) rfl d_N_isDuct_8 ?_
    refine pr_icmp_ge (tgt := 18) hx hb (i3_of (by omega) (by omega)) (i3_of (by omega) (by omega)) d_N_isDuct_11 (by decide) (fun c_3 => ?_) (fun c_3 => ?_)
    · skip
      refine lv_iconst (v := iI (0)) hx hb d_N_isDuct_18 rfl ?_
      refine lv_goto (tgt := 38) hx hb d_N_isDuct_19 (by decide) ?_
      exact pr_rz hx hb hr hlocks d_N_isDuct_38 (by first | exact Or.inl rfl | exact Or.inr rfl | exact b2_01 _) (by first | rfl | exact (b2_t (by omega)).symm | exact (b2_f (by omega)).symm)
    · skip
      refine lv_iconst (v := iI (1)) hx hb d_N_isDuct_14 rfl ?_
      refine lv_goto (tgt := 38) hx hb d_N_isDuct_15 (by decide) ?_
      exact pr_rz hx hb hr hlocks d_N_isDuct_38 (by first | exact Or.inl rfl | exact Or.inr rfl | exact b2_01 _) (by first | rfl | exact (b2_t (by omega)).symm | exact (b2_f (by omega)).symm)
abbrev w_N_flowOf : List Cond := .code y_N_flowOf b_N_flowOf 7 (some .int) :: pn_W
set_option maxHeartbeats 4000000 in
set_option maxRecDepth 100000 in
theorem c_N_flowOf (l : Launch) {D : va_G} {a : Nat → Nat} {cI cL cD cS : ClassId} {nf : Nat → Int → Int} {ns : Nat → Int} {da : Int → Int → Int} {be : Int → Int} {ui ul : Nat → Int → Int} {cn : Int} {ss : Nat → Nat} {mf sd : Nat → Int} {pr : Nat → Int → Int} (k : Nat) (d : Int) (hOk : pn_Ok nf ns da) (hk : k < 9) (hPr : pn_Pr (pr k)) (hss : ss k < 2 ^ 20) (gd : 0 ≤ d ∧ d < 24) : Met l y_N_flowOf w_N_flowOf ({ frames := 1, cells := 0, slots := 0, locals := 30 }) (va_Pc [.ref (a 1), .int (iI (d)), .ref (a (36 + 2 * k))] (fun U => va_P D pn_cl (cw a cI cL cD cS nf ns da be ui ul cn ss mf sd pr) U.heap ∧ pn_E D cI cL cD cS U)) (vp_Si (fun r => r = iI (m_flow nf (ss k) (pr k) d))) 0 0 (fun _ => False) := by
  refine Met.ofW (cc := b_N_flowOf) (maxL := 7) (ret := (some .int)) (by decide) rfl ?_
  intro p e s m args below meth c s₁ B hml hv
  obtain ⟨rfl, hP, hE⟩ := hv
  have hx := B.exec
  have hb := B.bytes
  have hr := B.returns
  have hts := atoms_spec (ws := w_N_flowOf) B.pre
  have ht : ∀ w ∈ pn_W, w.before _ s = true := fun w h => hts w (List.mem_cons_of_mem _ h)
  have hown : s.vm.findClass R_N = some m.cls := findClass_of_methodNamed B.named
  have hlocks := B.notSynchronized
  have hK := hE.1
  have hl := lv_entry ([.ref (a 1), .int (iI (d)), .ref (a (36 + 2 * k))]) (n := 7) (Nat.le_of_ble_eq_true rfl)
  rw [lg_entry_eq]
  generalize (lg_sl ([.ref (a 1), .int (iI (d)), .ref (a (36 + 2 * k))]) ++ List.replicate (7 - (lg_sl ([.ref (a 1), .int (iI (d)), .ref (a (36 + 2 * k))])).length) Slot.unset).toArray = ls at hl ⊢
  have hl : lv_has ls 7 [(0, .ref (a 1)), (1, .int (iI (d))), (2, .ref (a (36 + 2 * k)))] := hl
  obtain ⟨o_zc, o_lc, o_fc, o_ve, o_wi, o_wa, o_vo, o_fr, o_to, o_he, o_ar, o_ki, o_st, o_ff, o_sl, o_dc, o_da⟩ := id hOk
  have a1 := o_fr d (by omega) (by omega)
  have a2 := o_to d (by omega) (by omega)
  have p1 := hPr (nf 3 d) a1.1 (by omega)
  have p2 := hPr (nf 4 d) a2.1 (by omega)
  refine lv_aload_n hx hb d_N_flowOf_0 rfl (lv_at hl 2 rfl) ?_
  refine va_get (D := D) (ci := 3) (v := .ref (a (37 + 2 * k))) (C := R_T) (T := T_T) (N := 4) hx hb hts (in_T _) hown hK hP (36 + 2 * k) (cw_so k hk) rfl 0 (by decide) (ht _ m_177) (fun _ h9 => h9) rfl d_N_flowOf_1 ?_
  refine lv_astore_n (lv' := [(3, .ref (a (37 + 2 * k))), (0, .ref (a 1)), (1, .int (iI (d))), (2, .ref (a (36 + 2 * k)))]) hx hb d_N_flowOf_4 rfl hl (by decide) rfl (fun ls hl => ?_)
  refine lv_iload_n hx hb d_N_flowOf_5 rfl (lv_at hl 2 rfl) ?_
  refine lv_bipush (v := iI (20)) hx hb d_N_flowOf_6 (by decide) ?_
  refine pr_icmp_lt (tgt := 75) hx hb (i3_of (by omega) (by omega)) (i3_of (by decide) (by decide)) d_N_flowOf_8 (by decide) (fun c_1 => ?_) (fun c_1 => ?_)
  · skip
    refine lv_aload_n hx hb d_N_flowOf_75 rfl (lv_at hl 3 rfl) ?_
    refine va_get (D := D) (ci := 3) (v := .int (iI ((ss k : Nat)))) (C := R_T) (T := T_T) (N := 4) hx hb hts (in_T _) hown hK hP (36 + 2 * k) (cw_so k hk) rfl 1 (by decide) (ht _ m_180) (fun _ h9 => h9) rfl d_N_flowOf_76 ?_
    refine lv_iload_n hx hb d_N_flowOf_79 rfl (lv_at hl 2 rfl) ?_
    refine pr_ire (B := ((d.toNat : Nat) : Int)) (Int.toNat_of_nonneg gd.1).symm ?_
    refine lv_ishr hx hb d_N_flowOf_80 ?_
    refine lv_iconst (v := iI 1) hx hb d_N_flowOf_81 rfl ?_
    refine lv_iand hx hb d_N_flowOf_82 ?_
    refine pr_ixe (B := b2 ((ss k).testBit (d.toNat) = true)) (nb_bit (by omega) (by omega)) ?_
    refine pr_if_eq (tgt := 88) hx hb (i3_b2 _) d_N_flowOf_83 (by decide) (fun c_2 => ?_) (fun c_2 => ?_)
    · replace c_2 := b2_0 c_2
      refine lv_aload_n hx hb d_N_flowOf_88 rfl (lv_at hl 1 rfl) ?_
      refine lv_iload_n hx hb d_N_flowOf_89 rfl (lv_at hl 2 rfl) ?_
      refine lv_aload_n hx hb d_N_flowOf_90 rfl (lv_at hl 0 rfl) ?_
      refine pr_pi (va_runV (As := [.int (iI (d)), .ref (a (37 + 2 * k))]) (rest := []) ⟨hx, hb, hml, hown, hts⟩ (c_N_driveOf l k (d) hOk hk ⟨by omega, by omega⟩) (cwV 2 hts (pn_gV m_462 m_463 m_464 m_34 m_465) rfl rfl rfl (by decide +kernel) ⟨Nat.le_of_ble_eq_true rfl, Nat.le_of_ble_eq_true rfl⟩) (pn_preV (q0 := 1) (ci := 1) (q := (R_N, T_N, 17)) hP hE rfl rfl) rfl rfl hl.1 rfl (lv_room (Nat.le_of_ble_eq_true rfl)) d_N_flowOf_91 ⟨Nat.le_of_ble_eq_true rfl, Nat.le_of_ble_eq_true rfl⟩) ?_
      have b2 := m_drive_b (j := d) hOk hPr gd.1 (by omega)
      have a5 := o_ki d gd.1 (by omega)
      have a6 := o_ar d gd.1 (by omega)
      refine lv_istore (lv' := [(4, .int (iI (m_drive nf (pr k) (d)))), (3, .ref (a (37 + 2 * k))), (0, .ref (a 1)), (1, .int (iI (d))), (2, .ref (a (36 + 2 * k)))]) hx hb d_N_flowOf_94 hl (by decide) rfl (fun ls hl => ?_)
      refine lv_aload_n hx hb d_N_flowOf_96 rfl (lv_at hl 2 rfl) ?_
      refine va_get (D := D) (ci := 1) (v := .ref (a 9)) (C := R_N) (T := T_N) (N := 17) hx hb hts (in_N _) hown hK hP 1 rfl rfl 7 (by decide) (ht _ m_75) (fun _ h9 => h9) rfl d_N_flowOf_97 ?_
      refine lv_iload_n hx hb d_N_flowOf_100 rfl (lv_at hl 3 rfl) ?_
      refine pr_iald hx hb hK hP 9 0 rfl rfl (by decide) (by omega) (by omega) d_N_flowOf_101 ?_
      refine lv_iconst (v := iI (1)) hx hb d_N_flowOf_102 rfl ?_
      refine pr_icmp_ne (tgt := 116) hx hb (i3_of (by omega) (by omega)) (i3_of (by decide) (by decide)) d_N_flowOf_103 (by decide) (fun c_3 => ?_) (fun c_3 => ?_)
      · skip
        refine lv_iload hx hb d_N_flowOf_116 (lv_at hl 0 rfl) ?_
        refine pr_if_ge (tgt := 137) hx hb (i3_of (by omega) (by omega)) d_N_flowOf_118 (by decide) (fun c_4 => ?_) (fun c_4 => ?_)
        · skip
          refine lv_aload_n hx hb d_N_flowOf_137 rfl (lv_at hl 2 rfl) ?_
          refine va_get (D := D) (ci := 1) (v := .ref (a 8)) (C := R_N) (T := T_N) (N := 17) hx hb hts (in_N _) hown hK hP 1 rfl rfl 6 (by decide) (ht _ m_74) (fun _ h9 => h9) rfl d_N_flowOf_138 ?_
          refine lv_iload_n hx hb d_N_flowOf_141 rfl (lv_at hl 3 rfl) ?_
          refine pr_iald hx hb hK hP 8 0 rfl rfl (by decide) (by omega) (by omega) d_N_flowOf_142 ?_
          refine lv_iload hx hb d_N_flowOf_143 (lv_at hl 0 rfl) ?_
          refine pr_pi (va_runS (As := [.int (iI (nf 6 (d))), .int (iI (m_drive nf (pr k) (d)))]) (rest := []) ⟨hx, hb, hml, hown, hts⟩ (c_N_rootFlow l (nf 6 (d)) (m_drive nf (pr k) (d)) ⟨by omega, by omega⟩ ⟨by omega, by omega⟩) (cwS 2 hts (pn_gS m_466 m_467 m_34 m_468) rfl rfl rfl (by decide +kernel) ⟨Nat.le_of_ble_eq_true rfl, Nat.le_of_ble_eq_true rfl⟩) pn_pre0 rfl rfl hl.1 rfl (lv_room (Nat.le_of_ble_eq_true rfl)) d_N_flowOf_145 ⟨Nat.le_of_ble_eq_true rfl, Nat.le_of_ble_eq_true rfl⟩) ?_
          exact pr_ri hx hb hr hlocks d_N_flowOf_148 (by first | exact (m_flow_fan (by omega)).symm | exact (m_flow_shut (by omega) (by assumption)).symm | exact (m_flow_one (by omega) (by assumption) (by assumption)).symm | exact (m_flow_neg (by omega) (by assumption) (by assumption) (by assumption)).symm | exact (m_flow_pos (by omega) (by assumption) (by assumption) (by assumption)).symm)
        · skip
          refine lv_aload_n hx hb d_N_flowOf_121 rfl (lv_at hl 2 rfl) ?_
          refine va_get (D := D) (ci := 1) (v := .ref (a 8)) (C := R_N) (T := T_N) (N := 17) hx hb hts (in_N _) hown hK hP 1 rfl rfl 6 (by decide) (ht _ m_74) (fun _ h9 => h9) rfl d_N_flowOf_122 ?_
          refine lv_iload_n hx hb d_N_flowOf_125 rfl (lv_at hl 3 rfl) ?_
          refine pr_iald hx hb hK hP 8 0 rfl rfl (by decide) (by omega) (by omega) d_N_flowOf_126 ?_
          refine lv_iload hx hb d_N_flowOf_127 (lv_at hl 0 rfl) ?_
          refine pr_ineg hx hb d_N_flowOf_129 ?_
          refine pr_pi (va_runS (As := [.int (iI (nf 6 (d))), .int (iI (-(m_drive nf (pr k) (d))))]) (rest := []) ⟨hx, hb, hml, hown, hts⟩ (c_N_rootFlow l (nf 6 (d)) (-(m_drive nf (pr k) (d))) ⟨by omega, by omega⟩ ⟨by omega, by omega⟩) (cwS 2 hts (pn_gS m_466 m_467 m_34 m_468) rfl rfl rfl (by decide +kernel) ⟨Nat.le_of_ble_eq_true rfl, Nat.le_of_ble_eq_true rfl⟩) pn_pre0 rfl rfl hl.1 rfl (lv_room (Nat.le_of_ble_eq_true rfl)) d_N_flowOf_130 ⟨Nat.le_of_ble_eq_true rfl, Nat.le_of_ble_eq_true rfl⟩) ?_
          refine pr_ineg hx hb d_N_flowOf_133 ?_
          refine lv_goto (tgt := 148) hx hb d_N_flowOf_134 (by decide) ?_
          exact pr_ri hx hb hr hlocks d_N_flowOf_148 (by first | exact (m_flow_fan (by omega)).symm | exact (m_flow_shut (by omega) (by assumption)).symm | exact (m_flow_one (by omega) (by assumption) (by assumption)).symm | exact (m_flow_neg (by omega) (by assumption) (by assumption) (by assumption)).symm | exact (m_flow_pos (by omega) (by assumption) (by assumption) (by assumption)).symm)
      · skip
        refine lv_aload_n hx hb d_N_flowOf_106 rfl (lv_at hl 2 rfl) ?_
        refine va_get (D := D) (ci := 1) (v := .ref (a 8)) (C := R_N) (T := T_N) (N := 17) hx hb hts (in_N _) hown hK hP 1 rfl rfl 6 (by decide) (ht _ m_74) (fun _ h9 => h9) rfl d_N_flowOf_107 ?_
        refine lv_iload_n hx hb d_N_flowOf_110 rfl (lv_at hl 3 rfl) ?_
        refine pr_iald hx hb hK hP 8 0 rfl rfl (by decide) (by omega) (by omega) d_N_flowOf_111 ?_
        refine lv_iload hx hb d_N_flowOf_112 (lv_at hl 0 rfl) ?_
        refine pr_imul hx hb d_N_flowOf_114 ?_
        exact pr_ri hx hb hr hlocks d_N_flowOf_115 (by first | exact (m_flow_fan (by omega)).symm | exact (m_flow_shut (by omega) (by assumption)).symm | exact (m_flow_one (by omega) (by assumption) (by assumption)).symm | exact (m_flow_neg (by omega) (by assumption) (by assumption) (by assumption)).symm | exact (m_flow_pos (by omega) (by assumption) (by assumption) (by assumption)).symm)
    · replace c_2 := b2_n1 c_2
      refine lv_iconst (v := iI (0)) hx hb d_N_flowOf_86 rfl ?_
      exact pr_ri hx hb hr hlocks d_N_flowOf_87 (by first | exact (m_flow_fan (by omega)).symm | exact (m_flow_shut (by omega) (by assumption)).symm | exact (m_flow_one (by omega) (by assumption) (by assumption)).symm | exact (m_flow_neg (by omega) (by assumption) (by assumption) (by assumption)).symm | exact (m_flow_pos (by omega) (by assumption) (by assumption) (by assumption)).symm)
  · skip
    have a3 := o_ff (d - 20) (by omega) (by omega)
    have a4 := o_sl (d - 20) (by omega) (by omega)
    have b1 := mul_b (x := nf 10 (d - 20)) (y := pr k (nf 4 d) - pr k (nf 3 d)) (X := 100) (Y := 25000) (by omega) (by omega) (by omega) (by omega)
    refine lv_iload_n hx hb d_N_flowOf_11 rfl (lv_at hl 2 rfl) ?_
    refine lv_bipush (v := iI (20)) hx hb d_N_flowOf_12 (by decide) ?_
    refine pr_isub hx hb d_N_flowOf_14 ?_
    refine lv_istore (lv' := [(4, .int (iI (d - 20))), (3, .ref (a (37 + 2 * k))), (0, .ref (a 1)), (1, .int (iI (d))), (2, .ref (a (36 + 2 * k)))]) hx hb d_N_flowOf_15 hl (by decide) rfl (fun ls hl => ?_)
    refine lv_aload_n hx hb d_N_flowOf_17 rfl (lv_at hl 1 rfl) ?_
    refine lv_aload_n hx hb d_N_flowOf_18 rfl (lv_at hl 2 rfl) ?_
    refine va_get (D := D) (ci := 1) (v := .ref (a 6)) (C := R_N) (T := T_N) (N := 17) hx hb hts (in_N _) hown hK hP 1 rfl rfl 4 (by decide) (ht _ m_71) (fun _ h9 => h9) rfl d_N_flowOf_19 ?_
    refine lv_iload_n hx hb d_N_flowOf_22 rfl (lv_at hl 3 rfl) ?_
    refine pr_iald hx hb hK hP 6 0 rfl rfl (by decide) (by omega) (by omega) d_N_flowOf_23 ?_
    refine pr_iald hx hb hK hP (37 + 2 * k) 0 (cw_sp k hk) rfl (by decide) (by omega) (by omega) d_N_flowOf_24 ?_
    refine lv_aload_n hx hb d_N_flowOf_25 rfl (lv_at hl 1 rfl) ?_
    refine lv_aload_n hx hb d_N_flowOf_26 rfl (lv_at hl 2 rfl) ?_
    refine va_get (D := D) (ci := 1) (v := .ref (a 5)) (C := R_N) (T := T_N) (N := 17) hx hb hts (in_N _) hown hK hP 1 rfl rfl 3 (by decide) (ht _ m_69) (fun _ h9 => h9) rfl d_N_flowOf_27 ?_
    refine lv_iload_n hx hb d_N_flowOf_30 rfl (lv_at hl 3 rfl) ?_
    refine pr_iald hx hb hK hP 5 0 rfl rfl (by decide) (by omega) (by omega) d_N_flowOf_31 ?_
    refine pr_iald hx hb hK hP (37 + 2 * k) 0 (cw_sp k hk) rfl (by decide) (by omega) (by omega) d_N_flowOf_32 ?_
    refine pr_isub hx hb d_N_flowOf_33 ?_
    refine lv_istore (lv' := [(5, .int (iI ((pr k (nf 4 (d))) - (pr k (nf 3 (d)))))), (4, .int (iI (d - 20))), (3, .ref (a (37 + 2 * k))), (0, .ref (a 1)), (1, .int (iI (d))), (2, .ref (a (36 + 2 * k)))]) hx hb d_N_flowOf_34 hl (by decide) rfl (fun ls hl => ?_)
    refine lv_aload_n hx hb d_N_flowOf_36 rfl (lv_at hl 3 rfl) ?_
    refine va_get (D := D) (ci := 1) (v := .ref (a 11)) (C := R_N) (T := T_N) (N := 17) hx hb hts (in_N _) hown hK hP 1 rfl rfl 9 (by decide) (ht _ m_77) (fun _ h9 => h9) rfl d_N_flowOf_37 ?_
    refine lv_iload hx hb d_N_flowOf_40 (lv_at hl 1 rfl) ?_
    refine pr_iald hx hb hK hP 11 0 rfl rfl (by decide) (by omega) (by omega) d_N_flowOf_42 ?_
    refine lv_aload_n hx hb d_N_flowOf_43 rfl (lv_at hl 3 rfl) ?_
    refine va_get (D := D) (ci := 1) (v := .ref (a 12)) (C := R_N) (T := T_N) (N := 17) hx hb hts (in_N _) hown hK hP 1 rfl rfl 10 (by decide) (ht _ m_78) (fun _ h9 => h9) rfl d_N_flowOf_44 ?_
    refine lv_iload hx hb d_N_flowOf_47 (lv_at hl 1 rfl) ?_
    refine pr_iald hx hb hK hP 12 0 rfl rfl (by decide) (by omega) (by omega) d_N_flowOf_49 ?_
    refine lv_iload hx hb d_N_flowOf_50 (lv_at hl 0 rfl) ?_
    refine pr_imul hx hb d_N_flowOf_52 ?_
    refine pr_isub hx hb d_N_flowOf_53 ?_
    refine lv_istore (lv' := [(6, .int (iI ((nf 9 (d - 20)) - ((nf 10 (d - 20)) * ((pr k (nf 4 (d))) - (pr k (nf 3 (d)))))))), (5, .int (iI ((pr k (nf 4 (d))) - (pr k (nf 3 (d)))))), (4, .int (iI (d - 20))), (3, .ref (a (37 + 2 * k))), (0, .ref (a 1)), (1, .int (iI (d))), (2, .ref (a (36 + 2 * k)))]) hx hb d_N_flowOf_54 hl (by decide) rfl (fun ls hl => ?_)
    refine lv_iconst (v := iI (0)) hx hb d_N_flowOf_56 rfl ?_
    refine lv_iload hx hb d_N_flowOf_57 (lv_at hl 0 rfl) ?_
    refine lv_iconst (v := iI (2)) hx hb d_N_flowOf_59 rfl ?_
    refine lv_aload_n hx hb d_N_flowOf_60 rfl (lv_at hl 4 rfl) ?_
    refine va_get (D := D) (ci := 1) (v := .ref (a 11)) (C := R_N) (T := T_N) (N := 17) hx hb hts (in_N _) hown hK hP 1 rfl rfl 9 (by decide) (ht _ m_77) (fun _ h9 => h9) rfl d_N_flowOf_61 ?_
    refine lv_iload hx hb d_N_flowOf_64 (lv_at hl 2 rfl) ?_
    refine pr_iald hx hb hK hP 11 0 rfl rfl (by decide) (by omega) (by omega) d_N_flowOf_66 ?_
    refine pr_imul hx hb d_N_flowOf_67 ?_
    refine va_mmin hx hb (hml.trans hl.1.symm) hown (ht _ m_456) (ht _ m_457) (ht _ m_46) (ht _ m_458) (Nat.le_of_ble_eq_true rfl) (Nat.le_of_ble_eq_true rfl) (Nat.le_of_ble_eq_true rfl) (Nat.le_of_ble_eq_true rfl) d_N_flowOf_68 ?_
    refine pr_ixe (B := min ((nf 9 (d - 20)) - ((nf 10 (d - 20)) * ((pr k (nf 4 (d))) - (pr k (nf 3 (d)))))) ((2) * (nf 9 (d - 20)))) (iI_min (i3_of (by omega) (by omega)) (i3_of (by omega) (by omega))) ?_
    refine va_mmax hx hb (hml.trans hl.1.symm) hown (ht _ m_459) (ht _ m_460) (ht _ m_46) (ht _ m_461) (Nat.le_of_ble_eq_true rfl) (Nat.le_of_ble_eq_true rfl) (Nat.le_of_ble_eq_true rfl) (Nat.le_of_ble_eq_true rfl) d_N_flowOf_71 ?_
    refine pr_ixe (B := max (0) (min ((nf 9 (d - 20)) - ((nf 10 (d - 20)) * ((pr k (nf 4 (d))) - (pr k (nf 3 (d)))))) ((2) * (nf 9 (d - 20))))) (iI_max (i3_of (by decide) (by decide)) (i3_of (by omega) (by omega))) ?_
    exact pr_ri hx hb hr hlocks d_N_flowOf_74 (by first | exact (m_flow_fan (by omega)).symm | exact (m_flow_shut (by omega) (by assumption)).symm | exact (m_flow_one (by omega) (by assumption) (by assumption)).symm | exact (m_flow_neg (by omega) (by assumption) (by assumption) (by assumption)).symm | exact (m_flow_pos (by omega) (by assumption) (by assumption) (by assumption)).symm)
end
section
abbrev w_N_gainOf : List Cond := .code y_N_gainOf b_N_gainOf 10 (some .int) :: pn_W
set_option maxHeartbeats 4000000 in
set_option maxRecDepth 100000 in
theorem c_N_gainOf (l : Launch) {D : va_G} {a : Nat → Nat} {cI cL cD cS : ClassId} {nf : Nat → Int → Int} {ns : Nat → Int} {da : Int → Int → Int} {be : Int → Int} {ui ul : Nat → Int → Int} {cn : Int} {ss : Nat → Nat} {mf sd : Nat → Int} {pr : Nat → Int → Int} (k z : Nat) (hOk : pn_Ok nf ns da) (hk : k < 9) (hPr : pn_Pr (pr k)) (hss : ss k < 2 ^ 20) (hz : z < 8) : Met l y_N_gainOf w_N_gainOf ({ frames := 2, cells := 0, slots := 0, locals := 56 }) (va_Pc [.ref (a 1), .int (iI (((z : Nat) : Int))), .ref (a (36 + 2 * k))] (fun U => va_P D pn_cl (cw a cI cL cD cS nf ns da be ui ul cn ss mf sd pr) U.heap ∧ pn_E D cI cL cD cS U)) (vp_Si (fun r => r = iI (m_gain nf da (ss k) (pr k) ((z + 4 : Nat) : Int)))) 0 0 (fun _ => False) := by
  refine Met.ofW (cc := b_N_gainOf) (maxL := 10) (ret := (some .int)) (by decide) rfl ?_
  intro p e s m args below meth c s₁ B hml hv
  obtain ⟨rfl, hP, hE⟩ := hv
  have hx := B.exec
  have hb := B.bytes
  have hr := B.returns
  have hts := atoms_spec (ws := w_N_gainOf) B.pre
  have ht : ∀ w ∈ pn_W, w.before _ s = true := fun w h => hts w (List.mem_cons_of_mem _ h)
  have hown : s.vm.findClass R_N = some m.cls := findClass_of_methodNamed B.named
  have hlocks := B.notSynchronized
  have hK := hE.1
  have hl := lv_entry ([.ref (a 1), .int (iI (((z : Nat) : Int))), .ref (a (36 + 2 * k))]) (n := 10) (Nat.le_of_ble_eq_true rfl)
  rw [lg_entry_eq]
  generalize (lg_sl ([.ref (a 1), .int (iI (((z : Nat) : Int))), .ref (a (36 + 2 * k))]) ++ List.replicate (10 - (lg_sl ([.ref (a 1), .int (iI (((z : Nat) : Int))), .ref (a (36 + 2 * k))])).length) Slot.unset).toArray = ls at hl ⊢
  have hl : lv_has ls 10 [(0, .ref (a 1)), (1, .int (iI (((z : Nat) : Int)))), (2, .ref (a (36 + 2 * k)))] := hl
  obtain ⟨o_zc, o_lc, o_fc, o_ve, o_wi, o_wa, o_vo, o_fr, o_to, o_he, o_ar, o_ki, o_st, o_ff, o_sl, o_dc, o_da⟩ := id hOk
  have a1 := o_dc ((z + 4 : Nat) : Int) (by omega) (by omega)
  have loop : ∀ (n : Nat) (t : Nat) (ls : Array Slot), (t : Int) ≤ nf 11 (((z + 4 : Nat) : Int)) → ((nf 11 (((z + 4 : Nat) : Int))).toNat - t) < n → lv_has ls 10 [(0, .ref (a 1)), (2, .ref (a (36 + 2 * k))), (3, .int (iI (((z + 4 : Nat) : Int)))), (4, .ref (a (15 + (z + 4)))), (5, .int (iI (nf 11 (((z + 4 : Nat) : Int))))), (6, .int (iI (m_sum (fun t => m_term nf (ss k) (pr k) ((z + 4 : Nat) : Int) (da ((z + 4 : Nat) : Int) t)) t))), (7, .int (iI (((t : Nat) : Int))))] → W p l e (headSpec w_N_gainOf ({ frames := 2, cells := 0, slots := 0, locals := 56 })).room s m ([.ref (a 1), .int (iI (((z : Nat) : Int))), .ref (a (36 + 2 * k))] : List Value).toArray below meth c s.heap [] 0 0 (MQ below (vp_Si (fun r => r = iI (m_gain nf da (ss k) (pr k) ((z + 4 : Nat) : Int)))) ([.ref (a 1), .int (iI (((z : Nat) : Int))), .ref (a (36 + 2 * k))] : List Value).toArray s 0 0 (fun _ => False)) (F0 m 27 ls []) := by
    intro n
    induction n with
    | zero => intro t ls _ hm; exact absurd hm (Nat.not_lt_zero _)
    | succ n ih =>
      intro t ls q1 hm hl
      refine lv_iload hx hb d_N_gainOf_27 (lv_at hl 6 rfl) ?_
      refine lv_iload hx hb d_N_gainOf_29 (lv_at hl 4 rfl) ?_
      refine pr_icmp_ge (tgt := 80) hx hb (i3_of (by omega) (by omega)) (i3_of (by omega) (by omega)) d_N_gainOf_31 (by decide) (fun c_1 => ?_) (fun c_1 => ?_)
      · skip
        have ht9 : t = (nf 11 (((z + 4 : Nat) : Int))).toNat := by omega
        refine lv_iload hx hb d_N_gainOf_80 (lv_at hl 5 rfl) ?_
        exact pr_ri hx hb hr hlocks d_N_gainOf_82 (by rw [ht9]; rfl)
      · skip
        have a2 := o_da ((z + 4 : Nat) : Int) t (by omega) (by omega) (by omega) (by omega)
        have a3 := o_to (da ((z + 4 : Nat) : Int) t) (by omega) (by omega)
        refine lv_aload hx hb d_N_gainOf_34 (lv_at hl 3 rfl) ?_
        refine lv_iload hx hb d_N_gainOf_36 (lv_at hl 6 rfl) ?_
        refine pr_iald hx hb hK hP (15 + (z + 4)) 0 (cw_row ((z + 4)) (by omega)) rfl (by decide) (by omega) (by omega) d_N_gainOf_38 ?_
        refine lv_istore (lv' := [(8, .int (iI (da (((z + 4) : Nat) : Int) (((t : Nat) : Int))))), (0, .ref (a 1)), (2, .ref (a (36 + 2 * k))), (3, .int (iI (((z + 4 : Nat) : Int)))), (4, .ref (a (15 + (z + 4)))), (5, .int (iI (nf 11 (((z + 4 : Nat) : Int))))), (6, .int (iI (m_sum (fun t => m_term nf (ss k) (pr k) ((z + 4 : Nat) : Int) (da ((z + 4 : Nat) : Int) t)) t))), (7, .int (iI (((t : Nat) : Int))))]) hx hb d_N_gainOf_39 hl (by decide) rfl (fun ls hl => ?_)
        refine lv_aload_n hx hb d_N_gainOf_41 rfl (lv_at hl 1 rfl) ?_
        refine lv_iload hx hb d_N_gainOf_42 (lv_at hl 0 rfl) ?_
        refine lv_aload_n hx hb d_N_gainOf_44 rfl (lv_at hl 2 rfl) ?_
        refine pr_pi (va_runV (As := [.int (iI (da (((z + 4) : Nat) : Int) (((t : Nat) : Int)))), .ref (a (36 + 2 * k))]) (rest := []) ⟨hx, hb, hml, hown, hts⟩ (c_N_flowOf l k (da (((z + 4) : Nat) : Int) (((t : Nat) : Int))) hOk hk hPr hss ⟨by omega, by omega⟩) (cwV 2 hts (pn_gV m_452 m_453 m_454 m_34 m_455) rfl rfl rfl (by decide +kernel) ⟨Nat.le_of_ble_eq_true rfl, Nat.le_of_ble_eq_true rfl⟩) (pn_preV (q0 := 1) (ci := 1) (q := (R_N, T_N, 17)) hP hE rfl rfl) rfl rfl hl.1 rfl (lv_room (Nat.le_of_ble_eq_true rfl)) d_N_gainOf_45 ⟨Nat.le_of_ble_eq_true rfl, Nat.le_of_ble_eq_true rfl⟩) ?_
        refine lv_istore (lv' := [(9, .int (iI (m_flow nf (ss k) (pr k) (da (((z + 4) : Nat) : Int) (((t : Nat) : Int)))))), (8, .int (iI (da (((z + 4) : Nat) : Int) (((t : Nat) : Int))))), (0, .ref (a 1)), (2, .ref (a (36 + 2 * k))), (3, .int (iI (((z + 4 : Nat) : Int)))), (4, .ref (a (15 + (z + 4)))), (5, .int (iI (nf 11 (((z + 4 : Nat) : Int))))), (6, .int (iI (m_sum (fun t => m_term nf (ss k) (pr k) ((z + 4 : Nat) : Int) (da ((z + 4 : Nat) : Int) t)) t))), (7, .int (iI (((t : Nat) : Int))))]) hx hb d_N_gainOf_48 hl (by decide) rfl (fun ls hl => ?_)
        refine lv_iload hx hb d_N_gainOf_50 (lv_at hl 7 rfl) ?_
        refine lv_aload_n hx hb d_N_gainOf_52 rfl (lv_at hl 2 rfl) ?_
        refine va_get (D := D) (ci := 1) (v := .ref (a 6)) (C := R_N) (T := T_N) (N := 17) hx hb hts (in_N _) hown hK hP 1 rfl rfl 4 (by decide) (ht _ m_71) (fun _ h9 => h9) rfl d_N_gainOf_53 ?_
        refine lv_iload hx hb d_N_gainOf_56 (lv_at hl 1 rfl) ?_
        refine pr_iald hx hb hK hP 6 0 rfl rfl (by decide) (by omega) (by omega) d_N_gainOf_58 ?_
        refine lv_iload_n hx hb d_N_gainOf_59 rfl (lv_at hl 4 rfl) ?_
        refine pr_icmp_ne (tgt := 68) hx hb (i3_of (by omega) (by omega)) (i3_of (by omega) (by omega)) d_N_gainOf_60 (by decide) (fun c_2 => ?_) (fun c_2 => ?_)
        · skip
          refine lv_iload hx hb d_N_gainOf_68 (lv_at hl 0 rfl) ?_
          refine pr_ineg hx hb d_N_gainOf_70 ?_
          refine pr_iadd hx hb d_N_gainOf_71 ?_
          refine pr_ire (B := m_sum (fun t => m_term nf (ss k) (pr k) ((z + 4 : Nat) : Int) (da ((z + 4 : Nat) : Int) t)) (t + 1)) (by show _ = m_sum _ t + m_term _ _ _ _ _; unfold m_term; first | rw [if_pos (by assumption)] | rw [if_neg (by assumption)]) ?_
          refine lv_istore (lv' := [(6, .int (iI (m_sum (fun t => m_term nf (ss k) (pr k) ((z + 4 : Nat) : Int) (da ((z + 4 : Nat) : Int) t)) (t + 1)))), (9, .int (iI (m_flow nf (ss k) (pr k) (da (((z + 4) : Nat) : Int) (((t : Nat) : Int)))))), (8, .int (iI (da (((z + 4) : Nat) : Int) (((t : Nat) : Int))))), (0, .ref (a 1)), (2, .ref (a (36 + 2 * k))), (3, .int (iI (((z + 4 : Nat) : Int)))), (4, .ref (a (15 + (z + 4)))), (5, .int (iI (nf 11 (((z + 4 : Nat) : Int))))), (7, .int (iI (((t : Nat) : Int))))]) hx hb d_N_gainOf_72 hl (by decide) rfl (fun ls hl => ?_)
          refine lv_iinc (v := iI (((t : Nat) : Int) + 1)) (lv' := [(7, .int (iI (((t : Nat) : Int) + 1))), (6, .int (iI (m_sum (fun t => m_term nf (ss k) (pr k) ((z + 4 : Nat) : Int) (da ((z + 4 : Nat) : Int) t)) (t + 1)))), (9, .int (iI (m_flow nf (ss k) (pr k) (da (((z + 4) : Nat) : Int) (((t : Nat) : Int)))))), (8, .int (iI (da (((z + 4) : Nat) : Int) (((t : Nat) : Int))))), (0, .ref (a 1)), (2, .ref (a (36 + 2 * k))), (3, .int (iI (((z + 4 : Nat) : Int)))), (4, .ref (a (15 + (z + 4)))), (5, .int (iI (nf 11 (((z + 4 : Nat) : Int)))))]) hx hb d_N_gainOf_74 hl (k := 8) rfl (iI_add _ _).symm (by decide) rfl (fun ls hl => ?_)
          refine lv_goto (tgt := 27) hx hb d_N_gainOf_77 (by decide) ?_
          exact ih (t + 1) ls (by omega) (by omega) (lv_sub hl [4, 5, 6, 7, 8, 1, 0] rfl)
        · skip
          refine lv_iload hx hb d_N_gainOf_63 (lv_at hl 0 rfl) ?_
          refine lv_goto (tgt := 71) hx hb d_N_gainOf_65 (by decide) ?_
          refine pr_iadd hx hb d_N_gainOf_71 ?_
          refine pr_ire (B := m_sum (fun t => m_term nf (ss k) (pr k) ((z + 4 : Nat) : Int) (da ((z + 4 : Nat) : Int) t)) (t + 1)) (by show _ = m_sum _ t + m_term _ _ _ _ _; unfold m_term; first | rw [if_pos (by assumption)] | rw [if_neg (by assumption)]) ?_
          refine lv_istore (lv' := [(6, .int (iI (m_sum (fun t => m_term nf (ss k) (pr k) ((z + 4 : Nat) : Int) (da ((z + 4 : Nat) : Int) t)) (t + 1)))), (9, .int (iI (m_flow nf (ss k) (pr k) (da (((z + 4) : Nat) : Int) (((t : Nat) : Int)))))), (8, .int (iI (da (((z + 4) : Nat) : Int) (((t : Nat) : Int))))), (0, .ref (a 1)), (2, .ref (a (36 + 2 * k))), (3, .int (iI (((z + 4 : Nat) : Int)))), (4, .ref (a (15 + (z + 4)))), (5, .int (iI (nf 11 (((z + 4 : Nat) : Int))))), (7, .int (iI (((t : Nat) : Int))))]) hx hb d_N_gainOf_72 hl (by decide) rfl (fun ls hl => ?_)
          refine lv_iinc (v := iI (((t : Nat) : Int) + 1)) (lv' := [(7, .int (iI (((t : Nat) : Int) + 1))), (6, .int (iI (m_sum (fun t => m_term nf (ss k) (pr k) ((z + 4 : Nat) : Int) (da ((z + 4 : Nat) : Int) t)) (t + 1)))), (9, .int (iI (m_flow nf (ss k) (pr k) (da (((z + 4) : Nat) : Int) (((t : Nat) : Int)))))), (8, .int (iI (da (((z + 4) : Nat) : Int) (((t : Nat) : Int))))), (0, .ref (a 1)), (2, .ref (a (36 + 2 * k))), (3, .int (iI (((z + 4 : Nat) : Int)))), (4, .ref (a (15 + (z + 4)))), (5, .int (iI (nf 11 (((z + 4 : Nat) : Int)))))]) hx hb d_N_gainOf_74 hl (k := 8) rfl (iI_add _ _).symm (by decide) rfl (fun ls hl => ?_)
          refine lv_goto (tgt := 27) hx hb d_N_gainOf_77 (by decide) ?_
          exact ih (t + 1) ls (by omega) (by omega) (lv_sub hl [4, 5, 6, 7, 8, 1, 0] rfl)
  refine lv_iload_n hx hb d_N_gainOf_0 rfl (lv_at hl 1 rfl) ?_
  refine pr_pi (va_runSN (As := [.int (iI (((z : Nat) : Int)))]) (rest := []) ⟨hx, hb, hml, hown, hts⟩ (c_P_rowOf l (((z : Nat) : Int))) ⟨va_cnB 1 hts (pn_g m_326) rfl rfl rfl (hE.2 _ (List.mem_of_getElem? (i := 2) rfl)) (ht _ m_33) (by decide +kernel) ⟨Nat.le_of_ble_eq_true rfl, Nat.le_of_ble_eq_true rfl⟩, ht _ m_325, trivial⟩ pn_pre0 rfl rfl hl.1 rfl (lv_room (Nat.le_of_ble_eq_true rfl)) d_N_gainOf_1 ⟨Nat.le_of_ble_eq_true rfl, Nat.le_of_ble_eq_true rfl⟩) ?_
  refine pr_ire (B := ((z + 4 : Nat) : Int)) (by omega) ?_
  refine lv_istore_n (lv' := [(3, .int (iI (((z + 4 : Nat) : Int)))), (0, .ref (a 1)), (1, .int (iI (((z : Nat) : Int)))), (2, .ref (a (36 + 2 * k)))]) hx hb d_N_gainOf_4 rfl hl (by decide) rfl (fun ls hl => ?_)
  refine lv_aload_n hx hb d_N_gainOf_5 rfl (lv_at hl 1 rfl) ?_
  refine va_get (D := D) (ci := 1) (v := .ref (a 14)) (C := R_N) (T := T_N) (N := 17) hx hb hts (in_N _) hown hK hP 1 rfl rfl 11 (by decide) (ht _ m_79) (fun _ h9 => h9) rfl d_N_gainOf_6 ?_
  refine lv_iload_n hx hb d_N_gainOf_9 rfl (lv_at hl 0 rfl) ?_
  refine pr_aald hx hb hK hP 14 2 rfl rfl rfl (z + 4) (a (15 + (z + 4))) (by omega) (by decide) (by omega) (if_pos (by omega)) d_N_gainOf_10 ?_
  refine lv_astore (lv' := [(4, .ref (a (15 + (z + 4)))), (3, .int (iI (((z + 4 : Nat) : Int)))), (0, .ref (a 1)), (1, .int (iI (((z : Nat) : Int)))), (2, .ref (a (36 + 2 * k)))]) hx hb d_N_gainOf_11 hl (by decide) rfl (fun ls hl => ?_)
  refine lv_aload_n hx hb d_N_gainOf_13 rfl (lv_at hl 2 rfl) ?_
  refine va_get (D := D) (ci := 1) (v := .ref (a 13)) (C := R_N) (T := T_N) (N := 17) hx hb hts (in_N _) hown hK hP 1 rfl rfl 12 (by decide) (ht _ m_80) (fun _ h9 => h9) rfl d_N_gainOf_14 ?_
  refine lv_iload_n hx hb d_N_gainOf_17 rfl (lv_at hl 1 rfl) ?_
  refine pr_iald hx hb hK hP 13 0 rfl rfl (by decide) (by omega) (by omega) d_N_gainOf_18 ?_
  refine lv_istore (lv' := [(5, .int (iI (nf 11 (((z + 4 : Nat) : Int))))), (4, .ref (a (15 + (z + 4)))), (3, .int (iI (((z + 4 : Nat) : Int)))), (0, .ref (a 1)), (1, .int (iI (((z : Nat) : Int)))), (2, .ref (a (36 + 2 * k)))]) hx hb d_N_gainOf_19 hl (by decide) rfl (fun ls hl => ?_)
  refine lv_iconst (v := iI (0)) hx hb d_N_gainOf_21 rfl ?_
  refine lv_istore (lv' := [(6, .int (iI (0))), (5, .int (iI (nf 11 (((z + 4 : Nat) : Int))))), (4, .ref (a (15 + (z + 4)))), (3, .int (iI (((z + 4 : Nat) : Int)))), (0, .ref (a 1)), (1, .int (iI (((z : Nat) : Int)))), (2, .ref (a (36 + 2 * k)))]) hx hb d_N_gainOf_22 hl (by decide) rfl (fun ls hl => ?_)
  refine lv_iconst (v := iI (0)) hx hb d_N_gainOf_24 rfl ?_
  refine lv_istore (lv' := [(7, .int (iI (0))), (6, .int (iI (0))), (5, .int (iI (nf 11 (((z + 4 : Nat) : Int))))), (4, .ref (a (15 + (z + 4)))), (3, .int (iI (((z + 4 : Nat) : Int)))), (0, .ref (a 1)), (1, .int (iI (((z : Nat) : Int)))), (2, .ref (a (36 + 2 * k)))]) hx hb d_N_gainOf_25 hl (by decide) rfl (fun ls hl => ?_)
  exact loop _ (0) ls (by omega) (Nat.lt_succ_self _) (lv_sub hl [5, 7, 4, 3, 2, 1, 0] rfl)
end
section
/-! the search of a raise -/
def pn_J (i : Nat) (rc g : Int) : Prop := 1 ≤ rc ∧ rc ≤ ((2 ^ i : Nat) : Int) ∧ 1 ≤ g ∧ ((rc = ((2 ^ i : Nat) : Int) ∧ i ≤ 13 ∧ g ≤ 10001) ∨ (g ≤ 2 * rc + 1 ∧ (g - 1) * ((2 ^ i : Nat) : Int) ≤ 163840000))
theorem pn_2i (i : Nat) (h : i ≤ 13) : ((2 ^ i : Nat) : Int) ≤ 8192 := by
  have h1 : 2 ^ i ≤ 2 ^ 13 := Nat.pow_le_pow_right (by omega) h
  have h2 : (2 : Nat) ^ 13 = 8192 := by decide
  omega
theorem pn_2s (i : Nat) : ((2 ^ (i + 1) : Nat) : Int) = 2 * ((2 ^ i : Nat) : Int) := by
  have : 2 ^ (i + 1) = 2 * 2 ^ i := by rw [Nat.pow_succ]; omega
  omega
theorem pn_2p (i : Nat) : 1 ≤ ((2 ^ i : Nat) : Int) := by
  have := Nat.two_pow_pos i
  omega
theorem pn_J_0 {g : Int} (h : 1 ≤ g) (h2 : g ≤ 10001) : pn_J 0 1 g := ⟨by decide, by decide, h, Or.inl ⟨by decide, by decide, h2⟩⟩
theorem pn_J_B {i : Nat} {rc g : Int} (h : pn_J i rc g) (hr : g / 2 ≤ rc) : g ≤ 2 * rc + 1 ∧ (g - 1) * ((2 ^ i : Nat) : Int) ≤ 163840000 := by
  obtain ⟨h1, h2, h3, h4⟩ := h
  rcases h4 with ⟨a1, a2, a3⟩ | h4
  · have h5 := pn_2i i a2
    have h6 : (g - 1) * ((2 ^ i : Nat) : Int) ≤ 10000 * 8192 := Int.mul_le_mul (by omega) h5 (by have := pn_2p i; omega) (by decide)
    exact ⟨by omega, by omega⟩
  · exact h4
theorem pn_J_half {i : Nat} {g g' : Int} (hg : (g' - 1) * 2 ≤ g - 1) (h : (g - 1) * ((2 ^ i : Nat) : Int) ≤ 163840000) : (g' - 1) * ((2 ^ (i + 1) : Nat) : Int) ≤ 163840000 := by
  rw [pn_2s]
  have e : (g' - 1) * (2 * ((2 ^ i : Nat) : Int)) = (g' - 1) * 2 * ((2 ^ i : Nat) : Int) := (Int.mul_assoc _ _ _).symm
  rw [e]
  exact Int.le_trans (Int.mul_le_mul_of_nonneg_right hg (by have := pn_2p i; omega)) h
theorem pn_J_low {i : Nat} {rc g : Int} (h : pn_J i rc g) (h2 : 2 ≤ g) : pn_J (i + 1) (rc * 2) (g - min rc (g / 2)) := by
  have hh := h
  obtain ⟨q1, q2, q3, q4⟩ := h
  have hs := pn_2s i
  refine ⟨by omega, by omega, by omega, ?_⟩
  by_cases c : g / 2 ≤ rc
  · have hB := pn_J_B hh c
    exact Or.inr ⟨by omega, pn_J_half (g := g) (by omega) hB.2⟩
  · rcases q4 with ⟨a1, a2, a3⟩ | q4
    · refine Or.inl ⟨by omega, ?_, by omega⟩
      rcases Nat.lt_or_ge i 13 with z | z
      · omega
      · exfalso
        have : i = 13 := by omega
        subst this
        have h9 : ((2 ^ 13 : Nat) : Int) = 8192 := by decide
        omega
    · exfalso; omega
theorem pn_J_high {i : Nat} {rc g : Int} (h : pn_J i rc g) (h2 : 2 ≤ g) : pn_J (i + 1) rc (min rc (g / 2)) := by
  have hh := h
  obtain ⟨q1, q2, q3, q4⟩ := h
  have hs := pn_2s i
  have hp := pn_2p i
  refine ⟨by omega, by omega, by omega, ?_⟩
  by_cases c : g / 2 ≤ rc
  · have hB := pn_J_B hh c
    exact Or.inr ⟨by omega, pn_J_half (g := g) (by omega) hB.2⟩
  · rcases q4 with ⟨a1, a2, a3⟩ | q4
    · refine Or.inr ⟨by omega, ?_⟩
      have h5 := pn_2i i a2
      rw [Int.min_eq_left (by omega), hs]
      have h6 : (rc - 1) * (2 * ((2 ^ i : Nat) : Int)) ≤ 8192 * 16384 := Int.mul_le_mul (by omega) (by omega) (by omega) (by decide)
      omega
    · exfalso; omega
theorem pn_J_rc {i : Nat} {rc g : Int} (h : pn_J i rc g) (h2 : 2 ≤ g) : rc ≤ 163840000 := by
  obtain ⟨q1, q2, q3, q4⟩ := h
  rcases q4 with ⟨a1, a2, a3⟩ | q4
  · have := pn_2i i a2
    omega
  · have h5 : 1 * ((2 ^ i : Nat) : Int) ≤ (g - 1) * ((2 ^ i : Nat) : Int) := Int.mul_le_mul_of_nonneg_right (by omega) (by have := pn_2p i; omega)
    omega
theorem pn_J_end {i : Nat} {rc g : Int} (h : pn_J i rc g) (hi : 64 ≤ i) : g = 1 := by
  obtain ⟨q1, q2, q3, q4⟩ := h
  rcases q4 with ⟨a1, a2, a3⟩ | q4
  · omega
  · have h1 : 2 ^ 64 ≤ 2 ^ i := Nat.pow_le_pow_right (by omega) hi
    have h3 : (2 : Nat) ^ 64 = 18446744073709551616 := by decide
    rcases Int.lt_or_le 1 g with z | z
    · have h5 : 1 * ((2 ^ i : Nat) : Int) ≤ (g - 1) * ((2 ^ i : Nat) : Int) := Int.mul_le_mul_of_nonneg_right (by omega) (by have := pn_2p i; omega)
      omega
    · omega
theorem pu_pu (f : Int → Int) (k v w : Int) : pu (pu f k v) k w = pu f k w := by
  funext j
  unfold pu
  by_cases h : j = k
  · rw [if_pos h, if_pos h]
  · rw [if_neg h, if_neg h, if_neg h]
theorem pu_self (f : Int → Int) (k : Int) : pu f k (f k) = f := by
  funext j
  unfold pu
  by_cases h : j = k
  · rw [if_pos h, h]
  · rw [if_neg h]
theorem nw_self {α : Type} (f : Nat → α) (k : Nat) : nw f k (f k) = f := by
  funext j
  unfold nw
  by_cases h : j = k
  · rw [if_pos h, h]
  · rw [if_neg h]
theorem nw_nw {α : Type} (f : Nat → α) (k : Nat) (x y : α) : nw (nw f k x) k y = nw f k y := by
  funext j
  unfold nw
  by_cases h : j = k
  · rw [if_pos h, if_pos h]
  · rw [if_neg h, if_neg h, if_neg h]
theorem pn_npu (f : Nat → Int → Int) (g : Int → Int) (k : Nat) (r c v : Int) : nw (nw f k (pu g r c)) k (pu ((nw f k (pu g r c)) k) r v) = nw f k (pu g r v) := by rw [nw_nw, nw_s, pu_pu]
theorem pn_Pr_pu {P : Int → Int} (h : pn_Pr P) {r v : Int} (h1 : -5000 ≤ v) (h2 : v ≤ 20000) : pn_Pr (pu P r v) := by
  intro j a b
  unfold pu
  by_cases e : j = r
  · rw [if_pos e]; exact ⟨h1, h2⟩
  · rw [if_neg e]; exact h j a b
section PW
variable {s : State} {H : Heap} {D : va_G} {cI cL cD cS : ClassId} {ws : va_W}
theorem pn_preW {As : List Value} {b q0 ci : Nat} {q : vw_C} {fs : List Value} {A : Nat → Prop} (hP : va_P D pn_cl ws H) (hD : va_D A ws) (hE : pn_E D cI cL cD cS s) (hc : pn_cl[ci]? = some q) (he : ws[q0]? = some (b, .inr (ci, fs))) : PreV s H q.1 b (va_Pc (.ref b :: As) (fun U => U.heap.size = H.size ∧ va_P D pn_cl ws U.heap ∧ va_D (fun _ => True) ws ∧ pn_E D cI cL cD cS U)) As :=
  ⟨fun _ _ _ _ q => ⟨q.1, q.2.1, q.2.2.1, q.2.2.2.1, pn_E.same rfl q.2.2.2.2⟩, va_recv hE.1 hP hc he, fun U hU hW => ⟨rfl, by rw [hU], by rw [hU]; exact hP, hD.weaken (fun _ _ _ _ => trivial), pn_E.warm hW hE⟩⟩
end PW
end
section
theorem m_gain_b {nf : Nat → Int → Int} {ns : Nat → Int} {da : Int → Int → Int} {S z : Nat} {P : Int → Int} (hOk : pn_Ok nf ns da) (hPr : pn_Pr P) (hz : z < 8) : -648000000 ≤ m_gain nf da S P ((z + 4 : Nat) : Int) ∧ m_gain nf da S P ((z + 4 : Nat) : Int) ≤ 648000000 := by
  have hOk2 := hOk
  obtain ⟨o_zc, o_lc, o_fc, o_ve, o_wi, o_wa, o_vo, o_fr, o_to, o_he, o_ar, o_ki, o_st, o_ff, o_sl, o_dc, o_da⟩ := hOk
  have a1 := o_dc ((z + 4 : Nat) : Int) (by omega) (by omega)
  unfold m_gain
  have h := m_sum_b (f := fun t => m_term nf S P ((z + 4 : Nat) : Int) (da ((z + 4 : Nat) : Int) t)) (B := 27000000) (n := (nf 11 ((z + 4 : Nat) : Int)).toNat) (fun t ht => by
    have a2 := o_da ((z + 4 : Nat) : Int) t (by omega) (by omega) (by omega) (by omega)
    have a3 := m_flow_b (S := S) (d := da ((z + 4 : Nat) : Int) t) hOk2 hPr a2.1 (by omega)
    show -27000000 ≤ m_term _ _ _ _ _ ∧ m_term _ _ _ _ _ ≤ 27000000
    unfold m_term
    by_cases c : nf 4 (da ((z + 4 : Nat) : Int) t) = ((z + 4 : Nat) : Int)
    · rw [if_pos c]; exact a3
    · rw [if_neg c]; omega)
  have h4 : (((nf 11 ((z + 4 : Nat) : Int)).toNat : Nat) : Int) ≤ 24 := by omega
  have h5 : 27000000 * (((nf 11 ((z + 4 : Nat) : Int)).toNat : Nat) : Int) ≤ 27000000 * 24 := by omega
  omega
abbrev w_S_raises : List Cond := .code y_S_raises b_S_raises 9 (some .boolean) :: pn_W
set_option maxHeartbeats 4000000 in
set_option maxRecDepth 100000 in
theorem c_S_raises (l : Launch) {D : va_G} {a : Nat → Nat} {cI cL cD cS : ClassId} {nf : Nat → Int → Int} {ns : Nat → Int} {da : Int → Int → Int} {be : Int → Int} {ui ul : Nat → Int → Int} {cn : Int} {ss : Nat → Nat} {mf sd : Nat → Int} {pr : Nat → Int → Int} (sz : Nat) (k z : Nat) (hOk : pn_Ok nf ns da) (hk : k < 9) (hPr : pn_Pr (pr k)) (hss : ss k < 2 ^ 20) (hz : z < 8) : Met l y_S_raises w_S_raises ({ frames := 3, cells := 0, slots := 0, locals := 85 }) (va_Pc [.ref (a 27), .ref (a (36 + 2 * k)), .int (iI (((z : Nat) : Int)))] (fun U => U.heap.size = sz ∧ va_P D pn_cl (cw a cI cL cD cS nf ns da be ui ul cn ss mf sd pr) U.heap ∧ va_D (fun _ => True) (cw a cI cL cD cS nf ns da be ui ul cn ss mf sd pr) ∧ pn_E D cI cL cD cS U)) (va_Qi (fun (r : Int32) (u : Int → Int) => (r = iI 0 ∧ u = pr k ∧ (5000 < pr k ((z + 4 : Nat) : Int) ∨ m_gain nf da (ss k) (pr k) ((z + 4 : Nat) : Int) ≤ 0)) ∨ (r = iI 1 ∧ ∃ v : Int, u = pu (pr k) ((z + 4 : Nat) : Int) v ∧ pr k ((z + 4 : Nat) : Int) < v ∧ v ≤ 5001 ∧ 0 < m_gain nf da (ss k) (pu (pr k) ((z + 4 : Nat) : Int) (v - 1)) ((z + 4 : Nat) : Int))) (fun u t => va_P D pn_cl ((fun u : Int → Int => cw a cI cL cD cS nf ns da be ui ul cn ss mf sd (nw pr k u)) u) t.heap ∧ va_D (va_A (cw a cI cL cD cS nf ns da be ui ul cn ss mf sd pr) sz) ((fun u : Int → Int => cw a cI cL cD cS nf ns da be ui ul cn ss mf sd (nw pr k u)) u)) (va_A (cw a cI cL cD cS nf ns da be ui ul cn ss mf sd pr) sz)) 0 0 (va_A (cw a cI cL cD cS nf ns da be ui ul cn ss mf sd pr) sz) := by
  refine Met.ofW (cc := b_S_raises) (maxL := 9) (ret := (some .boolean)) (by decide) rfl ?_
  intro p e s m args below meth c s₁ B hml hv
  obtain ⟨rfl, hsz, hP, hD0, hE⟩ := hv
  have hx := B.exec
  have hb := B.bytes
  have hr := B.returns
  have hts := atoms_spec (ws := w_S_raises) B.pre
  have ht : ∀ w ∈ pn_W, w.before _ s = true := fun w h => hts w (List.mem_cons_of_mem _ h)
  have hown : s.vm.findClass R_S = some m.cls := findClass_of_methodNamed B.named
  have hlocks := B.notSynchronized
  have hK := hE.1
  subst hsz
  have hD := hD0.self (sz := s.heap.size)
  generalize hAe : va_A (cw a cI cL cD cS nf ns da be ui ul cn ss mf sd pr) s.heap.size = A at hD ⊢
  have hA : ∀ q : Nat, s.heap.size ≤ q → A q := fun q h => by rw [← hAe]; exact Or.inr h
  have hS : va_S A s.heap s.heap [] := va_S.rf
  have hl := lv_entry ([.ref (a 27), .ref (a (36 + 2 * k)), .int (iI (((z : Nat) : Int)))]) (n := 9) (Nat.le_of_ble_eq_true rfl)
  rw [lg_entry_eq]
  generalize (lg_sl ([.ref (a 27), .ref (a (36 + 2 * k)), .int (iI (((z : Nat) : Int)))]) ++ List.replicate (9 - (lg_sl ([.ref (a 27), .ref (a (36 + 2 * k)), .int (iI (((z : Nat) : Int)))])).length) Slot.unset).toArray = ls at hl ⊢
  have hl : lv_has ls 9 [(0, .ref (a 27)), (1, .ref (a (36 + 2 * k))), (2, .int (iI (((z : Nat) : Int))))] := hl
  obtain ⟨o_zc, o_lc, o_fc, o_ve, o_wi, o_wa, o_vo, o_fr, o_to, o_he, o_ar, o_ki, o_st, o_ff, o_sl, o_dc, o_da⟩ := id hOk
  have p1 := hPr ((z + 4 : Nat) : Int) (by omega) (by omega)
  have loop : ∀ (n : Nat) (i : Nat) (x : Int) (lo : Int) (hi : Int) (rc : Int) (H : Heap) (locs : List Loc) (ls : Array Slot), i ≤ 64 → pr k ((z + 4 : Nat) : Int) ≤ lo → lo < hi → hi ≤ 5001 → pn_J i rc (hi - lo) → 0 < m_gain nf da (ss k) (pu (pr k) ((z + 4 : Nat) : Int) (lo)) ((z + 4 : Nat) : Int) → (64 - i) < n → va_P D pn_cl (cw a cI cL cD cS nf ns da be ui ul cn ss mf sd (nw pr k (pu (pr k) ((z + 4 : Nat) : Int) (x)))) H → va_D A (cw a cI cL cD cS nf ns da be ui ul cn ss mf sd (nw pr k (pu (pr k) ((z + 4 : Nat) : Int) (x)))) → va_S A s.heap H locs → lv_has ls 9 [(0, .ref (a 27)), (1, .ref (a (36 + 2 * k))), (2, .int (iI (((z : Nat) : Int)))), (3, .int (iI (((z + 4 : Nat) : Int)))), (4, .int (iI (lo))), (5, .int (iI (hi))), (6, .int (iI (rc))), (7, .int (iI (((i : Nat) : Int))))] → W p l e (headSpec w_S_raises ({ frames := 3, cells := 0, slots := 0, locals := 85 })).room s m ([.ref (a 27), .ref (a (36 + 2 * k)), .int (iI (((z : Nat) : Int)))] : List Value).toArray below meth c H locs 0 0 (MQ below (va_Qi (fun (r : Int32) (u : Int → Int) => (r = iI 0 ∧ u = pr k ∧ (5000 < pr k ((z + 4 : Nat) : Int) ∨ m_gain nf da (ss k) (pr k) ((z + 4 : Nat) : Int) ≤ 0)) ∨ (r = iI 1 ∧ ∃ v : Int, u = pu (pr k) ((z + 4 : Nat) : Int) v ∧ pr k ((z + 4 : Nat) : Int) < v ∧ v ≤ 5001 ∧ 0 < m_gain nf da (ss k) (pu (pr k) ((z + 4 : Nat) : Int) (v - 1)) ((z + 4 : Nat) : Int))) (fun u t => va_P D pn_cl ((fun u : Int → Int => cw a cI cL cD cS nf ns da be ui ul cn ss mf sd (nw pr k u)) u) t.heap ∧ va_D A ((fun u : Int → Int => cw a cI cL cD cS nf ns da be ui ul cn ss mf sd (nw pr k u)) u)) A) ([.ref (a 27), .ref (a (36 + 2 * k)), .int (iI (((z : Nat) : Int)))] : List Value).toArray s 0 0 A) (F0 m 46 ls []) := by
    intro n
    induction n with
    | zero => intro i x lo hi rc H locs ls _ _ _ _ _ _ hm; exact absurd hm (Nat.not_lt_zero _)
    | succ n ih =>
      intro i x lo hi rc H locs ls q0 q1 q2 q3 q4 q5 hm hP hD hS hl
      refine lv_iload hx hb d_S_raises_46 (lv_at hl 7 rfl) ?_
      refine lv_bipush (v := iI (64)) hx hb d_S_raises_48 (by decide) ?_
      refine pr_icmp_ge (tgt := 122) hx hb (i3_of (by omega) (by omega)) (i3_of (by decide) (by decide)) d_S_raises_50 (by decide) (fun c_1 => ?_) (fun c_1 => ?_)
      · skip
        have hh : hi - lo = 1 := by first | exact pn_J_end q4 (by omega) | omega
        refine lv_aload_n hx hb d_S_raises_122 rfl (lv_at hl 1 rfl) ?_
        refine va_get (D := D) (ci := 3) (v := .ref (a (37 + 2 * k))) (C := R_T) (T := T_T) (N := 4) hx hb hts (in_T _) hown hK hP (36 + 2 * k) (cw_so k hk) rfl 0 (by decide) (ht _ m_175) (fun _ h9 => h9) rfl d_S_raises_123 ?_
        refine lv_iload_n hx hb d_S_raises_126 rfl (lv_at hl 3 rfl) ?_
        refine lv_iload hx hb d_S_raises_127 (lv_at hl 5 rfl) ?_
        refine pr_iast (ws' := cw a cI cL cD cS nf ns da be ui ul cn ss mf sd (nw (nw pr k (pu (pr k) ((z + 4 : Nat) : Int) (x))) k (pu ((nw pr k (pu (pr k) ((z + 4 : Nat) : Int) (x))) k) (((z + 4 : Nat) : Int)) (hi)))) hx hb hK hP hD hS (37 + 2 * k) 0 (cw_sp k hk) rfl (by decide) (by omega) (by omega) (cw_upr _ hk) d_S_raises_129 (fun H locs hP hD hS => ?_)
        have e9 : nw (nw pr k (pu (pr k) ((z + 4 : Nat) : Int) (x))) k (pu ((nw pr k (pu (pr k) ((z + 4 : Nat) : Int) (x))) k) (((z + 4 : Nat) : Int)) (hi)) = nw pr k (pu (pr k) ((z + 4 : Nat) : Int) (hi)) := pn_npu _ _ _ _ _ _
        rw [e9] at hP hD
        clear e9
        refine lv_iconst (v := iI (1)) hx hb d_S_raises_130 rfl ?_
        exact W.zret (v := iI (1)) hx hb hr (by decide) (fun t ht hW => ⟨⟨iI (1), (pu (pr k) ((z + 4 : Nat) : Int) hi), rfl, Or.inr ⟨rfl, hi, rfl, by omega, by omega, by rw [show hi - 1 = lo by omega]; exact q5⟩, by rw [ht]; exact hP, hD⟩, hS.F ht⟩) hS.2.2 d_S_raises_131
      · skip
        refine lv_iload hx hb d_S_raises_53 (lv_at hl 5 rfl) ?_
        refine lv_iload hx hb d_S_raises_55 (lv_at hl 4 rfl) ?_
        refine pr_isub hx hb d_S_raises_57 ?_
        refine lv_iconst (v := iI (1)) hx hb d_S_raises_58 rfl ?_
        refine pr_icmp_le (tgt := 122) hx hb (i3_of (by omega) (by omega)) (i3_of (by decide) (by decide)) d_S_raises_59 (by decide) (fun c_2 => ?_) (fun c_2 => ?_)
        · skip
          have hh : hi - lo = 1 := by first | exact pn_J_end q4 (by omega) | omega
          refine lv_aload_n hx hb d_S_raises_122 rfl (lv_at hl 1 rfl) ?_
          refine va_get (D := D) (ci := 3) (v := .ref (a (37 + 2 * k))) (C := R_T) (T := T_T) (N := 4) hx hb hts (in_T _) hown hK hP (36 + 2 * k) (cw_so k hk) rfl 0 (by decide) (ht _ m_175) (fun _ h9 => h9) rfl d_S_raises_123 ?_
          refine lv_iload_n hx hb d_S_raises_126 rfl (lv_at hl 3 rfl) ?_
          refine lv_iload hx hb d_S_raises_127 (lv_at hl 5 rfl) ?_
          refine pr_iast (ws' := cw a cI cL cD cS nf ns da be ui ul cn ss mf sd (nw (nw pr k (pu (pr k) ((z + 4 : Nat) : Int) (x))) k (pu ((nw pr k (pu (pr k) ((z + 4 : Nat) : Int) (x))) k) (((z + 4 : Nat) : Int)) (hi)))) hx hb hK hP hD hS (37 + 2 * k) 0 (cw_sp k hk) rfl (by decide) (by omega) (by omega) (cw_upr _ hk) d_S_raises_129 (fun H locs hP hD hS => ?_)
          have e9 : nw (nw pr k (pu (pr k) ((z + 4 : Nat) : Int) (x))) k (pu ((nw pr k (pu (pr k) ((z + 4 : Nat) : Int) (x))) k) (((z + 4 : Nat) : Int)) (hi)) = nw pr k (pu (pr k) ((z + 4 : Nat) : Int) (hi)) := pn_npu _ _ _ _ _ _
          rw [e9] at hP hD
          clear e9
          refine lv_iconst (v := iI (1)) hx hb d_S_raises_130 rfl ?_
          exact W.zret (v := iI (1)) hx hb hr (by decide) (fun t ht hW => ⟨⟨iI (1), (pu (pr k) ((z + 4 : Nat) : Int) hi), rfl, Or.inr ⟨rfl, hi, rfl, by omega, by omega, by rw [show hi - 1 = lo by omega]; exact q5⟩, by rw [ht]; exact hP, hD⟩, hS.F ht⟩) hS.2.2 d_S_raises_131
        · skip
          have j1 := pn_J_rc q4 (by omega)
          have j2 := q4.1
          refine lv_iload hx hb d_S_raises_62 (lv_at hl 4 rfl) ?_
          refine lv_iload hx hb d_S_raises_64 (lv_at hl 6 rfl) ?_
          refine lv_iload hx hb d_S_raises_66 (lv_at hl 5 rfl) ?_
          refine lv_iload hx hb d_S_raises_68 (lv_at hl 4 rfl) ?_
          refine pr_isub hx hb d_S_raises_70 ?_
          refine lv_iconst (v := iI (2)) hx hb d_S_raises_71 rfl ?_
          refine pr_idiv hx hb (i3_of (by omega) (by omega)) (i3_of (by decide) (by decide)) (by omega) d_S_raises_72 ?_
          refine pr_ire (B := (hi - lo) / 2) (Int.tdiv_eq_ediv_of_nonneg (by omega)) ?_
          refine va_mmin hx hb (hml.trans hl.1.symm) hown (ht _ m_470) (ht _ m_457) (ht _ m_46) (ht _ m_458) (Nat.le_of_ble_eq_true rfl) (Nat.le_of_ble_eq_true rfl) (Nat.le_of_ble_eq_true rfl) (Nat.le_of_ble_eq_true rfl) d_S_raises_73 ?_
          refine pr_ixe (B := min (rc) ((hi - lo) / 2)) (iI_min (i3_of (by omega) (by omega)) (i3_of (by omega) (by omega))) ?_
          refine pr_iadd hx hb d_S_raises_76 ?_
          refine pr_ire (B := (lo + min rc ((hi - lo) / 2))) rfl ?_
          refine lv_istore (lv' := [(8, .int (iI ((lo + min rc ((hi - lo) / 2))))), (0, .ref (a 27)), (1, .ref (a (36 + 2 * k))), (2, .int (iI (((z : Nat) : Int)))), (3, .int (iI (((z + 4 : Nat) : Int)))), (4, .int (iI (lo))), (5, .int (iI (hi))), (6, .int (iI (rc))), (7, .int (iI (((i : Nat) : Int))))]) hx hb d_S_raises_77 hl (by decide) rfl (fun ls hl => ?_)
          refine lv_aload_n hx hb d_S_raises_79 rfl (lv_at hl 2 rfl) ?_
          refine va_get (D := D) (ci := 3) (v := .ref (a (37 + 2 * k))) (C := R_T) (T := T_T) (N := 4) hx hb hts (in_T _) hown hK hP (36 + 2 * k) (cw_so k hk) rfl 0 (by decide) (ht _ m_175) (fun _ h9 => h9) rfl d_S_raises_80 ?_
          refine lv_iload_n hx hb d_S_raises_83 rfl (lv_at hl 4 rfl) ?_
          refine lv_iload hx hb d_S_raises_84 (lv_at hl 0 rfl) ?_
          refine pr_iast (ws' := cw a cI cL cD cS nf ns da be ui ul cn ss mf sd (nw (nw pr k (pu (pr k) ((z + 4 : Nat) : Int) (x))) k (pu ((nw pr k (pu (pr k) ((z + 4 : Nat) : Int) (x))) k) (((z + 4 : Nat) : Int)) ((lo + min rc ((hi - lo) / 2)))))) hx hb hK hP hD hS (37 + 2 * k) 0 (cw_sp k hk) rfl (by decide) (by omega) (by omega) (cw_upr _ hk) d_S_raises_86 (fun H locs hP hD hS => ?_)
          have e9 : nw (nw pr k (pu (pr k) ((z + 4 : Nat) : Int) (x))) k (pu ((nw pr k (pu (pr k) ((z + 4 : Nat) : Int) (x))) k) (((z + 4 : Nat) : Int)) ((lo + min rc ((hi - lo) / 2)))) = nw pr k (pu (pr k) ((z + 4 : Nat) : Int) (lo + min rc ((hi - lo) / 2))) := pn_npu _ _ _ _ _ _
          rw [e9] at hP hD
          clear e9
          have hPr2 : pn_Pr ((nw pr k (pu (pr k) ((z + 4 : Nat) : Int) (lo + min rc ((hi - lo) / 2)))) k) := by rw [nw_s]; exact pn_Pr_pu hPr (by omega) (by omega)
          refine lv_aload_n hx hb d_S_raises_87 rfl (lv_at hl 1 rfl) ?_
          refine va_get (D := D) (ci := 2) (v := .ref (a 1)) (C := R_S) (T := T_S) (N := 2) hx hb hts (in_S _) hown hK hP 27 rfl rfl 0 (by decide) (ht _ m_133) (fun _ h9 => h9) rfl d_S_raises_88 ?_
          refine lv_iload_n hx hb d_S_raises_91 rfl (lv_at hl 3 rfl) ?_
          refine lv_aload_n hx hb d_S_raises_92 rfl (lv_at hl 2 rfl) ?_
          refine pr_pi (va_runV (As := [.int (iI (((z : Nat) : Int))), .ref (a (36 + 2 * k))]) (rest := []) ⟨hx, hb, hml, hown, hts⟩ (c_N_gainOf l k z hOk hk hPr2 hss (by omega)) (cwV 2 hts (pn_gV m_448 m_449 m_450 m_34 m_451) rfl rfl rfl (by decide +kernel) ⟨Nat.le_of_ble_eq_true rfl, Nat.le_of_ble_eq_true rfl⟩) (pn_preV (q0 := 1) (ci := 1) (q := (R_N, T_N, 17)) hP hE rfl rfl) rfl rfl hl.1 rfl (lv_room (Nat.le_of_ble_eq_true rfl)) d_S_raises_93 ⟨Nat.le_of_ble_eq_true rfl, Nat.le_of_ble_eq_true rfl⟩) ?_
          refine pr_ire (B := m_gain nf da (ss k) (pu (pr k) ((z + 4 : Nat) : Int) ((lo + min rc ((hi - lo) / 2)))) ((z + 4 : Nat) : Int)) (by rw [nw_s]) ?_
          have hgb := m_gain_b (z := z) (S := ss k) (P := pu (pr k) ((z + 4 : Nat) : Int) (lo + min rc ((hi - lo) / 2))) hOk (by rw [nw_s] at hPr2; exact hPr2) hz
          refine pr_if_le (tgt := 112) hx hb (i3_of (by omega) (by omega)) d_S_raises_96 (by decide) (fun c_3 => ?_) (fun c_3 => ?_)
          · skip
            refine lv_iload hx hb d_S_raises_112 (lv_at hl 0 rfl) ?_
            refine lv_istore (lv' := [(5, .int (iI ((lo + min rc ((hi - lo) / 2))))), (8, .int (iI ((lo + min rc ((hi - lo) / 2))))), (0, .ref (a 27)), (1, .ref (a (36 + 2 * k))), (2, .int (iI (((z : Nat) : Int)))), (3, .int (iI (((z + 4 : Nat) : Int)))), (4, .int (iI (lo))), (6, .int (iI (rc))), (7, .int (iI (((i : Nat) : Int))))]) hx hb d_S_raises_114 hl (by decide) rfl (fun ls hl => ?_)
            refine lv_iinc (v := iI (((i : Nat) : Int) + 1)) (lv' := [(7, .int (iI (((i : Nat) : Int) + 1))), (5, .int (iI ((lo + min rc ((hi - lo) / 2))))), (8, .int (iI ((lo + min rc ((hi - lo) / 2))))), (0, .ref (a 27)), (1, .ref (a (36 + 2 * k))), (2, .int (iI (((z : Nat) : Int)))), (3, .int (iI (((z + 4 : Nat) : Int)))), (4, .int (iI (lo))), (6, .int (iI (rc)))]) hx hb d_S_raises_116 hl (k := 8) rfl (iI_add _ _).symm (by decide) rfl (fun ls hl => ?_)
            refine lv_goto (tgt := 46) hx hb d_S_raises_119 (by decide) ?_
            exact ih (i + 1) ((lo + min rc ((hi - lo) / 2))) (lo) ((lo + min rc ((hi - lo) / 2))) (rc) _ _ ls (by omega) (by omega) (by omega) (by omega) (by rw [show lo + min rc ((hi - lo) / 2) - lo = min rc ((hi - lo) / 2) by omega]; exact pn_J_high q4 (by omega)) q5 (by omega) hP hD hS (lv_sub hl [3, 4, 5, 6, 7, 1, 8, 0] rfl)
          · skip
            refine lv_iload hx hb d_S_raises_99 (lv_at hl 0 rfl) ?_
            refine lv_istore (lv' := [(4, .int (iI ((lo + min rc ((hi - lo) / 2))))), (8, .int (iI ((lo + min rc ((hi - lo) / 2))))), (0, .ref (a 27)), (1, .ref (a (36 + 2 * k))), (2, .int (iI (((z : Nat) : Int)))), (3, .int (iI (((z + 4 : Nat) : Int)))), (5, .int (iI (hi))), (6, .int (iI (rc))), (7, .int (iI (((i : Nat) : Int))))]) hx hb d_S_raises_101 hl (by decide) rfl (fun ls hl => ?_)
            refine lv_iload hx hb d_S_raises_103 (lv_at hl 7 rfl) ?_
            refine lv_iconst (v := iI (2)) hx hb d_S_raises_105 rfl ?_
            refine pr_imul hx hb d_S_raises_106 ?_
            refine lv_istore (lv' := [(6, .int (iI (rc * 2))), (4, .int (iI ((lo + min rc ((hi - lo) / 2))))), (8, .int (iI ((lo + min rc ((hi - lo) / 2))))), (0, .ref (a 27)), (1, .ref (a (36 + 2 * k))), (2, .int (iI (((z : Nat) : Int)))), (3, .int (iI (((z + 4 : Nat) : Int)))), (5, .int (iI (hi))), (7, .int (iI (((i : Nat) : Int))))]) hx hb d_S_raises_107 hl (by decide) rfl (fun ls hl => ?_)
            refine lv_goto (tgt := 116) hx hb d_S_raises_109 (by decide) ?_
            refine lv_iinc (v := iI (((i : Nat) : Int) + 1)) (lv' := [(7, .int (iI (((i : Nat) : Int) + 1))), (6, .int (iI (rc * 2))), (4, .int (iI ((lo + min rc ((hi - lo) / 2))))), (8, .int (iI ((lo + min rc ((hi - lo) / 2))))), (0, .ref (a 27)), (1, .ref (a (36 + 2 * k))), (2, .int (iI (((z : Nat) : Int)))), (3, .int (iI (((z + 4 : Nat) : Int)))), (5, .int (iI (hi)))]) hx hb d_S_raises_116 hl (k := 8) rfl (iI_add _ _).symm (by decide) rfl (fun ls hl => ?_)
            refine lv_goto (tgt := 46) hx hb d_S_raises_119 (by decide) ?_
            exact ih (i + 1) ((lo + min rc ((hi - lo) / 2))) ((lo + min rc ((hi - lo) / 2))) (hi) (rc * 2) _ _ ls (by omega) (by omega) (by omega) (by omega) (by rw [show hi - (lo + min rc ((hi - lo) / 2)) = hi - lo - min rc ((hi - lo) / 2) by omega]; exact pn_J_low q4 (by omega)) (by assumption) (by omega) hP hD hS (lv_sub hl [4, 5, 6, 7, 2, 8, 1, 0] rfl)
  refine lv_iload_n hx hb d_S_raises_0 rfl (lv_at hl 2 rfl) ?_
  refine pr_pi (va_runSN (As := [.int (iI (((z : Nat) : Int)))]) (rest := []) ⟨hx, hb, hml, hown, hts⟩ (c_P_rowOf l (((z : Nat) : Int))) ⟨va_cnB 1 hts (pn_g m_326) rfl rfl rfl (hE.2 _ (List.mem_of_getElem? (i := 4) rfl)) (ht _ m_33) (by decide +kernel) ⟨Nat.le_of_ble_eq_true rfl, Nat.le_of_ble_eq_true rfl⟩, ht _ m_325, trivial⟩ pn_pre0 rfl rfl hl.1 rfl (lv_room (Nat.le_of_ble_eq_true rfl)) d_S_raises_1 ⟨Nat.le_of_ble_eq_true rfl, Nat.le_of_ble_eq_true rfl⟩) ?_
  refine pr_ire (B := ((z + 4 : Nat) : Int)) (by omega) ?_
  refine lv_istore_n (lv' := [(3, .int (iI (((z + 4 : Nat) : Int)))), (0, .ref (a 27)), (1, .ref (a (36 + 2 * k))), (2, .int (iI (((z : Nat) : Int))))]) hx hb d_S_raises_4 rfl hl (by decide) rfl (fun ls hl => ?_)
  refine lv_aload_n hx hb d_S_raises_5 rfl (lv_at hl 2 rfl) ?_
  refine va_get (D := D) (ci := 3) (v := .ref (a (37 + 2 * k))) (C := R_T) (T := T_T) (N := 4) hx hb hts (in_T _) hown hK hP (36 + 2 * k) (cw_so k hk) rfl 0 (by decide) (ht _ m_175) (fun _ h9 => h9) rfl d_S_raises_6 ?_
  refine lv_iload_n hx hb d_S_raises_9 rfl (lv_at hl 0 rfl) ?_
  refine pr_iald hx hb hK hP (37 + 2 * k) 0 (cw_sp k hk) rfl (by decide) (by omega) (by omega) d_S_raises_10 ?_
  refine pr_ire (B := pr k ((z + 4 : Nat) : Int)) rfl ?_
  refine lv_istore (lv' := [(4, .int (iI (pr k ((z + 4 : Nat) : Int)))), (3, .int (iI (((z + 4 : Nat) : Int)))), (0, .ref (a 27)), (1, .ref (a (36 + 2 * k))), (2, .int (iI (((z : Nat) : Int))))]) hx hb d_S_raises_11 hl (by decide) rfl (fun ls hl => ?_)
  refine lv_iload hx hb d_S_raises_13 (lv_at hl 0 rfl) ?_
  refine lv_sipush (v := iI (5000)) hx hb d_S_raises_15 (by decide) ?_
  refine pr_icmp_gt (tgt := 33) hx hb (i3_of (by omega) (by omega)) (i3_of (by decide) (by decide)) d_S_raises_18 (by decide) (fun c_4 => ?_) (fun c_4 => ?_)
  · skip
    refine lv_iconst (v := iI (0)) hx hb d_S_raises_33 rfl ?_
    have hP : va_P D pn_cl (cw a cI cL cD cS nf ns da be ui ul cn ss mf sd (nw pr k (pr k))) s.heap := by rw [nw_self]; exact hP
    have hD : va_D A (cw a cI cL cD cS nf ns da be ui ul cn ss mf sd (nw pr k (pr k))) := by rw [nw_self]; exact hD
    exact W.zret (v := iI (0)) hx hb hr (by decide) (fun t ht hW => ⟨⟨iI (0), pr k, rfl, Or.inl ⟨rfl, rfl, by omega⟩, by rw [ht]; exact hP, hD⟩, hS.F ht⟩) hS.2.2 d_S_raises_34
  · skip
    refine lv_aload_n hx hb d_S_raises_21 rfl (lv_at hl 2 rfl) ?_
    refine va_get (D := D) (ci := 2) (v := .ref (a 1)) (C := R_S) (T := T_S) (N := 2) hx hb hts (in_S _) hown hK hP 27 rfl rfl 0 (by decide) (ht _ m_133) (fun _ h9 => h9) rfl d_S_raises_22 ?_
    refine lv_iload_n hx hb d_S_raises_25 rfl (lv_at hl 4 rfl) ?_
    refine lv_aload_n hx hb d_S_raises_26 rfl (lv_at hl 3 rfl) ?_
    refine pr_pi (va_runV (As := [.int (iI (((z : Nat) : Int))), .ref (a (36 + 2 * k))]) (rest := []) ⟨hx, hb, hml, hown, hts⟩ (c_N_gainOf l k z hOk hk hPr hss (by omega)) (cwV 2 hts (pn_gV m_448 m_449 m_450 m_34 m_451) rfl rfl rfl (by decide +kernel) ⟨Nat.le_of_ble_eq_true rfl, Nat.le_of_ble_eq_true rfl⟩) (pn_preV (q0 := 1) (ci := 1) (q := (R_N, T_N, 17)) hP hE rfl rfl) rfl rfl hl.1 rfl (lv_room (Nat.le_of_ble_eq_true rfl)) d_S_raises_27 ⟨Nat.le_of_ble_eq_true rfl, Nat.le_of_ble_eq_true rfl⟩) ?_
    have hgb := m_gain_b (z := z) (S := ss k) hOk hPr hz
    refine pr_ire (B := m_gain nf da (ss k) (pr k) ((z + 4 : Nat) : Int)) rfl ?_
    refine pr_if_gt (tgt := 35) hx hb (i3_of (by omega) (by omega)) d_S_raises_30 (by decide) (fun c_5 => ?_) (fun c_5 => ?_)
    · skip
      refine lv_sipush (v := iI (5001)) hx hb d_S_raises_35 (by decide) ?_
      refine lv_istore (lv' := [(5, .int (iI (5001))), (4, .int (iI (pr k ((z + 4 : Nat) : Int)))), (3, .int (iI (((z + 4 : Nat) : Int)))), (0, .ref (a 27)), (1, .ref (a (36 + 2 * k))), (2, .int (iI (((z : Nat) : Int))))]) hx hb d_S_raises_38 hl (by decide) rfl (fun ls hl => ?_)
      refine lv_iconst (v := iI (1)) hx hb d_S_raises_40 rfl ?_
      refine lv_istore (lv' := [(6, .int (iI (1))), (5, .int (iI (5001))), (4, .int (iI (pr k ((z + 4 : Nat) : Int)))), (3, .int (iI (((z + 4 : Nat) : Int)))), (0, .ref (a 27)), (1, .ref (a (36 + 2 * k))), (2, .int (iI (((z : Nat) : Int))))]) hx hb d_S_raises_41 hl (by decide) rfl (fun ls hl => ?_)
      refine lv_iconst (v := iI (0)) hx hb d_S_raises_43 rfl ?_
      refine lv_istore (lv' := [(7, .int (iI (0))), (6, .int (iI (1))), (5, .int (iI (5001))), (4, .int (iI (pr k ((z + 4 : Nat) : Int)))), (3, .int (iI (((z + 4 : Nat) : Int)))), (0, .ref (a 27)), (1, .ref (a (36 + 2 * k))), (2, .int (iI (((z : Nat) : Int))))]) hx hb d_S_raises_44 hl (by decide) rfl (fun ls hl => ?_)
      have hP : va_P D pn_cl (cw a cI cL cD cS nf ns da be ui ul cn ss mf sd (nw pr k (pu (pr k) ((z + 4 : Nat) : Int) (pr k ((z + 4 : Nat) : Int))))) s.heap := by rw [pu_self, nw_self]; exact hP
      have hD : va_D A (cw a cI cL cD cS nf ns da be ui ul cn ss mf sd (nw pr k (pu (pr k) ((z + 4 : Nat) : Int) (pr k ((z + 4 : Nat) : Int))))) := by rw [pu_self, nw_self]; exact hD
      exact loop _ (0) (pr k ((z + 4 : Nat) : Int)) (pr k ((z + 4 : Nat) : Int)) (5001) (1) _ _ ls (by omega) (by omega) (by omega) (by omega) (pn_J_0 (by omega) (by omega)) (by rw [pu_self]; omega) (Nat.lt_succ_self _) hP hD hS (lv_sub hl [5, 6, 7, 4, 3, 2, 1, 0] rfl)
    · skip
      refine lv_iconst (v := iI (0)) hx hb d_S_raises_33 rfl ?_
      have hP : va_P D pn_cl (cw a cI cL cD cS nf ns da be ui ul cn ss mf sd (nw pr k (pr k))) s.heap := by rw [nw_self]; exact hP
      have hD : va_D A (cw a cI cL cD cS nf ns da be ui ul cn ss mf sd (nw pr k (pr k))) := by rw [nw_self]; exact hD
      exact W.zret (v := iI (0)) hx hb hr (by decide) (fun t ht hW => ⟨⟨iI (0), pr k, rfl, Or.inl ⟨rfl, rfl, by omega⟩, by rw [ht]; exact hP, hD⟩, hS.F ht⟩) hS.2.2 d_S_raises_34
end
section
/-! bouts -/
def m_past (P : Int → Int) : Prop := 5000 < P 4 ∨ 5000 < P 5 ∨ 5000 < P 6 ∨ 5000 < P 7 ∨ 5000 < P 8 ∨ 5000 < P 9 ∨ 5000 < P 10 ∨ 5000 < P 11
theorem m_past_dec (P : Int → Int) : Nonempty (Decidable (m_past P)) := ⟨Classical.propDecidable _⟩
noncomputable def m_pb (P : Int → Int) : Int := @b2 (m_past P) (Classical.propDecidable _)
theorem m_pb_t {P : Int → Int} (h : m_past P) : m_pb P = 1 := by unfold m_pb b2; exact if_pos h
theorem m_pb_f {P : Int → Int} (h : ¬ m_past P) : m_pb P = 0 := by unfold m_pb b2; exact if_neg h
theorem m_pb_01 (P : Int → Int) : m_pb P = 0 ∨ m_pb P = 1 := by
  by_cases h : m_past P
  · exact Or.inr (m_pb_t h)
  · exact Or.inl (m_pb_f h)
theorem m_pb_0 {P : Int → Int} (h : m_pb P = 0) : ¬ m_past P := fun q => by rw [m_pb_t q] at h; cases h
theorem m_pb_1 {P : Int → Int} (h : m_pb P ≠ 0) : m_past P := Classical.byContradiction fun q => h (m_pb_f q)
theorem m_past_of {P : Int → Int} {t : Int} (h1 : 4 ≤ t) (h2 : t < 12) (h : 5000 < P t) : m_past P := by
  unfold m_past
  have h3 : t = 4 ∨ t = 5 ∨ t = 6 ∨ t = 7 ∨ t = 8 ∨ t = 9 ∨ t = 10 ∨ t = 11 := by omega
  rcases h3 with rfl | rfl | rfl | rfl | rfl | rfl | rfl | rfl <;> omega
theorem m_past_no {P : Int → Int} (h : ∀ j : Int, 4 ≤ j → j < 12 → P j ≤ 5000) : ¬ m_past P := by
  unfold m_past
  have h4 := h 4 (by omega) (by omega)
  have h5 := h 5 (by omega) (by omega)
  have h6 := h 6 (by omega) (by omega)
  have h7 := h 7 (by omega) (by omega)
  have h8 := h 8 (by omega) (by omega)
  have h9 := h 9 (by omega) (by omega)
  have h10 := h 10 (by omega) (by omega)
  have h11 := h 11 (by omega) (by omega)
  omega
theorem m_past_le {P : Int → Int} (h : ¬ m_past P) {j : Int} (h1 : 4 ≤ j) (h2 : j < 12) : P j ≤ 5000 := by
  rcases Int.lt_or_le 5000 (P j) with q | q
  · exact absurd (m_past_of h1 h2 q) h
  · exact q
abbrev m_G (nf : Nat → Int → Int) (da : Int → Int → Int) (S : Nat) : (Int → Int) → Int → Int := fun P r => m_gain nf da S P r
abbrev rw4 (z : Nat) : Int := ((z + 4 : Nat) : Int)
def pn_in (am : Nat) (w : Int) : Prop := ∃ z : Nat, z < 8 ∧ w = rw4 z ∧ am.testBit z = true
def pn_Bo (n : Int) (G : (Int → Int) → Int → Int) (am ro : Nat) (P P' : Int → Int) : Prop :=
  pn_Re n G (pn_in am) P P' ∧ (∀ z : Nat, z < 8 → (ro.testBit z = true ↔ P (rw4 z) < P' (rw4 z))) ∧ (∀ j : Int, P' j ≤ P j ∨ P' j ≤ 5001) ∧ ro < 256
theorem pn_Bo_0 {n : Int} {G : (Int → Int) → Int → Int} {am : Nat} {P : Int → Int} : pn_Bo n G am 0 P P := ⟨pn_Re.rf, fun z _ => by simp, fun j => Or.inl (Int.le_refl _), by decide⟩
theorem pn_or_lt {ro z : Nat} (h : ro < 256) (hz : z < 8) : ro ||| 2 ^ z < 256 := by
  have h1 : 2 ^ z < 2 ^ 8 := Nat.pow_lt_pow_right (by omega) hz
  exact Nat.or_lt_two_pow (n := 8) h h1
theorem pn_Bo_step {n : Int} {G : (Int → Int) → Int → Int} {am ro z : Nat} {P Q : Int → Int} {v : Int} (h : pn_Bo n G am ro P Q) (hb : am.testBit z = true) (hz : z < 8) (hn : (z : Int) < n) (h1 : Q (rw4 z) < v) (h2 : v ≤ 5001) (h3 : 0 < G (pu Q (rw4 z) (v - 1)) (rw4 z)) : pn_Bo n G am (ro ||| 2 ^ z) P (pu Q (rw4 z) v) := by
  obtain ⟨a1, a2, a3, a4⟩ := h
  refine ⟨a1.step (z := rw4 z) (v := v) ⟨by show 4 ≤ ((z + 4 : Nat) : Int); omega, by show ((z + 4 : Nat) : Int) < 4 + n; omega⟩ ⟨z, hz, rfl, hb⟩ h1 h3, fun y hy => ?_, fun j => ?_, pn_or_lt a4 hz⟩
  · rw [Nat.testBit_or, Nat.testBit_two_pow]
    by_cases e : z = y
    · subst e
      rw [pu_s]
      have h5 := a1.ge (rw4 z)
      exact ⟨fun _ => Int.lt_of_le_of_lt h5 h1, fun _ => by simp⟩
    · have e2 : rw4 y ≠ rw4 z := by show ((y + 4 : Nat) : Int) ≠ ((z + 4 : Nat) : Int); omega
      rw [pu_n _ _ e2]
      rw [decide_eq_false e, Bool.or_false]
      exact a2 y hy
  · by_cases e : j = rw4 z
    · subst e; rw [pu_s]; exact Or.inr h2
    · rw [pu_n _ _ e]; exact a3 j
theorem pn_Bo_pr {n : Int} {G : (Int → Int) → Int → Int} {am ro : Nat} {P Q : Int → Int} (h : pn_Bo n G am ro P Q) (hp : pn_Pr P) : pn_Pr Q := by
  intro j a b
  have h1 := hp j a b
  have h2 := h.1.ge j
  have h3 := h.2.2.1 j
  omega
/-- none of the zones of am (below lim) would rise -/
def pn_no (n : Int) (G : (Int → Int) → Int → Int) (am : Nat) (lim : Nat) (P : Int → Int) : Prop := ∀ z : Nat, z < lim → z < 8 → (z : Int) < n → am.testBit z = true → 5000 < P (rw4 z) ∨ G P (rw4 z) ≤ 0
theorem pn_no_0 {n : Int} {G : (Int → Int) → Int → Int} {am : Nat} {P : Int → Int} : pn_no n G am 0 P := fun z h => absurd h (Nat.not_lt_zero _)
theorem pn_no_s {n : Int} {G : (Int → Int) → Int → Int} {am z : Nat} {P : Int → Int} (h : pn_no n G am z P) (h2 : am.testBit z = true → 5000 < P (rw4 z) ∨ G P (rw4 z) ≤ 0) : pn_no n G am (z + 1) P := by
  intro y hy h8 hn hb
  rcases Nat.lt_or_ge y z with q | q
  · exact h y q h8 hn hb
  · have : y = z := by omega
    subst this
    exact h2 hb
theorem iI_sh1 {ro z : Nat} (hz : z < 8) : iI ((ro : Nat) : Int) ||| (iI 1 <<< (iI ((z : Nat) : Int) &&& 31)) = iI ((ro ||| 2 ^ z : Nat) : Int) := by
  rw [nb_sh (by omega), iI_or]
theorem pn_or_ne {ro z : Nat} : ro ||| 2 ^ z ≠ 0 := by
  intro h
  have : (ro ||| 2 ^ z).testBit z = true := by rw [Nat.testBit_or, Nat.testBit_two_pow]; simp
  rw [h] at this
  simp at this
theorem pn_tb0 {am : Nat} (h : ∀ z : Nat, z < 8 → am.testBit z = false) (h2 : am < 256) : am = 0 := by
  apply Nat.eq_of_testBit_eq
  intro i
  rw [Nat.zero_testBit]
  rcases Nat.lt_or_ge i 8 with q | q
  · exact h i q
  · exact Nat.testBit_lt_two_pow (Nat.lt_of_lt_of_le h2 (Nat.le_trans (by decide : 256 ≤ 2 ^ 8) (Nat.pow_le_pow_right (by decide) q)))
theorem pn_q8 {n : Int} {G : (Int → Int) → Int → Int} {am ro sw : Nat} {go : Int} {P Q : Int → Int} (hex : (4 : Int) ≤ (sw : Int) ∨ go = 0 ∨ (ro : Int) = (am : Int)) (q3 : go = 0 ∨ go = 1) (q4 : go = 0 → pn_no n G am 8 Q) (q5 : go = 1 → sw = 0 ∨ ro ≠ 0) (q6 : ro = 0 → Q = P) : ro = 0 → pn_no n G am 8 P ∧ Q = P := by
  intro h0
  have e8 := q6 h0
  refine ⟨?_, e8⟩
  rcases q3 with g | g
  · rw [← e8]; exact q4 g
  · intro z hz h8 hn hb
    rcases q5 g with y | y
    · exfalso
      have e7 : am = 0 := by omega
      rw [e7] at hb
      simp at hb
    · exact absurd h0 y
end
section
abbrev w_S_isPastHighest : List Cond := .code y_S_isPastHighest b_S_isPastHighest 3 (some .boolean) :: pn_W
set_option maxHeartbeats 4000000 in
set_option maxRecDepth 100000 in
theorem c_S_isPastHighest (l : Launch) {D : va_G} {a : Nat → Nat} {cI cL cD cS : ClassId} {nf : Nat → Int → Int} {ns : Nat → Int} {da : Int → Int → Int} {be : Int → Int} {ui ul : Nat → Int → Int} {cn : Int} {ss : Nat → Nat} {mf sd : Nat → Int} {pr : Nat → Int → Int} (k : Nat) (hk : k < 9) (hPr : pn_Pr (pr k)) : Met l y_S_isPastHighest w_S_isPastHighest ({ frames := 0, cells := 0, slots := 0, locals := 0 }) (va_Pc [.ref (a 27), .ref (a (36 + 2 * k))] (fun U => va_P D pn_cl (cw a cI cL cD cS nf ns da be ui ul cn ss mf sd pr) U.heap ∧ pn_E D cI cL cD cS U)) (vp_Si (fun r => r = iI (m_pb (pr k)))) 0 0 (fun _ => False) := by
  refine Met.ofW (cc := b_S_isPastHighest) (maxL := 3) (ret := (some .boolean)) (by decide) rfl ?_
  intro p e s m args below meth c s₁ B hml hv
  obtain ⟨rfl, hP, hE⟩ := hv
  have hx := B.exec
  have hb := B.bytes
  have hr := B.returns
  have hts := atoms_spec (ws := w_S_isPastHighest) B.pre
  have ht : ∀ w ∈ pn_W, w.before _ s = true := fun w h => hts w (List.mem_cons_of_mem _ h)
  have hown : s.vm.findClass R_S = some m.cls := findClass_of_methodNamed B.named
  have hlocks := B.notSynchronized
  have hK := hE.1
  have hl := lv_entry ([.ref (a 27), .ref (a (36 + 2 * k))]) (n := 3) (Nat.le_of_ble_eq_true rfl)
  rw [lg_entry_eq]
  generalize (lg_sl ([.ref (a 27), .ref (a (36 + 2 * k))]) ++ List.replicate (3 - (lg_sl ([.ref (a 27), .ref (a (36 + 2 * k))])).length) Slot.unset).toArray = ls at hl ⊢
  have hl : lv_has ls 3 [(0, .ref (a 27)), (1, .ref (a (36 + 2 * k)))] := hl
  have loop : ∀ (n : Nat) (t : Int) (ls : Array Slot), (4 ≤ t) → (t ≤ 12) → (∀ j : Int, 4 ≤ j → j < t → pr k j ≤ 5000) → ((12 - t).toNat) < n → lv_has ls 3 [(1, .ref (a (36 + 2 * k))), (2, .int (iI (t)))] → W p l e (headSpec w_S_isPastHighest ({ frames := 0, cells := 0, slots := 0, locals := 0 })).room s m ([.ref (a 27), .ref (a (36 + 2 * k))] : List Value).toArray below meth c s.heap [] 0 0 (MQ below (vp_Si (fun r => r = iI (m_pb (pr k)))) ([.ref (a 27), .ref (a (36 + 2 * k))] : List Value).toArray s 0 0 (fun _ => False)) (F0 m 2 ls []) := by
    intro n
    induction n with
    | zero => intro t ls _ _ _ hm; exact absurd hm (Nat.not_lt_zero _)
    | succ n ih =>
      intro t ls q1 q2 q3 hm hl
      refine lv_iload_n hx hb d_S_isPastHighest_2 rfl (lv_at hl 1 rfl) ?_
      refine lv_bipush (v := iI (12)) hx hb d_S_isPastHighest_3 (by decide) ?_
      refine pr_icmp_ge (tgt := 28) hx hb (i3_of (by omega) (by omega)) (i3_of (by decide) (by decide)) d_S_isPastHighest_5 (by decide) (fun c_1 => ?_) (fun c_1 => ?_)
      · skip
        refine lv_iconst (v := iI (0)) hx hb d_S_isPastHighest_28 rfl ?_
        exact pr_rz hx hb hr hlocks d_S_isPastHighest_29 (by first | exact Or.inl rfl | exact Or.inr rfl | exact b2_01 _) (m_pb_f (m_past_no (fun j a b => q3 j a (by omega)))).symm
      · skip
        have a1 := hPr t (by omega) (by omega)
        refine lv_aload_n hx hb d_S_isPastHighest_8 rfl (lv_at hl 0 rfl) ?_
        refine va_get (D := D) (ci := 3) (v := .ref (a (37 + 2 * k))) (C := R_T) (T := T_T) (N := 4) hx hb hts (in_T _) hown hK hP (36 + 2 * k) (cw_so k hk) rfl 0 (by decide) (ht _ m_175) (fun _ h9 => h9) rfl d_S_isPastHighest_9 ?_
        refine lv_iload_n hx hb d_S_isPastHighest_12 rfl (lv_at hl 1 rfl) ?_
        refine pr_iald hx hb hK hP (37 + 2 * k) 0 (cw_sp k hk) rfl (by decide) (by omega) (by omega) d_S_isPastHighest_13 ?_
        refine lv_sipush (v := iI (5000)) hx hb d_S_isPastHighest_14 (by decide) ?_
        refine pr_icmp_le (tgt := 22) hx hb (i3_of (by omega) (by omega)) (i3_of (by decide) (by decide)) d_S_isPastHighest_17 (by decide) (fun c_2 => ?_) (fun c_2 => ?_)
        · skip
          refine lv_iinc (v := iI (t + 1)) (lv' := [(2, .int (iI (t + 1))), (1, .ref (a (36 + 2 * k)))]) hx hb d_S_isPastHighest_22 hl (k := 1) rfl (iI_add _ _).symm (by decide) rfl (fun ls hl => ?_)
          refine lv_goto (tgt := 2) hx hb d_S_isPastHighest_25 (by decide) ?_
          exact ih (t + 1) ls (by omega) (by omega) (fun j a b => by rcases (by omega : j < t ∨ j = t) with z | z; exact q3 j a z; rw [z]; omega) (by omega) (lv_sub hl [1, 0] rfl)
        · skip
          refine lv_iconst (v := iI (1)) hx hb d_S_isPastHighest_20 rfl ?_
          exact pr_rz hx hb hr hlocks d_S_isPastHighest_21 (by first | exact Or.inl rfl | exact Or.inr rfl | exact b2_01 _) (m_pb_t (m_past_of q1 (by omega) (by omega))).symm
  refine lv_iconst (v := iI (4)) hx hb d_S_isPastHighest_0 rfl ?_
  refine lv_istore_n (lv' := [(2, .int (iI (4))), (0, .ref (a 27)), (1, .ref (a (36 + 2 * k)))]) hx hb d_S_isPastHighest_1 rfl hl (by decide) rfl (fun ls hl => ?_)
  exact loop _ (4) ls (by omega) (by omega) (fun j a b => by omega) (Nat.lt_succ_self _) (lv_sub hl [2, 0] rfl)
abbrev w_S_doBout : List Cond := .code y_S_doBout b_S_doBout 7 (some .int) :: pn_W
set_option maxHeartbeats 4000000 in
set_option maxRecDepth 100000 in
theorem c_S_doBout (l : Launch) {D : va_G} {a : Nat → Nat} {cI cL cD cS : ClassId} {nf : Nat → Int → Int} {ns : Nat → Int} {da : Int → Int → Int} {be : Int → Int} {ui ul : Nat → Int → Int} {cn : Int} {ss : Nat → Nat} {mf sd : Nat → Int} {pr : Nat → Int → Int} (sz : Nat) (k am : Nat) (hOk : pn_Ok nf ns da) (hk : k < 9) (hPr : pn_Pr (pr k)) (hss : ss k < 2 ^ 20) (ham : am < 256) : Met l y_S_doBout w_S_doBout ({ frames := 4, cells := 0, slots := 0, locals := 113 }) (va_Pc [.ref (a 27), .ref (a (36 + 2 * k)), .int (iI (((am : Nat) : Int)))] (fun U => U.heap.size = sz ∧ va_P D pn_cl (cw a cI cL cD cS nf ns da be ui ul cn ss mf sd pr) U.heap ∧ va_D (fun _ => True) (cw a cI cL cD cS nf ns da be ui ul cn ss mf sd pr) ∧ pn_E D cI cL cD cS U)) (va_Qi (fun (r : Int32) (u : Nat × (Int → Int)) => r = iI ((u.1 : Nat) : Int) ∧ pn_Bo (ns 0) (m_G nf da (ss k)) am u.1 (pr k) u.2 ∧ (u.1 = 0 → pn_no (ns 0) (m_G nf da (ss k)) am 8 (pr k) ∧ u.2 = pr k)) (fun u t => va_P D pn_cl ((fun u : Nat × (Int → Int) => cw a cI cL cD cS nf ns da be ui ul cn ss mf sd (nw pr k u.2)) u) t.heap ∧ va_D (va_A (cw a cI cL cD cS nf ns da be ui ul cn ss mf sd pr) sz) ((fun u : Nat × (Int → Int) => cw a cI cL cD cS nf ns da be ui ul cn ss mf sd (nw pr k u.2)) u)) (va_A (cw a cI cL cD cS nf ns da be ui ul cn ss mf sd pr) sz)) 0 0 (va_A (cw a cI cL cD cS nf ns da be ui ul cn ss mf sd pr) sz) := by
  refine Met.ofW (cc := b_S_doBout) (maxL := 7) (ret := (some .int)) (by decide) rfl ?_
  intro p e s m args below meth c s₁ B hml hv
  obtain ⟨rfl, hsz, hP, hD0, hE⟩ := hv
  have hx := B.exec
  have hb := B.bytes
  have hr := B.returns
  have hts := atoms_spec (ws := w_S_doBout) B.pre
  have ht : ∀ w ∈ pn_W, w.before _ s = true := fun w h => hts w (List.mem_cons_of_mem _ h)
  have hown : s.vm.findClass R_S = some m.cls := findClass_of_methodNamed B.named
  have hlocks := B.notSynchronized
  have hK := hE.1
  subst hsz
  have hD := hD0.self (sz := s.heap.size)
  generalize hAe : va_A (cw a cI cL cD cS nf ns da be ui ul cn ss mf sd pr) s.heap.size = A at hD ⊢
  have hA : ∀ q : Nat, s.heap.size ≤ q → A q := fun q h => by rw [← hAe]; exact Or.inr h
  have hS : va_S A s.heap s.heap [] := va_S.rf
  have hl := lv_entry ([.ref (a 27), .ref (a (36 + 2 * k)), .int (iI (((am : Nat) : Int)))]) (n := 7) (Nat.le_of_ble_eq_true rfl)
  rw [lg_entry_eq]
  generalize (lg_sl ([.ref (a 27), .ref (a (36 + 2 * k)), .int (iI (((am : Nat) : Int)))]) ++ List.replicate (7 - (lg_sl ([.ref (a 27), .ref (a (36 + 2 * k)), .int (iI (((am : Nat) : Int)))])).length) Slot.unset).toArray = ls at hl ⊢
  have hl : lv_has ls 7 [(0, .ref (a 27)), (1, .ref (a (36 + 2 * k))), (2, .int (iI (((am : Nat) : Int))))] := hl
  obtain ⟨o_zc, o_lc, o_fc, o_ve, o_wi, o_wa, o_vo, o_fr, o_to, o_he, o_ar, o_ki, o_st, o_ff, o_sl, o_dc, o_da⟩ := id hOk
  have outer : ∀ (n : Nat) (sw : Nat) (ro : Nat) (go : Int) (Q : Int → Int) (H : Heap) (locs : List Loc) (ls : Array Slot), (sw ≤ 4) → (pn_Bo (ns 0) (m_G nf da (ss k)) am ro (pr k) Q) → (go = 0 ∨ go = 1) → (go = 0 → pn_no (ns 0) (m_G nf da (ss k)) am 8 Q) → (go = 1 → sw = 0 ∨ ro ≠ 0) → (ro = 0 → Q = pr k) → (4 - sw) < n → va_P D pn_cl (cw a cI cL cD cS nf ns da be ui ul cn ss mf sd (nw pr k Q)) H → va_D A (cw a cI cL cD cS nf ns da be ui ul cn ss mf sd (nw pr k Q)) → va_S A s.heap H locs → lv_has ls 7 [(0, .ref (a 27)), (1, .ref (a (36 + 2 * k))), (2, .int (iI (((am : Nat) : Int)))), (3, .int (iI (((ro : Nat) : Int)))), (4, .int (iI (go))), (5, .int (iI (((sw : Nat) : Int))))] → W p l e (headSpec w_S_doBout ({ frames := 4, cells := 0, slots := 0, locals := 113 })).room s m ([.ref (a 27), .ref (a (36 + 2 * k)), .int (iI (((am : Nat) : Int)))] : List Value).toArray below meth c H locs 0 0 (MQ below (va_Qi (fun (r : Int32) (u : Nat × (Int → Int)) => r = iI ((u.1 : Nat) : Int) ∧ pn_Bo (ns 0) (m_G nf da (ss k)) am u.1 (pr k) u.2 ∧ (u.1 = 0 → pn_no (ns 0) (m_G nf da (ss k)) am 8 (pr k) ∧ u.2 = pr k)) (fun u t => va_P D pn_cl ((fun u : Nat × (Int → Int) => cw a cI cL cD cS nf ns da be ui ul cn ss mf sd (nw pr k u.2)) u) t.heap ∧ va_D A ((fun u : Nat × (Int → Int) => cw a cI cL cD cS nf ns da be ui ul cn ss mf sd (nw pr k u.2)) u)) A) ([.ref (a 27), .ref (a (36 + 2 * k)), .int (iI (((am : Nat) : Int)))] : List Value).toArray s 0 0 A) (F0 m 8 ls []) := by
    intro n
    induction n with
    | zero => intro sw ro go Q H locs ls _ _ _ _ _ _ hm; exact absurd hm (Nat.not_lt_zero _)
    | succ n ih =>
      intro sw ro go Q H locs ls q1 q2 q3 q4 q5 q6 hm hP hD hS hl
      have b1 := q2.2.2.2
      refine lv_iload hx hb d_S_doBout_8 (lv_at hl 5 rfl) ?_
      refine lv_iconst (v := iI (4)) hx hb d_S_doBout_10 rfl ?_
      refine pr_icmp_ge (tgt := 83) hx hb (i3_of (by omega) (by omega)) (i3_of (by decide) (by decide)) d_S_doBout_11 (by decide) (fun c_1 => ?_) (fun c_1 => ?_)
      · skip
        have q8 := pn_q8 (sw := sw) (am := am) (by omega) q3 q4 q5 q6
        refine lv_iload_n hx hb d_S_doBout_83 rfl (lv_at hl 3 rfl) ?_
        exact W.iret (v := iI (((ro : Nat) : Int))) hx hb hr (fun t ht hW => ⟨⟨iI (((ro : Nat) : Int)), (ro, Q), rfl, ⟨rfl, q2, q8⟩, by rw [ht]; exact hP, hD⟩, hS.F ht⟩) hS.2.2 d_S_doBout_84
      · skip
        refine lv_iload hx hb d_S_doBout_14 (lv_at hl 4 rfl) ?_
        refine pr_if_eq (tgt := 83) hx hb (i3_of (by omega) (by omega)) d_S_doBout_16 (by decide) (fun c_2 => ?_) (fun c_2 => ?_)
        · skip
          have q8 := pn_q8 (sw := sw) (am := am) (by omega) q3 q4 q5 q6
          refine lv_iload_n hx hb d_S_doBout_83 rfl (lv_at hl 3 rfl) ?_
          exact W.iret (v := iI (((ro : Nat) : Int))) hx hb hr (fun t ht hW => ⟨⟨iI (((ro : Nat) : Int)), (ro, Q), rfl, ⟨rfl, q2, q8⟩, by rw [ht]; exact hP, hD⟩, hS.F ht⟩) hS.2.2 d_S_doBout_84
        · skip
          refine lv_iload_n hx hb d_S_doBout_19 rfl (lv_at hl 3 rfl) ?_
          refine lv_iload_n hx hb d_S_doBout_20 rfl (lv_at hl 2 rfl) ?_
          refine pr_icmp_eq (tgt := 83) hx hb (i3_of (by omega) (by omega)) (i3_of (by omega) (by omega)) d_S_doBout_21 (by decide) (fun c_3 => ?_) (fun c_3 => ?_)
          · skip
            have q8 := pn_q8 (sw := sw) (am := am) (by omega) q3 q4 q5 q6
            refine lv_iload_n hx hb d_S_doBout_83 rfl (lv_at hl 3 rfl) ?_
            exact W.iret (v := iI (((ro : Nat) : Int))) hx hb hr (fun t ht hW => ⟨⟨iI (((ro : Nat) : Int)), (ro, Q), rfl, ⟨rfl, q2, q8⟩, by rw [ht]; exact hP, hD⟩, hS.F ht⟩) hS.2.2 d_S_doBout_84
          · skip
            refine lv_iconst (v := iI (0)) hx hb d_S_doBout_24 rfl ?_
            refine lv_istore (lv' := [(4, .int (iI (0))), (0, .ref (a 27)), (1, .ref (a (36 + 2 * k))), (2, .int (iI (((am : Nat) : Int)))), (3, .int (iI (((ro : Nat) : Int)))), (5, .int (iI (((sw : Nat) : Int))))]) hx hb d_S_doBout_25 hl (by decide) rfl (fun ls hl => ?_)
            refine lv_iconst (v := iI (0)) hx hb d_S_doBout_27 rfl ?_
            refine lv_istore (lv' := [(6, .int (iI (0))), (4, .int (iI (0))), (0, .ref (a 27)), (1, .ref (a (36 + 2 * k))), (2, .int (iI (((am : Nat) : Int)))), (3, .int (iI (((ro : Nat) : Int)))), (5, .int (iI (((sw : Nat) : Int))))]) hx hb d_S_doBout_28 hl (by decide) rfl (fun ls hl => ?_)
            have iho := ih
            clear ih
            have inner : ∀ (n : Nat) (zz : Nat) (ro : Nat) (go : Int) (Q : Int → Int) (H : Heap) (locs : List Loc) (ls : Array Slot), (sw < 4) → (pn_Bo (ns 0) (m_G nf da (ss k)) am ro (pr k) Q) → (go = 0 ∨ go = 1) → (go = 0 → pn_no (ns 0) (m_G nf da (ss k)) am zz Q) → (go = 1 → ro ≠ 0) → (ro = 0 → Q = pr k) → ((zz : Int) ≤ ns 0) → (8 - zz) < n → va_P D pn_cl (cw a cI cL cD cS nf ns da be ui ul cn ss mf sd (nw pr k Q)) H → va_D A (cw a cI cL cD cS nf ns da be ui ul cn ss mf sd (nw pr k Q)) → va_S A s.heap H locs → lv_has ls 7 [(0, .ref (a 27)), (1, .ref (a (36 + 2 * k))), (2, .int (iI (((am : Nat) : Int)))), (3, .int (iI (((ro : Nat) : Int)))), (4, .int (iI (go))), (5, .int (iI (((sw : Nat) : Int)))), (6, .int (iI (((zz : Nat) : Int))))] → W p l e (headSpec w_S_doBout ({ frames := 4, cells := 0, slots := 0, locals := 113 })).room s m ([.ref (a 27), .ref (a (36 + 2 * k)), .int (iI (((am : Nat) : Int)))] : List Value).toArray below meth c H locs 0 0 (MQ below (va_Qi (fun (r : Int32) (u : Nat × (Int → Int)) => r = iI ((u.1 : Nat) : Int) ∧ pn_Bo (ns 0) (m_G nf da (ss k)) am u.1 (pr k) u.2 ∧ (u.1 = 0 → pn_no (ns 0) (m_G nf da (ss k)) am 8 (pr k) ∧ u.2 = pr k)) (fun u t => va_P D pn_cl ((fun u : Nat × (Int → Int) => cw a cI cL cD cS nf ns da be ui ul cn ss mf sd (nw pr k u.2)) u) t.heap ∧ va_D A ((fun u : Nat × (Int → Int) => cw a cI cL cD cS nf ns da be ui ul cn ss mf sd (nw pr k u.2)) u)) A) ([.ref (a 27), .ref (a (36 + 2 * k)), .int (iI (((am : Nat) : Int)))] : List Value).toArray s 0 0 A) (F0 m 30 ls []) := by
              intro n
              induction n with
              | zero => intro zz ro go Q H locs ls _ _ _ _ _ _ _ hm; exact absurd hm (Nat.not_lt_zero _)
              | succ n ih =>
                intro zz ro go Q H locs ls q1 q2 q3 q4 q5 q6 q7 hm hP hD hS hl
                refine lv_iload hx hb d_S_doBout_30 (lv_at hl 6 rfl) ?_
                refine lv_aload_n hx hb d_S_doBout_32 rfl (lv_at hl 0 rfl) ?_
                refine va_get (D := D) (ci := 2) (v := .ref (a 1)) (C := R_S) (T := T_S) (N := 2) hx hb hts (in_S _) hown hK hP 27 rfl rfl 0 (by decide) (ht _ m_133) (fun _ h9 => h9) rfl d_S_doBout_33 ?_
                refine va_get (D := D) (ci := 1) (v := .int (iI (ns 0))) (C := R_N) (T := T_N) (N := 17) hx hb hts (in_N _) hown hK hP 1 rfl rfl 13 (by decide) (ht _ m_83) (fun _ h9 => h9) rfl d_S_doBout_36 ?_
                refine pr_icmp_ge (tgt := 77) hx hb (i3_of (by omega) (by omega)) (i3_of (by omega) (by omega)) d_S_doBout_39 (by decide) (fun c_4 => ?_) (fun c_4 => ?_)
                · skip
                  refine lv_iinc (v := iI (((sw : Nat) : Int) + 1)) (lv' := [(5, .int (iI (((sw : Nat) : Int) + 1))), (0, .ref (a 27)), (1, .ref (a (36 + 2 * k))), (2, .int (iI (((am : Nat) : Int)))), (3, .int (iI (((ro : Nat) : Int)))), (4, .int (iI (go))), (6, .int (iI (((zz : Nat) : Int))))]) hx hb d_S_doBout_77 hl (k := 5) rfl (iI_add _ _).symm (by decide) rfl (fun ls hl => ?_)
                  refine lv_goto (tgt := 8) hx hb d_S_doBout_80 (by decide) ?_
                  exact iho (sw + 1) ro go Q _ _ ls (by omega) q2 q3 (fun h z hz8 h8 hn hb => q4 h z (by omega) h8 hn hb) (fun h => Or.inr (q5 h)) q6 (by omega) hP hD hS (lv_sub hl [1, 2, 3, 4, 5, 0] rfl)
                · skip
                  have hPrQ : pn_Pr ((nw pr k Q) k) := by rw [nw_s]; exact pn_Bo_pr q2 hPr
                  refine lv_iload_n hx hb d_S_doBout_42 rfl (lv_at hl 2 rfl) ?_
                  refine lv_iload hx hb d_S_doBout_43 (lv_at hl 6 rfl) ?_
                  refine lv_ishr hx hb d_S_doBout_45 ?_
                  refine lv_iconst (v := iI 1) hx hb d_S_doBout_46 rfl ?_
                  refine lv_iand hx hb d_S_doBout_47 ?_
                  refine pr_ixe (B := b2 ((am).testBit (zz) = true)) (nb_bit (by omega) (by omega)) ?_
                  refine pr_if_eq (tgt := 71) hx hb (i3_b2 _) d_S_doBout_48 (by decide) (fun c_5 => ?_) (fun c_5 => ?_)
                  · replace c_5 := b2_0 c_5
                    refine lv_iinc (v := iI (((zz : Nat) : Int) + 1)) (lv' := [(6, .int (iI (((zz : Nat) : Int) + 1))), (0, .ref (a 27)), (1, .ref (a (36 + 2 * k))), (2, .int (iI (((am : Nat) : Int)))), (3, .int (iI (((ro : Nat) : Int)))), (4, .int (iI (go))), (5, .int (iI (((sw : Nat) : Int))))]) hx hb d_S_doBout_71 hl (k := 6) rfl (iI_add _ _).symm (by decide) rfl (fun ls hl => ?_)
                    refine lv_goto (tgt := 30) hx hb d_S_doBout_74 (by decide) ?_
                    exact ih (zz + 1) (ro) (go) (Q) _ _ ls q1 q2 q3 (fun h => pn_no_s (q4 h) (fun hb => by first | exact absurd hb (by assumption) | exact hf)) q5 q6 (by omega) (by omega) hP hD hS (lv_sub hl [1, 2, 3, 4, 5, 6, 0] rfl)
                  · replace c_5 := b2_n1 c_5
                    refine lv_aload_n hx hb d_S_doBout_51 rfl (lv_at hl 0 rfl) ?_
                    refine lv_aload_n hx hb d_S_doBout_52 rfl (lv_at hl 1 rfl) ?_
                    refine lv_iload hx hb d_S_doBout_53 (lv_at hl 6 rfl) ?_
                    refine pr_ci (va_runV (As := [.ref (a (36 + 2 * k)), .int (iI (((zz : Nat) : Int)))]) (rest := []) ⟨hx, hb, hml, hown, hts⟩ (c_S_raises l (pr := nw pr k Q) H.size k zz hOk hk hPrQ hss (by omega)) (cwV 2 hts (pn_gV m_443 m_445 m_11 m_35 m_446) rfl rfl rfl (by decide +kernel) ⟨Nat.le_of_ble_eq_true rfl, Nat.le_of_ble_eq_true rfl⟩) (pn_preW (q0 := 27) (ci := 2) (q := (R_S, T_S, 2)) hP hD hE rfl rfl) rfl rfl hl.1 rfl (lv_room (Nat.le_of_ble_eq_true rfl)) d_S_doBout_55 ⟨Nat.le_of_ble_eq_true rfl, Nat.le_of_ble_eq_true rfl⟩) hD hS hA (fun r u H locs hw hP hD hS => ?_)
                    simp only [nw_s] at hw
                    try dsimp only at hP hD
                    rw [nw_nw] at hP hD
                    rcases hw with ⟨rfl, hu, hf⟩ | ⟨rfl, v, hu, h1, h2, h3⟩
                    · rw [hu] at hP hD
                      refine pr_if_eq (tgt := 71) hx hb (i3_of (by decide) (by decide)) d_S_doBout_58 (by decide) (fun c_6 => ?_) (fun c_6 => ?_)
                      · skip
                        refine lv_iinc (v := iI (((zz : Nat) : Int) + 1)) (lv' := [(6, .int (iI (((zz : Nat) : Int) + 1))), (0, .ref (a 27)), (1, .ref (a (36 + 2 * k))), (2, .int (iI (((am : Nat) : Int)))), (3, .int (iI (((ro : Nat) : Int)))), (4, .int (iI (go))), (5, .int (iI (((sw : Nat) : Int))))]) hx hb d_S_doBout_71 hl (k := 6) rfl (iI_add _ _).symm (by decide) rfl (fun ls hl => ?_)
                        refine lv_goto (tgt := 30) hx hb d_S_doBout_74 (by decide) ?_
                        exact ih (zz + 1) (ro) (go) (Q) _ _ ls q1 q2 q3 (fun h => pn_no_s (q4 h) (fun hb => by first | exact absurd hb (by assumption) | exact hf)) q5 q6 (by omega) (by omega) hP hD hS (lv_sub hl [1, 2, 3, 4, 5, 6, 0] rfl)
                      · skip
                        exact absurd c_6 (by decide)
                    · skip
                      refine pr_if_eq (tgt := 71) hx hb (i3_of (by decide) (by decide)) d_S_doBout_58 (by decide) (fun c_7 => ?_) (fun c_7 => ?_)
                      · skip
                        exact absurd c_7 (by decide)
                      · skip
                        refine lv_iload_n hx hb d_S_doBout_61 rfl (lv_at hl 3 rfl) ?_
                        refine lv_iconst (v := iI (1)) hx hb d_S_doBout_62 rfl ?_
                        refine lv_iload hx hb d_S_doBout_63 (lv_at hl 6 rfl) ?_
                        refine lv_ishl hx hb d_S_doBout_65 ?_
                        refine lv_ior hx hb d_S_doBout_66 ?_
                        refine pr_ixe (B := ((ro ||| 2 ^ zz : Nat) : Int)) (iI_sh1 (by omega)) ?_
                        refine lv_istore_n (lv' := [(3, .int (iI (((ro ||| 2 ^ zz : Nat) : Int)))), (0, .ref (a 27)), (1, .ref (a (36 + 2 * k))), (2, .int (iI (((am : Nat) : Int)))), (4, .int (iI (go))), (5, .int (iI (((sw : Nat) : Int)))), (6, .int (iI (((zz : Nat) : Int))))]) hx hb d_S_doBout_67 rfl hl (by decide) rfl (fun ls hl => ?_)
                        refine lv_iconst (v := iI (1)) hx hb d_S_doBout_68 rfl ?_
                        refine lv_istore (lv' := [(4, .int (iI (1))), (3, .int (iI (((ro ||| 2 ^ zz : Nat) : Int)))), (0, .ref (a 27)), (1, .ref (a (36 + 2 * k))), (2, .int (iI (((am : Nat) : Int)))), (5, .int (iI (((sw : Nat) : Int)))), (6, .int (iI (((zz : Nat) : Int))))]) hx hb d_S_doBout_69 hl (by decide) rfl (fun ls hl => ?_)
                        refine lv_iinc (v := iI (((zz : Nat) : Int) + 1)) (lv' := [(6, .int (iI (((zz : Nat) : Int) + 1))), (4, .int (iI (1))), (3, .int (iI (((ro ||| 2 ^ zz : Nat) : Int)))), (0, .ref (a 27)), (1, .ref (a (36 + 2 * k))), (2, .int (iI (((am : Nat) : Int)))), (5, .int (iI (((sw : Nat) : Int))))]) hx hb d_S_doBout_71 hl (k := 6) rfl (iI_add _ _).symm (by decide) rfl (fun ls hl => ?_)
                        refine lv_goto (tgt := 30) hx hb d_S_doBout_74 (by decide) ?_
                        exact ih (zz + 1) (ro ||| 2 ^ zz) (1) (u) _ _ ls q1 (by rw [hu]; exact pn_Bo_step q2 (by assumption) (by omega) (by omega) h1 h2 h3) (Or.inr rfl) (fun h => by cases h) (fun _ => pn_or_ne) (fun h => absurd h pn_or_ne) (by omega) (by omega) hP hD hS (lv_sub hl [3, 4, 5, 2, 1, 6, 0] rfl)
            exact inner _ (0) (ro) (0) (Q) _ _ ls (by omega) q2 (Or.inl rfl) (fun _ => pn_no_0) (fun h => by cases h) q6 (by omega) (Nat.lt_succ_self _) hP hD hS (lv_sub hl [2, 3, 4, 5, 1, 6, 0] rfl)
  refine lv_iconst (v := iI (0)) hx hb d_S_doBout_0 rfl ?_
  refine lv_istore_n (lv' := [(3, .int (iI (0))), (0, .ref (a 27)), (1, .ref (a (36 + 2 * k))), (2, .int (iI (((am : Nat) : Int))))]) hx hb d_S_doBout_1 rfl hl (by decide) rfl (fun ls hl => ?_)
  refine lv_iconst (v := iI (1)) hx hb d_S_doBout_2 rfl ?_
  refine lv_istore (lv' := [(4, .int (iI (1))), (3, .int (iI (0))), (0, .ref (a 27)), (1, .ref (a (36 + 2 * k))), (2, .int (iI (((am : Nat) : Int))))]) hx hb d_S_doBout_3 hl (by decide) rfl (fun ls hl => ?_)
  refine lv_iconst (v := iI (0)) hx hb d_S_doBout_5 rfl ?_
  refine lv_istore (lv' := [(5, .int (iI (0))), (4, .int (iI (1))), (3, .int (iI (0))), (0, .ref (a 27)), (1, .ref (a (36 + 2 * k))), (2, .int (iI (((am : Nat) : Int))))]) hx hb d_S_doBout_6 hl (by decide) rfl (fun ls hl => ?_)
  have hP : va_P D pn_cl (cw a cI cL cD cS nf ns da be ui ul cn ss mf sd (nw pr k (pr k))) s.heap := by rw [nw_self]; exact hP
  have hD : va_D A (cw a cI cL cD cS nf ns da be ui ul cn ss mf sd (nw pr k (pr k))) := by rw [nw_self]; exact hD
  exact outer _ (0) (0) (1) (pr k) _ _ ls (by omega) pn_Bo_0 (Or.inr rfl) (fun h => by cases h) (fun _ => Or.inl rfl) (fun _ => rfl) (Nat.lt_succ_self _) hP hD hS (lv_sub hl [3, 4, 5, 2, 1, 0] rfl)
end
section
def R_A : String := "java/util/Arrays"
abbrev b_A_filli : ByteArray := prog_16_method_103_code
def y_A_filli : MethodName := ⟨"java/util/Arrays", "fill", "([II)V"⟩
theorem d_A_filli_0 : decode b_A_filli 0 = .ok (.iconst 0, 1) := by decide +kernel
theorem d_A_filli_1 : decode b_A_filli 1 = .ok (.istore_n 2, 1) := by decide +kernel
theorem d_A_filli_2 : decode b_A_filli 2 = .ok (.aload_n 0, 1) := by decide +kernel
theorem d_A_filli_3 : decode b_A_filli 3 = .ok (.arraylength, 1) := by decide +kernel
theorem d_A_filli_4 : decode b_A_filli 4 = .ok (.istore_n 3, 1) := by decide +kernel
theorem d_A_filli_5 : decode b_A_filli 5 = .ok (.iload_n 2, 1) := by decide +kernel
theorem d_A_filli_6 : decode b_A_filli 6 = .ok (.iload_n 3, 1) := by decide +kernel
theorem d_A_filli_7 : decode b_A_filli 7 = .ok (.if_icmp .ge 13, 3) := by decide +kernel
theorem d_A_filli_10 : decode b_A_filli 10 = .ok (.aload_n 0, 1) := by decide +kernel
theorem d_A_filli_11 : decode b_A_filli 11 = .ok (.iload_n 2, 1) := by decide +kernel
theorem d_A_filli_12 : decode b_A_filli 12 = .ok (.iload_n 1, 1) := by decide +kernel
theorem d_A_filli_13 : decode b_A_filli 13 = .ok (.iastore, 1) := by decide +kernel
theorem d_A_filli_14 : decode b_A_filli 14 = .ok (.iinc 2 1, 3) := by decide +kernel
theorem d_A_filli_17 : decode b_A_filli 17 = .ok (.goto (-12), 3) := by decide +kernel
theorem d_A_filli_20 : decode b_A_filli 20 = .ok (.return_, 1) := by decide +kernel
abbrev b_A_filll : ByteArray := prog_16_method_101_code
def y_A_filll : MethodName := ⟨"java/util/Arrays", "fill", "([JJ)V"⟩
theorem d_A_filll_0 : decode b_A_filll 0 = .ok (.iconst 0, 1) := by decide +kernel
theorem d_A_filll_1 : decode b_A_filll 1 = .ok (.istore_n 3, 1) := by decide +kernel
theorem d_A_filll_2 : decode b_A_filll 2 = .ok (.aload_n 0, 1) := by decide +kernel
theorem d_A_filll_3 : decode b_A_filll 3 = .ok (.arraylength, 1) := by decide +kernel
theorem d_A_filll_4 : decode b_A_filll 4 = .ok (.istore 4, 2) := by decide +kernel
theorem d_A_filll_6 : decode b_A_filll 6 = .ok (.iload_n 3, 1) := by decide +kernel
theorem d_A_filll_7 : decode b_A_filll 7 = .ok (.iload 4, 2) := by decide +kernel
theorem d_A_filll_9 : decode b_A_filll 9 = .ok (.if_icmp .ge 13, 3) := by decide +kernel
theorem d_A_filll_12 : decode b_A_filll 12 = .ok (.aload_n 0, 1) := by decide +kernel
theorem d_A_filll_13 : decode b_A_filll 13 = .ok (.iload_n 3, 1) := by decide +kernel
theorem d_A_filll_14 : decode b_A_filll 14 = .ok (.lload_n 1, 1) := by decide +kernel
theorem d_A_filll_15 : decode b_A_filll 15 = .ok (.lastore, 1) := by decide +kernel
theorem d_A_filll_16 : decode b_A_filll 16 = .ok (.iinc 3 1, 3) := by decide +kernel
theorem d_A_filll_19 : decode b_A_filll 19 = .ok (.goto (-13), 3) := by decide +kernel
theorem d_A_filll_22 : decode b_A_filll 22 = .ok (.return_, 1) := by decide +kernel
theorem m_nat : (Cond.native arraycopyName) ∈ pn_W := pn_mem 433 (by decide +kernel) (by decide +kernel)
theorem pn_gS2 {c0 c1 : Cond} {own : String} {idx : Nat} {y : MethodName} (h1 : Cond.methodLink own idx y ∈ pn_W) (h2 : Cond.static y ∈ pn_W) (h3 : Cond.initialized y.cls ∈ pn_W) (h : c1 ∈ pn_W) : GoodIn (c0 :: pn_W) (va_wsS own idx y (c1 :: pn_W)) := by
  intro w hw
  unfold va_wsS at hw
  rcases List.mem_append.mp hw with q | q
  · simp only [List.mem_cons, List.not_mem_nil, or_false] at q
    rcases q with rfl | rfl | rfl
    · exact pn_gd h1
    · exact pn_gd h2
    · exact pn_gd h3
  · exact pn_g h w q
/-- the first n places hold v -/
def fl (n : Int) (v : Int) (f : Int → Int) : Int → Int := fun j => if 0 ≤ j ∧ j < n then v else f j
theorem fl_0 (v : Int) (f : Int → Int) : fl 0 v f = f := by
  funext j
  unfold fl
  exact if_neg (by omega)
theorem fl_s {n : Int} (h : 0 ≤ n) (v : Int) (f : Int → Int) : pu (fl n v f) n v = fl (n + 1) v f := by
  funext j
  unfold pu fl
  by_cases e : j = n
  · rw [if_pos e, if_pos (by omega)]
  · rw [if_neg e]
    by_cases q : 0 ≤ j ∧ j < n
    · rw [if_pos q, if_pos (by omega)]
    · rw [if_neg q, if_neg (by omega)]
/-- n places from sp on, laid at dp -/
def cp (f g : Int → Int) (sp dp n : Int) : Int → Int := fun j => if dp ≤ j ∧ j < dp + n then f (sp + (j - dp)) else g j
theorem ai_cp (f g : Int → Int) (sp dp n : Nat) : va_cpy (ai f) (ai g) sp dp n = ai (cp f g sp dp n) := by
  funext j
  unfold va_cpy ai cp
  by_cases h : dp ≤ j ∧ j < dp + n
  · rw [if_pos h, if_pos (by omega)]
    congr 2
    omega
  · rw [if_neg h, if_neg (by omega)]
theorem al_cp (f g : Int → Int) (sp dp n : Nat) : va_cpy (al f) (al g) sp dp n = al (cp f g sp dp n) := by
  funext j
  unfold va_cpy al cp
  by_cases h : dp ≤ j ∧ j < dp + n
  · rw [if_pos h, if_pos (by omega)]
    congr 2
    omega
  · rw [if_neg h, if_neg (by omega)]
section PY
variable {p : Program} {l : Launch} {e : Env} {R : Room} {s : State} {m : MethodId} {args : Array Value} {below : List Frame} {meth : Method} {c : Code} {H : Heap} {locs : List Loc} {cells slots : Nat} {Q : State → Prop}
variable {cc : ByteArray} {pc : Nat} {ls : Array Slot} {rest : List Value} {D : va_G} {cl : List vw_C} {A0 : Nat → Prop} {a : Nat} {tys : List (ClassId × FieldType)} {ws ws' : va_W} {H0 : Heap}
theorem pr_copyi (hx : p.tables.exec = Jvm.exec) (hb : c.code = cc) (hml : c.maxLocals = ls.size) {own : String} {index : Nat} (hown : s.vm.findClass own = some m.cls) (hlink : (Cond.methodLink own index arraycopyName).before args s = true) (hnat : (Cond.native arraycopyName).before args s = true) (hstat : (Cond.static arraycopyName).before args s = true) (hini : (Cond.initialized "java/lang/System").before args s = true)
    (hK : va_K D cl tys s) (hP : va_P D cl ws H) (hD : va_D A0 ws) (hS : va_S A0 H0 H locs) (q0 q1 t0 : Nat) {a0 : Nat} {c0 : ClassId} {n0 n1 : Nat} {f g : Int → Int} (ha0 : ws[q0]? = some (a0, .inl (c0, n0, .inl (ai f)))) (ha1 : ws[q1]? = some (a, .inl (c0, n1, .inl (ai g)))) (ht0 : tys[t0]? = some (c0, .int))
    (sp dp n : Nat) (h3 : sp + n ≤ n0) (h4 : dp + n ≤ n1) (hn0 : n0 ≤ 2147483647) (hn1 : n1 ≤ 2147483647) (hw : ws.set q1 (a, .inl (c0, n1, .inl (ai (cp f g sp dp n)))) = ws') (hframes : 1 ≤ R.frames) (hlocals : (rest.map fun v => v.category).sum + (nativeFrameWords "java/lang/System" "arraycopy" 5 + 11) ≤ R.locals) (hd : decode cc pc = .ok (.invokestatic index, 3))
    (k : ∀ (H1 : Heap) (locs1 : List Loc), va_P D cl ws' H1 → va_D A0 ws' → va_S A0 H0 H1 locs1 → W p l e R s m args below meth c H1 locs1 cells slots Q (F0 m (pc + 3) ls rest)) : W p l e R s m args below meth c H locs cells slots Q (F0 m pc ls (.int (iI (n : Int)) :: .int (iI (dp : Int)) :: .ref a :: .int (iI (sp : Int)) :: .ref a0 :: rest)) := by
  subst hw
  have c1 : (iI (sp : Int)).toNatClampNeg = sp := by rw [iI_clamp (by omega) (by omega)]; exact Int.toNat_natCast sp
  have c2 : (iI (dp : Int)).toNatClampNeg = dp := by rw [iI_clamp (by omega) (by omega)]; exact Int.toNat_natCast dp
  have c3 : (iI (n : Int)).toNatClampNeg = n := by rw [iI_clamp (by omega) (by omega)]; exact Int.toNat_natCast n
  have z : ∀ x : Nat, x ≤ 2147483647 → ¬ iI (x : Int) < 0 := fun x h q => by
    rw [← iI_0] at q
    have := (iI_lt ⟨by omega, by omega⟩ i3_0).mp q
    omega
  refine va_copyi hx hb hml hown hlink hnat hstat hini hK hP hD hS q0 q1 t0 t0 ha0 ha1 ht0 ht0 rfl (z sp (by omega)) (z dp (by omega)) (z n (by omega)) (by rw [c1, c3]; exact h3) (by rw [c2, c3]; exact h4) (fun i _ => rfl) hframes hlocals hd (fun H1 locs1 q1 q2 q3 => ?_)
  rw [c1, c2, c3, ai_cp] at q1 q2
  exact k H1 locs1 q1 q2 q3
end PY
section PW2
variable {s : State} {H : Heap} {D : va_G} {cI cL cD cS : ClassId} {ws : va_W}
theorem pn_preWS {As : List Value} {A : Nat → Prop} (hP : va_P D pn_cl ws H) (hD : va_D A ws) (hE : pn_E D cI cL cD cS s) : PreS s H (va_Pc As (fun U => U.heap.size = H.size ∧ va_P D pn_cl ws U.heap ∧ va_D (fun _ => True) ws ∧ pn_E D cI cL cD cS U)) As :=
  ⟨fun _ _ _ _ q => ⟨q.1, q.2.1, q.2.2.1, q.2.2.2.1, pn_E.same rfl q.2.2.2.2⟩, fun U hU hW => ⟨rfl, by rw [hU], by rw [hU]; exact hP, hD.weaken (fun _ _ _ _ => trivial), pn_E.warm hW hE⟩⟩
end PW2
abbrev w_A_filli : List Cond := .code y_A_filli b_A_filli 4 none :: pn_W
set_option maxHeartbeats 4000000 in
set_option maxRecDepth 100000 in
theorem c_A_filli (l : Launch) {D : va_G} {a : Nat → Nat} {cI cL cD cS : ClassId} {nf : Nat → Int → Int} {ns : Nat → Int} {da : Int → Int → Int} {be : Int → Int} {ui ul : Nat → Int → Int} {cn : Int} {ss : Nat → Nat} {mf sd : Nat → Int} {pr : Nat → Int → Int} (sz : Nat) (k : Nat) (v : Int) (hk : k < 9) : Met l y_A_filli w_A_filli ({ frames := 0, cells := 0, slots := 0, locals := 0 }) (va_Pc [.ref (a (37 + 2 * k)), .int (iI (v))] (fun U => U.heap.size = sz ∧ va_P D pn_cl (cw a cI cL cD cS nf ns da be ui ul cn ss mf sd pr) U.heap ∧ va_D (fun _ => True) (cw a cI cL cD cS nf ns da be ui ul cn ss mf sd pr) ∧ pn_E D cI cL cD cS U)) (va_Qv (fun (_ : Unit) => True) (fun u t => va_P D pn_cl ((fun _ : Unit => cw a cI cL cD cS nf ns da be ui ul cn ss mf sd (nw pr k (fl 12 v (pr k)))) u) t.heap ∧ va_D (va_A (cw a cI cL cD cS nf ns da be ui ul cn ss mf sd pr) sz) ((fun _ : Unit => cw a cI cL cD cS nf ns da be ui ul cn ss mf sd (nw pr k (fl 12 v (pr k)))) u)) (va_A (cw a cI cL cD cS nf ns da be ui ul cn ss mf sd pr) sz)) 0 0 (va_A (cw a cI cL cD cS nf ns da be ui ul cn ss mf sd pr) sz) := by
  refine Met.ofW (cc := b_A_filli) (maxL := 4) (ret := none) (by decide) rfl ?_
  intro p e s m args below meth c s₁ B hml hv
  obtain ⟨rfl, hsz, hP, hD0, hE⟩ := hv
  have hx := B.exec
  have hb := B.bytes
  have hr := B.returns
  have hts := atoms_spec (ws := w_A_filli) B.pre
  have ht : ∀ w ∈ pn_W, w.before _ s = true := fun w h => hts w (List.mem_cons_of_mem _ h)
  have hown : s.vm.findClass R_A = some m.cls := findClass_of_methodNamed B.named
  have hlocks := B.notSynchronized
  have hK := hE.1
  subst hsz
  have hD := hD0.self (sz := s.heap.size)
  generalize hAe : va_A (cw a cI cL cD cS nf ns da be ui ul cn ss mf sd pr) s.heap.size = A at hD ⊢
  have hA : ∀ q : Nat, s.heap.size ≤ q → A q := fun q h => by rw [← hAe]; exact Or.inr h
  have hS : va_S A s.heap s.heap [] := va_S.rf
  have hl := lv_entry ([.ref (a (37 + 2 * k)), .int (iI (v))]) (n := 4) (Nat.le_of_ble_eq_true rfl)
  rw [lg_entry_eq]
  generalize (lg_sl ([.ref (a (37 + 2 * k)), .int (iI (v))]) ++ List.replicate (4 - (lg_sl ([.ref (a (37 + 2 * k)), .int (iI (v))])).length) Slot.unset).toArray = ls at hl ⊢
  have hl : lv_has ls 4 [(0, .ref (a (37 + 2 * k))), (1, .int (iI (v)))] := hl
  have loop : ∀ (n : Nat) (t : Int) (H : Heap) (locs : List Loc) (ls : Array Slot), (0 ≤ t) → (t ≤ 12) → ((12 - t).toNat) < n → va_P D pn_cl (cw a cI cL cD cS nf ns da be ui ul cn ss mf sd (nw pr k (fl t v (pr k)))) H → va_D A (cw a cI cL cD cS nf ns da be ui ul cn ss mf sd (nw pr k (fl t v (pr k)))) → va_S A s.heap H locs → lv_has ls 4 [(0, .ref (a (37 + 2 * k))), (1, .int (iI (v))), (2, .int (iI (t))), (3, .int (iI (12)))] → W p l e (headSpec w_A_filli ({ frames := 0, cells := 0, slots := 0, locals := 0 })).room s m ([.ref (a (37 + 2 * k)), .int (iI (v))] : List Value).toArray below meth c H locs 0 0 (MQ below (va_Qv (fun (_ : Unit) => True) (fun u t => va_P D pn_cl ((fun _ : Unit => cw a cI cL cD cS nf ns da be ui ul cn ss mf sd (nw pr k (fl 12 v (pr k)))) u) t.heap ∧ va_D A ((fun _ : Unit => cw a cI cL cD cS nf ns da be ui ul cn ss mf sd (nw pr k (fl 12 v (pr k)))) u)) A) ([.ref (a (37 + 2 * k)), .int (iI (v))] : List Value).toArray s 0 0 A) (F0 m 5 ls []) := by
    intro n
    induction n with
    | zero => intro t H locs ls _ _ hm; exact absurd hm (Nat.not_lt_zero _)
    | succ n ih =>
      intro t H locs ls q1 q2 hm hP hD hS hl
      refine lv_iload_n hx hb d_A_filli_5 rfl (lv_at hl 2 rfl) ?_
      refine lv_iload_n hx hb d_A_filli_6 rfl (lv_at hl 3 rfl) ?_
      refine pr_icmp_ge (tgt := 20) hx hb (i3_of (by omega) (by omega)) (i3_of (by decide) (by decide)) d_A_filli_7 (by decide) (fun c_1 => ?_) (fun c_1 => ?_)
      · skip
        have e8 : t = 12 := by omega
        rw [e8] at hP hD
        exact W.vret hx hb hr (fun t ht hW => ⟨⟨(), rfl, trivial, by rw [ht]; exact hP, hD⟩, hS.F ht⟩) hS.2.2 d_A_filli_20
      · skip
        refine lv_aload_n hx hb d_A_filli_10 rfl (lv_at hl 0 rfl) ?_
        refine lv_iload_n hx hb d_A_filli_11 rfl (lv_at hl 2 rfl) ?_
        refine lv_iload_n hx hb d_A_filli_12 rfl (lv_at hl 1 rfl) ?_
        refine pr_iast (ws' := cw a cI cL cD cS nf ns da be ui ul cn ss mf sd (nw (nw pr k (fl t v (pr k))) k (pu ((nw pr k (fl t v (pr k))) k) (t) (v)))) hx hb hK hP hD hS (37 + 2 * k) 0 (cw_sp k hk) rfl (by decide) (by omega) (by omega) (cw_upr _ hk) d_A_filli_13 (fun H locs hP hD hS => ?_)
        have e9 : nw (nw pr k (fl t v (pr k))) k (pu ((nw pr k (fl t v (pr k))) k) (t) (v)) = nw pr k (fl (t + 1) v (pr k)) := by rw [nw_nw, nw_s, fl_s q1]
        rw [e9] at hP hD
        clear e9
        refine lv_iinc (v := iI (t + 1)) (lv' := [(2, .int (iI (t + 1))), (0, .ref (a (37 + 2 * k))), (1, .int (iI (v))), (3, .int (iI (12)))]) hx hb d_A_filli_14 hl (k := 2) rfl (iI_add _ _).symm (by decide) rfl (fun ls hl => ?_)
        refine lv_goto (tgt := 5) hx hb d_A_filli_17 (by decide) ?_
        exact ih (t + 1) _ _ ls (by omega) (by omega) (by omega) hP hD hS (lv_sub hl [1, 2, 0, 3] rfl)
  refine lv_iconst (v := iI (0)) hx hb d_A_filli_0 rfl ?_
  refine lv_istore_n (lv' := [(2, .int (iI (0))), (0, .ref (a (37 + 2 * k))), (1, .int (iI (v)))]) hx hb d_A_filli_1 rfl hl (by decide) rfl (fun ls hl => ?_)
  refine lv_aload_n hx hb d_A_filli_2 rfl (lv_at hl 1 rfl) ?_
  refine va_alen (v := iI 12) hx hb hK hP (37 + 2 * k) 0 (cw_sp k hk) rfl (by show Int32.ofNat 12 = iI 12; decide) d_A_filli_3 ?_
  refine lv_istore_n (lv' := [(3, .int (iI (12))), (2, .int (iI (0))), (0, .ref (a (37 + 2 * k))), (1, .int (iI (v)))]) hx hb d_A_filli_4 rfl hl (by decide) rfl (fun ls hl => ?_)
  have hP : va_P D pn_cl (cw a cI cL cD cS nf ns da be ui ul cn ss mf sd (nw pr k (fl 0 v (pr k)))) s.heap := by rw [fl_0, nw_self]; exact hP
  have hD : va_D A (cw a cI cL cD cS nf ns da be ui ul cn ss mf sd (nw pr k (fl 0 v (pr k)))) := by rw [fl_0, nw_self]; exact hD
  exact loop _ (0) _ _ ls (by omega) (by omega) (Nat.lt_succ_self _) hP hD hS (lv_sub hl [2, 3, 1, 0] rfl)
abbrev w_S_begin : List Cond := .code y_S_begin b_S_begin 2 none :: pn_W
set_option maxHeartbeats 4000000 in
set_option maxRecDepth 100000 in
theorem c_S_begin (l : Launch) {D : va_G} {a : Nat → Nat} {cI cL cD cS : ClassId} {nf : Nat → Int → Int} {ns : Nat → Int} {da : Int → Int → Int} {be : Int → Int} {ui ul : Nat → Int → Int} {cn : Int} {ss : Nat → Nat} {mf sd : Nat → Int} {pr : Nat → Int → Int} (sz : Nat) (k : Nat) (hk : k < 9) : Met l y_S_begin w_S_begin ({ frames := 1, cells := 0, slots := 0, locals := 60 }) (va_Pc [.ref (a 27), .ref (a (36 + 2 * k))] (fun U => U.heap.size = sz ∧ va_P D pn_cl (cw a cI cL cD cS nf ns da be ui ul cn ss mf sd pr) U.heap ∧ va_D (fun _ => True) (cw a cI cL cD cS nf ns da be ui ul cn ss mf sd pr) ∧ pn_E D cI cL cD cS U)) (va_Qv (fun (_ : Unit) => True) (fun u t => va_P D pn_cl ((fun _ : Unit => cw a cI cL cD cS nf ns da be ui ul cn ss mf sd (nw pr k (cp (nf 0) (fl 12 (-5000) (pr k)) ((0 : Nat) : Int) ((0 : Nat) : Int) ((4 : Nat) : Int)))) u) t.heap ∧ va_D (va_A (cw a cI cL cD cS nf ns da be ui ul cn ss mf sd pr) sz) ((fun _ : Unit => cw a cI cL cD cS nf ns da be ui ul cn ss mf sd (nw pr k (cp (nf 0) (fl 12 (-5000) (pr k)) ((0 : Nat) : Int) ((0 : Nat) : Int) ((4 : Nat) : Int)))) u)) (va_A (cw a cI cL cD cS nf ns da be ui ul cn ss mf sd pr) sz)) 0 0 (va_A (cw a cI cL cD cS nf ns da be ui ul cn ss mf sd pr) sz) := by
  refine Met.ofW (cc := b_S_begin) (maxL := 2) (ret := none) (by decide) rfl ?_
  intro p e s m args below meth c s₁ B hml hv
  obtain ⟨rfl, hsz, hP, hD0, hE⟩ := hv
  have hx := B.exec
  have hb := B.bytes
  have hr := B.returns
  have hts := atoms_spec (ws := w_S_begin) B.pre
  have ht : ∀ w ∈ pn_W, w.before _ s = true := fun w h => hts w (List.mem_cons_of_mem _ h)
  have hown : s.vm.findClass R_S = some m.cls := findClass_of_methodNamed B.named
  have hlocks := B.notSynchronized
  have hK := hE.1
  subst hsz
  have hD := hD0.self (sz := s.heap.size)
  generalize hAe : va_A (cw a cI cL cD cS nf ns da be ui ul cn ss mf sd pr) s.heap.size = A at hD ⊢
  have hA : ∀ q : Nat, s.heap.size ≤ q → A q := fun q h => by rw [← hAe]; exact Or.inr h
  have hS : va_S A s.heap s.heap [] := va_S.rf
  have hl := lv_entry ([.ref (a 27), .ref (a (36 + 2 * k))]) (n := 2) (Nat.le_of_ble_eq_true rfl)
  rw [lg_entry_eq]
  generalize (lg_sl ([.ref (a 27), .ref (a (36 + 2 * k))]) ++ List.replicate (2 - (lg_sl ([.ref (a 27), .ref (a (36 + 2 * k))])).length) Slot.unset).toArray = ls at hl ⊢
  have hl : lv_has ls 2 [(0, .ref (a 27)), (1, .ref (a (36 + 2 * k)))] := hl
  refine lv_aload_n hx hb d_S_begin_0 rfl (lv_at hl 1 rfl) ?_
  refine va_get (D := D) (ci := 3) (v := .ref (a (37 + 2 * k))) (C := R_T) (T := T_T) (N := 4) hx hb hts (in_T _) hown hK hP (36 + 2 * k) (cw_so k hk) rfl 0 (by decide) (ht _ m_175) (fun _ h9 => h9) rfl d_S_begin_1 ?_
  refine lv_sipush (v := iI (-5000)) hx hb d_S_begin_4 (by decide) ?_
  refine pr_cv (va_runS (As := [.ref (a (37 + 2 * k)), .int (iI (-5000))]) (rest := []) ⟨hx, hb, hml, hown, hts⟩ (c_A_filli l (pr := pr) s.heap.size k (-5000) hk) (va_cwS 2 hts (pn_gS2 m_428 m_429 m_44 m_430) rfl rfl rfl (by decide +kernel) ⟨Nat.le_of_ble_eq_true rfl, Nat.le_of_ble_eq_true rfl⟩) (pn_preWS hP hD hE) rfl rfl hl.1 rfl (lv_room (Nat.le_of_ble_eq_true rfl)) d_S_begin_7 ⟨Nat.le_of_ble_eq_true rfl, Nat.le_of_ble_eq_true rfl⟩) hD hS hA (fun u H locs _ hP hD hS => ?_)
  try dsimp only at hP hD
  have hP : va_P D pn_cl (cw a cI cL cD cS nf ns da be ui ul cn ss mf sd (nw pr k (fl 12 (-5000) (pr k)))) H := hP
  have hD : va_D A (cw a cI cL cD cS nf ns da be ui ul cn ss mf sd (nw pr k (fl 12 (-5000) (pr k)))) := hD
  refine lv_aload_n hx hb d_S_begin_10 rfl (lv_at hl 0 rfl) ?_
  refine va_get (D := D) (ci := 2) (v := .ref (a 1)) (C := R_S) (T := T_S) (N := 2) hx hb hts (in_S _) hown hK hP 27 rfl rfl 0 (by decide) (ht _ m_133) (fun _ h9 => h9) rfl d_S_begin_11 ?_
  refine va_get (D := D) (ci := 1) (v := .ref (a 2)) (C := R_N) (T := T_N) (N := 17) hx hb hts (in_N _) hown hK hP 1 rfl rfl 0 (by decide) (ht _ m_64) (fun _ h9 => h9) rfl d_S_begin_14 ?_
  refine lv_iconst (v := iI (0)) hx hb d_S_begin_17 rfl ?_
  refine lv_aload_n hx hb d_S_begin_18 rfl (lv_at hl 1 rfl) ?_
  refine va_get (D := D) (ci := 3) (v := .ref (a (37 + 2 * k))) (C := R_T) (T := T_T) (N := 4) hx hb hts (in_T _) hown hK hP (36 + 2 * k) (cw_so k hk) rfl 0 (by decide) (ht _ m_175) (fun _ h9 => h9) rfl d_S_begin_19 ?_
  refine lv_iconst (v := iI (0)) hx hb d_S_begin_22 rfl ?_
  refine lv_iconst (v := iI (4)) hx hb d_S_begin_23 rfl ?_
  refine pr_copyi (ws' := cw a cI cL cD cS nf ns da be ui ul cn ss mf sd (nw (nw pr k (fl 12 (-5000) (pr k))) k (cp (nf 0) ((nw pr k (fl 12 (-5000) (pr k))) k) ((0 : Nat) : Int) ((0 : Nat) : Int) ((4 : Nat) : Int)))) hx hb (hml.trans hl.1.symm) hown (ht _ m_431) (ht _ m_nat) (ht _ m_432) (ht _ m_45) hK hP hD hS 2 (37 + 2 * k) 0 rfl (cw_sp k hk) rfl 0 0 4 (by decide) (by decide) (by decide) (by decide) (cw_upr _ hk) (Nat.le_of_ble_eq_true rfl) (Nat.le_of_ble_eq_true rfl) d_S_begin_24 (fun H locs hP hD hS => ?_)
  have e9 : nw (nw pr k (fl 12 (-5000) (pr k))) k (cp (nf 0) ((nw pr k (fl 12 (-5000) (pr k))) k) ((0 : Nat) : Int) ((0 : Nat) : Int) ((4 : Nat) : Int)) = nw pr k (cp (nf 0) (fl 12 (-5000) (pr k)) ((0 : Nat) : Int) ((0 : Nat) : Int) ((4 : Nat) : Int)) := by rw [nw_nw, nw_s]
  rw [e9] at hP hD
  clear e9
  exact W.vret hx hb hr (fun t ht hW => ⟨⟨(), rfl, trivial, by rw [ht]; exact hP, hD⟩, hS.F ht⟩) hS.2.2 d_S_begin_27
end
section
/-! lifts -/
def pn_P5 (P : Int → Int) : Prop := ∀ j, 0 ≤ j → j < 12 → -5000 ≤ P j ∧ P j ≤ 5001
theorem pn_P5.pr {P : Int → Int} (h : pn_P5 P) : pn_Pr P := fun j a b => by have := h j a b; omega
def m_S (n : Int) (am : Nat) : Int → Bool := fun w => decide (4 ≤ w) && decide (w < 4 + n) && am.testBit (w - 4).toNat
theorem m_S_iff {n : Int} {am : Nat} {w : Int} : m_S n am w = true ↔ 4 ≤ w ∧ w < 4 + n ∧ am.testBit (w - 4).toNat = true := by
  unfold m_S
  simp [Bool.and_eq_true, and_assoc]
abbrev m_lift (n : Int) (am lf : Nat) (P : Int → Int) : Int → Int := pn_lift (m_S n am) (lf : Int) P
theorem m_lift_0 (am lf : Nat) (P : Int → Int) : m_lift 0 am lf P = P := by
  funext w
  unfold m_lift pn_lift
  exact if_neg (fun h => by have := m_S_iff.mp h; omega)
theorem m_lift_t {n am lf : Nat} {P : Int → Int} (h : am.testBit n = true) : pu (m_lift n am lf P) (rw4 n) (m_lift n am lf P (rw4 n) + lf) = m_lift ((n + 1 : Nat) : Int) am lf P := by
  funext w
  have e0 : rw4 n = (n : Int) + 4 := by show ((n + 4 : Nat) : Int) = _; omega
  unfold pu
  by_cases e : w = rw4 n
  · rw [if_pos e, e]
    unfold m_lift pn_lift
    rw [if_neg (fun q => by have := m_S_iff.mp q; omega), if_pos (m_S_iff.mpr ⟨by omega, by omega, by rw [show (rw4 n - 4).toNat = n by omega]; exact h⟩)]
  · rw [if_neg e]
    unfold m_lift pn_lift
    by_cases q : m_S (n : Int) am w = true
    · have h2 := m_S_iff.mp q
      rw [if_pos q, if_pos (m_S_iff.mpr ⟨h2.1, by omega, h2.2.2⟩)]
    · rw [if_neg q, if_neg (fun q2 => q (by have h2 := m_S_iff.mp q2; exact m_S_iff.mpr ⟨h2.1, by omega, h2.2.2⟩))]
theorem m_lift_f {n am lf : Nat} {P : Int → Int} (h : ¬ am.testBit n = true) : m_lift n am lf P = m_lift ((n + 1 : Nat) : Int) am lf P := by
  funext w
  unfold m_lift pn_lift
  by_cases q : m_S (n : Int) am w = true
  · have h2 := m_S_iff.mp q
    rw [if_pos q, if_pos (m_S_iff.mpr ⟨h2.1, by omega, h2.2.2⟩)]
  · rw [if_neg q, if_neg (fun q2 => by
      have h2 := m_S_iff.mp q2
      by_cases e : w = (n : Int) + 4
      · rw [show (w - 4).toNat = n by omega] at h2; exact h h2.2.2
      · exact q (m_S_iff.mpr ⟨h2.1, by omega, h2.2.2⟩))]
theorem m_lift_pr {n : Int} {am lf : Nat} {P : Int → Int} (h : pn_P5 P) (hl : lf ≤ 10000) : pn_Pr (m_lift n am lf P) := by
  intro j a b
  have h1 := h j a b
  unfold m_lift pn_lift
  by_cases q : m_S n am j = true
  · rw [if_pos q]; omega
  · rw [if_neg q]; omega
theorem m_lift_ge {n : Int} {am lf : Nat} {P : Int → Int} (j : Int) : P j ≤ m_lift n am lf P j := by
  unfold m_lift pn_lift
  by_cases q : m_S n am j = true
  · rw [if_pos q]; omega
  · rw [if_neg q]; omega
theorem m_lift_off {n : Int} {am lf : Nat} {P : Int → Int} {j : Int} (h : j < 4 ∨ 4 + n ≤ j) : m_lift n am lf P j = P j := by
  unfold m_lift pn_lift
  exact if_neg (fun q => by have := m_S_iff.mp q; omega)
theorem pn_Re.mono2 {n : Int} {G : (Int → Int) → Int → Int} {S S' : Int → Prop} {P P' : Int → Int} (h : pn_Re n G S P P') (hS : ∀ z, pn_zone n z → S z → S' z) : pn_Re n G S' P P' :=
  fun I h0 hs => h I h0 (fun Q z v hQ hz hS0 hv hg => hs Q z v hQ hz (hS z hz hS0) hv hg)
def m_s8 (P : Int → Int) : Int := P 4 + P 5 + P 6 + P 7 + P 8 + P 9 + P 10 + P 11
theorem m_s8_le {P Q : Int → Int} (h : ∀ w, P w ≤ Q w) : m_s8 P ≤ m_s8 Q := by
  unfold m_s8
  have h4 := h 4
  have h5 := h 5
  have h6 := h 6
  have h7 := h 7
  have h8 := h 8
  have h9 := h 9
  have h10 := h 10
  have h11 := h 11
  omega
theorem m_s8_lt {P Q : Int → Int} (h : ∀ w, P w ≤ Q w) {t : Int} (h1 : 4 ≤ t) (h2 : t < 12) (hlt : P t < Q t) : m_s8 P < m_s8 Q := by
  unfold m_s8
  have h4 := h 4
  have h5 := h 5
  have h6 := h 6
  have h7 := h 7
  have h8 := h 8
  have h9 := h 9
  have h10 := h 10
  have h11 := h 11
  have h3 : t = 4 ∨ t = 5 ∨ t = 6 ∨ t = 7 ∨ t = 8 ∨ t = 9 ∨ t = 10 ∨ t = 11 := by omega
  rcases h3 with rfl | rfl | rfl | rfl | rfl | rfl | rfl | rfl <;> omega
theorem m_s8_past {P : Int → Int} (h : ¬ m_past P) : m_s8 P ≤ 40000 := by
  unfold m_s8
  have h4 := m_past_le h (j := 4) (by omega) (by omega)
  have h5 := m_past_le h (j := 5) (by omega) (by omega)
  have h6 := m_past_le h (j := 6) (by omega) (by omega)
  have h7 := m_past_le h (j := 7) (by omega) (by omega)
  have h8 := m_past_le h (j := 8) (by omega) (by omega)
  have h9 := m_past_le h (j := 9) (by omega) (by omega)
  have h10 := m_past_le h (j := 10) (by omega) (by omega)
  have h11 := m_past_le h (j := 11) (by omega) (by omega)
  omega
/-- what the making of a state keeps -/
def pn_I (n : Int) (wd : Int → Int) (G : (Int → Int) → Int → Int) (P : Int → Int) : Prop := pn_Be n wd G P ∧ pn_P5 P ∧ ∀ j, 4 + n ≤ j → j < 12 → P j ≤ 5000
theorem pn_I_bout {n : Int} {wd : Int → Int} {G : (Int → Int) → Int → Int} {am ro : Nat} {P Q : Int → Int} (hM : pn_Mono n G) (hn : 0 ≤ n) (h : pn_I n wd G P) (hB : pn_Bo n G am ro P Q) : pn_I n wd G Q ∧ m_s8 P ≤ m_s8 Q ∧ (ro ≠ 0 → m_s8 P < m_s8 Q) := by
  obtain ⟨h1, h2, h3⟩ := h
  have hg := hB.1.ge
  refine ⟨⟨hB.1.be hM h1, fun j a b => ?_, fun j a b => ?_⟩, m_s8_le hg, fun h0 => ?_⟩
  · have q1 := h2 j a b
    have q2 := hg j
    have q3 := hB.2.2.1 j
    omega
  · rw [hB.1.off j (fun q => by have := q.1.2; omega)]
    exact h3 j a b
  · rcases Classical.em (∃ z : Nat, z < 8 ∧ ro.testBit z = true) with ⟨z, hz, hb⟩ | hno
    · refine m_s8_lt hg (t := rw4 z) (by show 4 ≤ ((z + 4 : Nat) : Int); omega) (by show ((z + 4 : Nat) : Int) < 12; omega) ((hB.2.1 z hz).mp hb)
    · exact absurd (pn_tb0 (am := ro) (fun z hz => by
        cases hb : ro.testBit z
        · rfl
        · exact absurd ⟨z, hz, hb⟩ hno) hB.2.2.2) h0
theorem pn_I_lift {n : Int} {wd : Int → Int} {G : (Int → Int) → Int → Int} {am lf : Nat} {P Q : Int → Int} (hM : pn_Mono n G) (hn : 0 ≤ n) (hn8 : n ≤ 8) (h : pn_I n wd G P) (hnp : ¬ m_past (m_lift n am lf P)) (hB : pn_Bo n G am am (m_lift n am lf P) Q) : pn_I n wd G Q ∧ m_s8 P ≤ m_s8 Q := by
  obtain ⟨h1, h2, h3⟩ := h
  have hg := hB.1.ge
  have hge : ∀ w, P w ≤ Q w := fun w => Int.le_trans (m_lift_ge (n := n) (am := am) (lf := lf) w) (hg w)
  have hRe : pn_Re n G (fun w => m_S n am w = true) (m_lift n am lf P) Q := hB.1.mono2 (fun w hz ⟨z, hz8, e, hb⟩ => m_S_iff.mpr ⟨hz.1, hz.2, by rw [e, show (rw4 z - 4).toNat = z by show (((z + 4 : Nat) : Int) - 4).toNat = z; omega]; exact hb⟩)
  refine ⟨⟨?_, fun j a b => ?_, fun j a b => ?_⟩, m_s8_le hge⟩
  · refine pn_lifts hM (S := m_S n am) (fun w hw => by have := m_S_iff.mp hw; exact ⟨this.1, this.2.1⟩) (k := lf) h1 hRe (fun w hw => ?_)
    have hw2 := m_S_iff.mp hw
    have e : w = rw4 (w - 4).toNat := by show w = (((w - 4).toNat + 4 : Nat) : Int); omega
    have h5 := (hB.2.1 (w - 4).toNat (by omega)).mp hw2.2.2
    rw [← e] at h5
    exact h5
  · have q1 := h2 j a b
    have q2 := hge j
    have q3 := hB.2.2.1 j
    rcases Int.lt_or_le j 4 with z | z
    · rw [m_lift_off (Or.inl z)] at q3
      omega
    · have := m_past_le hnp z b
      omega
  · rw [hB.1.off j (fun q => by have := q.1.2; omega), m_lift_off (Or.inr a)]
    exact h3 j a b
theorem pn_end_no {n : Int} {wd : Int → Int} {G : (Int → Int) → Int → Int} {P : Int → Int} (h : pn_I n wd G P) (hp : m_past P) : ¬ ∃ Q, pn_St n wd G Q := by
  rintro ⟨Q, hQ⟩
  obtain ⟨h1, h2, h3⟩ := h
  refine absurd hp (m_past_no (fun j a b => ?_))
  rcases Int.lt_or_le j (4 + n) with z | z
  · have := h1.2 Q hQ j ⟨a, z⟩
    have := (hQ.2 j ⟨a, z⟩).2.1
    omega
  · exact h3 j z b
theorem pn_end_yes {n : Int} {wd : Int → Int} {G : (Int → Int) → Int → Int} {am : Nat} {P : Int → Int} (hn8 : n ≤ 8) (h : pn_I n wd G P) (hp : ¬ m_past P) (hno : pn_no n G am 8 P) (hall : ∀ z : Nat, z < 8 → (z : Int) < n → am.testBit z = true) : pn_St n wd G P := by
  obtain ⟨h1, h2, h3⟩ := h
  refine ⟨h1.1, fun z hz => ?_⟩
  obtain ⟨a, b⟩ := hz
  have e : z = rw4 (z - 4).toNat := by show z = (((z - 4).toNat + 4 : Nat) : Int); omega
  have q := hno (z - 4).toNat (by omega) (by omega) (by omega) (hall _ (by omega) (by omega))
  rw [← e] at q
  have q1 := h2 z (by omega) (by omega)
  have q2 := m_past_le hp a (by omega)
  exact ⟨q1.1, q2, by omega⟩
theorem pn_cpback {P Q be : Int → Int} (h : ∀ j, ¬ (0 ≤ j ∧ j < 12) → Q j = P j) : cp (cp P be ((0 : Nat) : Int) ((0 : Nat) : Int) ((12 : Nat) : Int)) Q ((0 : Nat) : Int) ((0 : Nat) : Int) ((12 : Nat) : Int) = P := by
  funext j
  unfold cp
  by_cases c : (((0 : Nat) : Int) ≤ j ∧ j < ((0 : Nat) : Int) + ((12 : Nat) : Int))
  · rw [if_pos c, if_pos (by omega)]
    congr 1
    omega
  · rw [if_neg c]
    exact h j (by omega)
end
section
theorem i3_pb (P : Int → Int) : i3 (m_pb P) := by
  rcases m_pb_01 P with h | h <;> rw [h] <;> exact ⟨by decide, by decide⟩
abbrev w_S_lifts : List Cond := .code y_S_lifts b_S_lifts 5 (some .boolean) :: pn_W
set_option maxHeartbeats 4000000 in
set_option maxRecDepth 100000 in
theorem c_S_lifts (l : Launch) {D : va_G} {a : Nat → Nat} {cI cL cD cS : ClassId} {nf : Nat → Int → Int} {ns : Nat → Int} {da : Int → Int → Int} {be : Int → Int} {ui ul : Nat → Int → Int} {cn : Int} {ss : Nat → Nat} {mf sd : Nat → Int} {pr : Nat → Int → Int} (sz : Nat) (k am lf : Nat) (hOk : pn_Ok nf ns da) (hk : k < 9) (h5 : pn_P5 (pr k)) (hss : ss k < 2 ^ 20) (ham : am < 256) (hlf : lf ≤ 10000) : Met l y_S_lifts w_S_lifts ({ frames := 5, cells := 0, slots := 0, locals := 139 }) (va_Pc [.ref (a 27), .ref (a (36 + 2 * k)), .int (iI (((am : Nat) : Int))), .int (iI (((lf : Nat) : Int)))] (fun U => U.heap.size = sz ∧ va_P D pn_cl (cw a cI cL cD cS nf ns da be ui ul cn ss mf sd pr) U.heap ∧ va_D (fun _ => True) (cw a cI cL cD cS nf ns da be ui ul cn ss mf sd pr) ∧ pn_E D cI cL cD cS U)) (va_Qi (fun (r : Int32) (u : (Int → Int) × (Int → Int)) => (r = iI 1 ∧ ¬ m_past (m_lift (ns 0) am lf (pr k)) ∧ pn_Bo (ns 0) (m_G nf da (ss k)) am am (m_lift (ns 0) am lf (pr k)) u.1) ∨ (r = iI 0 ∧ u.1 = pr k)) (fun u t => va_P D pn_cl ((fun u : (Int → Int) × (Int → Int) => cw a cI cL cD cS nf ns da (u.2) ui ul cn ss mf sd (nw pr k u.1)) u) t.heap ∧ va_D (va_A (cw a cI cL cD cS nf ns da be ui ul cn ss mf sd pr) sz) ((fun u : (Int → Int) × (Int → Int) => cw a cI cL cD cS nf ns da (u.2) ui ul cn ss mf sd (nw pr k u.1)) u)) (va_A (cw a cI cL cD cS nf ns da be ui ul cn ss mf sd pr) sz)) 0 0 (va_A (cw a cI cL cD cS nf ns da be ui ul cn ss mf sd pr) sz) := by
  refine Met.ofW (cc := b_S_lifts) (maxL := 5) (ret := (some .boolean)) (by decide) rfl ?_
  intro p e s m args below meth c s₁ B hml hv
  obtain ⟨rfl, hsz, hP, hD0, hE⟩ := hv
  have hx := B.exec
  have hb := B.bytes
  have hr := B.returns
  have hts := atoms_spec (ws := w_S_lifts) B.pre
  have ht : ∀ w ∈ pn_W, w.before _ s = true := fun w h => hts w (List.mem_cons_of_mem _ h)
  have hown : s.vm.findClass R_S = some m.cls := findClass_of_methodNamed B.named
  have hlocks := B.notSynchronized
  have hK := hE.1
  subst hsz
  have hD := hD0.self (sz := s.heap.size)
  generalize hAe : va_A (cw a cI cL cD cS nf ns da be ui ul cn ss mf sd pr) s.heap.size = A at hD ⊢
  have hA : ∀ q : Nat, s.heap.size ≤ q → A q := fun q h => by rw [← hAe]; exact Or.inr h
  have hS : va_S A s.heap s.heap [] := va_S.rf
  have hl := lv_entry ([.ref (a 27), .ref (a (36 + 2 * k)), .int (iI (((am : Nat) : Int))), .int (iI (((lf : Nat) : Int)))]) (n := 5) (Nat.le_of_ble_eq_true rfl)
  rw [lg_entry_eq]
  generalize (lg_sl ([.ref (a 27), .ref (a (36 + 2 * k)), .int (iI (((am : Nat) : Int))), .int (iI (((lf : Nat) : Int)))]) ++ List.replicate (5 - (lg_sl ([.ref (a 27), .ref (a (36 + 2 * k)), .int (iI (((am : Nat) : Int))), .int (iI (((lf : Nat) : Int)))])).length) Slot.unset).toArray = ls at hl ⊢
  have hl : lv_has ls 5 [(0, .ref (a 27)), (1, .ref (a (36 + 2 * k))), (2, .int (iI (((am : Nat) : Int)))), (3, .int (iI (((lf : Nat) : Int))))] := hl
  obtain ⟨o_zc, o_lc, o_fc, o_ve, o_wi, o_wa, o_vo, o_fr, o_to, o_he, o_ar, o_ki, o_st, o_ff, o_sl, o_dc, o_da⟩ := id hOk
  have loop : ∀ (n : Nat) (zz : Nat) (H : Heap) (locs : List Loc) (ls : Array Slot), ((zz : Int) ≤ ns 0) → (8 - zz) < n → va_P D pn_cl (cw a cI cL cD cS nf ns da (cp (pr k) be ((0 : Nat) : Int) ((0 : Nat) : Int) ((12 : Nat) : Int)) ui ul cn ss mf sd (nw pr k (m_lift ((zz : Nat) : Int) am lf (pr k)))) H → va_D A (cw a cI cL cD cS nf ns da (cp (pr k) be ((0 : Nat) : Int) ((0 : Nat) : Int) ((12 : Nat) : Int)) ui ul cn ss mf sd (nw pr k (m_lift ((zz : Nat) : Int) am lf (pr k)))) → va_S A s.heap H locs → lv_has ls 5 [(0, .ref (a 27)), (1, .ref (a (36 + 2 * k))), (2, .int (iI (((am : Nat) : Int)))), (3, .int (iI (((lf : Nat) : Int)))), (4, .int (iI (((zz : Nat) : Int))))] → W p l e (headSpec w_S_lifts ({ frames := 5, cells := 0, slots := 0, locals := 139 })).room s m ([.ref (a 27), .ref (a (36 + 2 * k)), .int (iI (((am : Nat) : Int))), .int (iI (((lf : Nat) : Int)))] : List Value).toArray below meth c H locs 0 0 (MQ below (va_Qi (fun (r : Int32) (u : (Int → Int) × (Int → Int)) => (r = iI 1 ∧ ¬ m_past (m_lift (ns 0) am lf (pr k)) ∧ pn_Bo (ns 0) (m_G nf da (ss k)) am am (m_lift (ns 0) am lf (pr k)) u.1) ∨ (r = iI 0 ∧ u.1 = pr k)) (fun u t => va_P D pn_cl ((fun u : (Int → Int) × (Int → Int) => cw a cI cL cD cS nf ns da (u.2) ui ul cn ss mf sd (nw pr k u.1)) u) t.heap ∧ va_D A ((fun u : (Int → Int) × (Int → Int) => cw a cI cL cD cS nf ns da (u.2) ui ul cn ss mf sd (nw pr k u.1)) u)) A) ([.ref (a 27), .ref (a (36 + 2 * k)), .int (iI (((am : Nat) : Int))), .int (iI (((lf : Nat) : Int)))] : List Value).toArray s 0 0 A) (F0 m 18 ls []) := by
    intro n
    induction n with
    | zero => intro zz H locs ls _ hm; exact absurd hm (Nat.not_lt_zero _)
    | succ n ih =>
      intro zz H locs ls q1 hm hP hD hS hl
      refine lv_iload hx hb d_S_lifts_18 (lv_at hl 4 rfl) ?_
      refine lv_aload_n hx hb d_S_lifts_20 rfl (lv_at hl 0 rfl) ?_
      refine va_get (D := D) (ci := 2) (v := .ref (a 1)) (C := R_S) (T := T_S) (N := 2) hx hb hts (in_S _) hown hK hP 27 rfl rfl 0 (by decide) (ht _ m_133) (fun _ h9 => h9) rfl d_S_lifts_21 ?_
      refine va_get (D := D) (ci := 1) (v := .int (iI (ns 0))) (C := R_N) (T := T_N) (N := 17) hx hb hts (in_N _) hown hK hP 1 rfl rfl 13 (by decide) (ht _ m_83) (fun _ h9 => h9) rfl d_S_lifts_24 ?_
      refine pr_icmp_ge (tgt := 59) hx hb (i3_of (by omega) (by omega)) (i3_of (by omega) (by omega)) d_S_lifts_27 (by decide) (fun c_1 => ?_) (fun c_1 => ?_)
      · skip
        have e9 : nw pr k (m_lift ((zz : Nat) : Int) am lf (pr k)) = nw pr k (m_lift (ns 0) am lf (pr k)) := by rw [show ((zz : Nat) : Int) = ns 0 by omega]
        rw [e9] at hP hD
        clear e9
        have hPrL : pn_Pr ((nw pr k (m_lift (ns 0) am lf (pr k))) k) := by rw [nw_s]; exact m_lift_pr h5 hlf
        refine lv_aload_n hx hb d_S_lifts_59 rfl (lv_at hl 0 rfl) ?_
        refine lv_aload_n hx hb d_S_lifts_60 rfl (lv_at hl 1 rfl) ?_
        refine pr_pi (va_runV (As := [.ref (a (36 + 2 * k))]) (rest := []) ⟨hx, hb, hml, hown, hts⟩ (c_S_isPastHighest l k hk hPrL) (cwV 1 hts (pn_gV m_435 m_437 m_9 m_35 m_438) rfl rfl rfl (by decide +kernel) ⟨Nat.le_of_ble_eq_true rfl, Nat.le_of_ble_eq_true rfl⟩) (pn_preV (q0 := 27) (ci := 2) (q := (R_S, T_S, 2)) hP hE rfl rfl) rfl rfl hl.1 rfl (lv_room (Nat.le_of_ble_eq_true rfl)) d_S_lifts_61 ⟨Nat.le_of_ble_eq_true rfl, Nat.le_of_ble_eq_true rfl⟩) ?_
        refine pr_ire (B := m_pb (m_lift (ns 0) am lf (pr k))) (by rw [nw_s]) ?_
        refine pr_if_ne (tgt := 79) hx hb (i3_pb _) d_S_lifts_64 (by decide) (fun c_2 => ?_) (fun c_2 => ?_)
        · replace c_2 := m_pb_1 c_2
          have hoff : ∀ j : Int, ¬ (0 ≤ j ∧ j < 12) → m_lift (ns 0) am lf (pr k) j = pr k j := fun j hj => m_lift_off (by omega)
          refine lv_aload_n hx hb d_S_lifts_79 rfl (lv_at hl 0 rfl) ?_
          refine va_get (D := D) (ci := 2) (v := .ref (a 28)) (C := R_S) (T := T_S) (N := 2) hx hb hts (in_S _) hown hK hP 27 rfl rfl 1 (by decide) (ht _ m_134) (fun _ h9 => h9) rfl d_S_lifts_80 ?_
          refine lv_iconst (v := iI (0)) hx hb d_S_lifts_83 rfl ?_
          refine lv_aload_n hx hb d_S_lifts_84 rfl (lv_at hl 1 rfl) ?_
          refine va_get (D := D) (ci := 3) (v := .ref (a (37 + 2 * k))) (C := R_T) (T := T_T) (N := 4) hx hb hts (in_T _) hown hK hP (36 + 2 * k) (cw_so k hk) rfl 0 (by decide) (ht _ m_175) (fun _ h9 => h9) rfl d_S_lifts_85 ?_
          refine lv_iconst (v := iI (0)) hx hb d_S_lifts_88 rfl ?_
          refine lv_bipush (v := iI (12)) hx hb d_S_lifts_89 (by decide) ?_
          refine pr_copyi (ws' := cw a cI cL cD cS nf ns da (cp (pr k) be ((0 : Nat) : Int) ((0 : Nat) : Int) ((12 : Nat) : Int)) ui ul cn ss mf sd (nw (nw pr k (m_lift (ns 0) am lf (pr k))) k (cp (cp (pr k) be ((0 : Nat) : Int) ((0 : Nat) : Int) ((12 : Nat) : Int)) ((nw pr k (m_lift (ns 0) am lf (pr k))) k) ((0 : Nat) : Int) ((0 : Nat) : Int) ((12 : Nat) : Int)))) hx hb (hml.trans hl.1.symm) hown (ht _ m_431) (ht _ m_nat) (ht _ m_432) (ht _ m_45) hK hP hD hS 28 (37 + 2 * k) 0 rfl (cw_sp k hk) rfl 0 0 12 (by decide) (by decide) (by decide) (by decide) (cw_upr _ hk) (Nat.le_of_ble_eq_true rfl) (Nat.le_of_ble_eq_true rfl) d_S_lifts_91 (fun H locs hP hD hS => ?_)
          have e9 : nw (nw pr k (m_lift (ns 0) am lf (pr k))) k (cp (cp (pr k) be ((0 : Nat) : Int) ((0 : Nat) : Int) ((12 : Nat) : Int)) ((nw pr k (m_lift (ns 0) am lf (pr k))) k) ((0 : Nat) : Int) ((0 : Nat) : Int) ((12 : Nat) : Int)) = nw pr k (pr k) := by rw [nw_nw, nw_s, pn_cpback hoff]
          rw [e9] at hP hD
          clear e9
          refine lv_iconst (v := iI (0)) hx hb d_S_lifts_94 rfl ?_
          exact W.zret (v := iI (0)) hx hb hr (by decide) (fun t ht hW => ⟨⟨iI (0), (pr k, cp (pr k) be ((0 : Nat) : Int) ((0 : Nat) : Int) ((12 : Nat) : Int)), rfl, Or.inr ⟨rfl, rfl⟩, by rw [ht]; exact hP, hD⟩, hS.F ht⟩) hS.2.2 d_S_lifts_95
        · replace c_2 := m_pb_0 c_2
          refine lv_aload_n hx hb d_S_lifts_67 rfl (lv_at hl 0 rfl) ?_
          refine lv_aload_n hx hb d_S_lifts_68 rfl (lv_at hl 1 rfl) ?_
          refine lv_iload_n hx hb d_S_lifts_69 rfl (lv_at hl 2 rfl) ?_
          refine pr_ci (va_runV (As := [.ref (a (36 + 2 * k)), .int (iI (((am : Nat) : Int)))]) (rest := []) ⟨hx, hb, hml, hown, hts⟩ (c_S_doBout l (pr := nw pr k (m_lift (ns 0) am lf (pr k))) H.size k am hOk hk hPrL hss ham) (cwV 2 hts (pn_gV m_439 m_441 m_10 m_35 m_442) rfl rfl rfl (by decide +kernel) ⟨Nat.le_of_ble_eq_true rfl, Nat.le_of_ble_eq_true rfl⟩) (pn_preW (q0 := 27) (ci := 2) (q := (R_S, T_S, 2)) hP hD hE rfl rfl) rfl rfl hl.1 rfl (lv_room (Nat.le_of_ble_eq_true rfl)) d_S_lifts_70 ⟨Nat.le_of_ble_eq_true rfl, Nat.le_of_ble_eq_true rfl⟩) hD hS hA (fun r u H locs hw hP hD hS => ?_)
          obtain ⟨ro, Q⟩ := u
          simp only [nw_s] at hw
          try dsimp only at hP hD
          rw [nw_nw] at hP hD
          obtain ⟨rfl, hB, hno⟩ := hw
          have b1 := hB.2.2.2
          refine lv_iload_n hx hb d_S_lifts_73 rfl (lv_at hl 2 rfl) ?_
          refine pr_icmp_ne (tgt := 79) hx hb (i3_of (by omega) (by omega)) (i3_of (by omega) (by omega)) d_S_lifts_74 (by decide) (fun c_3 => ?_) (fun c_3 => ?_)
          · skip
            have hoff : ∀ j : Int, ¬ (0 ≤ j ∧ j < 12) → Q j = pr k j := fun j hj => (hB.1.off j (fun q => by have := q.1; unfold pn_zone at this; omega)).trans (m_lift_off (by omega))
            refine lv_aload_n hx hb d_S_lifts_79 rfl (lv_at hl 0 rfl) ?_
            refine va_get (D := D) (ci := 2) (v := .ref (a 28)) (C := R_S) (T := T_S) (N := 2) hx hb hts (in_S _) hown hK hP 27 rfl rfl 1 (by decide) (ht _ m_134) (fun _ h9 => h9) rfl d_S_lifts_80 ?_
            refine lv_iconst (v := iI (0)) hx hb d_S_lifts_83 rfl ?_
            refine lv_aload_n hx hb d_S_lifts_84 rfl (lv_at hl 1 rfl) ?_
            refine va_get (D := D) (ci := 3) (v := .ref (a (37 + 2 * k))) (C := R_T) (T := T_T) (N := 4) hx hb hts (in_T _) hown hK hP (36 + 2 * k) (cw_so k hk) rfl 0 (by decide) (ht _ m_175) (fun _ h9 => h9) rfl d_S_lifts_85 ?_
            refine lv_iconst (v := iI (0)) hx hb d_S_lifts_88 rfl ?_
            refine lv_bipush (v := iI (12)) hx hb d_S_lifts_89 (by decide) ?_
            refine pr_copyi (ws' := cw a cI cL cD cS nf ns da (cp (pr k) be ((0 : Nat) : Int) ((0 : Nat) : Int) ((12 : Nat) : Int)) ui ul cn ss mf sd (nw (nw pr k Q) k (cp (cp (pr k) be ((0 : Nat) : Int) ((0 : Nat) : Int) ((12 : Nat) : Int)) ((nw pr k Q) k) ((0 : Nat) : Int) ((0 : Nat) : Int) ((12 : Nat) : Int)))) hx hb (hml.trans hl.1.symm) hown (ht _ m_431) (ht _ m_nat) (ht _ m_432) (ht _ m_45) hK hP hD hS 28 (37 + 2 * k) 0 rfl (cw_sp k hk) rfl 0 0 12 (by decide) (by decide) (by decide) (by decide) (cw_upr _ hk) (Nat.le_of_ble_eq_true rfl) (Nat.le_of_ble_eq_true rfl) d_S_lifts_91 (fun H locs hP hD hS => ?_)
            have e9 : nw (nw pr k Q) k (cp (cp (pr k) be ((0 : Nat) : Int) ((0 : Nat) : Int) ((12 : Nat) : Int)) ((nw pr k Q) k) ((0 : Nat) : Int) ((0 : Nat) : Int) ((12 : Nat) : Int)) = nw pr k (pr k) := by rw [nw_nw, nw_s, pn_cpback hoff]
            rw [e9] at hP hD
            clear e9
            refine lv_iconst (v := iI (0)) hx hb d_S_lifts_94 rfl ?_
            exact W.zret (v := iI (0)) hx hb hr (by decide) (fun t ht hW => ⟨⟨iI (0), (pr k, cp (pr k) be ((0 : Nat) : Int) ((0 : Nat) : Int) ((12 : Nat) : Int)), rfl, Or.inr ⟨rfl, rfl⟩, by rw [ht]; exact hP, hD⟩, hS.F ht⟩) hS.2.2 d_S_lifts_95
          · skip
            refine lv_iconst (v := iI (1)) hx hb d_S_lifts_77 rfl ?_
            exact W.zret (v := iI (1)) hx hb hr (by decide) (fun t ht hW => ⟨⟨iI (1), (Q, cp (pr k) be ((0 : Nat) : Int) ((0 : Nat) : Int) ((12 : Nat) : Int)), rfl, Or.inl ⟨rfl, by assumption, by rw [show ro = am by omega] at hB; exact hB⟩, by rw [ht]; exact hP, hD⟩, hS.F ht⟩) hS.2.2 d_S_lifts_78
      · skip
        refine lv_iload_n hx hb d_S_lifts_30 rfl (lv_at hl 2 rfl) ?_
        refine lv_iload hx hb d_S_lifts_31 (lv_at hl 4 rfl) ?_
        refine lv_ishr hx hb d_S_lifts_33 ?_
        refine lv_iconst (v := iI 1) hx hb d_S_lifts_34 rfl ?_
        refine lv_iand hx hb d_S_lifts_35 ?_
        refine pr_ixe (B := b2 ((am).testBit (zz) = true)) (nb_bit (by omega) (by omega)) ?_
        refine pr_if_eq (tgt := 53) hx hb (i3_b2 _) d_S_lifts_36 (by decide) (fun c_4 => ?_) (fun c_4 => ?_)
        · replace c_4 := b2_0 c_4
          have e9 : nw pr k (m_lift ((zz : Nat) : Int) am lf (pr k)) = nw pr k (m_lift ((zz + 1 : Nat) : Int) am lf (pr k)) := by rw [m_lift_f (by assumption)]
          rw [e9] at hP hD
          clear e9
          refine lv_iinc (v := iI (((zz : Nat) : Int) + 1)) (lv' := [(4, .int (iI (((zz : Nat) : Int) + 1))), (0, .ref (a 27)), (1, .ref (a (36 + 2 * k))), (2, .int (iI (((am : Nat) : Int)))), (3, .int (iI (((lf : Nat) : Int))))]) hx hb d_S_lifts_53 hl (k := 4) rfl (iI_add _ _).symm (by decide) rfl (fun ls hl => ?_)
          refine lv_goto (tgt := 18) hx hb d_S_lifts_56 (by decide) ?_
          exact ih (zz + 1) _ _ ls (by omega) (by omega) hP hD hS (lv_sub hl [1, 2, 3, 4, 0] rfl)
        · replace c_4 := b2_n1 c_4
          refine lv_aload_n hx hb d_S_lifts_39 rfl (lv_at hl 1 rfl) ?_
          refine va_get (D := D) (ci := 3) (v := .ref (a (37 + 2 * k))) (C := R_T) (T := T_T) (N := 4) hx hb hts (in_T _) hown hK hP (36 + 2 * k) (cw_so k hk) rfl 0 (by decide) (ht _ m_175) (fun _ h9 => h9) rfl d_S_lifts_40 ?_
          refine lv_iload hx hb d_S_lifts_43 (lv_at hl 4 rfl) ?_
          refine pr_pi (va_runSN (As := [.int (iI (((zz : Nat) : Int)))]) (rest := [.ref (a (37 + 2 * k))]) ⟨hx, hb, hml, hown, hts⟩ (c_P_rowOf l (((zz : Nat) : Int))) ⟨va_cnB 1 hts (pn_g m_326) rfl rfl rfl (hE.2 _ (List.mem_of_getElem? (i := 4) rfl)) (ht _ m_33) (by decide +kernel) ⟨Nat.le_of_ble_eq_true rfl, Nat.le_of_ble_eq_true rfl⟩, ht _ m_325, trivial⟩ pn_pre0 rfl rfl hl.1 rfl (lv_room (Nat.le_of_ble_eq_true rfl)) d_S_lifts_45 ⟨Nat.le_of_ble_eq_true rfl, Nat.le_of_ble_eq_true rfl⟩) ?_
          refine pr_ire (B := ((zz + 4 : Nat) : Int)) (by omega) ?_
          refine lv_dup2_11 hx hb d_S_lifts_48 rfl rfl ?_
          refine pr_iald hx hb hK hP (37 + 2 * k) 0 (cw_sp k hk) rfl (by decide) (by omega) (by omega) d_S_lifts_49 ?_
          refine lv_iload_n hx hb d_S_lifts_50 rfl (lv_at hl 3 rfl) ?_
          refine pr_iadd hx hb d_S_lifts_51 ?_
          refine pr_iast (ws' := cw a cI cL cD cS nf ns da (cp (pr k) be ((0 : Nat) : Int) ((0 : Nat) : Int) ((12 : Nat) : Int)) ui ul cn ss mf sd (nw (nw pr k (m_lift ((zz : Nat) : Int) am lf (pr k))) k (pu ((nw pr k (m_lift ((zz : Nat) : Int) am lf (pr k))) k) (((zz + 4 : Nat) : Int)) (((nw pr k (m_lift ((zz : Nat) : Int) am lf (pr k))) k (((zz + 4 : Nat) : Int))) + (((lf : Nat) : Int)))))) hx hb hK hP hD hS (37 + 2 * k) 0 (cw_sp k hk) rfl (by decide) (by omega) (by omega) (cw_upr _ hk) d_S_lifts_52 (fun H locs hP hD hS => ?_)
          have e9 : nw (nw pr k (m_lift ((zz : Nat) : Int) am lf (pr k))) k (pu ((nw pr k (m_lift ((zz : Nat) : Int) am lf (pr k))) k) (((zz + 4 : Nat) : Int)) (((nw pr k (m_lift ((zz : Nat) : Int) am lf (pr k))) k (((zz + 4 : Nat) : Int))) + (((lf : Nat) : Int)))) = nw pr k (m_lift ((zz + 1 : Nat) : Int) am lf (pr k)) := by rw [nw_nw, nw_s, m_lift_t (by assumption)]
          rw [e9] at hP hD
          clear e9
          refine lv_iinc (v := iI (((zz : Nat) : Int) + 1)) (lv' := [(4, .int (iI (((zz : Nat) : Int) + 1))), (0, .ref (a 27)), (1, .ref (a (36 + 2 * k))), (2, .int (iI (((am : Nat) : Int)))), (3, .int (iI (((lf : Nat) : Int))))]) hx hb d_S_lifts_53 hl (k := 4) rfl (iI_add _ _).symm (by decide) rfl (fun ls hl => ?_)
          refine lv_goto (tgt := 18) hx hb d_S_lifts_56 (by decide) ?_
          exact ih (zz + 1) _ _ ls (by omega) (by omega) hP hD hS (lv_sub hl [1, 2, 3, 4, 0] rfl)
  refine lv_aload_n hx hb d_S_lifts_0 rfl (lv_at hl 1 rfl) ?_
  refine va_get (D := D) (ci := 3) (v := .ref (a (37 + 2 * k))) (C := R_T) (T := T_T) (N := 4) hx hb hts (in_T _) hown hK hP (36 + 2 * k) (cw_so k hk) rfl 0 (by decide) (ht _ m_175) (fun _ h9 => h9) rfl d_S_lifts_1 ?_
  refine lv_iconst (v := iI (0)) hx hb d_S_lifts_4 rfl ?_
  refine lv_aload_n hx hb d_S_lifts_5 rfl (lv_at hl 0 rfl) ?_
  refine va_get (D := D) (ci := 2) (v := .ref (a 28)) (C := R_S) (T := T_S) (N := 2) hx hb hts (in_S _) hown hK hP 27 rfl rfl 1 (by decide) (ht _ m_134) (fun _ h9 => h9) rfl d_S_lifts_6 ?_
  refine lv_iconst (v := iI (0)) hx hb d_S_lifts_9 rfl ?_
  refine lv_bipush (v := iI (12)) hx hb d_S_lifts_10 (by decide) ?_
  refine pr_copyi (ws' := cw a cI cL cD cS nf ns da (cp (pr k) (be) ((0 : Nat) : Int) ((0 : Nat) : Int) ((12 : Nat) : Int)) ui ul cn ss mf sd pr) hx hb (hml.trans hl.1.symm) hown (ht _ m_431) (ht _ m_nat) (ht _ m_432) (ht _ m_45) hK hP hD hS (37 + 2 * k) 28 0 (cw_sp k hk) rfl rfl 0 0 12 (by decide) (by decide) (by decide) (by decide) rfl (Nat.le_of_ble_eq_true rfl) (Nat.le_of_ble_eq_true rfl) d_S_lifts_12 (fun H locs hP hD hS => ?_)
  refine lv_iconst (v := iI (0)) hx hb d_S_lifts_15 rfl ?_
  refine lv_istore (lv' := [(4, .int (iI (0))), (0, .ref (a 27)), (1, .ref (a (36 + 2 * k))), (2, .int (iI (((am : Nat) : Int)))), (3, .int (iI (((lf : Nat) : Int))))]) hx hb d_S_lifts_16 hl (by decide) rfl (fun ls hl => ?_)
  have hP : va_P D pn_cl (cw a cI cL cD cS nf ns da (cp (pr k) be ((0 : Nat) : Int) ((0 : Nat) : Int) ((12 : Nat) : Int)) ui ul cn ss mf sd (nw pr k (m_lift ((0 : Nat) : Int) am lf (pr k)))) H := by rw [show ((0 : Nat) : Int) = 0 from rfl, m_lift_0, nw_self]; exact hP
  have hD : va_D A (cw a cI cL cD cS nf ns da (cp (pr k) be ((0 : Nat) : Int) ((0 : Nat) : Int) ((12 : Nat) : Int)) ui ul cn ss mf sd (nw pr k (m_lift ((0 : Nat) : Int) am lf (pr k)))) := by rw [show ((0 : Nat) : Int) = 0 from rfl, m_lift_0, nw_self]; exact hD
  exact loop _ (0) _ _ ls (by omega) (Nat.lt_succ_self _) hP hD hS (lv_sub hl [1, 2, 3, 4, 0] rfl)
end
section
/-! the making of a state -/
def m_al (n : Int) : Nat := 2 ^ n.toNat - 1
theorem m_al_lt {n : Int} (h : n ≤ 8) : m_al n < 256 := by
  unfold m_al
  have h1 : 2 ^ n.toNat ≤ 2 ^ 8 := Nat.pow_le_pow_right (by decide) (by omega)
  have h2 : (2 : Nat) ^ 8 = 256 := by decide
  have h3 := Nat.two_pow_pos n.toNat
  omega
theorem m_al_bit {n : Int} {z : Nat} (h : (z : Int) < n) : (m_al n).testBit z = true := by
  unfold m_al
  rw [Nat.testBit_two_pow_sub_one]
  exact decide_eq_true (by omega)
theorem m_al_0 {n : Int} (h0 : 0 ≤ n) (h : m_al n = 0) : n = 0 := by
  rcases Int.lt_or_le 0 n with q | q
  · have := m_al_bit (n := n) (z := 0) (by omega)
    rw [h] at this
    simp at this
  · omega
theorem m_al_v (n : Int) : ((2 ^ n.toNat : Nat) : Int) - 1 = ((m_al n : Nat) : Int) := by
  unfold m_al
  have h3 := Nat.two_pow_pos n.toNat
  omega
abbrev m_beg (wd f : Int → Int) : Int → Int := cp wd (fl 12 (-5000) f) ((0 : Nat) : Int) ((0 : Nat) : Int) ((4 : Nat) : Int)
theorem m_beg_s {wd f : Int → Int} {j : Int} (h0 : 0 ≤ j) (h : j < 4) : m_beg wd f j = wd j := by
  unfold m_beg cp
  rw [if_pos (by omega)]
  congr 1
  omega
theorem m_beg_z {wd f : Int → Int} {j : Int} (h0 : 4 ≤ j) (h : j < 12) : m_beg wd f j = -5000 := by
  unfold m_beg cp fl
  rw [if_neg (by omega), if_pos (by omega)]
theorem pn_I_beg {n : Int} {wd f : Int → Int} {G : (Int → Int) → Int → Int} (h00 : 0 ≤ n) (hn : n ≤ 8) (hwd : ∀ j, 0 ≤ j → j < 4 → -1000 ≤ wd j ∧ wd j ≤ 1000) : pn_I n wd G (m_beg wd f) := by
  refine ⟨⟨fun w h0 hw => m_beg_s h0 hw, fun Q hQ z hz => ?_⟩, fun j a b => ?_, fun j a b => ?_⟩
  · rw [m_beg_z hz.1 (by have := hz.2; omega)]
    exact (hQ.2 z hz).1
  · rcases Int.lt_or_le j 4 with q | q
    · rw [m_beg_s a q]
      have := hwd j a q
      omega
    · rw [m_beg_z q b]
      omega
  · rw [m_beg_z (by omega) b]
    omega
theorem m_s8_beg {wd f : Int → Int} : m_s8 (m_beg wd f) = -40000 := by
  unfold m_s8
  rw [m_beg_z (j := 4) (by omega) (by omega), m_beg_z (j := 5) (by omega) (by omega), m_beg_z (j := 6) (by omega) (by omega), m_beg_z (j := 7) (by omega) (by omega), m_beg_z (j := 8) (by omega) (by omega), m_beg_z (j := 9) (by omega) (by omega), m_beg_z (j := 10) (by omega) (by omega), m_beg_z (j := 11) (by omega) (by omega)]
  decide
theorem pn_fin {n : Int} {wd : Int → Int} {G : (Int → Int) → Int → Int} {ro kk : Nat} {Q : Int → Int} (hn8 : n ≤ 8) (hex : (80009 : Int) ≤ (kk : Int) ∨ (ro : Int) = 0 ∨ m_past Q) (q2 : pn_I n wd G Q) (q4 : ro = 0 → pn_no n G (m_al n) 8 Q) (q5 : ro ≠ 0 → (kk : Int) ≤ m_s8 Q + 40000) (hp : ¬ m_past Q) : pn_St n wd G Q ∧ pn_Be n wd G Q := by
  have h1 := m_s8_past hp
  have h0 : ro = 0 := by
    rcases hex with h | h | h
    · rcases Nat.eq_zero_or_pos ro with z | z
      · exact z
      · have := q5 (by omega)
        omega
    · omega
    · exact absurd h hp
  exact ⟨pn_end_yes hn8 q2 hp (q4 h0) (fun z _ hz => m_al_bit hz), q2.1⟩
end
section
abbrev w_S_settles : List Cond := .code y_S_settles b_S_settles 6 (some .boolean) :: pn_W
set_option maxHeartbeats 4000000 in
set_option maxRecDepth 100000 in
theorem c_S_settles (l : Launch) {D : va_G} {a : Nat → Nat} {cI cL cD cS : ClassId} {nf : Nat → Int → Int} {ns : Nat → Int} {da : Int → Int → Int} {be : Int → Int} {ui ul : Nat → Int → Int} {cn : Int} {ss : Nat → Nat} {mf sd : Nat → Int} {pr : Nat → Int → Int} (sz : Nat) (k : Nat) (hOk : pn_Ok nf ns da) (hk : k < 9) (hM : pn_Mono (ns 0) (m_G nf da (ss k))) (hss : ss k < 2 ^ 20) (hsd : sd k = 0 ∨ sd k = 1) (hmf : -1 ≤ mf k ∧ mf k ≤ 512) : Met l y_S_settles w_S_settles ({ frames := 6, cells := 0, slots := 0, locals := 163 }) (va_Pc [.ref (a 27), .ref (a (36 + 2 * k))] (fun U => U.heap.size = sz ∧ va_P D pn_cl (cw a cI cL cD cS nf ns da be ui ul cn ss mf sd pr) U.heap ∧ va_D (fun _ => True) (cw a cI cL cD cS nf ns da be ui ul cn ss mf sd pr) ∧ pn_E D cI cL cD cS U)) (va_Qi (fun (r : Int32) (u : (Int → Int) × (Int → Int) × Int × Int) => r = iI u.2.2.2 ∧ ((mf k = ns 3 ∧ u.1 = pr k ∧ u.2.2.1 = mf k ∧ u.2.2.2 = sd k) ∨ (mf k ≠ ns 3 ∧ u.2.2.1 = ns 3 ∧ pn_P5 u.1 ∧ ((u.2.2.2 = 1 ∧ pn_St (ns 0) (nf 0) (m_G nf da (ss k)) u.1 ∧ pn_Be (ns 0) (nf 0) (m_G nf da (ss k)) u.1) ∨ (u.2.2.2 = 0 ∧ ¬ ∃ Q, pn_St (ns 0) (nf 0) (m_G nf da (ss k)) Q))))) (fun u t => va_P D pn_cl ((fun u : (Int → Int) × (Int → Int) × Int × Int => cw a cI cL cD cS nf ns da u.2.1 ui ul cn ss (nw mf k u.2.2.1) (nw sd k u.2.2.2) (nw pr k u.1)) u) t.heap ∧ va_D (va_A (cw a cI cL cD cS nf ns da be ui ul cn ss mf sd pr) sz) ((fun u : (Int → Int) × (Int → Int) × Int × Int => cw a cI cL cD cS nf ns da u.2.1 ui ul cn ss (nw mf k u.2.2.1) (nw sd k u.2.2.2) (nw pr k u.1)) u)) (va_A (cw a cI cL cD cS nf ns da be ui ul cn ss mf sd pr) sz)) 0 0 (va_A (cw a cI cL cD cS nf ns da be ui ul cn ss mf sd pr) sz) := by
  refine Met.ofW (cc := b_S_settles) (maxL := 6) (ret := (some .boolean)) (by decide) rfl ?_
  intro p e s m args below meth c s₁ B hml hv
  obtain ⟨rfl, hsz, hP, hD0, hE⟩ := hv
  have hx := B.exec
  have hb := B.bytes
  have hr := B.returns
  have hts := atoms_spec (ws := w_S_settles) B.pre
  have ht : ∀ w ∈ pn_W, w.before _ s = true := fun w h => hts w (List.mem_cons_of_mem _ h)
  have hown : s.vm.findClass R_S = some m.cls := findClass_of_methodNamed B.named
  have hlocks := B.notSynchronized
  have hK := hE.1
  subst hsz
  have hD := hD0.self (sz := s.heap.size)
  generalize hAe : va_A (cw a cI cL cD cS nf ns da be ui ul cn ss mf sd pr) s.heap.size = A at hD ⊢
  have hA : ∀ q : Nat, s.heap.size ≤ q → A q := fun q h => by rw [← hAe]; exact Or.inr h
  have hS : va_S A s.heap s.heap [] := va_S.rf
  have hl := lv_entry ([.ref (a 27), .ref (a (36 + 2 * k))]) (n := 6) (Nat.le_of_ble_eq_true rfl)
  rw [lg_entry_eq]
  generalize (lg_sl ([.ref (a 27), .ref (a (36 + 2 * k))]) ++ List.replicate (6 - (lg_sl ([.ref (a 27), .ref (a (36 + 2 * k))])).length) Slot.unset).toArray = ls at hl ⊢
  have hl : lv_has ls 6 [(0, .ref (a 27)), (1, .ref (a (36 + 2 * k)))] := hl
  obtain ⟨o_zc, o_lc, o_fc, o_ve, o_wi, o_wa, o_vo, o_fr, o_to, o_he, o_ar, o_ki, o_st, o_ff, o_sl, o_dc, o_da⟩ := id hOk
  by_cases hne : mf k = ns 3
  · skip
    refine lv_aload_n hx hb d_S_settles_0 rfl (lv_at hl 1 rfl) ?_
    refine va_get (D := D) (ci := 3) (v := .int (iI (mf k))) (C := R_T) (T := T_T) (N := 4) hx hb hts (in_T _) hown hK hP (36 + 2 * k) (cw_so k hk) rfl 2 (by decide) (ht _ m_182) (fun _ h9 => h9) rfl d_S_settles_1 ?_
    refine lv_aload_n hx hb d_S_settles_4 rfl (lv_at hl 0 rfl) ?_
    refine va_get (D := D) (ci := 2) (v := .ref (a 1)) (C := R_S) (T := T_S) (N := 2) hx hb hts (in_S _) hown hK hP 27 rfl rfl 0 (by decide) (ht _ m_133) (fun _ h9 => h9) rfl d_S_settles_5 ?_
    refine va_get (D := D) (ci := 1) (v := .int (iI (ns 3))) (C := R_N) (T := T_N) (N := 17) hx hb hts (in_N _) hown hK hP 1 rfl rfl 16 (by decide) (ht _ m_90) (fun _ h9 => h9) rfl d_S_settles_8 ?_
    refine pr_icmp_ne (tgt := 19) hx hb (i3_of (by omega) (by omega)) (i3_of (by omega) (by omega)) d_S_settles_11 (by decide) (fun c_1 => ?_) (fun c_1 => ?_)
    · skip
      exact absurd hne c_1
    · skip
      refine lv_aload_n hx hb d_S_settles_14 rfl (lv_at hl 1 rfl) ?_
      refine va_get (D := D) (ci := 3) (v := .int (iI (sd k))) (C := R_T) (T := T_T) (N := 4) hx hb hts (in_T _) hown hK hP (36 + 2 * k) (cw_so k hk) rfl 3 (by decide) (ht _ m_185) (fun _ h9 => h9) rfl d_S_settles_15 ?_
      have hP : va_P D pn_cl (cw a cI cL cD cS nf ns da be ui ul cn ss (nw mf k (mf k)) (nw sd k (sd k)) (nw pr k (pr k))) s.heap := by rw [nw_self, nw_self, nw_self]; exact hP
      have hD : va_D A (cw a cI cL cD cS nf ns da be ui ul cn ss (nw mf k (mf k)) (nw sd k (sd k)) (nw pr k (pr k))) := by rw [nw_self, nw_self, nw_self]; exact hD
      exact W.zret (v := iI (sd k)) hx hb hr (by rcases hsd with h | h <;> rw [h] <;> decide) (fun t ht hW => ⟨⟨iI (sd k), (pr k, be, mf k, sd k), rfl, ⟨rfl, Or.inl ⟨by omega, rfl, rfl, rfl⟩⟩, by rw [ht]; exact hP, hD⟩, hS.F ht⟩) hS.2.2 d_S_settles_18
  · skip
    have main : ∀ (n : Nat) (kk : Nat) (ro : Nat) (Q : Int → Int) (bb : Int → Int) (H : Heap) (locs : List Loc) (ls : Array Slot), (kk ≤ 80009) → (pn_I (ns 0) (nf 0) (m_G nf da (ss k)) Q) → (ro < 256) → (ro = 0 → pn_no (ns 0) (m_G nf da (ss k)) (m_al (ns 0)) 8 Q) → (ro ≠ 0 → (kk : Int) ≤ m_s8 Q + 40000) → (80009 - kk) < n → va_P D pn_cl (cw a cI cL cD cS nf ns da bb ui ul cn ss mf sd (nw pr k Q)) H → va_D A (cw a cI cL cD cS nf ns da bb ui ul cn ss mf sd (nw pr k Q)) → va_S A s.heap H locs → lv_has ls 6 [(0, .ref (a 27)), (1, .ref (a (36 + 2 * k))), (2, .int (iI (((m_al (ns 0) : Nat) : Int)))), (3, .int (iI (((ro : Nat) : Int)))), (4, .int (iI (((kk : Nat) : Int))))] → W p l e (headSpec w_S_settles ({ frames := 6, cells := 0, slots := 0, locals := 163 })).room s m ([.ref (a 27), .ref (a (36 + 2 * k))] : List Value).toArray below meth c H locs 0 0 (MQ below (va_Qi (fun (r : Int32) (u : (Int → Int) × (Int → Int) × Int × Int) => r = iI u.2.2.2 ∧ ((mf k = ns 3 ∧ u.1 = pr k ∧ u.2.2.1 = mf k ∧ u.2.2.2 = sd k) ∨ (mf k ≠ ns 3 ∧ u.2.2.1 = ns 3 ∧ pn_P5 u.1 ∧ ((u.2.2.2 = 1 ∧ pn_St (ns 0) (nf 0) (m_G nf da (ss k)) u.1 ∧ pn_Be (ns 0) (nf 0) (m_G nf da (ss k)) u.1) ∨ (u.2.2.2 = 0 ∧ ¬ ∃ Q, pn_St (ns 0) (nf 0) (m_G nf da (ss k)) Q))))) (fun u t => va_P D pn_cl ((fun u : (Int → Int) × (Int → Int) × Int × Int => cw a cI cL cD cS nf ns da u.2.1 ui ul cn ss (nw mf k u.2.2.1) (nw sd k u.2.2.2) (nw pr k u.1)) u) t.heap ∧ va_D A ((fun u : (Int → Int) × (Int → Int) × Int × Int => cw a cI cL cD cS nf ns da u.2.1 ui ul cn ss (nw mf k u.2.2.1) (nw sd k u.2.2.2) (nw pr k u.1)) u)) A) ([.ref (a 27), .ref (a (36 + 2 * k))] : List Value).toArray s 0 0 A) (F0 m 41 ls []) := by
      intro n
      induction n with
      | zero => intro kk ro Q bb H locs ls _ _ _ _ _ hm; exact absurd hm (Nat.not_lt_zero _)
      | succ n ih =>
        intro kk ro Q bb H locs ls q1 q2 q3 q4 q5 hm hP hD hS hl
        refine lv_iload hx hb d_S_settles_41 (lv_at hl 4 rfl) ?_
        refine lv_ldc (v := iI (80009)) hx hb hown (ht (.constant _ 41 (iI (80009))) m_434) d_S_settles_43 ?_
        refine pr_icmp_ge (tgt := 137) hx hb (i3_of (by omega) (by omega)) (i3_of (by decide) (by decide)) d_S_settles_45 (by decide) (fun c_2 => ?_) (fun c_2 => ?_)
        · skip
          have hex : (80009 : Int) ≤ (kk : Int) ∨ (ro : Int) = 0 ∨ m_past Q := by first | exact Or.inl (by omega) | exact Or.inr (Or.inl (by omega)) | exact Or.inr (Or.inr (by with_reducible assumption))
          have hPrQ : pn_Pr ((nw pr k Q) k) := by rw [nw_s]; exact q2.2.1.pr
          refine lv_aload_n hx hb d_S_settles_137 rfl (lv_at hl 1 rfl) ?_
          refine lv_aload_n hx hb d_S_settles_138 rfl (lv_at hl 0 rfl) ?_
          refine lv_aload_n hx hb d_S_settles_139 rfl (lv_at hl 1 rfl) ?_
          refine pr_pi (va_runV (As := [.ref (a (36 + 2 * k))]) (rest := [.ref (a (36 + 2 * k))]) ⟨hx, hb, hml, hown, hts⟩ (c_S_isPastHighest l k hk hPrQ) (cwV 1 hts (pn_gV m_435 m_437 m_9 m_35 m_438) rfl rfl rfl (by decide +kernel) ⟨Nat.le_of_ble_eq_true rfl, Nat.le_of_ble_eq_true rfl⟩) (pn_preV (q0 := 27) (ci := 2) (q := (R_S, T_S, 2)) hP hE rfl rfl) rfl rfl hl.1 rfl (lv_room (Nat.le_of_ble_eq_true rfl)) d_S_settles_140 ⟨Nat.le_of_ble_eq_true rfl, Nat.le_of_ble_eq_true rfl⟩) ?_
          refine pr_ire (B := m_pb (Q)) (by rw [nw_s]) ?_
          refine pr_if_ne (tgt := 150) hx hb (i3_pb _) d_S_settles_143 (by decide) (fun c_3 => ?_) (fun c_3 => ?_)
          · replace c_3 := m_pb_1 c_3
            refine lv_iconst (v := iI (0)) hx hb d_S_settles_150 rfl ?_
            refine va_put (D := D) (ci := 3) (v := .int (iI (0))) (ty := .boolean) (C := R_T) (T := T_T) (N := 4) hx hb hts (in_T _) ty_T ty_T_ok nm_T hown hK hP hD hS (36 + 2 * k) (cw_so k hk) rfl 3 (by decide) (ht _ m_185) (fun _ h9 => h9) rfl (by decide +kernel) (by decide) (by decide) (Nat.le_of_ble_eq_true rfl) d_S_settles_151 (fun H locs hP hD hS => ?_)
            have e9 := cw_usd (a := a) (cI := cI) (cL := cL) (cD := cD) (cS := cS) (nf := nf) (ns := ns) (da := da) (be := bb) (ui := ui) (ul := ul) (cn := cn) (ss := ss) (mf := mf) (sd := sd) (pr := nw pr k Q) (x := 0) k hk
            have hP : va_P D pn_cl (cw a cI cL cD cS nf ns da bb ui ul cn ss mf (nw sd k (0)) (nw pr k Q)) H := by rw [← e9]; exact hP
            have hD : va_D A (cw a cI cL cD cS nf ns da bb ui ul cn ss mf (nw sd k (0)) (nw pr k Q)) := by rw [← e9]; exact hD
            clear e9
            refine lv_aload_n hx hb d_S_settles_154 rfl (lv_at hl 1 rfl) ?_
            refine lv_aload_n hx hb d_S_settles_155 rfl (lv_at hl 0 rfl) ?_
            refine va_get (D := D) (ci := 2) (v := .ref (a 1)) (C := R_S) (T := T_S) (N := 2) hx hb hts (in_S _) hown hK hP 27 rfl rfl 0 (by decide) (ht _ m_133) (fun _ h9 => h9) rfl d_S_settles_156 ?_
            refine va_get (D := D) (ci := 1) (v := .int (iI (ns 3))) (C := R_N) (T := T_N) (N := 17) hx hb hts (in_N _) hown hK hP 1 rfl rfl 16 (by decide) (ht _ m_90) (fun _ h9 => h9) rfl d_S_settles_159 ?_
            refine va_put (D := D) (ci := 3) (v := .int (iI (ns 3))) (ty := .int) (C := R_T) (T := T_T) (N := 4) hx hb hts (in_T _) ty_T ty_T_ok nm_T hown hK hP hD hS (36 + 2 * k) (cw_so k hk) rfl 2 (by decide) (ht _ m_182) (fun _ h9 => h9) rfl (by decide +kernel) rfl rfl (Nat.le_of_ble_eq_true rfl) d_S_settles_162 (fun H locs hP hD hS => ?_)
            have e9 := cw_umf (a := a) (cI := cI) (cL := cL) (cD := cD) (cS := cS) (nf := nf) (ns := ns) (da := da) (be := bb) (ui := ui) (ul := ul) (cn := cn) (ss := ss) (mf := mf) (sd := nw sd k (0)) (pr := nw pr k Q) (x := ns 3) k hk
            have hP : va_P D pn_cl (cw a cI cL cD cS nf ns da bb ui ul cn ss (nw mf k (ns 3)) (nw sd k (0)) (nw pr k Q)) H := by rw [← e9]; exact hP
            have hD : va_D A (cw a cI cL cD cS nf ns da bb ui ul cn ss (nw mf k (ns 3)) (nw sd k (0)) (nw pr k Q)) := by rw [← e9]; exact hD
            clear e9
            refine lv_aload_n hx hb d_S_settles_165 rfl (lv_at hl 1 rfl) ?_
            refine va_get (D := D) (ci := 3) (v := .int (iI ((nw sd k (0)) k))) (C := R_T) (T := T_T) (N := 4) hx hb hts (in_T _) hown hK hP (36 + 2 * k) (cw_so k hk) rfl 3 (by decide) (ht _ m_185) (fun _ h9 => h9) rfl d_S_settles_166 ?_
            refine pr_ire (B := 0) (by rw [nw_s]) ?_
            exact W.zret (v := iI (0)) hx hb hr (by decide) (fun t ht hW => ⟨⟨iI (0), (Q, bb, ns 3, 0), rfl, ⟨rfl, Or.inr ⟨hne, rfl, q2.2.1, Or.inr ⟨rfl, pn_end_no q2 (by assumption)⟩⟩⟩, by rw [ht]; exact hP, hD⟩, hS.F ht⟩) hS.2.2 d_S_settles_169
          · replace c_3 := m_pb_0 c_3
            refine lv_iconst (v := iI (1)) hx hb d_S_settles_146 rfl ?_
            refine lv_goto (tgt := 151) hx hb d_S_settles_147 (by decide) ?_
            refine va_put (D := D) (ci := 3) (v := .int (iI (1))) (ty := .boolean) (C := R_T) (T := T_T) (N := 4) hx hb hts (in_T _) ty_T ty_T_ok nm_T hown hK hP hD hS (36 + 2 * k) (cw_so k hk) rfl 3 (by decide) (ht _ m_185) (fun _ h9 => h9) rfl (by decide +kernel) (by decide) (by decide) (Nat.le_of_ble_eq_true rfl) d_S_settles_151 (fun H locs hP hD hS => ?_)
            have e9 := cw_usd (a := a) (cI := cI) (cL := cL) (cD := cD) (cS := cS) (nf := nf) (ns := ns) (da := da) (be := bb) (ui := ui) (ul := ul) (cn := cn) (ss := ss) (mf := mf) (sd := sd) (pr := nw pr k Q) (x := 1) k hk
            have hP : va_P D pn_cl (cw a cI cL cD cS nf ns da bb ui ul cn ss mf (nw sd k (1)) (nw pr k Q)) H := by rw [← e9]; exact hP
            have hD : va_D A (cw a cI cL cD cS nf ns da bb ui ul cn ss mf (nw sd k (1)) (nw pr k Q)) := by rw [← e9]; exact hD
            clear e9
            refine lv_aload_n hx hb d_S_settles_154 rfl (lv_at hl 1 rfl) ?_
            refine lv_aload_n hx hb d_S_settles_155 rfl (lv_at hl 0 rfl) ?_
            refine va_get (D := D) (ci := 2) (v := .ref (a 1)) (C := R_S) (T := T_S) (N := 2) hx hb hts (in_S _) hown hK hP 27 rfl rfl 0 (by decide) (ht _ m_133) (fun _ h9 => h9) rfl d_S_settles_156 ?_
            refine va_get (D := D) (ci := 1) (v := .int (iI (ns 3))) (C := R_N) (T := T_N) (N := 17) hx hb hts (in_N _) hown hK hP 1 rfl rfl 16 (by decide) (ht _ m_90) (fun _ h9 => h9) rfl d_S_settles_159 ?_
            refine va_put (D := D) (ci := 3) (v := .int (iI (ns 3))) (ty := .int) (C := R_T) (T := T_T) (N := 4) hx hb hts (in_T _) ty_T ty_T_ok nm_T hown hK hP hD hS (36 + 2 * k) (cw_so k hk) rfl 2 (by decide) (ht _ m_182) (fun _ h9 => h9) rfl (by decide +kernel) rfl rfl (Nat.le_of_ble_eq_true rfl) d_S_settles_162 (fun H locs hP hD hS => ?_)
            have e9 := cw_umf (a := a) (cI := cI) (cL := cL) (cD := cD) (cS := cS) (nf := nf) (ns := ns) (da := da) (be := bb) (ui := ui) (ul := ul) (cn := cn) (ss := ss) (mf := mf) (sd := nw sd k (1)) (pr := nw pr k Q) (x := ns 3) k hk
            have hP : va_P D pn_cl (cw a cI cL cD cS nf ns da bb ui ul cn ss (nw mf k (ns 3)) (nw sd k (1)) (nw pr k Q)) H := by rw [← e9]; exact hP
            have hD : va_D A (cw a cI cL cD cS nf ns da bb ui ul cn ss (nw mf k (ns 3)) (nw sd k (1)) (nw pr k Q)) := by rw [← e9]; exact hD
            clear e9
            refine lv_aload_n hx hb d_S_settles_165 rfl (lv_at hl 1 rfl) ?_
            refine va_get (D := D) (ci := 3) (v := .int (iI ((nw sd k (1)) k))) (C := R_T) (T := T_T) (N := 4) hx hb hts (in_T _) hown hK hP (36 + 2 * k) (cw_so k hk) rfl 3 (by decide) (ht _ m_185) (fun _ h9 => h9) rfl d_S_settles_166 ?_
            refine pr_ire (B := 1) (by rw [nw_s]) ?_
            exact W.zret (v := iI (1)) hx hb hr (by decide) (fun t ht hW => ⟨⟨iI (1), (Q, bb, ns 3, 1), rfl, ⟨rfl, Or.inr ⟨hne, rfl, q2.2.1, Or.inl ⟨rfl, pn_fin o_zc.2 hex q2 q4 q5 (by assumption)⟩⟩⟩, by rw [ht]; exact hP, hD⟩, hS.F ht⟩) hS.2.2 d_S_settles_169
        · skip
          refine lv_iload_n hx hb d_S_settles_48 rfl (lv_at hl 3 rfl) ?_
          refine pr_if_eq (tgt := 137) hx hb (i3_of (by omega) (by omega)) d_S_settles_49 (by decide) (fun c_4 => ?_) (fun c_4 => ?_)
          · skip
            have hex : (80009 : Int) ≤ (kk : Int) ∨ (ro : Int) = 0 ∨ m_past Q := by first | exact Or.inl (by omega) | exact Or.inr (Or.inl (by omega)) | exact Or.inr (Or.inr (by with_reducible assumption))
            have hPrQ : pn_Pr ((nw pr k Q) k) := by rw [nw_s]; exact q2.2.1.pr
            refine lv_aload_n hx hb d_S_settles_137 rfl (lv_at hl 1 rfl) ?_
            refine lv_aload_n hx hb d_S_settles_138 rfl (lv_at hl 0 rfl) ?_
            refine lv_aload_n hx hb d_S_settles_139 rfl (lv_at hl 1 rfl) ?_
            refine pr_pi (va_runV (As := [.ref (a (36 + 2 * k))]) (rest := [.ref (a (36 + 2 * k))]) ⟨hx, hb, hml, hown, hts⟩ (c_S_isPastHighest l k hk hPrQ) (cwV 1 hts (pn_gV m_435 m_437 m_9 m_35 m_438) rfl rfl rfl (by decide +kernel) ⟨Nat.le_of_ble_eq_true rfl, Nat.le_of_ble_eq_true rfl⟩) (pn_preV (q0 := 27) (ci := 2) (q := (R_S, T_S, 2)) hP hE rfl rfl) rfl rfl hl.1 rfl (lv_room (Nat.le_of_ble_eq_true rfl)) d_S_settles_140 ⟨Nat.le_of_ble_eq_true rfl, Nat.le_of_ble_eq_true rfl⟩) ?_
            refine pr_ire (B := m_pb (Q)) (by rw [nw_s]) ?_
            refine pr_if_ne (tgt := 150) hx hb (i3_pb _) d_S_settles_143 (by decide) (fun c_5 => ?_) (fun c_5 => ?_)
            · replace c_5 := m_pb_1 c_5
              refine lv_iconst (v := iI (0)) hx hb d_S_settles_150 rfl ?_
              refine va_put (D := D) (ci := 3) (v := .int (iI (0))) (ty := .boolean) (C := R_T) (T := T_T) (N := 4) hx hb hts (in_T _) ty_T ty_T_ok nm_T hown hK hP hD hS (36 + 2 * k) (cw_so k hk) rfl 3 (by decide) (ht _ m_185) (fun _ h9 => h9) rfl (by decide +kernel) (by decide) (by decide) (Nat.le_of_ble_eq_true rfl) d_S_settles_151 (fun H locs hP hD hS => ?_)
              have e9 := cw_usd (a := a) (cI := cI) (cL := cL) (cD := cD) (cS := cS) (nf := nf) (ns := ns) (da := da) (be := bb) (ui := ui) (ul := ul) (cn := cn) (ss := ss) (mf := mf) (sd := sd) (pr := nw pr k Q) (x := 0) k hk
              have hP : va_P D pn_cl (cw a cI cL cD cS nf ns da bb ui ul cn ss mf (nw sd k (0)) (nw pr k Q)) H := by rw [← e9]; exact hP
              have hD : va_D A (cw a cI cL cD cS nf ns da bb ui ul cn ss mf (nw sd k (0)) (nw pr k Q)) := by rw [← e9]; exact hD
              clear e9
              refine lv_aload_n hx hb d_S_settles_154 rfl (lv_at hl 1 rfl) ?_
              refine lv_aload_n hx hb d_S_settles_155 rfl (lv_at hl 0 rfl) ?_
              refine va_get (D := D) (ci := 2) (v := .ref (a 1)) (C := R_S) (T := T_S) (N := 2) hx hb hts (in_S _) hown hK hP 27 rfl rfl 0 (by decide) (ht _ m_133) (fun _ h9 => h9) rfl d_S_settles_156 ?_
              refine va_get (D := D) (ci := 1) (v := .int (iI (ns 3))) (C := R_N) (T := T_N) (N := 17) hx hb hts (in_N _) hown hK hP 1 rfl rfl 16 (by decide) (ht _ m_90) (fun _ h9 => h9) rfl d_S_settles_159 ?_
              refine va_put (D := D) (ci := 3) (v := .int (iI (ns 3))) (ty := .int) (C := R_T) (T := T_T) (N := 4) hx hb hts (in_T _) ty_T ty_T_ok nm_T hown hK hP hD hS (36 + 2 * k) (cw_so k hk) rfl 2 (by decide) (ht _ m_182) (fun _ h9 => h9) rfl (by decide +kernel) rfl rfl (Nat.le_of_ble_eq_true rfl) d_S_settles_162 (fun H locs hP hD hS => ?_)
              have e9 := cw_umf (a := a) (cI := cI) (cL := cL) (cD := cD) (cS := cS) (nf := nf) (ns := ns) (da := da) (be := bb) (ui := ui) (ul := ul) (cn := cn) (ss := ss) (mf := mf) (sd := nw sd k (0)) (pr := nw pr k Q) (x := ns 3) k hk
              have hP : va_P D pn_cl (cw a cI cL cD cS nf ns da bb ui ul cn ss (nw mf k (ns 3)) (nw sd k (0)) (nw pr k Q)) H := by rw [← e9]; exact hP
              have hD : va_D A (cw a cI cL cD cS nf ns da bb ui ul cn ss (nw mf k (ns 3)) (nw sd k (0)) (nw pr k Q)) := by rw [← e9]; exact hD
              clear e9
              refine lv_aload_n hx hb d_S_settles_165 rfl (lv_at hl 1 rfl) ?_
              refine va_get (D := D) (ci := 3) (v := .int (iI ((nw sd k (0)) k))) (C := R_T) (T := T_T) (N := 4) hx hb hts (in_T _) hown hK hP (36 + 2 * k) (cw_so k hk) rfl 3 (by decide) (ht _ m_185) (fun _ h9 => h9) rfl d_S_settles_166 ?_
              refine pr_ire (B := 0) (by rw [nw_s]) ?_
              exact W.zret (v := iI (0)) hx hb hr (by decide) (fun t ht hW => ⟨⟨iI (0), (Q, bb, ns 3, 0), rfl, ⟨rfl, Or.inr ⟨hne, rfl, q2.2.1, Or.inr ⟨rfl, pn_end_no q2 (by assumption)⟩⟩⟩, by rw [ht]; exact hP, hD⟩, hS.F ht⟩) hS.2.2 d_S_settles_169
            · replace c_5 := m_pb_0 c_5
              refine lv_iconst (v := iI (1)) hx hb d_S_settles_146 rfl ?_
              refine lv_goto (tgt := 151) hx hb d_S_settles_147 (by decide) ?_
              refine va_put (D := D) (ci := 3) (v := .int (iI (1))) (ty := .boolean) (C := R_T) (T := T_T) (N := 4) hx hb hts (in_T _) ty_T ty_T_ok nm_T hown hK hP hD hS (36 + 2 * k) (cw_so k hk) rfl 3 (by decide) (ht _ m_185) (fun _ h9 => h9) rfl (by decide +kernel) (by decide) (by decide) (Nat.le_of_ble_eq_true rfl) d_S_settles_151 (fun H locs hP hD hS => ?_)
              have e9 := cw_usd (a := a) (cI := cI) (cL := cL) (cD := cD) (cS := cS) (nf := nf) (ns := ns) (da := da) (be := bb) (ui := ui) (ul := ul) (cn := cn) (ss := ss) (mf := mf) (sd := sd) (pr := nw pr k Q) (x := 1) k hk
              have hP : va_P D pn_cl (cw a cI cL cD cS nf ns da bb ui ul cn ss mf (nw sd k (1)) (nw pr k Q)) H := by rw [← e9]; exact hP
              have hD : va_D A (cw a cI cL cD cS nf ns da bb ui ul cn ss mf (nw sd k (1)) (nw pr k Q)) := by rw [← e9]; exact hD
              clear e9
              refine lv_aload_n hx hb d_S_settles_154 rfl (lv_at hl 1 rfl) ?_
              refine lv_aload_n hx hb d_S_settles_155 rfl (lv_at hl 0 rfl) ?_
              refine va_get (D := D) (ci := 2) (v := .ref (a 1)) (C := R_S) (T := T_S) (N := 2) hx hb hts (in_S _) hown hK hP 27 rfl rfl 0 (by decide) (ht _ m_133) (fun _ h9 => h9) rfl d_S_settles_156 ?_
              refine va_get (D := D) (ci := 1) (v := .int (iI (ns 3))) (C := R_N) (T := T_N) (N := 17) hx hb hts (in_N _) hown hK hP 1 rfl rfl 16 (by decide) (ht _ m_90) (fun _ h9 => h9) rfl d_S_settles_159 ?_
              refine va_put (D := D) (ci := 3) (v := .int (iI (ns 3))) (ty := .int) (C := R_T) (T := T_T) (N := 4) hx hb hts (in_T _) ty_T ty_T_ok nm_T hown hK hP hD hS (36 + 2 * k) (cw_so k hk) rfl 2 (by decide) (ht _ m_182) (fun _ h9 => h9) rfl (by decide +kernel) rfl rfl (Nat.le_of_ble_eq_true rfl) d_S_settles_162 (fun H locs hP hD hS => ?_)
              have e9 := cw_umf (a := a) (cI := cI) (cL := cL) (cD := cD) (cS := cS) (nf := nf) (ns := ns) (da := da) (be := bb) (ui := ui) (ul := ul) (cn := cn) (ss := ss) (mf := mf) (sd := nw sd k (1)) (pr := nw pr k Q) (x := ns 3) k hk
              have hP : va_P D pn_cl (cw a cI cL cD cS nf ns da bb ui ul cn ss (nw mf k (ns 3)) (nw sd k (1)) (nw pr k Q)) H := by rw [← e9]; exact hP
              have hD : va_D A (cw a cI cL cD cS nf ns da bb ui ul cn ss (nw mf k (ns 3)) (nw sd k (1)) (nw pr k Q)) := by rw [← e9]; exact hD
              clear e9
              refine lv_aload_n hx hb d_S_settles_165 rfl (lv_at hl 1 rfl) ?_
              refine va_get (D := D) (ci := 3) (v := .int (iI ((nw sd k (1)) k))) (C := R_T) (T := T_T) (N := 4) hx hb hts (in_T _) hown hK hP (36 + 2 * k) (cw_so k hk) rfl 3 (by decide) (ht _ m_185) (fun _ h9 => h9) rfl d_S_settles_166 ?_
              refine pr_ire (B := 1) (by rw [nw_s]) ?_
              exact W.zret (v := iI (1)) hx hb hr (by decide) (fun t ht hW => ⟨⟨iI (1), (Q, bb, ns 3, 1), rfl, ⟨rfl, Or.inr ⟨hne, rfl, q2.2.1, Or.inl ⟨rfl, pn_fin o_zc.2 hex q2 q4 q5 (by assumption)⟩⟩⟩, by rw [ht]; exact hP, hD⟩, hS.F ht⟩) hS.2.2 d_S_settles_169
          · skip
            have hPrQ : pn_Pr ((nw pr k Q) k) := by rw [nw_s]; exact q2.2.1.pr
            refine lv_aload_n hx hb d_S_settles_52 rfl (lv_at hl 0 rfl) ?_
            refine lv_aload_n hx hb d_S_settles_53 rfl (lv_at hl 1 rfl) ?_
            refine pr_pi (va_runV (As := [.ref (a (36 + 2 * k))]) (rest := []) ⟨hx, hb, hml, hown, hts⟩ (c_S_isPastHighest l k hk hPrQ) (cwV 1 hts (pn_gV m_435 m_437 m_9 m_35 m_438) rfl rfl rfl (by decide +kernel) ⟨Nat.le_of_ble_eq_true rfl, Nat.le_of_ble_eq_true rfl⟩) (pn_preV (q0 := 27) (ci := 2) (q := (R_S, T_S, 2)) hP hE rfl rfl) rfl rfl hl.1 rfl (lv_room (Nat.le_of_ble_eq_true rfl)) d_S_settles_54 ⟨Nat.le_of_ble_eq_true rfl, Nat.le_of_ble_eq_true rfl⟩) ?_
            refine pr_ire (B := m_pb (Q)) (by rw [nw_s]) ?_
            refine pr_if_ne (tgt := 137) hx hb (i3_pb _) d_S_settles_57 (by decide) (fun c_6 => ?_) (fun c_6 => ?_)
            · replace c_6 := m_pb_1 c_6
              have hex : (80009 : Int) ≤ (kk : Int) ∨ (ro : Int) = 0 ∨ m_past Q := by first | exact Or.inl (by omega) | exact Or.inr (Or.inl (by omega)) | exact Or.inr (Or.inr (by with_reducible assumption))
              have hPrQ : pn_Pr ((nw pr k Q) k) := by rw [nw_s]; exact q2.2.1.pr
              refine lv_aload_n hx hb d_S_settles_137 rfl (lv_at hl 1 rfl) ?_
              refine lv_aload_n hx hb d_S_settles_138 rfl (lv_at hl 0 rfl) ?_
              refine lv_aload_n hx hb d_S_settles_139 rfl (lv_at hl 1 rfl) ?_
              refine pr_pi (va_runV (As := [.ref (a (36 + 2 * k))]) (rest := [.ref (a (36 + 2 * k))]) ⟨hx, hb, hml, hown, hts⟩ (c_S_isPastHighest l k hk hPrQ) (cwV 1 hts (pn_gV m_435 m_437 m_9 m_35 m_438) rfl rfl rfl (by decide +kernel) ⟨Nat.le_of_ble_eq_true rfl, Nat.le_of_ble_eq_true rfl⟩) (pn_preV (q0 := 27) (ci := 2) (q := (R_S, T_S, 2)) hP hE rfl rfl) rfl rfl hl.1 rfl (lv_room (Nat.le_of_ble_eq_true rfl)) d_S_settles_140 ⟨Nat.le_of_ble_eq_true rfl, Nat.le_of_ble_eq_true rfl⟩) ?_
              refine pr_ire (B := m_pb (Q)) (by rw [nw_s]) ?_
              refine pr_if_ne (tgt := 150) hx hb (i3_pb _) d_S_settles_143 (by decide) (fun c_7 => ?_) (fun c_7 => ?_)
              · replace c_7 := m_pb_1 c_7
                refine lv_iconst (v := iI (0)) hx hb d_S_settles_150 rfl ?_
                refine va_put (D := D) (ci := 3) (v := .int (iI (0))) (ty := .boolean) (C := R_T) (T := T_T) (N := 4) hx hb hts (in_T _) ty_T ty_T_ok nm_T hown hK hP hD hS (36 + 2 * k) (cw_so k hk) rfl 3 (by decide) (ht _ m_185) (fun _ h9 => h9) rfl (by decide +kernel) (by decide) (by decide) (Nat.le_of_ble_eq_true rfl) d_S_settles_151 (fun H locs hP hD hS => ?_)
                have e9 := cw_usd (a := a) (cI := cI) (cL := cL) (cD := cD) (cS := cS) (nf := nf) (ns := ns) (da := da) (be := bb) (ui := ui) (ul := ul) (cn := cn) (ss := ss) (mf := mf) (sd := sd) (pr := nw pr k Q) (x := 0) k hk
                have hP : va_P D pn_cl (cw a cI cL cD cS nf ns da bb ui ul cn ss mf (nw sd k (0)) (nw pr k Q)) H := by rw [← e9]; exact hP
                have hD : va_D A (cw a cI cL cD cS nf ns da bb ui ul cn ss mf (nw sd k (0)) (nw pr k Q)) := by rw [← e9]; exact hD
                clear e9
                refine lv_aload_n hx hb d_S_settles_154 rfl (lv_at hl 1 rfl) ?_
                refine lv_aload_n hx hb d_S_settles_155 rfl (lv_at hl 0 rfl) ?_
                refine va_get (D := D) (ci := 2) (v := .ref (a 1)) (C := R_S) (T := T_S) (N := 2) hx hb hts (in_S _) hown hK hP 27 rfl rfl 0 (by decide) (ht _ m_133) (fun _ h9 => h9) rfl d_S_settles_156 ?_
                refine va_get (D := D) (ci := 1) (v := .int (iI (ns 3))) (C := R_N) (T := T_N) (N := 17) hx hb hts (in_N _) hown hK hP 1 rfl rfl 16 (by decide) (ht _ m_90) (fun _ h9 => h9) rfl d_S_settles_159 ?_
                refine va_put (D := D) (ci := 3) (v := .int (iI (ns 3))) (ty := .int) (C := R_T) (T := T_T) (N := 4) hx hb hts (in_T _) ty_T ty_T_ok nm_T hown hK hP hD hS (36 + 2 * k) (cw_so k hk) rfl 2 (by decide) (ht _ m_182) (fun _ h9 => h9) rfl (by decide +kernel) rfl rfl (Nat.le_of_ble_eq_true rfl) d_S_settles_162 (fun H locs hP hD hS => ?_)
                have e9 := cw_umf (a := a) (cI := cI) (cL := cL) (cD := cD) (cS := cS) (nf := nf) (ns := ns) (da := da) (be := bb) (ui := ui) (ul := ul) (cn := cn) (ss := ss) (mf := mf) (sd := nw sd k (0)) (pr := nw pr k Q) (x := ns 3) k hk
                have hP : va_P D pn_cl (cw a cI cL cD cS nf ns da bb ui ul cn ss (nw mf k (ns 3)) (nw sd k (0)) (nw pr k Q)) H := by rw [← e9]; exact hP
                have hD : va_D A (cw a cI cL cD cS nf ns da bb ui ul cn ss (nw mf k (ns 3)) (nw sd k (0)) (nw pr k Q)) := by rw [← e9]; exact hD
                clear e9
                refine lv_aload_n hx hb d_S_settles_165 rfl (lv_at hl 1 rfl) ?_
                refine va_get (D := D) (ci := 3) (v := .int (iI ((nw sd k (0)) k))) (C := R_T) (T := T_T) (N := 4) hx hb hts (in_T _) hown hK hP (36 + 2 * k) (cw_so k hk) rfl 3 (by decide) (ht _ m_185) (fun _ h9 => h9) rfl d_S_settles_166 ?_
                refine pr_ire (B := 0) (by rw [nw_s]) ?_
                exact W.zret (v := iI (0)) hx hb hr (by decide) (fun t ht hW => ⟨⟨iI (0), (Q, bb, ns 3, 0), rfl, ⟨rfl, Or.inr ⟨hne, rfl, q2.2.1, Or.inr ⟨rfl, pn_end_no q2 (by assumption)⟩⟩⟩, by rw [ht]; exact hP, hD⟩, hS.F ht⟩) hS.2.2 d_S_settles_169
              · replace c_7 := m_pb_0 c_7
                refine lv_iconst (v := iI (1)) hx hb d_S_settles_146 rfl ?_
                refine lv_goto (tgt := 151) hx hb d_S_settles_147 (by decide) ?_
                refine va_put (D := D) (ci := 3) (v := .int (iI (1))) (ty := .boolean) (C := R_T) (T := T_T) (N := 4) hx hb hts (in_T _) ty_T ty_T_ok nm_T hown hK hP hD hS (36 + 2 * k) (cw_so k hk) rfl 3 (by decide) (ht _ m_185) (fun _ h9 => h9) rfl (by decide +kernel) (by decide) (by decide) (Nat.le_of_ble_eq_true rfl) d_S_settles_151 (fun H locs hP hD hS => ?_)
                have e9 := cw_usd (a := a) (cI := cI) (cL := cL) (cD := cD) (cS := cS) (nf := nf) (ns := ns) (da := da) (be := bb) (ui := ui) (ul := ul) (cn := cn) (ss := ss) (mf := mf) (sd := sd) (pr := nw pr k Q) (x := 1) k hk
                have hP : va_P D pn_cl (cw a cI cL cD cS nf ns da bb ui ul cn ss mf (nw sd k (1)) (nw pr k Q)) H := by rw [← e9]; exact hP
                have hD : va_D A (cw a cI cL cD cS nf ns da bb ui ul cn ss mf (nw sd k (1)) (nw pr k Q)) := by rw [← e9]; exact hD
                clear e9
                refine lv_aload_n hx hb d_S_settles_154 rfl (lv_at hl 1 rfl) ?_
                refine lv_aload_n hx hb d_S_settles_155 rfl (lv_at hl 0 rfl) ?_
                refine va_get (D := D) (ci := 2) (v := .ref (a 1)) (C := R_S) (T := T_S) (N := 2) hx hb hts (in_S _) hown hK hP 27 rfl rfl 0 (by decide) (ht _ m_133) (fun _ h9 => h9) rfl d_S_settles_156 ?_
                refine va_get (D := D) (ci := 1) (v := .int (iI (ns 3))) (C := R_N) (T := T_N) (N := 17) hx hb hts (in_N _) hown hK hP 1 rfl rfl 16 (by decide) (ht _ m_90) (fun _ h9 => h9) rfl d_S_settles_159 ?_
                refine va_put (D := D) (ci := 3) (v := .int (iI (ns 3))) (ty := .int) (C := R_T) (T := T_T) (N := 4) hx hb hts (in_T _) ty_T ty_T_ok nm_T hown hK hP hD hS (36 + 2 * k) (cw_so k hk) rfl 2 (by decide) (ht _ m_182) (fun _ h9 => h9) rfl (by decide +kernel) rfl rfl (Nat.le_of_ble_eq_true rfl) d_S_settles_162 (fun H locs hP hD hS => ?_)
                have e9 := cw_umf (a := a) (cI := cI) (cL := cL) (cD := cD) (cS := cS) (nf := nf) (ns := ns) (da := da) (be := bb) (ui := ui) (ul := ul) (cn := cn) (ss := ss) (mf := mf) (sd := nw sd k (1)) (pr := nw pr k Q) (x := ns 3) k hk
                have hP : va_P D pn_cl (cw a cI cL cD cS nf ns da bb ui ul cn ss (nw mf k (ns 3)) (nw sd k (1)) (nw pr k Q)) H := by rw [← e9]; exact hP
                have hD : va_D A (cw a cI cL cD cS nf ns da bb ui ul cn ss (nw mf k (ns 3)) (nw sd k (1)) (nw pr k Q)) := by rw [← e9]; exact hD
                clear e9
                refine lv_aload_n hx hb d_S_settles_165 rfl (lv_at hl 1 rfl) ?_
                refine va_get (D := D) (ci := 3) (v := .int (iI ((nw sd k (1)) k))) (C := R_T) (T := T_T) (N := 4) hx hb hts (in_T _) hown hK hP (36 + 2 * k) (cw_so k hk) rfl 3 (by decide) (ht _ m_185) (fun _ h9 => h9) rfl d_S_settles_166 ?_
                refine pr_ire (B := 1) (by rw [nw_s]) ?_
                exact W.zret (v := iI (1)) hx hb hr (by decide) (fun t ht hW => ⟨⟨iI (1), (Q, bb, ns 3, 1), rfl, ⟨rfl, Or.inr ⟨hne, rfl, q2.2.1, Or.inl ⟨rfl, pn_fin o_zc.2 hex q2 q4 q5 (by assumption)⟩⟩⟩, by rw [ht]; exact hP, hD⟩, hS.F ht⟩) hS.2.2 d_S_settles_169
            · replace c_6 := m_pb_0 c_6
              refine lv_aload_n hx hb d_S_settles_60 rfl (lv_at hl 0 rfl) ?_
              refine lv_aload_n hx hb d_S_settles_61 rfl (lv_at hl 1 rfl) ?_
              refine lv_iload_n hx hb d_S_settles_62 rfl (lv_at hl 2 rfl) ?_
              refine pr_ci (va_runV (As := [.ref (a (36 + 2 * k)), .int (iI (((m_al (ns 0) : Nat) : Int)))]) (rest := []) ⟨hx, hb, hml, hown, hts⟩ (c_S_doBout l (be := bb) (pr := nw pr k Q) H.size k (m_al (ns 0)) hOk hk hPrQ hss (m_al_lt o_zc.2)) (cwV 2 hts (pn_gV m_439 m_441 m_10 m_35 m_442) rfl rfl rfl (by decide +kernel) ⟨Nat.le_of_ble_eq_true rfl, Nat.le_of_ble_eq_true rfl⟩) (pn_preW (q0 := 27) (ci := 2) (q := (R_S, T_S, 2)) hP hD hE rfl rfl) rfl rfl hl.1 rfl (lv_room (Nat.le_of_ble_eq_true rfl)) d_S_settles_63 ⟨Nat.le_of_ble_eq_true rfl, Nat.le_of_ble_eq_true rfl⟩) hD hS hA (fun r u H locs hw hP hD hS => ?_)
              obtain ⟨ro2, Q2⟩ := u
              simp only [nw_s] at hw
              try dsimp only at hP hD
              rw [nw_nw] at hP hD
              obtain ⟨rfl, hB, hno⟩ := hw
              have b1 := hB.2.2.2
              obtain ⟨hI2, hs2, hs3⟩ := pn_I_bout hM o_zc.1 q2 hB
              have r4 : ro2 = 0 → pn_no (ns 0) (m_G nf da (ss k)) (m_al (ns 0)) 8 Q2 := fun h => by rw [(hno h).2]; exact (hno h).1
              have r5 : ro2 ≠ 0 → ((kk + 1 : Nat) : Int) ≤ m_s8 Q2 + 40000 := fun h => by have := hs3 h; have := q5 (by omega); omega
              refine lv_istore_n (lv' := [(3, .int (iI (((ro2 : Nat) : Int)))), (0, .ref (a 27)), (1, .ref (a (36 + 2 * k))), (2, .int (iI (((m_al (ns 0) : Nat) : Int)))), (4, .int (iI (((kk : Nat) : Int))))]) hx hb d_S_settles_66 rfl hl (by decide) rfl (fun ls hl => ?_)
              refine lv_iconst (v := iI (1)) hx hb d_S_settles_67 rfl ?_
              refine lv_istore (lv' := [(5, .int (iI (1))), (3, .int (iI (((ro2 : Nat) : Int)))), (0, .ref (a 27)), (1, .ref (a (36 + 2 * k))), (2, .int (iI (((m_al (ns 0) : Nat) : Int)))), (4, .int (iI (((kk : Nat) : Int))))]) hx hb d_S_settles_68 hl (by decide) rfl (fun ls hl => ?_)
              have ihm := ih
              clear ih
              have loop2 : ∀ (n : Nat) (lf : Nat) (P3 : Int → Int) (b3 : Int → Int) (H : Heap) (locs : List Loc) (ls : Array Slot), (pn_I (ns 0) (nf 0) (m_G nf da (ss k)) P3) → (lf ≤ 10000) → (m_s8 Q2 ≤ m_s8 P3) → (ro2 = 0 → P3 = Q2) → (ro2 = 0 → lf = 0) → lf < n → va_P D pn_cl (cw a cI cL cD cS nf ns da b3 ui ul cn ss mf sd (nw pr k P3)) H → va_D A (cw a cI cL cD cS nf ns da b3 ui ul cn ss mf sd (nw pr k P3)) → va_S A s.heap H locs → lv_has ls 6 [(0, .ref (a 27)), (1, .ref (a (36 + 2 * k))), (2, .int (iI (((m_al (ns 0) : Nat) : Int)))), (3, .int (iI (((ro2 : Nat) : Int)))), (4, .int (iI (((kk : Nat) : Int)))), (5, .int (iI (((lf : Nat) : Int))))] → W p l e (headSpec w_S_settles ({ frames := 6, cells := 0, slots := 0, locals := 163 })).room s m ([.ref (a 27), .ref (a (36 + 2 * k))] : List Value).toArray below meth c H locs 0 0 (MQ below (va_Qi (fun (r : Int32) (u : (Int → Int) × (Int → Int) × Int × Int) => r = iI u.2.2.2 ∧ ((mf k = ns 3 ∧ u.1 = pr k ∧ u.2.2.1 = mf k ∧ u.2.2.2 = sd k) ∨ (mf k ≠ ns 3 ∧ u.2.2.1 = ns 3 ∧ pn_P5 u.1 ∧ ((u.2.2.2 = 1 ∧ pn_St (ns 0) (nf 0) (m_G nf da (ss k)) u.1 ∧ pn_Be (ns 0) (nf 0) (m_G nf da (ss k)) u.1) ∨ (u.2.2.2 = 0 ∧ ¬ ∃ Q, pn_St (ns 0) (nf 0) (m_G nf da (ss k)) Q))))) (fun u t => va_P D pn_cl ((fun u : (Int → Int) × (Int → Int) × Int × Int => cw a cI cL cD cS nf ns da u.2.1 ui ul cn ss (nw mf k u.2.2.1) (nw sd k u.2.2.2) (nw pr k u.1)) u) t.heap ∧ va_D A ((fun u : (Int → Int) × (Int → Int) × Int × Int => cw a cI cL cD cS nf ns da u.2.1 ui ul cn ss (nw mf k u.2.2.1) (nw sd k u.2.2.2) (nw pr k u.1)) u)) A) ([.ref (a 27), .ref (a (36 + 2 * k))] : List Value).toArray s 0 0 A) (F0 m 108 ls []) := by
                intro n
                induction n with
                | zero => intro lf P3 b3 H locs ls _ _ _ _ _ hm; exact absurd hm (Nat.not_lt_zero _)
                | succ n ih =>
                  intro lf P3 b3 H locs ls e2 e3 e4 e5 e6 hm hP hD hS hl
                  refine lv_iload hx hb d_S_settles_108 (lv_at hl 5 rfl) ?_
                  refine pr_if_le (tgt := 131) hx hb (i3_of (by omega) (by omega)) d_S_settles_110 (by decide) (fun c_8 => ?_) (fun c_8 => ?_)
                  · skip
                    refine lv_iinc (v := iI (((kk : Nat) : Int) + 1)) (lv' := [(4, .int (iI (((kk : Nat) : Int) + 1))), (0, .ref (a 27)), (1, .ref (a (36 + 2 * k))), (2, .int (iI (((m_al (ns 0) : Nat) : Int)))), (3, .int (iI (((ro2 : Nat) : Int)))), (5, .int (iI (((lf : Nat) : Int))))]) hx hb d_S_settles_131 hl (k := 4) rfl (iI_add _ _).symm (by decide) rfl (fun ls hl => ?_)
                    refine lv_goto (tgt := 41) hx hb d_S_settles_134 (by decide) ?_
                    exact ihm (kk + 1) ro2 P3 b3 _ _ ls (by omega) e2 b1 (fun h => by rw [e5 h]; exact r4 h) (fun h => by have := r5 h; omega) (by omega) hP hD hS (lv_sub hl [1, 2, 3, 4, 0] rfl)
                  · skip
                    refine lv_aload_n hx hb d_S_settles_113 rfl (lv_at hl 0 rfl) ?_
                    refine lv_aload_n hx hb d_S_settles_114 rfl (lv_at hl 1 rfl) ?_
                    refine lv_iload_n hx hb d_S_settles_115 rfl (lv_at hl 3 rfl) ?_
                    refine lv_iload hx hb d_S_settles_116 (lv_at hl 5 rfl) ?_
                    refine pr_ci (va_runV (As := [.ref (a (36 + 2 * k)), .int (iI (((ro2 : Nat) : Int))), .int (iI (((lf : Nat) : Int)))]) (rest := []) ⟨hx, hb, hml, hown, hts⟩ (c_S_lifts l (be := b3) (pr := nw pr k P3) H.size k ro2 lf hOk hk (by rw [nw_s]; exact e2.2.1) hss b1 (by omega)) (cwV 3 hts (pn_gV m_471 m_473 m_12 m_35 m_474) rfl rfl rfl (by decide +kernel) ⟨Nat.le_of_ble_eq_true rfl, Nat.le_of_ble_eq_true rfl⟩) (pn_preW (q0 := 27) (ci := 2) (q := (R_S, T_S, 2)) hP hD hE rfl rfl) rfl rfl hl.1 rfl (lv_room (Nat.le_of_ble_eq_true rfl)) d_S_settles_118 ⟨Nat.le_of_ble_eq_true rfl, Nat.le_of_ble_eq_true rfl⟩) hD hS hA (fun r u H locs hw hP hD hS => ?_)
                    obtain ⟨P4, b4⟩ := u
                    simp only [nw_s] at hw
                    try dsimp only at hP hD
                    rw [nw_nw] at hP hD
                    rcases hw with ⟨rfl, hnp, hB4⟩ | ⟨rfl, hu4⟩
                    · obtain ⟨hI4, hs4⟩ := pn_I_lift hM o_zc.1 o_zc.2 e2 hnp hB4
                      refine lv_pop hx hb d_S_settles_121 rfl ?_
                      refine lv_iload hx hb d_S_settles_122 (lv_at hl 5 rfl) ?_
                      refine lv_iconst (v := iI (2)) hx hb d_S_settles_124 rfl ?_
                      refine pr_idiv hx hb (i3_of (by omega) (by omega)) (i3_of (by decide) (by decide)) (by omega) d_S_settles_125 ?_
                      refine pr_ire (B := ((lf / 2 : Nat) : Int)) (Int.ofNat_tdiv _ _).symm ?_
                      refine lv_istore (lv' := [(5, .int (iI (((lf / 2 : Nat) : Int)))), (0, .ref (a 27)), (1, .ref (a (36 + 2 * k))), (2, .int (iI (((m_al (ns 0) : Nat) : Int)))), (3, .int (iI (((ro2 : Nat) : Int)))), (4, .int (iI (((kk : Nat) : Int))))]) hx hb d_S_settles_126 hl (by decide) rfl (fun ls hl => ?_)
                      refine lv_goto (tgt := 108) hx hb d_S_settles_128 (by decide) ?_
                      exact ih (lf / 2) (P4) (b4) _ _ ls hI4 (by omega) (by omega) (fun h => absurd (e6 h) (by omega)) (fun h => absurd (e6 h) (by omega)) (by omega) hP hD hS (lv_sub hl [1, 2, 3, 4, 5, 0] rfl)
                    · have hI4 : pn_I (ns 0) (nf 0) (m_G nf da (ss k)) P4 := by rw [hu4]; exact e2
                      have hs4 : m_s8 P3 ≤ m_s8 P4 := by rw [hu4]; exact Int.le_refl _
                      refine lv_pop hx hb d_S_settles_121 rfl ?_
                      refine lv_iload hx hb d_S_settles_122 (lv_at hl 5 rfl) ?_
                      refine lv_iconst (v := iI (2)) hx hb d_S_settles_124 rfl ?_
                      refine pr_idiv hx hb (i3_of (by omega) (by omega)) (i3_of (by decide) (by decide)) (by omega) d_S_settles_125 ?_
                      refine pr_ire (B := ((lf / 2 : Nat) : Int)) (Int.ofNat_tdiv _ _).symm ?_
                      refine lv_istore (lv' := [(5, .int (iI (((lf / 2 : Nat) : Int)))), (0, .ref (a 27)), (1, .ref (a (36 + 2 * k))), (2, .int (iI (((m_al (ns 0) : Nat) : Int)))), (3, .int (iI (((ro2 : Nat) : Int)))), (4, .int (iI (((kk : Nat) : Int))))]) hx hb d_S_settles_126 hl (by decide) rfl (fun ls hl => ?_)
                      refine lv_goto (tgt := 108) hx hb d_S_settles_128 (by decide) ?_
                      exact ih (lf / 2) (P4) (b4) _ _ ls hI4 (by omega) (by omega) (fun h => absurd (e6 h) (by omega)) (fun h => absurd (e6 h) (by omega)) (by omega) hP hD hS (lv_sub hl [1, 2, 3, 4, 5, 0] rfl)
              have loop1 : ∀ (n : Nat) (lf : Nat) (P3 : Int → Int) (b3 : Int → Int) (H : Heap) (locs : List Loc) (ls : Array Slot), (pn_I (ns 0) (nf 0) (m_G nf da (ss k)) P3) → (1 ≤ lf) → (lf ≤ 20000) → (m_s8 Q2 ≤ m_s8 P3) → (ro2 = 0 → P3 = Q2) → (ro2 = 0 → lf = 1) → (20000 - lf) < n → va_P D pn_cl (cw a cI cL cD cS nf ns da b3 ui ul cn ss mf sd (nw pr k P3)) H → va_D A (cw a cI cL cD cS nf ns da b3 ui ul cn ss mf sd (nw pr k P3)) → va_S A s.heap H locs → lv_has ls 6 [(0, .ref (a 27)), (1, .ref (a (36 + 2 * k))), (2, .int (iI (((m_al (ns 0) : Nat) : Int)))), (3, .int (iI (((ro2 : Nat) : Int)))), (4, .int (iI (((kk : Nat) : Int)))), (5, .int (iI (((lf : Nat) : Int))))] → W p l e (headSpec w_S_settles ({ frames := 6, cells := 0, slots := 0, locals := 163 })).room s m ([.ref (a 27), .ref (a (36 + 2 * k))] : List Value).toArray below meth c H locs 0 0 (MQ below (va_Qi (fun (r : Int32) (u : (Int → Int) × (Int → Int) × Int × Int) => r = iI u.2.2.2 ∧ ((mf k = ns 3 ∧ u.1 = pr k ∧ u.2.2.1 = mf k ∧ u.2.2.2 = sd k) ∨ (mf k ≠ ns 3 ∧ u.2.2.1 = ns 3 ∧ pn_P5 u.1 ∧ ((u.2.2.2 = 1 ∧ pn_St (ns 0) (nf 0) (m_G nf da (ss k)) u.1 ∧ pn_Be (ns 0) (nf 0) (m_G nf da (ss k)) u.1) ∨ (u.2.2.2 = 0 ∧ ¬ ∃ Q, pn_St (ns 0) (nf 0) (m_G nf da (ss k)) Q))))) (fun u t => va_P D pn_cl ((fun u : (Int → Int) × (Int → Int) × Int × Int => cw a cI cL cD cS nf ns da u.2.1 ui ul cn ss (nw mf k u.2.2.1) (nw sd k u.2.2.2) (nw pr k u.1)) u) t.heap ∧ va_D A ((fun u : (Int → Int) × (Int → Int) × Int × Int => cw a cI cL cD cS nf ns da u.2.1 ui ul cn ss (nw mf k u.2.2.1) (nw sd k u.2.2.2) (nw pr k u.1)) u)) A) ([.ref (a 27), .ref (a (36 + 2 * k))] : List Value).toArray s 0 0 A) (F0 m 70 ls []) := by
                intro n
                induction n with
                | zero => intro lf P3 b3 H locs ls _ _ _ _ _ _ hm; exact absurd hm (Nat.not_lt_zero _)
                | succ n ih =>
                  intro lf P3 b3 H locs ls e2 e1 e3 e4 e5 e6 hm hP hD hS hl
                  refine lv_iload_n hx hb d_S_settles_70 rfl (lv_at hl 3 rfl) ?_
                  refine pr_if_eq (tgt := 102) hx hb (i3_of (by omega) (by omega)) d_S_settles_71 (by decide) (fun c_9 => ?_) (fun c_9 => ?_)
                  · skip
                    refine lv_iload hx hb d_S_settles_102 (lv_at hl 5 rfl) ?_
                    refine lv_iconst (v := iI (2)) hx hb d_S_settles_104 rfl ?_
                    refine pr_idiv hx hb (i3_of (by omega) (by omega)) (i3_of (by decide) (by decide)) (by omega) d_S_settles_105 ?_
                    refine pr_ire (B := ((lf / 2 : Nat) : Int)) (Int.ofNat_tdiv _ _).symm ?_
                    refine lv_istore (lv' := [(5, .int (iI (((lf / 2 : Nat) : Int)))), (0, .ref (a 27)), (1, .ref (a (36 + 2 * k))), (2, .int (iI (((m_al (ns 0) : Nat) : Int)))), (3, .int (iI (((ro2 : Nat) : Int)))), (4, .int (iI (((kk : Nat) : Int))))]) hx hb d_S_settles_106 hl (by decide) rfl (fun ls hl => ?_)
                    exact loop2 _ (lf / 2) (P3) (b3) _ _ ls e2 (by omega) (by omega) (fun h => e5 h) (fun h => by have := e6 h; omega) (Nat.lt_succ_self _) hP hD hS (lv_sub hl [1, 2, 3, 4, 5, 0] rfl)
                  · skip
                    refine lv_iload hx hb d_S_settles_74 (lv_at hl 5 rfl) ?_
                    refine lv_sipush (v := iI (10000)) hx hb d_S_settles_76 (by decide) ?_
                    refine pr_icmp_ge (tgt := 102) hx hb (i3_of (by omega) (by omega)) (i3_of (by decide) (by decide)) d_S_settles_79 (by decide) (fun c_10 => ?_) (fun c_10 => ?_)
                    · skip
                      refine lv_iload hx hb d_S_settles_102 (lv_at hl 5 rfl) ?_
                      refine lv_iconst (v := iI (2)) hx hb d_S_settles_104 rfl ?_
                      refine pr_idiv hx hb (i3_of (by omega) (by omega)) (i3_of (by decide) (by decide)) (by omega) d_S_settles_105 ?_
                      refine pr_ire (B := ((lf / 2 : Nat) : Int)) (Int.ofNat_tdiv _ _).symm ?_
                      refine lv_istore (lv' := [(5, .int (iI (((lf / 2 : Nat) : Int)))), (0, .ref (a 27)), (1, .ref (a (36 + 2 * k))), (2, .int (iI (((m_al (ns 0) : Nat) : Int)))), (3, .int (iI (((ro2 : Nat) : Int)))), (4, .int (iI (((kk : Nat) : Int))))]) hx hb d_S_settles_106 hl (by decide) rfl (fun ls hl => ?_)
                      exact loop2 _ (lf / 2) (P3) (b3) _ _ ls e2 (by omega) (by omega) (fun h => e5 h) (fun h => by have := e6 h; omega) (Nat.lt_succ_self _) hP hD hS (lv_sub hl [1, 2, 3, 4, 5, 0] rfl)
                    · skip
                      refine lv_aload_n hx hb d_S_settles_82 rfl (lv_at hl 0 rfl) ?_
                      refine lv_aload_n hx hb d_S_settles_83 rfl (lv_at hl 1 rfl) ?_
                      refine lv_iload_n hx hb d_S_settles_84 rfl (lv_at hl 3 rfl) ?_
                      refine lv_iload hx hb d_S_settles_85 (lv_at hl 5 rfl) ?_
                      refine pr_ci (va_runV (As := [.ref (a (36 + 2 * k)), .int (iI (((ro2 : Nat) : Int))), .int (iI (((lf : Nat) : Int)))]) (rest := []) ⟨hx, hb, hml, hown, hts⟩ (c_S_lifts l (be := b3) (pr := nw pr k P3) H.size k ro2 lf hOk hk (by rw [nw_s]; exact e2.2.1) hss b1 (by omega)) (cwV 3 hts (pn_gV m_471 m_473 m_12 m_35 m_474) rfl rfl rfl (by decide +kernel) ⟨Nat.le_of_ble_eq_true rfl, Nat.le_of_ble_eq_true rfl⟩) (pn_preW (q0 := 27) (ci := 2) (q := (R_S, T_S, 2)) hP hD hE rfl rfl) rfl rfl hl.1 rfl (lv_room (Nat.le_of_ble_eq_true rfl)) d_S_settles_87 ⟨Nat.le_of_ble_eq_true rfl, Nat.le_of_ble_eq_true rfl⟩) hD hS hA (fun r u H locs hw hP hD hS => ?_)
                      obtain ⟨P4, b4⟩ := u
                      simp only [nw_s] at hw
                      try dsimp only at hP hD
                      rw [nw_nw] at hP hD
                      rcases hw with ⟨rfl, hnp, hB4⟩ | ⟨rfl, hu4⟩
                      · obtain ⟨hI4, hs4⟩ := pn_I_lift hM o_zc.1 o_zc.2 e2 hnp hB4
                        refine pr_if_eq (tgt := 102) hx hb (i3_of (by decide) (by decide)) d_S_settles_90 (by decide) (fun c_11 => ?_) (fun c_11 => ?_)
                        · skip
                          exact absurd c_11 (by decide)
                        · skip
                          refine lv_iload hx hb d_S_settles_93 (lv_at hl 5 rfl) ?_
                          refine lv_iconst (v := iI (2)) hx hb d_S_settles_95 rfl ?_
                          refine pr_imul hx hb d_S_settles_96 ?_
                          refine lv_istore (lv' := [(5, .int (iI ((((lf : Nat) : Int)) * (2)))), (0, .ref (a 27)), (1, .ref (a (36 + 2 * k))), (2, .int (iI (((m_al (ns 0) : Nat) : Int)))), (3, .int (iI (((ro2 : Nat) : Int)))), (4, .int (iI (((kk : Nat) : Int))))]) hx hb d_S_settles_97 hl (by decide) rfl (fun ls hl => ?_)
                          refine lv_goto (tgt := 70) hx hb d_S_settles_99 (by decide) ?_
                          exact ih (lf * 2) (P4) (b4) _ _ ls hI4 (by omega) (by omega) (by omega) (fun h => absurd h (by omega)) (fun h => absurd h (by omega)) (by omega) hP hD hS (lv_sub hl [1, 2, 3, 4, 5, 0] rfl)
                      · have hI4 : pn_I (ns 0) (nf 0) (m_G nf da (ss k)) P4 := by rw [hu4]; exact e2
                        have hs4 : m_s8 P3 ≤ m_s8 P4 := by rw [hu4]; exact Int.le_refl _
                        refine pr_if_eq (tgt := 102) hx hb (i3_of (by decide) (by decide)) d_S_settles_90 (by decide) (fun c_12 => ?_) (fun c_12 => ?_)
                        · skip
                          refine lv_iload hx hb d_S_settles_102 (lv_at hl 5 rfl) ?_
                          refine lv_iconst (v := iI (2)) hx hb d_S_settles_104 rfl ?_
                          refine pr_idiv hx hb (i3_of (by omega) (by omega)) (i3_of (by decide) (by decide)) (by omega) d_S_settles_105 ?_
                          refine pr_ire (B := ((lf / 2 : Nat) : Int)) (Int.ofNat_tdiv _ _).symm ?_
                          refine lv_istore (lv' := [(5, .int (iI (((lf / 2 : Nat) : Int)))), (0, .ref (a 27)), (1, .ref (a (36 + 2 * k))), (2, .int (iI (((m_al (ns 0) : Nat) : Int)))), (3, .int (iI (((ro2 : Nat) : Int)))), (4, .int (iI (((kk : Nat) : Int))))]) hx hb d_S_settles_106 hl (by decide) rfl (fun ls hl => ?_)
                          exact loop2 _ (lf / 2) (P4) (b4) _ _ ls hI4 (by omega) (by omega) (fun h => absurd h (by omega)) (fun h => absurd h (by omega)) (Nat.lt_succ_self _) hP hD hS (lv_sub hl [1, 2, 3, 4, 5, 0] rfl)
                        · skip
                          exact absurd c_12 (by decide)
              exact loop1 _ (1) (Q2) (bb) _ _ ls hI2 (by omega) (by omega) (Int.le_refl _) (fun _ => rfl) (fun _ => rfl) (Nat.lt_succ_self _) hP hD hS (lv_sub hl [2, 3, 4, 1, 5, 0] rfl)
    refine lv_aload_n hx hb d_S_settles_0 rfl (lv_at hl 1 rfl) ?_
    refine va_get (D := D) (ci := 3) (v := .int (iI (mf k))) (C := R_T) (T := T_T) (N := 4) hx hb hts (in_T _) hown hK hP (36 + 2 * k) (cw_so k hk) rfl 2 (by decide) (ht _ m_182) (fun _ h9 => h9) rfl d_S_settles_1 ?_
    refine lv_aload_n hx hb d_S_settles_4 rfl (lv_at hl 0 rfl) ?_
    refine va_get (D := D) (ci := 2) (v := .ref (a 1)) (C := R_S) (T := T_S) (N := 2) hx hb hts (in_S _) hown hK hP 27 rfl rfl 0 (by decide) (ht _ m_133) (fun _ h9 => h9) rfl d_S_settles_5 ?_
    refine va_get (D := D) (ci := 1) (v := .int (iI (ns 3))) (C := R_N) (T := T_N) (N := 17) hx hb hts (in_N _) hown hK hP 1 rfl rfl 16 (by decide) (ht _ m_90) (fun _ h9 => h9) rfl d_S_settles_8 ?_
    refine pr_icmp_ne (tgt := 19) hx hb (i3_of (by omega) (by omega)) (i3_of (by omega) (by omega)) d_S_settles_11 (by decide) (fun c_13 => ?_) (fun c_13 => ?_)
    · skip
      refine lv_aload_n hx hb d_S_settles_19 rfl (lv_at hl 0 rfl) ?_
      refine lv_aload_n hx hb d_S_settles_20 rfl (lv_at hl 1 rfl) ?_
      refine pr_cv (va_runV (As := [.ref (a (36 + 2 * k))]) (rest := []) ⟨hx, hb, hml, hown, hts⟩ (c_S_begin l (pr := pr) s.heap.size k hk) (cwV 1 hts (pn_gV m_424 m_426 m_8 m_35 m_427) rfl rfl rfl (by decide +kernel) ⟨Nat.le_of_ble_eq_true rfl, Nat.le_of_ble_eq_true rfl⟩) (pn_preW (q0 := 27) (ci := 2) (q := (R_S, T_S, 2)) hP hD hE rfl rfl) rfl rfl hl.1 rfl (lv_room (Nat.le_of_ble_eq_true rfl)) d_S_settles_21 ⟨Nat.le_of_ble_eq_true rfl, Nat.le_of_ble_eq_true rfl⟩) hD hS hA (fun u H locs _ hP hD hS => ?_)
      try dsimp only at hP hD
      have hP : va_P D pn_cl (cw a cI cL cD cS nf ns da be ui ul cn ss mf sd (nw pr k (cp (nf 0) (fl 12 (-5000) (pr k)) ((0 : Nat) : Int) ((0 : Nat) : Int) ((4 : Nat) : Int)))) H := hP
      have hD : va_D A (cw a cI cL cD cS nf ns da be ui ul cn ss mf sd (nw pr k (cp (nf 0) (fl 12 (-5000) (pr k)) ((0 : Nat) : Int) ((0 : Nat) : Int) ((4 : Nat) : Int)))) := hD
      refine lv_iconst (v := iI (1)) hx hb d_S_settles_24 rfl ?_
      refine lv_aload_n hx hb d_S_settles_25 rfl (lv_at hl 0 rfl) ?_
      refine va_get (D := D) (ci := 2) (v := .ref (a 1)) (C := R_S) (T := T_S) (N := 2) hx hb hts (in_S _) hown hK hP 27 rfl rfl 0 (by decide) (ht _ m_133) (fun _ h9 => h9) rfl d_S_settles_26 ?_
      refine va_get (D := D) (ci := 1) (v := .int (iI (ns 0))) (C := R_N) (T := T_N) (N := 17) hx hb hts (in_N _) hown hK hP 1 rfl rfl 13 (by decide) (ht _ m_83) (fun _ h9 => h9) rfl d_S_settles_29 ?_
      refine pr_ire (B := (((ns 0).toNat : Nat) : Int)) (Int.toNat_of_nonneg o_zc.1).symm ?_
      refine lv_ishl hx hb d_S_settles_32 ?_
      refine pr_ixe (B := ((2 ^ (ns 0).toNat : Nat) : Int)) (nb_sh (by omega)) ?_
      refine lv_iconst (v := iI (1)) hx hb d_S_settles_33 rfl ?_
      refine pr_isub hx hb d_S_settles_34 ?_
      refine pr_ire (B := ((m_al (ns 0) : Nat) : Int)) (m_al_v _) ?_
      refine lv_istore_n (lv' := [(2, .int (iI (((m_al (ns 0) : Nat) : Int)))), (0, .ref (a 27)), (1, .ref (a (36 + 2 * k)))]) hx hb d_S_settles_35 rfl hl (by decide) rfl (fun ls hl => ?_)
      refine lv_iload_n hx hb d_S_settles_36 rfl (lv_at hl 0 rfl) ?_
      refine lv_istore_n (lv' := [(3, .int (iI (((m_al (ns 0) : Nat) : Int)))), (2, .int (iI (((m_al (ns 0) : Nat) : Int)))), (0, .ref (a 27)), (1, .ref (a (36 + 2 * k)))]) hx hb d_S_settles_37 rfl hl (by decide) rfl (fun ls hl => ?_)
      refine lv_iconst (v := iI (0)) hx hb d_S_settles_38 rfl ?_
      refine lv_istore (lv' := [(4, .int (iI (0))), (3, .int (iI (((m_al (ns 0) : Nat) : Int)))), (2, .int (iI (((m_al (ns 0) : Nat) : Int)))), (0, .ref (a 27)), (1, .ref (a (36 + 2 * k)))]) hx hb d_S_settles_39 hl (by decide) rfl (fun ls hl => ?_)
      exact main _ (0) (m_al (ns 0)) (m_beg (nf 0) (pr k)) (be) _ _ ls (by omega) (pn_I_beg o_zc.1 o_zc.2 o_wi) (m_al_lt o_zc.2) (fun h z _ _ hz _ => by have := m_al_0 o_zc.1 h; omega) (fun _ => by rw [m_s8_beg]; omega) (Nat.lt_succ_self _) hP hD hS (lv_sub hl [3, 4, 2, 1, 0] rfl)
    · skip
      exact absurd c_13 hne
end
