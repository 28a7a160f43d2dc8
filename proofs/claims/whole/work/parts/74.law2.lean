set_option maxHeartbeats 4000000 in
set_option maxRecDepth 100000 in
theorem lw_zone {p : Program} {e : Env} {s : State} {m : MethodId} {below : List Frame} {meth : Method} {c : Code} (l : Launch) (hst : l.stackTraces = false) {bs L : Nat} {xs : Nat → Int32} (hL : L ≤ 3072) (C0 : lw_At p s m meth c bs L xs) {D : va_G} {a b9 : Nat → Nat} {cI cL cD cS cZ : ClassId} {o : Nat} {A : Nat → Prop} (hE : pn_E D cI cL cD cS s) (hEm : mn_E D cI cL cZ s) (hX : pn_X A s) (hNc : pn_Nc s) (hA : ∀ q, s.heap.size ≤ q → A q) (hbA : ¬ A bs) {H : Heap} {locs : List Loc} {ls : Array Slot} {i K S : Nat} {v : vS} {u : vM} {g : Int → Int} (hi : 6 * i + 6 ≤ L) (hP : va_P D pn_cl ((cwv a cI cL cD cS v ++ vo cL o g) ++ mwv b9 cI cL cZ u) H) (hD : va_D A ((cwv a cI cL cD cS v ++ vo cL o g) ++ mwv b9 cI cL cZ u)) (hS : va_S A s.heap H locs) (hJ : vJt v u) (hn : v.2.1 3 ≤ (i : Int)) (hl : lv_has ls 8 [(0, .ref bs), (1, .ref (a 0)), (2, .ref (b9 0)), (3, .ref o), (4, .int (iI (6 * (i : Int))))]) (hK : K + 1 ≤ 627858) (hSl : S + 6 ≤ 7212529) (kk : ∀ (v' : vS) (u' : vM) (g' : Int → Int) (H' : Heap) (locs' : List Loc) (ls' : Array Slot), va_P D pn_cl ((cwv a cI cL cD cS v' ++ vo cL o g') ++ mwv b9 cI cL cZ u') H' → va_D A ((cwv a cI cL cD cS v' ++ vo cL o g') ++ mwv b9 cI cL cZ u') → va_S A s.heap H' locs' → vJt v' u' → v'.2.1 3 ≤ (i : Int) + 1 → lv_has ls' 8 [(0, .ref bs), (1, .ref (a 0)), (2, .ref (b9 0)), (3, .ref o), (4, .int (iI (6 * (i : Int))))] → W p l e room_1 s m #[Value.ref bs] below meth c H' locs' (K + 1) (S + 6) (lw_Z below #[Value.ref bs] s) (F0 m 1218 ls' [])) : W p l e room_1 s m #[Value.ref bs] below meth c H locs K S (lw_Z below #[Value.ref bs] s) (F0 m 120 ls []) := by
  obtain ⟨nf, ns, da, be, ui, ul, cn, ss, mf, sd, pr⟩ := v
  obtain ⟨mi, ml, mz, ms⟩ := u
  have hJ : v_J nf ns da ui ul cn ss mf sd pr mi ml mz ms := hJ
  have hn : ns 3 ≤ (i : Int) := hn
  have hP : va_P D pn_cl ((cw a cI cL cD cS nf ns da be ui ul cn ss mf sd pr ++ vo cL o g) ++ mw b9 cI cL cZ mi ml mz ms) H := hP
  have hD : va_D A ((cw a cI cL cD cS nf ns da be ui ul cn ss mf sd pr ++ vo cL o g) ++ mw b9 cI cL cZ mi ml mz ms) := hD
  obtain ⟨hx, hb, hr, hml, hown, htl, hXs, hbl, hlocks, hgv⟩ := id C0
  have ht : ∀ w ∈ pn_W, w.before #[Value.ref bs] s = true := fun w h => htl w (List.mem_filter.mp h).1
  have hts : ∀ w ∈ (Cond.initialized "PressureNets" :: pn_W), w.before #[Value.ref bs] s = true := fun w h => (List.mem_cons.mp h).elim (fun q => by rw [q]; exact ht _ m_33) (ht w)
  have hKm := hEm
  obtain ⟨x0, ex⟩ : ∃ q : Int, q = (xs (6 * i + 1)).toInt := ⟨_, rfl⟩
  have gx : i3 x0 := by rw [ex]; exact i3_32 _
  obtain ⟨y0, ey⟩ : ∃ q : Int, q = (xs (6 * i + 2)).toInt := ⟨_, rfl⟩
  have gy : i3 y0 := by rw [ey]; exact i3_32 _
  refine lv_aload_n hx hb d_L_law_120 rfl (lv_at hl 1 rfl) ?_
  refine lv_aload_n hx hb d_L_law_121 rfl (lv_at hl 0 rfl) ?_
  refine lv_iload hx hb d_L_law_122 (lv_at hl 4 rfl) ?_
  refine lv_iconst (v := iI (1)) hx hb d_L_law_124 rfl ?_
  refine pr_iadd hx hb d_L_law_125 ?_
  refine pr_sld (X := x0) (n := 6 * i + 1) hx hb hXs hbl hbA hS (by omega) (by omega) hL ex d_L_law_126 ?_
  refine lv_aload_n hx hb d_L_law_127 rfl (lv_at hl 0 rfl) ?_
  refine lv_iload hx hb d_L_law_128 (lv_at hl 4 rfl) ?_
  refine lv_iconst (v := iI (2)) hx hb d_L_law_130 rfl ?_
  refine pr_iadd hx hb d_L_law_131 ?_
  refine pr_sld (X := y0) (n := 6 * i + 2) hx hb hXs hbl hbA hS (by omega) (by omega) hL ey d_L_law_132 ?_
  refine lv_aload_n hx hb d_L_law_133 rfl (lv_at hl 3 rfl) ?_
  refine va_calli (vx_runSW (As := [.ref (a 0), .int (iI (x0)), .int (iI (y0)), .ref o]) (rest := []) ⟨hx, hb, hml, hown, hts⟩ (c_L_zone l hst H.size o g x0 y0 (v_J_ok hJ) gx gy) (vx_cwSW 4 hts (pn_gS2 m_215 m_216 m_32 m_217) rfl rfl rfl (by decide +kernel) ⟨Nat.le_of_ble_eq_true rfl, Nat.le_of_ble_eq_true rfl⟩) (pn_preL (vj_PL hP) (vj_DL hD) hE hX hNc hS hA) rfl rfl hl.1 rfl (lv_room (Nat.le_of_ble_eq_true rfl)) d_L_law_134 ⟨hK, hSl⟩) hS (fun q _ h => pr_all (vj_DL hD) hS hA q h) (fun q h => pr_all (vj_DL hD) hS hA q h) (fun r1 w t1 H1 locs1 ht1 hvm1 hw hB hz1 hk1 hS1 => ?_)
  obtain ⟨hP1, hD1⟩ := hB
  rw [ht1] at hP1
  obtain ⟨hP, hD⟩ := vj_app hP hD hk1 (fun q h => pr_all (vj_DL hD) hS hA q h) hP1 hD1
  clear hS hP1 hD1 hk1
  dsimp only at hP hD
  have hS := hS1
  clear hS1
  obtain ⟨w1, w2⟩ := w
  dsimp only at hP hD
  refine lv_istore (lv' := [(5, .int r1), (0, .ref bs), (1, .ref (a 0)), (2, .ref (b9 0)), (3, .ref o), (4, .int (iI (6 * (i : Int))))]) hx hb d_L_law_137 hl (by decide) rfl (fun ls hl => ?_)
  refine lv_aload_n hx hb d_L_law_139 rfl (lv_at hl 3 rfl) ?_
  refine lv_aload_n hx hb d_L_law_140 rfl (lv_at hl 1 rfl) ?_
  refine lv_iload hx hb d_L_law_141 (lv_at hl 5 rfl) ?_
  refine lv_iconst (v := iI (1)) hx hb d_L_law_143 rfl ?_
  refine pr_iadd hx hb d_L_law_144 ?_
  refine pr_sld (X := x0) (n := 6 * i + 1) hx hb hXs hbl hbA hS (by omega) (by omega) hL ex d_L_law_145 ?_
  refine lv_aload_n hx hb d_L_law_146 rfl (lv_at hl 1 rfl) ?_
  refine lv_iload hx hb d_L_law_147 (lv_at hl 5 rfl) ?_
  refine lv_iconst (v := iI (2)) hx hb d_L_law_149 rfl ?_
  refine pr_iadd hx hb d_L_law_150 ?_
  refine pr_sld (X := y0) (n := 6 * i + 2) hx hb hXs hbl hbA hS (by omega) (by omega) hL ey d_L_law_151 ?_
  have hP2 := vj_swP hP
  have hD2 := vj_swD hD
  refine va_calli (va_runV (As := [.int (iI (x0)), .int (iI (y0))]) (rest := []) ⟨hx, hb, hml, hown, hts⟩ (c_M_zone l H1.size nf ns da x0 y0 (v_J_ok hJ) (v_J_R hJ) (v_J_mn hJ) gx gy) (cwV 2 hts (pn_gV m_677 m_678 m_679 m_38 m_680) rfl rfl rfl (by decide +kernel) ⟨Nat.le_of_ble_eq_true rfl, Nat.le_of_ble_eq_true rfl⟩) (mn_preW (q0 := 0) (ci := 5) (q := (R_M, T_M, 27)) (vj_PL hP2) (vj_DL hD2) hEm rfl rfl) rfl rfl hl.1 rfl (lv_room (Nat.le_of_ble_eq_true rfl)) d_L_law_152 ⟨hK, hSl⟩) hS (fun q _ h => pr_all (vj_DL hD2) hS hA q h) (fun q h => pr_all (vj_DL hD2) hS hA q h) (fun r2 u t2 H2 locs2 ht2 hvm2 hw2 hB hz2 hk2 hS2 => ?_)
  obtain ⟨hP1, hD1⟩ := hB
  rw [ht2] at hP1
  obtain ⟨hP, hD⟩ := vj_app hP2 hD2 hk2 (fun q h => pr_all (vj_DL hD2) hS hA q h) hP1 hD1
  clear hS hP1 hD1 hk2 hP2 hD2
  dsimp only at hP hD
  have hS := hS2
  clear hS2
  obtain ⟨k, hk3, rfl, hms, hval, hJ', hn'⟩ := j_zone hJ (show ns 3 < 512 by omega) hw hw2
  dsimp only at hms hval hJ' hn'
  obtain ⟨mi2, ml2, mz2, ms2⟩ := u
  dsimp only at hP hD hms
  have hPm := vj_PL hP
  have hP := vj_swP hP
  have hD := vj_swD hD
  refine lv_istore (lv' := [(6, .int r2), (5, .int (iI k)), (0, .ref bs), (1, .ref (a 0)), (2, .ref (b9 0)), (3, .ref o), (4, .int (iI (6 * (i : Int))))]) hx hb d_L_law_155 hl (by decide) rfl (fun ls hl => ?_)
  refine lv_aload_n hx hb d_L_law_157 rfl (lv_at hl 4 rfl) ?_
  refine pr_pi (va_runV (As := []) (rest := []) ⟨hx, hb, hml, hown, hts⟩ (c_M_thrown l) (cwV 0 hts (pn_gV m_673 m_674 m_675 m_38 m_676) rfl rfl rfl (by decide +kernel) ⟨Nat.le_of_ble_eq_true rfl, Nat.le_of_ble_eq_true rfl⟩) (mn_preV (q0 := 0) (ci := 5) (q := (R_M, T_M, 27)) hPm hEm rfl rfl) rfl rfl hl.1 rfl (lv_room (Nat.le_of_ble_eq_true rfl)) d_L_law_158 ⟨hK, hSl⟩) ?_
  rw [hms]
  refine lv_iload hx hb d_L_law_161 (lv_at hl 1 rfl) ?_
  refine lv_icmp_eq (tgt := 168) hx hb d_L_law_163 (by decide) (fun c9 => ?_) (fun c9 => absurd rfl c9)
  refine lv_iload hx hb d_L_law_168 (lv_at hl 1 rfl) ?_
  have kkk := kk w1 (mi2, ml2, mz2, ms2) w2 H2 locs2
  refine lv_if_ne (tgt := 185) hx hb d_L_law_170 (by decide) (fun c9 => ?_) (fun c9 => ?_)
  · skip
    refine lv_goto (tgt := 1218) hx hb d_L_law_185 (by decide) ?_
    exact kkk ls hP hD hS hJ' (by omega) (lv_sub hl [2, 3, 4, 5, 6] rfl)
  · have k0 : k = 0 := by rcases hk3 with h | h | h; exact h; rw [h] at c9; exact absurd c9 (by decide); rw [h] at c9; exact absurd c9 (by decide)
    have hv := hval k0
    refine lv_aload_n hx hb d_L_law_173 rfl (lv_at hl 5 rfl) ?_
    refine lv_iconst (v := iI (0)) hx hb d_L_law_174 rfl ?_
    refine pr_lald hx hb hE.1 hP 54 1 rfl rfl (by decide) (by decide) (by decide) d_L_law_175 ?_
    refine lv_iload hx hb d_L_law_176 (lv_at hl 0 rfl) ?_
    refine lv_i2l (v := r2.toInt64) hx hb d_L_law_178 rfl ?_
    refine pr_lcmps (tgt := 185) hx hb hv d_L_law_179 d_L_law_180 (by decide) ?_
    refine lv_goto (tgt := 1218) hx hb d_L_law_185 (by decide) ?_
    exact kkk ls hP hD hS hJ' (by omega) (lv_sub hl [2, 3, 4, 5, 6] rfl)
set_option maxHeartbeats 4000000 in
set_option maxRecDepth 100000 in
theorem lw_wind {p : Program} {e : Env} {s : State} {m : MethodId} {below : List Frame} {meth : Method} {c : Code} (l : Launch) (hst : l.stackTraces = false) {bs L : Nat} {xs : Nat → Int32} (hL : L ≤ 3072) (C0 : lw_At p s m meth c bs L xs) {D : va_G} {a b9 : Nat → Nat} {cI cL cD cS cZ : ClassId} {o : Nat} {A : Nat → Prop} (hE : pn_E D cI cL cD cS s) (hEm : mn_E D cI cL cZ s) (hX : pn_X A s) (hNc : pn_Nc s) (hA : ∀ q, s.heap.size ≤ q → A q) (hbA : ¬ A bs) {H : Heap} {locs : List Loc} {ls : Array Slot} {i K S : Nat} {v : vS} {u : vM} {g : Int → Int} (hi : 6 * i + 6 ≤ L) (hP : va_P D pn_cl ((cwv a cI cL cD cS v ++ vo cL o g) ++ mwv b9 cI cL cZ u) H) (hD : va_D A ((cwv a cI cL cD cS v ++ vo cL o g) ++ mwv b9 cI cL cZ u)) (hS : va_S A s.heap H locs) (hJ : vJt v u) (hn : v.2.1 3 ≤ (i : Int)) (hl : lv_has ls 8 [(0, .ref bs), (1, .ref (a 0)), (2, .ref (b9 0)), (3, .ref o), (4, .int (iI (6 * (i : Int))))]) (hK : K + 1 ≤ 627858) (hSl : S + 6 ≤ 7212529) (kk : ∀ (v' : vS) (u' : vM) (g' : Int → Int) (H' : Heap) (locs' : List Loc) (ls' : Array Slot), va_P D pn_cl ((cwv a cI cL cD cS v' ++ vo cL o g') ++ mwv b9 cI cL cZ u') H' → va_D A ((cwv a cI cL cD cS v' ++ vo cL o g') ++ mwv b9 cI cL cZ u') → va_S A s.heap H' locs' → vJt v' u' → v'.2.1 3 ≤ (i : Int) + 1 → lv_has ls' 8 [(0, .ref bs), (1, .ref (a 0)), (2, .ref (b9 0)), (3, .ref o), (4, .int (iI (6 * (i : Int))))] → W p l e room_1 s m #[Value.ref bs] below meth c H' locs' (K + 1) (S + 6) (lw_Z below #[Value.ref bs] s) (F0 m 1218 ls' [])) : W p l e room_1 s m #[Value.ref bs] below meth c H locs K S (lw_Z below #[Value.ref bs] s) (F0 m 188 ls []) := by
  obtain ⟨nf, ns, da, be, ui, ul, cn, ss, mf, sd, pr⟩ := v
  obtain ⟨mi, ml, mz, ms⟩ := u
  have hJ : v_J nf ns da ui ul cn ss mf sd pr mi ml mz ms := hJ
  have hn : ns 3 ≤ (i : Int) := hn
  have hP : va_P D pn_cl ((cw a cI cL cD cS nf ns da be ui ul cn ss mf sd pr ++ vo cL o g) ++ mw b9 cI cL cZ mi ml mz ms) H := hP
  have hD : va_D A ((cw a cI cL cD cS nf ns da be ui ul cn ss mf sd pr ++ vo cL o g) ++ mw b9 cI cL cZ mi ml mz ms) := hD
  obtain ⟨hx, hb, hr, hml, hown, htl, hXs, hbl, hlocks, hgv⟩ := id C0
  have ht : ∀ w ∈ pn_W, w.before #[Value.ref bs] s = true := fun w h => htl w (List.mem_filter.mp h).1
  have hts : ∀ w ∈ (Cond.initialized "PressureNets" :: pn_W), w.before #[Value.ref bs] s = true := fun w h => (List.mem_cons.mp h).elim (fun q => by rw [q]; exact ht _ m_33) (ht w)
  have hKm := hEm
  obtain ⟨x0, ex⟩ : ∃ q : Int, q = (xs (6 * i + 1)).toInt := ⟨_, rfl⟩
  have gx : i3 x0 := by rw [ex]; exact i3_32 _
  obtain ⟨y0, ey⟩ : ∃ q : Int, q = (xs (6 * i + 2)).toInt := ⟨_, rfl⟩
  have gy : i3 y0 := by rw [ey]; exact i3_32 _
  refine lv_aload_n hx hb d_L_law_188 rfl (lv_at hl 1 rfl) ?_
  refine lv_aload_n hx hb d_L_law_189 rfl (lv_at hl 0 rfl) ?_
  refine lv_iload hx hb d_L_law_190 (lv_at hl 4 rfl) ?_
  refine lv_iconst (v := iI (1)) hx hb d_L_law_192 rfl ?_
  refine pr_iadd hx hb d_L_law_193 ?_
  refine pr_sld (X := x0) (n := 6 * i + 1) hx hb hXs hbl hbA hS (by omega) (by omega) hL ex d_L_law_194 ?_
  refine lv_aload_n hx hb d_L_law_195 rfl (lv_at hl 0 rfl) ?_
  refine lv_iload hx hb d_L_law_196 (lv_at hl 4 rfl) ?_
  refine lv_iconst (v := iI (2)) hx hb d_L_law_198 rfl ?_
  refine pr_iadd hx hb d_L_law_199 ?_
  refine pr_sld (X := y0) (n := 6 * i + 2) hx hb hXs hbl hbA hS (by omega) (by omega) hL ey d_L_law_200 ?_
  refine lv_aload_n hx hb d_L_law_201 rfl (lv_at hl 3 rfl) ?_
  refine va_calli (vx_runSW (As := [.ref (a 0), .int (iI (x0)), .int (iI (y0)), .ref o]) (rest := []) ⟨hx, hb, hml, hown, hts⟩ (c_L_wind l hst H.size o g x0 y0 (v_J_ok hJ) gx gy) (vx_cwSW 4 hts (pn_gS2 m_327 m_328 m_32 m_329) rfl rfl rfl (by decide +kernel) ⟨Nat.le_of_ble_eq_true rfl, Nat.le_of_ble_eq_true rfl⟩) (pn_preL (vj_PL hP) (vj_DL hD) hE hX hNc hS hA) rfl rfl hl.1 rfl (lv_room (Nat.le_of_ble_eq_true rfl)) d_L_law_202 ⟨hK, hSl⟩) hS (fun q _ h => pr_all (vj_DL hD) hS hA q h) (fun q h => pr_all (vj_DL hD) hS hA q h) (fun r1 w t1 H1 locs1 ht1 hvm1 hw hB hz1 hk1 hS1 => ?_)
  obtain ⟨hP1, hD1⟩ := hB
  rw [ht1] at hP1
  obtain ⟨hP, hD⟩ := vj_app hP hD hk1 (fun q h => pr_all (vj_DL hD) hS hA q h) hP1 hD1
  clear hS hP1 hD1 hk1
  dsimp only at hP hD
  have hS := hS1
  clear hS1
  obtain ⟨w1, w2⟩ := w
  dsimp only at hP hD
  refine lv_istore (lv' := [(5, .int r1), (0, .ref bs), (1, .ref (a 0)), (2, .ref (b9 0)), (3, .ref o), (4, .int (iI (6 * (i : Int))))]) hx hb d_L_law_205 hl (by decide) rfl (fun ls hl => ?_)
  refine lv_aload_n hx hb d_L_law_207 rfl (lv_at hl 3 rfl) ?_
  refine lv_aload_n hx hb d_L_law_208 rfl (lv_at hl 1 rfl) ?_
  refine lv_iload hx hb d_L_law_209 (lv_at hl 5 rfl) ?_
  refine lv_iconst (v := iI (1)) hx hb d_L_law_211 rfl ?_
  refine pr_iadd hx hb d_L_law_212 ?_
  refine pr_sld (X := x0) (n := 6 * i + 1) hx hb hXs hbl hbA hS (by omega) (by omega) hL ex d_L_law_213 ?_
  refine lv_aload_n hx hb d_L_law_214 rfl (lv_at hl 1 rfl) ?_
  refine lv_iload hx hb d_L_law_215 (lv_at hl 5 rfl) ?_
  refine lv_iconst (v := iI (2)) hx hb d_L_law_217 rfl ?_
  refine pr_iadd hx hb d_L_law_218 ?_
  refine pr_sld (X := y0) (n := 6 * i + 2) hx hb hXs hbl hbA hS (by omega) (by omega) hL ey d_L_law_219 ?_
  have hP2 := vj_swP hP
  have hD2 := vj_swD hD
  refine va_calli (va_runV (As := [.int (iI (x0)), .int (iI (y0))]) (rest := []) ⟨hx, hb, hml, hown, hts⟩ (c_M_wind l H1.size nf ns da x0 y0 (v_J_ok hJ) (v_J_R hJ) (v_J_mn hJ) gx gy) (cwV 2 hts (pn_gV m_687 m_688 m_689 m_38 m_690) rfl rfl rfl (by decide +kernel) ⟨Nat.le_of_ble_eq_true rfl, Nat.le_of_ble_eq_true rfl⟩) (mn_preW (q0 := 0) (ci := 5) (q := (R_M, T_M, 27)) (vj_PL hP2) (vj_DL hD2) hEm rfl rfl) rfl rfl hl.1 rfl (lv_room (Nat.le_of_ble_eq_true rfl)) d_L_law_220 ⟨hK, hSl⟩) hS (fun q _ h => pr_all (vj_DL hD2) hS hA q h) (fun q h => pr_all (vj_DL hD2) hS hA q h) (fun r2 u t2 H2 locs2 ht2 hvm2 hw2 hB hz2 hk2 hS2 => ?_)
  obtain ⟨hP1, hD1⟩ := hB
  rw [ht2] at hP1
  obtain ⟨hP, hD⟩ := vj_app hP2 hD2 hk2 (fun q h => pr_all (vj_DL hD2) hS hA q h) hP1 hD1
  clear hS hP1 hD1 hk2 hP2 hD2
  dsimp only at hP hD
  have hS := hS2
  clear hS2
  obtain ⟨k, hk3, rfl, hms, hval, hJ', hn'⟩ := j_wind hJ (show ns 3 < 512 by omega) hw hw2
  dsimp only at hms hval hJ' hn'
  obtain ⟨mi2, ml2, mz2, ms2⟩ := u
  dsimp only at hP hD hms
  have hPm := vj_PL hP
  have hP := vj_swP hP
  have hD := vj_swD hD
  refine lv_istore (lv' := [(6, .int r2), (5, .int (iI k)), (0, .ref bs), (1, .ref (a 0)), (2, .ref (b9 0)), (3, .ref o), (4, .int (iI (6 * (i : Int))))]) hx hb d_L_law_223 hl (by decide) rfl (fun ls hl => ?_)
  refine lv_aload_n hx hb d_L_law_225 rfl (lv_at hl 4 rfl) ?_
  refine pr_pi (va_runV (As := []) (rest := []) ⟨hx, hb, hml, hown, hts⟩ (c_M_thrown l) (cwV 0 hts (pn_gV m_673 m_674 m_675 m_38 m_676) rfl rfl rfl (by decide +kernel) ⟨Nat.le_of_ble_eq_true rfl, Nat.le_of_ble_eq_true rfl⟩) (mn_preV (q0 := 0) (ci := 5) (q := (R_M, T_M, 27)) hPm hEm rfl rfl) rfl rfl hl.1 rfl (lv_room (Nat.le_of_ble_eq_true rfl)) d_L_law_226 ⟨hK, hSl⟩) ?_
  rw [hms]
  refine lv_iload hx hb d_L_law_229 (lv_at hl 1 rfl) ?_
  refine lv_icmp_eq (tgt := 236) hx hb d_L_law_231 (by decide) (fun c9 => ?_) (fun c9 => absurd rfl c9)
  refine lv_iload hx hb d_L_law_236 (lv_at hl 1 rfl) ?_
  have kkk := kk w1 (mi2, ml2, mz2, ms2) w2 H2 locs2
  refine lv_if_ne (tgt := 253) hx hb d_L_law_238 (by decide) (fun c9 => ?_) (fun c9 => ?_)
  · skip
    refine lv_goto (tgt := 1218) hx hb d_L_law_253 (by decide) ?_
    exact kkk ls hP hD hS hJ' (by omega) (lv_sub hl [2, 3, 4, 5, 6] rfl)
  · have k0 : k = 0 := by rcases hk3 with h | h | h; exact h; rw [h] at c9; exact absurd c9 (by decide); rw [h] at c9; exact absurd c9 (by decide)
    have hv := hval k0
    refine lv_aload_n hx hb d_L_law_241 rfl (lv_at hl 5 rfl) ?_
    refine lv_iconst (v := iI (0)) hx hb d_L_law_242 rfl ?_
    refine pr_lald hx hb hE.1 hP 54 1 rfl rfl (by decide) (by decide) (by decide) d_L_law_243 ?_
    refine lv_iload hx hb d_L_law_244 (lv_at hl 0 rfl) ?_
    refine lv_i2l (v := r2.toInt64) hx hb d_L_law_246 rfl ?_
    refine pr_lcmps (tgt := 253) hx hb hv d_L_law_247 d_L_law_248 (by decide) ?_
    refine lv_goto (tgt := 1218) hx hb d_L_law_253 (by decide) ?_
    exact kkk ls hP hD hS hJ' (by omega) (lv_sub hl [2, 3, 4, 5, 6] rfl)
set_option maxHeartbeats 4000000 in
set_option maxRecDepth 100000 in
theorem lw_warmth {p : Program} {e : Env} {s : State} {m : MethodId} {below : List Frame} {meth : Method} {c : Code} (l : Launch) (hst : l.stackTraces = false) {bs L : Nat} {xs : Nat → Int32} (hL : L ≤ 3072) (C0 : lw_At p s m meth c bs L xs) {D : va_G} {a b9 : Nat → Nat} {cI cL cD cS cZ : ClassId} {o : Nat} {A : Nat → Prop} (hE : pn_E D cI cL cD cS s) (hEm : mn_E D cI cL cZ s) (hX : pn_X A s) (hNc : pn_Nc s) (hA : ∀ q, s.heap.size ≤ q → A q) (hbA : ¬ A bs) {H : Heap} {locs : List Loc} {ls : Array Slot} {i K S : Nat} {v : vS} {u : vM} {g : Int → Int} (hi : 6 * i + 6 ≤ L) (hP : va_P D pn_cl ((cwv a cI cL cD cS v ++ vo cL o g) ++ mwv b9 cI cL cZ u) H) (hD : va_D A ((cwv a cI cL cD cS v ++ vo cL o g) ++ mwv b9 cI cL cZ u)) (hS : va_S A s.heap H locs) (hJ : vJt v u) (hn : v.2.1 3 ≤ (i : Int)) (hl : lv_has ls 8 [(0, .ref bs), (1, .ref (a 0)), (2, .ref (b9 0)), (3, .ref o), (4, .int (iI (6 * (i : Int))))]) (hK : K + 1 ≤ 627858) (hSl : S + 6 ≤ 7212529) (kk : ∀ (v' : vS) (u' : vM) (g' : Int → Int) (H' : Heap) (locs' : List Loc) (ls' : Array Slot), va_P D pn_cl ((cwv a cI cL cD cS v' ++ vo cL o g') ++ mwv b9 cI cL cZ u') H' → va_D A ((cwv a cI cL cD cS v' ++ vo cL o g') ++ mwv b9 cI cL cZ u') → va_S A s.heap H' locs' → vJt v' u' → v'.2.1 3 ≤ (i : Int) + 1 → lv_has ls' 8 [(0, .ref bs), (1, .ref (a 0)), (2, .ref (b9 0)), (3, .ref o), (4, .int (iI (6 * (i : Int))))] → W p l e room_1 s m #[Value.ref bs] below meth c H' locs' (K + 1) (S + 6) (lw_Z below #[Value.ref bs] s) (F0 m 1218 ls' [])) : W p l e room_1 s m #[Value.ref bs] below meth c H locs K S (lw_Z below #[Value.ref bs] s) (F0 m 256 ls []) := by
  obtain ⟨nf, ns, da, be, ui, ul, cn, ss, mf, sd, pr⟩ := v
  obtain ⟨mi, ml, mz, ms⟩ := u
  have hJ : v_J nf ns da ui ul cn ss mf sd pr mi ml mz ms := hJ
  have hn : ns 3 ≤ (i : Int) := hn
  have hP : va_P D pn_cl ((cw a cI cL cD cS nf ns da be ui ul cn ss mf sd pr ++ vo cL o g) ++ mw b9 cI cL cZ mi ml mz ms) H := hP
  have hD : va_D A ((cw a cI cL cD cS nf ns da be ui ul cn ss mf sd pr ++ vo cL o g) ++ mw b9 cI cL cZ mi ml mz ms) := hD
  obtain ⟨hx, hb, hr, hml, hown, htl, hXs, hbl, hlocks, hgv⟩ := id C0
  have ht : ∀ w ∈ pn_W, w.before #[Value.ref bs] s = true := fun w h => htl w (List.mem_filter.mp h).1
  have hts : ∀ w ∈ (Cond.initialized "PressureNets" :: pn_W), w.before #[Value.ref bs] s = true := fun w h => (List.mem_cons.mp h).elim (fun q => by rw [q]; exact ht _ m_33) (ht w)
  have hKm := hEm
  obtain ⟨x0, ex⟩ : ∃ q : Int, q = (xs (6 * i + 1)).toInt := ⟨_, rfl⟩
  have gx : i3 x0 := by rw [ex]; exact i3_32 _
  obtain ⟨y0, ey⟩ : ∃ q : Int, q = (xs (6 * i + 2)).toInt := ⟨_, rfl⟩
  have gy : i3 y0 := by rw [ey]; exact i3_32 _
  refine lv_aload_n hx hb d_L_law_256 rfl (lv_at hl 1 rfl) ?_
  refine lv_aload_n hx hb d_L_law_257 rfl (lv_at hl 0 rfl) ?_
  refine lv_iload hx hb d_L_law_258 (lv_at hl 4 rfl) ?_
  refine lv_iconst (v := iI (1)) hx hb d_L_law_260 rfl ?_
  refine pr_iadd hx hb d_L_law_261 ?_
  refine pr_sld (X := x0) (n := 6 * i + 1) hx hb hXs hbl hbA hS (by omega) (by omega) hL ex d_L_law_262 ?_
  refine lv_aload_n hx hb d_L_law_263 rfl (lv_at hl 0 rfl) ?_
  refine lv_iload hx hb d_L_law_264 (lv_at hl 4 rfl) ?_
  refine lv_iconst (v := iI (2)) hx hb d_L_law_266 rfl ?_
  refine pr_iadd hx hb d_L_law_267 ?_
  refine pr_sld (X := y0) (n := 6 * i + 2) hx hb hXs hbl hbA hS (by omega) (by omega) hL ey d_L_law_268 ?_
  refine lv_aload_n hx hb d_L_law_269 rfl (lv_at hl 3 rfl) ?_
  refine va_calli (vx_runSW (As := [.ref (a 0), .int (iI (x0)), .int (iI (y0)), .ref o]) (rest := []) ⟨hx, hb, hml, hown, hts⟩ (c_L_warmth l hst H.size o g x0 y0 (v_J_ok hJ) gx gy) (vx_cwSW 4 hts (pn_gS2 m_342 m_343 m_32 m_344) rfl rfl rfl (by decide +kernel) ⟨Nat.le_of_ble_eq_true rfl, Nat.le_of_ble_eq_true rfl⟩) (pn_preL (vj_PL hP) (vj_DL hD) hE hX hNc hS hA) rfl rfl hl.1 rfl (lv_room (Nat.le_of_ble_eq_true rfl)) d_L_law_270 ⟨hK, hSl⟩) hS (fun q _ h => pr_all (vj_DL hD) hS hA q h) (fun q h => pr_all (vj_DL hD) hS hA q h) (fun r1 w t1 H1 locs1 ht1 hvm1 hw hB hz1 hk1 hS1 => ?_)
  obtain ⟨hP1, hD1⟩ := hB
  rw [ht1] at hP1
  obtain ⟨hP, hD⟩ := vj_app hP hD hk1 (fun q h => pr_all (vj_DL hD) hS hA q h) hP1 hD1
  clear hS hP1 hD1 hk1
  dsimp only at hP hD
  have hS := hS1
  clear hS1
  obtain ⟨w1, w2⟩ := w
  dsimp only at hP hD
  refine lv_istore (lv' := [(5, .int r1), (0, .ref bs), (1, .ref (a 0)), (2, .ref (b9 0)), (3, .ref o), (4, .int (iI (6 * (i : Int))))]) hx hb d_L_law_273 hl (by decide) rfl (fun ls hl => ?_)
  refine lv_aload_n hx hb d_L_law_275 rfl (lv_at hl 3 rfl) ?_
  refine lv_aload_n hx hb d_L_law_276 rfl (lv_at hl 1 rfl) ?_
  refine lv_iload hx hb d_L_law_277 (lv_at hl 5 rfl) ?_
  refine lv_iconst (v := iI (1)) hx hb d_L_law_279 rfl ?_
  refine pr_iadd hx hb d_L_law_280 ?_
  refine pr_sld (X := x0) (n := 6 * i + 1) hx hb hXs hbl hbA hS (by omega) (by omega) hL ex d_L_law_281 ?_
  refine lv_aload_n hx hb d_L_law_282 rfl (lv_at hl 1 rfl) ?_
  refine lv_iload hx hb d_L_law_283 (lv_at hl 5 rfl) ?_
  refine lv_iconst (v := iI (2)) hx hb d_L_law_285 rfl ?_
  refine pr_iadd hx hb d_L_law_286 ?_
  refine pr_sld (X := y0) (n := 6 * i + 2) hx hb hXs hbl hbA hS (by omega) (by omega) hL ey d_L_law_287 ?_
  have hP2 := vj_swP hP
  have hD2 := vj_swD hD
  refine va_calli (va_runV (As := [.int (iI (x0)), .int (iI (y0))]) (rest := []) ⟨hx, hb, hml, hown, hts⟩ (c_M_warmth l H1.size nf ns da x0 y0 (v_J_ok hJ) (v_J_R hJ) (v_J_mn hJ) gx gy) (cwV 2 hts (pn_gV m_693 m_694 m_695 m_38 m_696) rfl rfl rfl (by decide +kernel) ⟨Nat.le_of_ble_eq_true rfl, Nat.le_of_ble_eq_true rfl⟩) (mn_preW (q0 := 0) (ci := 5) (q := (R_M, T_M, 27)) (vj_PL hP2) (vj_DL hD2) hEm rfl rfl) rfl rfl hl.1 rfl (lv_room (Nat.le_of_ble_eq_true rfl)) d_L_law_288 ⟨hK, hSl⟩) hS (fun q _ h => pr_all (vj_DL hD2) hS hA q h) (fun q h => pr_all (vj_DL hD2) hS hA q h) (fun r2 u t2 H2 locs2 ht2 hvm2 hw2 hB hz2 hk2 hS2 => ?_)
  obtain ⟨hP1, hD1⟩ := hB
  rw [ht2] at hP1
  obtain ⟨hP, hD⟩ := vj_app hP2 hD2 hk2 (fun q h => pr_all (vj_DL hD2) hS hA q h) hP1 hD1
  clear hS hP1 hD1 hk2 hP2 hD2
  dsimp only at hP hD
  have hS := hS2
  clear hS2
  obtain ⟨k, hk3, rfl, hms, hval, hJ', hn'⟩ := j_warmth hJ (show ns 3 < 512 by omega) hw hw2
  dsimp only at hms hval hJ' hn'
  obtain ⟨mi2, ml2, mz2, ms2⟩ := u
  dsimp only at hP hD hms
  have hPm := vj_PL hP
  have hP := vj_swP hP
  have hD := vj_swD hD
  refine lv_istore (lv' := [(6, .int r2), (5, .int (iI k)), (0, .ref bs), (1, .ref (a 0)), (2, .ref (b9 0)), (3, .ref o), (4, .int (iI (6 * (i : Int))))]) hx hb d_L_law_291 hl (by decide) rfl (fun ls hl => ?_)
  refine lv_aload_n hx hb d_L_law_293 rfl (lv_at hl 4 rfl) ?_
  refine pr_pi (va_runV (As := []) (rest := []) ⟨hx, hb, hml, hown, hts⟩ (c_M_thrown l) (cwV 0 hts (pn_gV m_673 m_674 m_675 m_38 m_676) rfl rfl rfl (by decide +kernel) ⟨Nat.le_of_ble_eq_true rfl, Nat.le_of_ble_eq_true rfl⟩) (mn_preV (q0 := 0) (ci := 5) (q := (R_M, T_M, 27)) hPm hEm rfl rfl) rfl rfl hl.1 rfl (lv_room (Nat.le_of_ble_eq_true rfl)) d_L_law_294 ⟨hK, hSl⟩) ?_
  rw [hms]
  refine lv_iload hx hb d_L_law_297 (lv_at hl 1 rfl) ?_
  refine lv_icmp_eq (tgt := 304) hx hb d_L_law_299 (by decide) (fun c9 => ?_) (fun c9 => absurd rfl c9)
  refine lv_iload hx hb d_L_law_304 (lv_at hl 1 rfl) ?_
  have kkk := kk w1 (mi2, ml2, mz2, ms2) w2 H2 locs2
  refine lv_if_ne (tgt := 321) hx hb d_L_law_306 (by decide) (fun c9 => ?_) (fun c9 => ?_)
  · skip
    refine lv_goto (tgt := 1218) hx hb d_L_law_321 (by decide) ?_
    exact kkk ls hP hD hS hJ' (by omega) (lv_sub hl [2, 3, 4, 5, 6] rfl)
  · have k0 : k = 0 := by rcases hk3 with h | h | h; exact h; rw [h] at c9; exact absurd c9 (by decide); rw [h] at c9; exact absurd c9 (by decide)
    have hv := hval k0
    refine lv_aload_n hx hb d_L_law_309 rfl (lv_at hl 5 rfl) ?_
    refine lv_iconst (v := iI (0)) hx hb d_L_law_310 rfl ?_
    refine pr_lald hx hb hE.1 hP 54 1 rfl rfl (by decide) (by decide) (by decide) d_L_law_311 ?_
    refine lv_iload hx hb d_L_law_312 (lv_at hl 0 rfl) ?_
    refine lv_i2l (v := r2.toInt64) hx hb d_L_law_314 rfl ?_
    refine pr_lcmps (tgt := 321) hx hb hv d_L_law_315 d_L_law_316 (by decide) ?_
    refine lv_goto (tgt := 1218) hx hb d_L_law_321 (by decide) ?_
    exact kkk ls hP hD hS hJ' (by omega) (lv_sub hl [2, 3, 4, 5, 6] rfl)
set_option maxHeartbeats 4000000 in
set_option maxRecDepth 100000 in
theorem lw_leak {p : Program} {e : Env} {s : State} {m : MethodId} {below : List Frame} {meth : Method} {c : Code} (l : Launch) (hst : l.stackTraces = false) {bs L : Nat} {xs : Nat → Int32} (hL : L ≤ 3072) (C0 : lw_At p s m meth c bs L xs) {D : va_G} {a b9 : Nat → Nat} {cI cL cD cS cZ : ClassId} {o : Nat} {A : Nat → Prop} (hE : pn_E D cI cL cD cS s) (hEm : mn_E D cI cL cZ s) (hX : pn_X A s) (hNc : pn_Nc s) (hA : ∀ q, s.heap.size ≤ q → A q) (hbA : ¬ A bs) {H : Heap} {locs : List Loc} {ls : Array Slot} {i K S : Nat} {v : vS} {u : vM} {g : Int → Int} (hi : 6 * i + 6 ≤ L) (hP : va_P D pn_cl ((cwv a cI cL cD cS v ++ vo cL o g) ++ mwv b9 cI cL cZ u) H) (hD : va_D A ((cwv a cI cL cD cS v ++ vo cL o g) ++ mwv b9 cI cL cZ u)) (hS : va_S A s.heap H locs) (hJ : vJt v u) (hn : v.2.1 3 ≤ (i : Int)) (hl : lv_has ls 8 [(0, .ref bs), (1, .ref (a 0)), (2, .ref (b9 0)), (3, .ref o), (4, .int (iI (6 * (i : Int))))]) (hK : K + 1 ≤ 627858) (hSl : S + 6 ≤ 7212529) (kk : ∀ (v' : vS) (u' : vM) (g' : Int → Int) (H' : Heap) (locs' : List Loc) (ls' : Array Slot), va_P D pn_cl ((cwv a cI cL cD cS v' ++ vo cL o g') ++ mwv b9 cI cL cZ u') H' → va_D A ((cwv a cI cL cD cS v' ++ vo cL o g') ++ mwv b9 cI cL cZ u') → va_S A s.heap H' locs' → vJt v' u' → v'.2.1 3 ≤ (i : Int) + 1 → lv_has ls' 8 [(0, .ref bs), (1, .ref (a 0)), (2, .ref (b9 0)), (3, .ref o), (4, .int (iI (6 * (i : Int))))] → W p l e room_1 s m #[Value.ref bs] below meth c H' locs' (K + 1) (S + 6) (lw_Z below #[Value.ref bs] s) (F0 m 1218 ls' [])) : W p l e room_1 s m #[Value.ref bs] below meth c H locs K S (lw_Z below #[Value.ref bs] s) (F0 m 324 ls []) := by
  obtain ⟨nf, ns, da, be, ui, ul, cn, ss, mf, sd, pr⟩ := v
  obtain ⟨mi, ml, mz, ms⟩ := u
  have hJ : v_J nf ns da ui ul cn ss mf sd pr mi ml mz ms := hJ
  have hn : ns 3 ≤ (i : Int) := hn
  have hP : va_P D pn_cl ((cw a cI cL cD cS nf ns da be ui ul cn ss mf sd pr ++ vo cL o g) ++ mw b9 cI cL cZ mi ml mz ms) H := hP
  have hD : va_D A ((cw a cI cL cD cS nf ns da be ui ul cn ss mf sd pr ++ vo cL o g) ++ mw b9 cI cL cZ mi ml mz ms) := hD
  obtain ⟨hx, hb, hr, hml, hown, htl, hXs, hbl, hlocks, hgv⟩ := id C0
  have ht : ∀ w ∈ pn_W, w.before #[Value.ref bs] s = true := fun w h => htl w (List.mem_filter.mp h).1
  have hts : ∀ w ∈ (Cond.initialized "PressureNets" :: pn_W), w.before #[Value.ref bs] s = true := fun w h => (List.mem_cons.mp h).elim (fun q => by rw [q]; exact ht _ m_33) (ht w)
  have hKm := hEm
  obtain ⟨x0, ex⟩ : ∃ q : Int, q = (xs (6 * i + 1)).toInt := ⟨_, rfl⟩
  have gx : i3 x0 := by rw [ex]; exact i3_32 _
  obtain ⟨y0, ey⟩ : ∃ q : Int, q = (xs (6 * i + 2)).toInt := ⟨_, rfl⟩
  have gy : i3 y0 := by rw [ey]; exact i3_32 _
  obtain ⟨z0, ez⟩ : ∃ q : Int, q = (xs (6 * i + 3)).toInt := ⟨_, rfl⟩
  have gz : i3 z0 := by rw [ez]; exact i3_32 _
  obtain ⟨xa0, exa⟩ : ∃ q : Int, q = (xs (6 * i + 4)).toInt := ⟨_, rfl⟩
  have gxa : i3 xa0 := by rw [exa]; exact i3_32 _
  obtain ⟨xb0, exb⟩ : ∃ q : Int, q = (xs (6 * i + 5)).toInt := ⟨_, rfl⟩
  have gxb : i3 xb0 := by rw [exb]; exact i3_32 _
  refine lv_aload_n hx hb d_L_law_324 rfl (lv_at hl 1 rfl) ?_
  refine lv_aload_n hx hb d_L_law_325 rfl (lv_at hl 0 rfl) ?_
  refine lv_iload hx hb d_L_law_326 (lv_at hl 4 rfl) ?_
  refine lv_iconst (v := iI (1)) hx hb d_L_law_328 rfl ?_
  refine pr_iadd hx hb d_L_law_329 ?_
  refine pr_sld (X := x0) (n := 6 * i + 1) hx hb hXs hbl hbA hS (by omega) (by omega) hL ex d_L_law_330 ?_
  refine lv_aload_n hx hb d_L_law_331 rfl (lv_at hl 0 rfl) ?_
  refine lv_iload hx hb d_L_law_332 (lv_at hl 4 rfl) ?_
  refine lv_iconst (v := iI (2)) hx hb d_L_law_334 rfl ?_
  refine pr_iadd hx hb d_L_law_335 ?_
  refine pr_sld (X := y0) (n := 6 * i + 2) hx hb hXs hbl hbA hS (by omega) (by omega) hL ey d_L_law_336 ?_
  refine lv_aload_n hx hb d_L_law_337 rfl (lv_at hl 0 rfl) ?_
  refine lv_iload hx hb d_L_law_338 (lv_at hl 4 rfl) ?_
  refine lv_iconst (v := iI (3)) hx hb d_L_law_340 rfl ?_
  refine pr_iadd hx hb d_L_law_341 ?_
  refine pr_sld (X := z0) (n := 6 * i + 3) hx hb hXs hbl hbA hS (by omega) (by omega) hL ez d_L_law_342 ?_
  refine lv_aload_n hx hb d_L_law_343 rfl (lv_at hl 0 rfl) ?_
  refine lv_iload hx hb d_L_law_344 (lv_at hl 4 rfl) ?_
  refine lv_iconst (v := iI (4)) hx hb d_L_law_346 rfl ?_
  refine pr_iadd hx hb d_L_law_347 ?_
  refine pr_sld (X := xa0) (n := 6 * i + 4) hx hb hXs hbl hbA hS (by omega) (by omega) hL exa d_L_law_348 ?_
  refine lv_aload_n hx hb d_L_law_349 rfl (lv_at hl 0 rfl) ?_
  refine lv_iload hx hb d_L_law_350 (lv_at hl 4 rfl) ?_
  refine lv_iconst (v := iI (5)) hx hb d_L_law_352 rfl ?_
  refine pr_iadd hx hb d_L_law_353 ?_
  refine pr_sld (X := xb0) (n := 6 * i + 5) hx hb hXs hbl hbA hS (by omega) (by omega) hL exb d_L_law_354 ?_
  refine lv_aload_n hx hb d_L_law_355 rfl (lv_at hl 3 rfl) ?_
  refine va_calli (vx_runSW (As := [.ref (a 0), .int (iI (x0)), .int (iI (y0)), .int (iI (z0)), .int (iI (xa0)), .int (iI (xb0)), .ref o]) (rest := []) ⟨hx, hb, hml, hown, hts⟩ (c_L_leak l hst H.size o g x0 y0 z0 xa0 xb0 (v_J_ok hJ) hJ.1.2.1 gx gy gz gxa gxb) (vx_cwSW 7 hts (pn_gS2 m_365 m_366 m_32 m_367) rfl rfl rfl (by decide +kernel) ⟨Nat.le_of_ble_eq_true rfl, Nat.le_of_ble_eq_true rfl⟩) (pn_preL (vj_PL hP) (vj_DL hD) hE hX hNc hS hA) rfl rfl hl.1 rfl (lv_room (Nat.le_of_ble_eq_true rfl)) d_L_law_356 ⟨hK, hSl⟩) hS (fun q _ h => pr_all (vj_DL hD) hS hA q h) (fun q h => pr_all (vj_DL hD) hS hA q h) (fun r1 w t1 H1 locs1 ht1 hvm1 hw hB hz1 hk1 hS1 => ?_)
  obtain ⟨hP1, hD1⟩ := hB
  rw [ht1] at hP1
  obtain ⟨hP, hD⟩ := vj_app hP hD hk1 (fun q h => pr_all (vj_DL hD) hS hA q h) hP1 hD1
  clear hS hP1 hD1 hk1
  dsimp only at hP hD
  have hS := hS1
  clear hS1
  obtain ⟨w1, w2⟩ := w
  dsimp only at hP hD
  refine lv_istore (lv' := [(5, .int r1), (0, .ref bs), (1, .ref (a 0)), (2, .ref (b9 0)), (3, .ref o), (4, .int (iI (6 * (i : Int))))]) hx hb d_L_law_359 hl (by decide) rfl (fun ls hl => ?_)
  refine lv_aload_n hx hb d_L_law_361 rfl (lv_at hl 3 rfl) ?_
  refine lv_aload_n hx hb d_L_law_362 rfl (lv_at hl 1 rfl) ?_
  refine lv_iload hx hb d_L_law_363 (lv_at hl 5 rfl) ?_
  refine lv_iconst (v := iI (1)) hx hb d_L_law_365 rfl ?_
  refine pr_iadd hx hb d_L_law_366 ?_
  refine pr_sld (X := x0) (n := 6 * i + 1) hx hb hXs hbl hbA hS (by omega) (by omega) hL ex d_L_law_367 ?_
  refine lv_aload_n hx hb d_L_law_368 rfl (lv_at hl 1 rfl) ?_
  refine lv_iload hx hb d_L_law_369 (lv_at hl 5 rfl) ?_
  refine lv_iconst (v := iI (2)) hx hb d_L_law_371 rfl ?_
  refine pr_iadd hx hb d_L_law_372 ?_
  refine pr_sld (X := y0) (n := 6 * i + 2) hx hb hXs hbl hbA hS (by omega) (by omega) hL ey d_L_law_373 ?_
  refine lv_aload_n hx hb d_L_law_374 rfl (lv_at hl 1 rfl) ?_
  refine lv_iload hx hb d_L_law_375 (lv_at hl 5 rfl) ?_
  refine lv_iconst (v := iI (3)) hx hb d_L_law_377 rfl ?_
  refine pr_iadd hx hb d_L_law_378 ?_
  refine pr_sld (X := z0) (n := 6 * i + 3) hx hb hXs hbl hbA hS (by omega) (by omega) hL ez d_L_law_379 ?_
  refine lv_aload_n hx hb d_L_law_380 rfl (lv_at hl 1 rfl) ?_
  refine lv_iload hx hb d_L_law_381 (lv_at hl 5 rfl) ?_
  refine lv_iconst (v := iI (4)) hx hb d_L_law_383 rfl ?_
  refine pr_iadd hx hb d_L_law_384 ?_
  refine pr_sld (X := xa0) (n := 6 * i + 4) hx hb hXs hbl hbA hS (by omega) (by omega) hL exa d_L_law_385 ?_
  refine lv_aload_n hx hb d_L_law_386 rfl (lv_at hl 1 rfl) ?_
  refine lv_iload hx hb d_L_law_387 (lv_at hl 5 rfl) ?_
  refine lv_iconst (v := iI (5)) hx hb d_L_law_389 rfl ?_
  refine pr_iadd hx hb d_L_law_390 ?_
  refine pr_sld (X := xb0) (n := 6 * i + 5) hx hb hXs hbl hbA hS (by omega) (by omega) hL exb d_L_law_391 ?_
  have hP2 := vj_swP hP
  have hD2 := vj_swD hD
  refine va_calli (va_runV (As := [.int (iI (x0)), .int (iI (y0)), .int (iI (z0)), .int (iI (xa0)), .int (iI (xb0))]) (rest := []) ⟨hx, hb, hml, hown, hts⟩ (c_M_leak l H1.size nf ns da x0 y0 z0 xa0 xb0 (v_J_ok hJ) (v_J_R hJ) (v_J_mn hJ) gx gy gz gxa gxb) (cwV 5 hts (pn_gV m_705 m_706 m_707 m_38 m_708) rfl rfl rfl (by decide +kernel) ⟨Nat.le_of_ble_eq_true rfl, Nat.le_of_ble_eq_true rfl⟩) (mn_preW (q0 := 0) (ci := 5) (q := (R_M, T_M, 27)) (vj_PL hP2) (vj_DL hD2) hEm rfl rfl) rfl rfl hl.1 rfl (lv_room (Nat.le_of_ble_eq_true rfl)) d_L_law_392 ⟨hK, hSl⟩) hS (fun q _ h => pr_all (vj_DL hD2) hS hA q h) (fun q h => pr_all (vj_DL hD2) hS hA q h) (fun r2 u t2 H2 locs2 ht2 hvm2 hw2 hB hz2 hk2 hS2 => ?_)
  obtain ⟨hP1, hD1⟩ := hB
  rw [ht2] at hP1
  obtain ⟨hP, hD⟩ := vj_app hP2 hD2 hk2 (fun q h => pr_all (vj_DL hD2) hS hA q h) hP1 hD1
  clear hS hP1 hD1 hk2 hP2 hD2
  dsimp only at hP hD
  have hS := hS2
  clear hS2
  obtain ⟨k, hk3, rfl, hms, hval, hJ', hn'⟩ := j_leak hJ (show ns 3 < 512 by omega) hw hw2
  dsimp only at hms hval hJ' hn'
  obtain ⟨mi2, ml2, mz2, ms2⟩ := u
  dsimp only at hP hD hms
  have hPm := vj_PL hP
  have hP := vj_swP hP
  have hD := vj_swD hD
  refine lv_istore (lv' := [(6, .int r2), (5, .int (iI k)), (0, .ref bs), (1, .ref (a 0)), (2, .ref (b9 0)), (3, .ref o), (4, .int (iI (6 * (i : Int))))]) hx hb d_L_law_395 hl (by decide) rfl (fun ls hl => ?_)
  refine lv_aload_n hx hb d_L_law_397 rfl (lv_at hl 4 rfl) ?_
  refine pr_pi (va_runV (As := []) (rest := []) ⟨hx, hb, hml, hown, hts⟩ (c_M_thrown l) (cwV 0 hts (pn_gV m_673 m_674 m_675 m_38 m_676) rfl rfl rfl (by decide +kernel) ⟨Nat.le_of_ble_eq_true rfl, Nat.le_of_ble_eq_true rfl⟩) (mn_preV (q0 := 0) (ci := 5) (q := (R_M, T_M, 27)) hPm hEm rfl rfl) rfl rfl hl.1 rfl (lv_room (Nat.le_of_ble_eq_true rfl)) d_L_law_398 ⟨hK, hSl⟩) ?_
  rw [hms]
  refine lv_iload hx hb d_L_law_401 (lv_at hl 1 rfl) ?_
  refine lv_icmp_eq (tgt := 408) hx hb d_L_law_403 (by decide) (fun c9 => ?_) (fun c9 => absurd rfl c9)
  refine lv_iload hx hb d_L_law_408 (lv_at hl 1 rfl) ?_
  have kkk := kk w1 (mi2, ml2, mz2, ms2) w2 H2 locs2
  refine lv_if_ne (tgt := 425) hx hb d_L_law_410 (by decide) (fun c9 => ?_) (fun c9 => ?_)
  · skip
    refine lv_goto (tgt := 1218) hx hb d_L_law_425 (by decide) ?_
    exact kkk ls hP hD hS hJ' (by omega) (lv_sub hl [2, 3, 4, 5, 6] rfl)
  · have k0 : k = 0 := by rcases hk3 with h | h | h; exact h; rw [h] at c9; exact absurd c9 (by decide); rw [h] at c9; exact absurd c9 (by decide)
    have hv := hval k0
    refine lv_aload_n hx hb d_L_law_413 rfl (lv_at hl 5 rfl) ?_
    refine lv_iconst (v := iI (0)) hx hb d_L_law_414 rfl ?_
    refine pr_lald hx hb hE.1 hP 54 1 rfl rfl (by decide) (by decide) (by decide) d_L_law_415 ?_
    refine lv_iload hx hb d_L_law_416 (lv_at hl 0 rfl) ?_
    refine lv_i2l (v := r2.toInt64) hx hb d_L_law_418 rfl ?_
    refine pr_lcmps (tgt := 425) hx hb hv d_L_law_419 d_L_law_420 (by decide) ?_
    refine lv_goto (tgt := 1218) hx hb d_L_law_425 (by decide) ?_
    exact kkk ls hP hD hS hJ' (by omega) (lv_sub hl [2, 3, 4, 5, 6] rfl)
set_option maxHeartbeats 4000000 in
set_option maxRecDepth 100000 in
theorem lw_shut {p : Program} {e : Env} {s : State} {m : MethodId} {below : List Frame} {meth : Method} {c : Code} (l : Launch) (hst : l.stackTraces = false) {bs L : Nat} {xs : Nat → Int32} (hL : L ≤ 3072) (C0 : lw_At p s m meth c bs L xs) {D : va_G} {a b9 : Nat → Nat} {cI cL cD cS cZ : ClassId} {o : Nat} {A : Nat → Prop} (hE : pn_E D cI cL cD cS s) (hEm : mn_E D cI cL cZ s) (hX : pn_X A s) (hNc : pn_Nc s) (hA : ∀ q, s.heap.size ≤ q → A q) (hbA : ¬ A bs) {H : Heap} {locs : List Loc} {ls : Array Slot} {i K S : Nat} {v : vS} {u : vM} {g : Int → Int} (hi : 6 * i + 6 ≤ L) (hP : va_P D pn_cl ((cwv a cI cL cD cS v ++ vo cL o g) ++ mwv b9 cI cL cZ u) H) (hD : va_D A ((cwv a cI cL cD cS v ++ vo cL o g) ++ mwv b9 cI cL cZ u)) (hS : va_S A s.heap H locs) (hJ : vJt v u) (hn : v.2.1 3 ≤ (i : Int)) (hl : lv_has ls 8 [(0, .ref bs), (1, .ref (a 0)), (2, .ref (b9 0)), (3, .ref o), (4, .int (iI (6 * (i : Int))))]) (hK : K + 1 ≤ 627858) (hSl : S + 6 ≤ 7212529) (kk : ∀ (v' : vS) (u' : vM) (g' : Int → Int) (H' : Heap) (locs' : List Loc) (ls' : Array Slot), va_P D pn_cl ((cwv a cI cL cD cS v' ++ vo cL o g') ++ mwv b9 cI cL cZ u') H' → va_D A ((cwv a cI cL cD cS v' ++ vo cL o g') ++ mwv b9 cI cL cZ u') → va_S A s.heap H' locs' → vJt v' u' → v'.2.1 3 ≤ (i : Int) + 1 → lv_has ls' 8 [(0, .ref bs), (1, .ref (a 0)), (2, .ref (b9 0)), (3, .ref o), (4, .int (iI (6 * (i : Int))))] → W p l e room_1 s m #[Value.ref bs] below meth c H' locs' (K + 1) (S + 6) (lw_Z below #[Value.ref bs] s) (F0 m 1218 ls' [])) : W p l e room_1 s m #[Value.ref bs] below meth c H locs K S (lw_Z below #[Value.ref bs] s) (F0 m 428 ls []) := by
  obtain ⟨nf, ns, da, be, ui, ul, cn, ss, mf, sd, pr⟩ := v
  obtain ⟨mi, ml, mz, ms⟩ := u
  have hJ : v_J nf ns da ui ul cn ss mf sd pr mi ml mz ms := hJ
  have hn : ns 3 ≤ (i : Int) := hn
  have hP : va_P D pn_cl ((cw a cI cL cD cS nf ns da be ui ul cn ss mf sd pr ++ vo cL o g) ++ mw b9 cI cL cZ mi ml mz ms) H := hP
  have hD : va_D A ((cw a cI cL cD cS nf ns da be ui ul cn ss mf sd pr ++ vo cL o g) ++ mw b9 cI cL cZ mi ml mz ms) := hD
  obtain ⟨hx, hb, hr, hml, hown, htl, hXs, hbl, hlocks, hgv⟩ := id C0
  have ht : ∀ w ∈ pn_W, w.before #[Value.ref bs] s = true := fun w h => htl w (List.mem_filter.mp h).1
  have hts : ∀ w ∈ (Cond.initialized "PressureNets" :: pn_W), w.before #[Value.ref bs] s = true := fun w h => (List.mem_cons.mp h).elim (fun q => by rw [q]; exact ht _ m_33) (ht w)
  have hKm := hEm
  obtain ⟨x0, ex⟩ : ∃ q : Int, q = (xs (6 * i + 1)).toInt := ⟨_, rfl⟩
  have gx : i3 x0 := by rw [ex]; exact i3_32 _
  obtain ⟨z0, ez⟩ : ∃ q : Int, q = (xs (6 * i + 2)).toInt := ⟨_, rfl⟩
  have gz : i3 z0 := by rw [ez]; exact i3_32 _
  refine lv_aload_n hx hb d_L_law_428 rfl (lv_at hl 1 rfl) ?_
  refine lv_aload_n hx hb d_L_law_429 rfl (lv_at hl 0 rfl) ?_
  refine lv_iload hx hb d_L_law_430 (lv_at hl 4 rfl) ?_
  refine lv_iconst (v := iI (1)) hx hb d_L_law_432 rfl ?_
  refine pr_iadd hx hb d_L_law_433 ?_
  refine pr_sld (X := x0) (n := 6 * i + 1) hx hb hXs hbl hbA hS (by omega) (by omega) hL ex d_L_law_434 ?_
  refine lv_aload_n hx hb d_L_law_435 rfl (lv_at hl 0 rfl) ?_
  refine lv_iload hx hb d_L_law_436 (lv_at hl 4 rfl) ?_
  refine lv_iconst (v := iI (2)) hx hb d_L_law_438 rfl ?_
  refine pr_iadd hx hb d_L_law_439 ?_
  refine pr_sld (X := z0) (n := 6 * i + 2) hx hb hXs hbl hbA hS (by omega) (by omega) hL ez d_L_law_440 ?_
  refine lv_if_eq (tgt := 448) hx hb d_L_law_441 (by decide) (fun cz => ?_) (fun cz => ?_)
  · have hz01 : (0 : Int) = 0 ∨ (0 : Int) = 1 := Or.inl rfl
    refine lv_iconst (v := iI (0)) hx hb d_L_law_448 rfl ?_
    refine lv_aload_n hx hb d_L_law_449 rfl (lv_at hl 3 rfl) ?_
    refine va_calli (vx_runSW (As := [.ref (a 0), .int (iI (x0)), .int (iI (0)), .ref o]) (rest := []) ⟨hx, hb, hml, hown, hts⟩ (c_L_shut l hst H.size o g x0 0 (v_J_ok hJ) (hJ.2.2.1.2 0 (by decide)) hz01 gx) (vx_cwSW 4 hts (pn_gS2 m_388 m_389 m_32 m_390) rfl rfl rfl (by decide +kernel) ⟨Nat.le_of_ble_eq_true rfl, Nat.le_of_ble_eq_true rfl⟩) (pn_preL (vj_PL hP) (vj_DL hD) hE hX hNc hS hA) rfl rfl hl.1 rfl (lv_room (Nat.le_of_ble_eq_true rfl)) d_L_law_450 ⟨hK, hSl⟩) hS (fun q _ h => pr_all (vj_DL hD) hS hA q h) (fun q h => pr_all (vj_DL hD) hS hA q h) (fun r1 w t1 H1 locs1 ht1 hvm1 hw hB hz1 hk1 hS1 => ?_)
    obtain ⟨hP1, hD1⟩ := hB
    rw [ht1] at hP1
    obtain ⟨hP, hD⟩ := vj_app hP hD hk1 (fun q h => pr_all (vj_DL hD) hS hA q h) hP1 hD1
    clear hS hP1 hD1 hk1
    dsimp only at hP hD
    have hS := hS1
    clear hS1
    obtain ⟨w1, w2⟩ := w
    dsimp only at hP hD
    refine lv_istore (lv' := [(5, .int r1), (0, .ref bs), (1, .ref (a 0)), (2, .ref (b9 0)), (3, .ref o), (4, .int (iI (6 * (i : Int))))]) hx hb d_L_law_453 hl (by decide) rfl (fun ls hl => ?_)
    refine lv_aload_n hx hb d_L_law_455 rfl (lv_at hl 3 rfl) ?_
    refine lv_aload_n hx hb d_L_law_456 rfl (lv_at hl 1 rfl) ?_
    refine lv_iload hx hb d_L_law_457 (lv_at hl 5 rfl) ?_
    refine lv_iconst (v := iI (1)) hx hb d_L_law_459 rfl ?_
    refine pr_iadd hx hb d_L_law_460 ?_
    refine pr_sld (X := x0) (n := 6 * i + 1) hx hb hXs hbl hbA hS (by omega) (by omega) hL ex d_L_law_461 ?_
    refine lv_aload_n hx hb d_L_law_462 rfl (lv_at hl 1 rfl) ?_
    refine lv_iload hx hb d_L_law_463 (lv_at hl 5 rfl) ?_
    refine lv_iconst (v := iI (2)) hx hb d_L_law_465 rfl ?_
    refine pr_iadd hx hb d_L_law_466 ?_
    refine pr_sld (X := z0) (n := 6 * i + 2) hx hb hXs hbl hbA hS (by omega) (by omega) hL ez d_L_law_467 ?_
    refine lv_if_eq (tgt := 475) hx hb d_L_law_468 (by decide) (fun cz2 => ?_) (fun cz2 => ?_)
    rotate_left
    · exact absurd cz cz2
    refine lv_iconst (v := iI (0)) hx hb d_L_law_475 rfl ?_
    have hP2 := vj_swP hP
    have hD2 := vj_swD hD
    refine va_calli (va_runV (As := [.int (iI (x0)), .int (iI (0))]) (rest := []) ⟨hx, hb, hml, hown, hts⟩ (c_M_shut l H1.size nf ns da x0 0 (v_J_ok hJ) (v_J_R hJ) (v_J_mn hJ) hz01 (v_J_mz hJ) gx) (cwV 2 hts (pn_gV m_714 m_715 m_716 m_38 m_717) rfl rfl rfl (by decide +kernel) ⟨Nat.le_of_ble_eq_true rfl, Nat.le_of_ble_eq_true rfl⟩) (mn_preW (q0 := 0) (ci := 5) (q := (R_M, T_M, 27)) (vj_PL hP2) (vj_DL hD2) hEm rfl rfl) rfl rfl hl.1 rfl (lv_room (Nat.le_of_ble_eq_true rfl)) d_L_law_476 ⟨hK, hSl⟩) hS (fun q _ h => pr_all (vj_DL hD2) hS hA q h) (fun q h => pr_all (vj_DL hD2) hS hA q h) (fun r2 u t2 H2 locs2 ht2 hvm2 hw2 hB hz2 hk2 hS2 => ?_)
    obtain ⟨hP1, hD1⟩ := hB
    rw [ht2] at hP1
    obtain ⟨hP, hD⟩ := vj_app hP2 hD2 hk2 (fun q h => pr_all (vj_DL hD2) hS hA q h) hP1 hD1
    clear hS hP1 hD1 hk2 hP2 hD2
    dsimp only at hP hD
    have hS := hS2
    clear hS2
    obtain ⟨k, hk3, rfl, hms, hval, hJ', hn'⟩ := j_shut hz01 hJ (show ns 3 < 512 by omega) hw hw2
    dsimp only at hms hval hJ' hn'
    obtain ⟨mi2, ml2, mz2, ms2⟩ := u
    dsimp only at hP hD hms
    have hPm := vj_PL hP
    have hP := vj_swP hP
    have hD := vj_swD hD
    refine lv_istore (lv' := [(6, .int r2), (5, .int (iI k)), (0, .ref bs), (1, .ref (a 0)), (2, .ref (b9 0)), (3, .ref o), (4, .int (iI (6 * (i : Int))))]) hx hb d_L_law_479 hl (by decide) rfl (fun ls hl => ?_)
    refine lv_aload_n hx hb d_L_law_481 rfl (lv_at hl 4 rfl) ?_
    refine pr_pi (va_runV (As := []) (rest := []) ⟨hx, hb, hml, hown, hts⟩ (c_M_thrown l) (cwV 0 hts (pn_gV m_673 m_674 m_675 m_38 m_676) rfl rfl rfl (by decide +kernel) ⟨Nat.le_of_ble_eq_true rfl, Nat.le_of_ble_eq_true rfl⟩) (mn_preV (q0 := 0) (ci := 5) (q := (R_M, T_M, 27)) hPm hEm rfl rfl) rfl rfl hl.1 rfl (lv_room (Nat.le_of_ble_eq_true rfl)) d_L_law_482 ⟨hK, hSl⟩) ?_
    rw [hms]
    refine lv_iload hx hb d_L_law_485 (lv_at hl 1 rfl) ?_
    refine lv_icmp_eq (tgt := 492) hx hb d_L_law_487 (by decide) (fun c9 => ?_) (fun c9 => absurd rfl c9)
    refine lv_iload hx hb d_L_law_492 (lv_at hl 1 rfl) ?_
    have kkk := kk w1 (mi2, ml2, mz2, ms2) w2 H2 locs2
    refine lv_if_ne (tgt := 516) hx hb d_L_law_494 (by decide) (fun c9 => ?_) (fun c9 => ?_)
    · skip
      refine lv_goto (tgt := 1218) hx hb d_L_law_516 (by decide) ?_
      exact kkk ls hP hD hS hJ' (by omega) (lv_sub hl [2, 3, 4, 5, 6] rfl)
    · have k0 : k = 0 := by rcases hk3 with h | h | h; exact h; rw [h] at c9; exact absurd c9 (by decide); rw [h] at c9; exact absurd c9 (by decide)
      have hv := hval k0
      refine lv_aload_n hx hb d_L_law_497 rfl (lv_at hl 5 rfl) ?_
      refine lv_iconst (v := iI (0)) hx hb d_L_law_498 rfl ?_
      refine pr_lald hx hb hE.1 hP 54 1 rfl rfl (by decide) (by decide) (by decide) d_L_law_499 ?_
      refine lv_iload hx hb d_L_law_500 (lv_at hl 0 rfl) ?_
      refine lv_if_eq (tgt := 509) hx hb d_L_law_502 (by decide) (fun c8 => ?_) (fun c8 => ?_)
      · skip
        refine lv_lconst (v := lI 0) hx hb d_L_law_509 (by decide) ?_
        refine pr_lcmps (tgt := 516) hx hb (by rw [hv, if_pos c8]; rfl) d_L_law_510 d_L_law_511 (by decide) ?_
        refine lv_goto (tgt := 1218) hx hb d_L_law_516 (by decide) ?_
        exact kkk ls hP hD hS hJ' (by omega) (lv_sub hl [2, 3, 4, 5, 6] rfl)
      · skip
        refine lv_lconst (v := lI 1) hx hb d_L_law_505 (by decide) ?_
        refine lv_goto (tgt := 510) hx hb d_L_law_506 (by decide) ?_
        refine pr_lcmps (tgt := 516) hx hb (by rw [hv, if_neg c8]; rfl) d_L_law_510 d_L_law_511 (by decide) ?_
        refine lv_goto (tgt := 1218) hx hb d_L_law_516 (by decide) ?_
        exact kkk ls hP hD hS hJ' (by omega) (lv_sub hl [2, 3, 4, 5, 6] rfl)
  · have hz01 : (1 : Int) = 0 ∨ (1 : Int) = 1 := Or.inr rfl
    refine lv_iconst (v := iI (1)) hx hb d_L_law_444 rfl ?_
    refine lv_goto (tgt := 449) hx hb d_L_law_445 (by decide) ?_
    refine lv_aload_n hx hb d_L_law_449 rfl (lv_at hl 3 rfl) ?_
    refine va_calli (vx_runSW (As := [.ref (a 0), .int (iI (x0)), .int (iI (1)), .ref o]) (rest := []) ⟨hx, hb, hml, hown, hts⟩ (c_L_shut l hst H.size o g x0 1 (v_J_ok hJ) (hJ.2.2.1.2 0 (by decide)) hz01 gx) (vx_cwSW 4 hts (pn_gS2 m_388 m_389 m_32 m_390) rfl rfl rfl (by decide +kernel) ⟨Nat.le_of_ble_eq_true rfl, Nat.le_of_ble_eq_true rfl⟩) (pn_preL (vj_PL hP) (vj_DL hD) hE hX hNc hS hA) rfl rfl hl.1 rfl (lv_room (Nat.le_of_ble_eq_true rfl)) d_L_law_450 ⟨hK, hSl⟩) hS (fun q _ h => pr_all (vj_DL hD) hS hA q h) (fun q h => pr_all (vj_DL hD) hS hA q h) (fun r1 w t1 H1 locs1 ht1 hvm1 hw hB hz1 hk1 hS1 => ?_)
    obtain ⟨hP1, hD1⟩ := hB
    rw [ht1] at hP1
    obtain ⟨hP, hD⟩ := vj_app hP hD hk1 (fun q h => pr_all (vj_DL hD) hS hA q h) hP1 hD1
    clear hS hP1 hD1 hk1
    dsimp only at hP hD
    have hS := hS1
    clear hS1
    obtain ⟨w1, w2⟩ := w
    dsimp only at hP hD
    refine lv_istore (lv' := [(5, .int r1), (0, .ref bs), (1, .ref (a 0)), (2, .ref (b9 0)), (3, .ref o), (4, .int (iI (6 * (i : Int))))]) hx hb d_L_law_453 hl (by decide) rfl (fun ls hl => ?_)
    refine lv_aload_n hx hb d_L_law_455 rfl (lv_at hl 3 rfl) ?_
    refine lv_aload_n hx hb d_L_law_456 rfl (lv_at hl 1 rfl) ?_
    refine lv_iload hx hb d_L_law_457 (lv_at hl 5 rfl) ?_
    refine lv_iconst (v := iI (1)) hx hb d_L_law_459 rfl ?_
    refine pr_iadd hx hb d_L_law_460 ?_
    refine pr_sld (X := x0) (n := 6 * i + 1) hx hb hXs hbl hbA hS (by omega) (by omega) hL ex d_L_law_461 ?_
    refine lv_aload_n hx hb d_L_law_462 rfl (lv_at hl 1 rfl) ?_
    refine lv_iload hx hb d_L_law_463 (lv_at hl 5 rfl) ?_
    refine lv_iconst (v := iI (2)) hx hb d_L_law_465 rfl ?_
    refine pr_iadd hx hb d_L_law_466 ?_
    refine pr_sld (X := z0) (n := 6 * i + 2) hx hb hXs hbl hbA hS (by omega) (by omega) hL ez d_L_law_467 ?_
    refine lv_if_eq (tgt := 475) hx hb d_L_law_468 (by decide) (fun cz2 => ?_) (fun cz2 => ?_)
    · exact absurd cz2 cz
    refine lv_iconst (v := iI (1)) hx hb d_L_law_471 rfl ?_
    refine lv_goto (tgt := 476) hx hb d_L_law_472 (by decide) ?_
    have hP2 := vj_swP hP
    have hD2 := vj_swD hD
    refine va_calli (va_runV (As := [.int (iI (x0)), .int (iI (1))]) (rest := []) ⟨hx, hb, hml, hown, hts⟩ (c_M_shut l H1.size nf ns da x0 1 (v_J_ok hJ) (v_J_R hJ) (v_J_mn hJ) hz01 (v_J_mz hJ) gx) (cwV 2 hts (pn_gV m_714 m_715 m_716 m_38 m_717) rfl rfl rfl (by decide +kernel) ⟨Nat.le_of_ble_eq_true rfl, Nat.le_of_ble_eq_true rfl⟩) (mn_preW (q0 := 0) (ci := 5) (q := (R_M, T_M, 27)) (vj_PL hP2) (vj_DL hD2) hEm rfl rfl) rfl rfl hl.1 rfl (lv_room (Nat.le_of_ble_eq_true rfl)) d_L_law_476 ⟨hK, hSl⟩) hS (fun q _ h => pr_all (vj_DL hD2) hS hA q h) (fun q h => pr_all (vj_DL hD2) hS hA q h) (fun r2 u t2 H2 locs2 ht2 hvm2 hw2 hB hz2 hk2 hS2 => ?_)
    obtain ⟨hP1, hD1⟩ := hB
    rw [ht2] at hP1
    obtain ⟨hP, hD⟩ := vj_app hP2 hD2 hk2 (fun q h => pr_all (vj_DL hD2) hS hA q h) hP1 hD1
    clear hS hP1 hD1 hk2 hP2 hD2
    dsimp only at hP hD
    have hS := hS2
    clear hS2
    obtain ⟨k, hk3, rfl, hms, hval, hJ', hn'⟩ := j_shut hz01 hJ (show ns 3 < 512 by omega) hw hw2
    dsimp only at hms hval hJ' hn'
    obtain ⟨mi2, ml2, mz2, ms2⟩ := u
    dsimp only at hP hD hms
    have hPm := vj_PL hP
    have hP := vj_swP hP
    have hD := vj_swD hD
    refine lv_istore (lv' := [(6, .int r2), (5, .int (iI k)), (0, .ref bs), (1, .ref (a 0)), (2, .ref (b9 0)), (3, .ref o), (4, .int (iI (6 * (i : Int))))]) hx hb d_L_law_479 hl (by decide) rfl (fun ls hl => ?_)
    refine lv_aload_n hx hb d_L_law_481 rfl (lv_at hl 4 rfl) ?_
    refine pr_pi (va_runV (As := []) (rest := []) ⟨hx, hb, hml, hown, hts⟩ (c_M_thrown l) (cwV 0 hts (pn_gV m_673 m_674 m_675 m_38 m_676) rfl rfl rfl (by decide +kernel) ⟨Nat.le_of_ble_eq_true rfl, Nat.le_of_ble_eq_true rfl⟩) (mn_preV (q0 := 0) (ci := 5) (q := (R_M, T_M, 27)) hPm hEm rfl rfl) rfl rfl hl.1 rfl (lv_room (Nat.le_of_ble_eq_true rfl)) d_L_law_482 ⟨hK, hSl⟩) ?_
    rw [hms]
    refine lv_iload hx hb d_L_law_485 (lv_at hl 1 rfl) ?_
    refine lv_icmp_eq (tgt := 492) hx hb d_L_law_487 (by decide) (fun c9 => ?_) (fun c9 => absurd rfl c9)
    refine lv_iload hx hb d_L_law_492 (lv_at hl 1 rfl) ?_
    have kkk := kk w1 (mi2, ml2, mz2, ms2) w2 H2 locs2
    refine lv_if_ne (tgt := 516) hx hb d_L_law_494 (by decide) (fun c9 => ?_) (fun c9 => ?_)
    · skip
      refine lv_goto (tgt := 1218) hx hb d_L_law_516 (by decide) ?_
      exact kkk ls hP hD hS hJ' (by omega) (lv_sub hl [2, 3, 4, 5, 6] rfl)
    · have k0 : k = 0 := by rcases hk3 with h | h | h; exact h; rw [h] at c9; exact absurd c9 (by decide); rw [h] at c9; exact absurd c9 (by decide)
      have hv := hval k0
      refine lv_aload_n hx hb d_L_law_497 rfl (lv_at hl 5 rfl) ?_
      refine lv_iconst (v := iI (0)) hx hb d_L_law_498 rfl ?_
      refine pr_lald hx hb hE.1 hP 54 1 rfl rfl (by decide) (by decide) (by decide) d_L_law_499 ?_
      refine lv_iload hx hb d_L_law_500 (lv_at hl 0 rfl) ?_
      refine lv_if_eq (tgt := 509) hx hb d_L_law_502 (by decide) (fun c8 => ?_) (fun c8 => ?_)
      · skip
        refine lv_lconst (v := lI 0) hx hb d_L_law_509 (by decide) ?_
        refine pr_lcmps (tgt := 516) hx hb (by rw [hv, if_pos c8]; rfl) d_L_law_510 d_L_law_511 (by decide) ?_
        refine lv_goto (tgt := 1218) hx hb d_L_law_516 (by decide) ?_
        exact kkk ls hP hD hS hJ' (by omega) (lv_sub hl [2, 3, 4, 5, 6] rfl)
      · skip
        refine lv_lconst (v := lI 1) hx hb d_L_law_505 (by decide) ?_
        refine lv_goto (tgt := 510) hx hb d_L_law_506 (by decide) ?_
        refine pr_lcmps (tgt := 516) hx hb (by rw [hv, if_neg c8]; rfl) d_L_law_510 d_L_law_511 (by decide) ?_
        refine lv_goto (tgt := 1218) hx hb d_L_law_516 (by decide) ?_
        exact kkk ls hP hD hS hJ' (by omega) (lv_sub hl [2, 3, 4, 5, 6] rfl)
set_option maxHeartbeats 4000000 in
set_option maxRecDepth 100000 in
theorem lw_fan {p : Program} {e : Env} {s : State} {m : MethodId} {below : List Frame} {meth : Method} {c : Code} (l : Launch) (hst : l.stackTraces = false) {bs L : Nat} {xs : Nat → Int32} (hL : L ≤ 3072) (C0 : lw_At p s m meth c bs L xs) {D : va_G} {a b9 : Nat → Nat} {cI cL cD cS cZ : ClassId} {o : Nat} {A : Nat → Prop} (hE : pn_E D cI cL cD cS s) (hEm : mn_E D cI cL cZ s) (hX : pn_X A s) (hNc : pn_Nc s) (hA : ∀ q, s.heap.size ≤ q → A q) (hbA : ¬ A bs) {H : Heap} {locs : List Loc} {ls : Array Slot} {i K S : Nat} {v : vS} {u : vM} {g : Int → Int} (hi : 6 * i + 6 ≤ L) (hP : va_P D pn_cl ((cwv a cI cL cD cS v ++ vo cL o g) ++ mwv b9 cI cL cZ u) H) (hD : va_D A ((cwv a cI cL cD cS v ++ vo cL o g) ++ mwv b9 cI cL cZ u)) (hS : va_S A s.heap H locs) (hJ : vJt v u) (hn : v.2.1 3 ≤ (i : Int)) (hl : lv_has ls 8 [(0, .ref bs), (1, .ref (a 0)), (2, .ref (b9 0)), (3, .ref o), (4, .int (iI (6 * (i : Int))))]) (hK : K + 1 ≤ 627858) (hSl : S + 6 ≤ 7212529) (kk : ∀ (v' : vS) (u' : vM) (g' : Int → Int) (H' : Heap) (locs' : List Loc) (ls' : Array Slot), va_P D pn_cl ((cwv a cI cL cD cS v' ++ vo cL o g') ++ mwv b9 cI cL cZ u') H' → va_D A ((cwv a cI cL cD cS v' ++ vo cL o g') ++ mwv b9 cI cL cZ u') → va_S A s.heap H' locs' → vJt v' u' → v'.2.1 3 ≤ (i : Int) + 1 → lv_has ls' 8 [(0, .ref bs), (1, .ref (a 0)), (2, .ref (b9 0)), (3, .ref o), (4, .int (iI (6 * (i : Int))))] → W p l e room_1 s m #[Value.ref bs] below meth c H' locs' (K + 1) (S + 6) (lw_Z below #[Value.ref bs] s) (F0 m 1218 ls' [])) : W p l e room_1 s m #[Value.ref bs] below meth c H locs K S (lw_Z below #[Value.ref bs] s) (F0 m 519 ls []) := by
  obtain ⟨nf, ns, da, be, ui, ul, cn, ss, mf, sd, pr⟩ := v
  obtain ⟨mi, ml, mz, ms⟩ := u
  have hJ : v_J nf ns da ui ul cn ss mf sd pr mi ml mz ms := hJ
  have hn : ns 3 ≤ (i : Int) := hn
  have hP : va_P D pn_cl ((cw a cI cL cD cS nf ns da be ui ul cn ss mf sd pr ++ vo cL o g) ++ mw b9 cI cL cZ mi ml mz ms) H := hP
  have hD : va_D A ((cw a cI cL cD cS nf ns da be ui ul cn ss mf sd pr ++ vo cL o g) ++ mw b9 cI cL cZ mi ml mz ms) := hD
  obtain ⟨hx, hb, hr, hml, hown, htl, hXs, hbl, hlocks, hgv⟩ := id C0
  have ht : ∀ w ∈ pn_W, w.before #[Value.ref bs] s = true := fun w h => htl w (List.mem_filter.mp h).1
  have hts : ∀ w ∈ (Cond.initialized "PressureNets" :: pn_W), w.before #[Value.ref bs] s = true := fun w h => (List.mem_cons.mp h).elim (fun q => by rw [q]; exact ht _ m_33) (ht w)
  have hKm := hEm
  obtain ⟨x0, ex⟩ : ∃ q : Int, q = (xs (6 * i + 1)).toInt := ⟨_, rfl⟩
  have gx : i3 x0 := by rw [ex]; exact i3_32 _
  obtain ⟨y0, ey⟩ : ∃ q : Int, q = (xs (6 * i + 2)).toInt := ⟨_, rfl⟩
  have gy : i3 y0 := by rw [ey]; exact i3_32 _
  obtain ⟨z0, ez⟩ : ∃ q : Int, q = (xs (6 * i + 3)).toInt := ⟨_, rfl⟩
  have gz : i3 z0 := by rw [ez]; exact i3_32 _
  obtain ⟨xa0, exa⟩ : ∃ q : Int, q = (xs (6 * i + 4)).toInt := ⟨_, rfl⟩
  have gxa : i3 xa0 := by rw [exa]; exact i3_32 _
  refine lv_aload_n hx hb d_L_law_519 rfl (lv_at hl 1 rfl) ?_
  refine lv_aload_n hx hb d_L_law_520 rfl (lv_at hl 0 rfl) ?_
  refine lv_iload hx hb d_L_law_521 (lv_at hl 4 rfl) ?_
  refine lv_iconst (v := iI (1)) hx hb d_L_law_523 rfl ?_
  refine pr_iadd hx hb d_L_law_524 ?_
  refine pr_sld (X := x0) (n := 6 * i + 1) hx hb hXs hbl hbA hS (by omega) (by omega) hL ex d_L_law_525 ?_
  refine lv_aload_n hx hb d_L_law_526 rfl (lv_at hl 0 rfl) ?_
  refine lv_iload hx hb d_L_law_527 (lv_at hl 4 rfl) ?_
  refine lv_iconst (v := iI (2)) hx hb d_L_law_529 rfl ?_
  refine pr_iadd hx hb d_L_law_530 ?_
  refine pr_sld (X := y0) (n := 6 * i + 2) hx hb hXs hbl hbA hS (by omega) (by omega) hL ey d_L_law_531 ?_
  refine lv_aload_n hx hb d_L_law_532 rfl (lv_at hl 0 rfl) ?_
  refine lv_iload hx hb d_L_law_533 (lv_at hl 4 rfl) ?_
  refine lv_iconst (v := iI (3)) hx hb d_L_law_535 rfl ?_
  refine pr_iadd hx hb d_L_law_536 ?_
  refine pr_sld (X := z0) (n := 6 * i + 3) hx hb hXs hbl hbA hS (by omega) (by omega) hL ez d_L_law_537 ?_
  refine lv_aload_n hx hb d_L_law_538 rfl (lv_at hl 0 rfl) ?_
  refine lv_iload hx hb d_L_law_539 (lv_at hl 4 rfl) ?_
  refine lv_iconst (v := iI (4)) hx hb d_L_law_541 rfl ?_
  refine pr_iadd hx hb d_L_law_542 ?_
  refine pr_sld (X := xa0) (n := 6 * i + 4) hx hb hXs hbl hbA hS (by omega) (by omega) hL exa d_L_law_543 ?_
  refine lv_aload_n hx hb d_L_law_544 rfl (lv_at hl 3 rfl) ?_
  refine va_calli (vx_runSW (As := [.ref (a 0), .int (iI (x0)), .int (iI (y0)), .int (iI (z0)), .int (iI (xa0)), .ref o]) (rest := []) ⟨hx, hb, hml, hown, hts⟩ (c_L_fan l hst H.size o g x0 y0 z0 xa0 (v_J_ok hJ) hJ.1.2.1 gx gy gz gxa) (vx_cwSW 6 hts (pn_gS2 m_399 m_400 m_32 m_401) rfl rfl rfl (by decide +kernel) ⟨Nat.le_of_ble_eq_true rfl, Nat.le_of_ble_eq_true rfl⟩) (pn_preL (vj_PL hP) (vj_DL hD) hE hX hNc hS hA) rfl rfl hl.1 rfl (lv_room (Nat.le_of_ble_eq_true rfl)) d_L_law_545 ⟨hK, hSl⟩) hS (fun q _ h => pr_all (vj_DL hD) hS hA q h) (fun q h => pr_all (vj_DL hD) hS hA q h) (fun r1 w t1 H1 locs1 ht1 hvm1 hw hB hz1 hk1 hS1 => ?_)
  obtain ⟨hP1, hD1⟩ := hB
  rw [ht1] at hP1
  obtain ⟨hP, hD⟩ := vj_app hP hD hk1 (fun q h => pr_all (vj_DL hD) hS hA q h) hP1 hD1
  clear hS hP1 hD1 hk1
  dsimp only at hP hD
  have hS := hS1
  clear hS1
  obtain ⟨w1, w2⟩ := w
  dsimp only at hP hD
  refine lv_istore (lv' := [(5, .int r1), (0, .ref bs), (1, .ref (a 0)), (2, .ref (b9 0)), (3, .ref o), (4, .int (iI (6 * (i : Int))))]) hx hb d_L_law_548 hl (by decide) rfl (fun ls hl => ?_)
  refine lv_aload_n hx hb d_L_law_550 rfl (lv_at hl 3 rfl) ?_
  refine lv_aload_n hx hb d_L_law_551 rfl (lv_at hl 1 rfl) ?_
  refine lv_iload hx hb d_L_law_552 (lv_at hl 5 rfl) ?_
  refine lv_iconst (v := iI (1)) hx hb d_L_law_554 rfl ?_
  refine pr_iadd hx hb d_L_law_555 ?_
  refine pr_sld (X := x0) (n := 6 * i + 1) hx hb hXs hbl hbA hS (by omega) (by omega) hL ex d_L_law_556 ?_
  refine lv_aload_n hx hb d_L_law_557 rfl (lv_at hl 1 rfl) ?_
  refine lv_iload hx hb d_L_law_558 (lv_at hl 5 rfl) ?_
  refine lv_iconst (v := iI (2)) hx hb d_L_law_560 rfl ?_
  refine pr_iadd hx hb d_L_law_561 ?_
  refine pr_sld (X := y0) (n := 6 * i + 2) hx hb hXs hbl hbA hS (by omega) (by omega) hL ey d_L_law_562 ?_
  refine lv_aload_n hx hb d_L_law_563 rfl (lv_at hl 1 rfl) ?_
  refine lv_iload hx hb d_L_law_564 (lv_at hl 5 rfl) ?_
  refine lv_iconst (v := iI (3)) hx hb d_L_law_566 rfl ?_
  refine pr_iadd hx hb d_L_law_567 ?_
  refine pr_sld (X := z0) (n := 6 * i + 3) hx hb hXs hbl hbA hS (by omega) (by omega) hL ez d_L_law_568 ?_
  refine lv_aload_n hx hb d_L_law_569 rfl (lv_at hl 1 rfl) ?_
  refine lv_iload hx hb d_L_law_570 (lv_at hl 5 rfl) ?_
  refine lv_iconst (v := iI (4)) hx hb d_L_law_572 rfl ?_
  refine pr_iadd hx hb d_L_law_573 ?_
  refine pr_sld (X := xa0) (n := 6 * i + 4) hx hb hXs hbl hbA hS (by omega) (by omega) hL exa d_L_law_574 ?_
  have hP2 := vj_swP hP
  have hD2 := vj_swD hD
  refine va_calli (va_runV (As := [.int (iI (x0)), .int (iI (y0)), .int (iI (z0)), .int (iI (xa0))]) (rest := []) ⟨hx, hb, hml, hown, hts⟩ (c_M_fan l H1.size nf ns da x0 y0 z0 xa0 (v_J_ok hJ) (v_J_R hJ) (v_J_mn hJ) gx gy gz gxa) (cwV 4 hts (pn_gV m_718 m_719 m_720 m_38 m_721) rfl rfl rfl (by decide +kernel) ⟨Nat.le_of_ble_eq_true rfl, Nat.le_of_ble_eq_true rfl⟩) (mn_preW (q0 := 0) (ci := 5) (q := (R_M, T_M, 27)) (vj_PL hP2) (vj_DL hD2) hEm rfl rfl) rfl rfl hl.1 rfl (lv_room (Nat.le_of_ble_eq_true rfl)) d_L_law_575 ⟨hK, hSl⟩) hS (fun q _ h => pr_all (vj_DL hD2) hS hA q h) (fun q h => pr_all (vj_DL hD2) hS hA q h) (fun r2 u t2 H2 locs2 ht2 hvm2 hw2 hB hz2 hk2 hS2 => ?_)
  obtain ⟨hP1, hD1⟩ := hB
  rw [ht2] at hP1
  obtain ⟨hP, hD⟩ := vj_app hP2 hD2 hk2 (fun q h => pr_all (vj_DL hD2) hS hA q h) hP1 hD1
  clear hS hP1 hD1 hk2 hP2 hD2
  dsimp only at hP hD
  have hS := hS2
  clear hS2
  obtain ⟨k, hk3, rfl, hms, hval, hJ', hn'⟩ := j_fan hJ (show ns 3 < 512 by omega) hw hw2
  dsimp only at hms hval hJ' hn'
  obtain ⟨mi2, ml2, mz2, ms2⟩ := u
  dsimp only at hP hD hms
  have hPm := vj_PL hP
  have hP := vj_swP hP
  have hD := vj_swD hD
  refine lv_istore (lv' := [(6, .int r2), (5, .int (iI k)), (0, .ref bs), (1, .ref (a 0)), (2, .ref (b9 0)), (3, .ref o), (4, .int (iI (6 * (i : Int))))]) hx hb d_L_law_578 hl (by decide) rfl (fun ls hl => ?_)
  refine lv_aload_n hx hb d_L_law_580 rfl (lv_at hl 4 rfl) ?_
  refine pr_pi (va_runV (As := []) (rest := []) ⟨hx, hb, hml, hown, hts⟩ (c_M_thrown l) (cwV 0 hts (pn_gV m_673 m_674 m_675 m_38 m_676) rfl rfl rfl (by decide +kernel) ⟨Nat.le_of_ble_eq_true rfl, Nat.le_of_ble_eq_true rfl⟩) (mn_preV (q0 := 0) (ci := 5) (q := (R_M, T_M, 27)) hPm hEm rfl rfl) rfl rfl hl.1 rfl (lv_room (Nat.le_of_ble_eq_true rfl)) d_L_law_581 ⟨hK, hSl⟩) ?_
  rw [hms]
  refine lv_iload hx hb d_L_law_584 (lv_at hl 1 rfl) ?_
  refine lv_icmp_eq (tgt := 591) hx hb d_L_law_586 (by decide) (fun c9 => ?_) (fun c9 => absurd rfl c9)
  refine lv_iload hx hb d_L_law_591 (lv_at hl 1 rfl) ?_
  have kkk := kk w1 (mi2, ml2, mz2, ms2) w2 H2 locs2
  refine lv_if_ne (tgt := 608) hx hb d_L_law_593 (by decide) (fun c9 => ?_) (fun c9 => ?_)
  · skip
    refine lv_goto (tgt := 1218) hx hb d_L_law_608 (by decide) ?_
    exact kkk ls hP hD hS hJ' (by omega) (lv_sub hl [2, 3, 4, 5, 6] rfl)
  · have k0 : k = 0 := by rcases hk3 with h | h | h; exact h; rw [h] at c9; exact absurd c9 (by decide); rw [h] at c9; exact absurd c9 (by decide)
    have hv := hval k0
    refine lv_aload_n hx hb d_L_law_596 rfl (lv_at hl 5 rfl) ?_
    refine lv_iconst (v := iI (0)) hx hb d_L_law_597 rfl ?_
    refine pr_lald hx hb hE.1 hP 54 1 rfl rfl (by decide) (by decide) (by decide) d_L_law_598 ?_
    refine lv_iload hx hb d_L_law_599 (lv_at hl 0 rfl) ?_
    refine lv_i2l (v := r2.toInt64) hx hb d_L_law_601 rfl ?_
    refine pr_lcmps (tgt := 608) hx hb hv d_L_law_602 d_L_law_603 (by decide) ?_
    refine lv_goto (tgt := 1218) hx hb d_L_law_608 (by decide) ?_
    exact kkk ls hP hD hS hJ' (by omega) (lv_sub hl [2, 3, 4, 5, 6] rfl)
set_option maxHeartbeats 4000000 in
set_option maxRecDepth 100000 in
theorem lw_pressure {p : Program} {e : Env} {s : State} {m : MethodId} {below : List Frame} {meth : Method} {c : Code} (l : Launch) (hst : l.stackTraces = false) {bs L : Nat} {xs : Nat → Int32} (hL : L ≤ 3072) (C0 : lw_At p s m meth c bs L xs) {D : va_G} {a b9 : Nat → Nat} {cI cL cD cS cZ : ClassId} {o : Nat} {A : Nat → Prop} (hE : pn_E D cI cL cD cS s) (hEm : mn_E D cI cL cZ s) (hX : pn_X A s) (hNc : pn_Nc s) (hA : ∀ q, s.heap.size ≤ q → A q) (hbA : ¬ A bs) {H : Heap} {locs : List Loc} {ls : Array Slot} {i K S : Nat} {v : vS} {u : vM} {g : Int → Int} (hi : 6 * i + 6 ≤ L) (hP : va_P D pn_cl ((cwv a cI cL cD cS v ++ vo cL o g) ++ mwv b9 cI cL cZ u) H) (hD : va_D A ((cwv a cI cL cD cS v ++ vo cL o g) ++ mwv b9 cI cL cZ u)) (hS : va_S A s.heap H locs) (hJ : vJt v u) (hn : v.2.1 3 ≤ (i : Int)) (hl : lv_has ls 8 [(0, .ref bs), (1, .ref (a 0)), (2, .ref (b9 0)), (3, .ref o), (4, .int (iI (6 * (i : Int))))]) (hK : K + 1 ≤ 627858) (hSl : S + 6 ≤ 7212529) (kk : ∀ (v' : vS) (u' : vM) (g' : Int → Int) (H' : Heap) (locs' : List Loc) (ls' : Array Slot), va_P D pn_cl ((cwv a cI cL cD cS v' ++ vo cL o g') ++ mwv b9 cI cL cZ u') H' → va_D A ((cwv a cI cL cD cS v' ++ vo cL o g') ++ mwv b9 cI cL cZ u') → va_S A s.heap H' locs' → vJt v' u' → v'.2.1 3 ≤ (i : Int) + 1 → lv_has ls' 8 [(0, .ref bs), (1, .ref (a 0)), (2, .ref (b9 0)), (3, .ref o), (4, .int (iI (6 * (i : Int))))] → W p l e room_1 s m #[Value.ref bs] below meth c H' locs' (K + 1) (S + 6) (lw_Z below #[Value.ref bs] s) (F0 m 1218 ls' [])) : W p l e room_1 s m #[Value.ref bs] below meth c H locs K S (lw_Z below #[Value.ref bs] s) (F0 m 611 ls []) := by
  obtain ⟨nf, ns, da, be, ui, ul, cn, ss, mf, sd, pr⟩ := v
  obtain ⟨mi, ml, mz, ms⟩ := u
  have hJ : v_J nf ns da ui ul cn ss mf sd pr mi ml mz ms := hJ
  have hn : ns 3 ≤ (i : Int) := hn
  have hP : va_P D pn_cl ((cw a cI cL cD cS nf ns da be ui ul cn ss mf sd pr ++ vo cL o g) ++ mw b9 cI cL cZ mi ml mz ms) H := hP
  have hD : va_D A ((cw a cI cL cD cS nf ns da be ui ul cn ss mf sd pr ++ vo cL o g) ++ mw b9 cI cL cZ mi ml mz ms) := hD
  obtain ⟨hx, hb, hr, hml, hown, htl, hXs, hbl, hlocks, hgv⟩ := id C0
  have ht : ∀ w ∈ pn_W, w.before #[Value.ref bs] s = true := fun w h => htl w (List.mem_filter.mp h).1
  have hts : ∀ w ∈ (Cond.initialized "PressureNets" :: pn_W), w.before #[Value.ref bs] s = true := fun w h => (List.mem_cons.mp h).elim (fun q => by rw [q]; exact ht _ m_33) (ht w)
  have hKm := hEm
  obtain ⟨x0, ex⟩ : ∃ q : Int, q = (xs (6 * i + 1)).toInt := ⟨_, rfl⟩
  have gx : i3 x0 := by rw [ex]; exact i3_32 _
  refine lv_aload_n hx hb d_L_law_611 rfl (lv_at hl 1 rfl) ?_
  refine lv_aload_n hx hb d_L_law_612 rfl (lv_at hl 0 rfl) ?_
  refine lv_iload hx hb d_L_law_613 (lv_at hl 4 rfl) ?_
  refine lv_iconst (v := iI (1)) hx hb d_L_law_615 rfl ?_
  refine pr_iadd hx hb d_L_law_616 ?_
  refine pr_sld (X := x0) (n := 6 * i + 1) hx hb hXs hbl hbA hS (by omega) (by omega) hL ex d_L_law_617 ?_
  refine lv_aload_n hx hb d_L_law_618 rfl (lv_at hl 3 rfl) ?_
  refine va_calli (vx_runSW (As := [.ref (a 0), .int (iI (x0)), .ref o]) (rest := []) ⟨hx, hb, hml, hown, hts⟩ (c_L_pressure l hst H.size o g x0 (v_J_ok hJ) (v_J_mono hJ _) (hJ.2.2.1.2 0 (by decide)) (v_J_hC hJ 0 (by decide)).1 (v_J_hC hJ 0 (by decide)).2.1 (v_J_hC hJ 0 (by decide)).2.2 gx) (vx_cwSW 3 hts (pn_gS2 m_413 m_414 m_32 m_415) rfl rfl rfl (by decide +kernel) ⟨Nat.le_of_ble_eq_true rfl, Nat.le_of_ble_eq_true rfl⟩) (pn_preL (vj_PL hP) (vj_DL hD) hE hX hNc hS hA) rfl rfl hl.1 rfl (lv_room (Nat.le_of_ble_eq_true rfl)) d_L_law_619 ⟨hK, hSl⟩) hS (fun q _ h => pr_all (vj_DL hD) hS hA q h) (fun q h => pr_all (vj_DL hD) hS hA q h) (fun r1 w t1 H1 locs1 ht1 hvm1 hw hB hz1 hk1 hS1 => ?_)
  obtain ⟨hP1, hD1⟩ := hB
  rw [ht1] at hP1
  obtain ⟨hP, hD⟩ := vj_app hP hD hk1 (fun q h => pr_all (vj_DL hD) hS hA q h) hP1 hD1
  clear hS hP1 hD1 hk1
  dsimp only at hP hD
  have hS := hS1
  clear hS1
  obtain ⟨w1, w2⟩ := w
  dsimp only at hP hD
  refine lv_istore (lv' := [(5, .int r1), (0, .ref bs), (1, .ref (a 0)), (2, .ref (b9 0)), (3, .ref o), (4, .int (iI (6 * (i : Int))))]) hx hb d_L_law_622 hl (by decide) rfl (fun ls hl => ?_)
  refine lv_aload_n hx hb d_L_law_624 rfl (lv_at hl 3 rfl) ?_
  refine lv_aload_n hx hb d_L_law_625 rfl (lv_at hl 1 rfl) ?_
  refine lv_iload hx hb d_L_law_626 (lv_at hl 5 rfl) ?_
  refine lv_iconst (v := iI (1)) hx hb d_L_law_628 rfl ?_
  refine pr_iadd hx hb d_L_law_629 ?_
  refine pr_sld (X := x0) (n := 6 * i + 1) hx hb hXs hbl hbA hS (by omega) (by omega) hL ex d_L_law_630 ?_
  have hP2 := vj_swP hP
  have hD2 := vj_swD hD
  refine va_calli (va_runV (As := [.int (iI (x0))]) (rest := []) ⟨hx, hb, hml, hown, hts⟩ (c_M_pressure l H1.size nf ns da (ss 0) x0 (v_J_ok hJ) (v_J_R hJ) (v_J_mn hJ) (hJ.2.2.1.2 0 (by decide)) hJ.1.2.2.2.1 (v_J_mono hJ _) hJ.2.2.1.1 hJ.2.2.2.2.2.2.2.2.2.1 gx) (cwV 1 hts (pn_gV m_723 m_724 m_725 m_38 m_726) rfl rfl rfl (by decide +kernel) ⟨Nat.le_of_ble_eq_true rfl, Nat.le_of_ble_eq_true rfl⟩) (mn_preW (q0 := 0) (ci := 5) (q := (R_M, T_M, 27)) (vj_PL hP2) (vj_DL hD2) hEm rfl rfl) rfl rfl hl.1 rfl (lv_room (Nat.le_of_ble_eq_true rfl)) d_L_law_631 ⟨hK, hSl⟩) hS (fun q _ h => pr_all (vj_DL hD2) hS hA q h) (fun q h => pr_all (vj_DL hD2) hS hA q h) (fun r2 u t2 H2 locs2 ht2 hvm2 hw2 hB hz2 hk2 hS2 => ?_)
  obtain ⟨hP1, hD1⟩ := hB
  rw [ht2] at hP1
  obtain ⟨hP, hD⟩ := vj_app hP2 hD2 hk2 (fun q h => pr_all (vj_DL hD2) hS hA q h) hP1 hD1
  clear hS hP1 hD1 hk2 hP2 hD2
  dsimp only at hP hD
  have hS := hS2
  clear hS2
  obtain ⟨k, hk3, rfl, hms, hval, hJ', hn'⟩ := j_pressure hJ (show ns 3 < 512 by omega) hw hw2
  dsimp only at hms hval hJ' hn'
  obtain ⟨mi2, ml2, mz2, ms2⟩ := u
  dsimp only at hP hD hms
  have hPm := vj_PL hP
  have hP := vj_swP hP
  have hD := vj_swD hD
  refine lv_istore (lv' := [(6, .int r2), (5, .int (iI k)), (0, .ref bs), (1, .ref (a 0)), (2, .ref (b9 0)), (3, .ref o), (4, .int (iI (6 * (i : Int))))]) hx hb d_L_law_634 hl (by decide) rfl (fun ls hl => ?_)
  refine lv_aload_n hx hb d_L_law_636 rfl (lv_at hl 4 rfl) ?_
  refine pr_pi (va_runV (As := []) (rest := []) ⟨hx, hb, hml, hown, hts⟩ (c_M_thrown l) (cwV 0 hts (pn_gV m_673 m_674 m_675 m_38 m_676) rfl rfl rfl (by decide +kernel) ⟨Nat.le_of_ble_eq_true rfl, Nat.le_of_ble_eq_true rfl⟩) (mn_preV (q0 := 0) (ci := 5) (q := (R_M, T_M, 27)) hPm hEm rfl rfl) rfl rfl hl.1 rfl (lv_room (Nat.le_of_ble_eq_true rfl)) d_L_law_637 ⟨hK, hSl⟩) ?_
  rw [hms]
  refine lv_iload hx hb d_L_law_640 (lv_at hl 1 rfl) ?_
  refine lv_icmp_eq (tgt := 647) hx hb d_L_law_642 (by decide) (fun c9 => ?_) (fun c9 => absurd rfl c9)
  refine lv_iload hx hb d_L_law_647 (lv_at hl 1 rfl) ?_
  have kkk := kk w1 (mi2, ml2, mz2, ms2) w2 H2 locs2
  refine lv_if_ne (tgt := 664) hx hb d_L_law_649 (by decide) (fun c9 => ?_) (fun c9 => ?_)
  · skip
    refine lv_goto (tgt := 1218) hx hb d_L_law_664 (by decide) ?_
    exact kkk ls hP hD hS hJ' (by omega) (lv_sub hl [2, 3, 4, 5, 6] rfl)
  · have k0 : k = 0 := by rcases hk3 with h | h | h; exact h; rw [h] at c9; exact absurd c9 (by decide); rw [h] at c9; exact absurd c9 (by decide)
    have hv := hval k0
    refine lv_aload_n hx hb d_L_law_652 rfl (lv_at hl 5 rfl) ?_
    refine lv_iconst (v := iI (0)) hx hb d_L_law_653 rfl ?_
    refine pr_lald hx hb hE.1 hP 54 1 rfl rfl (by decide) (by decide) (by decide) d_L_law_654 ?_
    refine lv_iload hx hb d_L_law_655 (lv_at hl 0 rfl) ?_
    refine lv_i2l (v := r2.toInt64) hx hb d_L_law_657 rfl ?_
    refine pr_lcmps (tgt := 664) hx hb hv d_L_law_658 d_L_law_659 (by decide) ?_
    refine lv_goto (tgt := 1218) hx hb d_L_law_664 (by decide) ?_
    exact kkk ls hP hD hS hJ' (by omega) (lv_sub hl [2, 3, 4, 5, 6] rfl)
set_option maxHeartbeats 4000000 in
set_option maxRecDepth 100000 in
theorem lw_told {p : Program} {e : Env} {s : State} {m : MethodId} {below : List Frame} {meth : Method} {c : Code} (l : Launch) (hst : l.stackTraces = false) {bs L : Nat} {xs : Nat → Int32} (hL : L ≤ 3072) (C0 : lw_At p s m meth c bs L xs) {D : va_G} {a b9 : Nat → Nat} {cI cL cD cS cZ : ClassId} {o : Nat} {A : Nat → Prop} (hE : pn_E D cI cL cD cS s) (hEm : mn_E D cI cL cZ s) (hX : pn_X A s) (hNc : pn_Nc s) (hA : ∀ q, s.heap.size ≤ q → A q) (hbA : ¬ A bs) {H : Heap} {locs : List Loc} {ls : Array Slot} {i K S : Nat} {v : vS} {u : vM} {g : Int → Int} (hi : 6 * i + 6 ≤ L) (hP : va_P D pn_cl ((cwv a cI cL cD cS v ++ vo cL o g) ++ mwv b9 cI cL cZ u) H) (hD : va_D A ((cwv a cI cL cD cS v ++ vo cL o g) ++ mwv b9 cI cL cZ u)) (hS : va_S A s.heap H locs) (hJ : vJt v u) (hn : v.2.1 3 ≤ (i : Int)) (hl : lv_has ls 8 [(0, .ref bs), (1, .ref (a 0)), (2, .ref (b9 0)), (3, .ref o), (4, .int (iI (6 * (i : Int))))]) (hK : K + 1 ≤ 627858) (hSl : S + 6 ≤ 7212529) (kk : ∀ (v' : vS) (u' : vM) (g' : Int → Int) (H' : Heap) (locs' : List Loc) (ls' : Array Slot), va_P D pn_cl ((cwv a cI cL cD cS v' ++ vo cL o g') ++ mwv b9 cI cL cZ u') H' → va_D A ((cwv a cI cL cD cS v' ++ vo cL o g') ++ mwv b9 cI cL cZ u') → va_S A s.heap H' locs' → vJt v' u' → v'.2.1 3 ≤ (i : Int) + 1 → lv_has ls' 8 [(0, .ref bs), (1, .ref (a 0)), (2, .ref (b9 0)), (3, .ref o), (4, .int (iI (6 * (i : Int))))] → W p l e room_1 s m #[Value.ref bs] below meth c H' locs' (K + 1) (S + 6) (lw_Z below #[Value.ref bs] s) (F0 m 1218 ls' [])) : W p l e room_1 s m #[Value.ref bs] below meth c H locs K S (lw_Z below #[Value.ref bs] s) (F0 m 667 ls []) := by
  obtain ⟨nf, ns, da, be, ui, ul, cn, ss, mf, sd, pr⟩ := v
  obtain ⟨mi, ml, mz, ms⟩ := u
  have hJ : v_J nf ns da ui ul cn ss mf sd pr mi ml mz ms := hJ
  have hn : ns 3 ≤ (i : Int) := hn
  have hP : va_P D pn_cl ((cw a cI cL cD cS nf ns da be ui ul cn ss mf sd pr ++ vo cL o g) ++ mw b9 cI cL cZ mi ml mz ms) H := hP
  have hD : va_D A ((cw a cI cL cD cS nf ns da be ui ul cn ss mf sd pr ++ vo cL o g) ++ mw b9 cI cL cZ mi ml mz ms) := hD
  obtain ⟨hx, hb, hr, hml, hown, htl, hXs, hbl, hlocks, hgv⟩ := id C0
  have ht : ∀ w ∈ pn_W, w.before #[Value.ref bs] s = true := fun w h => htl w (List.mem_filter.mp h).1
  have hts : ∀ w ∈ (Cond.initialized "PressureNets" :: pn_W), w.before #[Value.ref bs] s = true := fun w h => (List.mem_cons.mp h).elim (fun q => by rw [q]; exact ht _ m_33) (ht w)
  have hKm := hEm
  obtain ⟨x0, ex⟩ : ∃ q : Int, q = (xs (6 * i + 1)).toInt := ⟨_, rfl⟩
  have gx : i3 x0 := by rw [ex]; exact i3_32 _
  obtain ⟨y0, ey⟩ : ∃ q : Int, q = (xs (6 * i + 2)).toInt := ⟨_, rfl⟩
  have gy : i3 y0 := by rw [ey]; exact i3_32 _
  refine lv_aload_n hx hb d_L_law_667 rfl (lv_at hl 1 rfl) ?_
  refine lv_aload_n hx hb d_L_law_668 rfl (lv_at hl 0 rfl) ?_
  refine lv_iload hx hb d_L_law_669 (lv_at hl 4 rfl) ?_
  refine lv_iconst (v := iI (1)) hx hb d_L_law_671 rfl ?_
  refine pr_iadd hx hb d_L_law_672 ?_
  refine pr_sld (X := x0) (n := 6 * i + 1) hx hb hXs hbl hbA hS (by omega) (by omega) hL ex d_L_law_673 ?_
  refine lv_aload_n hx hb d_L_law_674 rfl (lv_at hl 0 rfl) ?_
  refine lv_iload hx hb d_L_law_675 (lv_at hl 4 rfl) ?_
  refine lv_iconst (v := iI (2)) hx hb d_L_law_677 rfl ?_
  refine pr_iadd hx hb d_L_law_678 ?_
  refine pr_sld (X := y0) (n := 6 * i + 2) hx hb hXs hbl hbA hS (by omega) (by omega) hL ey d_L_law_679 ?_
  refine lv_aload_n hx hb d_L_law_680 rfl (lv_at hl 3 rfl) ?_
  refine va_calli (vx_runSW (As := [.ref (a 0), .int (iI (x0)), .int (iI (y0)), .ref o]) (rest := []) ⟨hx, hb, hml, hown, hts⟩ (c_L_told l hst H.size o g x0 y0 (v_J_ok hJ) (v_J_mono hJ _) (hJ.2.2.1.2 0 (by decide)) (v_J_hC hJ 0 (by decide)).1 (v_J_hC hJ 0 (by decide)).2.1 (v_J_hC hJ 0 (by decide)).2.2 gx gy) (vx_cwSW 4 hts (pn_gS2 m_476 m_477 m_32 m_478) rfl rfl rfl (by decide +kernel) ⟨Nat.le_of_ble_eq_true rfl, Nat.le_of_ble_eq_true rfl⟩) (pn_preL (vj_PL hP) (vj_DL hD) hE hX hNc hS hA) rfl rfl hl.1 rfl (lv_room (Nat.le_of_ble_eq_true rfl)) d_L_law_681 ⟨hK, hSl⟩) hS (fun q _ h => pr_all (vj_DL hD) hS hA q h) (fun q h => pr_all (vj_DL hD) hS hA q h) (fun r1 w t1 H1 locs1 ht1 hvm1 hw hB hz1 hk1 hS1 => ?_)
  obtain ⟨hP1, hD1⟩ := hB
  rw [ht1] at hP1
  obtain ⟨hP, hD⟩ := vj_app hP hD hk1 (fun q h => pr_all (vj_DL hD) hS hA q h) hP1 hD1
  clear hS hP1 hD1 hk1
  dsimp only at hP hD
  have hS := hS1
  clear hS1
  obtain ⟨w1, w2⟩ := w
  dsimp only at hP hD
  refine lv_istore (lv' := [(5, .int r1), (0, .ref bs), (1, .ref (a 0)), (2, .ref (b9 0)), (3, .ref o), (4, .int (iI (6 * (i : Int))))]) hx hb d_L_law_684 hl (by decide) rfl (fun ls hl => ?_)
  refine lv_aload_n hx hb d_L_law_686 rfl (lv_at hl 3 rfl) ?_
  refine lv_aload_n hx hb d_L_law_687 rfl (lv_at hl 1 rfl) ?_
  refine lv_iload hx hb d_L_law_688 (lv_at hl 5 rfl) ?_
  refine lv_iconst (v := iI (1)) hx hb d_L_law_690 rfl ?_
  refine pr_iadd hx hb d_L_law_691 ?_
  refine pr_sld (X := x0) (n := 6 * i + 1) hx hb hXs hbl hbA hS (by omega) (by omega) hL ex d_L_law_692 ?_
  refine lv_aload_n hx hb d_L_law_693 rfl (lv_at hl 1 rfl) ?_
  refine lv_iload hx hb d_L_law_694 (lv_at hl 5 rfl) ?_
  refine lv_iconst (v := iI (2)) hx hb d_L_law_696 rfl ?_
  refine pr_iadd hx hb d_L_law_697 ?_
  refine pr_sld (X := y0) (n := 6 * i + 2) hx hb hXs hbl hbA hS (by omega) (by omega) hL ey d_L_law_698 ?_
  have hP2 := vj_swP hP
  have hD2 := vj_swD hD
  refine va_calli (va_runV (As := [.int (iI (x0)), .int (iI (y0))]) (rest := []) ⟨hx, hb, hml, hown, hts⟩ (c_M_told l H1.size nf ns da (ss 0) x0 y0 (v_J_ok hJ) (v_J_R hJ) (v_J_mn hJ) (hJ.2.2.1.2 0 (by decide)) hJ.1.2.2.2.1 (v_J_mono hJ _) hJ.2.2.1.1 hJ.2.2.2.2.2.2.2.2.2.1 gx gy) (cwV 2 hts (pn_gV m_769 m_770 m_771 m_38 m_772) rfl rfl rfl (by decide +kernel) ⟨Nat.le_of_ble_eq_true rfl, Nat.le_of_ble_eq_true rfl⟩) (mn_preW (q0 := 0) (ci := 5) (q := (R_M, T_M, 27)) (vj_PL hP2) (vj_DL hD2) hEm rfl rfl) rfl rfl hl.1 rfl (lv_room (Nat.le_of_ble_eq_true rfl)) d_L_law_699 ⟨hK, hSl⟩) hS (fun q _ h => pr_all (vj_DL hD2) hS hA q h) (fun q h => pr_all (vj_DL hD2) hS hA q h) (fun r2 u t2 H2 locs2 ht2 hvm2 hw2 hB hz2 hk2 hS2 => ?_)
  obtain ⟨hP1, hD1⟩ := hB
  rw [ht2] at hP1
  obtain ⟨hP, hD⟩ := vj_app hP2 hD2 hk2 (fun q h => pr_all (vj_DL hD2) hS hA q h) hP1 hD1
  clear hS hP1 hD1 hk2 hP2 hD2
  dsimp only at hP hD
  have hS := hS2
  clear hS2
  obtain ⟨k, hk3, rfl, hms, hval, hJ', hn'⟩ := j_told hJ (show ns 3 < 512 by omega) hw hw2
  dsimp only at hms hval hJ' hn'
  obtain ⟨mi2, ml2, mz2, ms2⟩ := u
  dsimp only at hP hD hms
  have hPm := vj_PL hP
  have hP := vj_swP hP
  have hD := vj_swD hD
  refine lv_istore (lv' := [(6, .int r2), (5, .int (iI k)), (0, .ref bs), (1, .ref (a 0)), (2, .ref (b9 0)), (3, .ref o), (4, .int (iI (6 * (i : Int))))]) hx hb d_L_law_702 hl (by decide) rfl (fun ls hl => ?_)
  refine lv_aload_n hx hb d_L_law_704 rfl (lv_at hl 4 rfl) ?_
  refine pr_pi (va_runV (As := []) (rest := []) ⟨hx, hb, hml, hown, hts⟩ (c_M_thrown l) (cwV 0 hts (pn_gV m_673 m_674 m_675 m_38 m_676) rfl rfl rfl (by decide +kernel) ⟨Nat.le_of_ble_eq_true rfl, Nat.le_of_ble_eq_true rfl⟩) (mn_preV (q0 := 0) (ci := 5) (q := (R_M, T_M, 27)) hPm hEm rfl rfl) rfl rfl hl.1 rfl (lv_room (Nat.le_of_ble_eq_true rfl)) d_L_law_705 ⟨hK, hSl⟩) ?_
  rw [hms]
  refine lv_iload hx hb d_L_law_708 (lv_at hl 1 rfl) ?_
  refine lv_icmp_eq (tgt := 715) hx hb d_L_law_710 (by decide) (fun c9 => ?_) (fun c9 => absurd rfl c9)
  refine lv_iload hx hb d_L_law_715 (lv_at hl 1 rfl) ?_
  have kkk := kk w1 (mi2, ml2, mz2, ms2) w2 H2 locs2
  refine lv_if_ne (tgt := 732) hx hb d_L_law_717 (by decide) (fun c9 => ?_) (fun c9 => ?_)
  · skip
    refine lv_goto (tgt := 1218) hx hb d_L_law_732 (by decide) ?_
    exact kkk ls hP hD hS hJ' (by omega) (lv_sub hl [2, 3, 4, 5, 6] rfl)
  · have k0 : k = 0 := by rcases hk3 with h | h | h; exact h; rw [h] at c9; exact absurd c9 (by decide); rw [h] at c9; exact absurd c9 (by decide)
    have hv := hval k0
    refine lv_aload_n hx hb d_L_law_720 rfl (lv_at hl 5 rfl) ?_
    refine lv_iconst (v := iI (0)) hx hb d_L_law_721 rfl ?_
    refine pr_lald hx hb hE.1 hP 54 1 rfl rfl (by decide) (by decide) (by decide) d_L_law_722 ?_
    refine lv_iload hx hb d_L_law_723 (lv_at hl 0 rfl) ?_
    refine lv_i2l (v := r2.toInt64) hx hb d_L_law_725 rfl ?_
    refine pr_lcmps (tgt := 732) hx hb hv d_L_law_726 d_L_law_727 (by decide) ?_
    refine lv_goto (tgt := 1218) hx hb d_L_law_732 (by decide) ?_
    exact kkk ls hP hD hS hJ' (by omega) (lv_sub hl [2, 3, 4, 5, 6] rfl)
set_option maxHeartbeats 4000000 in
set_option maxRecDepth 100000 in
theorem lw_blows {p : Program} {e : Env} {s : State} {m : MethodId} {below : List Frame} {meth : Method} {c : Code} (l : Launch) (hst : l.stackTraces = false) {bs L : Nat} {xs : Nat → Int32} (hL : L ≤ 3072) (C0 : lw_At p s m meth c bs L xs) {D : va_G} {a b9 : Nat → Nat} {cI cL cD cS cZ : ClassId} {o : Nat} {A : Nat → Prop} (hE : pn_E D cI cL cD cS s) (hEm : mn_E D cI cL cZ s) (hX : pn_X A s) (hNc : pn_Nc s) (hA : ∀ q, s.heap.size ≤ q → A q) (hbA : ¬ A bs) {H : Heap} {locs : List Loc} {ls : Array Slot} {i K S : Nat} {v : vS} {u : vM} {g : Int → Int} (hi : 6 * i + 6 ≤ L) (hP : va_P D pn_cl ((cwv a cI cL cD cS v ++ vo cL o g) ++ mwv b9 cI cL cZ u) H) (hD : va_D A ((cwv a cI cL cD cS v ++ vo cL o g) ++ mwv b9 cI cL cZ u)) (hS : va_S A s.heap H locs) (hJ : vJt v u) (hn : v.2.1 3 ≤ (i : Int)) (hl : lv_has ls 8 [(0, .ref bs), (1, .ref (a 0)), (2, .ref (b9 0)), (3, .ref o), (4, .int (iI (6 * (i : Int))))]) (hK : K + 1 ≤ 627858) (hSl : S + 6 ≤ 7212529) (kk : ∀ (v' : vS) (u' : vM) (g' : Int → Int) (H' : Heap) (locs' : List Loc) (ls' : Array Slot), va_P D pn_cl ((cwv a cI cL cD cS v' ++ vo cL o g') ++ mwv b9 cI cL cZ u') H' → va_D A ((cwv a cI cL cD cS v' ++ vo cL o g') ++ mwv b9 cI cL cZ u') → va_S A s.heap H' locs' → vJt v' u' → v'.2.1 3 ≤ (i : Int) + 1 → lv_has ls' 8 [(0, .ref bs), (1, .ref (a 0)), (2, .ref (b9 0)), (3, .ref o), (4, .int (iI (6 * (i : Int))))] → W p l e room_1 s m #[Value.ref bs] below meth c H' locs' (K + 1) (S + 6) (lw_Z below #[Value.ref bs] s) (F0 m 1218 ls' [])) : W p l e room_1 s m #[Value.ref bs] below meth c H locs K S (lw_Z below #[Value.ref bs] s) (F0 m 735 ls []) := by
  obtain ⟨nf, ns, da, be, ui, ul, cn, ss, mf, sd, pr⟩ := v
  obtain ⟨mi, ml, mz, ms⟩ := u
  have hJ : v_J nf ns da ui ul cn ss mf sd pr mi ml mz ms := hJ
  have hn : ns 3 ≤ (i : Int) := hn
  have hP : va_P D pn_cl ((cw a cI cL cD cS nf ns da be ui ul cn ss mf sd pr ++ vo cL o g) ++ mw b9 cI cL cZ mi ml mz ms) H := hP
  have hD : va_D A ((cw a cI cL cD cS nf ns da be ui ul cn ss mf sd pr ++ vo cL o g) ++ mw b9 cI cL cZ mi ml mz ms) := hD
  obtain ⟨hx, hb, hr, hml, hown, htl, hXs, hbl, hlocks, hgv⟩ := id C0
  have ht : ∀ w ∈ pn_W, w.before #[Value.ref bs] s = true := fun w h => htl w (List.mem_filter.mp h).1
  have hts : ∀ w ∈ (Cond.initialized "PressureNets" :: pn_W), w.before #[Value.ref bs] s = true := fun w h => (List.mem_cons.mp h).elim (fun q => by rw [q]; exact ht _ m_33) (ht w)
  have hKm := hEm
  obtain ⟨x0, ex⟩ : ∃ q : Int, q = (xs (6 * i + 1)).toInt := ⟨_, rfl⟩
  have gx : i3 x0 := by rw [ex]; exact i3_32 _
  refine lv_aload_n hx hb d_L_law_735 rfl (lv_at hl 1 rfl) ?_
  refine lv_aload_n hx hb d_L_law_736 rfl (lv_at hl 0 rfl) ?_
  refine lv_iload hx hb d_L_law_737 (lv_at hl 4 rfl) ?_
  refine lv_iconst (v := iI (1)) hx hb d_L_law_739 rfl ?_
  refine pr_iadd hx hb d_L_law_740 ?_
  refine pr_sld (X := x0) (n := 6 * i + 1) hx hb hXs hbl hbA hS (by omega) (by omega) hL ex d_L_law_741 ?_
  refine lv_aload_n hx hb d_L_law_742 rfl (lv_at hl 3 rfl) ?_
  refine va_calli (vx_runSW (As := [.ref (a 0), .int (iI (x0)), .ref o]) (rest := []) ⟨hx, hb, hml, hown, hts⟩ (c_L_blows l hst H.size o g x0 (v_J_ok hJ) (v_J_mono hJ _) (hJ.2.2.1.2 0 (by decide)) (v_J_hC hJ 0 (by decide)).1 (v_J_hC hJ 0 (by decide)).2.1 (v_J_hC hJ 0 (by decide)).2.2 gx) (vx_cwSW 3 hts (pn_gS2 m_485 m_486 m_32 m_487) rfl rfl rfl (by decide +kernel) ⟨Nat.le_of_ble_eq_true rfl, Nat.le_of_ble_eq_true rfl⟩) (pn_preL (vj_PL hP) (vj_DL hD) hE hX hNc hS hA) rfl rfl hl.1 rfl (lv_room (Nat.le_of_ble_eq_true rfl)) d_L_law_743 ⟨hK, hSl⟩) hS (fun q _ h => pr_all (vj_DL hD) hS hA q h) (fun q h => pr_all (vj_DL hD) hS hA q h) (fun r1 w t1 H1 locs1 ht1 hvm1 hw hB hz1 hk1 hS1 => ?_)
  obtain ⟨hP1, hD1⟩ := hB
  rw [ht1] at hP1
  obtain ⟨hP, hD⟩ := vj_app hP hD hk1 (fun q h => pr_all (vj_DL hD) hS hA q h) hP1 hD1
  clear hS hP1 hD1 hk1
  dsimp only at hP hD
  have hS := hS1
  clear hS1
  obtain ⟨w1, w2⟩ := w
  dsimp only at hP hD
  refine lv_istore (lv' := [(5, .int r1), (0, .ref bs), (1, .ref (a 0)), (2, .ref (b9 0)), (3, .ref o), (4, .int (iI (6 * (i : Int))))]) hx hb d_L_law_746 hl (by decide) rfl (fun ls hl => ?_)
  refine lv_aload_n hx hb d_L_law_748 rfl (lv_at hl 3 rfl) ?_
  refine lv_aload_n hx hb d_L_law_749 rfl (lv_at hl 1 rfl) ?_
  refine lv_iload hx hb d_L_law_750 (lv_at hl 5 rfl) ?_
  refine lv_iconst (v := iI (1)) hx hb d_L_law_752 rfl ?_
  refine pr_iadd hx hb d_L_law_753 ?_
  refine pr_sld (X := x0) (n := 6 * i + 1) hx hb hXs hbl hbA hS (by omega) (by omega) hL ex d_L_law_754 ?_
  have hP2 := vj_swP hP
  have hD2 := vj_swD hD
  refine va_calli (va_runV (As := [.int (iI (x0))]) (rest := []) ⟨hx, hb, hml, hown, hts⟩ (c_M_blows l H1.size nf ns da (ss 0) x0 (v_J_ok hJ) (v_J_R hJ) (v_J_mn hJ) (hJ.2.2.1.2 0 (by decide)) hJ.1.2.2.2.1 (v_J_mono hJ _) hJ.2.2.1.1 hJ.2.2.2.2.2.2.2.2.2.1 gx) (cwV 1 hts (pn_gV m_773 m_774 m_775 m_38 m_776) rfl rfl rfl (by decide +kernel) ⟨Nat.le_of_ble_eq_true rfl, Nat.le_of_ble_eq_true rfl⟩) (mn_preW (q0 := 0) (ci := 5) (q := (R_M, T_M, 27)) (vj_PL hP2) (vj_DL hD2) hEm rfl rfl) rfl rfl hl.1 rfl (lv_room (Nat.le_of_ble_eq_true rfl)) d_L_law_755 ⟨hK, hSl⟩) hS (fun q _ h => pr_all (vj_DL hD2) hS hA q h) (fun q h => pr_all (vj_DL hD2) hS hA q h) (fun r2 u t2 H2 locs2 ht2 hvm2 hw2 hB hz2 hk2 hS2 => ?_)
  obtain ⟨hP1, hD1⟩ := hB
  rw [ht2] at hP1
  obtain ⟨hP, hD⟩ := vj_app hP2 hD2 hk2 (fun q h => pr_all (vj_DL hD2) hS hA q h) hP1 hD1
  clear hS hP1 hD1 hk2 hP2 hD2
  dsimp only at hP hD
  have hS := hS2
  clear hS2
  obtain ⟨k, hk3, rfl, hms, hval, hJ', hn'⟩ := j_blows hJ (show ns 3 < 512 by omega) hw hw2
  dsimp only at hms hval hJ' hn'
  obtain ⟨mi2, ml2, mz2, ms2⟩ := u
  dsimp only at hP hD hms
  have hPm := vj_PL hP
  have hP := vj_swP hP
  have hD := vj_swD hD
  refine lv_istore (lv' := [(6, .int r2), (5, .int (iI k)), (0, .ref bs), (1, .ref (a 0)), (2, .ref (b9 0)), (3, .ref o), (4, .int (iI (6 * (i : Int))))]) hx hb d_L_law_758 hl (by decide) rfl (fun ls hl => ?_)
  refine lv_aload_n hx hb d_L_law_760 rfl (lv_at hl 4 rfl) ?_
  refine pr_pi (va_runV (As := []) (rest := []) ⟨hx, hb, hml, hown, hts⟩ (c_M_thrown l) (cwV 0 hts (pn_gV m_673 m_674 m_675 m_38 m_676) rfl rfl rfl (by decide +kernel) ⟨Nat.le_of_ble_eq_true rfl, Nat.le_of_ble_eq_true rfl⟩) (mn_preV (q0 := 0) (ci := 5) (q := (R_M, T_M, 27)) hPm hEm rfl rfl) rfl rfl hl.1 rfl (lv_room (Nat.le_of_ble_eq_true rfl)) d_L_law_761 ⟨hK, hSl⟩) ?_
  rw [hms]
  refine lv_iload hx hb d_L_law_764 (lv_at hl 1 rfl) ?_
  refine lv_icmp_eq (tgt := 771) hx hb d_L_law_766 (by decide) (fun c9 => ?_) (fun c9 => absurd rfl c9)
  refine lv_iload hx hb d_L_law_771 (lv_at hl 1 rfl) ?_
  have kkk := kk w1 (mi2, ml2, mz2, ms2) w2 H2 locs2
  refine lv_if_ne (tgt := 788) hx hb d_L_law_773 (by decide) (fun c9 => ?_) (fun c9 => ?_)
  · skip
    refine lv_goto (tgt := 1218) hx hb d_L_law_788 (by decide) ?_
    exact kkk ls hP hD hS hJ' (by omega) (lv_sub hl [2, 3, 4, 5, 6] rfl)
  · have k0 : k = 0 := by rcases hk3 with h | h | h; exact h; rw [h] at c9; exact absurd c9 (by decide); rw [h] at c9; exact absurd c9 (by decide)
    have hv := hval k0
    refine lv_aload_n hx hb d_L_law_776 rfl (lv_at hl 5 rfl) ?_
    refine lv_iconst (v := iI (0)) hx hb d_L_law_777 rfl ?_
    refine pr_lald hx hb hE.1 hP 54 1 rfl rfl (by decide) (by decide) (by decide) d_L_law_778 ?_
    refine lv_iload hx hb d_L_law_779 (lv_at hl 0 rfl) ?_
    refine lv_i2l (v := r2.toInt64) hx hb d_L_law_781 rfl ?_
    refine pr_lcmps (tgt := 788) hx hb hv d_L_law_782 d_L_law_783 (by decide) ?_
    refine lv_goto (tgt := 1218) hx hb d_L_law_788 (by decide) ?_
    exact kkk ls hP hD hS hJ' (by omega) (lv_sub hl [2, 3, 4, 5, 6] rfl)
set_option maxHeartbeats 4000000 in
set_option maxRecDepth 100000 in
theorem lw_gain {p : Program} {e : Env} {s : State} {m : MethodId} {below : List Frame} {meth : Method} {c : Code} (l : Launch) (hst : l.stackTraces = false) {bs L : Nat} {xs : Nat → Int32} (hL : L ≤ 3072) (C0 : lw_At p s m meth c bs L xs) {D : va_G} {a b9 : Nat → Nat} {cI cL cD cS cZ : ClassId} {o : Nat} {A : Nat → Prop} (hE : pn_E D cI cL cD cS s) (hEm : mn_E D cI cL cZ s) (hX : pn_X A s) (hNc : pn_Nc s) (hA : ∀ q, s.heap.size ≤ q → A q) (hbA : ¬ A bs) {H : Heap} {locs : List Loc} {ls : Array Slot} {i K S : Nat} {v : vS} {u : vM} {g : Int → Int} (hi : 6 * i + 6 ≤ L) (hP : va_P D pn_cl ((cwv a cI cL cD cS v ++ vo cL o g) ++ mwv b9 cI cL cZ u) H) (hD : va_D A ((cwv a cI cL cD cS v ++ vo cL o g) ++ mwv b9 cI cL cZ u)) (hS : va_S A s.heap H locs) (hJ : vJt v u) (hn : v.2.1 3 ≤ (i : Int)) (hl : lv_has ls 8 [(0, .ref bs), (1, .ref (a 0)), (2, .ref (b9 0)), (3, .ref o), (4, .int (iI (6 * (i : Int))))]) (hK : K + 1 ≤ 627858) (hSl : S + 6 ≤ 7212529) (kk : ∀ (v' : vS) (u' : vM) (g' : Int → Int) (H' : Heap) (locs' : List Loc) (ls' : Array Slot), va_P D pn_cl ((cwv a cI cL cD cS v' ++ vo cL o g') ++ mwv b9 cI cL cZ u') H' → va_D A ((cwv a cI cL cD cS v' ++ vo cL o g') ++ mwv b9 cI cL cZ u') → va_S A s.heap H' locs' → vJt v' u' → v'.2.1 3 ≤ (i : Int) + 1 → lv_has ls' 8 [(0, .ref bs), (1, .ref (a 0)), (2, .ref (b9 0)), (3, .ref o), (4, .int (iI (6 * (i : Int))))] → W p l e room_1 s m #[Value.ref bs] below meth c H' locs' (K + 1) (S + 6) (lw_Z below #[Value.ref bs] s) (F0 m 1218 ls' [])) : W p l e room_1 s m #[Value.ref bs] below meth c H locs K S (lw_Z below #[Value.ref bs] s) (F0 m 791 ls []) := by
  obtain ⟨nf, ns, da, be, ui, ul, cn, ss, mf, sd, pr⟩ := v
  obtain ⟨mi, ml, mz, ms⟩ := u
  have hJ : v_J nf ns da ui ul cn ss mf sd pr mi ml mz ms := hJ
  have hn : ns 3 ≤ (i : Int) := hn
  have hP : va_P D pn_cl ((cw a cI cL cD cS nf ns da be ui ul cn ss mf sd pr ++ vo cL o g) ++ mw b9 cI cL cZ mi ml mz ms) H := hP
  have hD : va_D A ((cw a cI cL cD cS nf ns da be ui ul cn ss mf sd pr ++ vo cL o g) ++ mw b9 cI cL cZ mi ml mz ms) := hD
  obtain ⟨hx, hb, hr, hml, hown, htl, hXs, hbl, hlocks, hgv⟩ := id C0
  have ht : ∀ w ∈ pn_W, w.before #[Value.ref bs] s = true := fun w h => htl w (List.mem_filter.mp h).1
  have hts : ∀ w ∈ (Cond.initialized "PressureNets" :: pn_W), w.before #[Value.ref bs] s = true := fun w h => (List.mem_cons.mp h).elim (fun q => by rw [q]; exact ht _ m_33) (ht w)
  have hKm := hEm
  obtain ⟨x0, ex⟩ : ∃ q : Int, q = (xs (6 * i + 1)).toInt := ⟨_, rfl⟩
  have gx : i3 x0 := by rw [ex]; exact i3_32 _
  refine lv_aload_n hx hb d_L_law_791 rfl (lv_at hl 1 rfl) ?_
  refine lv_aload_n hx hb d_L_law_792 rfl (lv_at hl 0 rfl) ?_
  refine lv_iload hx hb d_L_law_793 (lv_at hl 4 rfl) ?_
  refine lv_iconst (v := iI (1)) hx hb d_L_law_795 rfl ?_
  refine pr_iadd hx hb d_L_law_796 ?_
  refine pr_sld (X := x0) (n := 6 * i + 1) hx hb hXs hbl hbA hS (by omega) (by omega) hL ex d_L_law_797 ?_
  refine lv_aload_n hx hb d_L_law_798 rfl (lv_at hl 3 rfl) ?_
  refine va_calli (vx_runSW (As := [.ref (a 0), .int (iI (x0)), .ref o]) (rest := []) ⟨hx, hb, hml, hown, hts⟩ (c_L_gain l hst H.size o g x0 (v_J_ok hJ) (v_J_mono hJ _) (hJ.2.2.1.2 0 (by decide)) (v_J_hC hJ 0 (by decide)).1 (v_J_hC hJ 0 (by decide)).2.1 (v_J_hC hJ 0 (by decide)).2.2 gx) (vx_cwSW 3 hts (pn_gS2 m_493 m_494 m_32 m_495) rfl rfl rfl (by decide +kernel) ⟨Nat.le_of_ble_eq_true rfl, Nat.le_of_ble_eq_true rfl⟩) (pn_preL (vj_PL hP) (vj_DL hD) hE hX hNc hS hA) rfl rfl hl.1 rfl (lv_room (Nat.le_of_ble_eq_true rfl)) d_L_law_799 ⟨hK, hSl⟩) hS (fun q _ h => pr_all (vj_DL hD) hS hA q h) (fun q h => pr_all (vj_DL hD) hS hA q h) (fun r1 w t1 H1 locs1 ht1 hvm1 hw hB hz1 hk1 hS1 => ?_)
  obtain ⟨hP1, hD1⟩ := hB
  rw [ht1] at hP1
  obtain ⟨hP, hD⟩ := vj_app hP hD hk1 (fun q h => pr_all (vj_DL hD) hS hA q h) hP1 hD1
  clear hS hP1 hD1 hk1
  dsimp only at hP hD
  have hS := hS1
  clear hS1
  obtain ⟨w1, w2⟩ := w
  dsimp only at hP hD
  refine lv_istore (lv' := [(5, .int r1), (0, .ref bs), (1, .ref (a 0)), (2, .ref (b9 0)), (3, .ref o), (4, .int (iI (6 * (i : Int))))]) hx hb d_L_law_802 hl (by decide) rfl (fun ls hl => ?_)
  refine lv_aload_n hx hb d_L_law_804 rfl (lv_at hl 3 rfl) ?_
  refine lv_aload_n hx hb d_L_law_805 rfl (lv_at hl 1 rfl) ?_
  refine lv_iload hx hb d_L_law_806 (lv_at hl 5 rfl) ?_
  refine lv_iconst (v := iI (1)) hx hb d_L_law_808 rfl ?_
  refine pr_iadd hx hb d_L_law_809 ?_
  refine pr_sld (X := x0) (n := 6 * i + 1) hx hb hXs hbl hbA hS (by omega) (by omega) hL ex d_L_law_810 ?_
  have hP2 := vj_swP hP
  have hD2 := vj_swD hD
  refine va_calli (va_runV (As := [.int (iI (x0))]) (rest := []) ⟨hx, hb, hml, hown, hts⟩ (c_M_gain l H1.size nf ns da (ss 0) x0 (v_J_ok hJ) (v_J_R hJ) (v_J_mn hJ) (hJ.2.2.1.2 0 (by decide)) hJ.1.2.2.2.1 (v_J_mono hJ _) hJ.2.2.1.1 hJ.2.2.2.2.2.2.2.2.2.1 gx) (cwV 1 hts (pn_gV m_777 m_778 m_779 m_38 m_780) rfl rfl rfl (by decide +kernel) ⟨Nat.le_of_ble_eq_true rfl, Nat.le_of_ble_eq_true rfl⟩) (mn_preW (q0 := 0) (ci := 5) (q := (R_M, T_M, 27)) (vj_PL hP2) (vj_DL hD2) hEm rfl rfl) rfl rfl hl.1 rfl (lv_room (Nat.le_of_ble_eq_true rfl)) d_L_law_811 ⟨hK, hSl⟩) hS (fun q _ h => pr_all (vj_DL hD2) hS hA q h) (fun q h => pr_all (vj_DL hD2) hS hA q h) (fun r2 u t2 H2 locs2 ht2 hvm2 hw2 hB hz2 hk2 hS2 => ?_)
  obtain ⟨hP1, hD1⟩ := hB
  rw [ht2] at hP1
  obtain ⟨hP, hD⟩ := vj_app hP2 hD2 hk2 (fun q h => pr_all (vj_DL hD2) hS hA q h) hP1 hD1
  clear hS hP1 hD1 hk2 hP2 hD2
  dsimp only at hP hD
  have hS := hS2
  clear hS2
  obtain ⟨k, hk3, rfl, hms, hval, hJ', hn'⟩ := j_gain hJ (show ns 3 < 512 by omega) hw hw2
  dsimp only at hms hval hJ' hn'
  obtain ⟨mi2, ml2, mz2, ms2⟩ := u
  dsimp only at hP hD hms
  have hPm := vj_PL hP
  have hP := vj_swP hP
  have hD := vj_swD hD
  refine lv_istore (lv' := [(6, .int r2), (5, .int (iI k)), (0, .ref bs), (1, .ref (a 0)), (2, .ref (b9 0)), (3, .ref o), (4, .int (iI (6 * (i : Int))))]) hx hb d_L_law_814 hl (by decide) rfl (fun ls hl => ?_)
  refine lv_aload_n hx hb d_L_law_816 rfl (lv_at hl 4 rfl) ?_
  refine pr_pi (va_runV (As := []) (rest := []) ⟨hx, hb, hml, hown, hts⟩ (c_M_thrown l) (cwV 0 hts (pn_gV m_673 m_674 m_675 m_38 m_676) rfl rfl rfl (by decide +kernel) ⟨Nat.le_of_ble_eq_true rfl, Nat.le_of_ble_eq_true rfl⟩) (mn_preV (q0 := 0) (ci := 5) (q := (R_M, T_M, 27)) hPm hEm rfl rfl) rfl rfl hl.1 rfl (lv_room (Nat.le_of_ble_eq_true rfl)) d_L_law_817 ⟨hK, hSl⟩) ?_
  rw [hms]
  refine lv_iload hx hb d_L_law_820 (lv_at hl 1 rfl) ?_
  refine lv_icmp_eq (tgt := 827) hx hb d_L_law_822 (by decide) (fun c9 => ?_) (fun c9 => absurd rfl c9)
  refine lv_iload hx hb d_L_law_827 (lv_at hl 1 rfl) ?_
  have kkk := kk w1 (mi2, ml2, mz2, ms2) w2 H2 locs2
  refine lv_if_ne (tgt := 844) hx hb d_L_law_829 (by decide) (fun c9 => ?_) (fun c9 => ?_)
  · skip
    refine lv_goto (tgt := 1218) hx hb d_L_law_844 (by decide) ?_
    exact kkk ls hP hD hS hJ' (by omega) (lv_sub hl [2, 3, 4, 5, 6] rfl)
  · have k0 : k = 0 := by rcases hk3 with h | h | h; exact h; rw [h] at c9; exact absurd c9 (by decide); rw [h] at c9; exact absurd c9 (by decide)
    have hv := hval k0
    refine lv_aload_n hx hb d_L_law_832 rfl (lv_at hl 5 rfl) ?_
    refine lv_iconst (v := iI (0)) hx hb d_L_law_833 rfl ?_
    refine pr_lald hx hb hE.1 hP 54 1 rfl rfl (by decide) (by decide) (by decide) d_L_law_834 ?_
    refine lv_iload hx hb d_L_law_835 (lv_at hl 0 rfl) ?_
    refine lv_i2l (v := r2.toInt64) hx hb d_L_law_837 rfl ?_
    refine pr_lcmps (tgt := 844) hx hb hv d_L_law_838 d_L_law_839 (by decide) ?_
    refine lv_goto (tgt := 1218) hx hb d_L_law_844 (by decide) ?_
    exact kkk ls hP hD hS hJ' (by omega) (lv_sub hl [2, 3, 4, 5, 6] rfl)
set_option maxHeartbeats 4000000 in
set_option maxRecDepth 100000 in
theorem lw_caseOf {p : Program} {e : Env} {s : State} {m : MethodId} {below : List Frame} {meth : Method} {c : Code} (l : Launch) (hst : l.stackTraces = false) {bs L : Nat} {xs : Nat → Int32} (hL : L ≤ 3072) (C0 : lw_At p s m meth c bs L xs) {D : va_G} {a b9 : Nat → Nat} {cI cL cD cS cZ : ClassId} {o : Nat} {A : Nat → Prop} (hE : pn_E D cI cL cD cS s) (hEm : mn_E D cI cL cZ s) (hX : pn_X A s) (hNc : pn_Nc s) (hA : ∀ q, s.heap.size ≤ q → A q) (hbA : ¬ A bs) {H : Heap} {locs : List Loc} {ls : Array Slot} {i K S : Nat} {v : vS} {u : vM} {g : Int → Int} (hi : 6 * i + 6 ≤ L) (hP : va_P D pn_cl ((cwv a cI cL cD cS v ++ vo cL o g) ++ mwv b9 cI cL cZ u) H) (hD : va_D A ((cwv a cI cL cD cS v ++ vo cL o g) ++ mwv b9 cI cL cZ u)) (hS : va_S A s.heap H locs) (hJ : vJt v u) (hn : v.2.1 3 ≤ (i : Int)) (hl : lv_has ls 8 [(0, .ref bs), (1, .ref (a 0)), (2, .ref (b9 0)), (3, .ref o), (4, .int (iI (6 * (i : Int))))]) (hK : K + 1 ≤ 627858) (hSl : S + 6 ≤ 7212529) (kk : ∀ (v' : vS) (u' : vM) (g' : Int → Int) (H' : Heap) (locs' : List Loc) (ls' : Array Slot), va_P D pn_cl ((cwv a cI cL cD cS v' ++ vo cL o g') ++ mwv b9 cI cL cZ u') H' → va_D A ((cwv a cI cL cD cS v' ++ vo cL o g') ++ mwv b9 cI cL cZ u') → va_S A s.heap H' locs' → vJt v' u' → v'.2.1 3 ≤ (i : Int) + 1 → lv_has ls' 8 [(0, .ref bs), (1, .ref (a 0)), (2, .ref (b9 0)), (3, .ref o), (4, .int (iI (6 * (i : Int))))] → W p l e room_1 s m #[Value.ref bs] below meth c H' locs' (K + 1) (S + 6) (lw_Z below #[Value.ref bs] s) (F0 m 1218 ls' [])) : W p l e room_1 s m #[Value.ref bs] below meth c H locs K S (lw_Z below #[Value.ref bs] s) (F0 m 847 ls []) := by
  obtain ⟨nf, ns, da, be, ui, ul, cn, ss, mf, sd, pr⟩ := v
  obtain ⟨mi, ml, mz, ms⟩ := u
  have hJ : v_J nf ns da ui ul cn ss mf sd pr mi ml mz ms := hJ
  have hn : ns 3 ≤ (i : Int) := hn
  have hP : va_P D pn_cl ((cw a cI cL cD cS nf ns da be ui ul cn ss mf sd pr ++ vo cL o g) ++ mw b9 cI cL cZ mi ml mz ms) H := hP
  have hD : va_D A ((cw a cI cL cD cS nf ns da be ui ul cn ss mf sd pr ++ vo cL o g) ++ mw b9 cI cL cZ mi ml mz ms) := hD
  obtain ⟨hx, hb, hr, hml, hown, htl, hXs, hbl, hlocks, hgv⟩ := id C0
  have ht : ∀ w ∈ pn_W, w.before #[Value.ref bs] s = true := fun w h => htl w (List.mem_filter.mp h).1
  have hts : ∀ w ∈ (Cond.initialized "PressureNets" :: pn_W), w.before #[Value.ref bs] s = true := fun w h => (List.mem_cons.mp h).elim (fun q => by rw [q]; exact ht _ m_33) (ht w)
  have hKm := hEm
  obtain ⟨x0, ex⟩ : ∃ q : Int, q = (xs (6 * i + 1)).toInt := ⟨_, rfl⟩
  have gx : i3 x0 := by rw [ex]; exact i3_32 _
  refine lv_aload_n hx hb d_L_law_847 rfl (lv_at hl 1 rfl) ?_
  refine lv_aload_n hx hb d_L_law_848 rfl (lv_at hl 0 rfl) ?_
  refine lv_iload hx hb d_L_law_849 (lv_at hl 4 rfl) ?_
  refine lv_iconst (v := iI (1)) hx hb d_L_law_851 rfl ?_
  refine pr_iadd hx hb d_L_law_852 ?_
  refine pr_sld (X := x0) (n := 6 * i + 1) hx hb hXs hbl hbA hS (by omega) (by omega) hL ex d_L_law_853 ?_
  refine lv_aload_n hx hb d_L_law_854 rfl (lv_at hl 3 rfl) ?_
  refine va_calli (vx_runSW (As := [.ref (a 0), .int (iI (x0)), .ref o]) (rest := []) ⟨hx, hb, hml, hown, hts⟩ (c_L_caseOf l hst H.size o g x0 (v_J_ok hJ) hJ.2.1 gx) (vx_cwSW 3 hts (pn_gS2 m_501 m_502 m_32 m_503) rfl rfl rfl (by decide +kernel) ⟨Nat.le_of_ble_eq_true rfl, Nat.le_of_ble_eq_true rfl⟩) (pn_preL (vj_PL hP) (vj_DL hD) hE hX hNc hS hA) rfl rfl hl.1 rfl (lv_room (Nat.le_of_ble_eq_true rfl)) d_L_law_855 ⟨hK, hSl⟩) hS (fun q _ h => pr_all (vj_DL hD) hS hA q h) (fun q h => pr_all (vj_DL hD) hS hA q h) (fun r1 w t1 H1 locs1 ht1 hvm1 hw hB hz1 hk1 hS1 => ?_)
  obtain ⟨hP1, hD1⟩ := hB
  rw [ht1] at hP1
  obtain ⟨hP, hD⟩ := vj_app hP hD hk1 (fun q h => pr_all (vj_DL hD) hS hA q h) hP1 hD1
  clear hS hP1 hD1 hk1
  dsimp only at hP hD
  have hS := hS1
  clear hS1
  obtain ⟨w1, w2⟩ := w
  dsimp only at hP hD
  refine lv_istore (lv' := [(5, .int r1), (0, .ref bs), (1, .ref (a 0)), (2, .ref (b9 0)), (3, .ref o), (4, .int (iI (6 * (i : Int))))]) hx hb d_L_law_858 hl (by decide) rfl (fun ls hl => ?_)
  refine lv_aload_n hx hb d_L_law_860 rfl (lv_at hl 3 rfl) ?_
  refine lv_aload_n hx hb d_L_law_861 rfl (lv_at hl 1 rfl) ?_
  refine lv_iload hx hb d_L_law_862 (lv_at hl 5 rfl) ?_
  refine lv_iconst (v := iI (1)) hx hb d_L_law_864 rfl ?_
  refine pr_iadd hx hb d_L_law_865 ?_
  refine pr_sld (X := x0) (n := 6 * i + 1) hx hb hXs hbl hbA hS (by omega) (by omega) hL ex d_L_law_866 ?_
  have hP2 := vj_swP hP
  have hD2 := vj_swD hD
  refine va_calli (va_runV (As := [.int (iI (x0))]) (rest := []) ⟨hx, hb, hml, hown, hts⟩ (c_M_caseOf l H1.size nf ns da x0 (v_J_ok hJ) (v_J_R hJ) (v_J_mn hJ) gx) (cwV 1 hts (pn_gV m_785 m_786 m_787 m_38 m_788) rfl rfl rfl (by decide +kernel) ⟨Nat.le_of_ble_eq_true rfl, Nat.le_of_ble_eq_true rfl⟩) (mn_preW (q0 := 0) (ci := 5) (q := (R_M, T_M, 27)) (vj_PL hP2) (vj_DL hD2) hEm rfl rfl) rfl rfl hl.1 rfl (lv_room (Nat.le_of_ble_eq_true rfl)) d_L_law_867 ⟨hK, hSl⟩) hS (fun q _ h => pr_all (vj_DL hD2) hS hA q h) (fun q h => pr_all (vj_DL hD2) hS hA q h) (fun r2 u t2 H2 locs2 ht2 hvm2 hw2 hB hz2 hk2 hS2 => ?_)
  obtain ⟨hP1, hD1⟩ := hB
  rw [ht2] at hP1
  obtain ⟨hP, hD⟩ := vj_app hP2 hD2 hk2 (fun q h => pr_all (vj_DL hD2) hS hA q h) hP1 hD1
  clear hS hP1 hD1 hk2 hP2 hD2
  dsimp only at hP hD
  have hS := hS2
  clear hS2
  obtain ⟨k, hk3, rfl, hms, hval, hJ', hn'⟩ := j_caseOf hJ (show ns 3 < 512 by omega) hw hw2
  dsimp only at hms hval hJ' hn'
  obtain ⟨mi2, ml2, mz2, ms2⟩ := u
  dsimp only at hP hD hms
  have hPm := vj_PL hP
  have hP := vj_swP hP
  have hD := vj_swD hD
  refine lv_istore (lv' := [(6, .int r2), (5, .int (iI k)), (0, .ref bs), (1, .ref (a 0)), (2, .ref (b9 0)), (3, .ref o), (4, .int (iI (6 * (i : Int))))]) hx hb d_L_law_870 hl (by decide) rfl (fun ls hl => ?_)
  refine lv_aload_n hx hb d_L_law_872 rfl (lv_at hl 4 rfl) ?_
  refine pr_pi (va_runV (As := []) (rest := []) ⟨hx, hb, hml, hown, hts⟩ (c_M_thrown l) (cwV 0 hts (pn_gV m_673 m_674 m_675 m_38 m_676) rfl rfl rfl (by decide +kernel) ⟨Nat.le_of_ble_eq_true rfl, Nat.le_of_ble_eq_true rfl⟩) (mn_preV (q0 := 0) (ci := 5) (q := (R_M, T_M, 27)) hPm hEm rfl rfl) rfl rfl hl.1 rfl (lv_room (Nat.le_of_ble_eq_true rfl)) d_L_law_873 ⟨hK, hSl⟩) ?_
  rw [hms]
  refine lv_iload hx hb d_L_law_876 (lv_at hl 1 rfl) ?_
  refine lv_icmp_eq (tgt := 883) hx hb d_L_law_878 (by decide) (fun c9 => ?_) (fun c9 => absurd rfl c9)
  refine lv_iload hx hb d_L_law_883 (lv_at hl 1 rfl) ?_
  have kkk := kk w1 (mi2, ml2, mz2, ms2) w2 H2 locs2
  refine lv_if_ne (tgt := 900) hx hb d_L_law_885 (by decide) (fun c9 => ?_) (fun c9 => ?_)
  · skip
    refine lv_goto (tgt := 1218) hx hb d_L_law_900 (by decide) ?_
    exact kkk ls hP hD hS hJ' (by omega) (lv_sub hl [2, 3, 4, 5, 6] rfl)
  · have k0 : k = 0 := by rcases hk3 with h | h | h; exact h; rw [h] at c9; exact absurd c9 (by decide); rw [h] at c9; exact absurd c9 (by decide)
    have hv := hval k0
    refine lv_aload_n hx hb d_L_law_888 rfl (lv_at hl 5 rfl) ?_
    refine lv_iconst (v := iI (0)) hx hb d_L_law_889 rfl ?_
    refine pr_lald hx hb hE.1 hP 54 1 rfl rfl (by decide) (by decide) (by decide) d_L_law_890 ?_
    refine lv_iload hx hb d_L_law_891 (lv_at hl 0 rfl) ?_
    refine lv_i2l (v := r2.toInt64) hx hb d_L_law_893 rfl ?_
    refine pr_lcmps (tgt := 900) hx hb hv d_L_law_894 d_L_law_895 (by decide) ?_
    refine lv_goto (tgt := 1218) hx hb d_L_law_900 (by decide) ?_
    exact kkk ls hP hD hS hJ' (by omega) (lv_sub hl [2, 3, 4, 5, 6] rfl)
set_option maxHeartbeats 4000000 in
set_option maxRecDepth 100000 in
theorem lw_worst {p : Program} {e : Env} {s : State} {m : MethodId} {below : List Frame} {meth : Method} {c : Code} (l : Launch) (hst : l.stackTraces = false) {bs L : Nat} {xs : Nat → Int32} (hL : L ≤ 3072) (C0 : lw_At p s m meth c bs L xs) {D : va_G} {a b9 : Nat → Nat} {cI cL cD cS cZ : ClassId} {o : Nat} {A : Nat → Prop} (hE : pn_E D cI cL cD cS s) (hEm : mn_E D cI cL cZ s) (hX : pn_X A s) (hNc : pn_Nc s) (hA : ∀ q, s.heap.size ≤ q → A q) (hbA : ¬ A bs) {H : Heap} {locs : List Loc} {ls : Array Slot} {i K S : Nat} {v : vS} {u : vM} {g : Int → Int} (hi : 6 * i + 6 ≤ L) (hP : va_P D pn_cl ((cwv a cI cL cD cS v ++ vo cL o g) ++ mwv b9 cI cL cZ u) H) (hD : va_D A ((cwv a cI cL cD cS v ++ vo cL o g) ++ mwv b9 cI cL cZ u)) (hS : va_S A s.heap H locs) (hJ : vJt v u) (hn : v.2.1 3 ≤ (i : Int)) (hl : lv_has ls 8 [(0, .ref bs), (1, .ref (a 0)), (2, .ref (b9 0)), (3, .ref o), (4, .int (iI (6 * (i : Int))))]) (hK : K + 1 ≤ 627858) (hSl : S + 6 ≤ 7212529) (kk : ∀ (v' : vS) (u' : vM) (g' : Int → Int) (H' : Heap) (locs' : List Loc) (ls' : Array Slot), va_P D pn_cl ((cwv a cI cL cD cS v' ++ vo cL o g') ++ mwv b9 cI cL cZ u') H' → va_D A ((cwv a cI cL cD cS v' ++ vo cL o g') ++ mwv b9 cI cL cZ u') → va_S A s.heap H' locs' → vJt v' u' → v'.2.1 3 ≤ (i : Int) + 1 → lv_has ls' 8 [(0, .ref bs), (1, .ref (a 0)), (2, .ref (b9 0)), (3, .ref o), (4, .int (iI (6 * (i : Int))))] → W p l e room_1 s m #[Value.ref bs] below meth c H' locs' (K + 1) (S + 6) (lw_Z below #[Value.ref bs] s) (F0 m 1218 ls' [])) : W p l e room_1 s m #[Value.ref bs] below meth c H locs K S (lw_Z below #[Value.ref bs] s) (F0 m 903 ls []) := by
  obtain ⟨nf, ns, da, be, ui, ul, cn, ss, mf, sd, pr⟩ := v
  obtain ⟨mi, ml, mz, ms⟩ := u
  have hJ : v_J nf ns da ui ul cn ss mf sd pr mi ml mz ms := hJ
  have hn : ns 3 ≤ (i : Int) := hn
  have hP : va_P D pn_cl ((cw a cI cL cD cS nf ns da be ui ul cn ss mf sd pr ++ vo cL o g) ++ mw b9 cI cL cZ mi ml mz ms) H := hP
  have hD : va_D A ((cw a cI cL cD cS nf ns da be ui ul cn ss mf sd pr ++ vo cL o g) ++ mw b9 cI cL cZ mi ml mz ms) := hD
  obtain ⟨hx, hb, hr, hml, hown, htl, hXs, hbl, hlocks, hgv⟩ := id C0
  have ht : ∀ w ∈ pn_W, w.before #[Value.ref bs] s = true := fun w h => htl w (List.mem_filter.mp h).1
  have hts : ∀ w ∈ (Cond.initialized "PressureNets" :: pn_W), w.before #[Value.ref bs] s = true := fun w h => (List.mem_cons.mp h).elim (fun q => by rw [q]; exact ht _ m_33) (ht w)
  have hKm := hEm
  obtain ⟨x0, ex⟩ : ∃ q : Int, q = (xs (6 * i + 1)).toInt := ⟨_, rfl⟩
  have gx : i3 x0 := by rw [ex]; exact i3_32 _
  obtain ⟨y0, ey⟩ : ∃ q : Int, q = (xs (6 * i + 2)).toInt := ⟨_, rfl⟩
  have gy : i3 y0 := by rw [ey]; exact i3_32 _
  refine lv_aload_n hx hb d_L_law_903 rfl (lv_at hl 1 rfl) ?_
  refine lv_aload_n hx hb d_L_law_904 rfl (lv_at hl 0 rfl) ?_
  refine lv_iload hx hb d_L_law_905 (lv_at hl 4 rfl) ?_
  refine lv_iconst (v := iI (1)) hx hb d_L_law_907 rfl ?_
  refine pr_iadd hx hb d_L_law_908 ?_
  refine pr_sld (X := x0) (n := 6 * i + 1) hx hb hXs hbl hbA hS (by omega) (by omega) hL ex d_L_law_909 ?_
  refine lv_aload_n hx hb d_L_law_910 rfl (lv_at hl 0 rfl) ?_
  refine lv_iload hx hb d_L_law_911 (lv_at hl 4 rfl) ?_
  refine lv_iconst (v := iI (2)) hx hb d_L_law_913 rfl ?_
  refine pr_iadd hx hb d_L_law_914 ?_
  refine pr_sld (X := y0) (n := 6 * i + 2) hx hb hXs hbl hbA hS (by omega) (by omega) hL ey d_L_law_915 ?_
  refine lv_aload_n hx hb d_L_law_916 rfl (lv_at hl 3 rfl) ?_
  refine va_calli (vx_runSW (As := [.ref (a 0), .int (iI (x0)), .int (iI (y0)), .ref o]) (rest := []) ⟨hx, hb, hml, hown, hts⟩ (c_L_worst l hst H.size o g x0 y0 (v_J_ok hJ) (v_J_mono hJ) hJ.2.2.1.2 hJ.2.1 hJ.2.2.2.1 hJ.1.2.2.2.2.1 gx gy) (vx_cwSW 4 hts (pn_gS2 m_508 m_509 m_32 m_510) rfl rfl rfl (by decide +kernel) ⟨Nat.le_of_ble_eq_true rfl, Nat.le_of_ble_eq_true rfl⟩) (pn_preL (vj_PL hP) (vj_DL hD) hE hX hNc hS hA) rfl rfl hl.1 rfl (lv_room (Nat.le_of_ble_eq_true rfl)) d_L_law_917 ⟨hK, hSl⟩) hS (fun q _ h => pr_all (vj_DL hD) hS hA q h) (fun q h => pr_all (vj_DL hD) hS hA q h) (fun r1 w t1 H1 locs1 ht1 hvm1 hw hB hz1 hk1 hS1 => ?_)
  obtain ⟨hP1, hD1⟩ := hB
  rw [ht1] at hP1
  obtain ⟨hP, hD⟩ := vj_app hP hD hk1 (fun q h => pr_all (vj_DL hD) hS hA q h) hP1 hD1
  clear hS hP1 hD1 hk1
  dsimp only at hP hD
  have hS := hS1
  clear hS1
  obtain ⟨w1, w2⟩ := w
  dsimp only at hP hD
  refine lv_istore (lv' := [(5, .int r1), (0, .ref bs), (1, .ref (a 0)), (2, .ref (b9 0)), (3, .ref o), (4, .int (iI (6 * (i : Int))))]) hx hb d_L_law_920 hl (by decide) rfl (fun ls hl => ?_)
  refine lv_aload_n hx hb d_L_law_922 rfl (lv_at hl 3 rfl) ?_
  refine lv_aload_n hx hb d_L_law_923 rfl (lv_at hl 1 rfl) ?_
  refine lv_iload hx hb d_L_law_924 (lv_at hl 5 rfl) ?_
  refine lv_iconst (v := iI (1)) hx hb d_L_law_926 rfl ?_
  refine pr_iadd hx hb d_L_law_927 ?_
  refine pr_sld (X := x0) (n := 6 * i + 1) hx hb hXs hbl hbA hS (by omega) (by omega) hL ex d_L_law_928 ?_
  refine lv_aload_n hx hb d_L_law_929 rfl (lv_at hl 1 rfl) ?_
  refine lv_iload hx hb d_L_law_930 (lv_at hl 5 rfl) ?_
  refine lv_iconst (v := iI (2)) hx hb d_L_law_932 rfl ?_
  refine pr_iadd hx hb d_L_law_933 ?_
  refine pr_sld (X := y0) (n := 6 * i + 2) hx hb hXs hbl hbA hS (by omega) (by omega) hL ey d_L_law_934 ?_
  have hP2 := vj_swP hP
  have hD2 := vj_swD hD
  refine va_calli (va_runV (As := [.int (iI (x0)), .int (iI (y0))]) (rest := []) ⟨hx, hb, hml, hown, hts⟩ (c_M_worst l H1.size nf ns da x0 y0 (v_J_ok hJ) (v_J_R hJ) (v_J_mn hJ) hJ.1.2.2.2.1 (v_J_mono hJ) hJ.1.2.2.2.2.1 (fun c => ss (c + 1)) (v_J_T hJ) gx gy) (cwV 2 hts (pn_gV m_789 m_790 m_791 m_38 m_792) rfl rfl rfl (by decide +kernel) ⟨Nat.le_of_ble_eq_true rfl, Nat.le_of_ble_eq_true rfl⟩) (mn_preW (q0 := 0) (ci := 5) (q := (R_M, T_M, 27)) (vj_PL hP2) (vj_DL hD2) hEm rfl rfl) rfl rfl hl.1 rfl (lv_room (Nat.le_of_ble_eq_true rfl)) d_L_law_935 ⟨hK, hSl⟩) hS (fun q _ h => pr_all (vj_DL hD2) hS hA q h) (fun q h => pr_all (vj_DL hD2) hS hA q h) (fun r2 u t2 H2 locs2 ht2 hvm2 hw2 hB hz2 hk2 hS2 => ?_)
  obtain ⟨hP1, hD1⟩ := hB
  rw [ht2] at hP1
  obtain ⟨hP, hD⟩ := vj_app hP2 hD2 hk2 (fun q h => pr_all (vj_DL hD2) hS hA q h) hP1 hD1
  clear hS hP1 hD1 hk2 hP2 hD2
  dsimp only at hP hD
  have hS := hS2
  clear hS2
  obtain ⟨k, hk3, rfl, hms, hval, hJ', hn'⟩ := j_worst hJ (show ns 3 < 512 by omega) hw hw2
  dsimp only at hms hval hJ' hn'
  obtain ⟨mi2, ml2, mz2, ms2⟩ := u
  dsimp only at hP hD hms
  have hPm := vj_PL hP
  have hP := vj_swP hP
  have hD := vj_swD hD
  refine lv_istore (lv' := [(6, .int r2), (5, .int (iI k)), (0, .ref bs), (1, .ref (a 0)), (2, .ref (b9 0)), (3, .ref o), (4, .int (iI (6 * (i : Int))))]) hx hb d_L_law_938 hl (by decide) rfl (fun ls hl => ?_)
  refine lv_aload_n hx hb d_L_law_940 rfl (lv_at hl 4 rfl) ?_
  refine pr_pi (va_runV (As := []) (rest := []) ⟨hx, hb, hml, hown, hts⟩ (c_M_thrown l) (cwV 0 hts (pn_gV m_673 m_674 m_675 m_38 m_676) rfl rfl rfl (by decide +kernel) ⟨Nat.le_of_ble_eq_true rfl, Nat.le_of_ble_eq_true rfl⟩) (mn_preV (q0 := 0) (ci := 5) (q := (R_M, T_M, 27)) hPm hEm rfl rfl) rfl rfl hl.1 rfl (lv_room (Nat.le_of_ble_eq_true rfl)) d_L_law_941 ⟨hK, hSl⟩) ?_
  rw [hms]
  refine lv_iload hx hb d_L_law_944 (lv_at hl 1 rfl) ?_
  refine lv_icmp_eq (tgt := 951) hx hb d_L_law_946 (by decide) (fun c9 => ?_) (fun c9 => absurd rfl c9)
  refine lv_iload hx hb d_L_law_951 (lv_at hl 1 rfl) ?_
  have kkk := kk w1 (mi2, ml2, mz2, ms2) w2 H2 locs2
  refine lv_if_ne (tgt := 968) hx hb d_L_law_953 (by decide) (fun c9 => ?_) (fun c9 => ?_)
  · skip
    refine lv_goto (tgt := 1218) hx hb d_L_law_968 (by decide) ?_
    exact kkk ls hP hD hS hJ' (by omega) (lv_sub hl [2, 3, 4, 5, 6] rfl)
  · have k0 : k = 0 := by rcases hk3 with h | h | h; exact h; rw [h] at c9; exact absurd c9 (by decide); rw [h] at c9; exact absurd c9 (by decide)
    have hv := hval k0
    refine lv_aload_n hx hb d_L_law_956 rfl (lv_at hl 5 rfl) ?_
    refine lv_iconst (v := iI (0)) hx hb d_L_law_957 rfl ?_
    refine pr_lald hx hb hE.1 hP 54 1 rfl rfl (by decide) (by decide) (by decide) d_L_law_958 ?_
    refine lv_iload hx hb d_L_law_959 (lv_at hl 0 rfl) ?_
    refine lv_i2l (v := r2.toInt64) hx hb d_L_law_961 rfl ?_
    refine pr_lcmps (tgt := 968) hx hb hv d_L_law_962 d_L_law_963 (by decide) ?_
    refine lv_goto (tgt := 1218) hx hb d_L_law_968 (by decide) ?_
    exact kkk ls hP hD hS hJ' (by omega) (lv_sub hl [2, 3, 4, 5, 6] rfl)
set_option maxHeartbeats 4000000 in
set_option maxRecDepth 100000 in
theorem lw_put {p : Program} {e : Env} {s : State} {m : MethodId} {below : List Frame} {meth : Method} {c : Code} (l : Launch) (hst : l.stackTraces = false) {bs L : Nat} {xs : Nat → Int32} (hL : L ≤ 3072) (C0 : lw_At p s m meth c bs L xs) {D : va_G} {a b9 : Nat → Nat} {cI cL cD cS cZ : ClassId} {o : Nat} {A : Nat → Prop} (hE : pn_E D cI cL cD cS s) (hEm : mn_E D cI cL cZ s) (hX : pn_X A s) (hNc : pn_Nc s) (hA : ∀ q, s.heap.size ≤ q → A q) (hbA : ¬ A bs) {H : Heap} {locs : List Loc} {ls : Array Slot} {i K S : Nat} {v : vS} {u : vM} {g : Int → Int} (hi : 6 * i + 6 ≤ L) (hP : va_P D pn_cl ((cwv a cI cL cD cS v ++ vo cL o g) ++ mwv b9 cI cL cZ u) H) (hD : va_D A ((cwv a cI cL cD cS v ++ vo cL o g) ++ mwv b9 cI cL cZ u)) (hS : va_S A s.heap H locs) (hJ : vJt v u) (hn : v.2.1 3 ≤ (i : Int)) (hl : lv_has ls 8 [(0, .ref bs), (1, .ref (a 0)), (2, .ref (b9 0)), (3, .ref o), (4, .int (iI (6 * (i : Int))))]) (hK : K + 1 ≤ 627858) (hSl : S + 6 ≤ 7212529) (kk : ∀ (v' : vS) (u' : vM) (g' : Int → Int) (H' : Heap) (locs' : List Loc) (ls' : Array Slot), va_P D pn_cl ((cwv a cI cL cD cS v' ++ vo cL o g') ++ mwv b9 cI cL cZ u') H' → va_D A ((cwv a cI cL cD cS v' ++ vo cL o g') ++ mwv b9 cI cL cZ u') → va_S A s.heap H' locs' → vJt v' u' → v'.2.1 3 ≤ (i : Int) + 1 → lv_has ls' 8 [(0, .ref bs), (1, .ref (a 0)), (2, .ref (b9 0)), (3, .ref o), (4, .int (iI (6 * (i : Int))))] → W p l e room_1 s m #[Value.ref bs] below meth c H' locs' (K + 1) (S + 6) (lw_Z below #[Value.ref bs] s) (F0 m 1218 ls' [])) : W p l e room_1 s m #[Value.ref bs] below meth c H locs K S (lw_Z below #[Value.ref bs] s) (F0 m 971 ls []) := by
  obtain ⟨nf, ns, da, be, ui, ul, cn, ss, mf, sd, pr⟩ := v
  obtain ⟨mi, ml, mz, ms⟩ := u
  have hJ : v_J nf ns da ui ul cn ss mf sd pr mi ml mz ms := hJ
  have hn : ns 3 ≤ (i : Int) := hn
  have hP : va_P D pn_cl ((cw a cI cL cD cS nf ns da be ui ul cn ss mf sd pr ++ vo cL o g) ++ mw b9 cI cL cZ mi ml mz ms) H := hP
  have hD : va_D A ((cw a cI cL cD cS nf ns da be ui ul cn ss mf sd pr ++ vo cL o g) ++ mw b9 cI cL cZ mi ml mz ms) := hD
  obtain ⟨hx, hb, hr, hml, hown, htl, hXs, hbl, hlocks, hgv⟩ := id C0
  have ht : ∀ w ∈ pn_W, w.before #[Value.ref bs] s = true := fun w h => htl w (List.mem_filter.mp h).1
  have hts : ∀ w ∈ (Cond.initialized "PressureNets" :: pn_W), w.before #[Value.ref bs] s = true := fun w h => (List.mem_cons.mp h).elim (fun q => by rw [q]; exact ht _ m_33) (ht w)
  have hKm := hEm
  obtain ⟨x0, ex⟩ : ∃ q : Int, q = (xs (6 * i + 1)).toInt := ⟨_, rfl⟩
  have gx : i3 x0 := by rw [ex]; exact i3_32 _
  obtain ⟨y0, ey⟩ : ∃ q : Int, q = (xs (6 * i + 2)).toInt := ⟨_, rfl⟩
  have gy : i3 y0 := by rw [ey]; exact i3_32 _
  refine lv_aload_n hx hb d_L_law_971 rfl (lv_at hl 1 rfl) ?_
  refine lv_aload_n hx hb d_L_law_972 rfl (lv_at hl 0 rfl) ?_
  refine lv_iload hx hb d_L_law_973 (lv_at hl 4 rfl) ?_
  refine lv_iconst (v := iI (1)) hx hb d_L_law_975 rfl ?_
  refine pr_iadd hx hb d_L_law_976 ?_
  refine pr_sld (X := x0) (n := 6 * i + 1) hx hb hXs hbl hbA hS (by omega) (by omega) hL ex d_L_law_977 ?_
  refine lv_aload_n hx hb d_L_law_978 rfl (lv_at hl 0 rfl) ?_
  refine lv_iload hx hb d_L_law_979 (lv_at hl 4 rfl) ?_
  refine lv_iconst (v := iI (2)) hx hb d_L_law_981 rfl ?_
  refine pr_iadd hx hb d_L_law_982 ?_
  refine pr_sld (X := y0) (n := 6 * i + 2) hx hb hXs hbl hbA hS (by omega) (by omega) hL ey d_L_law_983 ?_
  refine lv_aload_n hx hb d_L_law_984 rfl (lv_at hl 3 rfl) ?_
  refine va_calli (vx_runSW (As := [.ref (a 0), .int (iI (x0)), .int (iI (y0)), .ref o]) (rest := []) ⟨hx, hb, hml, hown, hts⟩ (c_L_put l hst H.size o g x0 y0 (v_J_ok hJ) hJ.2.2.2.2.1.1 gx gy) (vx_cwSW 4 hts (pn_gS2 m_515 m_516 m_32 m_517) rfl rfl rfl (by decide +kernel) ⟨Nat.le_of_ble_eq_true rfl, Nat.le_of_ble_eq_true rfl⟩) (pn_preL (vj_PL hP) (vj_DL hD) hE hX hNc hS hA) rfl rfl hl.1 rfl (lv_room (Nat.le_of_ble_eq_true rfl)) d_L_law_985 ⟨hK, hSl⟩) hS (fun q _ h => pr_all (vj_DL hD) hS hA q h) (fun q h => pr_all (vj_DL hD) hS hA q h) (fun r1 w t1 H1 locs1 ht1 hvm1 hw hB hz1 hk1 hS1 => ?_)
  obtain ⟨hP1, hD1⟩ := hB
  rw [ht1] at hP1
  obtain ⟨hP, hD⟩ := vj_app hP hD hk1 (fun q h => pr_all (vj_DL hD) hS hA q h) hP1 hD1
  clear hS hP1 hD1 hk1
  dsimp only at hP hD
  have hS := hS1
  clear hS1
  obtain ⟨w1, w2⟩ := w
  dsimp only at hP hD
  refine lv_istore (lv' := [(5, .int r1), (0, .ref bs), (1, .ref (a 0)), (2, .ref (b9 0)), (3, .ref o), (4, .int (iI (6 * (i : Int))))]) hx hb d_L_law_988 hl (by decide) rfl (fun ls hl => ?_)
  refine lv_aload_n hx hb d_L_law_990 rfl (lv_at hl 3 rfl) ?_
  refine lv_aload_n hx hb d_L_law_991 rfl (lv_at hl 1 rfl) ?_
  refine lv_iload hx hb d_L_law_992 (lv_at hl 5 rfl) ?_
  refine lv_iconst (v := iI (1)) hx hb d_L_law_994 rfl ?_
  refine pr_iadd hx hb d_L_law_995 ?_
  refine pr_sld (X := x0) (n := 6 * i + 1) hx hb hXs hbl hbA hS (by omega) (by omega) hL ex d_L_law_996 ?_
  refine lv_aload_n hx hb d_L_law_997 rfl (lv_at hl 1 rfl) ?_
  refine lv_iload hx hb d_L_law_998 (lv_at hl 5 rfl) ?_
  refine lv_iconst (v := iI (2)) hx hb d_L_law_1000 rfl ?_
  refine pr_iadd hx hb d_L_law_1001 ?_
  refine pr_sld (X := y0) (n := 6 * i + 2) hx hb hXs hbl hbA hS (by omega) (by omega) hL ey d_L_law_1002 ?_
  have hP2 := vj_swP hP
  have hD2 := vj_swD hD
  refine va_calli (va_runV (As := [.int (iI (x0)), .int (iI (y0))]) (rest := []) ⟨hx, hb, hml, hown, hts⟩ (c_M_put l H1.size nf ns da x0 y0 (v_J_ok hJ) (v_J_R hJ) (v_J_mn hJ) (v_J_hh hJ) gx gy) (cwV 2 hts (pn_gV m_794 m_795 m_796 m_38 m_797) rfl rfl rfl (by decide +kernel) ⟨Nat.le_of_ble_eq_true rfl, Nat.le_of_ble_eq_true rfl⟩) (mn_preW (q0 := 0) (ci := 5) (q := (R_M, T_M, 27)) (vj_PL hP2) (vj_DL hD2) hEm rfl rfl) rfl rfl hl.1 rfl (lv_room (Nat.le_of_ble_eq_true rfl)) d_L_law_1003 ⟨hK, hSl⟩) hS (fun q _ h => pr_all (vj_DL hD2) hS hA q h) (fun q h => pr_all (vj_DL hD2) hS hA q h) (fun r2 u t2 H2 locs2 ht2 hvm2 hw2 hB hz2 hk2 hS2 => ?_)
  obtain ⟨hP1, hD1⟩ := hB
  rw [ht2] at hP1
  obtain ⟨hP, hD⟩ := vj_app hP2 hD2 hk2 (fun q h => pr_all (vj_DL hD2) hS hA q h) hP1 hD1
  clear hS hP1 hD1 hk2 hP2 hD2
  dsimp only at hP hD
  have hS := hS2
  clear hS2
  obtain ⟨k, hk3, rfl, hms, hval, hJ', hn'⟩ := j_put hJ (show ns 3 < 512 by omega) hw hw2
  dsimp only at hms hval hJ' hn'
  obtain ⟨mi2, ml2, mz2, ms2⟩ := u
  dsimp only at hP hD hms
  have hPm := vj_PL hP
  have hP := vj_swP hP
  have hD := vj_swD hD
  refine lv_istore (lv' := [(6, .int r2), (5, .int (iI k)), (0, .ref bs), (1, .ref (a 0)), (2, .ref (b9 0)), (3, .ref o), (4, .int (iI (6 * (i : Int))))]) hx hb d_L_law_1006 hl (by decide) rfl (fun ls hl => ?_)
  refine lv_aload_n hx hb d_L_law_1008 rfl (lv_at hl 4 rfl) ?_
  refine pr_pi (va_runV (As := []) (rest := []) ⟨hx, hb, hml, hown, hts⟩ (c_M_thrown l) (cwV 0 hts (pn_gV m_673 m_674 m_675 m_38 m_676) rfl rfl rfl (by decide +kernel) ⟨Nat.le_of_ble_eq_true rfl, Nat.le_of_ble_eq_true rfl⟩) (mn_preV (q0 := 0) (ci := 5) (q := (R_M, T_M, 27)) hPm hEm rfl rfl) rfl rfl hl.1 rfl (lv_room (Nat.le_of_ble_eq_true rfl)) d_L_law_1009 ⟨hK, hSl⟩) ?_
  rw [hms]
  refine lv_iload hx hb d_L_law_1012 (lv_at hl 1 rfl) ?_
  refine lv_icmp_eq (tgt := 1019) hx hb d_L_law_1014 (by decide) (fun c9 => ?_) (fun c9 => absurd rfl c9)
  refine lv_iload hx hb d_L_law_1019 (lv_at hl 1 rfl) ?_
  have kkk := kk w1 (mi2, ml2, mz2, ms2) w2 H2 locs2
  refine lv_if_ne (tgt := 1036) hx hb d_L_law_1021 (by decide) (fun c9 => ?_) (fun c9 => ?_)
  · skip
    refine lv_goto (tgt := 1218) hx hb d_L_law_1036 (by decide) ?_
    exact kkk ls hP hD hS hJ' (by omega) (lv_sub hl [2, 3, 4, 5, 6] rfl)
  · have k0 : k = 0 := by rcases hk3 with h | h | h; exact h; rw [h] at c9; exact absurd c9 (by decide); rw [h] at c9; exact absurd c9 (by decide)
    have hv := hval k0
    refine lv_aload_n hx hb d_L_law_1024 rfl (lv_at hl 5 rfl) ?_
    refine lv_iconst (v := iI (0)) hx hb d_L_law_1025 rfl ?_
    refine pr_lald hx hb hE.1 hP 54 1 rfl rfl (by decide) (by decide) (by decide) d_L_law_1026 ?_
    refine lv_iload hx hb d_L_law_1027 (lv_at hl 0 rfl) ?_
    refine lv_i2l (v := r2.toInt64) hx hb d_L_law_1029 rfl ?_
    refine pr_lcmps (tgt := 1036) hx hb hv d_L_law_1030 d_L_law_1031 (by decide) ?_
    refine lv_goto (tgt := 1218) hx hb d_L_law_1036 (by decide) ?_
    exact kkk ls hP hD hS hJ' (by omega) (lv_sub hl [2, 3, 4, 5, 6] rfl)
set_option maxHeartbeats 4000000 in
set_option maxRecDepth 100000 in
theorem lw_source {p : Program} {e : Env} {s : State} {m : MethodId} {below : List Frame} {meth : Method} {c : Code} (l : Launch) (hst : l.stackTraces = false) {bs L : Nat} {xs : Nat → Int32} (hL : L ≤ 3072) (C0 : lw_At p s m meth c bs L xs) {D : va_G} {a b9 : Nat → Nat} {cI cL cD cS cZ : ClassId} {o : Nat} {A : Nat → Prop} (hE : pn_E D cI cL cD cS s) (hEm : mn_E D cI cL cZ s) (hX : pn_X A s) (hNc : pn_Nc s) (hA : ∀ q, s.heap.size ≤ q → A q) (hbA : ¬ A bs) {H : Heap} {locs : List Loc} {ls : Array Slot} {i K S : Nat} {v : vS} {u : vM} {g : Int → Int} (hi : 6 * i + 6 ≤ L) (hP : va_P D pn_cl ((cwv a cI cL cD cS v ++ vo cL o g) ++ mwv b9 cI cL cZ u) H) (hD : va_D A ((cwv a cI cL cD cS v ++ vo cL o g) ++ mwv b9 cI cL cZ u)) (hS : va_S A s.heap H locs) (hJ : vJt v u) (hn : v.2.1 3 ≤ (i : Int)) (hl : lv_has ls 8 [(0, .ref bs), (1, .ref (a 0)), (2, .ref (b9 0)), (3, .ref o), (4, .int (iI (6 * (i : Int))))]) (hK : K + 1 ≤ 627858) (hSl : S + 6 ≤ 7212529) (kk : ∀ (v' : vS) (u' : vM) (g' : Int → Int) (H' : Heap) (locs' : List Loc) (ls' : Array Slot), va_P D pn_cl ((cwv a cI cL cD cS v' ++ vo cL o g') ++ mwv b9 cI cL cZ u') H' → va_D A ((cwv a cI cL cD cS v' ++ vo cL o g') ++ mwv b9 cI cL cZ u') → va_S A s.heap H' locs' → vJt v' u' → v'.2.1 3 ≤ (i : Int) + 1 → lv_has ls' 8 [(0, .ref bs), (1, .ref (a 0)), (2, .ref (b9 0)), (3, .ref o), (4, .int (iI (6 * (i : Int))))] → W p l e room_1 s m #[Value.ref bs] below meth c H' locs' (K + 1) (S + 6) (lw_Z below #[Value.ref bs] s) (F0 m 1218 ls' [])) : W p l e room_1 s m #[Value.ref bs] below meth c H locs K S (lw_Z below #[Value.ref bs] s) (F0 m 1039 ls []) := by
  obtain ⟨nf, ns, da, be, ui, ul, cn, ss, mf, sd, pr⟩ := v
  obtain ⟨mi, ml, mz, ms⟩ := u
  have hJ : v_J nf ns da ui ul cn ss mf sd pr mi ml mz ms := hJ
  have hn : ns 3 ≤ (i : Int) := hn
  have hP : va_P D pn_cl ((cw a cI cL cD cS nf ns da be ui ul cn ss mf sd pr ++ vo cL o g) ++ mw b9 cI cL cZ mi ml mz ms) H := hP
  have hD : va_D A ((cw a cI cL cD cS nf ns da be ui ul cn ss mf sd pr ++ vo cL o g) ++ mw b9 cI cL cZ mi ml mz ms) := hD
  obtain ⟨hx, hb, hr, hml, hown, htl, hXs, hbl, hlocks, hgv⟩ := id C0
  have ht : ∀ w ∈ pn_W, w.before #[Value.ref bs] s = true := fun w h => htl w (List.mem_filter.mp h).1
  have hts : ∀ w ∈ (Cond.initialized "PressureNets" :: pn_W), w.before #[Value.ref bs] s = true := fun w h => (List.mem_cons.mp h).elim (fun q => by rw [q]; exact ht _ m_33) (ht w)
  have hKm := hEm
  obtain ⟨x0, ex⟩ : ∃ q : Int, q = (xs (6 * i + 1)).toInt := ⟨_, rfl⟩
  have gx : i3 x0 := by rw [ex]; exact i3_32 _
  obtain ⟨y0, ey⟩ : ∃ q : Int, q = (xs (6 * i + 2)).toInt := ⟨_, rfl⟩
  have gy : i3 y0 := by rw [ey]; exact i3_32 _
  refine lv_aload_n hx hb d_L_law_1039 rfl (lv_at hl 1 rfl) ?_
  refine lv_aload_n hx hb d_L_law_1040 rfl (lv_at hl 0 rfl) ?_
  refine lv_iload hx hb d_L_law_1041 (lv_at hl 4 rfl) ?_
  refine lv_iconst (v := iI (1)) hx hb d_L_law_1043 rfl ?_
  refine pr_iadd hx hb d_L_law_1044 ?_
  refine pr_sld (X := x0) (n := 6 * i + 1) hx hb hXs hbl hbA hS (by omega) (by omega) hL ex d_L_law_1045 ?_
  refine lv_aload_n hx hb d_L_law_1046 rfl (lv_at hl 0 rfl) ?_
  refine lv_iload hx hb d_L_law_1047 (lv_at hl 4 rfl) ?_
  refine lv_iconst (v := iI (2)) hx hb d_L_law_1049 rfl ?_
  refine pr_iadd hx hb d_L_law_1050 ?_
  refine pr_sld (X := y0) (n := 6 * i + 2) hx hb hXs hbl hbA hS (by omega) (by omega) hL ey d_L_law_1051 ?_
  refine lv_aload_n hx hb d_L_law_1052 rfl (lv_at hl 3 rfl) ?_
  refine va_calli (vx_runSW (As := [.ref (a 0), .int (iI (x0)), .int (iI (y0)), .ref o]) (rest := []) ⟨hx, hb, hml, hown, hts⟩ (c_L_source l hst H.size o g x0 y0 (v_J_ok hJ) gx gy) (vx_cwSW 4 hts (pn_gS2 m_525 m_526 m_32 m_527) rfl rfl rfl (by decide +kernel) ⟨Nat.le_of_ble_eq_true rfl, Nat.le_of_ble_eq_true rfl⟩) (pn_preL (vj_PL hP) (vj_DL hD) hE hX hNc hS hA) rfl rfl hl.1 rfl (lv_room (Nat.le_of_ble_eq_true rfl)) d_L_law_1053 ⟨hK, hSl⟩) hS (fun q _ h => pr_all (vj_DL hD) hS hA q h) (fun q h => pr_all (vj_DL hD) hS hA q h) (fun r1 w t1 H1 locs1 ht1 hvm1 hw hB hz1 hk1 hS1 => ?_)
  obtain ⟨hP1, hD1⟩ := hB
  rw [ht1] at hP1
  obtain ⟨hP, hD⟩ := vj_app hP hD hk1 (fun q h => pr_all (vj_DL hD) hS hA q h) hP1 hD1
  clear hS hP1 hD1 hk1
  dsimp only at hP hD
  have hS := hS1
  clear hS1
  obtain ⟨w1, w2⟩ := w
  dsimp only at hP hD
  refine lv_istore (lv' := [(5, .int r1), (0, .ref bs), (1, .ref (a 0)), (2, .ref (b9 0)), (3, .ref o), (4, .int (iI (6 * (i : Int))))]) hx hb d_L_law_1056 hl (by decide) rfl (fun ls hl => ?_)
  refine lv_aload_n hx hb d_L_law_1058 rfl (lv_at hl 3 rfl) ?_
  refine lv_aload_n hx hb d_L_law_1059 rfl (lv_at hl 1 rfl) ?_
  refine lv_iload hx hb d_L_law_1060 (lv_at hl 5 rfl) ?_
  refine lv_iconst (v := iI (1)) hx hb d_L_law_1062 rfl ?_
  refine pr_iadd hx hb d_L_law_1063 ?_
  refine pr_sld (X := x0) (n := 6 * i + 1) hx hb hXs hbl hbA hS (by omega) (by omega) hL ex d_L_law_1064 ?_
  refine lv_aload_n hx hb d_L_law_1065 rfl (lv_at hl 1 rfl) ?_
  refine lv_iload hx hb d_L_law_1066 (lv_at hl 5 rfl) ?_
  refine lv_iconst (v := iI (2)) hx hb d_L_law_1068 rfl ?_
  refine pr_iadd hx hb d_L_law_1069 ?_
  refine pr_sld (X := y0) (n := 6 * i + 2) hx hb hXs hbl hbA hS (by omega) (by omega) hL ey d_L_law_1070 ?_
  have hP2 := vj_swP hP
  have hD2 := vj_swD hD
  refine va_calli (va_runV (As := [.int (iI (x0)), .int (iI (y0))]) (rest := []) ⟨hx, hb, hml, hown, hts⟩ (c_M_source l H1.size nf ns da x0 y0 (v_J_ok hJ) (v_J_R hJ) (v_J_mn hJ) gx gy) (cwV 2 hts (pn_gV m_800 m_801 m_802 m_38 m_803) rfl rfl rfl (by decide +kernel) ⟨Nat.le_of_ble_eq_true rfl, Nat.le_of_ble_eq_true rfl⟩) (mn_preW (q0 := 0) (ci := 5) (q := (R_M, T_M, 27)) (vj_PL hP2) (vj_DL hD2) hEm rfl rfl) rfl rfl hl.1 rfl (lv_room (Nat.le_of_ble_eq_true rfl)) d_L_law_1071 ⟨hK, hSl⟩) hS (fun q _ h => pr_all (vj_DL hD2) hS hA q h) (fun q h => pr_all (vj_DL hD2) hS hA q h) (fun r2 u t2 H2 locs2 ht2 hvm2 hw2 hB hz2 hk2 hS2 => ?_)
  obtain ⟨hP1, hD1⟩ := hB
  rw [ht2] at hP1
  obtain ⟨hP, hD⟩ := vj_app hP2 hD2 hk2 (fun q h => pr_all (vj_DL hD2) hS hA q h) hP1 hD1
  clear hS hP1 hD1 hk2 hP2 hD2
  dsimp only at hP hD
  have hS := hS2
  clear hS2
  obtain ⟨k, hk3, rfl, hms, hval, hJ', hn'⟩ := j_source hJ (show ns 3 < 512 by omega) hw hw2
  dsimp only at hms hval hJ' hn'
  obtain ⟨mi2, ml2, mz2, ms2⟩ := u
  dsimp only at hP hD hms
  have hPm := vj_PL hP
  have hP := vj_swP hP
  have hD := vj_swD hD
  refine lv_istore (lv' := [(6, .int r2), (5, .int (iI k)), (0, .ref bs), (1, .ref (a 0)), (2, .ref (b9 0)), (3, .ref o), (4, .int (iI (6 * (i : Int))))]) hx hb d_L_law_1074 hl (by decide) rfl (fun ls hl => ?_)
  refine lv_aload_n hx hb d_L_law_1076 rfl (lv_at hl 4 rfl) ?_
  refine pr_pi (va_runV (As := []) (rest := []) ⟨hx, hb, hml, hown, hts⟩ (c_M_thrown l) (cwV 0 hts (pn_gV m_673 m_674 m_675 m_38 m_676) rfl rfl rfl (by decide +kernel) ⟨Nat.le_of_ble_eq_true rfl, Nat.le_of_ble_eq_true rfl⟩) (mn_preV (q0 := 0) (ci := 5) (q := (R_M, T_M, 27)) hPm hEm rfl rfl) rfl rfl hl.1 rfl (lv_room (Nat.le_of_ble_eq_true rfl)) d_L_law_1077 ⟨hK, hSl⟩) ?_
  rw [hms]
  refine lv_iload hx hb d_L_law_1080 (lv_at hl 1 rfl) ?_
  refine lv_icmp_eq (tgt := 1087) hx hb d_L_law_1082 (by decide) (fun c9 => ?_) (fun c9 => absurd rfl c9)
  refine lv_iload hx hb d_L_law_1087 (lv_at hl 1 rfl) ?_
  have kkk := kk w1 (mi2, ml2, mz2, ms2) w2 H2 locs2
  refine lv_if_ne (tgt := 1104) hx hb d_L_law_1089 (by decide) (fun c9 => ?_) (fun c9 => ?_)
  · skip
    refine lv_goto (tgt := 1218) hx hb d_L_law_1104 (by decide) ?_
    exact kkk ls hP hD hS hJ' (by omega) (lv_sub hl [2, 3, 4, 5, 6] rfl)
  · have k0 : k = 0 := by rcases hk3 with h | h | h; exact h; rw [h] at c9; exact absurd c9 (by decide); rw [h] at c9; exact absurd c9 (by decide)
    have hv := hval k0
    refine lv_aload_n hx hb d_L_law_1092 rfl (lv_at hl 5 rfl) ?_
    refine lv_iconst (v := iI (0)) hx hb d_L_law_1093 rfl ?_
    refine pr_lald hx hb hE.1 hP 54 1 rfl rfl (by decide) (by decide) (by decide) d_L_law_1094 ?_
    refine lv_iload hx hb d_L_law_1095 (lv_at hl 0 rfl) ?_
    refine lv_i2l (v := r2.toInt64) hx hb d_L_law_1097 rfl ?_
    refine pr_lcmps (tgt := 1104) hx hb hv d_L_law_1098 d_L_law_1099 (by decide) ?_
    refine lv_goto (tgt := 1218) hx hb d_L_law_1104 (by decide) ?_
    exact kkk ls hP hD hS hJ' (by omega) (lv_sub hl [2, 3, 4, 5, 6] rfl)
set_option maxHeartbeats 4000000 in
set_option maxRecDepth 100000 in
theorem lw_steps {p : Program} {e : Env} {s : State} {m : MethodId} {below : List Frame} {meth : Method} {c : Code} (l : Launch) (hst : l.stackTraces = false) {bs L : Nat} {xs : Nat → Int32} (hL : L ≤ 3072) (C0 : lw_At p s m meth c bs L xs) {D : va_G} {a b9 : Nat → Nat} {cI cL cD cS cZ : ClassId} {o : Nat} {A : Nat → Prop} (hE : pn_E D cI cL cD cS s) (hEm : mn_E D cI cL cZ s) (hX : pn_X A s) (hNc : pn_Nc s) (hA : ∀ q, s.heap.size ≤ q → A q) (hbA : ¬ A bs) {H : Heap} {locs : List Loc} {ls : Array Slot} {i K S : Nat} {v : vS} {u : vM} {g : Int → Int} (hi : 6 * i + 6 ≤ L) (hP : va_P D pn_cl ((cwv a cI cL cD cS v ++ vo cL o g) ++ mwv b9 cI cL cZ u) H) (hD : va_D A ((cwv a cI cL cD cS v ++ vo cL o g) ++ mwv b9 cI cL cZ u)) (hS : va_S A s.heap H locs) (hJ : vJt v u) (hn : v.2.1 3 ≤ (i : Int)) (hl : lv_has ls 8 [(0, .ref bs), (1, .ref (a 0)), (2, .ref (b9 0)), (3, .ref o), (4, .int (iI (6 * (i : Int))))]) (hK : K + 1 ≤ 627858) (hSl : S + 6 ≤ 7212529) (kk : ∀ (v' : vS) (u' : vM) (g' : Int → Int) (H' : Heap) (locs' : List Loc) (ls' : Array Slot), va_P D pn_cl ((cwv a cI cL cD cS v' ++ vo cL o g') ++ mwv b9 cI cL cZ u') H' → va_D A ((cwv a cI cL cD cS v' ++ vo cL o g') ++ mwv b9 cI cL cZ u') → va_S A s.heap H' locs' → vJt v' u' → v'.2.1 3 ≤ (i : Int) + 1 → lv_has ls' 8 [(0, .ref bs), (1, .ref (a 0)), (2, .ref (b9 0)), (3, .ref o), (4, .int (iI (6 * (i : Int))))] → W p l e room_1 s m #[Value.ref bs] below meth c H' locs' (K + 1) (S + 6) (lw_Z below #[Value.ref bs] s) (F0 m 1218 ls' [])) : W p l e room_1 s m #[Value.ref bs] below meth c H locs K S (lw_Z below #[Value.ref bs] s) (F0 m 1107 ls []) := by
  obtain ⟨nf, ns, da, be, ui, ul, cn, ss, mf, sd, pr⟩ := v
  obtain ⟨mi, ml, mz, ms⟩ := u
  have hJ : v_J nf ns da ui ul cn ss mf sd pr mi ml mz ms := hJ
  have hn : ns 3 ≤ (i : Int) := hn
  have hP : va_P D pn_cl ((cw a cI cL cD cS nf ns da be ui ul cn ss mf sd pr ++ vo cL o g) ++ mw b9 cI cL cZ mi ml mz ms) H := hP
  have hD : va_D A ((cw a cI cL cD cS nf ns da be ui ul cn ss mf sd pr ++ vo cL o g) ++ mw b9 cI cL cZ mi ml mz ms) := hD
  obtain ⟨hx, hb, hr, hml, hown, htl, hXs, hbl, hlocks, hgv⟩ := id C0
  have ht : ∀ w ∈ pn_W, w.before #[Value.ref bs] s = true := fun w h => htl w (List.mem_filter.mp h).1
  have hts : ∀ w ∈ (Cond.initialized "PressureNets" :: pn_W), w.before #[Value.ref bs] s = true := fun w h => (List.mem_cons.mp h).elim (fun q => by rw [q]; exact ht _ m_33) (ht w)
  have hKm := hEm
  obtain ⟨x0, ex⟩ : ∃ q : Int, q = (xs (6 * i + 1)).toInt := ⟨_, rfl⟩
  have gx : i3 x0 := by rw [ex]; exact i3_32 _
  refine lv_aload_n hx hb d_L_law_1107 rfl (lv_at hl 1 rfl) ?_
  refine lv_aload_n hx hb d_L_law_1108 rfl (lv_at hl 0 rfl) ?_
  refine lv_iload hx hb d_L_law_1109 (lv_at hl 4 rfl) ?_
  refine lv_iconst (v := iI (1)) hx hb d_L_law_1111 rfl ?_
  refine pr_iadd hx hb d_L_law_1112 ?_
  refine pr_sld (X := x0) (n := 6 * i + 1) hx hb hXs hbl hbA hS (by omega) (by omega) hL ex d_L_law_1113 ?_
  refine lv_aload_n hx hb d_L_law_1114 rfl (lv_at hl 3 rfl) ?_
  refine va_calli (vx_runSW (As := [.ref (a 0), .int (iI (x0)), .ref o]) (rest := []) ⟨hx, hb, hml, hown, hts⟩ (c_L_steps l hst H.size o g x0 (v_J_ok hJ) (v_J_mono hJ _) (hJ.2.2.1.2 0 (by decide)) (v_J_hC hJ 0 (by decide)).1 (v_J_hC hJ 0 (by decide)).2.1 (v_J_hC hJ 0 (by decide)).2.2 hJ.2.2.2.2.1.1 hJ.2.2.2.2.1.2.1 hJ.2.2.2.2.1.2.2.2 hJ.1.2.2.2.2.1 hJ.1.2.2.2.2.2.2 gx) (vx_cwSW 3 hts (pn_gS2 m_533 m_534 m_32 m_535) rfl rfl rfl (by decide +kernel) ⟨Nat.le_of_ble_eq_true rfl, Nat.le_of_ble_eq_true rfl⟩) (pn_preL (vj_PL hP) (vj_DL hD) hE hX hNc hS hA) rfl rfl hl.1 rfl (lv_room (Nat.le_of_ble_eq_true rfl)) d_L_law_1115 ⟨hK, hSl⟩) hS (fun q _ h => pr_all (vj_DL hD) hS hA q h) (fun q h => pr_all (vj_DL hD) hS hA q h) (fun r1 w t1 H1 locs1 ht1 hvm1 hw hB hz1 hk1 hS1 => ?_)
  obtain ⟨hP1, hD1⟩ := hB
  rw [ht1] at hP1
  obtain ⟨hP, hD⟩ := vj_app hP hD hk1 (fun q h => pr_all (vj_DL hD) hS hA q h) hP1 hD1
  clear hS hP1 hD1 hk1
  dsimp only at hP hD
  have hS := hS1
  clear hS1
  obtain ⟨w1, w2⟩ := w
  dsimp only at hP hD
  refine lv_istore (lv' := [(5, .int r1), (0, .ref bs), (1, .ref (a 0)), (2, .ref (b9 0)), (3, .ref o), (4, .int (iI (6 * (i : Int))))]) hx hb d_L_law_1118 hl (by decide) rfl (fun ls hl => ?_)
  refine lv_aload_n hx hb d_L_law_1120 rfl (lv_at hl 3 rfl) ?_
  refine lv_aload_n hx hb d_L_law_1121 rfl (lv_at hl 1 rfl) ?_
  refine lv_iload hx hb d_L_law_1122 (lv_at hl 5 rfl) ?_
  refine lv_iconst (v := iI (1)) hx hb d_L_law_1124 rfl ?_
  refine pr_iadd hx hb d_L_law_1125 ?_
  refine pr_sld (X := x0) (n := 6 * i + 1) hx hb hXs hbl hbA hS (by omega) (by omega) hL ex d_L_law_1126 ?_
  have hP2 := vj_swP hP
  have hD2 := vj_swD hD
  refine va_calli (va_runV (As := [.int (iI (x0))]) (rest := []) ⟨hx, hb, hml, hown, hts⟩ (c_M_steps l H1.size nf ns da (ss 0) x0 (v_J_ok hJ) (v_J_R hJ) (v_J_mn hJ) (hJ.2.2.1.2 0 (by decide)) hJ.1.2.2.2.1 (v_J_mono hJ _) hJ.2.2.1.1 hJ.2.2.2.2.2.2.2.2.2.1 hJ.1.2.2.2.2.1 hJ.1.2.2.2.2.2.2 (ui 0) (ul 0) hJ.2.2.2.2.2.2.2.2.1 hJ.2.2.2.2.1.2.1 hJ.2.2.2.2.1.2.2.1 hJ.2.2.2.2.1.1 hJ.2.2.2.2.2.2.2.1 gx) (cwV 1 hts (pn_gV m_805 m_806 m_807 m_38 m_808) rfl rfl rfl (by decide +kernel) ⟨Nat.le_of_ble_eq_true rfl, Nat.le_of_ble_eq_true rfl⟩) (mn_preW (q0 := 0) (ci := 5) (q := (R_M, T_M, 27)) (vj_PL hP2) (vj_DL hD2) hEm rfl rfl) rfl rfl hl.1 rfl (lv_room (Nat.le_of_ble_eq_true rfl)) d_L_law_1127 ⟨hK, hSl⟩) hS (fun q _ h => pr_all (vj_DL hD2) hS hA q h) (fun q h => pr_all (vj_DL hD2) hS hA q h) (fun r2 u t2 H2 locs2 ht2 hvm2 hw2 hB hz2 hk2 hS2 => ?_)
  obtain ⟨hP1, hD1⟩ := hB
  rw [ht2] at hP1
  obtain ⟨hP, hD⟩ := vj_app hP2 hD2 hk2 (fun q h => pr_all (vj_DL hD2) hS hA q h) hP1 hD1
  clear hS hP1 hD1 hk2 hP2 hD2
  dsimp only at hP hD
  have hS := hS2
  clear hS2
  obtain ⟨k, hk3, rfl, hms, hval, hJ', hn'⟩ := j_steps hJ (show ns 3 < 512 by omega) hw hw2
  dsimp only at hms hval hJ' hn'
  obtain ⟨mi2, ml2, mz2, ms2⟩ := u
  dsimp only at hP hD hms
  have hPm := vj_PL hP
  have hP := vj_swP hP
  have hD := vj_swD hD
  refine lv_istore (lv' := [(6, .int r2), (5, .int (iI k)), (0, .ref bs), (1, .ref (a 0)), (2, .ref (b9 0)), (3, .ref o), (4, .int (iI (6 * (i : Int))))]) hx hb d_L_law_1130 hl (by decide) rfl (fun ls hl => ?_)
  refine lv_aload_n hx hb d_L_law_1132 rfl (lv_at hl 4 rfl) ?_
  refine pr_pi (va_runV (As := []) (rest := []) ⟨hx, hb, hml, hown, hts⟩ (c_M_thrown l) (cwV 0 hts (pn_gV m_673 m_674 m_675 m_38 m_676) rfl rfl rfl (by decide +kernel) ⟨Nat.le_of_ble_eq_true rfl, Nat.le_of_ble_eq_true rfl⟩) (mn_preV (q0 := 0) (ci := 5) (q := (R_M, T_M, 27)) hPm hEm rfl rfl) rfl rfl hl.1 rfl (lv_room (Nat.le_of_ble_eq_true rfl)) d_L_law_1133 ⟨hK, hSl⟩) ?_
  rw [hms]
  refine lv_iload hx hb d_L_law_1136 (lv_at hl 1 rfl) ?_
  refine lv_icmp_eq (tgt := 1143) hx hb d_L_law_1138 (by decide) (fun c9 => ?_) (fun c9 => absurd rfl c9)
  refine lv_iload hx hb d_L_law_1143 (lv_at hl 1 rfl) ?_
  have kkk := kk w1 (mi2, ml2, mz2, ms2) w2 H2 locs2
  refine lv_if_ne (tgt := 1160) hx hb d_L_law_1145 (by decide) (fun c9 => ?_) (fun c9 => ?_)
  · skip
    refine lv_goto (tgt := 1218) hx hb d_L_law_1160 (by decide) ?_
    exact kkk ls hP hD hS hJ' (by omega) (lv_sub hl [2, 3, 4, 5, 6] rfl)
  · have k0 : k = 0 := by rcases hk3 with h | h | h; exact h; rw [h] at c9; exact absurd c9 (by decide); rw [h] at c9; exact absurd c9 (by decide)
    have hv := hval k0
    refine lv_aload_n hx hb d_L_law_1148 rfl (lv_at hl 5 rfl) ?_
    refine lv_iconst (v := iI (0)) hx hb d_L_law_1149 rfl ?_
    refine pr_lald hx hb hE.1 hP 54 1 rfl rfl (by decide) (by decide) (by decide) d_L_law_1150 ?_
    refine lv_iload hx hb d_L_law_1151 (lv_at hl 0 rfl) ?_
    refine lv_i2l (v := r2.toInt64) hx hb d_L_law_1153 rfl ?_
    refine pr_lcmps (tgt := 1160) hx hb hv d_L_law_1154 d_L_law_1155 (by decide) ?_
    refine lv_goto (tgt := 1218) hx hb d_L_law_1160 (by decide) ?_
    exact kkk ls hP hD hS hJ' (by omega) (lv_sub hl [2, 3, 4, 5, 6] rfl)
set_option maxHeartbeats 4000000 in
set_option maxRecDepth 100000 in
theorem lw_gone {p : Program} {e : Env} {s : State} {m : MethodId} {below : List Frame} {meth : Method} {c : Code} (l : Launch) (hst : l.stackTraces = false) {bs L : Nat} {xs : Nat → Int32} (hL : L ≤ 3072) (C0 : lw_At p s m meth c bs L xs) {D : va_G} {a b9 : Nat → Nat} {cI cL cD cS cZ : ClassId} {o : Nat} {A : Nat → Prop} (hE : pn_E D cI cL cD cS s) (hEm : mn_E D cI cL cZ s) (hX : pn_X A s) (hNc : pn_Nc s) (hA : ∀ q, s.heap.size ≤ q → A q) (hbA : ¬ A bs) {H : Heap} {locs : List Loc} {ls : Array Slot} {i K S : Nat} {v : vS} {u : vM} {g : Int → Int} (hi : 6 * i + 6 ≤ L) (hP : va_P D pn_cl ((cwv a cI cL cD cS v ++ vo cL o g) ++ mwv b9 cI cL cZ u) H) (hD : va_D A ((cwv a cI cL cD cS v ++ vo cL o g) ++ mwv b9 cI cL cZ u)) (hS : va_S A s.heap H locs) (hJ : vJt v u) (hn : v.2.1 3 ≤ (i : Int)) (hl : lv_has ls 8 [(0, .ref bs), (1, .ref (a 0)), (2, .ref (b9 0)), (3, .ref o), (4, .int (iI (6 * (i : Int))))]) (hK : K + 1 ≤ 627858) (hSl : S + 6 ≤ 7212529) (kk : ∀ (v' : vS) (u' : vM) (g' : Int → Int) (H' : Heap) (locs' : List Loc) (ls' : Array Slot), va_P D pn_cl ((cwv a cI cL cD cS v' ++ vo cL o g') ++ mwv b9 cI cL cZ u') H' → va_D A ((cwv a cI cL cD cS v' ++ vo cL o g') ++ mwv b9 cI cL cZ u') → va_S A s.heap H' locs' → vJt v' u' → v'.2.1 3 ≤ (i : Int) + 1 → lv_has ls' 8 [(0, .ref bs), (1, .ref (a 0)), (2, .ref (b9 0)), (3, .ref o), (4, .int (iI (6 * (i : Int))))] → W p l e room_1 s m #[Value.ref bs] below meth c H' locs' (K + 1) (S + 6) (lw_Z below #[Value.ref bs] s) (F0 m 1218 ls' [])) : W p l e room_1 s m #[Value.ref bs] below meth c H locs K S (lw_Z below #[Value.ref bs] s) (F0 m 1163 ls []) := by
  obtain ⟨nf, ns, da, be, ui, ul, cn, ss, mf, sd, pr⟩ := v
  obtain ⟨mi, ml, mz, ms⟩ := u
  have hJ : v_J nf ns da ui ul cn ss mf sd pr mi ml mz ms := hJ
  have hn : ns 3 ≤ (i : Int) := hn
  have hP : va_P D pn_cl ((cw a cI cL cD cS nf ns da be ui ul cn ss mf sd pr ++ vo cL o g) ++ mw b9 cI cL cZ mi ml mz ms) H := hP
  have hD : va_D A ((cw a cI cL cD cS nf ns da be ui ul cn ss mf sd pr ++ vo cL o g) ++ mw b9 cI cL cZ mi ml mz ms) := hD
  obtain ⟨hx, hb, hr, hml, hown, htl, hXs, hbl, hlocks, hgv⟩ := id C0
  have ht : ∀ w ∈ pn_W, w.before #[Value.ref bs] s = true := fun w h => htl w (List.mem_filter.mp h).1
  have hts : ∀ w ∈ (Cond.initialized "PressureNets" :: pn_W), w.before #[Value.ref bs] s = true := fun w h => (List.mem_cons.mp h).elim (fun q => by rw [q]; exact ht _ m_33) (ht w)
  have hKm := hEm
  obtain ⟨x0, ex⟩ : ∃ q : Int, q = (xs (6 * i + 1)).toInt := ⟨_, rfl⟩
  have gx : i3 x0 := by rw [ex]; exact i3_32 _
  refine lv_aload_n hx hb d_L_law_1163 rfl (lv_at hl 1 rfl) ?_
  refine lv_aload_n hx hb d_L_law_1164 rfl (lv_at hl 0 rfl) ?_
  refine lv_iload hx hb d_L_law_1165 (lv_at hl 4 rfl) ?_
  refine lv_iconst (v := iI (1)) hx hb d_L_law_1167 rfl ?_
  refine pr_iadd hx hb d_L_law_1168 ?_
  refine pr_sld (X := x0) (n := 6 * i + 1) hx hb hXs hbl hbA hS (by omega) (by omega) hL ex d_L_law_1169 ?_
  refine lv_aload_n hx hb d_L_law_1170 rfl (lv_at hl 3 rfl) ?_
  refine va_calli (vx_runSW (As := [.ref (a 0), .int (iI (x0)), .ref o]) (rest := []) ⟨hx, hb, hml, hown, hts⟩ (c_L_gone l hst H.size o g x0 (v_J_ok hJ) gx) (vx_cwSW 3 hts (pn_gS2 m_577 m_578 m_32 m_579) rfl rfl rfl (by decide +kernel) ⟨Nat.le_of_ble_eq_true rfl, Nat.le_of_ble_eq_true rfl⟩) (pn_preL (vj_PL hP) (vj_DL hD) hE hX hNc hS hA) rfl rfl hl.1 rfl (lv_room (Nat.le_of_ble_eq_true rfl)) d_L_law_1171 ⟨hK, hSl⟩) hS (fun q _ h => pr_all (vj_DL hD) hS hA q h) (fun q h => pr_all (vj_DL hD) hS hA q h) (fun r1 w t1 H1 locs1 ht1 hvm1 hw hB hz1 hk1 hS1 => ?_)
  obtain ⟨hP1, hD1⟩ := hB
  rw [ht1] at hP1
  obtain ⟨hP, hD⟩ := vj_app hP hD hk1 (fun q h => pr_all (vj_DL hD) hS hA q h) hP1 hD1
  clear hS hP1 hD1 hk1
  dsimp only at hP hD
  have hS := hS1
  clear hS1
  obtain ⟨w1, w2⟩ := w
  dsimp only at hP hD
  refine lv_istore (lv' := [(5, .int r1), (0, .ref bs), (1, .ref (a 0)), (2, .ref (b9 0)), (3, .ref o), (4, .int (iI (6 * (i : Int))))]) hx hb d_L_law_1174 hl (by decide) rfl (fun ls hl => ?_)
  refine lv_aload_n hx hb d_L_law_1176 rfl (lv_at hl 3 rfl) ?_
  refine lv_aload_n hx hb d_L_law_1177 rfl (lv_at hl 1 rfl) ?_
  refine lv_iload hx hb d_L_law_1178 (lv_at hl 5 rfl) ?_
  refine lv_iconst (v := iI (1)) hx hb d_L_law_1180 rfl ?_
  refine pr_iadd hx hb d_L_law_1181 ?_
  refine pr_sld (X := x0) (n := 6 * i + 1) hx hb hXs hbl hbA hS (by omega) (by omega) hL ex d_L_law_1182 ?_
  have hP2 := vj_swP hP
  have hD2 := vj_swD hD
  refine va_calll (va_runV (As := [.int (iI (x0))]) (rest := []) ⟨hx, hb, hml, hown, hts⟩ (c_M_gone l H1.size nf ns da x0 (v_J_ok hJ) (v_J_R hJ) (v_J_mn hJ) gx) (cwV 1 hts (pn_gV m_822 m_823 m_824 m_38 m_825) rfl rfl rfl (by decide +kernel) ⟨Nat.le_of_ble_eq_true rfl, Nat.le_of_ble_eq_true rfl⟩) (mn_preW (q0 := 0) (ci := 5) (q := (R_M, T_M, 27)) (vj_PL hP2) (vj_DL hD2) hEm rfl rfl) rfl rfl hl.1 rfl (lv_room (Nat.le_of_ble_eq_true rfl)) d_L_law_1183 ⟨hK, hSl⟩) hS (fun q _ h => pr_all (vj_DL hD2) hS hA q h) (fun q h => pr_all (vj_DL hD2) hS hA q h) (fun r2 u t2 H2 locs2 ht2 hvm2 hw2 hB hz2 hk2 hS2 => ?_)
  obtain ⟨hP1, hD1⟩ := hB
  rw [ht2] at hP1
  obtain ⟨hP, hD⟩ := vj_app hP2 hD2 hk2 (fun q h => pr_all (vj_DL hD2) hS hA q h) hP1 hD1
  clear hS hP1 hD1 hk2 hP2 hD2
  dsimp only at hP hD
  have hS := hS2
  clear hS2
  obtain ⟨k, hk3, rfl, hms, hval, hJ', hn'⟩ := j_gone hJ (show ns 3 < 512 by omega) hw hw2
  dsimp only at hms hval hJ' hn'
  obtain ⟨mi2, ml2, mz2, ms2⟩ := u
  dsimp only at hP hD hms
  have hPm := vj_PL hP
  have hP := vj_swP hP
  have hD := vj_swD hD
  refine lv_lstore (lv' := [(6, .long r2), (5, .int (iI k)), (0, .ref bs), (1, .ref (a 0)), (2, .ref (b9 0)), (3, .ref o), (4, .int (iI (6 * (i : Int))))]) hx hb d_L_law_1186 hl (by decide) rfl (fun ls hl => ?_)
  refine lv_aload_n hx hb d_L_law_1188 rfl (lv_at hl 4 rfl) ?_
  refine pr_pi (va_runV (As := []) (rest := []) ⟨hx, hb, hml, hown, hts⟩ (c_M_thrown l) (cwV 0 hts (pn_gV m_673 m_674 m_675 m_38 m_676) rfl rfl rfl (by decide +kernel) ⟨Nat.le_of_ble_eq_true rfl, Nat.le_of_ble_eq_true rfl⟩) (mn_preV (q0 := 0) (ci := 5) (q := (R_M, T_M, 27)) hPm hEm rfl rfl) rfl rfl hl.1 rfl (lv_room (Nat.le_of_ble_eq_true rfl)) d_L_law_1189 ⟨hK, hSl⟩) ?_
  rw [hms]
  refine lv_iload hx hb d_L_law_1192 (lv_at hl 1 rfl) ?_
  refine lv_icmp_eq (tgt := 1199) hx hb d_L_law_1194 (by decide) (fun c9 => ?_) (fun c9 => absurd rfl c9)
  refine lv_iload hx hb d_L_law_1199 (lv_at hl 1 rfl) ?_
  have kkk := kk w1 (mi2, ml2, mz2, ms2) w2 H2 locs2
  refine lv_if_ne (tgt := 1215) hx hb d_L_law_1201 (by decide) (fun c9 => ?_) (fun c9 => ?_)
  · skip
    refine lv_goto (tgt := 1218) hx hb d_L_law_1215 (by decide) ?_
    exact kkk ls hP hD hS hJ' (by omega) (lv_sub hl [2, 3, 4, 5, 6] rfl)
  · have k0 : k = 0 := by rcases hk3 with h | h | h; exact h; rw [h] at c9; exact absurd c9 (by decide); rw [h] at c9; exact absurd c9 (by decide)
    have hv := hval k0
    refine lv_aload_n hx hb d_L_law_1204 rfl (lv_at hl 5 rfl) ?_
    refine lv_iconst (v := iI (0)) hx hb d_L_law_1205 rfl ?_
    refine pr_lald hx hb hE.1 hP 54 1 rfl rfl (by decide) (by decide) (by decide) d_L_law_1206 ?_
    refine lv_lload hx hb d_L_law_1207 (lv_at hl 0 rfl) ?_
    refine pr_lcmps (tgt := 1215) hx hb hv d_L_law_1209 d_L_law_1210 (by decide) ?_
    refine lv_goto (tgt := 1218) hx hb d_L_law_1215 (by decide) ?_
    exact kkk ls hP hD hS hJ' (by omega) (lv_sub hl [2, 3, 4, 5, 6] rfl)
