set_option maxHeartbeats 40000000 in
set_option maxRecDepth 100000 in
theorem law_case0 {p : Program} {e : Env} {s : State} {m : MethodId} {below : List Frame} {meth : Method} {c : Code} {l : Launch} {b L : Nat} {xs : Nat → Int32} (hL : L ≤ 3072) (C0 : lw_At p s m meth c b L xs) (G : va_G) (k : Nat → Nat) (h hm : Nat) (a a2 : Nat → Nat) (d d2 : Nat → ClassId) (i : Int32) (cells slots : Nat) (hi0 : 0 ≤ i.toInt) (hi1 : i.toInt + 6 ≤ L) (hroom : cells + 4 ≤ room_1.cells ∧ slots + 264 ≤ room_1.slots) (nn : Int32) (cl : Int32) (sp : Int32) (bn : Int32) (tn : Int32) (g2 : Nat → Int32) (ft0 : Nat → Int32) (fr : Nat → Int32) (rk : Int32) (rp : Int32) (tP : Nat → Pl9) (sn : Int32) (u0 : Nat → Int32) (u1 : Nat → Int32) (u2 : Nat → Int32) (u3 : Nat → Int32) (g0 : Nat → Int32) (g1 : Nat → Int32) (g3 : Nat → Int32) (ma : Int) (ta : Int) (co : Int) (lo : Int) (gr : Int32) (pd : Int32) (td : Int32) (sc : Nat → Int32) (sl : Nat → Int32) (sk : Nat → Int32) (sq : Nat → Int32) (su : Nat → Int32) (wx wm : va_W) (H : Heap) (locs : List Loc) (ls : Array Slot) (kk : ∀ (nn : Int32) (cl : Int32) (sp : Int32) (bn : Int32) (tn : Int32) (g2 : Nat → Int32) (ft0 : Nat → Int32) (fr : Nat → Int32) (rk : Int32) (rp : Int32) (tP : Nat → Pl9) (sn : Int32) (u0 : Nat → Int32) (u1 : Nat → Int32) (u2 : Nat → Int32) (u3 : Nat → Int32) (g0 : Nat → Int32) (g1 : Nat → Int32) (g3 : Nat → Int32) (ma : Int) (ta : Int) (co : Int) (lo : Int) (gr : Int32) (pd : Int32) (td : Int32) (sc : Nat → Int32) (sl : Nat → Int32) (sk : Nat → Int32) (sq : Nat → Int32) (su : Nat → Int32) (wx wm : va_W) (H : Heap) (locs : List Loc) (ls : Array Slot), gX h a d nn cl sp bn tn g2 ft0 fr rk rp tP sn u0 u1 u2 u3 g0 g1 g3 ma ta co lo gr pd td sc sl sk sq su wx → gM hm a2 d2 nn cl sp bn tn g2 ft0 fr rk rp tP sn u0 u1 u2 u3 g0 g1 g3 ma ta co lo gr pd td sc sl sk sq su wm → cS G k (wx ++ wm) (tyX d ++ tyM d2) (fun q : Nat => s.heap.size ≤ q) s H locs → lv_has ls 4 [(3, .int i), (2, .ref hm), (1, .ref h), (0, .ref b)] → W p l e room_1 s m #[Value.ref b] below meth c H locs (cells + 4) (slots + 264) (lw_Z below #[Value.ref b] s) (F0 m 852 ls [])) (hX : gX h a d nn cl sp bn tn g2 ft0 fr rk rp tP sn u0 u1 u2 u3 g0 g1 g3 ma ta co lo gr pd td sc sl sk sq su wx) (hM : gM hm a2 d2 nn cl sp bn tn g2 ft0 fr rk rp tP sn u0 u1 u2 u3 g0 g1 g3 ma ta co lo gr pd td sc sl sk sq su wm) (St : cS G k (wx ++ wm) (tyX d ++ tyM d2) (fun q : Nat => s.heap.size ≤ q) s H locs) (hl : lv_has ls 4 [(3, .int i), (2, .ref hm), (1, .ref h), (0, .ref b)]) : W p l e room_1 s m #[Value.ref b] below meth c H locs cells slots (lw_Z below #[Value.ref b] s) (F0 m 144 ls []) := by
  obtain ⟨hx, hb, hr, hml, hown, hts, hX9, hbl, hlocks, hgv⟩ := id C0
  have hbA : ¬ (fun q : Nat => s.heap.size ≤ q) b := Nat.not_le.mpr hbl
  have F : CallFix p m c code 4 s #[Value.ref b] tb RL := ⟨hx, hb, hml, hown, fun w h => hts w (tb_in w h)⟩
  have hr1 := hroom.1
  have hr2 := hroom.2
  have y0 : (0 : Int32).toInt = 0 := by decide
  refine lv_aload_n hx hb dL_law_144 rfl (lv_at hl 2 rfl) ?_
  refine lv_aload_n hx hb dL_law_145 rfl (lv_at hl 3 rfl) ?_
  refine lv_iload_n hx hb dL_law_146 rfl (lv_at hl 0 rfl) ?_
  refine lv_iconst (v := 1) hx hb dL_law_147 (by decide) ?_
  refine lv_iadd hx hb dL_law_148 ?_
  refine lv_topi (fun y_1 ey_1 => ?_)
  first | have jy_1 : y_1.toInt = i.toInt + 1 := (by have q9 := ci_add (x := i) (y := 1) rfl (show (1 : Int32).toInt = 1 by decide) ey_1; omega) | have jy_1 := ci_add (x := i) (y := 1) rfl (show (1 : Int32).toInt = 1 by decide) ey_1
  refine va_sld hx hb hX9 hbl hbA St.toS (vp_in_iff.mpr ⟨by omega, by omega⟩) dL_law_149 ?_
  refine lv_topi (fun y_2 ey_2 => ?_)
  refine lv_aload_n hx hb dL_law_150 rfl (lv_at hl 3 rfl) ?_
  refine lv_iload_n hx hb dL_law_151 rfl (lv_at hl 0 rfl) ?_
  refine lv_iconst (v := 2) hx hb dL_law_152 (by decide) ?_
  refine lv_iadd hx hb dL_law_153 ?_
  refine lv_topi (fun y_3 ey_3 => ?_)
  first | have jy_3 : y_3.toInt = i.toInt + 2 := (by have q9 := ci_add (x := i) (y := 2) rfl (show (2 : Int32).toInt = 2 by decide) ey_3; omega) | have jy_3 := ci_add (x := i) (y := 2) rfl (show (2 : Int32).toInt = 2 by decide) ey_3
  refine va_sld hx hb hX9 hbl hbA St.toS (vp_in_iff.mpr ⟨by omega, by omega⟩) dL_law_154 ?_
  refine lv_topi (fun y_4 ey_4 => ?_)
  refine lv_aload_n hx hb dL_law_155 rfl (lv_at hl 3 rfl) ?_
  refine lv_iload_n hx hb dL_law_156 rfl (lv_at hl 0 rfl) ?_
  refine lv_iconst (v := 3) hx hb dL_law_157 (by decide) ?_
  refine lv_iadd hx hb dL_law_158 ?_
  refine lv_topi (fun y_5 ey_5 => ?_)
  first | have jy_5 : y_5.toInt = i.toInt + 3 := (by have q9 := ci_add (x := i) (y := 3) rfl (show (3 : Int32).toInt = 3 by decide) ey_5; omega) | have jy_5 := ci_add (x := i) (y := 3) rfl (show (3 : Int32).toInt = 3 by decide) ey_5
  refine va_sld hx hb hX9 hbl hbA St.toS (vp_in_iff.mpr ⟨by omega, by omega⟩) dL_law_159 ?_
  refine lv_topi (fun y_6 ey_6 => ?_)
  refine lv_aload_n hx hb dL_law_160 rfl (lv_at hl 3 rfl) ?_
  refine lv_iload_n hx hb dL_law_161 rfl (lv_at hl 0 rfl) ?_
  refine lv_iconst (v := 4) hx hb dL_law_162 (by decide) ?_
  refine lv_iadd hx hb dL_law_163 ?_
  refine lv_topi (fun y_7 ey_7 => ?_)
  first | have jy_7 : y_7.toInt = i.toInt + 4 := (by have q9 := ci_add (x := i) (y := 4) rfl (show (4 : Int32).toInt = 4 by decide) ey_7; omega) | have jy_7 := ci_add (x := i) (y := 4) rfl (show (4 : Int32).toInt = 4 by decide) ey_7
  refine va_sld hx hb hX9 hbl hbA St.toS (vp_in_iff.mpr ⟨by omega, by omega⟩) dL_law_164 ?_
  refine lv_topi (fun y_8 ey_8 => ?_)
  refine lv_aload_n hx hb dL_law_165 rfl (lv_at hl 3 rfl) ?_
  refine lv_iload_n hx hb dL_law_166 rfl (lv_at hl 0 rfl) ?_
  refine lv_iconst (v := 5) hx hb dL_law_167 (by decide) ?_
  refine lv_iadd hx hb dL_law_168 ?_
  refine lv_topi (fun y_9 ey_9 => ?_)
  first | have jy_9 : y_9.toInt = i.toInt + 5 := (by have q9 := ci_add (x := i) (y := 5) rfl (show (5 : Int32).toInt = 5 by decide) ey_9; omega) | have jy_9 := ci_add (x := i) (y := 5) rfl (show (5 : Int32).toInt = 5 by decide) ey_9
  refine va_sld hx hb hX9 hbl hbA St.toS (vp_in_iff.mpr ⟨by omega, by omega⟩) dL_law_169 ?_
  refine lv_topi (fun y_10 ey_10 => ?_)
  refine lx_feed (rest := []) F hl St hX (Nat.le_of_ble_eq_true rfl) ⟨by omega, by omega⟩ km_L_13 dL_law_170 y_2 y_4 y_6 y_8 y_10 (fun r_11 n2_12 f2_13 wx_14 H locs hf_15 hg_16 St => ?_)
  refine lv_pop hx hb dL_law_173 rfl ?_
  refine lv_aload_n hx hb dL_law_174 rfl (lv_at hl 1 rfl) ?_
  refine lv_aload_n hx hb dL_law_175 rfl (lv_at hl 3 rfl) ?_
  refine lv_iload_n hx hb dL_law_176 rfl (lv_at hl 0 rfl) ?_
  refine lv_iconst (v := 1) hx hb dL_law_177 (by decide) ?_
  refine lv_iadd hx hb dL_law_178 ?_
  refine top_i (y := y_1) ey_1.symm ?_
  refine va_sld hx hb hX9 hbl hbA St.toS (vp_in_iff.mpr ⟨by omega, by omega⟩) dL_law_179 ?_
  refine top_i (y := y_2) ey_2.symm ?_
  refine lv_aload_n hx hb dL_law_180 rfl (lv_at hl 3 rfl) ?_
  refine lv_iload_n hx hb dL_law_181 rfl (lv_at hl 0 rfl) ?_
  refine lv_iconst (v := 2) hx hb dL_law_182 (by decide) ?_
  refine lv_iadd hx hb dL_law_183 ?_
  refine top_i (y := y_3) ey_3.symm ?_
  refine va_sld hx hb hX9 hbl hbA St.toS (vp_in_iff.mpr ⟨by omega, by omega⟩) dL_law_184 ?_
  refine top_i (y := y_4) ey_4.symm ?_
  refine lv_aload_n hx hb dL_law_185 rfl (lv_at hl 3 rfl) ?_
  refine lv_iload_n hx hb dL_law_186 rfl (lv_at hl 0 rfl) ?_
  refine lv_iconst (v := 3) hx hb dL_law_187 (by decide) ?_
  refine lv_iadd hx hb dL_law_188 ?_
  refine top_i (y := y_5) ey_5.symm ?_
  refine va_sld hx hb hX9 hbl hbA St.toS (vp_in_iff.mpr ⟨by omega, by omega⟩) dL_law_189 ?_
  refine top_i (y := y_6) ey_6.symm ?_
  refine lv_aload_n hx hb dL_law_190 rfl (lv_at hl 3 rfl) ?_
  refine lv_iload_n hx hb dL_law_191 rfl (lv_at hl 0 rfl) ?_
  refine lv_iconst (v := 4) hx hb dL_law_192 (by decide) ?_
  refine lv_iadd hx hb dL_law_193 ?_
  refine top_i (y := y_7) ey_7.symm ?_
  refine va_sld hx hb hX9 hbl hbA St.toS (vp_in_iff.mpr ⟨by omega, by omega⟩) dL_law_194 ?_
  refine top_i (y := y_8) ey_8.symm ?_
  refine lv_aload_n hx hb dL_law_195 rfl (lv_at hl 3 rfl) ?_
  refine lv_iload_n hx hb dL_law_196 rfl (lv_at hl 0 rfl) ?_
  refine lv_iconst (v := 5) hx hb dL_law_197 (by decide) ?_
  refine lv_iadd hx hb dL_law_198 ?_
  refine top_i (y := y_9) ey_9.symm ?_
  refine va_sld hx hb hX9 hbl hbA St.toS (vp_in_iff.mpr ⟨by omega, by omega⟩) dL_law_199 ?_
  refine top_i (y := y_10) ey_10.symm ?_
  refine lm_feed (rest := []) F hl St hM (Nat.le_of_ble_eq_true rfl) ⟨by omega, by omega⟩ km_L_17 dL_law_200 y_2 y_4 y_6 y_8 y_10 (fun r_17 n2_18 f2_19 wm_20 H locs hf_21 hg_22 St => ?_)
  obtain ⟨rfl, rfl, rfl⟩ : r_11 = r_17 ∧ n2_12 = n2_18 ∧ f2_13 = f2_19 := rel_feed hf_15 hf_21
  refine lv_pop hx hb dL_law_203 rfl ?_
  refine lv_goto (tgt := 852) hx hb dL_law_204 (by decide) ?_
  refine W.widen (k := cells + 4) (n := slots + 264) (by omega) (by omega) ?_
  exact kk n2_12 cl sp bn tn g2 f2_13 fr rk rp tP sn u0 u1 u2 u3 g0 g1 g3 ma ta co lo gr pd td sc sl sk sq su wx_14 wm_20 H locs ls hg_16 hg_22 St (lv_sub hl [0, 1, 2, 3] rfl)
set_option maxHeartbeats 40000000 in
set_option maxRecDepth 100000 in
theorem law_case1 {p : Program} {e : Env} {s : State} {m : MethodId} {below : List Frame} {meth : Method} {c : Code} {l : Launch} {b L : Nat} {xs : Nat → Int32} (hL : L ≤ 3072) (C0 : lw_At p s m meth c b L xs) (G : va_G) (k : Nat → Nat) (h hm : Nat) (a a2 : Nat → Nat) (d d2 : Nat → ClassId) (i : Int32) (cells slots : Nat) (hi0 : 0 ≤ i.toInt) (hi1 : i.toInt + 6 ≤ L) (hroom : cells + 4 ≤ room_1.cells ∧ slots + 264 ≤ room_1.slots) (nn : Int32) (cl : Int32) (sp : Int32) (bn : Int32) (tn : Int32) (g2 : Nat → Int32) (ft0 : Nat → Int32) (fr : Nat → Int32) (rk : Int32) (rp : Int32) (tP : Nat → Pl9) (sn : Int32) (u0 : Nat → Int32) (u1 : Nat → Int32) (u2 : Nat → Int32) (u3 : Nat → Int32) (g0 : Nat → Int32) (g1 : Nat → Int32) (g3 : Nat → Int32) (ma : Int) (ta : Int) (co : Int) (lo : Int) (gr : Int32) (pd : Int32) (td : Int32) (sc : Nat → Int32) (sl : Nat → Int32) (sk : Nat → Int32) (sq : Nat → Int32) (su : Nat → Int32) (wx wm : va_W) (H : Heap) (locs : List Loc) (ls : Array Slot) (kk : ∀ (nn : Int32) (cl : Int32) (sp : Int32) (bn : Int32) (tn : Int32) (g2 : Nat → Int32) (ft0 : Nat → Int32) (fr : Nat → Int32) (rk : Int32) (rp : Int32) (tP : Nat → Pl9) (sn : Int32) (u0 : Nat → Int32) (u1 : Nat → Int32) (u2 : Nat → Int32) (u3 : Nat → Int32) (g0 : Nat → Int32) (g1 : Nat → Int32) (g3 : Nat → Int32) (ma : Int) (ta : Int) (co : Int) (lo : Int) (gr : Int32) (pd : Int32) (td : Int32) (sc : Nat → Int32) (sl : Nat → Int32) (sk : Nat → Int32) (sq : Nat → Int32) (su : Nat → Int32) (wx wm : va_W) (H : Heap) (locs : List Loc) (ls : Array Slot), gX h a d nn cl sp bn tn g2 ft0 fr rk rp tP sn u0 u1 u2 u3 g0 g1 g3 ma ta co lo gr pd td sc sl sk sq su wx → gM hm a2 d2 nn cl sp bn tn g2 ft0 fr rk rp tP sn u0 u1 u2 u3 g0 g1 g3 ma ta co lo gr pd td sc sl sk sq su wm → cS G k (wx ++ wm) (tyX d ++ tyM d2) (fun q : Nat => s.heap.size ≤ q) s H locs → lv_has ls 4 [(3, .int i), (2, .ref hm), (1, .ref h), (0, .ref b)] → W p l e room_1 s m #[Value.ref b] below meth c H locs (cells + 4) (slots + 264) (lw_Z below #[Value.ref b] s) (F0 m 852 ls [])) (hX : gX h a d nn cl sp bn tn g2 ft0 fr rk rp tP sn u0 u1 u2 u3 g0 g1 g3 ma ta co lo gr pd td sc sl sk sq su wx) (hM : gM hm a2 d2 nn cl sp bn tn g2 ft0 fr rk rp tP sn u0 u1 u2 u3 g0 g1 g3 ma ta co lo gr pd td sc sl sk sq su wm) (St : cS G k (wx ++ wm) (tyX d ++ tyM d2) (fun q : Nat => s.heap.size ≤ q) s H locs) (hl : lv_has ls 4 [(3, .int i), (2, .ref hm), (1, .ref h), (0, .ref b)]) : W p l e room_1 s m #[Value.ref b] below meth c H locs cells slots (lw_Z below #[Value.ref b] s) (F0 m 207 ls []) := by
  obtain ⟨hx, hb, hr, hml, hown, hts, hX9, hbl, hlocks, hgv⟩ := id C0
  have hbA : ¬ (fun q : Nat => s.heap.size ≤ q) b := Nat.not_le.mpr hbl
  have F : CallFix p m c code 4 s #[Value.ref b] tb RL := ⟨hx, hb, hml, hown, fun w h => hts w (tb_in w h)⟩
  have hr1 := hroom.1
  have hr2 := hroom.2
  have y0 : (0 : Int32).toInt = 0 := by decide
  refine lv_aload_n hx hb dL_law_207 rfl (lv_at hl 2 rfl) ?_
  refine lv_aload_n hx hb dL_law_208 rfl (lv_at hl 3 rfl) ?_
  refine lv_iload_n hx hb dL_law_209 rfl (lv_at hl 0 rfl) ?_
  refine lv_iconst (v := 1) hx hb dL_law_210 (by decide) ?_
  refine lv_iadd hx hb dL_law_211 ?_
  refine lv_topi (fun y_1 ey_1 => ?_)
  first | have jy_1 : y_1.toInt = i.toInt + 1 := (by have q9 := ci_add (x := i) (y := 1) rfl (show (1 : Int32).toInt = 1 by decide) ey_1; omega) | have jy_1 := ci_add (x := i) (y := 1) rfl (show (1 : Int32).toInt = 1 by decide) ey_1
  refine va_sld hx hb hX9 hbl hbA St.toS (vp_in_iff.mpr ⟨by omega, by omega⟩) dL_law_212 ?_
  refine lv_topi (fun y_2 ey_2 => ?_)
  refine lx_end (rest := []) F hl St hX (Nat.le_of_ble_eq_true rfl) ⟨by omega, by omega⟩ km_L_18 dL_law_213 y_2 (fun r_3 n2_4 wx_5 H locs hf_6 hg_7 St => ?_)
  refine lv_pop hx hb dL_law_216 rfl ?_
  refine lv_aload_n hx hb dL_law_217 rfl (lv_at hl 1 rfl) ?_
  refine lv_aload_n hx hb dL_law_218 rfl (lv_at hl 3 rfl) ?_
  refine lv_iload_n hx hb dL_law_219 rfl (lv_at hl 0 rfl) ?_
  refine lv_iconst (v := 1) hx hb dL_law_220 (by decide) ?_
  refine lv_iadd hx hb dL_law_221 ?_
  refine top_i (y := y_1) ey_1.symm ?_
  refine va_sld hx hb hX9 hbl hbA St.toS (vp_in_iff.mpr ⟨by omega, by omega⟩) dL_law_222 ?_
  refine top_i (y := y_2) ey_2.symm ?_
  refine lm_end (rest := []) F hl St hM (Nat.le_of_ble_eq_true rfl) ⟨by omega, by omega⟩ km_L_22 dL_law_223 y_2 (fun r_8 n2_9 wm_10 H locs hf_11 hg_12 St => ?_)
  obtain ⟨rfl, rfl⟩ : r_3 = r_8 ∧ n2_4 = n2_9 := rel_end hf_6 hf_11
  refine lv_pop hx hb dL_law_226 rfl ?_
  refine lv_goto (tgt := 852) hx hb dL_law_227 (by decide) ?_
  refine W.widen (k := cells + 4) (n := slots + 264) (by omega) (by omega) ?_
  exact kk n2_4 cl sp bn tn g2 ft0 fr rk rp tP sn u0 u1 u2 u3 g0 g1 g3 ma ta co lo gr pd td sc sl sk sq su wx_5 wm_10 H locs ls hg_7 hg_12 St (lv_sub hl [0, 1, 2, 3] rfl)
set_option maxHeartbeats 40000000 in
set_option maxRecDepth 100000 in
theorem law_case2 {p : Program} {e : Env} {s : State} {m : MethodId} {below : List Frame} {meth : Method} {c : Code} {l : Launch} {b L : Nat} {xs : Nat → Int32} (hL : L ≤ 3072) (C0 : lw_At p s m meth c b L xs) (G : va_G) (k : Nat → Nat) (h hm : Nat) (a a2 : Nat → Nat) (d d2 : Nat → ClassId) (i : Int32) (cells slots : Nat) (hi0 : 0 ≤ i.toInt) (hi1 : i.toInt + 6 ≤ L) (hroom : cells + 4 ≤ room_1.cells ∧ slots + 264 ≤ room_1.slots) (nn : Int32) (cl : Int32) (sp : Int32) (bn : Int32) (tn : Int32) (g2 : Nat → Int32) (ft0 : Nat → Int32) (fr : Nat → Int32) (rk : Int32) (rp : Int32) (tP : Nat → Pl9) (sn : Int32) (u0 : Nat → Int32) (u1 : Nat → Int32) (u2 : Nat → Int32) (u3 : Nat → Int32) (g0 : Nat → Int32) (g1 : Nat → Int32) (g3 : Nat → Int32) (ma : Int) (ta : Int) (co : Int) (lo : Int) (gr : Int32) (pd : Int32) (td : Int32) (sc : Nat → Int32) (sl : Nat → Int32) (sk : Nat → Int32) (sq : Nat → Int32) (su : Nat → Int32) (wx wm : va_W) (H : Heap) (locs : List Loc) (ls : Array Slot) (kk : ∀ (nn : Int32) (cl : Int32) (sp : Int32) (bn : Int32) (tn : Int32) (g2 : Nat → Int32) (ft0 : Nat → Int32) (fr : Nat → Int32) (rk : Int32) (rp : Int32) (tP : Nat → Pl9) (sn : Int32) (u0 : Nat → Int32) (u1 : Nat → Int32) (u2 : Nat → Int32) (u3 : Nat → Int32) (g0 : Nat → Int32) (g1 : Nat → Int32) (g3 : Nat → Int32) (ma : Int) (ta : Int) (co : Int) (lo : Int) (gr : Int32) (pd : Int32) (td : Int32) (sc : Nat → Int32) (sl : Nat → Int32) (sk : Nat → Int32) (sq : Nat → Int32) (su : Nat → Int32) (wx wm : va_W) (H : Heap) (locs : List Loc) (ls : Array Slot), gX h a d nn cl sp bn tn g2 ft0 fr rk rp tP sn u0 u1 u2 u3 g0 g1 g3 ma ta co lo gr pd td sc sl sk sq su wx → gM hm a2 d2 nn cl sp bn tn g2 ft0 fr rk rp tP sn u0 u1 u2 u3 g0 g1 g3 ma ta co lo gr pd td sc sl sk sq su wm → cS G k (wx ++ wm) (tyX d ++ tyM d2) (fun q : Nat => s.heap.size ≤ q) s H locs → lv_has ls 4 [(3, .int i), (2, .ref hm), (1, .ref h), (0, .ref b)] → W p l e room_1 s m #[Value.ref b] below meth c H locs (cells + 4) (slots + 264) (lw_Z below #[Value.ref b] s) (F0 m 852 ls [])) (hX : gX h a d nn cl sp bn tn g2 ft0 fr rk rp tP sn u0 u1 u2 u3 g0 g1 g3 ma ta co lo gr pd td sc sl sk sq su wx) (hM : gM hm a2 d2 nn cl sp bn tn g2 ft0 fr rk rp tP sn u0 u1 u2 u3 g0 g1 g3 ma ta co lo gr pd td sc sl sk sq su wm) (St : cS G k (wx ++ wm) (tyX d ++ tyM d2) (fun q : Nat => s.heap.size ≤ q) s H locs) (hl : lv_has ls 4 [(3, .int i), (2, .ref hm), (1, .ref h), (0, .ref b)]) : W p l e room_1 s m #[Value.ref b] below meth c H locs cells slots (lw_Z below #[Value.ref b] s) (F0 m 230 ls []) := by
  obtain ⟨hx, hb, hr, hml, hown, hts, hX9, hbl, hlocks, hgv⟩ := id C0
  have hbA : ¬ (fun q : Nat => s.heap.size ≤ q) b := Nat.not_le.mpr hbl
  have F : CallFix p m c code 4 s #[Value.ref b] tb RL := ⟨hx, hb, hml, hown, fun w h => hts w (tb_in w h)⟩
  have hr1 := hroom.1
  have hr2 := hroom.2
  have y0 : (0 : Int32).toInt = 0 := by decide
  refine lv_aload_n hx hb dL_law_230 rfl (lv_at hl 2 rfl) ?_
  refine lx_trust (rest := []) F hl St hX (Nat.le_of_ble_eq_true rfl) ⟨by omega, by omega⟩ km_L_23 dL_law_231 (fun r_1 rk2_2 rp2_3 fr2_4 wx_5 H locs hf_6 hg_7 St => ?_)
  refine lv_pop hx hb dL_law_234 rfl ?_
  refine lv_aload_n hx hb dL_law_235 rfl (lv_at hl 1 rfl) ?_
  refine lm_trust (rest := []) F hl St hM (Nat.le_of_ble_eq_true rfl) ⟨by omega, by omega⟩ km_L_27 dL_law_236 (fun r_8 rk2_9 rp2_10 fr2_11 wm_12 H locs hf_13 hg_14 St => ?_)
  obtain ⟨rfl, rfl, rfl, rfl⟩ : r_1 = r_8 ∧ rk2_2 = rk2_9 ∧ rp2_3 = rp2_10 ∧ fr2_4 = fr2_11 := rel_trust hf_6 hf_13
  refine lv_pop hx hb dL_law_239 rfl ?_
  refine lv_goto (tgt := 852) hx hb dL_law_240 (by decide) ?_
  refine W.widen (k := cells + 4) (n := slots + 264) (by omega) (by omega) ?_
  exact kk 0 cl sp bn tn g2 ft0 fr2_4 rk2_2 rp2_3 tP sn u0 u1 u2 u3 g0 g1 g3 ma ta co lo gr pd td sc sl sk sq su wx_5 wm_12 H locs ls hg_7 hg_14 St (lv_sub hl [0, 1, 2, 3] rfl)
set_option maxHeartbeats 40000000 in
set_option maxRecDepth 100000 in
theorem law_case3 {p : Program} {e : Env} {s : State} {m : MethodId} {below : List Frame} {meth : Method} {c : Code} {l : Launch} {b L : Nat} {xs : Nat → Int32} (hL : L ≤ 3072) (C0 : lw_At p s m meth c b L xs) (G : va_G) (k : Nat → Nat) (h hm : Nat) (a a2 : Nat → Nat) (d d2 : Nat → ClassId) (i : Int32) (cells slots : Nat) (hi0 : 0 ≤ i.toInt) (hi1 : i.toInt + 6 ≤ L) (hroom : cells + 4 ≤ room_1.cells ∧ slots + 264 ≤ room_1.slots) (nn : Int32) (cl : Int32) (sp : Int32) (bn : Int32) (tn : Int32) (g2 : Nat → Int32) (ft0 : Nat → Int32) (fr : Nat → Int32) (rk : Int32) (rp : Int32) (tP : Nat → Pl9) (sn : Int32) (u0 : Nat → Int32) (u1 : Nat → Int32) (u2 : Nat → Int32) (u3 : Nat → Int32) (g0 : Nat → Int32) (g1 : Nat → Int32) (g3 : Nat → Int32) (ma : Int) (ta : Int) (co : Int) (lo : Int) (gr : Int32) (pd : Int32) (td : Int32) (sc : Nat → Int32) (sl : Nat → Int32) (sk : Nat → Int32) (sq : Nat → Int32) (su : Nat → Int32) (wx wm : va_W) (H : Heap) (locs : List Loc) (ls : Array Slot) (kk : ∀ (nn : Int32) (cl : Int32) (sp : Int32) (bn : Int32) (tn : Int32) (g2 : Nat → Int32) (ft0 : Nat → Int32) (fr : Nat → Int32) (rk : Int32) (rp : Int32) (tP : Nat → Pl9) (sn : Int32) (u0 : Nat → Int32) (u1 : Nat → Int32) (u2 : Nat → Int32) (u3 : Nat → Int32) (g0 : Nat → Int32) (g1 : Nat → Int32) (g3 : Nat → Int32) (ma : Int) (ta : Int) (co : Int) (lo : Int) (gr : Int32) (pd : Int32) (td : Int32) (sc : Nat → Int32) (sl : Nat → Int32) (sk : Nat → Int32) (sq : Nat → Int32) (su : Nat → Int32) (wx wm : va_W) (H : Heap) (locs : List Loc) (ls : Array Slot), gX h a d nn cl sp bn tn g2 ft0 fr rk rp tP sn u0 u1 u2 u3 g0 g1 g3 ma ta co lo gr pd td sc sl sk sq su wx → gM hm a2 d2 nn cl sp bn tn g2 ft0 fr rk rp tP sn u0 u1 u2 u3 g0 g1 g3 ma ta co lo gr pd td sc sl sk sq su wm → cS G k (wx ++ wm) (tyX d ++ tyM d2) (fun q : Nat => s.heap.size ≤ q) s H locs → lv_has ls 4 [(3, .int i), (2, .ref hm), (1, .ref h), (0, .ref b)] → W p l e room_1 s m #[Value.ref b] below meth c H locs (cells + 4) (slots + 264) (lw_Z below #[Value.ref b] s) (F0 m 852 ls [])) (hX : gX h a d nn cl sp bn tn g2 ft0 fr rk rp tP sn u0 u1 u2 u3 g0 g1 g3 ma ta co lo gr pd td sc sl sk sq su wx) (hM : gM hm a2 d2 nn cl sp bn tn g2 ft0 fr rk rp tP sn u0 u1 u2 u3 g0 g1 g3 ma ta co lo gr pd td sc sl sk sq su wm) (St : cS G k (wx ++ wm) (tyX d ++ tyM d2) (fun q : Nat => s.heap.size ≤ q) s H locs) (hl : lv_has ls 4 [(3, .int i), (2, .ref hm), (1, .ref h), (0, .ref b)]) : W p l e room_1 s m #[Value.ref b] below meth c H locs cells slots (lw_Z below #[Value.ref b] s) (F0 m 243 ls []) := by
  obtain ⟨hx, hb, hr, hml, hown, hts, hX9, hbl, hlocks, hgv⟩ := id C0
  have hbA : ¬ (fun q : Nat => s.heap.size ≤ q) b := Nat.not_le.mpr hbl
  have F : CallFix p m c code 4 s #[Value.ref b] tb RL := ⟨hx, hb, hml, hown, fun w h => hts w (tb_in w h)⟩
  have hr1 := hroom.1
  have hr2 := hroom.2
  have y0 : (0 : Int32).toInt = 0 := by decide
  refine lv_aload_n hx hb dL_law_243 rfl (lv_at hl 2 rfl) ?_
  refine lv_aload_n hx hb dL_law_244 rfl (lv_at hl 3 rfl) ?_
  refine lv_iload_n hx hb dL_law_245 rfl (lv_at hl 0 rfl) ?_
  refine lv_iconst (v := 1) hx hb dL_law_246 (by decide) ?_
  refine lv_iadd hx hb dL_law_247 ?_
  refine lv_topi (fun y_1 ey_1 => ?_)
  first | have jy_1 : y_1.toInt = i.toInt + 1 := (by have q9 := ci_add (x := i) (y := 1) rfl (show (1 : Int32).toInt = 1 by decide) ey_1; omega) | have jy_1 := ci_add (x := i) (y := 1) rfl (show (1 : Int32).toInt = 1 by decide) ey_1
  refine va_sld hx hb hX9 hbl hbA St.toS (vp_in_iff.mpr ⟨by omega, by omega⟩) dL_law_248 ?_
  refine lv_topi (fun y_2 ey_2 => ?_)
  refine lx_fault (rest := []) F hl St hX (Nat.le_of_ble_eq_true rfl) ⟨by omega, by omega⟩ km_L_28 dL_law_249 y_2 (fun r_3 wx_4 H locs hf_5 hg_6 St => ?_)
  refine lv_pop hx hb dL_law_252 rfl ?_
  refine lv_aload_n hx hb dL_law_253 rfl (lv_at hl 1 rfl) ?_
  refine lv_aload_n hx hb dL_law_254 rfl (lv_at hl 3 rfl) ?_
  refine lv_iload_n hx hb dL_law_255 rfl (lv_at hl 0 rfl) ?_
  refine lv_iconst (v := 1) hx hb dL_law_256 (by decide) ?_
  refine lv_iadd hx hb dL_law_257 ?_
  refine top_i (y := y_1) ey_1.symm ?_
  refine va_sld hx hb hX9 hbl hbA St.toS (vp_in_iff.mpr ⟨by omega, by omega⟩) dL_law_258 ?_
  refine top_i (y := y_2) ey_2.symm ?_
  refine lm_fault (rest := []) F hl St hM (Nat.le_of_ble_eq_true rfl) ⟨by omega, by omega⟩ km_L_31 dL_law_259 y_2 (fun r_7 wm_8 H locs hf_9 hg_10 St => ?_)
  obtain rfl : r_3 = r_7 := rel_fault hf_5 hf_9
  refine lv_pop hx hb dL_law_262 rfl ?_
  refine lv_goto (tgt := 852) hx hb dL_law_263 (by decide) ?_
  refine W.widen (k := cells + 4) (n := slots + 264) (by omega) (by omega) ?_
  exact kk nn cl sp bn tn g2 ft0 fr rk rp tP sn u0 u1 u2 u3 g0 g1 g3 ma ta co lo gr pd td sc sl sk sq su wx_4 wm_8 H locs ls hg_6 hg_10 St (lv_sub hl [0, 1, 2, 3] rfl)
set_option maxHeartbeats 40000000 in
set_option maxRecDepth 100000 in
theorem law_case4 {p : Program} {e : Env} {s : State} {m : MethodId} {below : List Frame} {meth : Method} {c : Code} {l : Launch} {b L : Nat} {xs : Nat → Int32} (hL : L ≤ 3072) (C0 : lw_At p s m meth c b L xs) (G : va_G) (k : Nat → Nat) (h hm : Nat) (a a2 : Nat → Nat) (d d2 : Nat → ClassId) (i : Int32) (cells slots : Nat) (hi0 : 0 ≤ i.toInt) (hi1 : i.toInt + 6 ≤ L) (hroom : cells + 4 ≤ room_1.cells ∧ slots + 264 ≤ room_1.slots) (nn : Int32) (cl : Int32) (sp : Int32) (bn : Int32) (tn : Int32) (g2 : Nat → Int32) (ft0 : Nat → Int32) (fr : Nat → Int32) (rk : Int32) (rp : Int32) (tP : Nat → Pl9) (sn : Int32) (u0 : Nat → Int32) (u1 : Nat → Int32) (u2 : Nat → Int32) (u3 : Nat → Int32) (g0 : Nat → Int32) (g1 : Nat → Int32) (g3 : Nat → Int32) (ma : Int) (ta : Int) (co : Int) (lo : Int) (gr : Int32) (pd : Int32) (td : Int32) (sc : Nat → Int32) (sl : Nat → Int32) (sk : Nat → Int32) (sq : Nat → Int32) (su : Nat → Int32) (wx wm : va_W) (H : Heap) (locs : List Loc) (ls : Array Slot) (kk : ∀ (nn : Int32) (cl : Int32) (sp : Int32) (bn : Int32) (tn : Int32) (g2 : Nat → Int32) (ft0 : Nat → Int32) (fr : Nat → Int32) (rk : Int32) (rp : Int32) (tP : Nat → Pl9) (sn : Int32) (u0 : Nat → Int32) (u1 : Nat → Int32) (u2 : Nat → Int32) (u3 : Nat → Int32) (g0 : Nat → Int32) (g1 : Nat → Int32) (g3 : Nat → Int32) (ma : Int) (ta : Int) (co : Int) (lo : Int) (gr : Int32) (pd : Int32) (td : Int32) (sc : Nat → Int32) (sl : Nat → Int32) (sk : Nat → Int32) (sq : Nat → Int32) (su : Nat → Int32) (wx wm : va_W) (H : Heap) (locs : List Loc) (ls : Array Slot), gX h a d nn cl sp bn tn g2 ft0 fr rk rp tP sn u0 u1 u2 u3 g0 g1 g3 ma ta co lo gr pd td sc sl sk sq su wx → gM hm a2 d2 nn cl sp bn tn g2 ft0 fr rk rp tP sn u0 u1 u2 u3 g0 g1 g3 ma ta co lo gr pd td sc sl sk sq su wm → cS G k (wx ++ wm) (tyX d ++ tyM d2) (fun q : Nat => s.heap.size ≤ q) s H locs → lv_has ls 4 [(3, .int i), (2, .ref hm), (1, .ref h), (0, .ref b)] → W p l e room_1 s m #[Value.ref b] below meth c H locs (cells + 4) (slots + 264) (lw_Z below #[Value.ref b] s) (F0 m 852 ls [])) (hX : gX h a d nn cl sp bn tn g2 ft0 fr rk rp tP sn u0 u1 u2 u3 g0 g1 g3 ma ta co lo gr pd td sc sl sk sq su wx) (hM : gM hm a2 d2 nn cl sp bn tn g2 ft0 fr rk rp tP sn u0 u1 u2 u3 g0 g1 g3 ma ta co lo gr pd td sc sl sk sq su wm) (St : cS G k (wx ++ wm) (tyX d ++ tyM d2) (fun q : Nat => s.heap.size ≤ q) s H locs) (hl : lv_has ls 4 [(3, .int i), (2, .ref hm), (1, .ref h), (0, .ref b)]) : W p l e room_1 s m #[Value.ref b] below meth c H locs cells slots (lw_Z below #[Value.ref b] s) (F0 m 266 ls []) := by
  obtain ⟨hx, hb, hr, hml, hown, hts, hX9, hbl, hlocks, hgv⟩ := id C0
  have hbA : ¬ (fun q : Nat => s.heap.size ≤ q) b := Nat.not_le.mpr hbl
  have F : CallFix p m c code 4 s #[Value.ref b] tb RL := ⟨hx, hb, hml, hown, fun w h => hts w (tb_in w h)⟩
  have hr1 := hroom.1
  have hr2 := hroom.2
  have y0 : (0 : Int32).toInt = 0 := by decide
  refine lv_aload_n hx hb dL_law_266 rfl (lv_at hl 2 rfl) ?_
  refine lv_aload_n hx hb dL_law_267 rfl (lv_at hl 3 rfl) ?_
  refine lv_iload_n hx hb dL_law_268 rfl (lv_at hl 0 rfl) ?_
  refine lv_iconst (v := 1) hx hb dL_law_269 (by decide) ?_
  refine lv_iadd hx hb dL_law_270 ?_
  refine lv_topi (fun y_1 ey_1 => ?_)
  first | have jy_1 : y_1.toInt = i.toInt + 1 := (by have q9 := ci_add (x := i) (y := 1) rfl (show (1 : Int32).toInt = 1 by decide) ey_1; omega) | have jy_1 := ci_add (x := i) (y := 1) rfl (show (1 : Int32).toInt = 1 by decide) ey_1
  refine va_sld hx hb hX9 hbl hbA St.toS (vp_in_iff.mpr ⟨by omega, by omega⟩) dL_law_271 ?_
  refine lv_topi (fun y_2 ey_2 => ?_)
  refine lx_rule (rest := []) F hl St hX (Nat.le_of_ble_eq_true rfl) ⟨by omega, by omega⟩ km_L_32 dL_law_272 y_2 (fun r_3 wx_4 H locs hf_5 hg_6 St => ?_)
  refine lv_pop hx hb dL_law_275 rfl ?_
  refine lv_aload_n hx hb dL_law_276 rfl (lv_at hl 1 rfl) ?_
  refine lv_aload_n hx hb dL_law_277 rfl (lv_at hl 3 rfl) ?_
  refine lv_iload_n hx hb dL_law_278 rfl (lv_at hl 0 rfl) ?_
  refine lv_iconst (v := 1) hx hb dL_law_279 (by decide) ?_
  refine lv_iadd hx hb dL_law_280 ?_
  refine top_i (y := y_1) ey_1.symm ?_
  refine va_sld hx hb hX9 hbl hbA St.toS (vp_in_iff.mpr ⟨by omega, by omega⟩) dL_law_281 ?_
  refine top_i (y := y_2) ey_2.symm ?_
  refine lm_rule (rest := []) F hl St hM (Nat.le_of_ble_eq_true rfl) ⟨by omega, by omega⟩ km_L_35 dL_law_282 y_2 (fun r_7 wm_8 H locs hf_9 hg_10 St => ?_)
  obtain rfl : r_3 = r_7 := rel_rule hf_5 hf_9
  refine lv_pop hx hb dL_law_285 rfl ?_
  refine lv_goto (tgt := 852) hx hb dL_law_286 (by decide) ?_
  refine W.widen (k := cells + 4) (n := slots + 264) (by omega) (by omega) ?_
  exact kk nn cl sp bn tn g2 ft0 fr rk rp tP sn u0 u1 u2 u3 g0 g1 g3 ma ta co lo gr pd td sc sl sk sq su wx_4 wm_8 H locs ls hg_6 hg_10 St (lv_sub hl [0, 1, 2, 3] rfl)
set_option maxHeartbeats 40000000 in
set_option maxRecDepth 100000 in
theorem law_case5 {p : Program} {e : Env} {s : State} {m : MethodId} {below : List Frame} {meth : Method} {c : Code} {l : Launch} {b L : Nat} {xs : Nat → Int32} (hL : L ≤ 3072) (C0 : lw_At p s m meth c b L xs) (G : va_G) (k : Nat → Nat) (h hm : Nat) (a a2 : Nat → Nat) (d d2 : Nat → ClassId) (i : Int32) (cells slots : Nat) (hi0 : 0 ≤ i.toInt) (hi1 : i.toInt + 6 ≤ L) (hroom : cells + 4 ≤ room_1.cells ∧ slots + 264 ≤ room_1.slots) (nn : Int32) (cl : Int32) (sp : Int32) (bn : Int32) (tn : Int32) (g2 : Nat → Int32) (ft0 : Nat → Int32) (fr : Nat → Int32) (rk : Int32) (rp : Int32) (tP : Nat → Pl9) (sn : Int32) (u0 : Nat → Int32) (u1 : Nat → Int32) (u2 : Nat → Int32) (u3 : Nat → Int32) (g0 : Nat → Int32) (g1 : Nat → Int32) (g3 : Nat → Int32) (ma : Int) (ta : Int) (co : Int) (lo : Int) (gr : Int32) (pd : Int32) (td : Int32) (sc : Nat → Int32) (sl : Nat → Int32) (sk : Nat → Int32) (sq : Nat → Int32) (su : Nat → Int32) (wx wm : va_W) (H : Heap) (locs : List Loc) (ls : Array Slot) (kk : ∀ (nn : Int32) (cl : Int32) (sp : Int32) (bn : Int32) (tn : Int32) (g2 : Nat → Int32) (ft0 : Nat → Int32) (fr : Nat → Int32) (rk : Int32) (rp : Int32) (tP : Nat → Pl9) (sn : Int32) (u0 : Nat → Int32) (u1 : Nat → Int32) (u2 : Nat → Int32) (u3 : Nat → Int32) (g0 : Nat → Int32) (g1 : Nat → Int32) (g3 : Nat → Int32) (ma : Int) (ta : Int) (co : Int) (lo : Int) (gr : Int32) (pd : Int32) (td : Int32) (sc : Nat → Int32) (sl : Nat → Int32) (sk : Nat → Int32) (sq : Nat → Int32) (su : Nat → Int32) (wx wm : va_W) (H : Heap) (locs : List Loc) (ls : Array Slot), gX h a d nn cl sp bn tn g2 ft0 fr rk rp tP sn u0 u1 u2 u3 g0 g1 g3 ma ta co lo gr pd td sc sl sk sq su wx → gM hm a2 d2 nn cl sp bn tn g2 ft0 fr rk rp tP sn u0 u1 u2 u3 g0 g1 g3 ma ta co lo gr pd td sc sl sk sq su wm → cS G k (wx ++ wm) (tyX d ++ tyM d2) (fun q : Nat => s.heap.size ≤ q) s H locs → lv_has ls 4 [(3, .int i), (2, .ref hm), (1, .ref h), (0, .ref b)] → W p l e room_1 s m #[Value.ref b] below meth c H locs (cells + 4) (slots + 264) (lw_Z below #[Value.ref b] s) (F0 m 852 ls [])) (hX : gX h a d nn cl sp bn tn g2 ft0 fr rk rp tP sn u0 u1 u2 u3 g0 g1 g3 ma ta co lo gr pd td sc sl sk sq su wx) (hM : gM hm a2 d2 nn cl sp bn tn g2 ft0 fr rk rp tP sn u0 u1 u2 u3 g0 g1 g3 ma ta co lo gr pd td sc sl sk sq su wm) (St : cS G k (wx ++ wm) (tyX d ++ tyM d2) (fun q : Nat => s.heap.size ≤ q) s H locs) (hl : lv_has ls 4 [(3, .int i), (2, .ref hm), (1, .ref h), (0, .ref b)]) : W p l e room_1 s m #[Value.ref b] below meth c H locs cells slots (lw_Z below #[Value.ref b] s) (F0 m 289 ls []) := by
  obtain ⟨hx, hb, hr, hml, hown, hts, hX9, hbl, hlocks, hgv⟩ := id C0
  have hbA : ¬ (fun q : Nat => s.heap.size ≤ q) b := Nat.not_le.mpr hbl
  have F : CallFix p m c code 4 s #[Value.ref b] tb RL := ⟨hx, hb, hml, hown, fun w h => hts w (tb_in w h)⟩
  have hr1 := hroom.1
  have hr2 := hroom.2
  have y0 : (0 : Int32).toInt = 0 := by decide
  refine lv_aload_n hx hb dL_law_289 rfl (lv_at hl 2 rfl) ?_
  refine lv_aload_n hx hb dL_law_290 rfl (lv_at hl 3 rfl) ?_
  refine lv_iload_n hx hb dL_law_291 rfl (lv_at hl 0 rfl) ?_
  refine lv_iconst (v := 1) hx hb dL_law_292 (by decide) ?_
  refine lv_iadd hx hb dL_law_293 ?_
  refine lv_topi (fun y_1 ey_1 => ?_)
  first | have jy_1 : y_1.toInt = i.toInt + 1 := (by have q9 := ci_add (x := i) (y := 1) rfl (show (1 : Int32).toInt = 1 by decide) ey_1; omega) | have jy_1 := ci_add (x := i) (y := 1) rfl (show (1 : Int32).toInt = 1 by decide) ey_1
  refine va_sld hx hb hX9 hbl hbA St.toS (vp_in_iff.mpr ⟨by omega, by omega⟩) dL_law_294 ?_
  refine lv_topi (fun y_2 ey_2 => ?_)
  refine lv_aload_n hx hb dL_law_295 rfl (lv_at hl 3 rfl) ?_
  refine lv_iload_n hx hb dL_law_296 rfl (lv_at hl 0 rfl) ?_
  refine lv_iconst (v := 2) hx hb dL_law_297 (by decide) ?_
  refine lv_iadd hx hb dL_law_298 ?_
  refine lv_topi (fun y_3 ey_3 => ?_)
  first | have jy_3 : y_3.toInt = i.toInt + 2 := (by have q9 := ci_add (x := i) (y := 2) rfl (show (2 : Int32).toInt = 2 by decide) ey_3; omega) | have jy_3 := ci_add (x := i) (y := 2) rfl (show (2 : Int32).toInt = 2 by decide) ey_3
  refine va_sld hx hb hX9 hbl hbA St.toS (vp_in_iff.mpr ⟨by omega, by omega⟩) dL_law_299 ?_
  refine lv_topi (fun y_4 ey_4 => ?_)
  refine lv_aload_n hx hb dL_law_300 rfl (lv_at hl 3 rfl) ?_
  refine lv_iload_n hx hb dL_law_301 rfl (lv_at hl 0 rfl) ?_
  refine lv_iconst (v := 3) hx hb dL_law_302 (by decide) ?_
  refine lv_iadd hx hb dL_law_303 ?_
  refine lv_topi (fun y_5 ey_5 => ?_)
  first | have jy_5 : y_5.toInt = i.toInt + 3 := (by have q9 := ci_add (x := i) (y := 3) rfl (show (3 : Int32).toInt = 3 by decide) ey_5; omega) | have jy_5 := ci_add (x := i) (y := 3) rfl (show (3 : Int32).toInt = 3 by decide) ey_5
  refine va_sld hx hb hX9 hbl hbA St.toS (vp_in_iff.mpr ⟨by omega, by omega⟩) dL_law_304 ?_
  refine lv_topi (fun y_6 ey_6 => ?_)
  refine lx_declare (rest := []) F hl St hX (Nat.le_of_ble_eq_true rfl) ⟨by omega, by omega⟩ km_L_36 dL_law_305 y_2 y_4 y_6 (fun r_7 z0_8 z1_9 wx_10 H locs hf_11 hg_12 St => ?_)
  refine lv_pop hx hb dL_law_308 rfl ?_
  refine lv_aload_n hx hb dL_law_309 rfl (lv_at hl 1 rfl) ?_
  refine lv_aload_n hx hb dL_law_310 rfl (lv_at hl 3 rfl) ?_
  refine lv_iload_n hx hb dL_law_311 rfl (lv_at hl 0 rfl) ?_
  refine lv_iconst (v := 1) hx hb dL_law_312 (by decide) ?_
  refine lv_iadd hx hb dL_law_313 ?_
  refine top_i (y := y_1) ey_1.symm ?_
  refine va_sld hx hb hX9 hbl hbA St.toS (vp_in_iff.mpr ⟨by omega, by omega⟩) dL_law_314 ?_
  refine top_i (y := y_2) ey_2.symm ?_
  refine lv_aload_n hx hb dL_law_315 rfl (lv_at hl 3 rfl) ?_
  refine lv_iload_n hx hb dL_law_316 rfl (lv_at hl 0 rfl) ?_
  refine lv_iconst (v := 2) hx hb dL_law_317 (by decide) ?_
  refine lv_iadd hx hb dL_law_318 ?_
  refine top_i (y := y_3) ey_3.symm ?_
  refine va_sld hx hb hX9 hbl hbA St.toS (vp_in_iff.mpr ⟨by omega, by omega⟩) dL_law_319 ?_
  refine top_i (y := y_4) ey_4.symm ?_
  refine lv_aload_n hx hb dL_law_320 rfl (lv_at hl 3 rfl) ?_
  refine lv_iload_n hx hb dL_law_321 rfl (lv_at hl 0 rfl) ?_
  refine lv_iconst (v := 3) hx hb dL_law_322 (by decide) ?_
  refine lv_iadd hx hb dL_law_323 ?_
  refine top_i (y := y_5) ey_5.symm ?_
  refine va_sld hx hb hX9 hbl hbA St.toS (vp_in_iff.mpr ⟨by omega, by omega⟩) dL_law_324 ?_
  refine top_i (y := y_6) ey_6.symm ?_
  refine lm_declare (rest := []) F hl St hM (Nat.le_of_ble_eq_true rfl) ⟨by omega, by omega⟩ km_L_40 dL_law_325 y_2 y_4 y_6 (fun r_13 z0_14 z1_15 wm_16 H locs hf_17 hg_18 St => ?_)
  obtain ⟨rfl, rfl, rfl⟩ : r_7 = r_13 ∧ z0_8 = z0_14 ∧ z1_9 = z1_15 := det_dec hf_11 hf_17
  refine lv_pop hx hb dL_law_328 rfl ?_
  refine lv_goto (tgt := 852) hx hb dL_law_329 (by decide) ?_
  refine W.widen (k := cells + 4) (n := slots + 264) (by omega) (by omega) ?_
  exact kk nn cl sp bn tn g2 ft0 fr rk rp tP sn u0 u1 u2 u3 z0_8 z1_9 g3 ma ta co lo gr pd td sc sl sk sq su wx_10 wm_16 H locs ls hg_12 hg_18 St (lv_sub hl [0, 1, 2, 3] rfl)
set_option maxHeartbeats 40000000 in
set_option maxRecDepth 100000 in
theorem law_case6 {p : Program} {e : Env} {s : State} {m : MethodId} {below : List Frame} {meth : Method} {c : Code} {l : Launch} {b L : Nat} {xs : Nat → Int32} (hL : L ≤ 3072) (C0 : lw_At p s m meth c b L xs) (G : va_G) (k : Nat → Nat) (h hm : Nat) (a a2 : Nat → Nat) (d d2 : Nat → ClassId) (i : Int32) (cells slots : Nat) (hi0 : 0 ≤ i.toInt) (hi1 : i.toInt + 6 ≤ L) (hroom : cells + 4 ≤ room_1.cells ∧ slots + 264 ≤ room_1.slots) (nn : Int32) (cl : Int32) (sp : Int32) (bn : Int32) (tn : Int32) (g2 : Nat → Int32) (ft0 : Nat → Int32) (fr : Nat → Int32) (rk : Int32) (rp : Int32) (tP : Nat → Pl9) (sn : Int32) (u0 : Nat → Int32) (u1 : Nat → Int32) (u2 : Nat → Int32) (u3 : Nat → Int32) (g0 : Nat → Int32) (g1 : Nat → Int32) (g3 : Nat → Int32) (ma : Int) (ta : Int) (co : Int) (lo : Int) (gr : Int32) (pd : Int32) (td : Int32) (sc : Nat → Int32) (sl : Nat → Int32) (sk : Nat → Int32) (sq : Nat → Int32) (su : Nat → Int32) (wx wm : va_W) (H : Heap) (locs : List Loc) (ls : Array Slot) (kk : ∀ (nn : Int32) (cl : Int32) (sp : Int32) (bn : Int32) (tn : Int32) (g2 : Nat → Int32) (ft0 : Nat → Int32) (fr : Nat → Int32) (rk : Int32) (rp : Int32) (tP : Nat → Pl9) (sn : Int32) (u0 : Nat → Int32) (u1 : Nat → Int32) (u2 : Nat → Int32) (u3 : Nat → Int32) (g0 : Nat → Int32) (g1 : Nat → Int32) (g3 : Nat → Int32) (ma : Int) (ta : Int) (co : Int) (lo : Int) (gr : Int32) (pd : Int32) (td : Int32) (sc : Nat → Int32) (sl : Nat → Int32) (sk : Nat → Int32) (sq : Nat → Int32) (su : Nat → Int32) (wx wm : va_W) (H : Heap) (locs : List Loc) (ls : Array Slot), gX h a d nn cl sp bn tn g2 ft0 fr rk rp tP sn u0 u1 u2 u3 g0 g1 g3 ma ta co lo gr pd td sc sl sk sq su wx → gM hm a2 d2 nn cl sp bn tn g2 ft0 fr rk rp tP sn u0 u1 u2 u3 g0 g1 g3 ma ta co lo gr pd td sc sl sk sq su wm → cS G k (wx ++ wm) (tyX d ++ tyM d2) (fun q : Nat => s.heap.size ≤ q) s H locs → lv_has ls 4 [(3, .int i), (2, .ref hm), (1, .ref h), (0, .ref b)] → W p l e room_1 s m #[Value.ref b] below meth c H locs (cells + 4) (slots + 264) (lw_Z below #[Value.ref b] s) (F0 m 852 ls [])) (hX : gX h a d nn cl sp bn tn g2 ft0 fr rk rp tP sn u0 u1 u2 u3 g0 g1 g3 ma ta co lo gr pd td sc sl sk sq su wx) (hM : gM hm a2 d2 nn cl sp bn tn g2 ft0 fr rk rp tP sn u0 u1 u2 u3 g0 g1 g3 ma ta co lo gr pd td sc sl sk sq su wm) (St : cS G k (wx ++ wm) (tyX d ++ tyM d2) (fun q : Nat => s.heap.size ≤ q) s H locs) (hl : lv_has ls 4 [(3, .int i), (2, .ref hm), (1, .ref h), (0, .ref b)]) : W p l e room_1 s m #[Value.ref b] below meth c H locs cells slots (lw_Z below #[Value.ref b] s) (F0 m 332 ls []) := by
  obtain ⟨hx, hb, hr, hml, hown, hts, hX9, hbl, hlocks, hgv⟩ := id C0
  have hbA : ¬ (fun q : Nat => s.heap.size ≤ q) b := Nat.not_le.mpr hbl
  have F : CallFix p m c code 4 s #[Value.ref b] tb RL := ⟨hx, hb, hml, hown, fun w h => hts w (tb_in w h)⟩
  have hr1 := hroom.1
  have hr2 := hroom.2
  have y0 : (0 : Int32).toInt = 0 := by decide
  refine lv_aload_n hx hb dL_law_332 rfl (lv_at hl 2 rfl) ?_
  refine lv_aload_n hx hb dL_law_333 rfl (lv_at hl 3 rfl) ?_
  refine lv_iload_n hx hb dL_law_334 rfl (lv_at hl 0 rfl) ?_
  refine lv_iconst (v := 1) hx hb dL_law_335 (by decide) ?_
  refine lv_iadd hx hb dL_law_336 ?_
  refine lv_topi (fun y_1 ey_1 => ?_)
  first | have jy_1 : y_1.toInt = i.toInt + 1 := (by have q9 := ci_add (x := i) (y := 1) rfl (show (1 : Int32).toInt = 1 by decide) ey_1; omega) | have jy_1 := ci_add (x := i) (y := 1) rfl (show (1 : Int32).toInt = 1 by decide) ey_1
  refine va_sld hx hb hX9 hbl hbA St.toS (vp_in_iff.mpr ⟨by omega, by omega⟩) dL_law_337 ?_
  refine lv_topi (fun y_2 ey_2 => ?_)
  refine lv_aload_n hx hb dL_law_338 rfl (lv_at hl 3 rfl) ?_
  refine lv_iload_n hx hb dL_law_339 rfl (lv_at hl 0 rfl) ?_
  refine lv_iconst (v := 2) hx hb dL_law_340 (by decide) ?_
  refine lv_iadd hx hb dL_law_341 ?_
  refine lv_topi (fun y_3 ey_3 => ?_)
  first | have jy_3 : y_3.toInt = i.toInt + 2 := (by have q9 := ci_add (x := i) (y := 2) rfl (show (2 : Int32).toInt = 2 by decide) ey_3; omega) | have jy_3 := ci_add (x := i) (y := 2) rfl (show (2 : Int32).toInt = 2 by decide) ey_3
  refine va_sld hx hb hX9 hbl hbA St.toS (vp_in_iff.mpr ⟨by omega, by omega⟩) dL_law_342 ?_
  refine lv_topi (fun y_4 ey_4 => ?_)
  refine lv_if_eq (tgt := 350) hx hb dL_law_343 (by decide) (fun c343 => ?_) (fun c343 => ?_)
  ·
    have i343 := ci_eq (x := y_4) (y := 0) rfl (show (0 : Int32).toInt = 0 by decide) c343
    refine lv_iconst (v := 0) hx hb dL_law_350 (by decide) ?_
    refine lx_nameless (rest := []) F hl St hX (Nat.le_of_ble_eq_true rfl) ⟨by omega, by omega⟩ km_L_41 dL_law_351 y_2 0 (fun r_5 z2_6 wx_7 H locs hf_8 hg_9 St => ?_)
    refine lv_pop hx hb dL_law_354 rfl ?_
    refine lv_aload_n hx hb dL_law_355 rfl (lv_at hl 1 rfl) ?_
    refine lv_aload_n hx hb dL_law_356 rfl (lv_at hl 3 rfl) ?_
    refine lv_iload_n hx hb dL_law_357 rfl (lv_at hl 0 rfl) ?_
    refine lv_iconst (v := 1) hx hb dL_law_358 (by decide) ?_
    refine lv_iadd hx hb dL_law_359 ?_
    refine top_i (y := y_1) ey_1.symm ?_
    refine va_sld hx hb hX9 hbl hbA St.toS (vp_in_iff.mpr ⟨by omega, by omega⟩) dL_law_360 ?_
    refine top_i (y := y_2) ey_2.symm ?_
    refine lv_aload_n hx hb dL_law_361 rfl (lv_at hl 3 rfl) ?_
    refine lv_iload_n hx hb dL_law_362 rfl (lv_at hl 0 rfl) ?_
    refine lv_iconst (v := 2) hx hb dL_law_363 (by decide) ?_
    refine lv_iadd hx hb dL_law_364 ?_
    refine top_i (y := y_3) ey_3.symm ?_
    refine va_sld hx hb hX9 hbl hbA St.toS (vp_in_iff.mpr ⟨by omega, by omega⟩) dL_law_365 ?_
    refine top_i (y := y_4) ey_4.symm ?_
    refine lv_if_eq (tgt := 373) hx hb dL_law_366 (by decide) (fun c366 => ?_) (fun c366 => ?_)
    rotate_left
    · exact absurd c343 c366
    refine lv_iconst (v := 0) hx hb dL_law_373 (by decide) ?_
    refine lm_nameless (rest := []) F hl St hM (Nat.le_of_ble_eq_true rfl) ⟨by omega, by omega⟩ km_L_45 dL_law_374 y_2 0 (fun r_10 z2_11 wm_12 H locs hf_13 hg_14 St => ?_)
    obtain ⟨rfl, rfl⟩ : r_5 = r_10 ∧ z2_6 = z2_11 := rel_nameless (by decide) hf_8 hf_13
    refine lv_pop hx hb dL_law_377 rfl ?_
    refine lv_goto (tgt := 852) hx hb dL_law_378 (by decide) ?_
    refine W.widen (k := cells + 4) (n := slots + 264) (by omega) (by omega) ?_
    exact kk nn cl sp bn tn z2_6 ft0 fr rk rp tP sn u0 u1 u2 u3 g0 g1 g3 ma ta co lo gr pd td sc sl sk sq su wx_7 wm_12 H locs ls hg_9 hg_14 St (lv_sub hl [0, 1, 2, 3] rfl)
  ·
    have i343 := ci_ne (x := y_4) (y := 0) rfl (show (0 : Int32).toInt = 0 by decide) c343
    refine lv_iconst (v := 1) hx hb dL_law_346 (by decide) ?_
    refine lv_goto (tgt := 351) hx hb dL_law_347 (by decide) ?_
    refine lx_nameless (rest := []) F hl St hX (Nat.le_of_ble_eq_true rfl) ⟨by omega, by omega⟩ km_L_41 dL_law_351 y_2 1 (fun r_15 z2_16 wx_17 H locs hf_18 hg_19 St => ?_)
    refine lv_pop hx hb dL_law_354 rfl ?_
    refine lv_aload_n hx hb dL_law_355 rfl (lv_at hl 1 rfl) ?_
    refine lv_aload_n hx hb dL_law_356 rfl (lv_at hl 3 rfl) ?_
    refine lv_iload_n hx hb dL_law_357 rfl (lv_at hl 0 rfl) ?_
    refine lv_iconst (v := 1) hx hb dL_law_358 (by decide) ?_
    refine lv_iadd hx hb dL_law_359 ?_
    refine top_i (y := y_1) ey_1.symm ?_
    refine va_sld hx hb hX9 hbl hbA St.toS (vp_in_iff.mpr ⟨by omega, by omega⟩) dL_law_360 ?_
    refine top_i (y := y_2) ey_2.symm ?_
    refine lv_aload_n hx hb dL_law_361 rfl (lv_at hl 3 rfl) ?_
    refine lv_iload_n hx hb dL_law_362 rfl (lv_at hl 0 rfl) ?_
    refine lv_iconst (v := 2) hx hb dL_law_363 (by decide) ?_
    refine lv_iadd hx hb dL_law_364 ?_
    refine top_i (y := y_3) ey_3.symm ?_
    refine va_sld hx hb hX9 hbl hbA St.toS (vp_in_iff.mpr ⟨by omega, by omega⟩) dL_law_365 ?_
    refine top_i (y := y_4) ey_4.symm ?_
    refine lv_if_eq (tgt := 373) hx hb dL_law_366 (by decide) (fun c366 => ?_) (fun c366 => ?_)
    · exact absurd c366 c343
    refine lv_iconst (v := 1) hx hb dL_law_369 (by decide) ?_
    refine lv_goto (tgt := 374) hx hb dL_law_370 (by decide) ?_
    refine lm_nameless (rest := []) F hl St hM (Nat.le_of_ble_eq_true rfl) ⟨by omega, by omega⟩ km_L_45 dL_law_374 y_2 1 (fun r_20 z2_21 wm_22 H locs hf_23 hg_24 St => ?_)
    obtain ⟨rfl, rfl⟩ : r_15 = r_20 ∧ z2_16 = z2_21 := rel_nameless (by decide) hf_18 hf_23
    refine lv_pop hx hb dL_law_377 rfl ?_
    refine lv_goto (tgt := 852) hx hb dL_law_378 (by decide) ?_
    refine W.widen (k := cells + 4) (n := slots + 264) (by omega) (by omega) ?_
    exact kk nn cl sp bn tn z2_16 ft0 fr rk rp tP sn u0 u1 u2 u3 g0 g1 g3 ma ta co lo gr pd td sc sl sk sq su wx_17 wm_22 H locs ls hg_19 hg_24 St (lv_sub hl [0, 1, 2, 3] rfl)
set_option maxHeartbeats 40000000 in
set_option maxRecDepth 100000 in
theorem law_case7 {p : Program} {e : Env} {s : State} {m : MethodId} {below : List Frame} {meth : Method} {c : Code} {l : Launch} {b L : Nat} {xs : Nat → Int32} (hL : L ≤ 3072) (C0 : lw_At p s m meth c b L xs) (G : va_G) (k : Nat → Nat) (h hm : Nat) (a a2 : Nat → Nat) (d d2 : Nat → ClassId) (i : Int32) (cells slots : Nat) (hi0 : 0 ≤ i.toInt) (hi1 : i.toInt + 6 ≤ L) (hroom : cells + 4 ≤ room_1.cells ∧ slots + 264 ≤ room_1.slots) (nn : Int32) (cl : Int32) (sp : Int32) (bn : Int32) (tn : Int32) (g2 : Nat → Int32) (ft0 : Nat → Int32) (fr : Nat → Int32) (rk : Int32) (rp : Int32) (tP : Nat → Pl9) (sn : Int32) (u0 : Nat → Int32) (u1 : Nat → Int32) (u2 : Nat → Int32) (u3 : Nat → Int32) (g0 : Nat → Int32) (g1 : Nat → Int32) (g3 : Nat → Int32) (ma : Int) (ta : Int) (co : Int) (lo : Int) (gr : Int32) (pd : Int32) (td : Int32) (sc : Nat → Int32) (sl : Nat → Int32) (sk : Nat → Int32) (sq : Nat → Int32) (su : Nat → Int32) (wx wm : va_W) (H : Heap) (locs : List Loc) (ls : Array Slot) (kk : ∀ (nn : Int32) (cl : Int32) (sp : Int32) (bn : Int32) (tn : Int32) (g2 : Nat → Int32) (ft0 : Nat → Int32) (fr : Nat → Int32) (rk : Int32) (rp : Int32) (tP : Nat → Pl9) (sn : Int32) (u0 : Nat → Int32) (u1 : Nat → Int32) (u2 : Nat → Int32) (u3 : Nat → Int32) (g0 : Nat → Int32) (g1 : Nat → Int32) (g3 : Nat → Int32) (ma : Int) (ta : Int) (co : Int) (lo : Int) (gr : Int32) (pd : Int32) (td : Int32) (sc : Nat → Int32) (sl : Nat → Int32) (sk : Nat → Int32) (sq : Nat → Int32) (su : Nat → Int32) (wx wm : va_W) (H : Heap) (locs : List Loc) (ls : Array Slot), gX h a d nn cl sp bn tn g2 ft0 fr rk rp tP sn u0 u1 u2 u3 g0 g1 g3 ma ta co lo gr pd td sc sl sk sq su wx → gM hm a2 d2 nn cl sp bn tn g2 ft0 fr rk rp tP sn u0 u1 u2 u3 g0 g1 g3 ma ta co lo gr pd td sc sl sk sq su wm → cS G k (wx ++ wm) (tyX d ++ tyM d2) (fun q : Nat => s.heap.size ≤ q) s H locs → lv_has ls 4 [(3, .int i), (2, .ref hm), (1, .ref h), (0, .ref b)] → W p l e room_1 s m #[Value.ref b] below meth c H locs (cells + 4) (slots + 264) (lw_Z below #[Value.ref b] s) (F0 m 852 ls [])) (hX : gX h a d nn cl sp bn tn g2 ft0 fr rk rp tP sn u0 u1 u2 u3 g0 g1 g3 ma ta co lo gr pd td sc sl sk sq su wx) (hM : gM hm a2 d2 nn cl sp bn tn g2 ft0 fr rk rp tP sn u0 u1 u2 u3 g0 g1 g3 ma ta co lo gr pd td sc sl sk sq su wm) (St : cS G k (wx ++ wm) (tyX d ++ tyM d2) (fun q : Nat => s.heap.size ≤ q) s H locs) (hl : lv_has ls 4 [(3, .int i), (2, .ref hm), (1, .ref h), (0, .ref b)]) : W p l e room_1 s m #[Value.ref b] below meth c H locs cells slots (lw_Z below #[Value.ref b] s) (F0 m 381 ls []) := by
  obtain ⟨hx, hb, hr, hml, hown, hts, hX9, hbl, hlocks, hgv⟩ := id C0
  have hbA : ¬ (fun q : Nat => s.heap.size ≤ q) b := Nat.not_le.mpr hbl
  have F : CallFix p m c code 4 s #[Value.ref b] tb RL := ⟨hx, hb, hml, hown, fun w h => hts w (tb_in w h)⟩
  have hr1 := hroom.1
  have hr2 := hroom.2
  have y0 : (0 : Int32).toInt = 0 := by decide
  refine lv_aload_n hx hb dL_law_381 rfl (lv_at hl 2 rfl) ?_
  refine lv_aload_n hx hb dL_law_382 rfl (lv_at hl 3 rfl) ?_
  refine lv_iload_n hx hb dL_law_383 rfl (lv_at hl 0 rfl) ?_
  refine lv_iconst (v := 1) hx hb dL_law_384 (by decide) ?_
  refine lv_iadd hx hb dL_law_385 ?_
  refine lv_topi (fun y_1 ey_1 => ?_)
  first | have jy_1 : y_1.toInt = i.toInt + 1 := (by have q9 := ci_add (x := i) (y := 1) rfl (show (1 : Int32).toInt = 1 by decide) ey_1; omega) | have jy_1 := ci_add (x := i) (y := 1) rfl (show (1 : Int32).toInt = 1 by decide) ey_1
  refine va_sld hx hb hX9 hbl hbA St.toS (vp_in_iff.mpr ⟨by omega, by omega⟩) dL_law_386 ?_
  refine lv_topi (fun y_2 ey_2 => ?_)
  refine lv_aload_n hx hb dL_law_387 rfl (lv_at hl 3 rfl) ?_
  refine lv_iload_n hx hb dL_law_388 rfl (lv_at hl 0 rfl) ?_
  refine lv_iconst (v := 2) hx hb dL_law_389 (by decide) ?_
  refine lv_iadd hx hb dL_law_390 ?_
  refine lv_topi (fun y_3 ey_3 => ?_)
  first | have jy_3 : y_3.toInt = i.toInt + 2 := (by have q9 := ci_add (x := i) (y := 2) rfl (show (2 : Int32).toInt = 2 by decide) ey_3; omega) | have jy_3 := ci_add (x := i) (y := 2) rfl (show (2 : Int32).toInt = 2 by decide) ey_3
  refine va_sld hx hb hX9 hbl hbA St.toS (vp_in_iff.mpr ⟨by omega, by omega⟩) dL_law_391 ?_
  refine lv_topi (fun y_4 ey_4 => ?_)
  refine lv_aload_n hx hb dL_law_392 rfl (lv_at hl 3 rfl) ?_
  refine lv_iload_n hx hb dL_law_393 rfl (lv_at hl 0 rfl) ?_
  refine lv_iconst (v := 3) hx hb dL_law_394 (by decide) ?_
  refine lv_iadd hx hb dL_law_395 ?_
  refine lv_topi (fun y_5 ey_5 => ?_)
  first | have jy_5 : y_5.toInt = i.toInt + 3 := (by have q9 := ci_add (x := i) (y := 3) rfl (show (3 : Int32).toInt = 3 by decide) ey_5; omega) | have jy_5 := ci_add (x := i) (y := 3) rfl (show (3 : Int32).toInt = 3 by decide) ey_5
  refine va_sld hx hb hX9 hbl hbA St.toS (vp_in_iff.mpr ⟨by omega, by omega⟩) dL_law_396 ?_
  refine lv_topi (fun y_6 ey_6 => ?_)
  refine lv_aload_n hx hb dL_law_397 rfl (lv_at hl 3 rfl) ?_
  refine lv_iload_n hx hb dL_law_398 rfl (lv_at hl 0 rfl) ?_
  refine lv_iconst (v := 4) hx hb dL_law_399 (by decide) ?_
  refine lv_iadd hx hb dL_law_400 ?_
  refine lv_topi (fun y_7 ey_7 => ?_)
  first | have jy_7 : y_7.toInt = i.toInt + 4 := (by have q9 := ci_add (x := i) (y := 4) rfl (show (4 : Int32).toInt = 4 by decide) ey_7; omega) | have jy_7 := ci_add (x := i) (y := 4) rfl (show (4 : Int32).toInt = 4 by decide) ey_7
  refine va_sld hx hb hX9 hbl hbA St.toS (vp_in_iff.mpr ⟨by omega, by omega⟩) dL_law_401 ?_
  refine lv_topi (fun y_8 ey_8 => ?_)
  refine lv_aload_n hx hb dL_law_402 rfl (lv_at hl 3 rfl) ?_
  refine lv_iload_n hx hb dL_law_403 rfl (lv_at hl 0 rfl) ?_
  refine lv_iconst (v := 5) hx hb dL_law_404 (by decide) ?_
  refine lv_iadd hx hb dL_law_405 ?_
  refine lv_topi (fun y_9 ey_9 => ?_)
  first | have jy_9 : y_9.toInt = i.toInt + 5 := (by have q9 := ci_add (x := i) (y := 5) rfl (show (5 : Int32).toInt = 5 by decide) ey_9; omega) | have jy_9 := ci_add (x := i) (y := 5) rfl (show (5 : Int32).toInt = 5 by decide) ey_9
  refine va_sld hx hb hX9 hbl hbA St.toS (vp_in_iff.mpr ⟨by omega, by omega⟩) dL_law_406 ?_
  refine lv_topi (fun y_10 ey_10 => ?_)
  refine lx_pledge (rest := []) F hl St hX (Nat.le_of_ble_eq_true rfl) ⟨by omega, by omega⟩ km_L_46 dL_law_407 y_2 y_4 y_6 y_8 y_10 (fun r_11 bn2_12 tP2_13 wx_14 H locs hf_15 hg_16 St => ?_)
  refine lv_pop hx hb dL_law_410 rfl ?_
  refine lv_aload_n hx hb dL_law_411 rfl (lv_at hl 1 rfl) ?_
  refine lv_aload_n hx hb dL_law_412 rfl (lv_at hl 3 rfl) ?_
  refine lv_iload_n hx hb dL_law_413 rfl (lv_at hl 0 rfl) ?_
  refine lv_iconst (v := 1) hx hb dL_law_414 (by decide) ?_
  refine lv_iadd hx hb dL_law_415 ?_
  refine top_i (y := y_1) ey_1.symm ?_
  refine va_sld hx hb hX9 hbl hbA St.toS (vp_in_iff.mpr ⟨by omega, by omega⟩) dL_law_416 ?_
  refine top_i (y := y_2) ey_2.symm ?_
  refine lv_aload_n hx hb dL_law_417 rfl (lv_at hl 3 rfl) ?_
  refine lv_iload_n hx hb dL_law_418 rfl (lv_at hl 0 rfl) ?_
  refine lv_iconst (v := 2) hx hb dL_law_419 (by decide) ?_
  refine lv_iadd hx hb dL_law_420 ?_
  refine top_i (y := y_3) ey_3.symm ?_
  refine va_sld hx hb hX9 hbl hbA St.toS (vp_in_iff.mpr ⟨by omega, by omega⟩) dL_law_421 ?_
  refine top_i (y := y_4) ey_4.symm ?_
  refine lv_aload_n hx hb dL_law_422 rfl (lv_at hl 3 rfl) ?_
  refine lv_iload_n hx hb dL_law_423 rfl (lv_at hl 0 rfl) ?_
  refine lv_iconst (v := 3) hx hb dL_law_424 (by decide) ?_
  refine lv_iadd hx hb dL_law_425 ?_
  refine top_i (y := y_5) ey_5.symm ?_
  refine va_sld hx hb hX9 hbl hbA St.toS (vp_in_iff.mpr ⟨by omega, by omega⟩) dL_law_426 ?_
  refine top_i (y := y_6) ey_6.symm ?_
  refine lv_aload_n hx hb dL_law_427 rfl (lv_at hl 3 rfl) ?_
  refine lv_iload_n hx hb dL_law_428 rfl (lv_at hl 0 rfl) ?_
  refine lv_iconst (v := 4) hx hb dL_law_429 (by decide) ?_
  refine lv_iadd hx hb dL_law_430 ?_
  refine top_i (y := y_7) ey_7.symm ?_
  refine va_sld hx hb hX9 hbl hbA St.toS (vp_in_iff.mpr ⟨by omega, by omega⟩) dL_law_431 ?_
  refine top_i (y := y_8) ey_8.symm ?_
  refine lv_aload_n hx hb dL_law_432 rfl (lv_at hl 3 rfl) ?_
  refine lv_iload_n hx hb dL_law_433 rfl (lv_at hl 0 rfl) ?_
  refine lv_iconst (v := 5) hx hb dL_law_434 (by decide) ?_
  refine lv_iadd hx hb dL_law_435 ?_
  refine top_i (y := y_9) ey_9.symm ?_
  refine va_sld hx hb hX9 hbl hbA St.toS (vp_in_iff.mpr ⟨by omega, by omega⟩) dL_law_436 ?_
  refine top_i (y := y_10) ey_10.symm ?_
  refine lm_pledge (rest := []) F hl St hM (Nat.le_of_ble_eq_true rfl) ⟨by omega, by omega⟩ km_L_49 dL_law_437 y_2 y_4 y_6 y_8 y_10 (fun r_17 bn2_18 tP2_19 wm_20 H locs hf_21 hg_22 St => ?_)
  obtain ⟨rfl, rfl, rfl⟩ : r_11 = r_17 ∧ bn2_12 = bn2_18 ∧ tP2_13 = tP2_19 := det_ple hf_15 hf_21
  refine lv_pop hx hb dL_law_440 rfl ?_
  refine lv_goto (tgt := 852) hx hb dL_law_441 (by decide) ?_
  refine W.widen (k := cells + 4) (n := slots + 264) (by omega) (by omega) ?_
  exact kk nn cl sp bn2_12 tn g2 ft0 fr rk rp tP2_13 sn u0 u1 u2 u3 g0 g1 g3 ma ta co lo gr pd td sc sl sk sq su wx_14 wm_20 H locs ls hg_16 hg_22 St (lv_sub hl [0, 1, 2, 3] rfl)
set_option maxHeartbeats 40000000 in
set_option maxRecDepth 100000 in
theorem law_case8 {p : Program} {e : Env} {s : State} {m : MethodId} {below : List Frame} {meth : Method} {c : Code} {l : Launch} {b L : Nat} {xs : Nat → Int32} (hL : L ≤ 3072) (C0 : lw_At p s m meth c b L xs) (G : va_G) (k : Nat → Nat) (h hm : Nat) (a a2 : Nat → Nat) (d d2 : Nat → ClassId) (i : Int32) (cells slots : Nat) (hi0 : 0 ≤ i.toInt) (hi1 : i.toInt + 6 ≤ L) (hroom : cells + 4 ≤ room_1.cells ∧ slots + 264 ≤ room_1.slots) (nn : Int32) (cl : Int32) (sp : Int32) (bn : Int32) (tn : Int32) (g2 : Nat → Int32) (ft0 : Nat → Int32) (fr : Nat → Int32) (rk : Int32) (rp : Int32) (tP : Nat → Pl9) (sn : Int32) (u0 : Nat → Int32) (u1 : Nat → Int32) (u2 : Nat → Int32) (u3 : Nat → Int32) (g0 : Nat → Int32) (g1 : Nat → Int32) (g3 : Nat → Int32) (ma : Int) (ta : Int) (co : Int) (lo : Int) (gr : Int32) (pd : Int32) (td : Int32) (sc : Nat → Int32) (sl : Nat → Int32) (sk : Nat → Int32) (sq : Nat → Int32) (su : Nat → Int32) (wx wm : va_W) (H : Heap) (locs : List Loc) (ls : Array Slot) (kk : ∀ (nn : Int32) (cl : Int32) (sp : Int32) (bn : Int32) (tn : Int32) (g2 : Nat → Int32) (ft0 : Nat → Int32) (fr : Nat → Int32) (rk : Int32) (rp : Int32) (tP : Nat → Pl9) (sn : Int32) (u0 : Nat → Int32) (u1 : Nat → Int32) (u2 : Nat → Int32) (u3 : Nat → Int32) (g0 : Nat → Int32) (g1 : Nat → Int32) (g3 : Nat → Int32) (ma : Int) (ta : Int) (co : Int) (lo : Int) (gr : Int32) (pd : Int32) (td : Int32) (sc : Nat → Int32) (sl : Nat → Int32) (sk : Nat → Int32) (sq : Nat → Int32) (su : Nat → Int32) (wx wm : va_W) (H : Heap) (locs : List Loc) (ls : Array Slot), gX h a d nn cl sp bn tn g2 ft0 fr rk rp tP sn u0 u1 u2 u3 g0 g1 g3 ma ta co lo gr pd td sc sl sk sq su wx → gM hm a2 d2 nn cl sp bn tn g2 ft0 fr rk rp tP sn u0 u1 u2 u3 g0 g1 g3 ma ta co lo gr pd td sc sl sk sq su wm → cS G k (wx ++ wm) (tyX d ++ tyM d2) (fun q : Nat => s.heap.size ≤ q) s H locs → lv_has ls 4 [(3, .int i), (2, .ref hm), (1, .ref h), (0, .ref b)] → W p l e room_1 s m #[Value.ref b] below meth c H locs (cells + 4) (slots + 264) (lw_Z below #[Value.ref b] s) (F0 m 852 ls [])) (hX : gX h a d nn cl sp bn tn g2 ft0 fr rk rp tP sn u0 u1 u2 u3 g0 g1 g3 ma ta co lo gr pd td sc sl sk sq su wx) (hM : gM hm a2 d2 nn cl sp bn tn g2 ft0 fr rk rp tP sn u0 u1 u2 u3 g0 g1 g3 ma ta co lo gr pd td sc sl sk sq su wm) (St : cS G k (wx ++ wm) (tyX d ++ tyM d2) (fun q : Nat => s.heap.size ≤ q) s H locs) (hl : lv_has ls 4 [(3, .int i), (2, .ref hm), (1, .ref h), (0, .ref b)]) : W p l e room_1 s m #[Value.ref b] below meth c H locs cells slots (lw_Z below #[Value.ref b] s) (F0 m 444 ls []) := by
  obtain ⟨hx, hb, hr, hml, hown, hts, hX9, hbl, hlocks, hgv⟩ := id C0
  have hbA : ¬ (fun q : Nat => s.heap.size ≤ q) b := Nat.not_le.mpr hbl
  have F : CallFix p m c code 4 s #[Value.ref b] tb RL := ⟨hx, hb, hml, hown, fun w h => hts w (tb_in w h)⟩
  have hr1 := hroom.1
  have hr2 := hroom.2
  have y0 : (0 : Int32).toInt = 0 := by decide
  refine lv_aload_n hx hb dL_law_444 rfl (lv_at hl 2 rfl) ?_
  refine lv_aload_n hx hb dL_law_445 rfl (lv_at hl 3 rfl) ?_
  refine lv_iload_n hx hb dL_law_446 rfl (lv_at hl 0 rfl) ?_
  refine lv_iconst (v := 1) hx hb dL_law_447 (by decide) ?_
  refine lv_iadd hx hb dL_law_448 ?_
  refine lv_topi (fun y_1 ey_1 => ?_)
  first | have jy_1 : y_1.toInt = i.toInt + 1 := (by have q9 := ci_add (x := i) (y := 1) rfl (show (1 : Int32).toInt = 1 by decide) ey_1; omega) | have jy_1 := ci_add (x := i) (y := 1) rfl (show (1 : Int32).toInt = 1 by decide) ey_1
  refine va_sld hx hb hX9 hbl hbA St.toS (vp_in_iff.mpr ⟨by omega, by omega⟩) dL_law_449 ?_
  refine lv_topi (fun y_2 ey_2 => ?_)
  refine lv_aload_n hx hb dL_law_450 rfl (lv_at hl 3 rfl) ?_
  refine lv_iload_n hx hb dL_law_451 rfl (lv_at hl 0 rfl) ?_
  refine lv_iconst (v := 2) hx hb dL_law_452 (by decide) ?_
  refine lv_iadd hx hb dL_law_453 ?_
  refine lv_topi (fun y_3 ey_3 => ?_)
  first | have jy_3 : y_3.toInt = i.toInt + 2 := (by have q9 := ci_add (x := i) (y := 2) rfl (show (2 : Int32).toInt = 2 by decide) ey_3; omega) | have jy_3 := ci_add (x := i) (y := 2) rfl (show (2 : Int32).toInt = 2 by decide) ey_3
  refine va_sld hx hb hX9 hbl hbA St.toS (vp_in_iff.mpr ⟨by omega, by omega⟩) dL_law_454 ?_
  refine lv_topi (fun y_4 ey_4 => ?_)
  refine lx_change (rest := []) F hl St hX (Nat.le_of_ble_eq_true rfl) ⟨by omega, by omega⟩ km_L_50 dL_law_455 y_2 y_4 (fun r_5 tP2_6 wx_7 H locs hf_8 hg_9 St => ?_)
  refine lv_pop hx hb dL_law_458 rfl ?_
  refine lv_aload_n hx hb dL_law_459 rfl (lv_at hl 1 rfl) ?_
  refine lv_aload_n hx hb dL_law_460 rfl (lv_at hl 3 rfl) ?_
  refine lv_iload_n hx hb dL_law_461 rfl (lv_at hl 0 rfl) ?_
  refine lv_iconst (v := 1) hx hb dL_law_462 (by decide) ?_
  refine lv_iadd hx hb dL_law_463 ?_
  refine top_i (y := y_1) ey_1.symm ?_
  refine va_sld hx hb hX9 hbl hbA St.toS (vp_in_iff.mpr ⟨by omega, by omega⟩) dL_law_464 ?_
  refine top_i (y := y_2) ey_2.symm ?_
  refine lv_aload_n hx hb dL_law_465 rfl (lv_at hl 3 rfl) ?_
  refine lv_iload_n hx hb dL_law_466 rfl (lv_at hl 0 rfl) ?_
  refine lv_iconst (v := 2) hx hb dL_law_467 (by decide) ?_
  refine lv_iadd hx hb dL_law_468 ?_
  refine top_i (y := y_3) ey_3.symm ?_
  refine va_sld hx hb hX9 hbl hbA St.toS (vp_in_iff.mpr ⟨by omega, by omega⟩) dL_law_469 ?_
  refine top_i (y := y_4) ey_4.symm ?_
  refine lm_change (rest := []) F hl St hM (Nat.le_of_ble_eq_true rfl) ⟨by omega, by omega⟩ km_L_54 dL_law_470 y_2 y_4 (fun r_10 tP2_11 wm_12 H locs hf_13 hg_14 St => ?_)
  obtain ⟨rfl, rfl⟩ : r_5 = r_10 ∧ tP2_6 = tP2_11 := det_chg hf_8 hf_13
  refine lv_pop hx hb dL_law_473 rfl ?_
  refine lv_goto (tgt := 852) hx hb dL_law_474 (by decide) ?_
  refine W.widen (k := cells + 4) (n := slots + 264) (by omega) (by omega) ?_
  exact kk nn cl sp bn tn g2 ft0 fr rk rp tP2_6 sn u0 u1 u2 u3 g0 g1 g3 ma ta co lo gr pd td sc sl sk sq su wx_7 wm_12 H locs ls hg_9 hg_14 St (lv_sub hl [0, 1, 2, 3] rfl)
set_option maxHeartbeats 40000000 in
set_option maxRecDepth 100000 in
theorem law_case9 {p : Program} {e : Env} {s : State} {m : MethodId} {below : List Frame} {meth : Method} {c : Code} {l : Launch} {b L : Nat} {xs : Nat → Int32} (hL : L ≤ 3072) (C0 : lw_At p s m meth c b L xs) (G : va_G) (k : Nat → Nat) (h hm : Nat) (a a2 : Nat → Nat) (d d2 : Nat → ClassId) (i : Int32) (cells slots : Nat) (hi0 : 0 ≤ i.toInt) (hi1 : i.toInt + 6 ≤ L) (hroom : cells + 4 ≤ room_1.cells ∧ slots + 264 ≤ room_1.slots) (nn : Int32) (cl : Int32) (sp : Int32) (bn : Int32) (tn : Int32) (g2 : Nat → Int32) (ft0 : Nat → Int32) (fr : Nat → Int32) (rk : Int32) (rp : Int32) (tP : Nat → Pl9) (sn : Int32) (u0 : Nat → Int32) (u1 : Nat → Int32) (u2 : Nat → Int32) (u3 : Nat → Int32) (g0 : Nat → Int32) (g1 : Nat → Int32) (g3 : Nat → Int32) (ma : Int) (ta : Int) (co : Int) (lo : Int) (gr : Int32) (pd : Int32) (td : Int32) (sc : Nat → Int32) (sl : Nat → Int32) (sk : Nat → Int32) (sq : Nat → Int32) (su : Nat → Int32) (wx wm : va_W) (H : Heap) (locs : List Loc) (ls : Array Slot) (kk : ∀ (nn : Int32) (cl : Int32) (sp : Int32) (bn : Int32) (tn : Int32) (g2 : Nat → Int32) (ft0 : Nat → Int32) (fr : Nat → Int32) (rk : Int32) (rp : Int32) (tP : Nat → Pl9) (sn : Int32) (u0 : Nat → Int32) (u1 : Nat → Int32) (u2 : Nat → Int32) (u3 : Nat → Int32) (g0 : Nat → Int32) (g1 : Nat → Int32) (g3 : Nat → Int32) (ma : Int) (ta : Int) (co : Int) (lo : Int) (gr : Int32) (pd : Int32) (td : Int32) (sc : Nat → Int32) (sl : Nat → Int32) (sk : Nat → Int32) (sq : Nat → Int32) (su : Nat → Int32) (wx wm : va_W) (H : Heap) (locs : List Loc) (ls : Array Slot), gX h a d nn cl sp bn tn g2 ft0 fr rk rp tP sn u0 u1 u2 u3 g0 g1 g3 ma ta co lo gr pd td sc sl sk sq su wx → gM hm a2 d2 nn cl sp bn tn g2 ft0 fr rk rp tP sn u0 u1 u2 u3 g0 g1 g3 ma ta co lo gr pd td sc sl sk sq su wm → cS G k (wx ++ wm) (tyX d ++ tyM d2) (fun q : Nat => s.heap.size ≤ q) s H locs → lv_has ls 4 [(3, .int i), (2, .ref hm), (1, .ref h), (0, .ref b)] → W p l e room_1 s m #[Value.ref b] below meth c H locs (cells + 4) (slots + 264) (lw_Z below #[Value.ref b] s) (F0 m 852 ls [])) (hX : gX h a d nn cl sp bn tn g2 ft0 fr rk rp tP sn u0 u1 u2 u3 g0 g1 g3 ma ta co lo gr pd td sc sl sk sq su wx) (hM : gM hm a2 d2 nn cl sp bn tn g2 ft0 fr rk rp tP sn u0 u1 u2 u3 g0 g1 g3 ma ta co lo gr pd td sc sl sk sq su wm) (St : cS G k (wx ++ wm) (tyX d ++ tyM d2) (fun q : Nat => s.heap.size ≤ q) s H locs) (hl : lv_has ls 4 [(3, .int i), (2, .ref hm), (1, .ref h), (0, .ref b)]) : W p l e room_1 s m #[Value.ref b] below meth c H locs cells slots (lw_Z below #[Value.ref b] s) (F0 m 477 ls []) := by
  obtain ⟨hx, hb, hr, hml, hown, hts, hX9, hbl, hlocks, hgv⟩ := id C0
  have hbA : ¬ (fun q : Nat => s.heap.size ≤ q) b := Nat.not_le.mpr hbl
  have F : CallFix p m c code 4 s #[Value.ref b] tb RL := ⟨hx, hb, hml, hown, fun w h => hts w (tb_in w h)⟩
  have hr1 := hroom.1
  have hr2 := hroom.2
  have y0 : (0 : Int32).toInt = 0 := by decide
  refine lv_aload_n hx hb dL_law_477 rfl (lv_at hl 2 rfl) ?_
  refine lv_aload_n hx hb dL_law_478 rfl (lv_at hl 3 rfl) ?_
  refine lv_iload_n hx hb dL_law_479 rfl (lv_at hl 0 rfl) ?_
  refine lv_iconst (v := 1) hx hb dL_law_480 (by decide) ?_
  refine lv_iadd hx hb dL_law_481 ?_
  refine lv_topi (fun y_1 ey_1 => ?_)
  first | have jy_1 : y_1.toInt = i.toInt + 1 := (by have q9 := ci_add (x := i) (y := 1) rfl (show (1 : Int32).toInt = 1 by decide) ey_1; omega) | have jy_1 := ci_add (x := i) (y := 1) rfl (show (1 : Int32).toInt = 1 by decide) ey_1
  refine va_sld hx hb hX9 hbl hbA St.toS (vp_in_iff.mpr ⟨by omega, by omega⟩) dL_law_482 ?_
  refine lv_topi (fun y_2 ey_2 => ?_)
  refine lv_aload_n hx hb dL_law_483 rfl (lv_at hl 3 rfl) ?_
  refine lv_iload_n hx hb dL_law_484 rfl (lv_at hl 0 rfl) ?_
  refine lv_iconst (v := 2) hx hb dL_law_485 (by decide) ?_
  refine lv_iadd hx hb dL_law_486 ?_
  refine lv_topi (fun y_3 ey_3 => ?_)
  first | have jy_3 : y_3.toInt = i.toInt + 2 := (by have q9 := ci_add (x := i) (y := 2) rfl (show (2 : Int32).toInt = 2 by decide) ey_3; omega) | have jy_3 := ci_add (x := i) (y := 2) rfl (show (2 : Int32).toInt = 2 by decide) ey_3
  refine va_sld hx hb hX9 hbl hbA St.toS (vp_in_iff.mpr ⟨by omega, by omega⟩) dL_law_487 ?_
  refine lv_topi (fun y_4 ey_4 => ?_)
  refine lx_pay (rest := []) F hl St hX (Nat.le_of_ble_eq_true rfl) ⟨by omega, by omega⟩ km_L_55 dL_law_488 y_2 y_4 (fun r_5 sn2_6 z0_7 z1_8 z2_9 ma2_10 co2_11 tP2_12 wx_13 H locs hf_14 hg_15 St => ?_)
  refine lv_pop hx hb dL_law_491 rfl ?_
  refine lv_aload_n hx hb dL_law_492 rfl (lv_at hl 1 rfl) ?_
  refine lv_aload_n hx hb dL_law_493 rfl (lv_at hl 3 rfl) ?_
  refine lv_iload_n hx hb dL_law_494 rfl (lv_at hl 0 rfl) ?_
  refine lv_iconst (v := 1) hx hb dL_law_495 (by decide) ?_
  refine lv_iadd hx hb dL_law_496 ?_
  refine top_i (y := y_1) ey_1.symm ?_
  refine va_sld hx hb hX9 hbl hbA St.toS (vp_in_iff.mpr ⟨by omega, by omega⟩) dL_law_497 ?_
  refine top_i (y := y_2) ey_2.symm ?_
  refine lv_aload_n hx hb dL_law_498 rfl (lv_at hl 3 rfl) ?_
  refine lv_iload_n hx hb dL_law_499 rfl (lv_at hl 0 rfl) ?_
  refine lv_iconst (v := 2) hx hb dL_law_500 (by decide) ?_
  refine lv_iadd hx hb dL_law_501 ?_
  refine top_i (y := y_3) ey_3.symm ?_
  refine va_sld hx hb hX9 hbl hbA St.toS (vp_in_iff.mpr ⟨by omega, by omega⟩) dL_law_502 ?_
  refine top_i (y := y_4) ey_4.symm ?_
  refine lm_pay (rest := []) F hl St hM (Nat.le_of_ble_eq_true rfl) ⟨by omega, by omega⟩ km_L_58 dL_law_503 y_2 y_4 (fun r_16 sn2_17 z0_18 z1_19 z2_20 ma2_21 co2_22 tP2_23 wm_24 H locs hf_25 hg_26 St => ?_)
  obtain ⟨⟨rfl, rfl, rfl, rfl, rfl, rfl, rfl⟩, rfl⟩ := det_pay hf_14 hf_25
  refine lv_pop hx hb dL_law_506 rfl ?_
  refine lv_goto (tgt := 852) hx hb dL_law_507 (by decide) ?_
  refine W.widen (k := cells + 4) (n := slots + 264) (by omega) (by omega) ?_
  exact kk nn cl sp bn tn g2 ft0 fr rk rp tP2_12 sn2_6 z0_7 z1_8 z2_9 u3 g0 g1 g3 ma2_10 ta co2_11 lo gr pd td sc sl sk sq su wx_13 wm_24 H locs ls hg_15 hg_26 St (lv_sub hl [0, 1, 2, 3] rfl)
set_option maxHeartbeats 40000000 in
set_option maxRecDepth 100000 in
theorem law_case10 {p : Program} {e : Env} {s : State} {m : MethodId} {below : List Frame} {meth : Method} {c : Code} {l : Launch} {b L : Nat} {xs : Nat → Int32} (hL : L ≤ 3072) (C0 : lw_At p s m meth c b L xs) (G : va_G) (k : Nat → Nat) (h hm : Nat) (a a2 : Nat → Nat) (d d2 : Nat → ClassId) (i : Int32) (cells slots : Nat) (hi0 : 0 ≤ i.toInt) (hi1 : i.toInt + 6 ≤ L) (hroom : cells + 4 ≤ room_1.cells ∧ slots + 264 ≤ room_1.slots) (nn : Int32) (cl : Int32) (sp : Int32) (bn : Int32) (tn : Int32) (g2 : Nat → Int32) (ft0 : Nat → Int32) (fr : Nat → Int32) (rk : Int32) (rp : Int32) (tP : Nat → Pl9) (sn : Int32) (u0 : Nat → Int32) (u1 : Nat → Int32) (u2 : Nat → Int32) (u3 : Nat → Int32) (g0 : Nat → Int32) (g1 : Nat → Int32) (g3 : Nat → Int32) (ma : Int) (ta : Int) (co : Int) (lo : Int) (gr : Int32) (pd : Int32) (td : Int32) (sc : Nat → Int32) (sl : Nat → Int32) (sk : Nat → Int32) (sq : Nat → Int32) (su : Nat → Int32) (wx wm : va_W) (H : Heap) (locs : List Loc) (ls : Array Slot) (kk : ∀ (nn : Int32) (cl : Int32) (sp : Int32) (bn : Int32) (tn : Int32) (g2 : Nat → Int32) (ft0 : Nat → Int32) (fr : Nat → Int32) (rk : Int32) (rp : Int32) (tP : Nat → Pl9) (sn : Int32) (u0 : Nat → Int32) (u1 : Nat → Int32) (u2 : Nat → Int32) (u3 : Nat → Int32) (g0 : Nat → Int32) (g1 : Nat → Int32) (g3 : Nat → Int32) (ma : Int) (ta : Int) (co : Int) (lo : Int) (gr : Int32) (pd : Int32) (td : Int32) (sc : Nat → Int32) (sl : Nat → Int32) (sk : Nat → Int32) (sq : Nat → Int32) (su : Nat → Int32) (wx wm : va_W) (H : Heap) (locs : List Loc) (ls : Array Slot), gX h a d nn cl sp bn tn g2 ft0 fr rk rp tP sn u0 u1 u2 u3 g0 g1 g3 ma ta co lo gr pd td sc sl sk sq su wx → gM hm a2 d2 nn cl sp bn tn g2 ft0 fr rk rp tP sn u0 u1 u2 u3 g0 g1 g3 ma ta co lo gr pd td sc sl sk sq su wm → cS G k (wx ++ wm) (tyX d ++ tyM d2) (fun q : Nat => s.heap.size ≤ q) s H locs → lv_has ls 4 [(3, .int i), (2, .ref hm), (1, .ref h), (0, .ref b)] → W p l e room_1 s m #[Value.ref b] below meth c H locs (cells + 4) (slots + 264) (lw_Z below #[Value.ref b] s) (F0 m 852 ls [])) (hX : gX h a d nn cl sp bn tn g2 ft0 fr rk rp tP sn u0 u1 u2 u3 g0 g1 g3 ma ta co lo gr pd td sc sl sk sq su wx) (hM : gM hm a2 d2 nn cl sp bn tn g2 ft0 fr rk rp tP sn u0 u1 u2 u3 g0 g1 g3 ma ta co lo gr pd td sc sl sk sq su wm) (St : cS G k (wx ++ wm) (tyX d ++ tyM d2) (fun q : Nat => s.heap.size ≤ q) s H locs) (hl : lv_has ls 4 [(3, .int i), (2, .ref hm), (1, .ref h), (0, .ref b)]) : W p l e room_1 s m #[Value.ref b] below meth c H locs cells slots (lw_Z below #[Value.ref b] s) (F0 m 510 ls []) := by
  obtain ⟨hx, hb, hr, hml, hown, hts, hX9, hbl, hlocks, hgv⟩ := id C0
  have hbA : ¬ (fun q : Nat => s.heap.size ≤ q) b := Nat.not_le.mpr hbl
  have F : CallFix p m c code 4 s #[Value.ref b] tb RL := ⟨hx, hb, hml, hown, fun w h => hts w (tb_in w h)⟩
  have hr1 := hroom.1
  have hr2 := hroom.2
  have y0 : (0 : Int32).toInt = 0 := by decide
  refine lv_aload_n hx hb dL_law_510 rfl (lv_at hl 2 rfl) ?_
  refine lv_aload_n hx hb dL_law_511 rfl (lv_at hl 3 rfl) ?_
  refine lv_iload_n hx hb dL_law_512 rfl (lv_at hl 0 rfl) ?_
  refine lv_iconst (v := 1) hx hb dL_law_513 (by decide) ?_
  refine lv_iadd hx hb dL_law_514 ?_
  refine lv_topi (fun y_1 ey_1 => ?_)
  first | have jy_1 : y_1.toInt = i.toInt + 1 := (by have q9 := ci_add (x := i) (y := 1) rfl (show (1 : Int32).toInt = 1 by decide) ey_1; omega) | have jy_1 := ci_add (x := i) (y := 1) rfl (show (1 : Int32).toInt = 1 by decide) ey_1
  refine va_sld hx hb hX9 hbl hbA St.toS (vp_in_iff.mpr ⟨by omega, by omega⟩) dL_law_515 ?_
  refine lv_topi (fun y_2 ey_2 => ?_)
  refine lv_aload_n hx hb dL_law_516 rfl (lv_at hl 3 rfl) ?_
  refine lv_iload_n hx hb dL_law_517 rfl (lv_at hl 0 rfl) ?_
  refine lv_iconst (v := 2) hx hb dL_law_518 (by decide) ?_
  refine lv_iadd hx hb dL_law_519 ?_
  refine lv_topi (fun y_3 ey_3 => ?_)
  first | have jy_3 : y_3.toInt = i.toInt + 2 := (by have q9 := ci_add (x := i) (y := 2) rfl (show (2 : Int32).toInt = 2 by decide) ey_3; omega) | have jy_3 := ci_add (x := i) (y := 2) rfl (show (2 : Int32).toInt = 2 by decide) ey_3
  refine va_sld hx hb hX9 hbl hbA St.toS (vp_in_iff.mpr ⟨by omega, by omega⟩) dL_law_520 ?_
  refine lv_topi (fun y_4 ey_4 => ?_)
  refine lx_gift (rest := []) F hl St hX (Nat.le_of_ble_eq_true rfl) ⟨by omega, by omega⟩ km_L_59 dL_law_521 y_2 y_4 (fun r_5 sn2_6 z0_7 z1_8 z2_9 ma2_10 co2_11 wx_12 H locs hf_13 hg_14 St => ?_)
  refine lv_pop hx hb dL_law_524 rfl ?_
  refine lv_aload_n hx hb dL_law_525 rfl (lv_at hl 1 rfl) ?_
  refine lv_aload_n hx hb dL_law_526 rfl (lv_at hl 3 rfl) ?_
  refine lv_iload_n hx hb dL_law_527 rfl (lv_at hl 0 rfl) ?_
  refine lv_iconst (v := 1) hx hb dL_law_528 (by decide) ?_
  refine lv_iadd hx hb dL_law_529 ?_
  refine top_i (y := y_1) ey_1.symm ?_
  refine va_sld hx hb hX9 hbl hbA St.toS (vp_in_iff.mpr ⟨by omega, by omega⟩) dL_law_530 ?_
  refine top_i (y := y_2) ey_2.symm ?_
  refine lv_aload_n hx hb dL_law_531 rfl (lv_at hl 3 rfl) ?_
  refine lv_iload_n hx hb dL_law_532 rfl (lv_at hl 0 rfl) ?_
  refine lv_iconst (v := 2) hx hb dL_law_533 (by decide) ?_
  refine lv_iadd hx hb dL_law_534 ?_
  refine top_i (y := y_3) ey_3.symm ?_
  refine va_sld hx hb hX9 hbl hbA St.toS (vp_in_iff.mpr ⟨by omega, by omega⟩) dL_law_535 ?_
  refine top_i (y := y_4) ey_4.symm ?_
  refine lm_gift (rest := []) F hl St hM (Nat.le_of_ble_eq_true rfl) ⟨by omega, by omega⟩ km_L_62 dL_law_536 y_2 y_4 (fun r_15 sn2_16 z0_17 z1_18 z2_19 ma2_20 co2_21 wm_22 H locs hf_23 hg_24 St => ?_)
  obtain ⟨rfl, rfl, rfl, rfl, rfl, rfl, rfl⟩ : r_5 = r_15 ∧ sn2_6 = sn2_16 ∧ z0_7 = z0_17 ∧ z1_8 = z1_18 ∧ z2_9 = z2_19 ∧ ma2_10 = ma2_20 ∧ co2_11 = co2_21 := det_gif hf_13 hf_23
  refine lv_pop hx hb dL_law_539 rfl ?_
  refine lv_goto (tgt := 852) hx hb dL_law_540 (by decide) ?_
  refine W.widen (k := cells + 4) (n := slots + 264) (by omega) (by omega) ?_
  exact kk nn cl sp bn tn g2 ft0 fr rk rp tP sn2_6 z0_7 z1_8 z2_9 u3 g0 g1 g3 ma2_10 ta co2_11 lo gr pd td sc sl sk sq su wx_12 wm_22 H locs ls hg_14 hg_24 St (lv_sub hl [0, 1, 2, 3] rfl)
set_option maxHeartbeats 40000000 in
set_option maxRecDepth 100000 in
theorem law_case11 {p : Program} {e : Env} {s : State} {m : MethodId} {below : List Frame} {meth : Method} {c : Code} {l : Launch} {b L : Nat} {xs : Nat → Int32} (hL : L ≤ 3072) (C0 : lw_At p s m meth c b L xs) (G : va_G) (k : Nat → Nat) (h hm : Nat) (a a2 : Nat → Nat) (d d2 : Nat → ClassId) (i : Int32) (cells slots : Nat) (hi0 : 0 ≤ i.toInt) (hi1 : i.toInt + 6 ≤ L) (hroom : cells + 4 ≤ room_1.cells ∧ slots + 264 ≤ room_1.slots) (nn : Int32) (cl : Int32) (sp : Int32) (bn : Int32) (tn : Int32) (g2 : Nat → Int32) (ft0 : Nat → Int32) (fr : Nat → Int32) (rk : Int32) (rp : Int32) (tP : Nat → Pl9) (sn : Int32) (u0 : Nat → Int32) (u1 : Nat → Int32) (u2 : Nat → Int32) (u3 : Nat → Int32) (g0 : Nat → Int32) (g1 : Nat → Int32) (g3 : Nat → Int32) (ma : Int) (ta : Int) (co : Int) (lo : Int) (gr : Int32) (pd : Int32) (td : Int32) (sc : Nat → Int32) (sl : Nat → Int32) (sk : Nat → Int32) (sq : Nat → Int32) (su : Nat → Int32) (wx wm : va_W) (H : Heap) (locs : List Loc) (ls : Array Slot) (kk : ∀ (nn : Int32) (cl : Int32) (sp : Int32) (bn : Int32) (tn : Int32) (g2 : Nat → Int32) (ft0 : Nat → Int32) (fr : Nat → Int32) (rk : Int32) (rp : Int32) (tP : Nat → Pl9) (sn : Int32) (u0 : Nat → Int32) (u1 : Nat → Int32) (u2 : Nat → Int32) (u3 : Nat → Int32) (g0 : Nat → Int32) (g1 : Nat → Int32) (g3 : Nat → Int32) (ma : Int) (ta : Int) (co : Int) (lo : Int) (gr : Int32) (pd : Int32) (td : Int32) (sc : Nat → Int32) (sl : Nat → Int32) (sk : Nat → Int32) (sq : Nat → Int32) (su : Nat → Int32) (wx wm : va_W) (H : Heap) (locs : List Loc) (ls : Array Slot), gX h a d nn cl sp bn tn g2 ft0 fr rk rp tP sn u0 u1 u2 u3 g0 g1 g3 ma ta co lo gr pd td sc sl sk sq su wx → gM hm a2 d2 nn cl sp bn tn g2 ft0 fr rk rp tP sn u0 u1 u2 u3 g0 g1 g3 ma ta co lo gr pd td sc sl sk sq su wm → cS G k (wx ++ wm) (tyX d ++ tyM d2) (fun q : Nat => s.heap.size ≤ q) s H locs → lv_has ls 4 [(3, .int i), (2, .ref hm), (1, .ref h), (0, .ref b)] → W p l e room_1 s m #[Value.ref b] below meth c H locs (cells + 4) (slots + 264) (lw_Z below #[Value.ref b] s) (F0 m 852 ls [])) (hX : gX h a d nn cl sp bn tn g2 ft0 fr rk rp tP sn u0 u1 u2 u3 g0 g1 g3 ma ta co lo gr pd td sc sl sk sq su wx) (hM : gM hm a2 d2 nn cl sp bn tn g2 ft0 fr rk rp tP sn u0 u1 u2 u3 g0 g1 g3 ma ta co lo gr pd td sc sl sk sq su wm) (St : cS G k (wx ++ wm) (tyX d ++ tyM d2) (fun q : Nat => s.heap.size ≤ q) s H locs) (hl : lv_has ls 4 [(3, .int i), (2, .ref hm), (1, .ref h), (0, .ref b)]) : W p l e room_1 s m #[Value.ref b] below meth c H locs cells slots (lw_Z below #[Value.ref b] s) (F0 m 543 ls []) := by
  obtain ⟨hx, hb, hr, hml, hown, hts, hX9, hbl, hlocks, hgv⟩ := id C0
  have hbA : ¬ (fun q : Nat => s.heap.size ≤ q) b := Nat.not_le.mpr hbl
  have F : CallFix p m c code 4 s #[Value.ref b] tb RL := ⟨hx, hb, hml, hown, fun w h => hts w (tb_in w h)⟩
  have hr1 := hroom.1
  have hr2 := hroom.2
  have y0 : (0 : Int32).toInt = 0 := by decide
  refine lv_aload_n hx hb dL_law_543 rfl (lv_at hl 2 rfl) ?_
  refine lv_aload_n hx hb dL_law_544 rfl (lv_at hl 3 rfl) ?_
  refine lv_iload_n hx hb dL_law_545 rfl (lv_at hl 0 rfl) ?_
  refine lv_iconst (v := 1) hx hb dL_law_546 (by decide) ?_
  refine lv_iadd hx hb dL_law_547 ?_
  refine lv_topi (fun y_1 ey_1 => ?_)
  first | have jy_1 : y_1.toInt = i.toInt + 1 := (by have q9 := ci_add (x := i) (y := 1) rfl (show (1 : Int32).toInt = 1 by decide) ey_1; omega) | have jy_1 := ci_add (x := i) (y := 1) rfl (show (1 : Int32).toInt = 1 by decide) ey_1
  refine va_sld hx hb hX9 hbl hbA St.toS (vp_in_iff.mpr ⟨by omega, by omega⟩) dL_law_548 ?_
  refine lv_topi (fun y_2 ey_2 => ?_)
  refine lx_takeUp (rest := []) F hl St hX (Nat.le_of_ble_eq_true rfl) ⟨by omega, by omega⟩ km_L_63 dL_law_549 y_2 (fun r_3 tP2_4 wx_5 H locs hf_6 hg_7 St => ?_)
  refine lv_pop hx hb dL_law_552 rfl ?_
  refine lv_aload_n hx hb dL_law_553 rfl (lv_at hl 1 rfl) ?_
  refine lv_aload_n hx hb dL_law_554 rfl (lv_at hl 3 rfl) ?_
  refine lv_iload_n hx hb dL_law_555 rfl (lv_at hl 0 rfl) ?_
  refine lv_iconst (v := 1) hx hb dL_law_556 (by decide) ?_
  refine lv_iadd hx hb dL_law_557 ?_
  refine top_i (y := y_1) ey_1.symm ?_
  refine va_sld hx hb hX9 hbl hbA St.toS (vp_in_iff.mpr ⟨by omega, by omega⟩) dL_law_558 ?_
  refine top_i (y := y_2) ey_2.symm ?_
  refine lm_takeUp (rest := []) F hl St hM (Nat.le_of_ble_eq_true rfl) ⟨by omega, by omega⟩ km_L_66 dL_law_559 y_2 (fun r_8 tP2_9 wm_10 H locs hf_11 hg_12 St => ?_)
  obtain ⟨rfl, rfl⟩ : r_3 = r_8 ∧ tP2_4 = tP2_9 := det_tku hf_6 hf_11
  refine lv_pop hx hb dL_law_562 rfl ?_
  refine lv_goto (tgt := 852) hx hb dL_law_563 (by decide) ?_
  refine W.widen (k := cells + 4) (n := slots + 264) (by omega) (by omega) ?_
  exact kk nn cl sp bn tn g2 ft0 fr rk rp tP2_4 sn u0 u1 u2 u3 g0 g1 g3 ma ta co lo gr pd td sc sl sk sq su wx_5 wm_10 H locs ls hg_7 hg_12 St (lv_sub hl [0, 1, 2, 3] rfl)
set_option maxHeartbeats 40000000 in
set_option maxRecDepth 100000 in
theorem law_case12 {p : Program} {e : Env} {s : State} {m : MethodId} {below : List Frame} {meth : Method} {c : Code} {l : Launch} {b L : Nat} {xs : Nat → Int32} (hL : L ≤ 3072) (C0 : lw_At p s m meth c b L xs) (G : va_G) (k : Nat → Nat) (h hm : Nat) (a a2 : Nat → Nat) (d d2 : Nat → ClassId) (i : Int32) (cells slots : Nat) (hi0 : 0 ≤ i.toInt) (hi1 : i.toInt + 6 ≤ L) (hroom : cells + 4 ≤ room_1.cells ∧ slots + 264 ≤ room_1.slots) (nn : Int32) (cl : Int32) (sp : Int32) (bn : Int32) (tn : Int32) (g2 : Nat → Int32) (ft0 : Nat → Int32) (fr : Nat → Int32) (rk : Int32) (rp : Int32) (tP : Nat → Pl9) (sn : Int32) (u0 : Nat → Int32) (u1 : Nat → Int32) (u2 : Nat → Int32) (u3 : Nat → Int32) (g0 : Nat → Int32) (g1 : Nat → Int32) (g3 : Nat → Int32) (ma : Int) (ta : Int) (co : Int) (lo : Int) (gr : Int32) (pd : Int32) (td : Int32) (sc : Nat → Int32) (sl : Nat → Int32) (sk : Nat → Int32) (sq : Nat → Int32) (su : Nat → Int32) (wx wm : va_W) (H : Heap) (locs : List Loc) (ls : Array Slot) (kk : ∀ (nn : Int32) (cl : Int32) (sp : Int32) (bn : Int32) (tn : Int32) (g2 : Nat → Int32) (ft0 : Nat → Int32) (fr : Nat → Int32) (rk : Int32) (rp : Int32) (tP : Nat → Pl9) (sn : Int32) (u0 : Nat → Int32) (u1 : Nat → Int32) (u2 : Nat → Int32) (u3 : Nat → Int32) (g0 : Nat → Int32) (g1 : Nat → Int32) (g3 : Nat → Int32) (ma : Int) (ta : Int) (co : Int) (lo : Int) (gr : Int32) (pd : Int32) (td : Int32) (sc : Nat → Int32) (sl : Nat → Int32) (sk : Nat → Int32) (sq : Nat → Int32) (su : Nat → Int32) (wx wm : va_W) (H : Heap) (locs : List Loc) (ls : Array Slot), gX h a d nn cl sp bn tn g2 ft0 fr rk rp tP sn u0 u1 u2 u3 g0 g1 g3 ma ta co lo gr pd td sc sl sk sq su wx → gM hm a2 d2 nn cl sp bn tn g2 ft0 fr rk rp tP sn u0 u1 u2 u3 g0 g1 g3 ma ta co lo gr pd td sc sl sk sq su wm → cS G k (wx ++ wm) (tyX d ++ tyM d2) (fun q : Nat => s.heap.size ≤ q) s H locs → lv_has ls 4 [(3, .int i), (2, .ref hm), (1, .ref h), (0, .ref b)] → W p l e room_1 s m #[Value.ref b] below meth c H locs (cells + 4) (slots + 264) (lw_Z below #[Value.ref b] s) (F0 m 852 ls [])) (hX : gX h a d nn cl sp bn tn g2 ft0 fr rk rp tP sn u0 u1 u2 u3 g0 g1 g3 ma ta co lo gr pd td sc sl sk sq su wx) (hM : gM hm a2 d2 nn cl sp bn tn g2 ft0 fr rk rp tP sn u0 u1 u2 u3 g0 g1 g3 ma ta co lo gr pd td sc sl sk sq su wm) (St : cS G k (wx ++ wm) (tyX d ++ tyM d2) (fun q : Nat => s.heap.size ≤ q) s H locs) (hl : lv_has ls 4 [(3, .int i), (2, .ref hm), (1, .ref h), (0, .ref b)]) : W p l e room_1 s m #[Value.ref b] below meth c H locs cells slots (lw_Z below #[Value.ref b] s) (F0 m 566 ls []) := by
  obtain ⟨hx, hb, hr, hml, hown, hts, hX9, hbl, hlocks, hgv⟩ := id C0
  have hbA : ¬ (fun q : Nat => s.heap.size ≤ q) b := Nat.not_le.mpr hbl
  have F : CallFix p m c code 4 s #[Value.ref b] tb RL := ⟨hx, hb, hml, hown, fun w h => hts w (tb_in w h)⟩
  have hr1 := hroom.1
  have hr2 := hroom.2
  have y0 : (0 : Int32).toInt = 0 := by decide
  refine lv_aload_n hx hb dL_law_566 rfl (lv_at hl 2 rfl) ?_
  refine lx_claim (rest := []) F hl St hX (Nat.le_of_ble_eq_true rfl) ⟨by omega, by omega⟩ km_L_67 dL_law_567 (fun r_1 z3_2 ta2_3 co2_4 wx_5 H locs hf_6 hg_7 St => ?_)
  refine lv_pop hx hb dL_law_570 rfl ?_
  refine lv_aload_n hx hb dL_law_571 rfl (lv_at hl 1 rfl) ?_
  refine lm_claim (rest := []) F hl St hM (Nat.le_of_ble_eq_true rfl) ⟨by omega, by omega⟩ km_L_70 dL_law_572 (fun r_8 z3_9 ta2_10 co2_11 wm_12 H locs hf_13 hg_14 St => ?_)
  obtain ⟨rfl, rfl, rfl, rfl⟩ : r_1 = r_8 ∧ z3_2 = z3_9 ∧ ta2_3 = ta2_10 ∧ co2_4 = co2_11 := det_clm hf_6 hf_13
  refine lv_pop hx hb dL_law_575 rfl ?_
  refine lv_goto (tgt := 852) hx hb dL_law_576 (by decide) ?_
  refine W.widen (k := cells + 4) (n := slots + 264) (by omega) (by omega) ?_
  exact kk nn cl sp bn tn g2 ft0 fr rk rp tP sn u0 u1 u2 z3_2 g0 g1 g3 ma ta2_3 co2_4 lo gr pd td sc sl sk sq su wx_5 wm_12 H locs ls hg_7 hg_14 St (lv_sub hl [0, 1, 2, 3] rfl)
set_option maxHeartbeats 40000000 in
set_option maxRecDepth 100000 in
theorem law_case13 {p : Program} {e : Env} {s : State} {m : MethodId} {below : List Frame} {meth : Method} {c : Code} {l : Launch} {b L : Nat} {xs : Nat → Int32} (hL : L ≤ 3072) (C0 : lw_At p s m meth c b L xs) (G : va_G) (k : Nat → Nat) (h hm : Nat) (a a2 : Nat → Nat) (d d2 : Nat → ClassId) (i : Int32) (cells slots : Nat) (hi0 : 0 ≤ i.toInt) (hi1 : i.toInt + 6 ≤ L) (hroom : cells + 4 ≤ room_1.cells ∧ slots + 264 ≤ room_1.slots) (nn : Int32) (cl : Int32) (sp : Int32) (bn : Int32) (tn : Int32) (g2 : Nat → Int32) (ft0 : Nat → Int32) (fr : Nat → Int32) (rk : Int32) (rp : Int32) (tP : Nat → Pl9) (sn : Int32) (u0 : Nat → Int32) (u1 : Nat → Int32) (u2 : Nat → Int32) (u3 : Nat → Int32) (g0 : Nat → Int32) (g1 : Nat → Int32) (g3 : Nat → Int32) (ma : Int) (ta : Int) (co : Int) (lo : Int) (gr : Int32) (pd : Int32) (td : Int32) (sc : Nat → Int32) (sl : Nat → Int32) (sk : Nat → Int32) (sq : Nat → Int32) (su : Nat → Int32) (wx wm : va_W) (H : Heap) (locs : List Loc) (ls : Array Slot) (kk : ∀ (nn : Int32) (cl : Int32) (sp : Int32) (bn : Int32) (tn : Int32) (g2 : Nat → Int32) (ft0 : Nat → Int32) (fr : Nat → Int32) (rk : Int32) (rp : Int32) (tP : Nat → Pl9) (sn : Int32) (u0 : Nat → Int32) (u1 : Nat → Int32) (u2 : Nat → Int32) (u3 : Nat → Int32) (g0 : Nat → Int32) (g1 : Nat → Int32) (g3 : Nat → Int32) (ma : Int) (ta : Int) (co : Int) (lo : Int) (gr : Int32) (pd : Int32) (td : Int32) (sc : Nat → Int32) (sl : Nat → Int32) (sk : Nat → Int32) (sq : Nat → Int32) (su : Nat → Int32) (wx wm : va_W) (H : Heap) (locs : List Loc) (ls : Array Slot), gX h a d nn cl sp bn tn g2 ft0 fr rk rp tP sn u0 u1 u2 u3 g0 g1 g3 ma ta co lo gr pd td sc sl sk sq su wx → gM hm a2 d2 nn cl sp bn tn g2 ft0 fr rk rp tP sn u0 u1 u2 u3 g0 g1 g3 ma ta co lo gr pd td sc sl sk sq su wm → cS G k (wx ++ wm) (tyX d ++ tyM d2) (fun q : Nat => s.heap.size ≤ q) s H locs → lv_has ls 4 [(3, .int i), (2, .ref hm), (1, .ref h), (0, .ref b)] → W p l e room_1 s m #[Value.ref b] below meth c H locs (cells + 4) (slots + 264) (lw_Z below #[Value.ref b] s) (F0 m 852 ls [])) (hX : gX h a d nn cl sp bn tn g2 ft0 fr rk rp tP sn u0 u1 u2 u3 g0 g1 g3 ma ta co lo gr pd td sc sl sk sq su wx) (hM : gM hm a2 d2 nn cl sp bn tn g2 ft0 fr rk rp tP sn u0 u1 u2 u3 g0 g1 g3 ma ta co lo gr pd td sc sl sk sq su wm) (St : cS G k (wx ++ wm) (tyX d ++ tyM d2) (fun q : Nat => s.heap.size ≤ q) s H locs) (hl : lv_has ls 4 [(3, .int i), (2, .ref hm), (1, .ref h), (0, .ref b)]) : W p l e room_1 s m #[Value.ref b] below meth c H locs cells slots (lw_Z below #[Value.ref b] s) (F0 m 579 ls []) := by
  obtain ⟨hx, hb, hr, hml, hown, hts, hX9, hbl, hlocks, hgv⟩ := id C0
  have hbA : ¬ (fun q : Nat => s.heap.size ≤ q) b := Nat.not_le.mpr hbl
  have F : CallFix p m c code 4 s #[Value.ref b] tb RL := ⟨hx, hb, hml, hown, fun w h => hts w (tb_in w h)⟩
  have hr1 := hroom.1
  have hr2 := hroom.2
  have y0 : (0 : Int32).toInt = 0 := by decide
  refine lv_aload_n hx hb dL_law_579 rfl (lv_at hl 2 rfl) ?_
  refine lv_aload_n hx hb dL_law_580 rfl (lv_at hl 3 rfl) ?_
  refine lv_iload_n hx hb dL_law_581 rfl (lv_at hl 0 rfl) ?_
  refine lv_iconst (v := 1) hx hb dL_law_582 (by decide) ?_
  refine lv_iadd hx hb dL_law_583 ?_
  refine lv_topi (fun y_1 ey_1 => ?_)
  first | have jy_1 : y_1.toInt = i.toInt + 1 := (by have q9 := ci_add (x := i) (y := 1) rfl (show (1 : Int32).toInt = 1 by decide) ey_1; omega) | have jy_1 := ci_add (x := i) (y := 1) rfl (show (1 : Int32).toInt = 1 by decide) ey_1
  refine va_sld hx hb hX9 hbl hbA St.toS (vp_in_iff.mpr ⟨by omega, by omega⟩) dL_law_584 ?_
  refine lv_topi (fun y_2 ey_2 => ?_)
  refine lv_aload_n hx hb dL_law_585 rfl (lv_at hl 3 rfl) ?_
  refine lv_iload_n hx hb dL_law_586 rfl (lv_at hl 0 rfl) ?_
  refine lv_iconst (v := 2) hx hb dL_law_587 (by decide) ?_
  refine lv_iadd hx hb dL_law_588 ?_
  refine lv_topi (fun y_3 ey_3 => ?_)
  first | have jy_3 : y_3.toInt = i.toInt + 2 := (by have q9 := ci_add (x := i) (y := 2) rfl (show (2 : Int32).toInt = 2 by decide) ey_3; omega) | have jy_3 := ci_add (x := i) (y := 2) rfl (show (2 : Int32).toInt = 2 by decide) ey_3
  refine va_sld hx hb hX9 hbl hbA St.toS (vp_in_iff.mpr ⟨by omega, by omega⟩) dL_law_589 ?_
  refine lv_topi (fun y_4 ey_4 => ?_)
  refine lx_about (rest := []) F hl St hX (Nat.le_of_ble_eq_true rfl) ⟨by omega, by omega⟩ km_L_71 dL_law_590 y_2 y_4 (fun r_5 wx_6 H locs hg_7 St => ?_)
  refine lv_pop hx hb dL_law_593 rfl ?_
  refine lv_aload_n hx hb dL_law_594 rfl (lv_at hl 1 rfl) ?_
  refine lv_aload_n hx hb dL_law_595 rfl (lv_at hl 3 rfl) ?_
  refine lv_iload_n hx hb dL_law_596 rfl (lv_at hl 0 rfl) ?_
  refine lv_iconst (v := 1) hx hb dL_law_597 (by decide) ?_
  refine lv_iadd hx hb dL_law_598 ?_
  refine top_i (y := y_1) ey_1.symm ?_
  refine va_sld hx hb hX9 hbl hbA St.toS (vp_in_iff.mpr ⟨by omega, by omega⟩) dL_law_599 ?_
  refine top_i (y := y_2) ey_2.symm ?_
  refine lv_aload_n hx hb dL_law_600 rfl (lv_at hl 3 rfl) ?_
  refine lv_iload_n hx hb dL_law_601 rfl (lv_at hl 0 rfl) ?_
  refine lv_iconst (v := 2) hx hb dL_law_602 (by decide) ?_
  refine lv_iadd hx hb dL_law_603 ?_
  refine top_i (y := y_3) ey_3.symm ?_
  refine va_sld hx hb hX9 hbl hbA St.toS (vp_in_iff.mpr ⟨by omega, by omega⟩) dL_law_604 ?_
  refine top_i (y := y_4) ey_4.symm ?_
  refine lm_about (rest := []) F hl St hM (Nat.le_of_ble_eq_true rfl) ⟨by omega, by omega⟩ km_L_74 dL_law_605 y_2 y_4 (fun r_8 wm_9 H locs hg_10 St => ?_)
  refine lv_pop hx hb dL_law_608 rfl ?_
  refine lv_goto (tgt := 852) hx hb dL_law_609 (by decide) ?_
  refine W.widen (k := cells + 4) (n := slots + 264) (by omega) (by omega) ?_
  exact kk nn cl sp bn tn g2 ft0 fr rk rp tP sn u0 u1 u2 u3 g0 g1 g3 ma ta co lo gr pd td sc sl sk sq su wx_6 wm_9 H locs ls hg_7 hg_10 St (lv_sub hl [0, 1, 2, 3] rfl)
set_option maxHeartbeats 40000000 in
set_option maxRecDepth 100000 in
theorem law_case14 {p : Program} {e : Env} {s : State} {m : MethodId} {below : List Frame} {meth : Method} {c : Code} {l : Launch} {b L : Nat} {xs : Nat → Int32} (hL : L ≤ 3072) (C0 : lw_At p s m meth c b L xs) (G : va_G) (k : Nat → Nat) (h hm : Nat) (a a2 : Nat → Nat) (d d2 : Nat → ClassId) (i : Int32) (cells slots : Nat) (hi0 : 0 ≤ i.toInt) (hi1 : i.toInt + 6 ≤ L) (hroom : cells + 4 ≤ room_1.cells ∧ slots + 264 ≤ room_1.slots) (nn : Int32) (cl : Int32) (sp : Int32) (bn : Int32) (tn : Int32) (g2 : Nat → Int32) (ft0 : Nat → Int32) (fr : Nat → Int32) (rk : Int32) (rp : Int32) (tP : Nat → Pl9) (sn : Int32) (u0 : Nat → Int32) (u1 : Nat → Int32) (u2 : Nat → Int32) (u3 : Nat → Int32) (g0 : Nat → Int32) (g1 : Nat → Int32) (g3 : Nat → Int32) (ma : Int) (ta : Int) (co : Int) (lo : Int) (gr : Int32) (pd : Int32) (td : Int32) (sc : Nat → Int32) (sl : Nat → Int32) (sk : Nat → Int32) (sq : Nat → Int32) (su : Nat → Int32) (wx wm : va_W) (H : Heap) (locs : List Loc) (ls : Array Slot) (kk : ∀ (nn : Int32) (cl : Int32) (sp : Int32) (bn : Int32) (tn : Int32) (g2 : Nat → Int32) (ft0 : Nat → Int32) (fr : Nat → Int32) (rk : Int32) (rp : Int32) (tP : Nat → Pl9) (sn : Int32) (u0 : Nat → Int32) (u1 : Nat → Int32) (u2 : Nat → Int32) (u3 : Nat → Int32) (g0 : Nat → Int32) (g1 : Nat → Int32) (g3 : Nat → Int32) (ma : Int) (ta : Int) (co : Int) (lo : Int) (gr : Int32) (pd : Int32) (td : Int32) (sc : Nat → Int32) (sl : Nat → Int32) (sk : Nat → Int32) (sq : Nat → Int32) (su : Nat → Int32) (wx wm : va_W) (H : Heap) (locs : List Loc) (ls : Array Slot), gX h a d nn cl sp bn tn g2 ft0 fr rk rp tP sn u0 u1 u2 u3 g0 g1 g3 ma ta co lo gr pd td sc sl sk sq su wx → gM hm a2 d2 nn cl sp bn tn g2 ft0 fr rk rp tP sn u0 u1 u2 u3 g0 g1 g3 ma ta co lo gr pd td sc sl sk sq su wm → cS G k (wx ++ wm) (tyX d ++ tyM d2) (fun q : Nat => s.heap.size ≤ q) s H locs → lv_has ls 4 [(3, .int i), (2, .ref hm), (1, .ref h), (0, .ref b)] → W p l e room_1 s m #[Value.ref b] below meth c H locs (cells + 4) (slots + 264) (lw_Z below #[Value.ref b] s) (F0 m 852 ls [])) (hX : gX h a d nn cl sp bn tn g2 ft0 fr rk rp tP sn u0 u1 u2 u3 g0 g1 g3 ma ta co lo gr pd td sc sl sk sq su wx) (hM : gM hm a2 d2 nn cl sp bn tn g2 ft0 fr rk rp tP sn u0 u1 u2 u3 g0 g1 g3 ma ta co lo gr pd td sc sl sk sq su wm) (St : cS G k (wx ++ wm) (tyX d ++ tyM d2) (fun q : Nat => s.heap.size ≤ q) s H locs) (hl : lv_has ls 4 [(3, .int i), (2, .ref hm), (1, .ref h), (0, .ref b)]) : W p l e room_1 s m #[Value.ref b] below meth c H locs cells slots (lw_Z below #[Value.ref b] s) (F0 m 612 ls []) := by
  obtain ⟨hx, hb, hr, hml, hown, hts, hX9, hbl, hlocks, hgv⟩ := id C0
  have hbA : ¬ (fun q : Nat => s.heap.size ≤ q) b := Nat.not_le.mpr hbl
  have F : CallFix p m c code 4 s #[Value.ref b] tb RL := ⟨hx, hb, hml, hown, fun w h => hts w (tb_in w h)⟩
  have hr1 := hroom.1
  have hr2 := hroom.2
  have y0 : (0 : Int32).toInt = 0 := by decide
  refine lv_aload_n hx hb dL_law_612 rfl (lv_at hl 2 rfl) ?_
  refine lv_aload_n hx hb dL_law_613 rfl (lv_at hl 3 rfl) ?_
  refine lv_iload_n hx hb dL_law_614 rfl (lv_at hl 0 rfl) ?_
  refine lv_iconst (v := 1) hx hb dL_law_615 (by decide) ?_
  refine lv_iadd hx hb dL_law_616 ?_
  refine lv_topi (fun y_1 ey_1 => ?_)
  first | have jy_1 : y_1.toInt = i.toInt + 1 := (by have q9 := ci_add (x := i) (y := 1) rfl (show (1 : Int32).toInt = 1 by decide) ey_1; omega) | have jy_1 := ci_add (x := i) (y := 1) rfl (show (1 : Int32).toInt = 1 by decide) ey_1
  refine va_sld hx hb hX9 hbl hbA St.toS (vp_in_iff.mpr ⟨by omega, by omega⟩) dL_law_617 ?_
  refine lv_topi (fun y_2 ey_2 => ?_)
  refine lv_aload_n hx hb dL_law_618 rfl (lv_at hl 3 rfl) ?_
  refine lv_iload_n hx hb dL_law_619 rfl (lv_at hl 0 rfl) ?_
  refine lv_iconst (v := 2) hx hb dL_law_620 (by decide) ?_
  refine lv_iadd hx hb dL_law_621 ?_
  refine lv_topi (fun y_3 ey_3 => ?_)
  first | have jy_3 : y_3.toInt = i.toInt + 2 := (by have q9 := ci_add (x := i) (y := 2) rfl (show (2 : Int32).toInt = 2 by decide) ey_3; omega) | have jy_3 := ci_add (x := i) (y := 2) rfl (show (2 : Int32).toInt = 2 by decide) ey_3
  refine va_sld hx hb hX9 hbl hbA St.toS (vp_in_iff.mpr ⟨by omega, by omega⟩) dL_law_622 ?_
  refine lv_topi (fun y_4 ey_4 => ?_)
  refine lx_giver (rest := []) F hl St hX (Nat.le_of_ble_eq_true rfl) ⟨by omega, by omega⟩ km_L_75 dL_law_623 y_2 y_4 (fun r_5 wx_6 H locs hg_7 St => ?_)
  refine lv_pop hx hb dL_law_626 rfl ?_
  refine lv_aload_n hx hb dL_law_627 rfl (lv_at hl 1 rfl) ?_
  refine lv_aload_n hx hb dL_law_628 rfl (lv_at hl 3 rfl) ?_
  refine lv_iload_n hx hb dL_law_629 rfl (lv_at hl 0 rfl) ?_
  refine lv_iconst (v := 1) hx hb dL_law_630 (by decide) ?_
  refine lv_iadd hx hb dL_law_631 ?_
  refine top_i (y := y_1) ey_1.symm ?_
  refine va_sld hx hb hX9 hbl hbA St.toS (vp_in_iff.mpr ⟨by omega, by omega⟩) dL_law_632 ?_
  refine top_i (y := y_2) ey_2.symm ?_
  refine lv_aload_n hx hb dL_law_633 rfl (lv_at hl 3 rfl) ?_
  refine lv_iload_n hx hb dL_law_634 rfl (lv_at hl 0 rfl) ?_
  refine lv_iconst (v := 2) hx hb dL_law_635 (by decide) ?_
  refine lv_iadd hx hb dL_law_636 ?_
  refine top_i (y := y_3) ey_3.symm ?_
  refine va_sld hx hb hX9 hbl hbA St.toS (vp_in_iff.mpr ⟨by omega, by omega⟩) dL_law_637 ?_
  refine top_i (y := y_4) ey_4.symm ?_
  refine lm_giver (rest := []) F hl St hM (Nat.le_of_ble_eq_true rfl) ⟨by omega, by omega⟩ km_L_78 dL_law_638 y_2 y_4 (fun r_8 wm_9 H locs hg_10 St => ?_)
  refine lv_pop hx hb dL_law_641 rfl ?_
  refine lv_goto (tgt := 852) hx hb dL_law_642 (by decide) ?_
  refine W.widen (k := cells + 4) (n := slots + 264) (by omega) (by omega) ?_
  exact kk nn cl sp bn tn g2 ft0 fr rk rp tP sn u0 u1 u2 u3 g0 g1 g3 ma ta co lo gr pd td sc sl sk sq su wx_6 wm_9 H locs ls hg_7 hg_10 St (lv_sub hl [0, 1, 2, 3] rfl)
set_option maxHeartbeats 40000000 in
set_option maxRecDepth 100000 in
theorem law_case15 {p : Program} {e : Env} {s : State} {m : MethodId} {below : List Frame} {meth : Method} {c : Code} {l : Launch} {b L : Nat} {xs : Nat → Int32} (hL : L ≤ 3072) (C0 : lw_At p s m meth c b L xs) (G : va_G) (k : Nat → Nat) (h hm : Nat) (a a2 : Nat → Nat) (d d2 : Nat → ClassId) (i : Int32) (cells slots : Nat) (hi0 : 0 ≤ i.toInt) (hi1 : i.toInt + 6 ≤ L) (hroom : cells + 4 ≤ room_1.cells ∧ slots + 264 ≤ room_1.slots) (nn : Int32) (cl : Int32) (sp : Int32) (bn : Int32) (tn : Int32) (g2 : Nat → Int32) (ft0 : Nat → Int32) (fr : Nat → Int32) (rk : Int32) (rp : Int32) (tP : Nat → Pl9) (sn : Int32) (u0 : Nat → Int32) (u1 : Nat → Int32) (u2 : Nat → Int32) (u3 : Nat → Int32) (g0 : Nat → Int32) (g1 : Nat → Int32) (g3 : Nat → Int32) (ma : Int) (ta : Int) (co : Int) (lo : Int) (gr : Int32) (pd : Int32) (td : Int32) (sc : Nat → Int32) (sl : Nat → Int32) (sk : Nat → Int32) (sq : Nat → Int32) (su : Nat → Int32) (wx wm : va_W) (H : Heap) (locs : List Loc) (ls : Array Slot) (kk : ∀ (nn : Int32) (cl : Int32) (sp : Int32) (bn : Int32) (tn : Int32) (g2 : Nat → Int32) (ft0 : Nat → Int32) (fr : Nat → Int32) (rk : Int32) (rp : Int32) (tP : Nat → Pl9) (sn : Int32) (u0 : Nat → Int32) (u1 : Nat → Int32) (u2 : Nat → Int32) (u3 : Nat → Int32) (g0 : Nat → Int32) (g1 : Nat → Int32) (g3 : Nat → Int32) (ma : Int) (ta : Int) (co : Int) (lo : Int) (gr : Int32) (pd : Int32) (td : Int32) (sc : Nat → Int32) (sl : Nat → Int32) (sk : Nat → Int32) (sq : Nat → Int32) (su : Nat → Int32) (wx wm : va_W) (H : Heap) (locs : List Loc) (ls : Array Slot), gX h a d nn cl sp bn tn g2 ft0 fr rk rp tP sn u0 u1 u2 u3 g0 g1 g3 ma ta co lo gr pd td sc sl sk sq su wx → gM hm a2 d2 nn cl sp bn tn g2 ft0 fr rk rp tP sn u0 u1 u2 u3 g0 g1 g3 ma ta co lo gr pd td sc sl sk sq su wm → cS G k (wx ++ wm) (tyX d ++ tyM d2) (fun q : Nat => s.heap.size ≤ q) s H locs → lv_has ls 4 [(3, .int i), (2, .ref hm), (1, .ref h), (0, .ref b)] → W p l e room_1 s m #[Value.ref b] below meth c H locs (cells + 4) (slots + 264) (lw_Z below #[Value.ref b] s) (F0 m 852 ls [])) (hX : gX h a d nn cl sp bn tn g2 ft0 fr rk rp tP sn u0 u1 u2 u3 g0 g1 g3 ma ta co lo gr pd td sc sl sk sq su wx) (hM : gM hm a2 d2 nn cl sp bn tn g2 ft0 fr rk rp tP sn u0 u1 u2 u3 g0 g1 g3 ma ta co lo gr pd td sc sl sk sq su wm) (St : cS G k (wx ++ wm) (tyX d ++ tyM d2) (fun q : Nat => s.heap.size ≤ q) s H locs) (hl : lv_has ls 4 [(3, .int i), (2, .ref hm), (1, .ref h), (0, .ref b)]) : W p l e room_1 s m #[Value.ref b] below meth c H locs cells slots (lw_Z below #[Value.ref b] s) (F0 m 645 ls []) := by
  obtain ⟨hx, hb, hr, hml, hown, hts, hX9, hbl, hlocks, hgv⟩ := id C0
  have hbA : ¬ (fun q : Nat => s.heap.size ≤ q) b := Nat.not_le.mpr hbl
  have F : CallFix p m c code 4 s #[Value.ref b] tb RL := ⟨hx, hb, hml, hown, fun w h => hts w (tb_in w h)⟩
  have hr1 := hroom.1
  have hr2 := hroom.2
  have y0 : (0 : Int32).toInt = 0 := by decide
  refine lv_aload_n hx hb dL_law_645 rfl (lv_at hl 2 rfl) ?_
  refine lv_aload_n hx hb dL_law_646 rfl (lv_at hl 3 rfl) ?_
  refine lv_iload_n hx hb dL_law_647 rfl (lv_at hl 0 rfl) ?_
  refine lv_iconst (v := 1) hx hb dL_law_648 (by decide) ?_
  refine lv_iadd hx hb dL_law_649 ?_
  refine lv_topi (fun y_1 ey_1 => ?_)
  first | have jy_1 : y_1.toInt = i.toInt + 1 := (by have q9 := ci_add (x := i) (y := 1) rfl (show (1 : Int32).toInt = 1 by decide) ey_1; omega) | have jy_1 := ci_add (x := i) (y := 1) rfl (show (1 : Int32).toInt = 1 by decide) ey_1
  refine va_sld hx hb hX9 hbl hbA St.toS (vp_in_iff.mpr ⟨by omega, by omega⟩) dL_law_650 ?_
  refine lv_topi (fun y_2 ey_2 => ?_)
  refine lv_aload_n hx hb dL_law_651 rfl (lv_at hl 3 rfl) ?_
  refine lv_iload_n hx hb dL_law_652 rfl (lv_at hl 0 rfl) ?_
  refine lv_iconst (v := 2) hx hb dL_law_653 (by decide) ?_
  refine lv_iadd hx hb dL_law_654 ?_
  refine lv_topi (fun y_3 ey_3 => ?_)
  first | have jy_3 : y_3.toInt = i.toInt + 2 := (by have q9 := ci_add (x := i) (y := 2) rfl (show (2 : Int32).toInt = 2 by decide) ey_3; omega) | have jy_3 := ci_add (x := i) (y := 2) rfl (show (2 : Int32).toInt = 2 by decide) ey_3
  refine va_sld hx hb hX9 hbl hbA St.toS (vp_in_iff.mpr ⟨by omega, by omega⟩) dL_law_655 ?_
  refine lv_topi (fun y_4 ey_4 => ?_)
  refine lx_stage (rest := []) F hl St hX (Nat.le_of_ble_eq_true rfl) ⟨by omega, by omega⟩ km_L_79 dL_law_656 y_2 y_4 (fun r_5 tn2_6 sc2_7 sl2_8 wx_9 H locs hf_10 hg_11 St => ?_)
  refine lv_pop hx hb dL_law_659 rfl ?_
  refine lv_aload_n hx hb dL_law_660 rfl (lv_at hl 1 rfl) ?_
  refine lv_aload_n hx hb dL_law_661 rfl (lv_at hl 3 rfl) ?_
  refine lv_iload_n hx hb dL_law_662 rfl (lv_at hl 0 rfl) ?_
  refine lv_iconst (v := 1) hx hb dL_law_663 (by decide) ?_
  refine lv_iadd hx hb dL_law_664 ?_
  refine top_i (y := y_1) ey_1.symm ?_
  refine va_sld hx hb hX9 hbl hbA St.toS (vp_in_iff.mpr ⟨by omega, by omega⟩) dL_law_665 ?_
  refine top_i (y := y_2) ey_2.symm ?_
  refine lv_aload_n hx hb dL_law_666 rfl (lv_at hl 3 rfl) ?_
  refine lv_iload_n hx hb dL_law_667 rfl (lv_at hl 0 rfl) ?_
  refine lv_iconst (v := 2) hx hb dL_law_668 (by decide) ?_
  refine lv_iadd hx hb dL_law_669 ?_
  refine top_i (y := y_3) ey_3.symm ?_
  refine va_sld hx hb hX9 hbl hbA St.toS (vp_in_iff.mpr ⟨by omega, by omega⟩) dL_law_670 ?_
  refine top_i (y := y_4) ey_4.symm ?_
  refine lm_stage (rest := []) F hl St hM (Nat.le_of_ble_eq_true rfl) ⟨by omega, by omega⟩ km_L_82 dL_law_671 y_2 y_4 (fun r_12 tn2_13 sc2_14 sl2_15 wm_16 H locs hf_17 hg_18 St => ?_)
  obtain ⟨rfl, rfl, rfl, rfl⟩ : r_5 = r_12 ∧ tn2_6 = tn2_13 ∧ sc2_7 = sc2_14 ∧ sl2_8 = sl2_15 := det_stg hf_10 hf_17
  refine lv_pop hx hb dL_law_674 rfl ?_
  refine lv_goto (tgt := 852) hx hb dL_law_675 (by decide) ?_
  refine W.widen (k := cells + 4) (n := slots + 264) (by omega) (by omega) ?_
  exact kk nn cl sp bn tn2_6 g2 ft0 fr rk rp tP sn u0 u1 u2 u3 g0 g1 g3 ma ta co lo gr pd td sc2_7 sl2_8 sk sq su wx_9 wm_16 H locs ls hg_11 hg_18 St (lv_sub hl [0, 1, 2, 3] rfl)
set_option maxHeartbeats 40000000 in
set_option maxRecDepth 100000 in
theorem law_case16 {p : Program} {e : Env} {s : State} {m : MethodId} {below : List Frame} {meth : Method} {c : Code} {l : Launch} {b L : Nat} {xs : Nat → Int32} (hL : L ≤ 3072) (C0 : lw_At p s m meth c b L xs) (G : va_G) (k : Nat → Nat) (h hm : Nat) (a a2 : Nat → Nat) (d d2 : Nat → ClassId) (i : Int32) (cells slots : Nat) (hi0 : 0 ≤ i.toInt) (hi1 : i.toInt + 6 ≤ L) (hroom : cells + 4 ≤ room_1.cells ∧ slots + 264 ≤ room_1.slots) (nn : Int32) (cl : Int32) (sp : Int32) (bn : Int32) (tn : Int32) (g2 : Nat → Int32) (ft0 : Nat → Int32) (fr : Nat → Int32) (rk : Int32) (rp : Int32) (tP : Nat → Pl9) (sn : Int32) (u0 : Nat → Int32) (u1 : Nat → Int32) (u2 : Nat → Int32) (u3 : Nat → Int32) (g0 : Nat → Int32) (g1 : Nat → Int32) (g3 : Nat → Int32) (ma : Int) (ta : Int) (co : Int) (lo : Int) (gr : Int32) (pd : Int32) (td : Int32) (sc : Nat → Int32) (sl : Nat → Int32) (sk : Nat → Int32) (sq : Nat → Int32) (su : Nat → Int32) (wx wm : va_W) (H : Heap) (locs : List Loc) (ls : Array Slot) (kk : ∀ (nn : Int32) (cl : Int32) (sp : Int32) (bn : Int32) (tn : Int32) (g2 : Nat → Int32) (ft0 : Nat → Int32) (fr : Nat → Int32) (rk : Int32) (rp : Int32) (tP : Nat → Pl9) (sn : Int32) (u0 : Nat → Int32) (u1 : Nat → Int32) (u2 : Nat → Int32) (u3 : Nat → Int32) (g0 : Nat → Int32) (g1 : Nat → Int32) (g3 : Nat → Int32) (ma : Int) (ta : Int) (co : Int) (lo : Int) (gr : Int32) (pd : Int32) (td : Int32) (sc : Nat → Int32) (sl : Nat → Int32) (sk : Nat → Int32) (sq : Nat → Int32) (su : Nat → Int32) (wx wm : va_W) (H : Heap) (locs : List Loc) (ls : Array Slot), gX h a d nn cl sp bn tn g2 ft0 fr rk rp tP sn u0 u1 u2 u3 g0 g1 g3 ma ta co lo gr pd td sc sl sk sq su wx → gM hm a2 d2 nn cl sp bn tn g2 ft0 fr rk rp tP sn u0 u1 u2 u3 g0 g1 g3 ma ta co lo gr pd td sc sl sk sq su wm → cS G k (wx ++ wm) (tyX d ++ tyM d2) (fun q : Nat => s.heap.size ≤ q) s H locs → lv_has ls 4 [(3, .int i), (2, .ref hm), (1, .ref h), (0, .ref b)] → W p l e room_1 s m #[Value.ref b] below meth c H locs (cells + 4) (slots + 264) (lw_Z below #[Value.ref b] s) (F0 m 852 ls [])) (hX : gX h a d nn cl sp bn tn g2 ft0 fr rk rp tP sn u0 u1 u2 u3 g0 g1 g3 ma ta co lo gr pd td sc sl sk sq su wx) (hM : gM hm a2 d2 nn cl sp bn tn g2 ft0 fr rk rp tP sn u0 u1 u2 u3 g0 g1 g3 ma ta co lo gr pd td sc sl sk sq su wm) (St : cS G k (wx ++ wm) (tyX d ++ tyM d2) (fun q : Nat => s.heap.size ≤ q) s H locs) (hl : lv_has ls 4 [(3, .int i), (2, .ref hm), (1, .ref h), (0, .ref b)]) : W p l e room_1 s m #[Value.ref b] below meth c H locs cells slots (lw_Z below #[Value.ref b] s) (F0 m 678 ls []) := by
  obtain ⟨hx, hb, hr, hml, hown, hts, hX9, hbl, hlocks, hgv⟩ := id C0
  have hbA : ¬ (fun q : Nat => s.heap.size ≤ q) b := Nat.not_le.mpr hbl
  have F : CallFix p m c code 4 s #[Value.ref b] tb RL := ⟨hx, hb, hml, hown, fun w h => hts w (tb_in w h)⟩
  have hr1 := hroom.1
  have hr2 := hroom.2
  have y0 : (0 : Int32).toInt = 0 := by decide
  refine lv_aload_n hx hb dL_law_678 rfl (lv_at hl 2 rfl) ?_
  refine lx_begin (rest := []) F hl St hX (Nat.le_of_ble_eq_true rfl) ⟨by omega, by omega⟩ km_L_83 dL_law_679 (fun r_1 td2_2 wx_3 H locs hf_4 hg_5 St => ?_)
  refine lv_pop hx hb dL_law_682 rfl ?_
  refine lv_aload_n hx hb dL_law_683 rfl (lv_at hl 1 rfl) ?_
  refine lm_begin (rest := []) F hl St hM (Nat.le_of_ble_eq_true rfl) ⟨by omega, by omega⟩ km_L_86 dL_law_684 (fun r_6 td2_7 wm_8 H locs hf_9 hg_10 St => ?_)
  obtain ⟨rfl, rfl⟩ : r_1 = r_6 ∧ td2_2 = td2_7 := det_beg hf_4 hf_9
  refine lv_pop hx hb dL_law_687 rfl ?_
  refine lv_goto (tgt := 852) hx hb dL_law_688 (by decide) ?_
  refine W.widen (k := cells + 4) (n := slots + 264) (by omega) (by omega) ?_
  exact kk nn cl sp bn tn g2 ft0 fr rk rp tP sn u0 u1 u2 u3 g0 g1 g3 ma ta co lo gr pd td2_2 sc sl sk sq su wx_3 wm_8 H locs ls hg_5 hg_10 St (lv_sub hl [0, 1, 2, 3] rfl)
set_option maxHeartbeats 40000000 in
set_option maxRecDepth 100000 in
theorem law_case17 {p : Program} {e : Env} {s : State} {m : MethodId} {below : List Frame} {meth : Method} {c : Code} {l : Launch} {b L : Nat} {xs : Nat → Int32} (hL : L ≤ 3072) (C0 : lw_At p s m meth c b L xs) (G : va_G) (k : Nat → Nat) (h hm : Nat) (a a2 : Nat → Nat) (d d2 : Nat → ClassId) (i : Int32) (cells slots : Nat) (hi0 : 0 ≤ i.toInt) (hi1 : i.toInt + 6 ≤ L) (hroom : cells + 4 ≤ room_1.cells ∧ slots + 264 ≤ room_1.slots) (nn : Int32) (cl : Int32) (sp : Int32) (bn : Int32) (tn : Int32) (g2 : Nat → Int32) (ft0 : Nat → Int32) (fr : Nat → Int32) (rk : Int32) (rp : Int32) (tP : Nat → Pl9) (sn : Int32) (u0 : Nat → Int32) (u1 : Nat → Int32) (u2 : Nat → Int32) (u3 : Nat → Int32) (g0 : Nat → Int32) (g1 : Nat → Int32) (g3 : Nat → Int32) (ma : Int) (ta : Int) (co : Int) (lo : Int) (gr : Int32) (pd : Int32) (td : Int32) (sc : Nat → Int32) (sl : Nat → Int32) (sk : Nat → Int32) (sq : Nat → Int32) (su : Nat → Int32) (wx wm : va_W) (H : Heap) (locs : List Loc) (ls : Array Slot) (kk : ∀ (nn : Int32) (cl : Int32) (sp : Int32) (bn : Int32) (tn : Int32) (g2 : Nat → Int32) (ft0 : Nat → Int32) (fr : Nat → Int32) (rk : Int32) (rp : Int32) (tP : Nat → Pl9) (sn : Int32) (u0 : Nat → Int32) (u1 : Nat → Int32) (u2 : Nat → Int32) (u3 : Nat → Int32) (g0 : Nat → Int32) (g1 : Nat → Int32) (g3 : Nat → Int32) (ma : Int) (ta : Int) (co : Int) (lo : Int) (gr : Int32) (pd : Int32) (td : Int32) (sc : Nat → Int32) (sl : Nat → Int32) (sk : Nat → Int32) (sq : Nat → Int32) (su : Nat → Int32) (wx wm : va_W) (H : Heap) (locs : List Loc) (ls : Array Slot), gX h a d nn cl sp bn tn g2 ft0 fr rk rp tP sn u0 u1 u2 u3 g0 g1 g3 ma ta co lo gr pd td sc sl sk sq su wx → gM hm a2 d2 nn cl sp bn tn g2 ft0 fr rk rp tP sn u0 u1 u2 u3 g0 g1 g3 ma ta co lo gr pd td sc sl sk sq su wm → cS G k (wx ++ wm) (tyX d ++ tyM d2) (fun q : Nat => s.heap.size ≤ q) s H locs → lv_has ls 4 [(3, .int i), (2, .ref hm), (1, .ref h), (0, .ref b)] → W p l e room_1 s m #[Value.ref b] below meth c H locs (cells + 4) (slots + 264) (lw_Z below #[Value.ref b] s) (F0 m 852 ls [])) (hX : gX h a d nn cl sp bn tn g2 ft0 fr rk rp tP sn u0 u1 u2 u3 g0 g1 g3 ma ta co lo gr pd td sc sl sk sq su wx) (hM : gM hm a2 d2 nn cl sp bn tn g2 ft0 fr rk rp tP sn u0 u1 u2 u3 g0 g1 g3 ma ta co lo gr pd td sc sl sk sq su wm) (St : cS G k (wx ++ wm) (tyX d ++ tyM d2) (fun q : Nat => s.heap.size ≤ q) s H locs) (hl : lv_has ls 4 [(3, .int i), (2, .ref hm), (1, .ref h), (0, .ref b)]) : W p l e room_1 s m #[Value.ref b] below meth c H locs cells slots (lw_Z below #[Value.ref b] s) (F0 m 691 ls []) := by
  obtain ⟨hx, hb, hr, hml, hown, hts, hX9, hbl, hlocks, hgv⟩ := id C0
  have hbA : ¬ (fun q : Nat => s.heap.size ≤ q) b := Nat.not_le.mpr hbl
  have F : CallFix p m c code 4 s #[Value.ref b] tb RL := ⟨hx, hb, hml, hown, fun w h => hts w (tb_in w h)⟩
  have hr1 := hroom.1
  have hr2 := hroom.2
  have y0 : (0 : Int32).toInt = 0 := by decide
  refine lv_aload_n hx hb dL_law_691 rfl (lv_at hl 2 rfl) ?_
  refine lv_aload_n hx hb dL_law_692 rfl (lv_at hl 3 rfl) ?_
  refine lv_iload_n hx hb dL_law_693 rfl (lv_at hl 0 rfl) ?_
  refine lv_iconst (v := 1) hx hb dL_law_694 (by decide) ?_
  refine lv_iadd hx hb dL_law_695 ?_
  refine lv_topi (fun y_1 ey_1 => ?_)
  first | have jy_1 : y_1.toInt = i.toInt + 1 := (by have q9 := ci_add (x := i) (y := 1) rfl (show (1 : Int32).toInt = 1 by decide) ey_1; omega) | have jy_1 := ci_add (x := i) (y := 1) rfl (show (1 : Int32).toInt = 1 by decide) ey_1
  refine va_sld hx hb hX9 hbl hbA St.toS (vp_in_iff.mpr ⟨by omega, by omega⟩) dL_law_696 ?_
  refine lv_topi (fun y_2 ey_2 => ?_)
  refine lv_aload_n hx hb dL_law_697 rfl (lv_at hl 3 rfl) ?_
  refine lv_iload_n hx hb dL_law_698 rfl (lv_at hl 0 rfl) ?_
  refine lv_iconst (v := 2) hx hb dL_law_699 (by decide) ?_
  refine lv_iadd hx hb dL_law_700 ?_
  refine lv_topi (fun y_3 ey_3 => ?_)
  first | have jy_3 : y_3.toInt = i.toInt + 2 := (by have q9 := ci_add (x := i) (y := 2) rfl (show (2 : Int32).toInt = 2 by decide) ey_3; omega) | have jy_3 := ci_add (x := i) (y := 2) rfl (show (2 : Int32).toInt = 2 by decide) ey_3
  refine va_sld hx hb hX9 hbl hbA St.toS (vp_in_iff.mpr ⟨by omega, by omega⟩) dL_law_701 ?_
  refine lv_topi (fun y_4 ey_4 => ?_)
  refine lx_built (rest := []) F hl St hX (Nat.le_of_ble_eq_true rfl) ⟨by omega, by omega⟩ km_L_87 dL_law_702 y_2 y_4 (fun r_5 wx_6 H locs hf_7 hg_8 St => ?_)
  refine lv_pop hx hb dL_law_705 rfl ?_
  refine lv_aload_n hx hb dL_law_706 rfl (lv_at hl 1 rfl) ?_
  refine lv_aload_n hx hb dL_law_707 rfl (lv_at hl 3 rfl) ?_
  refine lv_iload_n hx hb dL_law_708 rfl (lv_at hl 0 rfl) ?_
  refine lv_iconst (v := 1) hx hb dL_law_709 (by decide) ?_
  refine lv_iadd hx hb dL_law_710 ?_
  refine top_i (y := y_1) ey_1.symm ?_
  refine va_sld hx hb hX9 hbl hbA St.toS (vp_in_iff.mpr ⟨by omega, by omega⟩) dL_law_711 ?_
  refine top_i (y := y_2) ey_2.symm ?_
  refine lv_aload_n hx hb dL_law_712 rfl (lv_at hl 3 rfl) ?_
  refine lv_iload_n hx hb dL_law_713 rfl (lv_at hl 0 rfl) ?_
  refine lv_iconst (v := 2) hx hb dL_law_714 (by decide) ?_
  refine lv_iadd hx hb dL_law_715 ?_
  refine top_i (y := y_3) ey_3.symm ?_
  refine va_sld hx hb hX9 hbl hbA St.toS (vp_in_iff.mpr ⟨by omega, by omega⟩) dL_law_716 ?_
  refine top_i (y := y_4) ey_4.symm ?_
  refine lm_built (rest := []) F hl St hM (Nat.le_of_ble_eq_true rfl) ⟨by omega, by omega⟩ km_L_90 dL_law_717 y_2 y_4 (fun r_9 wm_10 H locs hf_11 hg_12 St => ?_)
  obtain rfl : r_5 = r_9 := det_bui hf_7 hf_11
  refine lv_pop hx hb dL_law_720 rfl ?_
  refine lv_goto (tgt := 852) hx hb dL_law_721 (by decide) ?_
  refine W.widen (k := cells + 4) (n := slots + 264) (by omega) (by omega) ?_
  exact kk nn cl sp bn tn g2 ft0 fr rk rp tP sn u0 u1 u2 u3 g0 g1 g3 ma ta co lo gr pd td sc sl sk sq su wx_6 wm_10 H locs ls hg_8 hg_12 St (lv_sub hl [0, 1, 2, 3] rfl)
set_option maxHeartbeats 40000000 in
set_option maxRecDepth 100000 in
theorem law_case18 {p : Program} {e : Env} {s : State} {m : MethodId} {below : List Frame} {meth : Method} {c : Code} {l : Launch} {b L : Nat} {xs : Nat → Int32} (hL : L ≤ 3072) (C0 : lw_At p s m meth c b L xs) (G : va_G) (k : Nat → Nat) (h hm : Nat) (a a2 : Nat → Nat) (d d2 : Nat → ClassId) (i : Int32) (cells slots : Nat) (hi0 : 0 ≤ i.toInt) (hi1 : i.toInt + 6 ≤ L) (hroom : cells + 4 ≤ room_1.cells ∧ slots + 264 ≤ room_1.slots) (nn : Int32) (cl : Int32) (sp : Int32) (bn : Int32) (tn : Int32) (g2 : Nat → Int32) (ft0 : Nat → Int32) (fr : Nat → Int32) (rk : Int32) (rp : Int32) (tP : Nat → Pl9) (sn : Int32) (u0 : Nat → Int32) (u1 : Nat → Int32) (u2 : Nat → Int32) (u3 : Nat → Int32) (g0 : Nat → Int32) (g1 : Nat → Int32) (g3 : Nat → Int32) (ma : Int) (ta : Int) (co : Int) (lo : Int) (gr : Int32) (pd : Int32) (td : Int32) (sc : Nat → Int32) (sl : Nat → Int32) (sk : Nat → Int32) (sq : Nat → Int32) (su : Nat → Int32) (wx wm : va_W) (H : Heap) (locs : List Loc) (ls : Array Slot) (kk : ∀ (nn : Int32) (cl : Int32) (sp : Int32) (bn : Int32) (tn : Int32) (g2 : Nat → Int32) (ft0 : Nat → Int32) (fr : Nat → Int32) (rk : Int32) (rp : Int32) (tP : Nat → Pl9) (sn : Int32) (u0 : Nat → Int32) (u1 : Nat → Int32) (u2 : Nat → Int32) (u3 : Nat → Int32) (g0 : Nat → Int32) (g1 : Nat → Int32) (g3 : Nat → Int32) (ma : Int) (ta : Int) (co : Int) (lo : Int) (gr : Int32) (pd : Int32) (td : Int32) (sc : Nat → Int32) (sl : Nat → Int32) (sk : Nat → Int32) (sq : Nat → Int32) (su : Nat → Int32) (wx wm : va_W) (H : Heap) (locs : List Loc) (ls : Array Slot), gX h a d nn cl sp bn tn g2 ft0 fr rk rp tP sn u0 u1 u2 u3 g0 g1 g3 ma ta co lo gr pd td sc sl sk sq su wx → gM hm a2 d2 nn cl sp bn tn g2 ft0 fr rk rp tP sn u0 u1 u2 u3 g0 g1 g3 ma ta co lo gr pd td sc sl sk sq su wm → cS G k (wx ++ wm) (tyX d ++ tyM d2) (fun q : Nat => s.heap.size ≤ q) s H locs → lv_has ls 4 [(3, .int i), (2, .ref hm), (1, .ref h), (0, .ref b)] → W p l e room_1 s m #[Value.ref b] below meth c H locs (cells + 4) (slots + 264) (lw_Z below #[Value.ref b] s) (F0 m 852 ls [])) (hX : gX h a d nn cl sp bn tn g2 ft0 fr rk rp tP sn u0 u1 u2 u3 g0 g1 g3 ma ta co lo gr pd td sc sl sk sq su wx) (hM : gM hm a2 d2 nn cl sp bn tn g2 ft0 fr rk rp tP sn u0 u1 u2 u3 g0 g1 g3 ma ta co lo gr pd td sc sl sk sq su wm) (St : cS G k (wx ++ wm) (tyX d ++ tyM d2) (fun q : Nat => s.heap.size ≤ q) s H locs) (hl : lv_has ls 4 [(3, .int i), (2, .ref hm), (1, .ref h), (0, .ref b)]) : W p l e room_1 s m #[Value.ref b] below meth c H locs cells slots (lw_Z below #[Value.ref b] s) (F0 m 724 ls []) := by
  obtain ⟨hx, hb, hr, hml, hown, hts, hX9, hbl, hlocks, hgv⟩ := id C0
  have hbA : ¬ (fun q : Nat => s.heap.size ≤ q) b := Nat.not_le.mpr hbl
  have F : CallFix p m c code 4 s #[Value.ref b] tb RL := ⟨hx, hb, hml, hown, fun w h => hts w (tb_in w h)⟩
  have hr1 := hroom.1
  have hr2 := hroom.2
  have y0 : (0 : Int32).toInt = 0 := by decide
  refine lv_aload_n hx hb dL_law_724 rfl (lv_at hl 2 rfl) ?_
  refine lv_aload_n hx hb dL_law_725 rfl (lv_at hl 3 rfl) ?_
  refine lv_iload_n hx hb dL_law_726 rfl (lv_at hl 0 rfl) ?_
  refine lv_iconst (v := 1) hx hb dL_law_727 (by decide) ?_
  refine lv_iadd hx hb dL_law_728 ?_
  refine lv_topi (fun y_1 ey_1 => ?_)
  first | have jy_1 : y_1.toInt = i.toInt + 1 := (by have q9 := ci_add (x := i) (y := 1) rfl (show (1 : Int32).toInt = 1 by decide) ey_1; omega) | have jy_1 := ci_add (x := i) (y := 1) rfl (show (1 : Int32).toInt = 1 by decide) ey_1
  refine va_sld hx hb hX9 hbl hbA St.toS (vp_in_iff.mpr ⟨by omega, by omega⟩) dL_law_729 ?_
  refine lv_topi (fun y_2 ey_2 => ?_)
  refine lx_months (rest := []) F hl St hX (Nat.le_of_ble_eq_true rfl) ⟨by omega, by omega⟩ km_L_91 dL_law_730 y_2 (fun r_3 cl2_4 tP2_5 co2_6 lo2_7 gr2_8 pd2_9 sk2_10 sq2_11 su2_12 wx_13 H locs hf_14 hg_15 St => ?_)
  refine lv_pop hx hb dL_law_733 rfl ?_
  refine lv_aload_n hx hb dL_law_734 rfl (lv_at hl 1 rfl) ?_
  refine lv_aload_n hx hb dL_law_735 rfl (lv_at hl 3 rfl) ?_
  refine lv_iload_n hx hb dL_law_736 rfl (lv_at hl 0 rfl) ?_
  refine lv_iconst (v := 1) hx hb dL_law_737 (by decide) ?_
  refine lv_iadd hx hb dL_law_738 ?_
  refine top_i (y := y_1) ey_1.symm ?_
  refine va_sld hx hb hX9 hbl hbA St.toS (vp_in_iff.mpr ⟨by omega, by omega⟩) dL_law_739 ?_
  refine top_i (y := y_2) ey_2.symm ?_
  refine lm_months (rest := []) F hl St hM (Nat.le_of_ble_eq_true rfl) ⟨by omega, by omega⟩ km_L_94 dL_law_740 y_2 (fun r_16 cl2_17 tP2_18 co2_19 lo2_20 gr2_21 pd2_22 sk2_23 sq2_24 su2_25 wm_26 H locs hf_27 hg_28 St => ?_)
  obtain ⟨rfl, rfl, rfl, hM7⟩ := det_mon hf_14 hf_27
  obtain ⟨rfl, rfl, rfl, rfl, rfl, rfl, rfl⟩ := mo7_inj hM7
  refine lv_pop hx hb dL_law_743 rfl ?_
  refine lv_goto (tgt := 852) hx hb dL_law_744 (by decide) ?_
  refine W.widen (k := cells + 4) (n := slots + 264) (by omega) (by omega) ?_
  exact kk nn cl2_4 sp bn tn g2 ft0 fr rk rp tP2_5 sn u0 u1 u2 u3 g0 g1 g3 ma ta co2_6 lo2_7 gr2_8 pd2_9 td sc sl sk2_10 sq2_11 su2_12 wx_13 wm_26 H locs ls hg_15 hg_28 St (lv_sub hl [0, 1, 2, 3] rfl)
set_option maxHeartbeats 40000000 in
set_option maxRecDepth 100000 in
theorem law_case19 {p : Program} {e : Env} {s : State} {m : MethodId} {below : List Frame} {meth : Method} {c : Code} {l : Launch} {b L : Nat} {xs : Nat → Int32} (hL : L ≤ 3072) (C0 : lw_At p s m meth c b L xs) (G : va_G) (k : Nat → Nat) (h hm : Nat) (a a2 : Nat → Nat) (d d2 : Nat → ClassId) (i : Int32) (cells slots : Nat) (hi0 : 0 ≤ i.toInt) (hi1 : i.toInt + 6 ≤ L) (hroom : cells + 4 ≤ room_1.cells ∧ slots + 264 ≤ room_1.slots) (nn : Int32) (cl : Int32) (sp : Int32) (bn : Int32) (tn : Int32) (g2 : Nat → Int32) (ft0 : Nat → Int32) (fr : Nat → Int32) (rk : Int32) (rp : Int32) (tP : Nat → Pl9) (sn : Int32) (u0 : Nat → Int32) (u1 : Nat → Int32) (u2 : Nat → Int32) (u3 : Nat → Int32) (g0 : Nat → Int32) (g1 : Nat → Int32) (g3 : Nat → Int32) (ma : Int) (ta : Int) (co : Int) (lo : Int) (gr : Int32) (pd : Int32) (td : Int32) (sc : Nat → Int32) (sl : Nat → Int32) (sk : Nat → Int32) (sq : Nat → Int32) (su : Nat → Int32) (wx wm : va_W) (H : Heap) (locs : List Loc) (ls : Array Slot) (kk : ∀ (nn : Int32) (cl : Int32) (sp : Int32) (bn : Int32) (tn : Int32) (g2 : Nat → Int32) (ft0 : Nat → Int32) (fr : Nat → Int32) (rk : Int32) (rp : Int32) (tP : Nat → Pl9) (sn : Int32) (u0 : Nat → Int32) (u1 : Nat → Int32) (u2 : Nat → Int32) (u3 : Nat → Int32) (g0 : Nat → Int32) (g1 : Nat → Int32) (g3 : Nat → Int32) (ma : Int) (ta : Int) (co : Int) (lo : Int) (gr : Int32) (pd : Int32) (td : Int32) (sc : Nat → Int32) (sl : Nat → Int32) (sk : Nat → Int32) (sq : Nat → Int32) (su : Nat → Int32) (wx wm : va_W) (H : Heap) (locs : List Loc) (ls : Array Slot), gX h a d nn cl sp bn tn g2 ft0 fr rk rp tP sn u0 u1 u2 u3 g0 g1 g3 ma ta co lo gr pd td sc sl sk sq su wx → gM hm a2 d2 nn cl sp bn tn g2 ft0 fr rk rp tP sn u0 u1 u2 u3 g0 g1 g3 ma ta co lo gr pd td sc sl sk sq su wm → cS G k (wx ++ wm) (tyX d ++ tyM d2) (fun q : Nat => s.heap.size ≤ q) s H locs → lv_has ls 4 [(3, .int i), (2, .ref hm), (1, .ref h), (0, .ref b)] → W p l e room_1 s m #[Value.ref b] below meth c H locs (cells + 4) (slots + 264) (lw_Z below #[Value.ref b] s) (F0 m 852 ls [])) (hX : gX h a d nn cl sp bn tn g2 ft0 fr rk rp tP sn u0 u1 u2 u3 g0 g1 g3 ma ta co lo gr pd td sc sl sk sq su wx) (hM : gM hm a2 d2 nn cl sp bn tn g2 ft0 fr rk rp tP sn u0 u1 u2 u3 g0 g1 g3 ma ta co lo gr pd td sc sl sk sq su wm) (St : cS G k (wx ++ wm) (tyX d ++ tyM d2) (fun q : Nat => s.heap.size ≤ q) s H locs) (hl : lv_has ls 4 [(3, .int i), (2, .ref hm), (1, .ref h), (0, .ref b)]) : W p l e room_1 s m #[Value.ref b] below meth c H locs cells slots (lw_Z below #[Value.ref b] s) (F0 m 747 ls []) := by
  obtain ⟨hx, hb, hr, hml, hown, hts, hX9, hbl, hlocks, hgv⟩ := id C0
  have hbA : ¬ (fun q : Nat => s.heap.size ≤ q) b := Nat.not_le.mpr hbl
  have F : CallFix p m c code 4 s #[Value.ref b] tb RL := ⟨hx, hb, hml, hown, fun w h => hts w (tb_in w h)⟩
  have hr1 := hroom.1
  have hr2 := hroom.2
  have y0 : (0 : Int32).toInt = 0 := by decide
  refine lv_aload_n hx hb dL_law_747 rfl (lv_at hl 2 rfl) ?_
  refine lv_aload_n hx hb dL_law_748 rfl (lv_at hl 3 rfl) ?_
  refine lv_iload_n hx hb dL_law_749 rfl (lv_at hl 0 rfl) ?_
  refine lv_iconst (v := 1) hx hb dL_law_750 (by decide) ?_
  refine lv_iadd hx hb dL_law_751 ?_
  refine lv_topi (fun y_1 ey_1 => ?_)
  first | have jy_1 : y_1.toInt = i.toInt + 1 := (by have q9 := ci_add (x := i) (y := 1) rfl (show (1 : Int32).toInt = 1 by decide) ey_1; omega) | have jy_1 := ci_add (x := i) (y := 1) rfl (show (1 : Int32).toInt = 1 by decide) ey_1
  refine va_sld hx hb hX9 hbl hbA St.toS (vp_in_iff.mpr ⟨by omega, by omega⟩) dL_law_752 ?_
  refine lv_topi (fun y_2 ey_2 => ?_)
  refine lx_sure (rest := []) F hl St hX (Nat.le_of_ble_eq_true rfl) ⟨by omega, by omega⟩ km_L_95 dL_law_753 y_2 (fun r_3 wx_4 H locs hf_5 hg_6 St => ?_)
  refine lv_pop hx hb dL_law_756 rfl ?_
  refine lv_aload_n hx hb dL_law_757 rfl (lv_at hl 1 rfl) ?_
  refine lv_aload_n hx hb dL_law_758 rfl (lv_at hl 3 rfl) ?_
  refine lv_iload_n hx hb dL_law_759 rfl (lv_at hl 0 rfl) ?_
  refine lv_iconst (v := 1) hx hb dL_law_760 (by decide) ?_
  refine lv_iadd hx hb dL_law_761 ?_
  refine top_i (y := y_1) ey_1.symm ?_
  refine va_sld hx hb hX9 hbl hbA St.toS (vp_in_iff.mpr ⟨by omega, by omega⟩) dL_law_762 ?_
  refine top_i (y := y_2) ey_2.symm ?_
  refine lm_sure (rest := []) F hl St hM (Nat.le_of_ble_eq_true rfl) ⟨by omega, by omega⟩ km_L_98 dL_law_763 y_2 (fun r_7 wm_8 H locs hf_9 hg_10 St => ?_)
  obtain rfl : r_3 = r_7 := det_sur hf_5 hf_9
  refine lv_pop hx hb dL_law_766 rfl ?_
  refine lv_goto (tgt := 852) hx hb dL_law_767 (by decide) ?_
  refine W.widen (k := cells + 4) (n := slots + 264) (by omega) (by omega) ?_
  exact kk nn cl sp bn tn g2 ft0 fr rk rp tP sn u0 u1 u2 u3 g0 g1 g3 ma ta co lo gr pd td sc sl sk sq su wx_4 wm_8 H locs ls hg_6 hg_10 St (lv_sub hl [0, 1, 2, 3] rfl)
set_option maxHeartbeats 40000000 in
set_option maxRecDepth 100000 in
theorem law_case20 {p : Program} {e : Env} {s : State} {m : MethodId} {below : List Frame} {meth : Method} {c : Code} {l : Launch} {b L : Nat} {xs : Nat → Int32} (hL : L ≤ 3072) (C0 : lw_At p s m meth c b L xs) (G : va_G) (k : Nat → Nat) (h hm : Nat) (a a2 : Nat → Nat) (d d2 : Nat → ClassId) (i : Int32) (cells slots : Nat) (hi0 : 0 ≤ i.toInt) (hi1 : i.toInt + 6 ≤ L) (hroom : cells + 4 ≤ room_1.cells ∧ slots + 264 ≤ room_1.slots) (nn : Int32) (cl : Int32) (sp : Int32) (bn : Int32) (tn : Int32) (g2 : Nat → Int32) (ft0 : Nat → Int32) (fr : Nat → Int32) (rk : Int32) (rp : Int32) (tP : Nat → Pl9) (sn : Int32) (u0 : Nat → Int32) (u1 : Nat → Int32) (u2 : Nat → Int32) (u3 : Nat → Int32) (g0 : Nat → Int32) (g1 : Nat → Int32) (g3 : Nat → Int32) (ma : Int) (ta : Int) (co : Int) (lo : Int) (gr : Int32) (pd : Int32) (td : Int32) (sc : Nat → Int32) (sl : Nat → Int32) (sk : Nat → Int32) (sq : Nat → Int32) (su : Nat → Int32) (wx wm : va_W) (H : Heap) (locs : List Loc) (ls : Array Slot) (kk : ∀ (nn : Int32) (cl : Int32) (sp : Int32) (bn : Int32) (tn : Int32) (g2 : Nat → Int32) (ft0 : Nat → Int32) (fr : Nat → Int32) (rk : Int32) (rp : Int32) (tP : Nat → Pl9) (sn : Int32) (u0 : Nat → Int32) (u1 : Nat → Int32) (u2 : Nat → Int32) (u3 : Nat → Int32) (g0 : Nat → Int32) (g1 : Nat → Int32) (g3 : Nat → Int32) (ma : Int) (ta : Int) (co : Int) (lo : Int) (gr : Int32) (pd : Int32) (td : Int32) (sc : Nat → Int32) (sl : Nat → Int32) (sk : Nat → Int32) (sq : Nat → Int32) (su : Nat → Int32) (wx wm : va_W) (H : Heap) (locs : List Loc) (ls : Array Slot), gX h a d nn cl sp bn tn g2 ft0 fr rk rp tP sn u0 u1 u2 u3 g0 g1 g3 ma ta co lo gr pd td sc sl sk sq su wx → gM hm a2 d2 nn cl sp bn tn g2 ft0 fr rk rp tP sn u0 u1 u2 u3 g0 g1 g3 ma ta co lo gr pd td sc sl sk sq su wm → cS G k (wx ++ wm) (tyX d ++ tyM d2) (fun q : Nat => s.heap.size ≤ q) s H locs → lv_has ls 4 [(3, .int i), (2, .ref hm), (1, .ref h), (0, .ref b)] → W p l e room_1 s m #[Value.ref b] below meth c H locs (cells + 4) (slots + 264) (lw_Z below #[Value.ref b] s) (F0 m 852 ls [])) (hX : gX h a d nn cl sp bn tn g2 ft0 fr rk rp tP sn u0 u1 u2 u3 g0 g1 g3 ma ta co lo gr pd td sc sl sk sq su wx) (hM : gM hm a2 d2 nn cl sp bn tn g2 ft0 fr rk rp tP sn u0 u1 u2 u3 g0 g1 g3 ma ta co lo gr pd td sc sl sk sq su wm) (St : cS G k (wx ++ wm) (tyX d ++ tyM d2) (fun q : Nat => s.heap.size ≤ q) s H locs) (hl : lv_has ls 4 [(3, .int i), (2, .ref hm), (1, .ref h), (0, .ref b)]) : W p l e room_1 s m #[Value.ref b] below meth c H locs cells slots (lw_Z below #[Value.ref b] s) (F0 m 770 ls []) := by
  obtain ⟨hx, hb, hr, hml, hown, hts, hX9, hbl, hlocks, hgv⟩ := id C0
  have hbA : ¬ (fun q : Nat => s.heap.size ≤ q) b := Nat.not_le.mpr hbl
  have F : CallFix p m c code 4 s #[Value.ref b] tb RL := ⟨hx, hb, hml, hown, fun w h => hts w (tb_in w h)⟩
  have hr1 := hroom.1
  have hr2 := hroom.2
  have y0 : (0 : Int32).toInt = 0 := by decide
  refine lv_aload_n hx hb dL_law_770 rfl (lv_at hl 2 rfl) ?_
  refine lv_aload_n hx hb dL_law_771 rfl (lv_at hl 3 rfl) ?_
  refine lv_iload_n hx hb dL_law_772 rfl (lv_at hl 0 rfl) ?_
  refine lv_iconst (v := 1) hx hb dL_law_773 (by decide) ?_
  refine lv_iadd hx hb dL_law_774 ?_
  refine lv_topi (fun y_1 ey_1 => ?_)
  first | have jy_1 : y_1.toInt = i.toInt + 1 := (by have q9 := ci_add (x := i) (y := 1) rfl (show (1 : Int32).toInt = 1 by decide) ey_1; omega) | have jy_1 := ci_add (x := i) (y := 1) rfl (show (1 : Int32).toInt = 1 by decide) ey_1
  refine va_sld hx hb hX9 hbl hbA St.toS (vp_in_iff.mpr ⟨by omega, by omega⟩) dL_law_775 ?_
  refine lv_topi (fun y_2 ey_2 => ?_)
  refine lx_stone (rest := []) F hl St hX (Nat.le_of_ble_eq_true rfl) ⟨by omega, by omega⟩ km_L_99 dL_law_776 y_2 (fun r_3 wx_4 H locs hf_5 hg_6 St => ?_)
  refine lv_pop hx hb dL_law_779 rfl ?_
  refine lv_aload_n hx hb dL_law_780 rfl (lv_at hl 1 rfl) ?_
  refine lv_aload_n hx hb dL_law_781 rfl (lv_at hl 3 rfl) ?_
  refine lv_iload_n hx hb dL_law_782 rfl (lv_at hl 0 rfl) ?_
  refine lv_iconst (v := 1) hx hb dL_law_783 (by decide) ?_
  refine lv_iadd hx hb dL_law_784 ?_
  refine top_i (y := y_1) ey_1.symm ?_
  refine va_sld hx hb hX9 hbl hbA St.toS (vp_in_iff.mpr ⟨by omega, by omega⟩) dL_law_785 ?_
  refine top_i (y := y_2) ey_2.symm ?_
  refine lm_stone (rest := []) F hl St hM (Nat.le_of_ble_eq_true rfl) ⟨by omega, by omega⟩ km_L_102 dL_law_786 y_2 (fun r_7 wm_8 H locs hf_9 hg_10 St => ?_)
  obtain rfl : r_3 = r_7 := stA_u hf_5 hf_9
  refine lv_pop hx hb dL_law_789 rfl ?_
  refine lv_goto (tgt := 852) hx hb dL_law_790 (by decide) ?_
  refine W.widen (k := cells + 4) (n := slots + 264) (by omega) (by omega) ?_
  exact kk nn cl sp bn tn g2 ft0 fr rk rp tP sn u0 u1 u2 u3 g0 g1 g3 ma ta co lo gr pd td sc sl sk sq su wx_4 wm_8 H locs ls hg_6 hg_10 St (lv_sub hl [0, 1, 2, 3] rfl)
set_option maxHeartbeats 40000000 in
set_option maxRecDepth 100000 in
theorem law_case21 {p : Program} {e : Env} {s : State} {m : MethodId} {below : List Frame} {meth : Method} {c : Code} {l : Launch} {b L : Nat} {xs : Nat → Int32} (hL : L ≤ 3072) (C0 : lw_At p s m meth c b L xs) (G : va_G) (k : Nat → Nat) (h hm : Nat) (a a2 : Nat → Nat) (d d2 : Nat → ClassId) (i : Int32) (cells slots : Nat) (hi0 : 0 ≤ i.toInt) (hi1 : i.toInt + 6 ≤ L) (hroom : cells + 4 ≤ room_1.cells ∧ slots + 264 ≤ room_1.slots) (nn : Int32) (cl : Int32) (sp : Int32) (bn : Int32) (tn : Int32) (g2 : Nat → Int32) (ft0 : Nat → Int32) (fr : Nat → Int32) (rk : Int32) (rp : Int32) (tP : Nat → Pl9) (sn : Int32) (u0 : Nat → Int32) (u1 : Nat → Int32) (u2 : Nat → Int32) (u3 : Nat → Int32) (g0 : Nat → Int32) (g1 : Nat → Int32) (g3 : Nat → Int32) (ma : Int) (ta : Int) (co : Int) (lo : Int) (gr : Int32) (pd : Int32) (td : Int32) (sc : Nat → Int32) (sl : Nat → Int32) (sk : Nat → Int32) (sq : Nat → Int32) (su : Nat → Int32) (wx wm : va_W) (H : Heap) (locs : List Loc) (ls : Array Slot) (kk : ∀ (nn : Int32) (cl : Int32) (sp : Int32) (bn : Int32) (tn : Int32) (g2 : Nat → Int32) (ft0 : Nat → Int32) (fr : Nat → Int32) (rk : Int32) (rp : Int32) (tP : Nat → Pl9) (sn : Int32) (u0 : Nat → Int32) (u1 : Nat → Int32) (u2 : Nat → Int32) (u3 : Nat → Int32) (g0 : Nat → Int32) (g1 : Nat → Int32) (g3 : Nat → Int32) (ma : Int) (ta : Int) (co : Int) (lo : Int) (gr : Int32) (pd : Int32) (td : Int32) (sc : Nat → Int32) (sl : Nat → Int32) (sk : Nat → Int32) (sq : Nat → Int32) (su : Nat → Int32) (wx wm : va_W) (H : Heap) (locs : List Loc) (ls : Array Slot), gX h a d nn cl sp bn tn g2 ft0 fr rk rp tP sn u0 u1 u2 u3 g0 g1 g3 ma ta co lo gr pd td sc sl sk sq su wx → gM hm a2 d2 nn cl sp bn tn g2 ft0 fr rk rp tP sn u0 u1 u2 u3 g0 g1 g3 ma ta co lo gr pd td sc sl sk sq su wm → cS G k (wx ++ wm) (tyX d ++ tyM d2) (fun q : Nat => s.heap.size ≤ q) s H locs → lv_has ls 4 [(3, .int i), (2, .ref hm), (1, .ref h), (0, .ref b)] → W p l e room_1 s m #[Value.ref b] below meth c H locs (cells + 4) (slots + 264) (lw_Z below #[Value.ref b] s) (F0 m 852 ls [])) (hX : gX h a d nn cl sp bn tn g2 ft0 fr rk rp tP sn u0 u1 u2 u3 g0 g1 g3 ma ta co lo gr pd td sc sl sk sq su wx) (hM : gM hm a2 d2 nn cl sp bn tn g2 ft0 fr rk rp tP sn u0 u1 u2 u3 g0 g1 g3 ma ta co lo gr pd td sc sl sk sq su wm) (St : cS G k (wx ++ wm) (tyX d ++ tyM d2) (fun q : Nat => s.heap.size ≤ q) s H locs) (hl : lv_has ls 4 [(3, .int i), (2, .ref hm), (1, .ref h), (0, .ref b)]) : W p l e room_1 s m #[Value.ref b] below meth c H locs cells slots (lw_Z below #[Value.ref b] s) (F0 m 793 ls []) := by
  obtain ⟨hx, hb, hr, hml, hown, hts, hX9, hbl, hlocks, hgv⟩ := id C0
  have hbA : ¬ (fun q : Nat => s.heap.size ≤ q) b := Nat.not_le.mpr hbl
  have F : CallFix p m c code 4 s #[Value.ref b] tb RL := ⟨hx, hb, hml, hown, fun w h => hts w (tb_in w h)⟩
  have hr1 := hroom.1
  have hr2 := hroom.2
  have y0 : (0 : Int32).toInt = 0 := by decide
  refine lv_aload_n hx hb dL_law_793 rfl (lv_at hl 2 rfl) ?_
  refine lx_stop (rest := []) F hl St hX (Nat.le_of_ble_eq_true rfl) ⟨by omega, by omega⟩ km_L_103 dL_law_794 (fun r_1 sp2_2 z3_3 co2_4 wx_5 H locs hf_6 hg_7 St => ?_)
  refine lv_pop hx hb dL_law_797 rfl ?_
  refine lv_aload_n hx hb dL_law_798 rfl (lv_at hl 1 rfl) ?_
  refine lm_stop (rest := []) F hl St hM (Nat.le_of_ble_eq_true rfl) ⟨by omega, by omega⟩ km_L_106 dL_law_799 (fun r_8 sp2_9 z3_10 co2_11 wm_12 H locs hf_13 hg_14 St => ?_)
  obtain ⟨rfl, rfl, rfl⟩ := det_sto hf_6.1 hf_13.1
  obtain rfl : sp2_2 = sp2_9 := hf_6.2.trans hf_13.2.symm
  refine lv_pop hx hb dL_law_802 rfl ?_
  refine lv_goto (tgt := 852) hx hb dL_law_803 (by decide) ?_
  refine W.widen (k := cells + 4) (n := slots + 264) (by omega) (by omega) ?_
  exact kk nn cl sp2_2 bn tn g2 ft0 fr rk rp tP sn u0 u1 u2 u3 g0 g1 z3_3 ma ta co2_4 lo gr pd td sc sl sk sq su wx_5 wm_12 H locs ls hg_7 hg_14 St (lv_sub hl [0, 1, 2, 3] rfl)
set_option maxHeartbeats 40000000 in
set_option maxRecDepth 100000 in
theorem law_case22 {p : Program} {e : Env} {s : State} {m : MethodId} {below : List Frame} {meth : Method} {c : Code} {l : Launch} {b L : Nat} {xs : Nat → Int32} (hL : L ≤ 3072) (C0 : lw_At p s m meth c b L xs) (G : va_G) (k : Nat → Nat) (h hm : Nat) (a a2 : Nat → Nat) (d d2 : Nat → ClassId) (i : Int32) (cells slots : Nat) (hi0 : 0 ≤ i.toInt) (hi1 : i.toInt + 6 ≤ L) (hroom : cells + 4 ≤ room_1.cells ∧ slots + 264 ≤ room_1.slots) (nn : Int32) (cl : Int32) (sp : Int32) (bn : Int32) (tn : Int32) (g2 : Nat → Int32) (ft0 : Nat → Int32) (fr : Nat → Int32) (rk : Int32) (rp : Int32) (tP : Nat → Pl9) (sn : Int32) (u0 : Nat → Int32) (u1 : Nat → Int32) (u2 : Nat → Int32) (u3 : Nat → Int32) (g0 : Nat → Int32) (g1 : Nat → Int32) (g3 : Nat → Int32) (ma : Int) (ta : Int) (co : Int) (lo : Int) (gr : Int32) (pd : Int32) (td : Int32) (sc : Nat → Int32) (sl : Nat → Int32) (sk : Nat → Int32) (sq : Nat → Int32) (su : Nat → Int32) (wx wm : va_W) (H : Heap) (locs : List Loc) (ls : Array Slot) (kk : ∀ (nn : Int32) (cl : Int32) (sp : Int32) (bn : Int32) (tn : Int32) (g2 : Nat → Int32) (ft0 : Nat → Int32) (fr : Nat → Int32) (rk : Int32) (rp : Int32) (tP : Nat → Pl9) (sn : Int32) (u0 : Nat → Int32) (u1 : Nat → Int32) (u2 : Nat → Int32) (u3 : Nat → Int32) (g0 : Nat → Int32) (g1 : Nat → Int32) (g3 : Nat → Int32) (ma : Int) (ta : Int) (co : Int) (lo : Int) (gr : Int32) (pd : Int32) (td : Int32) (sc : Nat → Int32) (sl : Nat → Int32) (sk : Nat → Int32) (sq : Nat → Int32) (su : Nat → Int32) (wx wm : va_W) (H : Heap) (locs : List Loc) (ls : Array Slot), gX h a d nn cl sp bn tn g2 ft0 fr rk rp tP sn u0 u1 u2 u3 g0 g1 g3 ma ta co lo gr pd td sc sl sk sq su wx → gM hm a2 d2 nn cl sp bn tn g2 ft0 fr rk rp tP sn u0 u1 u2 u3 g0 g1 g3 ma ta co lo gr pd td sc sl sk sq su wm → cS G k (wx ++ wm) (tyX d ++ tyM d2) (fun q : Nat => s.heap.size ≤ q) s H locs → lv_has ls 4 [(3, .int i), (2, .ref hm), (1, .ref h), (0, .ref b)] → W p l e room_1 s m #[Value.ref b] below meth c H locs (cells + 4) (slots + 264) (lw_Z below #[Value.ref b] s) (F0 m 852 ls [])) (hX : gX h a d nn cl sp bn tn g2 ft0 fr rk rp tP sn u0 u1 u2 u3 g0 g1 g3 ma ta co lo gr pd td sc sl sk sq su wx) (hM : gM hm a2 d2 nn cl sp bn tn g2 ft0 fr rk rp tP sn u0 u1 u2 u3 g0 g1 g3 ma ta co lo gr pd td sc sl sk sq su wm) (St : cS G k (wx ++ wm) (tyX d ++ tyM d2) (fun q : Nat => s.heap.size ≤ q) s H locs) (hl : lv_has ls 4 [(3, .int i), (2, .ref hm), (1, .ref h), (0, .ref b)]) : W p l e room_1 s m #[Value.ref b] below meth c H locs cells slots (lw_Z below #[Value.ref b] s) (F0 m 806 ls []) := by
  obtain ⟨hx, hb, hr, hml, hown, hts, hX9, hbl, hlocks, hgv⟩ := id C0
  have hbA : ¬ (fun q : Nat => s.heap.size ≤ q) b := Nat.not_le.mpr hbl
  have F : CallFix p m c code 4 s #[Value.ref b] tb RL := ⟨hx, hb, hml, hown, fun w h => hts w (tb_in w h)⟩
  have hr1 := hroom.1
  have hr2 := hroom.2
  have y0 : (0 : Int32).toInt = 0 := by decide
  refine lv_aload_n hx hb dL_law_806 rfl (lv_at hl 2 rfl) ?_
  refine lv_aload_n hx hb dL_law_807 rfl (lv_at hl 3 rfl) ?_
  refine lv_iload_n hx hb dL_law_808 rfl (lv_at hl 0 rfl) ?_
  refine lv_iconst (v := 1) hx hb dL_law_809 (by decide) ?_
  refine lv_iadd hx hb dL_law_810 ?_
  refine lv_topi (fun y_1 ey_1 => ?_)
  first | have jy_1 : y_1.toInt = i.toInt + 1 := (by have q9 := ci_add (x := i) (y := 1) rfl (show (1 : Int32).toInt = 1 by decide) ey_1; omega) | have jy_1 := ci_add (x := i) (y := 1) rfl (show (1 : Int32).toInt = 1 by decide) ey_1
  refine va_sld hx hb hX9 hbl hbA St.toS (vp_in_iff.mpr ⟨by omega, by omega⟩) dL_law_811 ?_
  refine lv_topi (fun y_2 ey_2 => ?_)
  refine lx_back (rest := []) F hl St hX (Nat.le_of_ble_eq_true rfl) ⟨by omega, by omega⟩ km_L_107 dL_law_812 y_2 (fun r_3 wx_4 H locs hf_5 hg_6 St => ?_)
  refine lv_pop hx hb dL_law_815 rfl ?_
  refine lv_aload_n hx hb dL_law_816 rfl (lv_at hl 1 rfl) ?_
  refine lv_aload_n hx hb dL_law_817 rfl (lv_at hl 3 rfl) ?_
  refine lv_iload_n hx hb dL_law_818 rfl (lv_at hl 0 rfl) ?_
  refine lv_iconst (v := 1) hx hb dL_law_819 (by decide) ?_
  refine lv_iadd hx hb dL_law_820 ?_
  refine top_i (y := y_1) ey_1.symm ?_
  refine va_sld hx hb hX9 hbl hbA St.toS (vp_in_iff.mpr ⟨by omega, by omega⟩) dL_law_821 ?_
  refine top_i (y := y_2) ey_2.symm ?_
  refine lm_back (rest := []) F hl St hM (Nat.le_of_ble_eq_true rfl) ⟨by omega, by omega⟩ km_L_110 dL_law_822 y_2 (fun r_7 wm_8 H locs hf_9 hg_10 St => ?_)
  obtain rfl : r_3 = r_7 := det_bck hf_5 hf_9
  refine lv_pop hx hb dL_law_825 rfl ?_
  refine lv_goto (tgt := 852) hx hb dL_law_826 (by decide) ?_
  refine W.widen (k := cells + 4) (n := slots + 264) (by omega) (by omega) ?_
  exact kk nn cl sp bn tn g2 ft0 fr rk rp tP sn u0 u1 u2 u3 g0 g1 g3 ma ta co lo gr pd td sc sl sk sq su wx_4 wm_8 H locs ls hg_6 hg_10 St (lv_sub hl [0, 1, 2, 3] rfl)
set_option maxHeartbeats 40000000 in
set_option maxRecDepth 100000 in
theorem law_case23 {p : Program} {e : Env} {s : State} {m : MethodId} {below : List Frame} {meth : Method} {c : Code} {l : Launch} {b L : Nat} {xs : Nat → Int32} (hL : L ≤ 3072) (C0 : lw_At p s m meth c b L xs) (G : va_G) (k : Nat → Nat) (h hm : Nat) (a a2 : Nat → Nat) (d d2 : Nat → ClassId) (i : Int32) (cells slots : Nat) (hi0 : 0 ≤ i.toInt) (hi1 : i.toInt + 6 ≤ L) (hroom : cells + 4 ≤ room_1.cells ∧ slots + 264 ≤ room_1.slots) (nn : Int32) (cl : Int32) (sp : Int32) (bn : Int32) (tn : Int32) (g2 : Nat → Int32) (ft0 : Nat → Int32) (fr : Nat → Int32) (rk : Int32) (rp : Int32) (tP : Nat → Pl9) (sn : Int32) (u0 : Nat → Int32) (u1 : Nat → Int32) (u2 : Nat → Int32) (u3 : Nat → Int32) (g0 : Nat → Int32) (g1 : Nat → Int32) (g3 : Nat → Int32) (ma : Int) (ta : Int) (co : Int) (lo : Int) (gr : Int32) (pd : Int32) (td : Int32) (sc : Nat → Int32) (sl : Nat → Int32) (sk : Nat → Int32) (sq : Nat → Int32) (su : Nat → Int32) (wx wm : va_W) (H : Heap) (locs : List Loc) (ls : Array Slot) (kk : ∀ (nn : Int32) (cl : Int32) (sp : Int32) (bn : Int32) (tn : Int32) (g2 : Nat → Int32) (ft0 : Nat → Int32) (fr : Nat → Int32) (rk : Int32) (rp : Int32) (tP : Nat → Pl9) (sn : Int32) (u0 : Nat → Int32) (u1 : Nat → Int32) (u2 : Nat → Int32) (u3 : Nat → Int32) (g0 : Nat → Int32) (g1 : Nat → Int32) (g3 : Nat → Int32) (ma : Int) (ta : Int) (co : Int) (lo : Int) (gr : Int32) (pd : Int32) (td : Int32) (sc : Nat → Int32) (sl : Nat → Int32) (sk : Nat → Int32) (sq : Nat → Int32) (su : Nat → Int32) (wx wm : va_W) (H : Heap) (locs : List Loc) (ls : Array Slot), gX h a d nn cl sp bn tn g2 ft0 fr rk rp tP sn u0 u1 u2 u3 g0 g1 g3 ma ta co lo gr pd td sc sl sk sq su wx → gM hm a2 d2 nn cl sp bn tn g2 ft0 fr rk rp tP sn u0 u1 u2 u3 g0 g1 g3 ma ta co lo gr pd td sc sl sk sq su wm → cS G k (wx ++ wm) (tyX d ++ tyM d2) (fun q : Nat => s.heap.size ≤ q) s H locs → lv_has ls 4 [(3, .int i), (2, .ref hm), (1, .ref h), (0, .ref b)] → W p l e room_1 s m #[Value.ref b] below meth c H locs (cells + 4) (slots + 264) (lw_Z below #[Value.ref b] s) (F0 m 852 ls [])) (hX : gX h a d nn cl sp bn tn g2 ft0 fr rk rp tP sn u0 u1 u2 u3 g0 g1 g3 ma ta co lo gr pd td sc sl sk sq su wx) (hM : gM hm a2 d2 nn cl sp bn tn g2 ft0 fr rk rp tP sn u0 u1 u2 u3 g0 g1 g3 ma ta co lo gr pd td sc sl sk sq su wm) (St : cS G k (wx ++ wm) (tyX d ++ tyM d2) (fun q : Nat => s.heap.size ≤ q) s H locs) (hl : lv_has ls 4 [(3, .int i), (2, .ref hm), (1, .ref h), (0, .ref b)]) : W p l e room_1 s m #[Value.ref b] below meth c H locs cells slots (lw_Z below #[Value.ref b] s) (F0 m 829 ls []) := by
  obtain ⟨hx, hb, hr, hml, hown, hts, hX9, hbl, hlocks, hgv⟩ := id C0
  have hbA : ¬ (fun q : Nat => s.heap.size ≤ q) b := Nat.not_le.mpr hbl
  have F : CallFix p m c code 4 s #[Value.ref b] tb RL := ⟨hx, hb, hml, hown, fun w h => hts w (tb_in w h)⟩
  have hr1 := hroom.1
  have hr2 := hroom.2
  have y0 : (0 : Int32).toInt = 0 := by decide
  refine lv_aload_n hx hb dL_law_829 rfl (lv_at hl 2 rfl) ?_
  refine lv_aload_n hx hb dL_law_830 rfl (lv_at hl 3 rfl) ?_
  refine lv_iload_n hx hb dL_law_831 rfl (lv_at hl 0 rfl) ?_
  refine lv_iconst (v := 1) hx hb dL_law_832 (by decide) ?_
  refine lv_iadd hx hb dL_law_833 ?_
  refine lv_topi (fun y_1 ey_1 => ?_)
  first | have jy_1 : y_1.toInt = i.toInt + 1 := (by have q9 := ci_add (x := i) (y := 1) rfl (show (1 : Int32).toInt = 1 by decide) ey_1; omega) | have jy_1 := ci_add (x := i) (y := 1) rfl (show (1 : Int32).toInt = 1 by decide) ey_1
  refine va_sld hx hb hX9 hbl hbA St.toS (vp_in_iff.mpr ⟨by omega, by omega⟩) dL_law_834 ?_
  refine lv_topi (fun y_2 ey_2 => ?_)
  refine lx_count (rest := []) F hl St hX (Nat.le_of_ble_eq_true rfl) ⟨by omega, by omega⟩ km_L_111 dL_law_835 y_2 (fun r_3 wx_4 H locs hf_5 hg_6 St => ?_)
  refine lv_aload_n hx hb dL_law_838 rfl (lv_at hl 1 rfl) ?_
  refine lv_aload_n hx hb dL_law_839 rfl (lv_at hl 3 rfl) ?_
  refine lv_iload_n hx hb dL_law_840 rfl (lv_at hl 0 rfl) ?_
  refine lv_iconst (v := 1) hx hb dL_law_841 (by decide) ?_
  refine lv_iadd hx hb dL_law_842 ?_
  refine top_i (y := y_1) ey_1.symm ?_
  refine va_sld hx hb hX9 hbl hbA St.toS (vp_in_iff.mpr ⟨by omega, by omega⟩) dL_law_843 ?_
  refine top_i (y := y_2) ey_2.symm ?_
  refine lm_count (rest := [.int r_3]) F hl St hM (Nat.le_of_ble_eq_true rfl) ⟨by omega, by omega⟩ km_L_114 dL_law_844 y_2 (fun r_7 wm_8 H locs hf_9 hg_10 St => ?_)
  obtain rfl : r_3 = r_7 := det_cnt hf_5 hf_9
  refine lv_icmp_eq (tgt := 852) hx hb dL_law_847 (by decide) (fun c847 => ?_) (fun c847 => ?_)
  rotate_left
  · exact absurd rfl c847
  refine W.widen (k := cells + 4) (n := slots + 264) (by omega) (by omega) ?_
  exact kk nn cl sp bn tn g2 ft0 fr rk rp tP sn u0 u1 u2 u3 g0 g1 g3 ma ta co lo gr pd td sc sl sk sq su wx_4 wm_8 H locs ls hg_6 hg_10 St (lv_sub hl [0, 1, 2, 3] rfl)

