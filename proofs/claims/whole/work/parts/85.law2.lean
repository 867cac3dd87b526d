set_option linter.constructorNameAsVariable false
/-! The law's body, call by call. -/
theorem sc1 {i L : Nat} (hi : i + 4 ≤ L) (hL : L ≤ 2048) : vp_in (nI i + 1) L := by
  rw [show nI i + 1 = nI (i + 1) from nI_add i 1]; exact vp_in_nI (by omega) (by omega)
theorem sc2 {i L : Nat} (hi : i + 4 ≤ L) (hL : L ≤ 2048) : vp_in (nI i + 2) L := by
  rw [show nI i + 2 = nI (i + 2) from nI_add i 2]; exact vp_in_nI (by omega) (by omega)
theorem sc3 {i L : Nat} (hi : i + 4 ≤ L) (hL : L ≤ 2048) : vp_in (nI i + 3) L := by
  rw [show nI i + 3 = nI (i + 3) from nI_add i 3]; exact vp_in_nI (by omega) (by omega)
set_option maxRecDepth 100000 in
set_option maxHeartbeats 4000000 in
theorem lw_clock {p : Program} {l : Launch} {e : Env} {s : State} {m : MethodId} {below : List Frame} {meth : Method} {c : Code} {Q : State → Prop} {N0 : Nat} {D : va_G} {cy : Nat → ClassId} {S : gS} {H : Heap} {locs : List Loc} {ls : Array Slot} {cells slots x J i b L : Nat} {xs : Nat → Int32} (hls : l.stackTraces = false) (hC : gC N0 D cy p s m #[Value.ref b] c cL_law 8 RL) (hU : gU D cy s) (hZ : gZL N0 s) (hX : va_X b L xs s s.heap) (hbl : b < s.heap.size) (hbA : ¬ N0 ≤ b) (hJ : J + 1 ≤ 512) (hi : i + 4 ≤ L) (hL : L ≤ 2048) (hLI : LI x J S) (hP : gP N0 D cy S H) (hS : va_S (fun q => N0 ≤ q) s.heap H locs) (hl : lv_has ls 8 [(0, .ref b), (1, .ref x), (2, .ref (x + 214)), (3, .ref (x + 249)), (4, .int (nI i))]) (hc1 : cells + 3 ≤ 601024) (hc2 : slots + 13 ≤ 7293034)
    (kk : ∀ (S2 : gS) (H2 : Heap) (locs2 : List Loc) (ls2 : Array Slot) (k n : Nat), LI x (J + 1) S2 → gP N0 D cy S2 H2 → va_S (fun q => N0 ≤ q) s.heap H2 locs2 → lv_has ls2 8 [(0, .ref b), (1, .ref x), (2, .ref (x + 214)), (3, .ref (x + 249)), (4, .int (nI i))] → k ≤ cells + 3 → n ≤ slots + 13 → W p l e room_1 s m #[Value.ref b] below meth c H2 locs2 k n Q (F0 m 928 ls2 [])) : W p l e room_1 s m #[Value.ref b] below meth c H locs cells slots Q (F0 m 112 ls []) := by
  have hx := hC.1
  have hb := hC.2.1
  have hop := fun (p0 : Int32) (p1 : Int64) => op_clock l N0 D cy H.size hls hLI hJ p0 p1
  refine lv_aload_n hx hb dL_law_112 rfl (lv_at hl 1 rfl) ?_
  refine lv_aload_n hx hb dL_law_113 rfl (lv_at hl 0 rfl) ?_
  refine lv_iload hx hb dL_law_114 (lv_at hl 4 rfl) ?_
  refine lv_iconst (v := 1) hx hb dL_law_116 (by decide) ?_
  refine lv_iadd hx hb dL_law_117 ?_
  refine va_sld hx hb hX hbl hbA hS (sc1 hi hL) dL_law_118 ?_
  refine lv_aload_n hx hb dL_law_119 rfl (lv_at hl 0 rfl) ?_
  refine lv_iload hx hb dL_law_120 (lv_at hl 4 rfl) ?_
  refine lv_iconst (v := 2) hx hb dL_law_122 (by decide) ?_
  refine lv_iadd hx hb dL_law_123 ?_
  refine va_sld hx hb hX hbl hbA hS (sc2 hi hL) dL_law_124 ?_
  refine lv_i2l hx hb dL_law_125 rfl ?_
  refine lv_bipush (v := 32) hx hb dL_law_126 (by decide) ?_
  refine lv_lshl hx hb dL_law_128 rfl ?_
  refine lv_aload_n hx hb dL_law_129 rfl (lv_at hl 0 rfl) ?_
  refine lv_iload hx hb dL_law_130 (lv_at hl 4 rfl) ?_
  refine lv_iconst (v := 3) hx hb dL_law_132 (by decide) ?_
  refine lv_iadd hx hb dL_law_133 ?_
  refine va_sld hx hb hX hbl hbA hS (sc3 hi hL) dL_law_134 ?_
  refine lv_i2l hx hb dL_law_135 rfl ?_
  refine lv_ldc2 hx hb hC.2.2.2.1 (hC.2.2.2.2.1 _ kJ_L_69) dL_law_136 ?_
  refine lv_land hx hb dL_law_139 ?_
  refine lv_lor hx hb dL_law_140 ?_
  refine g_callW (As := [.ref x, .int _, .long _]) (rest := []) hC hU hZ hP hS hl.1 (Classical.choose_spec (hop _ _)).1 mL_L_71 sT_L_clock iN_L cW_L_clock ⟨by decide, by decide, rfl⟩ ⟨by decide, by decide⟩ ⟨by show cells + 1 ≤ 601024; omega, by show slots + 6 ≤ 7293034; omega⟩ rfl (Nat.le_of_ble_eq_true rfl) dL_law_141 (fun v S1 H locs hw hP hz hS => ?_)
  obtain ⟨c9, PM, rfl, hmo, hM2, hM3⟩ := (Classical.choose_spec (hop _ _)).2 _ _ _ hw
  refine lv_istore (lv' := [(5, .int _), (0, .ref _), (1, .ref _), (2, .ref _), (3, .ref _), (4, .int _)]) hx hb dL_law_144 hl (by decide) rfl (fun ls hl => ?_)
  refine lv_aload_n hx hb dL_law_146 rfl (lv_at hl 3 rfl) ?_
  refine lv_aload_n hx hb dL_law_147 rfl (lv_at hl 1 rfl) ?_
  refine lv_iload hx hb dL_law_148 (lv_at hl 5 rfl) ?_
  refine lv_iconst (v := 1) hx hb dL_law_150 (by decide) ?_
  refine lv_iadd hx hb dL_law_151 ?_
  refine va_sld hx hb hX hbl hbA hS (sc1 hi hL) dL_law_152 ?_
  refine lv_aload_n hx hb dL_law_153 rfl (lv_at hl 1 rfl) ?_
  refine lv_iload hx hb dL_law_154 (lv_at hl 5 rfl) ?_
  refine lv_iconst (v := 2) hx hb dL_law_156 (by decide) ?_
  refine lv_iadd hx hb dL_law_157 ?_
  refine va_sld hx hb hX hbl hbA hS (sc2 hi hL) dL_law_158 ?_
  refine lv_i2l hx hb dL_law_159 rfl ?_
  refine lv_bipush (v := 32) hx hb dL_law_160 (by decide) ?_
  refine lv_lshl hx hb dL_law_162 rfl ?_
  refine lv_aload_n hx hb dL_law_163 rfl (lv_at hl 1 rfl) ?_
  refine lv_iload hx hb dL_law_164 (lv_at hl 5 rfl) ?_
  refine lv_iconst (v := 3) hx hb dL_law_166 (by decide) ?_
  refine lv_iadd hx hb dL_law_167 ?_
  refine va_sld hx hb hX hbl hbA hS (sc3 hi hL) dL_law_168 ?_
  refine lv_i2l hx hb dL_law_169 rfl ?_
  refine lv_ldc2 hx hb hC.2.2.2.1 (hC.2.2.2.2.1 _ kJ_L_69) dL_law_170 ?_
  refine lv_land hx hb dL_law_173 ?_
  refine lv_lor hx hb dL_law_174 ?_
  refine g_callV (As := [.int _, .long _]) (rest := []) hC hU hP hS hl.1 hM2 mL_L_76 iM_X7_clock sL_X7_clock iN_X7 cD_X7_clock ⟨by decide, by decide, rfl⟩ ⟨by decide, by decide⟩ ⟨by show cells + 1 + 0 ≤ 601024; omega, by show slots + 6 + 0 ≤ 7293034; omega⟩ (ci := 7) rfl (by decide) hmo.1 rfl (Nat.le_of_ble_eq_true rfl) dL_law_175 (fun v S2 H locs hw2 hP hz hS => ?_)
  obtain ⟨rfl, hmo2, hLI2, hthr⟩ := hM3 _ _ _ hw2
  refine lv_aload_n hx hb dL_law_178 rfl (lv_at hl 3 rfl) ?_
  refine g_callV (As := []) (rest := []) hC hU hP hS hl.1 (c_X7_thrown l N0 D cy _ _ (x + 214) hmo2) mL_L_77 iM_X7_thrown sL_X7_thrown iN_X7 cD_X7_thrown ⟨by decide, by decide, rfl⟩ ⟨by decide, by decide⟩ ⟨by show cells + 1 + 0 + 0 ≤ 601024; omega, by show slots + 6 + 0 + 0 ≤ 7293034; omega⟩ (ci := 7) rfl (by decide) hmo2.1 rfl (Nat.le_of_ble_eq_true rfl) dL_law_179 (fun v S3 H locs hw3 hP3 hz hS3 => ?_)
  obtain ⟨rfl, rfl, hz9⟩ := hw3
  have hP := hP3
  have hS := hS3
  rw [hthr]
  refine lv_iload hx hb dL_law_182 (lv_at hl 0 rfl) ?_
  refine lv_icmp_eq (tgt := 189) hx hb dL_law_184 (by decide) (fun c_184 => ?_) (fun c_184 => ?_)
  · refine lv_goto (tgt := 928) hx hb dL_law_189 (by decide) ?_
    exact kk _ _ _ _ _ _ hLI2 hP hS (lv_sub hl [1, 2, 3, 4, 5] rfl) (by show cells + 1 + 0 + 0 ≤ cells + 3; omega) (by show slots + 6 + 0 + 0 ≤ slots + 13; omega)
  · exact absurd rfl c_184
set_option maxRecDepth 100000 in
set_option maxHeartbeats 4000000 in
theorem lw_start {p : Program} {l : Launch} {e : Env} {s : State} {m : MethodId} {below : List Frame} {meth : Method} {c : Code} {Q : State → Prop} {N0 : Nat} {D : va_G} {cy : Nat → ClassId} {S : gS} {H : Heap} {locs : List Loc} {ls : Array Slot} {cells slots x J i b L : Nat} {xs : Nat → Int32} (hls : l.stackTraces = false) (hC : gC N0 D cy p s m #[Value.ref b] c cL_law 8 RL) (hU : gU D cy s) (hZ : gZL N0 s) (hX : va_X b L xs s s.heap) (hbl : b < s.heap.size) (hbA : ¬ N0 ≤ b) (hJ : J + 1 ≤ 512) (hi : i + 4 ≤ L) (hL : L ≤ 2048) (hLI : LI x J S) (hP : gP N0 D cy S H) (hS : va_S (fun q => N0 ≤ q) s.heap H locs) (hl : lv_has ls 8 [(0, .ref b), (1, .ref x), (2, .ref (x + 214)), (3, .ref (x + 249)), (4, .int (nI i))]) (hc1 : cells + 3 ≤ 601024) (hc2 : slots + 13 ≤ 7293034)
    (kk : ∀ (S2 : gS) (H2 : Heap) (locs2 : List Loc) (ls2 : Array Slot) (k n : Nat), LI x (J + 1) S2 → gP N0 D cy S2 H2 → va_S (fun q => N0 ≤ q) s.heap H2 locs2 → lv_has ls2 8 [(0, .ref b), (1, .ref x), (2, .ref (x + 214)), (3, .ref (x + 249)), (4, .int (nI i))] → k ≤ cells + 3 → n ≤ slots + 13 → W p l e room_1 s m #[Value.ref b] below meth c H2 locs2 k n Q (F0 m 928 ls2 [])) : W p l e room_1 s m #[Value.ref b] below meth c H locs cells slots Q (F0 m 192 ls []) := by
  have hx := hC.1
  have hb := hC.2.1
  have hop := fun (p0 : Int32) => op_start l N0 D cy H.size hls hLI hJ p0
  refine lv_aload_n hx hb dL_law_192 rfl (lv_at hl 1 rfl) ?_
  refine lv_aload_n hx hb dL_law_193 rfl (lv_at hl 0 rfl) ?_
  refine lv_iload hx hb dL_law_194 (lv_at hl 4 rfl) ?_
  refine lv_iconst (v := 1) hx hb dL_law_196 (by decide) ?_
  refine lv_iadd hx hb dL_law_197 ?_
  refine va_sld hx hb hX hbl hbA hS (sc1 hi hL) dL_law_198 ?_
  refine g_callW (As := [.ref x, .int _]) (rest := []) hC hU hZ hP hS hl.1 (Classical.choose_spec (hop _)).1 mL_L_81 sT_L_start iN_L cW_L_start ⟨by decide, by decide, rfl⟩ ⟨by decide, by decide⟩ ⟨by show cells + 1 ≤ 601024; omega, by show slots + 6 ≤ 7293034; omega⟩ rfl (Nat.le_of_ble_eq_true rfl) dL_law_199 (fun v S1 H locs hw hP hz hS => ?_)
  obtain ⟨c9, PM, rfl, hmo, hM2, hM3⟩ := (Classical.choose_spec (hop _)).2 _ _ _ hw
  refine lv_istore (lv' := [(5, .int _), (0, .ref _), (1, .ref _), (2, .ref _), (3, .ref _), (4, .int _)]) hx hb dL_law_202 hl (by decide) rfl (fun ls hl => ?_)
  refine lv_aload_n hx hb dL_law_204 rfl (lv_at hl 3 rfl) ?_
  refine lv_aload_n hx hb dL_law_205 rfl (lv_at hl 1 rfl) ?_
  refine lv_iload hx hb dL_law_206 (lv_at hl 5 rfl) ?_
  refine lv_iconst (v := 1) hx hb dL_law_208 (by decide) ?_
  refine lv_iadd hx hb dL_law_209 ?_
  refine va_sld hx hb hX hbl hbA hS (sc1 hi hL) dL_law_210 ?_
  refine g_callV (As := [.int _]) (rest := []) hC hU hP hS hl.1 hM2 mL_L_84 iM_X7_start sL_X7_start iN_X7 cD_X7_start ⟨by decide, by decide, rfl⟩ ⟨by decide, by decide⟩ ⟨by show cells + 1 + 0 ≤ 601024; omega, by show slots + 6 + 0 ≤ 7293034; omega⟩ (ci := 7) rfl (by decide) hmo.1 rfl (Nat.le_of_ble_eq_true rfl) dL_law_211 (fun v S2 H locs hw2 hP hz hS => ?_)
  obtain ⟨rfl, hmo2, hLI2, hthr⟩ := hM3 _ _ _ hw2
  refine lv_aload_n hx hb dL_law_214 rfl (lv_at hl 3 rfl) ?_
  refine g_callV (As := []) (rest := []) hC hU hP hS hl.1 (c_X7_thrown l N0 D cy _ _ (x + 214) hmo2) mL_L_77 iM_X7_thrown sL_X7_thrown iN_X7 cD_X7_thrown ⟨by decide, by decide, rfl⟩ ⟨by decide, by decide⟩ ⟨by show cells + 1 + 0 + 0 ≤ 601024; omega, by show slots + 6 + 0 + 0 ≤ 7293034; omega⟩ (ci := 7) rfl (by decide) hmo2.1 rfl (Nat.le_of_ble_eq_true rfl) dL_law_215 (fun v S3 H locs hw3 hP3 hz hS3 => ?_)
  obtain ⟨rfl, rfl, hz9⟩ := hw3
  have hP := hP3
  have hS := hS3
  rw [hthr]
  refine lv_iload hx hb dL_law_218 (lv_at hl 0 rfl) ?_
  refine lv_icmp_eq (tgt := 225) hx hb dL_law_220 (by decide) (fun c_220 => ?_) (fun c_220 => ?_)
  · refine lv_goto (tgt := 928) hx hb dL_law_225 (by decide) ?_
    exact kk _ _ _ _ _ _ hLI2 hP hS (lv_sub hl [1, 2, 3, 4, 5] rfl) (by show cells + 1 + 0 + 0 ≤ cells + 3; omega) (by show slots + 6 + 0 + 0 ≤ slots + 13; omega)
  · exact absurd rfl c_220
set_option maxRecDepth 100000 in
set_option maxHeartbeats 4000000 in
theorem lw_prolong {p : Program} {l : Launch} {e : Env} {s : State} {m : MethodId} {below : List Frame} {meth : Method} {c : Code} {Q : State → Prop} {N0 : Nat} {D : va_G} {cy : Nat → ClassId} {S : gS} {H : Heap} {locs : List Loc} {ls : Array Slot} {cells slots x J i b L : Nat} {xs : Nat → Int32} (hls : l.stackTraces = false) (hC : gC N0 D cy p s m #[Value.ref b] c cL_law 8 RL) (hU : gU D cy s) (hZ : gZL N0 s) (hX : va_X b L xs s s.heap) (hbl : b < s.heap.size) (hbA : ¬ N0 ≤ b) (hJ : J + 1 ≤ 512) (hi : i + 4 ≤ L) (hL : L ≤ 2048) (hLI : LI x J S) (hP : gP N0 D cy S H) (hS : va_S (fun q => N0 ≤ q) s.heap H locs) (hl : lv_has ls 8 [(0, .ref b), (1, .ref x), (2, .ref (x + 214)), (3, .ref (x + 249)), (4, .int (nI i))]) (hc1 : cells + 3 ≤ 601024) (hc2 : slots + 13 ≤ 7293034)
    (kk : ∀ (S2 : gS) (H2 : Heap) (locs2 : List Loc) (ls2 : Array Slot) (k n : Nat), LI x (J + 1) S2 → gP N0 D cy S2 H2 → va_S (fun q => N0 ≤ q) s.heap H2 locs2 → lv_has ls2 8 [(0, .ref b), (1, .ref x), (2, .ref (x + 214)), (3, .ref (x + 249)), (4, .int (nI i))] → k ≤ cells + 3 → n ≤ slots + 13 → W p l e room_1 s m #[Value.ref b] below meth c H2 locs2 k n Q (F0 m 928 ls2 [])) : W p l e room_1 s m #[Value.ref b] below meth c H locs cells slots Q (F0 m 228 ls []) := by
  have hx := hC.1
  have hb := hC.2.1
  have hop := fun (p0 : Int32) => op_prolong l N0 D cy H.size hls hLI hJ p0
  refine lv_aload_n hx hb dL_law_228 rfl (lv_at hl 1 rfl) ?_
  refine lv_aload_n hx hb dL_law_229 rfl (lv_at hl 0 rfl) ?_
  refine lv_iload hx hb dL_law_230 (lv_at hl 4 rfl) ?_
  refine lv_iconst (v := 1) hx hb dL_law_232 (by decide) ?_
  refine lv_iadd hx hb dL_law_233 ?_
  refine va_sld hx hb hX hbl hbA hS (sc1 hi hL) dL_law_234 ?_
  refine g_callW (As := [.ref x, .int _]) (rest := []) hC hU hZ hP hS hl.1 (Classical.choose_spec (hop _)).1 mL_L_85 sT_L_prolong iN_L cW_L_prolong ⟨by decide, by decide, rfl⟩ ⟨by decide, by decide⟩ ⟨by show cells + 1 ≤ 601024; omega, by show slots + 6 ≤ 7293034; omega⟩ rfl (Nat.le_of_ble_eq_true rfl) dL_law_235 (fun v S1 H locs hw hP hz hS => ?_)
  obtain ⟨c9, PM, rfl, hmo, hM2, hM3⟩ := (Classical.choose_spec (hop _)).2 _ _ _ hw
  refine lv_istore (lv' := [(5, .int _), (0, .ref _), (1, .ref _), (2, .ref _), (3, .ref _), (4, .int _)]) hx hb dL_law_238 hl (by decide) rfl (fun ls hl => ?_)
  refine lv_aload_n hx hb dL_law_240 rfl (lv_at hl 3 rfl) ?_
  refine lv_aload_n hx hb dL_law_241 rfl (lv_at hl 1 rfl) ?_
  refine lv_iload hx hb dL_law_242 (lv_at hl 5 rfl) ?_
  refine lv_iconst (v := 1) hx hb dL_law_244 (by decide) ?_
  refine lv_iadd hx hb dL_law_245 ?_
  refine va_sld hx hb hX hbl hbA hS (sc1 hi hL) dL_law_246 ?_
  refine g_callV (As := [.int _]) (rest := []) hC hU hP hS hl.1 hM2 mL_L_87 iM_X7_prolong sL_X7_prolong iN_X7 cD_X7_prolong ⟨by decide, by decide, rfl⟩ ⟨by decide, by decide⟩ ⟨by show cells + 1 + 0 ≤ 601024; omega, by show slots + 6 + 0 ≤ 7293034; omega⟩ (ci := 7) rfl (by decide) hmo.1 rfl (Nat.le_of_ble_eq_true rfl) dL_law_247 (fun v S2 H locs hw2 hP hz hS => ?_)
  obtain ⟨rfl, hmo2, hLI2, hthr⟩ := hM3 _ _ _ hw2
  refine lv_aload_n hx hb dL_law_250 rfl (lv_at hl 3 rfl) ?_
  refine g_callV (As := []) (rest := []) hC hU hP hS hl.1 (c_X7_thrown l N0 D cy _ _ (x + 214) hmo2) mL_L_77 iM_X7_thrown sL_X7_thrown iN_X7 cD_X7_thrown ⟨by decide, by decide, rfl⟩ ⟨by decide, by decide⟩ ⟨by show cells + 1 + 0 + 0 ≤ 601024; omega, by show slots + 6 + 0 + 0 ≤ 7293034; omega⟩ (ci := 7) rfl (by decide) hmo2.1 rfl (Nat.le_of_ble_eq_true rfl) dL_law_251 (fun v S3 H locs hw3 hP3 hz hS3 => ?_)
  obtain ⟨rfl, rfl, hz9⟩ := hw3
  have hP := hP3
  have hS := hS3
  rw [hthr]
  refine lv_iload hx hb dL_law_254 (lv_at hl 0 rfl) ?_
  refine lv_icmp_eq (tgt := 261) hx hb dL_law_256 (by decide) (fun c_256 => ?_) (fun c_256 => ?_)
  · refine lv_goto (tgt := 928) hx hb dL_law_261 (by decide) ?_
    exact kk _ _ _ _ _ _ hLI2 hP hS (lv_sub hl [1, 2, 3, 4, 5] rfl) (by show cells + 1 + 0 + 0 ≤ cells + 3; omega) (by show slots + 6 + 0 + 0 ≤ slots + 13; omega)
  · exact absurd rfl c_256
set_option maxRecDepth 100000 in
set_option maxHeartbeats 4000000 in
theorem lw_crash {p : Program} {l : Launch} {e : Env} {s : State} {m : MethodId} {below : List Frame} {meth : Method} {c : Code} {Q : State → Prop} {N0 : Nat} {D : va_G} {cy : Nat → ClassId} {S : gS} {H : Heap} {locs : List Loc} {ls : Array Slot} {cells slots x J i b L : Nat} {xs : Nat → Int32} (hls : l.stackTraces = false) (hC : gC N0 D cy p s m #[Value.ref b] c cL_law 8 RL) (hU : gU D cy s) (hZ : gZL N0 s) (hX : va_X b L xs s s.heap) (hbl : b < s.heap.size) (hbA : ¬ N0 ≤ b) (hJ : J + 1 ≤ 512) (hi : i + 4 ≤ L) (hL : L ≤ 2048) (hLI : LI x J S) (hP : gP N0 D cy S H) (hS : va_S (fun q => N0 ≤ q) s.heap H locs) (hl : lv_has ls 8 [(0, .ref b), (1, .ref x), (2, .ref (x + 214)), (3, .ref (x + 249)), (4, .int (nI i))]) (hc1 : cells + 3 ≤ 601024) (hc2 : slots + 13 ≤ 7293034)
    (kk : ∀ (S2 : gS) (H2 : Heap) (locs2 : List Loc) (ls2 : Array Slot) (k n : Nat), LI x (J + 1) S2 → gP N0 D cy S2 H2 → va_S (fun q => N0 ≤ q) s.heap H2 locs2 → lv_has ls2 8 [(0, .ref b), (1, .ref x), (2, .ref (x + 214)), (3, .ref (x + 249)), (4, .int (nI i))] → k ≤ cells + 3 → n ≤ slots + 13 → W p l e room_1 s m #[Value.ref b] below meth c H2 locs2 k n Q (F0 m 928 ls2 [])) : W p l e room_1 s m #[Value.ref b] below meth c H locs cells slots Q (F0 m 264 ls []) := by
  have hx := hC.1
  have hb := hC.2.1
  have hop := fun (p0 : Int32) => op_crash l N0 D cy H.size hls hLI hJ p0
  refine lv_aload_n hx hb dL_law_264 rfl (lv_at hl 1 rfl) ?_
  refine lv_aload_n hx hb dL_law_265 rfl (lv_at hl 0 rfl) ?_
  refine lv_iload hx hb dL_law_266 (lv_at hl 4 rfl) ?_
  refine lv_iconst (v := 1) hx hb dL_law_268 (by decide) ?_
  refine lv_iadd hx hb dL_law_269 ?_
  refine va_sld hx hb hX hbl hbA hS (sc1 hi hL) dL_law_270 ?_
  refine g_callW (As := [.ref x, .int _]) (rest := []) hC hU hZ hP hS hl.1 (Classical.choose_spec (hop _)).1 mL_L_88 sT_L_crash iN_L cW_L_crash ⟨by decide, by decide, rfl⟩ ⟨by decide, by decide⟩ ⟨by show cells + 1 ≤ 601024; omega, by show slots + 6 ≤ 7293034; omega⟩ rfl (Nat.le_of_ble_eq_true rfl) dL_law_271 (fun v S1 H locs hw hP hz hS => ?_)
  obtain ⟨c9, PM, rfl, hmo, hM2, hM3⟩ := (Classical.choose_spec (hop _)).2 _ _ _ hw
  refine lv_istore (lv' := [(5, .int _), (0, .ref _), (1, .ref _), (2, .ref _), (3, .ref _), (4, .int _)]) hx hb dL_law_274 hl (by decide) rfl (fun ls hl => ?_)
  refine lv_aload_n hx hb dL_law_276 rfl (lv_at hl 3 rfl) ?_
  refine lv_aload_n hx hb dL_law_277 rfl (lv_at hl 1 rfl) ?_
  refine lv_iload hx hb dL_law_278 (lv_at hl 5 rfl) ?_
  refine lv_iconst (v := 1) hx hb dL_law_280 (by decide) ?_
  refine lv_iadd hx hb dL_law_281 ?_
  refine va_sld hx hb hX hbl hbA hS (sc1 hi hL) dL_law_282 ?_
  refine g_callV (As := [.int _]) (rest := []) hC hU hP hS hl.1 hM2 mL_L_90 iM_X7_crash sL_X7_crash iN_X7 cD_X7_crash ⟨by decide, by decide, rfl⟩ ⟨by decide, by decide⟩ ⟨by show cells + 1 + 0 ≤ 601024; omega, by show slots + 6 + 0 ≤ 7293034; omega⟩ (ci := 7) rfl (by decide) hmo.1 rfl (Nat.le_of_ble_eq_true rfl) dL_law_283 (fun v S2 H locs hw2 hP hz hS => ?_)
  obtain ⟨rfl, hmo2, hLI2, hthr⟩ := hM3 _ _ _ hw2
  refine lv_aload_n hx hb dL_law_286 rfl (lv_at hl 3 rfl) ?_
  refine g_callV (As := []) (rest := []) hC hU hP hS hl.1 (c_X7_thrown l N0 D cy _ _ (x + 214) hmo2) mL_L_77 iM_X7_thrown sL_X7_thrown iN_X7 cD_X7_thrown ⟨by decide, by decide, rfl⟩ ⟨by decide, by decide⟩ ⟨by show cells + 1 + 0 + 0 ≤ 601024; omega, by show slots + 6 + 0 + 0 ≤ 7293034; omega⟩ (ci := 7) rfl (by decide) hmo2.1 rfl (Nat.le_of_ble_eq_true rfl) dL_law_287 (fun v S3 H locs hw3 hP3 hz hS3 => ?_)
  obtain ⟨rfl, rfl, hz9⟩ := hw3
  have hP := hP3
  have hS := hS3
  rw [hthr]
  refine lv_iload hx hb dL_law_290 (lv_at hl 0 rfl) ?_
  refine lv_icmp_eq (tgt := 297) hx hb dL_law_292 (by decide) (fun c_292 => ?_) (fun c_292 => ?_)
  · refine lv_goto (tgt := 928) hx hb dL_law_297 (by decide) ?_
    exact kk _ _ _ _ _ _ hLI2 hP hS (lv_sub hl [1, 2, 3, 4, 5] rfl) (by show cells + 1 + 0 + 0 ≤ cells + 3; omega) (by show slots + 6 + 0 + 0 ≤ slots + 13; omega)
  · exact absurd rfl c_292
set_option maxRecDepth 100000 in
set_option maxHeartbeats 4000000 in
theorem lw_node {p : Program} {l : Launch} {e : Env} {s : State} {m : MethodId} {below : List Frame} {meth : Method} {c : Code} {Q : State → Prop} {N0 : Nat} {D : va_G} {cy : Nat → ClassId} {S : gS} {H : Heap} {locs : List Loc} {ls : Array Slot} {cells slots x J i b L : Nat} {xs : Nat → Int32} (hls : l.stackTraces = false) (hC : gC N0 D cy p s m #[Value.ref b] c cL_law 8 RL) (hU : gU D cy s) (hZ : gZL N0 s) (hX : va_X b L xs s s.heap) (hbl : b < s.heap.size) (hbA : ¬ N0 ≤ b) (hJ : J + 1 ≤ 512) (hi : i + 4 ≤ L) (hL : L ≤ 2048) (hLI : LI x J S) (hP : gP N0 D cy S H) (hS : va_S (fun q => N0 ≤ q) s.heap H locs) (hl : lv_has ls 8 [(0, .ref b), (1, .ref x), (2, .ref (x + 214)), (3, .ref (x + 249)), (4, .int (nI i))]) (hc1 : cells + 3 ≤ 601024) (hc2 : slots + 13 ≤ 7293034)
    (kk : ∀ (S2 : gS) (H2 : Heap) (locs2 : List Loc) (ls2 : Array Slot) (k n : Nat), LI x (J + 1) S2 → gP N0 D cy S2 H2 → va_S (fun q => N0 ≤ q) s.heap H2 locs2 → lv_has ls2 8 [(0, .ref b), (1, .ref x), (2, .ref (x + 214)), (3, .ref (x + 249)), (4, .int (nI i))] → k ≤ cells + 3 → n ≤ slots + 13 → W p l e room_1 s m #[Value.ref b] below meth c H2 locs2 k n Q (F0 m 928 ls2 [])) : W p l e room_1 s m #[Value.ref b] below meth c H locs cells slots Q (F0 m 300 ls []) := by
  have hx := hC.1
  have hb := hC.2.1
  have hop := fun (p0 : Int32) (p1 : Int32) (hu : p1 = 0 ∨ p1 = 1) => op_node l N0 D cy H.size hls hLI hJ p0 p1 hu
  refine lv_aload_n hx hb dL_law_300 rfl (lv_at hl 1 rfl) ?_
  refine lv_aload_n hx hb dL_law_301 rfl (lv_at hl 0 rfl) ?_
  refine lv_iload hx hb dL_law_302 (lv_at hl 4 rfl) ?_
  refine lv_iconst (v := 1) hx hb dL_law_304 (by decide) ?_
  refine lv_iadd hx hb dL_law_305 ?_
  refine va_sld hx hb hX hbl hbA hS (sc1 hi hL) dL_law_306 ?_
  refine lv_aload_n hx hb dL_law_307 rfl (lv_at hl 0 rfl) ?_
  refine lv_iload hx hb dL_law_308 (lv_at hl 4 rfl) ?_
  refine lv_iconst (v := 2) hx hb dL_law_310 (by decide) ?_
  refine lv_iadd hx hb dL_law_311 ?_
  refine va_sld hx hb hX hbl hbA hS (sc2 hi hL) dL_law_312 ?_
  refine lv_if_eq (tgt := 320) hx hb dL_law_313 (by decide) (fun c_313 => ?_) (fun c_313 => ?_)
  · refine lv_iconst (v := 0) hx hb dL_law_320 (by decide) ?_
    refine g_callW (As := [.ref x, .int _, .int _]) (rest := []) hC hU hZ hP hS hl.1 (Classical.choose_spec (hop _ _ (by first | exact Or.inl rfl | exact Or.inr rfl))).1 mL_L_91 sT_L_node iN_L cW_L_node ⟨by decide, by decide, rfl⟩ ⟨by decide, by decide⟩ ⟨by show cells + 1 ≤ 601024; omega, by show slots + 6 ≤ 7293034; omega⟩ rfl (Nat.le_of_ble_eq_true rfl) dL_law_321 (fun v S1 H locs hw hP hz hS => ?_)
    obtain ⟨c9, PM, rfl, hmo, hM2, hM3⟩ := (Classical.choose_spec (hop _ _ (by first | exact Or.inl rfl | exact Or.inr rfl))).2 _ _ _ hw
    refine lv_istore (lv' := [(5, .int _), (0, .ref _), (1, .ref _), (2, .ref _), (3, .ref _), (4, .int _)]) hx hb dL_law_324 hl (by decide) rfl (fun ls hl => ?_)
    refine lv_aload_n hx hb dL_law_326 rfl (lv_at hl 3 rfl) ?_
    refine lv_aload_n hx hb dL_law_327 rfl (lv_at hl 1 rfl) ?_
    refine lv_iload hx hb dL_law_328 (lv_at hl 5 rfl) ?_
    refine lv_iconst (v := 1) hx hb dL_law_330 (by decide) ?_
    refine lv_iadd hx hb dL_law_331 ?_
    refine va_sld hx hb hX hbl hbA hS (sc1 hi hL) dL_law_332 ?_
    refine lv_aload_n hx hb dL_law_333 rfl (lv_at hl 1 rfl) ?_
    refine lv_iload hx hb dL_law_334 (lv_at hl 5 rfl) ?_
    refine lv_iconst (v := 2) hx hb dL_law_336 (by decide) ?_
    refine lv_iadd hx hb dL_law_337 ?_
    refine va_sld hx hb hX hbl hbA hS (sc2 hi hL) dL_law_338 ?_
    refine lv_if_eq (tgt := 346) hx hb dL_law_339 (by decide) (fun c_339 => ?_) (fun c_339 => ?_)
    · refine lv_iconst (v := 0) hx hb dL_law_346 (by decide) ?_
      refine g_callV (As := [.int _, .int _]) (rest := []) hC hU hP hS hl.1 hM2 mL_L_94 iM_X7_node sL_X7_node iN_X7 cD_X7_node ⟨by decide, by decide, rfl⟩ ⟨by decide, by decide⟩ ⟨by show cells + 1 + 0 ≤ 601024; omega, by show slots + 6 + 0 ≤ 7293034; omega⟩ (ci := 7) rfl (by decide) hmo.1 rfl (Nat.le_of_ble_eq_true rfl) dL_law_347 (fun v S2 H locs hw2 hP hz hS => ?_)
      obtain ⟨rfl, hmo2, hLI2, hthr⟩ := hM3 _ _ _ hw2
      refine lv_aload_n hx hb dL_law_350 rfl (lv_at hl 3 rfl) ?_
      refine g_callV (As := []) (rest := []) hC hU hP hS hl.1 (c_X7_thrown l N0 D cy _ _ (x + 214) hmo2) mL_L_77 iM_X7_thrown sL_X7_thrown iN_X7 cD_X7_thrown ⟨by decide, by decide, rfl⟩ ⟨by decide, by decide⟩ ⟨by show cells + 1 + 0 + 0 ≤ 601024; omega, by show slots + 6 + 0 + 0 ≤ 7293034; omega⟩ (ci := 7) rfl (by decide) hmo2.1 rfl (Nat.le_of_ble_eq_true rfl) dL_law_351 (fun v S3 H locs hw3 hP3 hz hS3 => ?_)
      obtain ⟨rfl, rfl, hz9⟩ := hw3
      have hP := hP3
      have hS := hS3
      rw [hthr]
      refine lv_iload hx hb dL_law_354 (lv_at hl 0 rfl) ?_
      refine lv_icmp_eq (tgt := 361) hx hb dL_law_356 (by decide) (fun c_356 => ?_) (fun c_356 => ?_)
      · refine lv_goto (tgt := 928) hx hb dL_law_361 (by decide) ?_
        exact kk _ _ _ _ _ _ hLI2 hP hS (lv_sub hl [1, 2, 3, 4, 5] rfl) (by show cells + 1 + 0 + 0 ≤ cells + 3; omega) (by show slots + 6 + 0 + 0 ≤ slots + 13; omega)
      · exact absurd rfl c_356
    · exact absurd c_313 c_339
  · refine lv_iconst (v := 1) hx hb dL_law_316 (by decide) ?_
    refine lv_goto (tgt := 321) hx hb dL_law_317 (by decide) ?_
    refine g_callW (As := [.ref x, .int _, .int _]) (rest := []) hC hU hZ hP hS hl.1 (Classical.choose_spec (hop _ _ (by first | exact Or.inl rfl | exact Or.inr rfl))).1 mL_L_91 sT_L_node iN_L cW_L_node ⟨by decide, by decide, rfl⟩ ⟨by decide, by decide⟩ ⟨by show cells + 1 ≤ 601024; omega, by show slots + 6 ≤ 7293034; omega⟩ rfl (Nat.le_of_ble_eq_true rfl) dL_law_321 (fun v S1 H locs hw hP hz hS => ?_)
    obtain ⟨c9, PM, rfl, hmo, hM2, hM3⟩ := (Classical.choose_spec (hop _ _ (by first | exact Or.inl rfl | exact Or.inr rfl))).2 _ _ _ hw
    refine lv_istore (lv' := [(5, .int _), (0, .ref _), (1, .ref _), (2, .ref _), (3, .ref _), (4, .int _)]) hx hb dL_law_324 hl (by decide) rfl (fun ls hl => ?_)
    refine lv_aload_n hx hb dL_law_326 rfl (lv_at hl 3 rfl) ?_
    refine lv_aload_n hx hb dL_law_327 rfl (lv_at hl 1 rfl) ?_
    refine lv_iload hx hb dL_law_328 (lv_at hl 5 rfl) ?_
    refine lv_iconst (v := 1) hx hb dL_law_330 (by decide) ?_
    refine lv_iadd hx hb dL_law_331 ?_
    refine va_sld hx hb hX hbl hbA hS (sc1 hi hL) dL_law_332 ?_
    refine lv_aload_n hx hb dL_law_333 rfl (lv_at hl 1 rfl) ?_
    refine lv_iload hx hb dL_law_334 (lv_at hl 5 rfl) ?_
    refine lv_iconst (v := 2) hx hb dL_law_336 (by decide) ?_
    refine lv_iadd hx hb dL_law_337 ?_
    refine va_sld hx hb hX hbl hbA hS (sc2 hi hL) dL_law_338 ?_
    refine lv_if_eq (tgt := 346) hx hb dL_law_339 (by decide) (fun c_339 => ?_) (fun c_339 => ?_)
    · exact absurd c_339 c_313
    · refine lv_iconst (v := 1) hx hb dL_law_342 (by decide) ?_
      refine lv_goto (tgt := 347) hx hb dL_law_343 (by decide) ?_
      refine g_callV (As := [.int _, .int _]) (rest := []) hC hU hP hS hl.1 hM2 mL_L_94 iM_X7_node sL_X7_node iN_X7 cD_X7_node ⟨by decide, by decide, rfl⟩ ⟨by decide, by decide⟩ ⟨by show cells + 1 + 0 ≤ 601024; omega, by show slots + 6 + 0 ≤ 7293034; omega⟩ (ci := 7) rfl (by decide) hmo.1 rfl (Nat.le_of_ble_eq_true rfl) dL_law_347 (fun v S2 H locs hw2 hP hz hS => ?_)
      obtain ⟨rfl, hmo2, hLI2, hthr⟩ := hM3 _ _ _ hw2
      refine lv_aload_n hx hb dL_law_350 rfl (lv_at hl 3 rfl) ?_
      refine g_callV (As := []) (rest := []) hC hU hP hS hl.1 (c_X7_thrown l N0 D cy _ _ (x + 214) hmo2) mL_L_77 iM_X7_thrown sL_X7_thrown iN_X7 cD_X7_thrown ⟨by decide, by decide, rfl⟩ ⟨by decide, by decide⟩ ⟨by show cells + 1 + 0 + 0 ≤ 601024; omega, by show slots + 6 + 0 + 0 ≤ 7293034; omega⟩ (ci := 7) rfl (by decide) hmo2.1 rfl (Nat.le_of_ble_eq_true rfl) dL_law_351 (fun v S3 H locs hw3 hP3 hz hS3 => ?_)
      obtain ⟨rfl, rfl, hz9⟩ := hw3
      have hP := hP3
      have hS := hS3
      rw [hthr]
      refine lv_iload hx hb dL_law_354 (lv_at hl 0 rfl) ?_
      refine lv_icmp_eq (tgt := 361) hx hb dL_law_356 (by decide) (fun c_356 => ?_) (fun c_356 => ?_)
      · refine lv_goto (tgt := 928) hx hb dL_law_361 (by decide) ?_
        exact kk _ _ _ _ _ _ hLI2 hP hS (lv_sub hl [1, 2, 3, 4, 5] rfl) (by show cells + 1 + 0 + 0 ≤ cells + 3; omega) (by show slots + 6 + 0 + 0 ≤ slots + 13; omega)
      · exact absurd rfl c_356
set_option maxRecDepth 100000 in
set_option maxHeartbeats 4000000 in
theorem lw_deliver {p : Program} {l : Launch} {e : Env} {s : State} {m : MethodId} {below : List Frame} {meth : Method} {c : Code} {Q : State → Prop} {N0 : Nat} {D : va_G} {cy : Nat → ClassId} {S : gS} {H : Heap} {locs : List Loc} {ls : Array Slot} {cells slots x J i b L : Nat} {xs : Nat → Int32} (hls : l.stackTraces = false) (hC : gC N0 D cy p s m #[Value.ref b] c cL_law 8 RL) (hU : gU D cy s) (hZ : gZL N0 s) (hX : va_X b L xs s s.heap) (hbl : b < s.heap.size) (hbA : ¬ N0 ≤ b) (hJ : J + 1 ≤ 512) (hi : i + 4 ≤ L) (hL : L ≤ 2048) (hLI : LI x J S) (hP : gP N0 D cy S H) (hS : va_S (fun q => N0 ≤ q) s.heap H locs) (hl : lv_has ls 8 [(0, .ref b), (1, .ref x), (2, .ref (x + 214)), (3, .ref (x + 249)), (4, .int (nI i))]) (hc1 : cells + 3 ≤ 601024) (hc2 : slots + 13 ≤ 7293034)
    (kk : ∀ (S2 : gS) (H2 : Heap) (locs2 : List Loc) (ls2 : Array Slot) (k n : Nat), LI x (J + 1) S2 → gP N0 D cy S2 H2 → va_S (fun q => N0 ≤ q) s.heap H2 locs2 → lv_has ls2 8 [(0, .ref b), (1, .ref x), (2, .ref (x + 214)), (3, .ref (x + 249)), (4, .int (nI i))] → k ≤ cells + 3 → n ≤ slots + 13 → W p l e room_1 s m #[Value.ref b] below meth c H2 locs2 k n Q (F0 m 928 ls2 [])) : W p l e room_1 s m #[Value.ref b] below meth c H locs cells slots Q (F0 m 377 ls []) := by
  have hx := hC.1
  have hb := hC.2.1
  have hop := fun (p0 : Int32) => op_deliver l N0 D cy H.size hls hLI hJ (fun b hb => hP.fresh hb) p0
  refine lv_aload_n hx hb dL_law_377 rfl (lv_at hl 1 rfl) ?_
  refine lv_aload_n hx hb dL_law_378 rfl (lv_at hl 0 rfl) ?_
  refine lv_iload hx hb dL_law_379 (lv_at hl 4 rfl) ?_
  refine lv_iconst (v := 1) hx hb dL_law_381 (by decide) ?_
  refine lv_iadd hx hb dL_law_382 ?_
  refine va_sld hx hb hX hbl hbA hS (sc1 hi hL) dL_law_383 ?_
  refine lv_aload_n hx hb dL_law_384 rfl (lv_at hl 3 rfl) ?_
  refine g_callW (As := [.ref x, .int _, .ref (x + 249)]) (rest := []) hC hU hZ hP hS hl.1 (Classical.choose_spec (hop _)).1 mL_L_99 sT_L_deliver iN_L cW_L_deliver ⟨by decide, by decide, rfl⟩ ⟨by decide, by decide⟩ ⟨by show cells + 3 ≤ 601024; omega, by show slots + 13 ≤ 7293034; omega⟩ rfl (Nat.le_of_ble_eq_true rfl) dL_law_385 (fun v S1 H locs hw hP hz hS => ?_)
  obtain ⟨c9, PM, rfl, hmo, hM2, hM3⟩ := (Classical.choose_spec (hop _)).2 _ _ _ hw
  refine lv_istore (lv' := [(5, .int _), (0, .ref _), (1, .ref _), (2, .ref _), (3, .ref _), (4, .int _)]) hx hb dL_law_388 hl (by decide) rfl (fun ls hl => ?_)
  refine lv_aload_n hx hb dL_law_390 rfl (lv_at hl 3 rfl) ?_
  refine lv_aload_n hx hb dL_law_391 rfl (lv_at hl 1 rfl) ?_
  refine lv_iload hx hb dL_law_392 (lv_at hl 5 rfl) ?_
  refine lv_iconst (v := 1) hx hb dL_law_394 (by decide) ?_
  refine lv_iadd hx hb dL_law_395 ?_
  refine va_sld hx hb hX hbl hbA hS (sc1 hi hL) dL_law_396 ?_
  refine g_callV (As := [.int _]) (rest := []) hC hU hP hS hl.1 hM2 mL_L_102 iM_X7_deliver sL_X7_deliver iN_X7 cD_X7_deliver ⟨by decide, by decide, rfl⟩ ⟨by decide, by decide⟩ ⟨by show cells + 3 + 0 ≤ 601024; omega, by show slots + 13 + 0 ≤ 7293034; omega⟩ (ci := 7) rfl (by decide) hmo.1 rfl (Nat.le_of_ble_eq_true rfl) dL_law_397 (fun v S2 H locs hw2 hP hz hS => ?_)
  obtain ⟨r2, rfl, hmo2, hLI2, hthr, hk10, hn1, hans⟩ := hM3 _ _ _ hw2
  refine lv_istore (lv' := [(6, .int _), (5, .int _), (0, .ref _), (1, .ref _), (2, .ref _), (3, .ref _), (4, .int _)]) hx hb dL_law_400 hl (by decide) rfl (fun ls hl => ?_)
  refine lv_aload_n hx hb dL_law_402 rfl (lv_at hl 4 rfl) ?_
  refine g_callV (As := []) (rest := []) hC hU hP hS hl.1 (c_X7_thrown l N0 D cy _ _ (x + 214) hmo2) mL_L_77 iM_X7_thrown sL_X7_thrown iN_X7 cD_X7_thrown ⟨by decide, by decide, rfl⟩ ⟨by decide, by decide⟩ ⟨by show cells + 3 + 0 + 0 ≤ 601024; omega, by show slots + 13 + 0 + 0 ≤ 7293034; omega⟩ (ci := 7) rfl (by decide) hmo2.1 rfl (Nat.le_of_ble_eq_true rfl) dL_law_403 (fun v S3 H locs hw3 hP3 hz hS3 => ?_)
  obtain ⟨rfl, rfl, hz9⟩ := hw3
  have hP := hP3
  have hS := hS3
  rw [hthr]
  refine lv_iload hx hb dL_law_406 (lv_at hl 1 rfl) ?_
  refine lv_icmp_eq (tgt := 413) hx hb dL_law_408 (by decide) (fun c_408 => ?_) (fun c_408 => ?_)
  · refine lv_iload hx hb dL_law_413 (lv_at hl 1 rfl) ?_
    refine lv_if_ne (tgt := 430) hx hb dL_law_415 (by decide) (fun c_415 => ?_) (fun c_415 => ?_)
    · refine lv_goto (tgt := 928) hx hb dL_law_430 (by decide) ?_
      exact kk _ _ _ _ _ _ hLI2 hP hS (lv_sub hl [2, 3, 4, 5, 6] rfl) (by show cells + 3 + 0 + 0 ≤ cells + 3; omega) (by show slots + 13 + 0 + 0 ≤ slots + 13; omega)
    · refine lv_aload_n hx hb dL_law_418 rfl (lv_at hl 5 rfl) ?_
      refine lv_iconst (v := 0) hx hb dL_law_419 (by decide) ?_
      refine g_lald hC hP hk10 (show vp_in (0 : Int32) (gn _ (x + 249)) by rw [hn1]; show vp_in (nI 0) 1; exact vp_in_nI (by decide) (by decide)) dL_law_420 ?_
      rw [show gJ _ (x + 249) (0 : Int32).toNatClampNeg = _ from hans (by first | exact c_415 | exact Classical.byContradiction fun q => absurd q (by assumption))]
      refine lv_iload hx hb dL_law_421 (lv_at hl 0 rfl) ?_
      refine lv_i2l hx hb dL_law_423 rfl ?_
      refine W.lcmp hx hb dL_law_424 ?_
      refine lv_if_eq (tgt := 430) hx hb dL_law_425 (by decide) (fun c_425 => ?_) (fun c_425 => ?_)
      · replace c_425 := lc_eq.mp c_425
        refine lv_goto (tgt := 928) hx hb dL_law_430 (by decide) ?_
        exact kk _ _ _ _ _ _ hLI2 hP hS (lv_sub hl [2, 3, 4, 5, 6] rfl) (by show cells + 3 + 0 + 0 ≤ cells + 3; omega) (by show slots + 13 + 0 + 0 ≤ slots + 13; omega)
      · replace c_425 := fun h => c_425 (lc_eq.mpr h)
        exact absurd rfl c_425
  · exact absurd rfl c_408
set_option maxRecDepth 100000 in
set_option maxHeartbeats 4000000 in
theorem lw_lose {p : Program} {l : Launch} {e : Env} {s : State} {m : MethodId} {below : List Frame} {meth : Method} {c : Code} {Q : State → Prop} {N0 : Nat} {D : va_G} {cy : Nat → ClassId} {S : gS} {H : Heap} {locs : List Loc} {ls : Array Slot} {cells slots x J i b L : Nat} {xs : Nat → Int32} (hls : l.stackTraces = false) (hC : gC N0 D cy p s m #[Value.ref b] c cL_law 8 RL) (hU : gU D cy s) (hZ : gZL N0 s) (hX : va_X b L xs s s.heap) (hbl : b < s.heap.size) (hbA : ¬ N0 ≤ b) (hJ : J + 1 ≤ 512) (hi : i + 4 ≤ L) (hL : L ≤ 2048) (hLI : LI x J S) (hP : gP N0 D cy S H) (hS : va_S (fun q => N0 ≤ q) s.heap H locs) (hl : lv_has ls 8 [(0, .ref b), (1, .ref x), (2, .ref (x + 214)), (3, .ref (x + 249)), (4, .int (nI i))]) (hc1 : cells + 3 ≤ 601024) (hc2 : slots + 13 ≤ 7293034)
    (kk : ∀ (S2 : gS) (H2 : Heap) (locs2 : List Loc) (ls2 : Array Slot) (k n : Nat), LI x (J + 1) S2 → gP N0 D cy S2 H2 → va_S (fun q => N0 ≤ q) s.heap H2 locs2 → lv_has ls2 8 [(0, .ref b), (1, .ref x), (2, .ref (x + 214)), (3, .ref (x + 249)), (4, .int (nI i))] → k ≤ cells + 3 → n ≤ slots + 13 → W p l e room_1 s m #[Value.ref b] below meth c H2 locs2 k n Q (F0 m 928 ls2 [])) : W p l e room_1 s m #[Value.ref b] below meth c H locs cells slots Q (F0 m 433 ls []) := by
  have hx := hC.1
  have hb := hC.2.1
  have hop := fun (p0 : Int32) => op_lose l N0 D cy H.size hls hLI hJ p0
  refine lv_aload_n hx hb dL_law_433 rfl (lv_at hl 1 rfl) ?_
  refine lv_aload_n hx hb dL_law_434 rfl (lv_at hl 0 rfl) ?_
  refine lv_iload hx hb dL_law_435 (lv_at hl 4 rfl) ?_
  refine lv_iconst (v := 1) hx hb dL_law_437 (by decide) ?_
  refine lv_iadd hx hb dL_law_438 ?_
  refine va_sld hx hb hX hbl hbA hS (sc1 hi hL) dL_law_439 ?_
  refine g_callW (As := [.ref x, .int _]) (rest := []) hC hU hZ hP hS hl.1 (Classical.choose_spec (hop _)).1 mL_L_103 sT_L_lose iN_L cW_L_lose ⟨by decide, by decide, rfl⟩ ⟨by decide, by decide⟩ ⟨by show cells + 1 ≤ 601024; omega, by show slots + 6 ≤ 7293034; omega⟩ rfl (Nat.le_of_ble_eq_true rfl) dL_law_440 (fun v S1 H locs hw hP hz hS => ?_)
  obtain ⟨c9, PM, rfl, hmo, hM2, hM3⟩ := (Classical.choose_spec (hop _)).2 _ _ _ hw
  refine lv_istore (lv' := [(5, .int _), (0, .ref _), (1, .ref _), (2, .ref _), (3, .ref _), (4, .int _)]) hx hb dL_law_443 hl (by decide) rfl (fun ls hl => ?_)
  refine lv_aload_n hx hb dL_law_445 rfl (lv_at hl 3 rfl) ?_
  refine lv_aload_n hx hb dL_law_446 rfl (lv_at hl 1 rfl) ?_
  refine lv_iload hx hb dL_law_447 (lv_at hl 5 rfl) ?_
  refine lv_iconst (v := 1) hx hb dL_law_449 (by decide) ?_
  refine lv_iadd hx hb dL_law_450 ?_
  refine va_sld hx hb hX hbl hbA hS (sc1 hi hL) dL_law_451 ?_
  refine g_callV (As := [.int _]) (rest := []) hC hU hP hS hl.1 hM2 mL_L_105 iM_X7_lose sL_X7_lose iN_X7 cD_X7_lose ⟨by decide, by decide, rfl⟩ ⟨by decide, by decide⟩ ⟨by show cells + 1 + 0 ≤ 601024; omega, by show slots + 6 + 0 ≤ 7293034; omega⟩ (ci := 7) rfl (by decide) hmo.1 rfl (Nat.le_of_ble_eq_true rfl) dL_law_452 (fun v S2 H locs hw2 hP hz hS => ?_)
  obtain ⟨rfl, hmo2, hLI2, hthr⟩ := hM3 _ _ _ hw2
  refine lv_aload_n hx hb dL_law_455 rfl (lv_at hl 3 rfl) ?_
  refine g_callV (As := []) (rest := []) hC hU hP hS hl.1 (c_X7_thrown l N0 D cy _ _ (x + 214) hmo2) mL_L_77 iM_X7_thrown sL_X7_thrown iN_X7 cD_X7_thrown ⟨by decide, by decide, rfl⟩ ⟨by decide, by decide⟩ ⟨by show cells + 1 + 0 + 0 ≤ 601024; omega, by show slots + 6 + 0 + 0 ≤ 7293034; omega⟩ (ci := 7) rfl (by decide) hmo2.1 rfl (Nat.le_of_ble_eq_true rfl) dL_law_456 (fun v S3 H locs hw3 hP3 hz hS3 => ?_)
  obtain ⟨rfl, rfl, hz9⟩ := hw3
  have hP := hP3
  have hS := hS3
  rw [hthr]
  refine lv_iload hx hb dL_law_459 (lv_at hl 0 rfl) ?_
  refine lv_icmp_eq (tgt := 466) hx hb dL_law_461 (by decide) (fun c_461 => ?_) (fun c_461 => ?_)
  · refine lv_goto (tgt := 928) hx hb dL_law_466 (by decide) ?_
    exact kk _ _ _ _ _ _ hLI2 hP hS (lv_sub hl [1, 2, 3, 4, 5] rfl) (by show cells + 1 + 0 + 0 ≤ cells + 3; omega) (by show slots + 6 + 0 + 0 ≤ slots + 13; omega)
  · exact absurd rfl c_461
set_option maxRecDepth 100000 in
set_option maxHeartbeats 4000000 in
theorem lw_twin {p : Program} {l : Launch} {e : Env} {s : State} {m : MethodId} {below : List Frame} {meth : Method} {c : Code} {Q : State → Prop} {N0 : Nat} {D : va_G} {cy : Nat → ClassId} {S : gS} {H : Heap} {locs : List Loc} {ls : Array Slot} {cells slots x J i b L : Nat} {xs : Nat → Int32} (hls : l.stackTraces = false) (hC : gC N0 D cy p s m #[Value.ref b] c cL_law 8 RL) (hU : gU D cy s) (hZ : gZL N0 s) (hX : va_X b L xs s s.heap) (hbl : b < s.heap.size) (hbA : ¬ N0 ≤ b) (hJ : J + 1 ≤ 512) (hi : i + 4 ≤ L) (hL : L ≤ 2048) (hLI : LI x J S) (hP : gP N0 D cy S H) (hS : va_S (fun q => N0 ≤ q) s.heap H locs) (hl : lv_has ls 8 [(0, .ref b), (1, .ref x), (2, .ref (x + 214)), (3, .ref (x + 249)), (4, .int (nI i))]) (hc1 : cells + 3 ≤ 601024) (hc2 : slots + 13 ≤ 7293034)
    (kk : ∀ (S2 : gS) (H2 : Heap) (locs2 : List Loc) (ls2 : Array Slot) (k n : Nat), LI x (J + 1) S2 → gP N0 D cy S2 H2 → va_S (fun q => N0 ≤ q) s.heap H2 locs2 → lv_has ls2 8 [(0, .ref b), (1, .ref x), (2, .ref (x + 214)), (3, .ref (x + 249)), (4, .int (nI i))] → k ≤ cells + 3 → n ≤ slots + 13 → W p l e room_1 s m #[Value.ref b] below meth c H2 locs2 k n Q (F0 m 928 ls2 [])) : W p l e room_1 s m #[Value.ref b] below meth c H locs cells slots Q (F0 m 469 ls []) := by
  have hx := hC.1
  have hb := hC.2.1
  have hop := fun (p0 : Int32) => op_twin l N0 D cy H.size hls hLI hJ p0
  refine lv_aload_n hx hb dL_law_469 rfl (lv_at hl 1 rfl) ?_
  refine lv_aload_n hx hb dL_law_470 rfl (lv_at hl 0 rfl) ?_
  refine lv_iload hx hb dL_law_471 (lv_at hl 4 rfl) ?_
  refine lv_iconst (v := 1) hx hb dL_law_473 (by decide) ?_
  refine lv_iadd hx hb dL_law_474 ?_
  refine va_sld hx hb hX hbl hbA hS (sc1 hi hL) dL_law_475 ?_
  refine g_callW (As := [.ref x, .int _]) (rest := []) hC hU hZ hP hS hl.1 (Classical.choose_spec (hop _)).1 mL_L_106 sT_L_twin iN_L cW_L_twin ⟨by decide, by decide, rfl⟩ ⟨by decide, by decide⟩ ⟨by show cells + 1 ≤ 601024; omega, by show slots + 6 ≤ 7293034; omega⟩ rfl (Nat.le_of_ble_eq_true rfl) dL_law_476 (fun v S1 H locs hw hP hz hS => ?_)
  obtain ⟨c9, PM, rfl, hmo, hM2, hM3⟩ := (Classical.choose_spec (hop _)).2 _ _ _ hw
  refine lv_istore (lv' := [(5, .int _), (0, .ref _), (1, .ref _), (2, .ref _), (3, .ref _), (4, .int _)]) hx hb dL_law_479 hl (by decide) rfl (fun ls hl => ?_)
  refine lv_aload_n hx hb dL_law_481 rfl (lv_at hl 3 rfl) ?_
  refine lv_aload_n hx hb dL_law_482 rfl (lv_at hl 1 rfl) ?_
  refine lv_iload hx hb dL_law_483 (lv_at hl 5 rfl) ?_
  refine lv_iconst (v := 1) hx hb dL_law_485 (by decide) ?_
  refine lv_iadd hx hb dL_law_486 ?_
  refine va_sld hx hb hX hbl hbA hS (sc1 hi hL) dL_law_487 ?_
  refine g_callV (As := [.int _]) (rest := []) hC hU hP hS hl.1 hM2 mL_L_108 iM_X7_twin sL_X7_twin iN_X7 cD_X7_twin ⟨by decide, by decide, rfl⟩ ⟨by decide, by decide⟩ ⟨by show cells + 1 + 0 ≤ 601024; omega, by show slots + 6 + 0 ≤ 7293034; omega⟩ (ci := 7) rfl (by decide) hmo.1 rfl (Nat.le_of_ble_eq_true rfl) dL_law_488 (fun v S2 H locs hw2 hP hz hS => ?_)
  obtain ⟨rfl, hmo2, hLI2, hthr⟩ := hM3 _ _ _ hw2
  refine lv_aload_n hx hb dL_law_491 rfl (lv_at hl 3 rfl) ?_
  refine g_callV (As := []) (rest := []) hC hU hP hS hl.1 (c_X7_thrown l N0 D cy _ _ (x + 214) hmo2) mL_L_77 iM_X7_thrown sL_X7_thrown iN_X7 cD_X7_thrown ⟨by decide, by decide, rfl⟩ ⟨by decide, by decide⟩ ⟨by show cells + 1 + 0 + 0 ≤ 601024; omega, by show slots + 6 + 0 + 0 ≤ 7293034; omega⟩ (ci := 7) rfl (by decide) hmo2.1 rfl (Nat.le_of_ble_eq_true rfl) dL_law_492 (fun v S3 H locs hw3 hP3 hz hS3 => ?_)
  obtain ⟨rfl, rfl, hz9⟩ := hw3
  have hP := hP3
  have hS := hS3
  rw [hthr]
  refine lv_iload hx hb dL_law_495 (lv_at hl 0 rfl) ?_
  refine lv_icmp_eq (tgt := 502) hx hb dL_law_497 (by decide) (fun c_497 => ?_) (fun c_497 => ?_)
  · refine lv_goto (tgt := 928) hx hb dL_law_502 (by decide) ?_
    exact kk _ _ _ _ _ _ hLI2 hP hS (lv_sub hl [1, 2, 3, 4, 5] rfl) (by show cells + 1 + 0 + 0 ≤ cells + 3; omega) (by show slots + 6 + 0 + 0 ≤ slots + 13; omega)
  · exact absurd rfl c_497
set_option maxRecDepth 100000 in
set_option maxHeartbeats 4000000 in
theorem lw_letter {p : Program} {l : Launch} {e : Env} {s : State} {m : MethodId} {below : List Frame} {meth : Method} {c : Code} {Q : State → Prop} {N0 : Nat} {D : va_G} {cy : Nat → ClassId} {S : gS} {H : Heap} {locs : List Loc} {ls : Array Slot} {cells slots x J i b L : Nat} {xs : Nat → Int32} (hls : l.stackTraces = false) (hC : gC N0 D cy p s m #[Value.ref b] c cL_law 8 RL) (hU : gU D cy s) (hZ : gZL N0 s) (hX : va_X b L xs s s.heap) (hbl : b < s.heap.size) (hbA : ¬ N0 ≤ b) (hJ : J + 1 ≤ 512) (hi : i + 4 ≤ L) (hL : L ≤ 2048) (hLI : LI x J S) (hP : gP N0 D cy S H) (hS : va_S (fun q => N0 ≤ q) s.heap H locs) (hl : lv_has ls 8 [(0, .ref b), (1, .ref x), (2, .ref (x + 214)), (3, .ref (x + 249)), (4, .int (nI i))]) (hc1 : cells + 3 ≤ 601024) (hc2 : slots + 13 ≤ 7293034)
    (kk : ∀ (S2 : gS) (H2 : Heap) (locs2 : List Loc) (ls2 : Array Slot) (k n : Nat), LI x (J + 1) S2 → gP N0 D cy S2 H2 → va_S (fun q => N0 ≤ q) s.heap H2 locs2 → lv_has ls2 8 [(0, .ref b), (1, .ref x), (2, .ref (x + 214)), (3, .ref (x + 249)), (4, .int (nI i))] → k ≤ cells + 3 → n ≤ slots + 13 → W p l e room_1 s m #[Value.ref b] below meth c H2 locs2 k n Q (F0 m 928 ls2 [])) : W p l e room_1 s m #[Value.ref b] below meth c H locs cells slots Q (F0 m 505 ls []) := by
  have hx := hC.1
  have hb := hC.2.1
  have hop := fun (p0 : Int32) (p1 : Int32) => op_letter l N0 D cy H.size hls hLI hJ p0 p1
  refine lv_aload_n hx hb dL_law_505 rfl (lv_at hl 1 rfl) ?_
  refine lv_aload_n hx hb dL_law_506 rfl (lv_at hl 0 rfl) ?_
  refine lv_iload hx hb dL_law_507 (lv_at hl 4 rfl) ?_
  refine lv_iconst (v := 1) hx hb dL_law_509 (by decide) ?_
  refine lv_iadd hx hb dL_law_510 ?_
  refine va_sld hx hb hX hbl hbA hS (sc1 hi hL) dL_law_511 ?_
  refine lv_aload_n hx hb dL_law_512 rfl (lv_at hl 0 rfl) ?_
  refine lv_iload hx hb dL_law_513 (lv_at hl 4 rfl) ?_
  refine lv_iconst (v := 2) hx hb dL_law_515 (by decide) ?_
  refine lv_iadd hx hb dL_law_516 ?_
  refine va_sld hx hb hX hbl hbA hS (sc2 hi hL) dL_law_517 ?_
  refine lv_aload_n hx hb dL_law_518 rfl (lv_at hl 3 rfl) ?_
  refine g_callW (As := [.ref x, .int _, .int _, .ref (x + 249)]) (rest := []) hC hU hZ hP hS hl.1 (Classical.choose_spec (hop _ _)).1 mL_L_109 sT_L_letter iN_L cW_L_letter ⟨by decide, by decide, rfl⟩ ⟨by decide, by decide⟩ ⟨by show cells + 1 ≤ 601024; omega, by show slots + 6 ≤ 7293034; omega⟩ rfl (Nat.le_of_ble_eq_true rfl) dL_law_519 (fun v S1 H locs hw hP hz hS => ?_)
  obtain ⟨c9, PM, rfl, hmo, hM2, hM3⟩ := (Classical.choose_spec (hop _ _)).2 _ _ _ hw
  refine lv_istore (lv' := [(5, .int _), (0, .ref _), (1, .ref _), (2, .ref _), (3, .ref _), (4, .int _)]) hx hb dL_law_522 hl (by decide) rfl (fun ls hl => ?_)
  refine lv_aload_n hx hb dL_law_524 rfl (lv_at hl 3 rfl) ?_
  refine lv_aload_n hx hb dL_law_525 rfl (lv_at hl 1 rfl) ?_
  refine lv_iload hx hb dL_law_526 (lv_at hl 5 rfl) ?_
  refine lv_iconst (v := 1) hx hb dL_law_528 (by decide) ?_
  refine lv_iadd hx hb dL_law_529 ?_
  refine va_sld hx hb hX hbl hbA hS (sc1 hi hL) dL_law_530 ?_
  refine lv_aload_n hx hb dL_law_531 rfl (lv_at hl 1 rfl) ?_
  refine lv_iload hx hb dL_law_532 (lv_at hl 5 rfl) ?_
  refine lv_iconst (v := 2) hx hb dL_law_534 (by decide) ?_
  refine lv_iadd hx hb dL_law_535 ?_
  refine va_sld hx hb hX hbl hbA hS (sc2 hi hL) dL_law_536 ?_
  refine g_callV (As := [.int _, .int _]) (rest := []) hC hU hP hS hl.1 hM2 mL_L_112 iM_X7_letter sL_X7_letter iN_X7 cD_X7_letter ⟨by decide, by decide, rfl⟩ ⟨by decide, by decide⟩ ⟨by show cells + 1 + 0 ≤ 601024; omega, by show slots + 6 + 0 ≤ 7293034; omega⟩ (ci := 7) rfl (by decide) hmo.1 rfl (Nat.le_of_ble_eq_true rfl) dL_law_537 (fun v S2 H locs hw2 hP hz hS => ?_)
  obtain ⟨r2, rfl, hmo2, hLI2, hthr, hk10, hn1, hans⟩ := hM3 _ _ _ hw2
  refine lv_istore (lv' := [(6, .int _), (5, .int _), (0, .ref _), (1, .ref _), (2, .ref _), (3, .ref _), (4, .int _)]) hx hb dL_law_540 hl (by decide) rfl (fun ls hl => ?_)
  refine lv_aload_n hx hb dL_law_542 rfl (lv_at hl 4 rfl) ?_
  refine g_callV (As := []) (rest := []) hC hU hP hS hl.1 (c_X7_thrown l N0 D cy _ _ (x + 214) hmo2) mL_L_77 iM_X7_thrown sL_X7_thrown iN_X7 cD_X7_thrown ⟨by decide, by decide, rfl⟩ ⟨by decide, by decide⟩ ⟨by show cells + 1 + 0 + 0 ≤ 601024; omega, by show slots + 6 + 0 + 0 ≤ 7293034; omega⟩ (ci := 7) rfl (by decide) hmo2.1 rfl (Nat.le_of_ble_eq_true rfl) dL_law_543 (fun v S3 H locs hw3 hP3 hz hS3 => ?_)
  obtain ⟨rfl, rfl, hz9⟩ := hw3
  have hP := hP3
  have hS := hS3
  rw [hthr]
  refine lv_iload hx hb dL_law_546 (lv_at hl 1 rfl) ?_
  refine lv_icmp_eq (tgt := 553) hx hb dL_law_548 (by decide) (fun c_548 => ?_) (fun c_548 => ?_)
  · refine lv_iload hx hb dL_law_553 (lv_at hl 1 rfl) ?_
    refine lv_if_ne (tgt := 570) hx hb dL_law_555 (by decide) (fun c_555 => ?_) (fun c_555 => ?_)
    · refine lv_goto (tgt := 928) hx hb dL_law_570 (by decide) ?_
      exact kk _ _ _ _ _ _ hLI2 hP hS (lv_sub hl [2, 3, 4, 5, 6] rfl) (by show cells + 1 + 0 + 0 ≤ cells + 3; omega) (by show slots + 6 + 0 + 0 ≤ slots + 13; omega)
    · refine lv_aload_n hx hb dL_law_558 rfl (lv_at hl 5 rfl) ?_
      refine lv_iconst (v := 0) hx hb dL_law_559 (by decide) ?_
      refine g_lald hC hP hk10 (show vp_in (0 : Int32) (gn _ (x + 249)) by rw [hn1]; show vp_in (nI 0) 1; exact vp_in_nI (by decide) (by decide)) dL_law_560 ?_
      rw [show gJ _ (x + 249) (0 : Int32).toNatClampNeg = _ from hans (by first | exact c_555 | exact Classical.byContradiction fun q => absurd q (by assumption))]
      refine lv_iload hx hb dL_law_561 (lv_at hl 0 rfl) ?_
      refine lv_i2l hx hb dL_law_563 rfl ?_
      refine W.lcmp hx hb dL_law_564 ?_
      refine lv_if_eq (tgt := 570) hx hb dL_law_565 (by decide) (fun c_565 => ?_) (fun c_565 => ?_)
      · replace c_565 := lc_eq.mp c_565
        refine lv_goto (tgt := 928) hx hb dL_law_570 (by decide) ?_
        exact kk _ _ _ _ _ _ hLI2 hP hS (lv_sub hl [2, 3, 4, 5, 6] rfl) (by show cells + 1 + 0 + 0 ≤ cells + 3; omega) (by show slots + 6 + 0 + 0 ≤ slots + 13; omega)
      · replace c_565 := fun h => c_565 (lc_eq.mpr h)
        exact absurd rfl c_565
  · exact absurd rfl c_548
set_option maxRecDepth 100000 in
set_option maxHeartbeats 4000000 in
theorem lw_issuer {p : Program} {l : Launch} {e : Env} {s : State} {m : MethodId} {below : List Frame} {meth : Method} {c : Code} {Q : State → Prop} {N0 : Nat} {D : va_G} {cy : Nat → ClassId} {S : gS} {H : Heap} {locs : List Loc} {ls : Array Slot} {cells slots x J i b L : Nat} {xs : Nat → Int32} (hls : l.stackTraces = false) (hC : gC N0 D cy p s m #[Value.ref b] c cL_law 8 RL) (hU : gU D cy s) (hZ : gZL N0 s) (hX : va_X b L xs s s.heap) (hbl : b < s.heap.size) (hbA : ¬ N0 ≤ b) (hJ : J + 1 ≤ 512) (hi : i + 4 ≤ L) (hL : L ≤ 2048) (hLI : LI x J S) (hP : gP N0 D cy S H) (hS : va_S (fun q => N0 ≤ q) s.heap H locs) (hl : lv_has ls 8 [(0, .ref b), (1, .ref x), (2, .ref (x + 214)), (3, .ref (x + 249)), (4, .int (nI i))]) (hc1 : cells + 3 ≤ 601024) (hc2 : slots + 13 ≤ 7293034)
    (kk : ∀ (S2 : gS) (H2 : Heap) (locs2 : List Loc) (ls2 : Array Slot) (k n : Nat), LI x (J + 1) S2 → gP N0 D cy S2 H2 → va_S (fun q => N0 ≤ q) s.heap H2 locs2 → lv_has ls2 8 [(0, .ref b), (1, .ref x), (2, .ref (x + 214)), (3, .ref (x + 249)), (4, .int (nI i))] → k ≤ cells + 3 → n ≤ slots + 13 → W p l e room_1 s m #[Value.ref b] below meth c H2 locs2 k n Q (F0 m 928 ls2 [])) : W p l e room_1 s m #[Value.ref b] below meth c H locs cells slots Q (F0 m 573 ls []) := by
  have hx := hC.1
  have hb := hC.2.1
  have hop := fun (p0 : Int32) (p1 : Int32) => op_issuer l N0 D cy H.size hls hLI hJ p0 p1
  refine lv_aload_n hx hb dL_law_573 rfl (lv_at hl 1 rfl) ?_
  refine lv_aload_n hx hb dL_law_574 rfl (lv_at hl 0 rfl) ?_
  refine lv_iload hx hb dL_law_575 (lv_at hl 4 rfl) ?_
  refine lv_iconst (v := 1) hx hb dL_law_577 (by decide) ?_
  refine lv_iadd hx hb dL_law_578 ?_
  refine va_sld hx hb hX hbl hbA hS (sc1 hi hL) dL_law_579 ?_
  refine lv_aload_n hx hb dL_law_580 rfl (lv_at hl 0 rfl) ?_
  refine lv_iload hx hb dL_law_581 (lv_at hl 4 rfl) ?_
  refine lv_iconst (v := 2) hx hb dL_law_583 (by decide) ?_
  refine lv_iadd hx hb dL_law_584 ?_
  refine va_sld hx hb hX hbl hbA hS (sc2 hi hL) dL_law_585 ?_
  refine lv_aload_n hx hb dL_law_586 rfl (lv_at hl 3 rfl) ?_
  refine g_callW (As := [.ref x, .int _, .int _, .ref (x + 249)]) (rest := []) hC hU hZ hP hS hl.1 (Classical.choose_spec (hop _ _)).1 mL_L_113 sT_L_issuer iN_L cW_L_issuer ⟨by decide, by decide, rfl⟩ ⟨by decide, by decide⟩ ⟨by show cells + 1 ≤ 601024; omega, by show slots + 6 ≤ 7293034; omega⟩ rfl (Nat.le_of_ble_eq_true rfl) dL_law_587 (fun v S1 H locs hw hP hz hS => ?_)
  obtain ⟨c9, PM, rfl, hmo, hM2, hM3⟩ := (Classical.choose_spec (hop _ _)).2 _ _ _ hw
  refine lv_istore (lv' := [(5, .int _), (0, .ref _), (1, .ref _), (2, .ref _), (3, .ref _), (4, .int _)]) hx hb dL_law_590 hl (by decide) rfl (fun ls hl => ?_)
  refine lv_aload_n hx hb dL_law_592 rfl (lv_at hl 3 rfl) ?_
  refine lv_aload_n hx hb dL_law_593 rfl (lv_at hl 1 rfl) ?_
  refine lv_iload hx hb dL_law_594 (lv_at hl 5 rfl) ?_
  refine lv_iconst (v := 1) hx hb dL_law_596 (by decide) ?_
  refine lv_iadd hx hb dL_law_597 ?_
  refine va_sld hx hb hX hbl hbA hS (sc1 hi hL) dL_law_598 ?_
  refine lv_aload_n hx hb dL_law_599 rfl (lv_at hl 1 rfl) ?_
  refine lv_iload hx hb dL_law_600 (lv_at hl 5 rfl) ?_
  refine lv_iconst (v := 2) hx hb dL_law_602 (by decide) ?_
  refine lv_iadd hx hb dL_law_603 ?_
  refine va_sld hx hb hX hbl hbA hS (sc2 hi hL) dL_law_604 ?_
  refine g_callV (As := [.int _, .int _]) (rest := []) hC hU hP hS hl.1 hM2 mL_L_115 iM_X7_issuer sL_X7_issuer iN_X7 cD_X7_issuer ⟨by decide, by decide, rfl⟩ ⟨by decide, by decide⟩ ⟨by show cells + 1 + 0 ≤ 601024; omega, by show slots + 6 + 0 ≤ 7293034; omega⟩ (ci := 7) rfl (by decide) hmo.1 rfl (Nat.le_of_ble_eq_true rfl) dL_law_605 (fun v S2 H locs hw2 hP hz hS => ?_)
  obtain ⟨r2, rfl, hmo2, hLI2, hthr, hk10, hn1, hans⟩ := hM3 _ _ _ hw2
  refine lv_lstore (lv' := [(6, .long _), (5, .int _), (0, .ref _), (1, .ref _), (2, .ref _), (3, .ref _), (4, .int _)]) hx hb dL_law_608 hl (by decide) rfl (fun ls hl => ?_)
  refine lv_aload_n hx hb dL_law_610 rfl (lv_at hl 4 rfl) ?_
  refine g_callV (As := []) (rest := []) hC hU hP hS hl.1 (c_X7_thrown l N0 D cy _ _ (x + 214) hmo2) mL_L_77 iM_X7_thrown sL_X7_thrown iN_X7 cD_X7_thrown ⟨by decide, by decide, rfl⟩ ⟨by decide, by decide⟩ ⟨by show cells + 1 + 0 + 0 ≤ 601024; omega, by show slots + 6 + 0 + 0 ≤ 7293034; omega⟩ (ci := 7) rfl (by decide) hmo2.1 rfl (Nat.le_of_ble_eq_true rfl) dL_law_611 (fun v S3 H locs hw3 hP3 hz hS3 => ?_)
  obtain ⟨rfl, rfl, hz9⟩ := hw3
  have hP := hP3
  have hS := hS3
  rw [hthr]
  refine lv_iload hx hb dL_law_614 (lv_at hl 1 rfl) ?_
  refine lv_icmp_eq (tgt := 621) hx hb dL_law_616 (by decide) (fun c_616 => ?_) (fun c_616 => ?_)
  · refine lv_iload hx hb dL_law_621 (lv_at hl 1 rfl) ?_
    refine lv_if_ne (tgt := 637) hx hb dL_law_623 (by decide) (fun c_623 => ?_) (fun c_623 => ?_)
    · refine lv_goto (tgt := 928) hx hb dL_law_637 (by decide) ?_
      exact kk _ _ _ _ _ _ hLI2 hP hS (lv_sub hl [2, 3, 4, 5, 6] rfl) (by show cells + 1 + 0 + 0 ≤ cells + 3; omega) (by show slots + 6 + 0 + 0 ≤ slots + 13; omega)
    · refine lv_aload_n hx hb dL_law_626 rfl (lv_at hl 5 rfl) ?_
      refine lv_iconst (v := 0) hx hb dL_law_627 (by decide) ?_
      refine g_lald hC hP hk10 (show vp_in (0 : Int32) (gn _ (x + 249)) by rw [hn1]; show vp_in (nI 0) 1; exact vp_in_nI (by decide) (by decide)) dL_law_628 ?_
      rw [show gJ _ (x + 249) (0 : Int32).toNatClampNeg = _ from hans (by first | exact c_623 | exact Classical.byContradiction fun q => absurd q (by assumption))]
      refine lv_lload hx hb dL_law_629 (lv_at hl 0 rfl) ?_
      refine W.lcmp hx hb dL_law_631 ?_
      refine lv_if_eq (tgt := 637) hx hb dL_law_632 (by decide) (fun c_632 => ?_) (fun c_632 => ?_)
      · replace c_632 := lc_eq.mp c_632
        refine lv_goto (tgt := 928) hx hb dL_law_637 (by decide) ?_
        exact kk _ _ _ _ _ _ hLI2 hP hS (lv_sub hl [2, 3, 4, 5, 6] rfl) (by show cells + 1 + 0 + 0 ≤ cells + 3; omega) (by show slots + 6 + 0 + 0 ≤ slots + 13; omega)
      · replace c_632 := fun h => c_632 (lc_eq.mpr h)
        exact absurd rfl c_632
  · exact absurd rfl c_616
set_option maxRecDepth 100000 in
set_option maxHeartbeats 4000000 in
theorem lw_next {p : Program} {l : Launch} {e : Env} {s : State} {m : MethodId} {below : List Frame} {meth : Method} {c : Code} {Q : State → Prop} {N0 : Nat} {D : va_G} {cy : Nat → ClassId} {S : gS} {H : Heap} {locs : List Loc} {ls : Array Slot} {cells slots x J i b L : Nat} {xs : Nat → Int32} (hls : l.stackTraces = false) (hC : gC N0 D cy p s m #[Value.ref b] c cL_law 8 RL) (hU : gU D cy s) (hZ : gZL N0 s) (hX : va_X b L xs s s.heap) (hbl : b < s.heap.size) (hbA : ¬ N0 ≤ b) (hJ : J + 1 ≤ 512) (hi : i + 4 ≤ L) (hL : L ≤ 2048) (hLI : LI x J S) (hP : gP N0 D cy S H) (hS : va_S (fun q => N0 ≤ q) s.heap H locs) (hl : lv_has ls 8 [(0, .ref b), (1, .ref x), (2, .ref (x + 214)), (3, .ref (x + 249)), (4, .int (nI i))]) (hc1 : cells + 3 ≤ 601024) (hc2 : slots + 13 ≤ 7293034)
    (kk : ∀ (S2 : gS) (H2 : Heap) (locs2 : List Loc) (ls2 : Array Slot) (k n : Nat), LI x (J + 1) S2 → gP N0 D cy S2 H2 → va_S (fun q => N0 ≤ q) s.heap H2 locs2 → lv_has ls2 8 [(0, .ref b), (1, .ref x), (2, .ref (x + 214)), (3, .ref (x + 249)), (4, .int (nI i))] → k ≤ cells + 3 → n ≤ slots + 13 → W p l e room_1 s m #[Value.ref b] below meth c H2 locs2 k n Q (F0 m 928 ls2 [])) : W p l e room_1 s m #[Value.ref b] below meth c H locs cells slots Q (F0 m 640 ls []) := by
  have hx := hC.1
  have hb := hC.2.1
  have hop := fun (p0 : Int32) => op_next l N0 D cy H.size hls hLI hJ p0
  refine lv_aload_n hx hb dL_law_640 rfl (lv_at hl 1 rfl) ?_
  refine lv_aload_n hx hb dL_law_641 rfl (lv_at hl 0 rfl) ?_
  refine lv_iload hx hb dL_law_642 (lv_at hl 4 rfl) ?_
  refine lv_iconst (v := 1) hx hb dL_law_644 (by decide) ?_
  refine lv_iadd hx hb dL_law_645 ?_
  refine va_sld hx hb hX hbl hbA hS (sc1 hi hL) dL_law_646 ?_
  refine lv_aload_n hx hb dL_law_647 rfl (lv_at hl 3 rfl) ?_
  refine g_callW (As := [.ref x, .int _, .ref (x + 249)]) (rest := []) hC hU hZ hP hS hl.1 (Classical.choose_spec (hop _)).1 mL_L_116 sT_L_next iN_L cW_L_next ⟨by decide, by decide, rfl⟩ ⟨by decide, by decide⟩ ⟨by show cells + 1 ≤ 601024; omega, by show slots + 6 ≤ 7293034; omega⟩ rfl (Nat.le_of_ble_eq_true rfl) dL_law_648 (fun v S1 H locs hw hP hz hS => ?_)
  obtain ⟨c9, PM, rfl, hmo, hM2, hM3⟩ := (Classical.choose_spec (hop _)).2 _ _ _ hw
  refine lv_istore (lv' := [(5, .int _), (0, .ref _), (1, .ref _), (2, .ref _), (3, .ref _), (4, .int _)]) hx hb dL_law_651 hl (by decide) rfl (fun ls hl => ?_)
  refine lv_aload_n hx hb dL_law_653 rfl (lv_at hl 3 rfl) ?_
  refine lv_aload_n hx hb dL_law_654 rfl (lv_at hl 1 rfl) ?_
  refine lv_iload hx hb dL_law_655 (lv_at hl 5 rfl) ?_
  refine lv_iconst (v := 1) hx hb dL_law_657 (by decide) ?_
  refine lv_iadd hx hb dL_law_658 ?_
  refine va_sld hx hb hX hbl hbA hS (sc1 hi hL) dL_law_659 ?_
  refine g_callV (As := [.int _]) (rest := []) hC hU hP hS hl.1 hM2 mL_L_118 iM_X7_next sL_X7_next iN_X7 cD_X7_next ⟨by decide, by decide, rfl⟩ ⟨by decide, by decide⟩ ⟨by show cells + 1 + 0 ≤ 601024; omega, by show slots + 6 + 0 ≤ 7293034; omega⟩ (ci := 7) rfl (by decide) hmo.1 rfl (Nat.le_of_ble_eq_true rfl) dL_law_660 (fun v S2 H locs hw2 hP hz hS => ?_)
  obtain ⟨r2, rfl, hmo2, hLI2, hthr, hk10, hn1, hans⟩ := hM3 _ _ _ hw2
  refine lv_lstore (lv' := [(6, .long _), (5, .int _), (0, .ref _), (1, .ref _), (2, .ref _), (3, .ref _), (4, .int _)]) hx hb dL_law_663 hl (by decide) rfl (fun ls hl => ?_)
  refine lv_aload_n hx hb dL_law_665 rfl (lv_at hl 4 rfl) ?_
  refine g_callV (As := []) (rest := []) hC hU hP hS hl.1 (c_X7_thrown l N0 D cy _ _ (x + 214) hmo2) mL_L_77 iM_X7_thrown sL_X7_thrown iN_X7 cD_X7_thrown ⟨by decide, by decide, rfl⟩ ⟨by decide, by decide⟩ ⟨by show cells + 1 + 0 + 0 ≤ 601024; omega, by show slots + 6 + 0 + 0 ≤ 7293034; omega⟩ (ci := 7) rfl (by decide) hmo2.1 rfl (Nat.le_of_ble_eq_true rfl) dL_law_666 (fun v S3 H locs hw3 hP3 hz hS3 => ?_)
  obtain ⟨rfl, rfl, hz9⟩ := hw3
  have hP := hP3
  have hS := hS3
  rw [hthr]
  refine lv_iload hx hb dL_law_669 (lv_at hl 1 rfl) ?_
  refine lv_icmp_eq (tgt := 676) hx hb dL_law_671 (by decide) (fun c_671 => ?_) (fun c_671 => ?_)
  · refine lv_iload hx hb dL_law_676 (lv_at hl 1 rfl) ?_
    refine lv_if_ne (tgt := 692) hx hb dL_law_678 (by decide) (fun c_678 => ?_) (fun c_678 => ?_)
    · refine lv_goto (tgt := 928) hx hb dL_law_692 (by decide) ?_
      exact kk _ _ _ _ _ _ hLI2 hP hS (lv_sub hl [2, 3, 4, 5, 6] rfl) (by show cells + 1 + 0 + 0 ≤ cells + 3; omega) (by show slots + 6 + 0 + 0 ≤ slots + 13; omega)
    · refine lv_aload_n hx hb dL_law_681 rfl (lv_at hl 5 rfl) ?_
      refine lv_iconst (v := 0) hx hb dL_law_682 (by decide) ?_
      refine g_lald hC hP hk10 (show vp_in (0 : Int32) (gn _ (x + 249)) by rw [hn1]; show vp_in (nI 0) 1; exact vp_in_nI (by decide) (by decide)) dL_law_683 ?_
      rw [show gJ _ (x + 249) (0 : Int32).toNatClampNeg = _ from hans (by first | exact c_678 | exact Classical.byContradiction fun q => absurd q (by assumption))]
      refine lv_lload hx hb dL_law_684 (lv_at hl 0 rfl) ?_
      refine W.lcmp hx hb dL_law_686 ?_
      refine lv_if_eq (tgt := 692) hx hb dL_law_687 (by decide) (fun c_687 => ?_) (fun c_687 => ?_)
      · replace c_687 := lc_eq.mp c_687
        refine lv_goto (tgt := 928) hx hb dL_law_692 (by decide) ?_
        exact kk _ _ _ _ _ _ hLI2 hP hS (lv_sub hl [2, 3, 4, 5, 6] rfl) (by show cells + 1 + 0 + 0 ≤ cells + 3; omega) (by show slots + 6 + 0 + 0 ≤ slots + 13; omega)
      · replace c_687 := fun h => c_687 (lc_eq.mpr h)
        exact absurd rfl c_687
  · exact absurd rfl c_671
set_option maxRecDepth 100000 in
set_option maxHeartbeats 4000000 in
theorem lw_batch {p : Program} {l : Launch} {e : Env} {s : State} {m : MethodId} {below : List Frame} {meth : Method} {c : Code} {Q : State → Prop} {N0 : Nat} {D : va_G} {cy : Nat → ClassId} {S : gS} {H : Heap} {locs : List Loc} {ls : Array Slot} {cells slots x J i b L : Nat} {xs : Nat → Int32} (hls : l.stackTraces = false) (hC : gC N0 D cy p s m #[Value.ref b] c cL_law 8 RL) (hU : gU D cy s) (hZ : gZL N0 s) (hX : va_X b L xs s s.heap) (hbl : b < s.heap.size) (hbA : ¬ N0 ≤ b) (hJ : J + 1 ≤ 512) (hi : i + 4 ≤ L) (hL : L ≤ 2048) (hLI : LI x J S) (hP : gP N0 D cy S H) (hS : va_S (fun q => N0 ≤ q) s.heap H locs) (hl : lv_has ls 8 [(0, .ref b), (1, .ref x), (2, .ref (x + 214)), (3, .ref (x + 249)), (4, .int (nI i))]) (hc1 : cells + 3 ≤ 601024) (hc2 : slots + 13 ≤ 7293034)
    (kk : ∀ (S2 : gS) (H2 : Heap) (locs2 : List Loc) (ls2 : Array Slot) (k n : Nat), LI x (J + 1) S2 → gP N0 D cy S2 H2 → va_S (fun q => N0 ≤ q) s.heap H2 locs2 → lv_has ls2 8 [(0, .ref b), (1, .ref x), (2, .ref (x + 214)), (3, .ref (x + 249)), (4, .int (nI i))] → k ≤ cells + 3 → n ≤ slots + 13 → W p l e room_1 s m #[Value.ref b] below meth c H2 locs2 k n Q (F0 m 928 ls2 [])) : W p l e room_1 s m #[Value.ref b] below meth c H locs cells slots Q (F0 m 695 ls []) := by
  have hx := hC.1
  have hb := hC.2.1
  have hop := fun (p0 : Int32) (p1 : Int32) => op_batch l N0 D cy H.size hls hLI hJ p0 p1
  refine lv_aload_n hx hb dL_law_695 rfl (lv_at hl 1 rfl) ?_
  refine lv_aload_n hx hb dL_law_696 rfl (lv_at hl 0 rfl) ?_
  refine lv_iload hx hb dL_law_697 (lv_at hl 4 rfl) ?_
  refine lv_iconst (v := 1) hx hb dL_law_699 (by decide) ?_
  refine lv_iadd hx hb dL_law_700 ?_
  refine va_sld hx hb hX hbl hbA hS (sc1 hi hL) dL_law_701 ?_
  refine lv_aload_n hx hb dL_law_702 rfl (lv_at hl 0 rfl) ?_
  refine lv_iload hx hb dL_law_703 (lv_at hl 4 rfl) ?_
  refine lv_iconst (v := 2) hx hb dL_law_705 (by decide) ?_
  refine lv_iadd hx hb dL_law_706 ?_
  refine va_sld hx hb hX hbl hbA hS (sc2 hi hL) dL_law_707 ?_
  refine lv_aload_n hx hb dL_law_708 rfl (lv_at hl 3 rfl) ?_
  refine g_callW (As := [.ref x, .int _, .int _, .ref (x + 249)]) (rest := []) hC hU hZ hP hS hl.1 (Classical.choose_spec (hop _ _)).1 mL_L_119 sT_L_batch iN_L cW_L_batch ⟨by decide, by decide, rfl⟩ ⟨by decide, by decide⟩ ⟨by show cells + 1 ≤ 601024; omega, by show slots + 6 ≤ 7293034; omega⟩ rfl (Nat.le_of_ble_eq_true rfl) dL_law_709 (fun v S1 H locs hw hP hz hS => ?_)
  obtain ⟨c9, PM, rfl, hmo, hM2, hM3⟩ := (Classical.choose_spec (hop _ _)).2 _ _ _ hw
  refine lv_istore (lv' := [(5, .int _), (0, .ref _), (1, .ref _), (2, .ref _), (3, .ref _), (4, .int _)]) hx hb dL_law_712 hl (by decide) rfl (fun ls hl => ?_)
  refine lv_aload_n hx hb dL_law_714 rfl (lv_at hl 3 rfl) ?_
  refine lv_aload_n hx hb dL_law_715 rfl (lv_at hl 1 rfl) ?_
  refine lv_iload hx hb dL_law_716 (lv_at hl 5 rfl) ?_
  refine lv_iconst (v := 1) hx hb dL_law_718 (by decide) ?_
  refine lv_iadd hx hb dL_law_719 ?_
  refine va_sld hx hb hX hbl hbA hS (sc1 hi hL) dL_law_720 ?_
  refine lv_aload_n hx hb dL_law_721 rfl (lv_at hl 1 rfl) ?_
  refine lv_iload hx hb dL_law_722 (lv_at hl 5 rfl) ?_
  refine lv_iconst (v := 2) hx hb dL_law_724 (by decide) ?_
  refine lv_iadd hx hb dL_law_725 ?_
  refine va_sld hx hb hX hbl hbA hS (sc2 hi hL) dL_law_726 ?_
  refine g_callV (As := [.int _, .int _]) (rest := []) hC hU hP hS hl.1 hM2 mL_L_121 iM_X7_batch sL_X7_batch iN_X7 cD_X7_batch ⟨by decide, by decide, rfl⟩ ⟨by decide, by decide⟩ ⟨by show cells + 1 + 0 ≤ 601024; omega, by show slots + 6 + 0 ≤ 7293034; omega⟩ (ci := 7) rfl (by decide) hmo.1 rfl (Nat.le_of_ble_eq_true rfl) dL_law_727 (fun v S2 H locs hw2 hP hz hS => ?_)
  obtain ⟨r2, rfl, hmo2, hLI2, hthr, hk10, hn1, hans⟩ := hM3 _ _ _ hw2
  refine lv_lstore (lv' := [(6, .long _), (5, .int _), (0, .ref _), (1, .ref _), (2, .ref _), (3, .ref _), (4, .int _)]) hx hb dL_law_730 hl (by decide) rfl (fun ls hl => ?_)
  refine lv_aload_n hx hb dL_law_732 rfl (lv_at hl 4 rfl) ?_
  refine g_callV (As := []) (rest := []) hC hU hP hS hl.1 (c_X7_thrown l N0 D cy _ _ (x + 214) hmo2) mL_L_77 iM_X7_thrown sL_X7_thrown iN_X7 cD_X7_thrown ⟨by decide, by decide, rfl⟩ ⟨by decide, by decide⟩ ⟨by show cells + 1 + 0 + 0 ≤ 601024; omega, by show slots + 6 + 0 + 0 ≤ 7293034; omega⟩ (ci := 7) rfl (by decide) hmo2.1 rfl (Nat.le_of_ble_eq_true rfl) dL_law_733 (fun v S3 H locs hw3 hP3 hz hS3 => ?_)
  obtain ⟨rfl, rfl, hz9⟩ := hw3
  have hP := hP3
  have hS := hS3
  rw [hthr]
  refine lv_iload hx hb dL_law_736 (lv_at hl 1 rfl) ?_
  refine lv_icmp_eq (tgt := 743) hx hb dL_law_738 (by decide) (fun c_738 => ?_) (fun c_738 => ?_)
  · refine lv_iload hx hb dL_law_743 (lv_at hl 1 rfl) ?_
    refine lv_if_ne (tgt := 759) hx hb dL_law_745 (by decide) (fun c_745 => ?_) (fun c_745 => ?_)
    · refine lv_goto (tgt := 928) hx hb dL_law_759 (by decide) ?_
      exact kk _ _ _ _ _ _ hLI2 hP hS (lv_sub hl [2, 3, 4, 5, 6] rfl) (by show cells + 1 + 0 + 0 ≤ cells + 3; omega) (by show slots + 6 + 0 + 0 ≤ slots + 13; omega)
    · refine lv_aload_n hx hb dL_law_748 rfl (lv_at hl 5 rfl) ?_
      refine lv_iconst (v := 0) hx hb dL_law_749 (by decide) ?_
      refine g_lald hC hP hk10 (show vp_in (0 : Int32) (gn _ (x + 249)) by rw [hn1]; show vp_in (nI 0) 1; exact vp_in_nI (by decide) (by decide)) dL_law_750 ?_
      rw [show gJ _ (x + 249) (0 : Int32).toNatClampNeg = _ from hans (by first | exact c_745 | exact Classical.byContradiction fun q => absurd q (by assumption))]
      refine lv_lload hx hb dL_law_751 (lv_at hl 0 rfl) ?_
      refine W.lcmp hx hb dL_law_753 ?_
      refine lv_if_eq (tgt := 759) hx hb dL_law_754 (by decide) (fun c_754 => ?_) (fun c_754 => ?_)
      · replace c_754 := lc_eq.mp c_754
        refine lv_goto (tgt := 928) hx hb dL_law_759 (by decide) ?_
        exact kk _ _ _ _ _ _ hLI2 hP hS (lv_sub hl [2, 3, 4, 5, 6] rfl) (by show cells + 1 + 0 + 0 ≤ cells + 3; omega) (by show slots + 6 + 0 + 0 ≤ slots + 13; omega)
      · replace c_754 := fun h => c_754 (lc_eq.mpr h)
        exact absurd rfl c_754
  · exact absurd rfl c_738
set_option maxRecDepth 100000 in
set_option maxHeartbeats 4000000 in
theorem lw_seat {p : Program} {l : Launch} {e : Env} {s : State} {m : MethodId} {below : List Frame} {meth : Method} {c : Code} {Q : State → Prop} {N0 : Nat} {D : va_G} {cy : Nat → ClassId} {S : gS} {H : Heap} {locs : List Loc} {ls : Array Slot} {cells slots x J i b L : Nat} {xs : Nat → Int32} (hls : l.stackTraces = false) (hC : gC N0 D cy p s m #[Value.ref b] c cL_law 8 RL) (hU : gU D cy s) (hZ : gZL N0 s) (hX : va_X b L xs s s.heap) (hbl : b < s.heap.size) (hbA : ¬ N0 ≤ b) (hJ : J + 1 ≤ 512) (hi : i + 4 ≤ L) (hL : L ≤ 2048) (hLI : LI x J S) (hP : gP N0 D cy S H) (hS : va_S (fun q => N0 ≤ q) s.heap H locs) (hl : lv_has ls 8 [(0, .ref b), (1, .ref x), (2, .ref (x + 214)), (3, .ref (x + 249)), (4, .int (nI i))]) (hc1 : cells + 3 ≤ 601024) (hc2 : slots + 13 ≤ 7293034)
    (kk : ∀ (S2 : gS) (H2 : Heap) (locs2 : List Loc) (ls2 : Array Slot) (k n : Nat), LI x (J + 1) S2 → gP N0 D cy S2 H2 → va_S (fun q => N0 ≤ q) s.heap H2 locs2 → lv_has ls2 8 [(0, .ref b), (1, .ref x), (2, .ref (x + 214)), (3, .ref (x + 249)), (4, .int (nI i))] → k ≤ cells + 3 → n ≤ slots + 13 → W p l e room_1 s m #[Value.ref b] below meth c H2 locs2 k n Q (F0 m 928 ls2 [])) : W p l e room_1 s m #[Value.ref b] below meth c H locs cells slots Q (F0 m 762 ls []) := by
  have hx := hC.1
  have hb := hC.2.1
  have hop := fun (p0 : Int32) (p1 : Int32) => op_seat l N0 D cy H.size hls hLI hJ p0 p1
  refine lv_aload_n hx hb dL_law_762 rfl (lv_at hl 1 rfl) ?_
  refine lv_aload_n hx hb dL_law_763 rfl (lv_at hl 0 rfl) ?_
  refine lv_iload hx hb dL_law_764 (lv_at hl 4 rfl) ?_
  refine lv_iconst (v := 1) hx hb dL_law_766 (by decide) ?_
  refine lv_iadd hx hb dL_law_767 ?_
  refine va_sld hx hb hX hbl hbA hS (sc1 hi hL) dL_law_768 ?_
  refine lv_aload_n hx hb dL_law_769 rfl (lv_at hl 0 rfl) ?_
  refine lv_iload hx hb dL_law_770 (lv_at hl 4 rfl) ?_
  refine lv_iconst (v := 2) hx hb dL_law_772 (by decide) ?_
  refine lv_iadd hx hb dL_law_773 ?_
  refine va_sld hx hb hX hbl hbA hS (sc2 hi hL) dL_law_774 ?_
  refine lv_aload_n hx hb dL_law_775 rfl (lv_at hl 3 rfl) ?_
  refine g_callW (As := [.ref x, .int _, .int _, .ref (x + 249)]) (rest := []) hC hU hZ hP hS hl.1 (Classical.choose_spec (hop _ _)).1 mL_L_122 sT_L_seat iN_L cW_L_seat ⟨by decide, by decide, rfl⟩ ⟨by decide, by decide⟩ ⟨by show cells + 1 ≤ 601024; omega, by show slots + 6 ≤ 7293034; omega⟩ rfl (Nat.le_of_ble_eq_true rfl) dL_law_776 (fun v S1 H locs hw hP hz hS => ?_)
  obtain ⟨c9, PM, rfl, hmo, hM2, hM3⟩ := (Classical.choose_spec (hop _ _)).2 _ _ _ hw
  refine lv_istore (lv' := [(5, .int _), (0, .ref _), (1, .ref _), (2, .ref _), (3, .ref _), (4, .int _)]) hx hb dL_law_779 hl (by decide) rfl (fun ls hl => ?_)
  refine lv_aload_n hx hb dL_law_781 rfl (lv_at hl 3 rfl) ?_
  refine lv_aload_n hx hb dL_law_782 rfl (lv_at hl 1 rfl) ?_
  refine lv_iload hx hb dL_law_783 (lv_at hl 5 rfl) ?_
  refine lv_iconst (v := 1) hx hb dL_law_785 (by decide) ?_
  refine lv_iadd hx hb dL_law_786 ?_
  refine va_sld hx hb hX hbl hbA hS (sc1 hi hL) dL_law_787 ?_
  refine lv_aload_n hx hb dL_law_788 rfl (lv_at hl 1 rfl) ?_
  refine lv_iload hx hb dL_law_789 (lv_at hl 5 rfl) ?_
  refine lv_iconst (v := 2) hx hb dL_law_791 (by decide) ?_
  refine lv_iadd hx hb dL_law_792 ?_
  refine va_sld hx hb hX hbl hbA hS (sc2 hi hL) dL_law_793 ?_
  refine g_callV (As := [.int _, .int _]) (rest := []) hC hU hP hS hl.1 hM2 mL_L_124 iM_X7_seat sL_X7_seat iN_X7 cD_X7_seat ⟨by decide, by decide, rfl⟩ ⟨by decide, by decide⟩ ⟨by show cells + 1 + 0 ≤ 601024; omega, by show slots + 6 + 0 ≤ 7293034; omega⟩ (ci := 7) rfl (by decide) hmo.1 rfl (Nat.le_of_ble_eq_true rfl) dL_law_794 (fun v S2 H locs hw2 hP hz hS => ?_)
  obtain ⟨r2, rfl, hmo2, hLI2, hthr, hk10, hn1, hans⟩ := hM3 _ _ _ hw2
  refine lv_lstore (lv' := [(6, .long _), (5, .int _), (0, .ref _), (1, .ref _), (2, .ref _), (3, .ref _), (4, .int _)]) hx hb dL_law_797 hl (by decide) rfl (fun ls hl => ?_)
  refine lv_aload_n hx hb dL_law_799 rfl (lv_at hl 4 rfl) ?_
  refine g_callV (As := []) (rest := []) hC hU hP hS hl.1 (c_X7_thrown l N0 D cy _ _ (x + 214) hmo2) mL_L_77 iM_X7_thrown sL_X7_thrown iN_X7 cD_X7_thrown ⟨by decide, by decide, rfl⟩ ⟨by decide, by decide⟩ ⟨by show cells + 1 + 0 + 0 ≤ 601024; omega, by show slots + 6 + 0 + 0 ≤ 7293034; omega⟩ (ci := 7) rfl (by decide) hmo2.1 rfl (Nat.le_of_ble_eq_true rfl) dL_law_800 (fun v S3 H locs hw3 hP3 hz hS3 => ?_)
  obtain ⟨rfl, rfl, hz9⟩ := hw3
  have hP := hP3
  have hS := hS3
  rw [hthr]
  refine lv_iload hx hb dL_law_803 (lv_at hl 1 rfl) ?_
  refine lv_icmp_eq (tgt := 810) hx hb dL_law_805 (by decide) (fun c_805 => ?_) (fun c_805 => ?_)
  · refine lv_iload hx hb dL_law_810 (lv_at hl 1 rfl) ?_
    refine lv_if_ne (tgt := 826) hx hb dL_law_812 (by decide) (fun c_812 => ?_) (fun c_812 => ?_)
    · refine lv_goto (tgt := 928) hx hb dL_law_826 (by decide) ?_
      exact kk _ _ _ _ _ _ hLI2 hP hS (lv_sub hl [2, 3, 4, 5, 6] rfl) (by show cells + 1 + 0 + 0 ≤ cells + 3; omega) (by show slots + 6 + 0 + 0 ≤ slots + 13; omega)
    · refine lv_aload_n hx hb dL_law_815 rfl (lv_at hl 5 rfl) ?_
      refine lv_iconst (v := 0) hx hb dL_law_816 (by decide) ?_
      refine g_lald hC hP hk10 (show vp_in (0 : Int32) (gn _ (x + 249)) by rw [hn1]; show vp_in (nI 0) 1; exact vp_in_nI (by decide) (by decide)) dL_law_817 ?_
      rw [show gJ _ (x + 249) (0 : Int32).toNatClampNeg = _ from hans (by first | exact c_812 | exact Classical.byContradiction fun q => absurd q (by assumption))]
      refine lv_lload hx hb dL_law_818 (lv_at hl 0 rfl) ?_
      refine W.lcmp hx hb dL_law_820 ?_
      refine lv_if_eq (tgt := 826) hx hb dL_law_821 (by decide) (fun c_821 => ?_) (fun c_821 => ?_)
      · replace c_821 := lc_eq.mp c_821
        refine lv_goto (tgt := 928) hx hb dL_law_826 (by decide) ?_
        exact kk _ _ _ _ _ _ hLI2 hP hS (lv_sub hl [2, 3, 4, 5, 6] rfl) (by show cells + 1 + 0 + 0 ≤ cells + 3; omega) (by show slots + 6 + 0 + 0 ≤ slots + 13; omega)
      · replace c_821 := fun h => c_821 (lc_eq.mpr h)
        exact absurd rfl c_821
  · exact absurd rfl c_805
set_option maxRecDepth 100000 in
set_option maxHeartbeats 4000000 in
theorem lw_part {p : Program} {l : Launch} {e : Env} {s : State} {m : MethodId} {below : List Frame} {meth : Method} {c : Code} {Q : State → Prop} {N0 : Nat} {D : va_G} {cy : Nat → ClassId} {S : gS} {H : Heap} {locs : List Loc} {ls : Array Slot} {cells slots x J i b L : Nat} {xs : Nat → Int32} (hls : l.stackTraces = false) (hC : gC N0 D cy p s m #[Value.ref b] c cL_law 8 RL) (hU : gU D cy s) (hZ : gZL N0 s) (hX : va_X b L xs s s.heap) (hbl : b < s.heap.size) (hbA : ¬ N0 ≤ b) (hJ : J + 1 ≤ 512) (hi : i + 4 ≤ L) (hL : L ≤ 2048) (hLI : LI x J S) (hP : gP N0 D cy S H) (hS : va_S (fun q => N0 ≤ q) s.heap H locs) (hl : lv_has ls 8 [(0, .ref b), (1, .ref x), (2, .ref (x + 214)), (3, .ref (x + 249)), (4, .int (nI i))]) (hc1 : cells + 3 ≤ 601024) (hc2 : slots + 13 ≤ 7293034)
    (kk : ∀ (S2 : gS) (H2 : Heap) (locs2 : List Loc) (ls2 : Array Slot) (k n : Nat), LI x (J + 1) S2 → gP N0 D cy S2 H2 → va_S (fun q => N0 ≤ q) s.heap H2 locs2 → lv_has ls2 8 [(0, .ref b), (1, .ref x), (2, .ref (x + 214)), (3, .ref (x + 249)), (4, .int (nI i))] → k ≤ cells + 3 → n ≤ slots + 13 → W p l e room_1 s m #[Value.ref b] below meth c H2 locs2 k n Q (F0 m 928 ls2 [])) : W p l e room_1 s m #[Value.ref b] below meth c H locs cells slots Q (F0 m 829 ls []) := by
  have hx := hC.1
  have hb := hC.2.1
  have hop := fun (p0 : Int64) (p1 : Int32) => op_part l N0 D cy H.size hls hLI hJ p0 p1
  refine lv_aload_n hx hb dL_law_829 rfl (lv_at hl 1 rfl) ?_
  refine lv_aload_n hx hb dL_law_830 rfl (lv_at hl 0 rfl) ?_
  refine lv_iload hx hb dL_law_831 (lv_at hl 4 rfl) ?_
  refine lv_iconst (v := 1) hx hb dL_law_833 (by decide) ?_
  refine lv_iadd hx hb dL_law_834 ?_
  refine va_sld hx hb hX hbl hbA hS (sc1 hi hL) dL_law_835 ?_
  refine lv_i2l hx hb dL_law_836 rfl ?_
  refine lv_bipush (v := 32) hx hb dL_law_837 (by decide) ?_
  refine lv_lshl hx hb dL_law_839 rfl ?_
  refine lv_aload_n hx hb dL_law_840 rfl (lv_at hl 0 rfl) ?_
  refine lv_iload hx hb dL_law_841 (lv_at hl 4 rfl) ?_
  refine lv_iconst (v := 2) hx hb dL_law_843 (by decide) ?_
  refine lv_iadd hx hb dL_law_844 ?_
  refine va_sld hx hb hX hbl hbA hS (sc2 hi hL) dL_law_845 ?_
  refine lv_i2l hx hb dL_law_846 rfl ?_
  refine lv_ldc2 hx hb hC.2.2.2.1 (hC.2.2.2.2.1 _ kJ_L_69) dL_law_847 ?_
  refine lv_land hx hb dL_law_850 ?_
  refine lv_lor hx hb dL_law_851 ?_
  refine lv_aload_n hx hb dL_law_852 rfl (lv_at hl 0 rfl) ?_
  refine lv_iload hx hb dL_law_853 (lv_at hl 4 rfl) ?_
  refine lv_iconst (v := 3) hx hb dL_law_855 (by decide) ?_
  refine lv_iadd hx hb dL_law_856 ?_
  refine va_sld hx hb hX hbl hbA hS (sc3 hi hL) dL_law_857 ?_
  refine lv_aload_n hx hb dL_law_858 rfl (lv_at hl 3 rfl) ?_
  refine g_callW (As := [.ref x, .long _, .int _, .ref (x + 249)]) (rest := []) hC hU hZ hP hS hl.1 (Classical.choose_spec (hop _ _)).1 mL_L_125 sT_L_part iN_L cW_L_part ⟨by decide, by decide, rfl⟩ ⟨by decide, by decide⟩ ⟨by show cells + 1 ≤ 601024; omega, by show slots + 6 ≤ 7293034; omega⟩ rfl (Nat.le_of_ble_eq_true rfl) dL_law_859 (fun v S1 H locs hw hP hz hS => ?_)
  obtain ⟨c9, PM, rfl, hmo, hM2, hM3⟩ := (Classical.choose_spec (hop _ _)).2 _ _ _ hw
  refine lv_istore (lv' := [(5, .int _), (0, .ref _), (1, .ref _), (2, .ref _), (3, .ref _), (4, .int _)]) hx hb dL_law_862 hl (by decide) rfl (fun ls hl => ?_)
  refine lv_aload_n hx hb dL_law_864 rfl (lv_at hl 3 rfl) ?_
  refine lv_aload_n hx hb dL_law_865 rfl (lv_at hl 1 rfl) ?_
  refine lv_iload hx hb dL_law_866 (lv_at hl 5 rfl) ?_
  refine lv_iconst (v := 1) hx hb dL_law_868 (by decide) ?_
  refine lv_iadd hx hb dL_law_869 ?_
  refine va_sld hx hb hX hbl hbA hS (sc1 hi hL) dL_law_870 ?_
  refine lv_i2l hx hb dL_law_871 rfl ?_
  refine lv_bipush (v := 32) hx hb dL_law_872 (by decide) ?_
  refine lv_lshl hx hb dL_law_874 rfl ?_
  refine lv_aload_n hx hb dL_law_875 rfl (lv_at hl 1 rfl) ?_
  refine lv_iload hx hb dL_law_876 (lv_at hl 5 rfl) ?_
  refine lv_iconst (v := 2) hx hb dL_law_878 (by decide) ?_
  refine lv_iadd hx hb dL_law_879 ?_
  refine va_sld hx hb hX hbl hbA hS (sc2 hi hL) dL_law_880 ?_
  refine lv_i2l hx hb dL_law_881 rfl ?_
  refine lv_ldc2 hx hb hC.2.2.2.1 (hC.2.2.2.2.1 _ kJ_L_69) dL_law_882 ?_
  refine lv_land hx hb dL_law_885 ?_
  refine lv_lor hx hb dL_law_886 ?_
  refine lv_aload_n hx hb dL_law_887 rfl (lv_at hl 1 rfl) ?_
  refine lv_iload hx hb dL_law_888 (lv_at hl 5 rfl) ?_
  refine lv_iconst (v := 3) hx hb dL_law_890 (by decide) ?_
  refine lv_iadd hx hb dL_law_891 ?_
  refine va_sld hx hb hX hbl hbA hS (sc3 hi hL) dL_law_892 ?_
  refine g_callV (As := [.long _, .int _]) (rest := []) hC hU hP hS hl.1 hM2 mL_L_128 iM_X7_part sL_X7_part iN_X7 cD_X7_part ⟨by decide, by decide, rfl⟩ ⟨by decide, by decide⟩ ⟨by show cells + 1 + 0 ≤ 601024; omega, by show slots + 6 + 0 ≤ 7293034; omega⟩ (ci := 7) rfl (by decide) hmo.1 rfl (Nat.le_of_ble_eq_true rfl) dL_law_893 (fun v S2 H locs hw2 hP hz hS => ?_)
  obtain ⟨r2, rfl, hmo2, hLI2, hthr, hk10, hn1, hans⟩ := hM3 _ _ _ hw2
  refine lv_lstore (lv' := [(6, .long _), (5, .int _), (0, .ref _), (1, .ref _), (2, .ref _), (3, .ref _), (4, .int _)]) hx hb dL_law_896 hl (by decide) rfl (fun ls hl => ?_)
  refine lv_aload_n hx hb dL_law_898 rfl (lv_at hl 4 rfl) ?_
  refine g_callV (As := []) (rest := []) hC hU hP hS hl.1 (c_X7_thrown l N0 D cy _ _ (x + 214) hmo2) mL_L_77 iM_X7_thrown sL_X7_thrown iN_X7 cD_X7_thrown ⟨by decide, by decide, rfl⟩ ⟨by decide, by decide⟩ ⟨by show cells + 1 + 0 + 0 ≤ 601024; omega, by show slots + 6 + 0 + 0 ≤ 7293034; omega⟩ (ci := 7) rfl (by decide) hmo2.1 rfl (Nat.le_of_ble_eq_true rfl) dL_law_899 (fun v S3 H locs hw3 hP3 hz hS3 => ?_)
  obtain ⟨rfl, rfl, hz9⟩ := hw3
  have hP := hP3
  have hS := hS3
  rw [hthr]
  refine lv_iload hx hb dL_law_902 (lv_at hl 1 rfl) ?_
  refine lv_icmp_eq (tgt := 909) hx hb dL_law_904 (by decide) (fun c_904 => ?_) (fun c_904 => ?_)
  · refine lv_iload hx hb dL_law_909 (lv_at hl 1 rfl) ?_
    refine lv_if_ne (tgt := 925) hx hb dL_law_911 (by decide) (fun c_911 => ?_) (fun c_911 => ?_)
    · refine lv_goto (tgt := 928) hx hb dL_law_925 (by decide) ?_
      exact kk _ _ _ _ _ _ hLI2 hP hS (lv_sub hl [2, 3, 4, 5, 6] rfl) (by show cells + 1 + 0 + 0 ≤ cells + 3; omega) (by show slots + 6 + 0 + 0 ≤ slots + 13; omega)
    · refine lv_aload_n hx hb dL_law_914 rfl (lv_at hl 5 rfl) ?_
      refine lv_iconst (v := 0) hx hb dL_law_915 (by decide) ?_
      refine g_lald hC hP hk10 (show vp_in (0 : Int32) (gn _ (x + 249)) by rw [hn1]; show vp_in (nI 0) 1; exact vp_in_nI (by decide) (by decide)) dL_law_916 ?_
      rw [show gJ _ (x + 249) (0 : Int32).toNatClampNeg = _ from hans (by first | exact c_911 | exact Classical.byContradiction fun q => absurd q (by assumption))]
      refine lv_lload hx hb dL_law_917 (lv_at hl 0 rfl) ?_
      refine W.lcmp hx hb dL_law_919 ?_
      refine lv_if_eq (tgt := 925) hx hb dL_law_920 (by decide) (fun c_920 => ?_) (fun c_920 => ?_)
      · replace c_920 := lc_eq.mp c_920
        refine lv_goto (tgt := 928) hx hb dL_law_925 (by decide) ?_
        exact kk _ _ _ _ _ _ hLI2 hP hS (lv_sub hl [2, 3, 4, 5, 6] rfl) (by show cells + 1 + 0 + 0 ≤ cells + 3; omega) (by show slots + 6 + 0 + 0 ≤ slots + 13; omega)
      · replace c_920 := fun h => c_920 (lc_eq.mpr h)
        exact absurd rfl c_920
  · exact absurd rfl c_904
