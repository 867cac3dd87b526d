def gmT (S : gS) (o i : Nat) : Int64 :=
  let t1 := if gJ S (o + 30) i ≤ gJ S (o + 17) i then gJ S (o + 17) i else gJ S (o + 30) i
  if gJ S (o + 31) i ≤ t1 then t1 else gJ S (o + 31) i
def gmA (S : gS) (o i : Nat) (n : Int32) : Int64 × Int32 :=
  let c := if gJ S (o + 31) i = gmT S o i then gI S (o + 32) i + 1 else 0
  if c + n ≤ 1024 then (gmT S o i, c) else (gmT S o i + 1, 0)
def gmX (S : gS) (o i : Nat) (t : Int64) : Prop := gJ S (o + 30) i + 59999 < t ∨ 5000 < t - gJ S (o + 17) i
def gmN (S : gS) (o i : Nat) (q : Int64 × Int32) : Int64 := q.1 * 8388608 + (gI S (o + 28) i).toInt64 * 1024 + q.2.toInt64
def gmS (S : gS) (o i : Nat) (n : Int32) (q : Int64 × Int32) : gS := sJ (sI (sJ S (o + 31) i q.1) (o + 32) i (q.2 + n - 1)) (o + 34) i (gJ S (o + 34) i + n.toInt64)
def mGive (S : gS) (o i : Nat) (n : Int32) (v : Option Value) (S1 : gS) : Prop :=
  (gI S (o + 27) i = 0 ∧ v = some (.long 0) ∧ S1 = S) ∨ (gI S (o + 27) i ≠ 0 ∧ gmX S o i (gmA S o i n).1 ∧ v = some (.long 0) ∧ S1 = S) ∨ (gI S (o + 27) i ≠ 0 ∧ ¬ gmX S o i (gmA S o i n).1 ∧ v = some (.long (gmN S o i (gmA S o i n))) ∧ S1 = gmS S o i n (gmA S o i n))
set_option maxRecDepth 100000 in
set_option maxHeartbeats 4000000 in
theorem sg_gv2 {p : Program} {l : Launch} {e : Env} {R : Room} {s : State} {m : MethodId} {args : Array Value} {below : List Frame} {meth : Method} {c : Code} {cells slots : Nat} {Q : State → Prop} {N0 : Nat} {D : va_G} {cy : Nat → ClassId} {S : gS} {sz : Nat} (hC : gC N0 D cy p s m args c cX7_give 6 RX7) {o i0 : Nat} {n cv : Int32} {tv : Int64} (hm : mOK S o) (hi0 : i0 < 8)
    (k135 : gmX S o i0 tv → ∀ (H : Heap) (locs : List Loc) (ls : Array Slot), gP N0 D cy S H → H.size = sz → va_S (fun q => N0 ≤ q) s.heap H locs → W p l e R s m args below meth c H locs cells slots Q (F0 m 135 ls [.long 0]))
    (k187 : ¬ gmX S o i0 tv → ∀ (H : Heap) (locs : List Loc) (ls : Array Slot), gP N0 D cy (gmS S o i0 n (tv, cv)) H → H.size = sz → va_S (fun q => N0 ≤ q) s.heap H locs → W p l e R s m args below meth c H locs cells slots Q (F0 m 187 ls [.long (gmN S o i0 (tv, cv))])) :
    ∀ (H : Heap) (locs : List Loc) (ls : Array Slot), gP N0 D cy S H → H.size = sz → va_S (fun q => N0 ≤ q) s.heap H locs → lv_has ls 6 [(5, .int (cv)), (3, .long (tv)), (0, .ref (o)), (1, .int (nI i0)), (2, .int (n))] → W p l e R s m args below meth c H locs cells slots Q (F0 m 104 ls []) := by
  intro H locs ls hP hsz hS hl
  have hx := hC.1
  have hb := hC.2.1
  refine lv_lload_n hx hb dX7_give_104 rfl (lv_at hl 1 rfl) ?_
  refine lv_aload_n hx hb dX7_give_105 rfl (lv_at hl 2 rfl) ?_
  refine gt_X7_99 hC hP (mK (hm)) (mR_32 (hm)) dX7_give_106 ?_
  refine lv_iload_n hx hb dX7_give_109 rfl (lv_at hl 3 rfl) ?_
  refine g_lald hC hP (mA_32 (hm)) (by rw [mN_32 (hm)]; exact vp_in_nI hi0 (by decide)) dX7_give_110 ?_
  rw [nI_clamp (by omega)]
  refine lv_ldc2 hx hb hC.2.2.2.1 (hC.2.2.2.2.1 _ kJ_X7_184) dX7_give_111 ?_
  refine lv_ladd hx hb dX7_give_114 ?_
  refine W.lcmp hx hb dX7_give_115 ?_
  refine lv_if_gt (tgt := 134) hx hb dX7_give_116 (by decide) (fun c_116 => ?_) (fun c_116 => ?_)
  · replace c_116 := lc_gt.mp c_116
    refine lv_lconst (v := 0) hx hb dX7_give_134 rfl ?_
    exact k135 (by first | exact Or.inl c_116 | exact Or.inr (Int64.not_le.mp c_131)) _ _ _ hP hsz hS
  · replace c_116 := fun h => c_116 (lc_gt.mpr h)
    refine lv_lload_n hx hb dX7_give_119 rfl (lv_at hl 1 rfl) ?_
    refine lv_aload_n hx hb dX7_give_120 rfl (lv_at hl 2 rfl) ?_
    refine gt_X7_60 hC hP (mK (hm)) (mR_19 (hm)) dX7_give_121 ?_
    refine lv_iload_n hx hb dX7_give_124 rfl (lv_at hl 3 rfl) ?_
    refine g_lald hC hP (mA_19 (hm)) (by rw [mN_19 (hm)]; exact vp_in_nI hi0 (by decide)) dX7_give_125 ?_
    rw [nI_clamp (by omega)]
    refine lv_lsub hx hb dX7_give_126 ?_
    refine lv_ldc2 hx hb hC.2.2.2.1 (hC.2.2.2.2.1 _ kJ_X7_209) dX7_give_127 ?_
    refine W.lcmp hx hb dX7_give_130 ?_
    refine lv_if_le (tgt := 136) hx hb dX7_give_131 (by decide) (fun c_131 => ?_) (fun c_131 => ?_)
    · replace c_131 := lc_le.mp c_131
      refine lv_aload_n hx hb dX7_give_136 rfl (lv_at hl 2 rfl) ?_
      refine gt_X7_102 hC hP (mK (hm)) (mR_33 (hm)) dX7_give_137 ?_
      refine lv_iload_n hx hb dX7_give_140 rfl (lv_at hl 3 rfl) ?_
      refine lv_lload_n hx hb dX7_give_141 rfl (lv_at hl 1 rfl) ?_
      refine g_last hC hP hS (mA_33 (hm)) (by rw [mN_33 (hm)]; exact vp_in_nI hi0 (by decide)) dX7_give_142 (fun H locs hP hz hS => ?_)
      replace hsz := hz.trans hsz
      rw [nI_clamp (by omega)] at hP
      refine lv_aload_n hx hb dX7_give_143 rfl (lv_at hl 2 rfl) ?_
      refine gt_X7_105 hC hP (mK (mJ (hm))) (mR_34 (mJ (hm))) dX7_give_144 ?_
      refine lv_iload_n hx hb dX7_give_147 rfl (lv_at hl 3 rfl) ?_
      refine lv_iload hx hb dX7_give_148 (lv_at hl 0 rfl) ?_
      refine lv_iload_n hx hb dX7_give_150 rfl (lv_at hl 4 rfl) ?_
      refine lv_iadd hx hb dX7_give_151 ?_
      refine lv_iconst (v := 1) hx hb dX7_give_152 (by decide) ?_
      refine lv_isub hx hb dX7_give_153 ?_
      refine g_iast hC hP hS (mA_34 (mJ (hm))) (by rw [mN_34 (mJ (hm))]; exact vp_in_nI hi0 (by decide)) dX7_give_154 (fun H locs hP hz hS => ?_)
      replace hsz := hz.trans hsz
      rw [nI_clamp (by omega)] at hP
      refine lv_aload_n hx hb dX7_give_155 rfl (lv_at hl 2 rfl) ?_
      refine gt_X7_111 hC hP (mK (mI (mJ (hm)))) (mR_36 (mI (mJ (hm)))) dX7_give_156 ?_
      refine lv_iload_n hx hb dX7_give_159 rfl (lv_at hl 3 rfl) ?_
      refine lv_dup2_11 hx hb dX7_give_160 rfl rfl ?_
      refine g_lald hC hP (mA_36 (mI (mJ (hm)))) (by rw [mN_36 (mI (mJ (hm)))]; exact vp_in_nI hi0 (by decide)) dX7_give_161 ?_
      rw [nI_clamp (by omega), gJ_sI, gJ_a (by omega)]
      refine lv_iload_n hx hb dX7_give_162 rfl (lv_at hl 4 rfl) ?_
      refine lv_i2l hx hb dX7_give_163 rfl ?_
      refine lv_ladd hx hb dX7_give_164 ?_
      refine g_last hC hP hS (mA_36 (mI (mJ (hm)))) (by rw [mN_36 (mI (mJ (hm)))]; exact vp_in_nI hi0 (by decide)) dX7_give_165 (fun H locs hP hz hS => ?_)
      replace hsz := hz.trans hsz
      rw [nI_clamp (by omega)] at hP
      refine lv_lload_n hx hb dX7_give_166 rfl (lv_at hl 1 rfl) ?_
      refine lv_ldc2 hx hb hC.2.2.2.1 (hC.2.2.2.2.1 _ kJ_X7_211) dX7_give_167 ?_
      refine lv_lmul hx hb dX7_give_170 ?_
      refine lv_aload_n hx hb dX7_give_171 rfl (lv_at hl 2 rfl) ?_
      refine gt_X7_93 hC hP (mK (mJ (mI (mJ (hm))))) (mR_30 (mJ (mI (mJ (hm))))) dX7_give_172 ?_
      refine lv_iload_n hx hb dX7_give_175 rfl (lv_at hl 3 rfl) ?_
      refine g_iald hC hP (mA_30 (mJ (mI (mJ (hm))))) (by rw [mN_30 (mJ (mI (mJ (hm))))]; exact vp_in_nI hi0 (by decide)) dX7_give_176 ?_
      rw [nI_clamp (by omega), gI_sJ, gI_a (by omega), gI_sJ]
      refine lv_i2l hx hb dX7_give_177 rfl ?_
      refine lv_ldc2 hx hb hC.2.2.2.1 (hC.2.2.2.2.1 _ kJ_X7_213) dX7_give_178 ?_
      refine lv_lmul hx hb dX7_give_181 ?_
      refine lv_ladd hx hb dX7_give_182 ?_
      refine lv_iload hx hb dX7_give_183 (lv_at hl 0 rfl) ?_
      refine lv_i2l hx hb dX7_give_185 rfl ?_
      refine lv_ladd hx hb dX7_give_186 ?_
      exact k187 (fun h => by rcases h with h | h; exact c_116 h; exact absurd c_131 (Int64.not_le.mpr h)) _ _ _ hP hsz hS
    · replace c_131 := fun h => c_131 (lc_le.mpr h)
      refine lv_lconst (v := 0) hx hb dX7_give_134 rfl ?_
      exact k135 (by first | exact Or.inl c_116 | exact Or.inr (Int64.not_le.mp c_131)) _ _ _ hP hsz hS

set_option maxRecDepth 100000 in
set_option maxHeartbeats 4000000 in
theorem sg_gv1 {p : Program} {l : Launch} {e : Env} {R : Room} {s : State} {m : MethodId} {args : Array Value} {below : List Frame} {meth : Method} {c : Code} {cells slots : Nat} {Q : State → Prop} {N0 : Nat} {D : va_G} {cy : Nat → ClassId} {S : gS} {sz : Nat} (hC : gC N0 D cy p s m args c cX7_give 6 RX7) {o i0 : Nat} {n : Int32} (hm : mOK S o) (hi0 : i0 < 8)
    (k135 : gmX S o i0 (gmA S o i0 n).1 → ∀ (H : Heap) (locs : List Loc) (ls : Array Slot), gP N0 D cy S H → H.size = sz → va_S (fun q => N0 ≤ q) s.heap H locs → W p l e R s m args below meth c H locs cells slots Q (F0 m 135 ls [.long 0]))
    (k187 : ¬ gmX S o i0 (gmA S o i0 n).1 → ∀ (H : Heap) (locs : List Loc) (ls : Array Slot), gP N0 D cy (gmS S o i0 n (gmA S o i0 n)) H → H.size = sz → va_S (fun q => N0 ≤ q) s.heap H locs → W p l e R s m args below meth c H locs cells slots Q (F0 m 187 ls [.long (gmN S o i0 (gmA S o i0 n))])) :
    ∀ (H : Heap) (locs : List Loc) (ls : Array Slot), gP N0 D cy S H → H.size = sz → va_S (fun q => N0 ≤ q) s.heap H locs → lv_has ls 6 [(3, .long (gmT S o i0)), (0, .ref (o)), (1, .int (nI i0)), (2, .int (n))] → W p l e R s m args below meth c H locs cells slots Q (F0 m 62 ls []) := by
  intro H locs ls hP hsz hS hl
  have hx := hC.1
  have hb := hC.2.1
  refine lv_aload_n hx hb dX7_give_62 rfl (lv_at hl 1 rfl) ?_
  refine gt_X7_102 hC hP (mK (hm)) (mR_33 (hm)) dX7_give_63 ?_
  refine lv_iload_n hx hb dX7_give_66 rfl (lv_at hl 2 rfl) ?_
  refine g_lald hC hP (mA_33 (hm)) (by rw [mN_33 (hm)]; exact vp_in_nI hi0 (by decide)) dX7_give_67 ?_
  rw [nI_clamp (by omega)]
  refine lv_lload_n hx hb dX7_give_68 rfl (lv_at hl 0 rfl) ?_
  refine W.lcmp hx hb dX7_give_69 ?_
  refine lv_if_ne (tgt := 84) hx hb dX7_give_70 (by decide) (fun c_70 => ?_) (fun c_70 => ?_)
  · replace c_70 := fun h => c_70 (lc_eq.mpr h)
    refine lv_iconst (v := 0) hx hb dX7_give_84 (by decide) ?_
    refine lv_istore (lv' := [(5, .int _), (3, .long _), (0, .ref _), (1, .int _), (2, .int _)]) hx hb dX7_give_85 hl (by decide) rfl (fun ls hl => ?_)
    refine lv_iload hx hb dX7_give_87 (lv_at hl 0 rfl) ?_
    refine lv_iload_n hx hb dX7_give_89 rfl (lv_at hl 4 rfl) ?_
    refine lv_iadd hx hb dX7_give_90 ?_
    refine lv_sipush (v := 1024) hx hb dX7_give_91 (by decide) ?_
    refine lv_icmp_le (tgt := 104) hx hb dX7_give_94 (by decide) (fun c_94 => ?_) (fun c_94 => ?_)
    · have hA : ∃ q, gmA S o i0 n = q ∧ lv_has ls 6 [(5, .int q.2), (3, .long q.1), (0, .ref o), (1, .int (nI i0)), (2, .int n)] := by
        unfold gmA
        first | (rw [if_pos c_70, if_pos c_94]; exact ⟨_, rfl, lv_sub hl [0, 1, 2, 3, 4] rfl⟩) | (rw [if_pos c_70, if_neg c_94]; exact ⟨_, rfl, lv_sub hl [0, 1, 2, 3, 4] rfl⟩) | (rw [if_neg c_70, if_pos c_94]; exact ⟨_, rfl, lv_sub hl [0, 1, 2, 3, 4] rfl⟩) | (rw [if_neg c_70, if_neg c_94]; exact ⟨_, rfl, lv_sub hl [0, 1, 2, 3, 4] rfl⟩)
      obtain ⟨q, hA, hl⟩ := hA
      obtain ⟨q1, q2⟩ := q
      rw [hA] at k135 k187
      exact sg_gv2 (sz := sz) (n := n) (tv := q1) (cv := q2) hC hm hi0 k135 k187 _ _ _ hP hsz hS hl
    · refine lv_lload_n hx hb dX7_give_97 rfl (lv_at hl 1 rfl) ?_
      refine lv_lconst (v := 1) hx hb dX7_give_98 rfl ?_
      refine lv_ladd hx hb dX7_give_99 ?_
      refine lv_lstore_n (lv' := [(3, .long _), (5, .int _), (0, .ref _), (1, .int _), (2, .int _)]) hx hb dX7_give_100 rfl hl (by decide) rfl (fun ls hl => ?_)
      refine lv_iconst (v := 0) hx hb dX7_give_101 (by decide) ?_
      refine lv_istore (lv' := [(5, .int _), (3, .long _), (0, .ref _), (1, .int _), (2, .int _)]) hx hb dX7_give_102 hl (by decide) rfl (fun ls hl => ?_)
      have hA : ∃ q, gmA S o i0 n = q ∧ lv_has ls 6 [(5, .int q.2), (3, .long q.1), (0, .ref o), (1, .int (nI i0)), (2, .int n)] := by
        unfold gmA
        first | (rw [if_pos c_70, if_pos c_94]; exact ⟨_, rfl, lv_sub hl [0, 1, 2, 3, 4] rfl⟩) | (rw [if_pos c_70, if_neg c_94]; exact ⟨_, rfl, lv_sub hl [0, 1, 2, 3, 4] rfl⟩) | (rw [if_neg c_70, if_pos c_94]; exact ⟨_, rfl, lv_sub hl [0, 1, 2, 3, 4] rfl⟩) | (rw [if_neg c_70, if_neg c_94]; exact ⟨_, rfl, lv_sub hl [0, 1, 2, 3, 4] rfl⟩)
      obtain ⟨q, hA, hl⟩ := hA
      obtain ⟨q1, q2⟩ := q
      rw [hA] at k135 k187
      exact sg_gv2 (sz := sz) (n := n) (tv := q1) (cv := q2) hC hm hi0 k135 k187 _ _ _ hP hsz hS hl
  · replace c_70 := lc_eq.mp c_70
    refine lv_aload_n hx hb dX7_give_73 rfl (lv_at hl 1 rfl) ?_
    refine gt_X7_105 hC hP (mK (hm)) (mR_34 (hm)) dX7_give_74 ?_
    refine lv_iload_n hx hb dX7_give_77 rfl (lv_at hl 2 rfl) ?_
    refine g_iald hC hP (mA_34 (hm)) (by rw [mN_34 (hm)]; exact vp_in_nI hi0 (by decide)) dX7_give_78 ?_
    rw [nI_clamp (by omega)]
    refine lv_iconst (v := 1) hx hb dX7_give_79 (by decide) ?_
    refine lv_iadd hx hb dX7_give_80 ?_
    refine lv_goto (tgt := 85) hx hb dX7_give_81 (by decide) ?_
    refine lv_istore (lv' := [(5, .int _), (3, .long _), (0, .ref _), (1, .int _), (2, .int _)]) hx hb dX7_give_85 hl (by decide) rfl (fun ls hl => ?_)
    refine lv_iload hx hb dX7_give_87 (lv_at hl 0 rfl) ?_
    refine lv_iload_n hx hb dX7_give_89 rfl (lv_at hl 4 rfl) ?_
    refine lv_iadd hx hb dX7_give_90 ?_
    refine lv_sipush (v := 1024) hx hb dX7_give_91 (by decide) ?_
    refine lv_icmp_le (tgt := 104) hx hb dX7_give_94 (by decide) (fun c_94 => ?_) (fun c_94 => ?_)
    · have hA : ∃ q, gmA S o i0 n = q ∧ lv_has ls 6 [(5, .int q.2), (3, .long q.1), (0, .ref o), (1, .int (nI i0)), (2, .int n)] := by
        unfold gmA
        first | (rw [if_pos c_70, if_pos c_94]; exact ⟨_, rfl, lv_sub hl [0, 1, 2, 3, 4] rfl⟩) | (rw [if_pos c_70, if_neg c_94]; exact ⟨_, rfl, lv_sub hl [0, 1, 2, 3, 4] rfl⟩) | (rw [if_neg c_70, if_pos c_94]; exact ⟨_, rfl, lv_sub hl [0, 1, 2, 3, 4] rfl⟩) | (rw [if_neg c_70, if_neg c_94]; exact ⟨_, rfl, lv_sub hl [0, 1, 2, 3, 4] rfl⟩)
      obtain ⟨q, hA, hl⟩ := hA
      obtain ⟨q1, q2⟩ := q
      rw [hA] at k135 k187
      exact sg_gv2 (sz := sz) (n := n) (tv := q1) (cv := q2) hC hm hi0 k135 k187 _ _ _ hP hsz hS hl
    · refine lv_lload_n hx hb dX7_give_97 rfl (lv_at hl 1 rfl) ?_
      refine lv_lconst (v := 1) hx hb dX7_give_98 rfl ?_
      refine lv_ladd hx hb dX7_give_99 ?_
      refine lv_lstore_n (lv' := [(3, .long _), (5, .int _), (0, .ref _), (1, .int _), (2, .int _)]) hx hb dX7_give_100 rfl hl (by decide) rfl (fun ls hl => ?_)
      refine lv_iconst (v := 0) hx hb dX7_give_101 (by decide) ?_
      refine lv_istore (lv' := [(5, .int _), (3, .long _), (0, .ref _), (1, .int _), (2, .int _)]) hx hb dX7_give_102 hl (by decide) rfl (fun ls hl => ?_)
      have hA : ∃ q, gmA S o i0 n = q ∧ lv_has ls 6 [(5, .int q.2), (3, .long q.1), (0, .ref o), (1, .int (nI i0)), (2, .int n)] := by
        unfold gmA
        first | (rw [if_pos c_70, if_pos c_94]; exact ⟨_, rfl, lv_sub hl [0, 1, 2, 3, 4] rfl⟩) | (rw [if_pos c_70, if_neg c_94]; exact ⟨_, rfl, lv_sub hl [0, 1, 2, 3, 4] rfl⟩) | (rw [if_neg c_70, if_pos c_94]; exact ⟨_, rfl, lv_sub hl [0, 1, 2, 3, 4] rfl⟩) | (rw [if_neg c_70, if_neg c_94]; exact ⟨_, rfl, lv_sub hl [0, 1, 2, 3, 4] rfl⟩)
      obtain ⟨q, hA, hl⟩ := hA
      obtain ⟨q1, q2⟩ := q
      rw [hA] at k135 k187
      exact sg_gv2 (sz := sz) (n := n) (tv := q1) (cv := q2) hC hm hi0 k135 k187 _ _ _ hP hsz hS hl

set_option maxRecDepth 100000 in
set_option maxHeartbeats 4000000 in
theorem c_X7_give (l : Launch) (N0 : Nat) (D : va_G) (cy : Nat → ClassId) (S : gS) (sz : Nat) (o i0 : Nat) (n : Int32) (hm : mOK S o) (hi0 : i0 < 8) : gM l yX7_give cX7_give 6 (some FieldType.long) { frames := 0, cells := 0, slots := 0, locals := 0 } N0 D cy [.ref o, .int (nI i0), .int n] S sz (fun v S1 z => z = sz ∧ mGive S o i0 n v S1) := by
  refine g_body (by decide) rfl (Nat.le_of_ble_eq_true rfl) ?_
  intro p e s m args below meth c ls hC hU hr hlk hnm hsz hP hS hl
  have hx := hC.1
  have hb := hC.2.1
  refine lv_aload_n hx hb dX7_give_0 rfl (lv_at hl 0 rfl) ?_
  refine gt_X7_90 hC hP (mK (hm)) (mR_29 (hm)) dX7_give_1 ?_
  refine lv_iload_n hx hb dX7_give_4 rfl (lv_at hl 1 rfl) ?_
  refine g_zald hC hP (mA_29 (hm)) (by rw [mN_29 (hm)]; exact vp_in_nI hi0 (by decide)) dX7_give_5 ?_
  rw [nI_clamp (by omega)]
  refine lv_if_ne (tgt := 11) hx hb dX7_give_6 (by decide) (fun c_6 => ?_) (fun c_6 => ?_)
  · refine lv_aload_n hx hb dX7_give_11 rfl (lv_at hl 0 rfl) ?_
    refine gt_X7_60 hC hP (mK (hm)) (mR_19 (hm)) dX7_give_12 ?_
    refine lv_iload_n hx hb dX7_give_15 rfl (lv_at hl 1 rfl) ?_
    refine g_lald hC hP (mA_19 (hm)) (by rw [mN_19 (hm)]; exact vp_in_nI hi0 (by decide)) dX7_give_16 ?_
    rw [nI_clamp (by omega)]
    refine lv_lstore_n (lv' := [(3, .long _), (0, .ref _), (1, .int _), (2, .int _)]) hx hb dX7_give_17 rfl hl (by decide) rfl (fun ls hl => ?_)
    refine lv_aload_n hx hb dX7_give_18 rfl (lv_at hl 1 rfl) ?_
    refine gt_X7_99 hC hP (mK (hm)) (mR_32 (hm)) dX7_give_19 ?_
    refine lv_iload_n hx hb dX7_give_22 rfl (lv_at hl 2 rfl) ?_
    refine g_lald hC hP (mA_32 (hm)) (by rw [mN_32 (hm)]; exact vp_in_nI hi0 (by decide)) dX7_give_23 ?_
    rw [nI_clamp (by omega)]
    refine lv_lload_n hx hb dX7_give_24 rfl (lv_at hl 0 rfl) ?_
    refine W.lcmp hx hb dX7_give_25 ?_
    refine lv_if_le (tgt := 38) hx hb dX7_give_26 (by decide) (fun c_26 => ?_) (fun c_26 => ?_)
    · replace c_26 := lc_le.mp c_26
      refine lv_lload_n hx hb dX7_give_38 rfl (lv_at hl 0 rfl) ?_
      refine lv_lstore_n (lv' := [(3, .long _), (0, .ref _), (1, .int _), (2, .int _)]) hx hb dX7_give_39 rfl hl (by decide) rfl (fun ls hl => ?_)
      refine lv_aload_n hx hb dX7_give_40 rfl (lv_at hl 1 rfl) ?_
      refine gt_X7_102 hC hP (mK (hm)) (mR_33 (hm)) dX7_give_41 ?_
      refine lv_iload_n hx hb dX7_give_44 rfl (lv_at hl 2 rfl) ?_
      refine g_lald hC hP (mA_33 (hm)) (by rw [mN_33 (hm)]; exact vp_in_nI hi0 (by decide)) dX7_give_45 ?_
      rw [nI_clamp (by omega)]
      refine lv_lload_n hx hb dX7_give_46 rfl (lv_at hl 0 rfl) ?_
      refine W.lcmp hx hb dX7_give_47 ?_
      refine lv_if_le (tgt := 60) hx hb dX7_give_48 (by decide) (fun c_48 => ?_) (fun c_48 => ?_)
      · replace c_48 := lc_le.mp c_48
        refine lv_lload_n hx hb dX7_give_60 rfl (lv_at hl 0 rfl) ?_
        refine lv_lstore_n (lv' := [(3, .long _), (0, .ref _), (1, .int _), (2, .int _)]) hx hb dX7_give_61 rfl hl (by decide) rfl (fun ls hl => ?_)
        refine sg_gv1 (sz := sz) (n := n) (i0 := i0) hC hm hi0 (fun hX H locs ls hP hsz hS => ?_) (fun hX H locs ls hP hsz hS => ?_) _ _ _ hP hsz hS ?_
        · exact g_lret hC hP hS hr hlk (by decide) (by decide) (⟨hsz, Or.inr (Or.inl ⟨c_6, hX, rfl, rfl⟩)⟩) dX7_give_135
        · exact g_lret hC hP hS hr hlk (by decide) (by decide) (⟨hsz, Or.inr (Or.inr ⟨c_6, hX, rfl, rfl⟩)⟩) dX7_give_187
        · unfold gmT
          first | (simp only [if_pos c_26, if_pos c_48]; exact lv_sub hl [0, 1, 2, 3] rfl) | (simp only [if_pos c_26, if_neg c_48]; exact lv_sub hl [0, 1, 2, 3] rfl) | (simp only [if_neg c_26, if_pos c_48]; exact lv_sub hl [0, 1, 2, 3] rfl) | (simp only [if_neg c_26, if_neg c_48]; exact lv_sub hl [0, 1, 2, 3] rfl)
      · replace c_48 := fun h => c_48 (lc_le.mpr h)
        refine lv_aload_n hx hb dX7_give_51 rfl (lv_at hl 1 rfl) ?_
        refine gt_X7_102 hC hP (mK (hm)) (mR_33 (hm)) dX7_give_52 ?_
        refine lv_iload_n hx hb dX7_give_55 rfl (lv_at hl 2 rfl) ?_
        refine g_lald hC hP (mA_33 (hm)) (by rw [mN_33 (hm)]; exact vp_in_nI hi0 (by decide)) dX7_give_56 ?_
        rw [nI_clamp (by omega)]
        refine lv_goto (tgt := 61) hx hb dX7_give_57 (by decide) ?_
        refine lv_lstore_n (lv' := [(3, .long _), (0, .ref _), (1, .int _), (2, .int _)]) hx hb dX7_give_61 rfl hl (by decide) rfl (fun ls hl => ?_)
        refine sg_gv1 (sz := sz) (n := n) (i0 := i0) hC hm hi0 (fun hX H locs ls hP hsz hS => ?_) (fun hX H locs ls hP hsz hS => ?_) _ _ _ hP hsz hS ?_
        · exact g_lret hC hP hS hr hlk (by decide) (by decide) (⟨hsz, Or.inr (Or.inl ⟨c_6, hX, rfl, rfl⟩)⟩) dX7_give_135
        · exact g_lret hC hP hS hr hlk (by decide) (by decide) (⟨hsz, Or.inr (Or.inr ⟨c_6, hX, rfl, rfl⟩)⟩) dX7_give_187
        · unfold gmT
          first | (simp only [if_pos c_26, if_pos c_48]; exact lv_sub hl [0, 1, 2, 3] rfl) | (simp only [if_pos c_26, if_neg c_48]; exact lv_sub hl [0, 1, 2, 3] rfl) | (simp only [if_neg c_26, if_pos c_48]; exact lv_sub hl [0, 1, 2, 3] rfl) | (simp only [if_neg c_26, if_neg c_48]; exact lv_sub hl [0, 1, 2, 3] rfl)
    · replace c_26 := fun h => c_26 (lc_le.mpr h)
      refine lv_aload_n hx hb dX7_give_29 rfl (lv_at hl 1 rfl) ?_
      refine gt_X7_99 hC hP (mK (hm)) (mR_32 (hm)) dX7_give_30 ?_
      refine lv_iload_n hx hb dX7_give_33 rfl (lv_at hl 2 rfl) ?_
      refine g_lald hC hP (mA_32 (hm)) (by rw [mN_32 (hm)]; exact vp_in_nI hi0 (by decide)) dX7_give_34 ?_
      rw [nI_clamp (by omega)]
      refine lv_goto (tgt := 39) hx hb dX7_give_35 (by decide) ?_
      refine lv_lstore_n (lv' := [(3, .long _), (0, .ref _), (1, .int _), (2, .int _)]) hx hb dX7_give_39 rfl hl (by decide) rfl (fun ls hl => ?_)
      refine lv_aload_n hx hb dX7_give_40 rfl (lv_at hl 1 rfl) ?_
      refine gt_X7_102 hC hP (mK (hm)) (mR_33 (hm)) dX7_give_41 ?_
      refine lv_iload_n hx hb dX7_give_44 rfl (lv_at hl 2 rfl) ?_
      refine g_lald hC hP (mA_33 (hm)) (by rw [mN_33 (hm)]; exact vp_in_nI hi0 (by decide)) dX7_give_45 ?_
      rw [nI_clamp (by omega)]
      refine lv_lload_n hx hb dX7_give_46 rfl (lv_at hl 0 rfl) ?_
      refine W.lcmp hx hb dX7_give_47 ?_
      refine lv_if_le (tgt := 60) hx hb dX7_give_48 (by decide) (fun c_48 => ?_) (fun c_48 => ?_)
      · replace c_48 := lc_le.mp c_48
        refine lv_lload_n hx hb dX7_give_60 rfl (lv_at hl 0 rfl) ?_
        refine lv_lstore_n (lv' := [(3, .long _), (0, .ref _), (1, .int _), (2, .int _)]) hx hb dX7_give_61 rfl hl (by decide) rfl (fun ls hl => ?_)
        refine sg_gv1 (sz := sz) (n := n) (i0 := i0) hC hm hi0 (fun hX H locs ls hP hsz hS => ?_) (fun hX H locs ls hP hsz hS => ?_) _ _ _ hP hsz hS ?_
        · exact g_lret hC hP hS hr hlk (by decide) (by decide) (⟨hsz, Or.inr (Or.inl ⟨c_6, hX, rfl, rfl⟩)⟩) dX7_give_135
        · exact g_lret hC hP hS hr hlk (by decide) (by decide) (⟨hsz, Or.inr (Or.inr ⟨c_6, hX, rfl, rfl⟩)⟩) dX7_give_187
        · unfold gmT
          first | (simp only [if_pos c_26, if_pos c_48]; exact lv_sub hl [0, 1, 2, 3] rfl) | (simp only [if_pos c_26, if_neg c_48]; exact lv_sub hl [0, 1, 2, 3] rfl) | (simp only [if_neg c_26, if_pos c_48]; exact lv_sub hl [0, 1, 2, 3] rfl) | (simp only [if_neg c_26, if_neg c_48]; exact lv_sub hl [0, 1, 2, 3] rfl)
      · replace c_48 := fun h => c_48 (lc_le.mpr h)
        refine lv_aload_n hx hb dX7_give_51 rfl (lv_at hl 1 rfl) ?_
        refine gt_X7_102 hC hP (mK (hm)) (mR_33 (hm)) dX7_give_52 ?_
        refine lv_iload_n hx hb dX7_give_55 rfl (lv_at hl 2 rfl) ?_
        refine g_lald hC hP (mA_33 (hm)) (by rw [mN_33 (hm)]; exact vp_in_nI hi0 (by decide)) dX7_give_56 ?_
        rw [nI_clamp (by omega)]
        refine lv_goto (tgt := 61) hx hb dX7_give_57 (by decide) ?_
        refine lv_lstore_n (lv' := [(3, .long _), (0, .ref _), (1, .int _), (2, .int _)]) hx hb dX7_give_61 rfl hl (by decide) rfl (fun ls hl => ?_)
        refine sg_gv1 (sz := sz) (n := n) (i0 := i0) hC hm hi0 (fun hX H locs ls hP hsz hS => ?_) (fun hX H locs ls hP hsz hS => ?_) _ _ _ hP hsz hS ?_
        · exact g_lret hC hP hS hr hlk (by decide) (by decide) (⟨hsz, Or.inr (Or.inl ⟨c_6, hX, rfl, rfl⟩)⟩) dX7_give_135
        · exact g_lret hC hP hS hr hlk (by decide) (by decide) (⟨hsz, Or.inr (Or.inr ⟨c_6, hX, rfl, rfl⟩)⟩) dX7_give_187
        · unfold gmT
          first | (simp only [if_pos c_26, if_pos c_48]; exact lv_sub hl [0, 1, 2, 3] rfl) | (simp only [if_pos c_26, if_neg c_48]; exact lv_sub hl [0, 1, 2, 3] rfl) | (simp only [if_neg c_26, if_pos c_48]; exact lv_sub hl [0, 1, 2, 3] rfl) | (simp only [if_neg c_26, if_neg c_48]; exact lv_sub hl [0, 1, 2, 3] rfl)
  · refine lv_lconst (v := 0) hx hb dX7_give_9 rfl ?_
    exact g_lret hC hP hS hr hlk (by decide) (by decide) (⟨hsz, Or.inl ⟨c_6, rfl, rfl⟩⟩) dX7_give_10
set_option maxRecDepth 100000 in
set_option maxHeartbeats 4000000 in
theorem c_X7_next (l : Launch) (N0 : Nat) (D : va_G) (cy : Nat → ClassId) (S : gS) (sz : Nat) (o : Nat) (i : Int32) (hm : mOK S o) : gM l yX7_next cX7_next 2 (some FieldType.long) { frames := 1, cells := 0, slots := 0, locals := 40 } N0 D cy [.ref o, .int i] S sz (fun v S1 z => z = sz ∧ ((¬ (0 ≤ i ∧ i < 8) ∧ v = some (.long 0) ∧ S1 = sI S o 0 1) ∨ (∃ k, k < 8 ∧ i = nI k ∧ mGive (sI S o 0 0) o k 1 v S1))) := by
  refine g_body (by decide) rfl (Nat.le_of_ble_eq_true rfl) ?_
  intro p e s m args below meth c ls hC hU hr hlk hnm hsz hP hS hl
  have hx := hC.1
  have hb := hC.2.1
  refine lv_aload_n hx hb dX7_next_0 rfl (lv_at hl 0 rfl) ?_
  refine lv_iload_n hx hb dX7_next_1 rfl (lv_at hl 1 rfl) ?_
  refine g_callV (As := [.int _]) (rest := []) hC hU hP hS hl.1 (c_X7_isIssuer l N0 D cy _ _ o _ hm) mL_X7_118 iM_X7_isIssuer sL_X7_isIssuer iN_X7 cD_X7_isIssuer ⟨by decide, by decide, rfl⟩ ⟨by decide, by decide⟩ ⟨by decide, by decide⟩ (ci := 7) rfl (by decide) (mK (hm)) rfl (Nat.le_of_ble_eq_true rfl) dX7_next_2 (fun v S1 H locs hw hP hz hS => ?_)
  obtain ⟨rfl, hS1, hz2⟩ := hw
  replace hS1 := hS1.symm
  subst hS1
  replace hsz := hz2.trans hsz
  refine lv_if_eq (tgt := 17) hx hb dX7_next_5 (by decide) (fun c_5 => ?_) (fun c_5 => ?_)
  · refine lv_lconst (v := 0) hx hb dX7_next_17 rfl ?_
    exact g_lret hC hP hS hr hlk (by decide) (by decide) (⟨hsz, by first | exact Or.inr ⟨k, hk, rfl, hgv⟩ | exact Or.inl ⟨cnt0 c_5, rfl, by rw [if_neg (cnt0 c_5)]⟩⟩) dX7_next_18
  · have c_6 := th1 c_5
    rw [if_pos c_6] at hP
    obtain ⟨k, hk, rfl⟩ := isI_nat c_6
    refine lv_aload_n hx hb dX7_next_8 rfl (lv_at hl 0 rfl) ?_
    refine lv_iload_n hx hb dX7_next_9 rfl (lv_at hl 1 rfl) ?_
    refine lv_iconst (v := 1) hx hb dX7_next_10 (by decide) ?_
    refine g_callV (As := [.int _, .int _]) (rest := []) hC hU hP hS hl.1 (c_X7_give l N0 D cy _ _ o k 1 (mI hm) hk) mL_X7_215 iM_X7_give sL_X7_give iN_X7 cD_X7_give ⟨by decide, by decide, rfl⟩ ⟨by decide, by decide⟩ ⟨by decide, by decide⟩ (ci := 7) rfl (by decide) (mK (mI (hm))) rfl (Nat.le_of_ble_eq_true rfl) dX7_next_11 (fun v S1 H locs hw hP hz hS => ?_)
    obtain ⟨hz2, hgv⟩ := hw
    replace hsz := hz2.trans hsz
    obtain ⟨r9, hv9⟩ : ∃ r9 : Int64, v = some (.long r9) := by
      rcases hgv with ⟨-, h, -⟩ | ⟨-, -, h, -⟩ | ⟨-, -, h, -⟩ <;> exact ⟨_, h⟩
    subst hv9
    refine lv_goto (tgt := 18) hx hb dX7_next_14 (by decide) ?_
    exact g_lret hC hP hS hr hlk (by decide) (by decide) (⟨hsz, by first | exact Or.inr ⟨k, hk, rfl, hgv⟩ | exact Or.inl ⟨cnt0 c_5, rfl, by rw [if_neg (cnt0 c_5)]⟩⟩) dX7_next_18

set_option maxRecDepth 100000 in
set_option maxHeartbeats 4000000 in
theorem c_X7_batch (l : Launch) (N0 : Nat) (D : va_G) (cy : Nat → ClassId) (S : gS) (sz : Nat) (o : Nat) (i n : Int32) (hm : mOK S o) : gM l yX7_batch cX7_batch 3 (some FieldType.long) { frames := 1, cells := 0, slots := 0, locals := 40 } N0 D cy [.ref o, .int i, .int n] S sz (fun v S1 z => z = sz ∧ ((¬ (0 ≤ i ∧ i < 8) ∧ v = some (.long 0) ∧ S1 = sI S o 0 1) ∨ (∃ k, k < 8 ∧ i = nI k ∧ (n < 1 ∨ 1024 < n) ∧ v = some (.long 0) ∧ S1 = sI (sI S o 0 0) o 0 2) ∨ (∃ k, k < 8 ∧ i = nI k ∧ ¬ (n < 1 ∨ 1024 < n) ∧ mGive (sI (sI S o 0 0) o 0 0) o k n v S1))) := by
  refine g_body (by decide) rfl (Nat.le_of_ble_eq_true rfl) ?_
  intro p e s m args below meth c ls hC hU hr hlk hnm hsz hP hS hl
  have hx := hC.1
  have hb := hC.2.1
  refine lv_aload_n hx hb dX7_batch_0 rfl (lv_at hl 0 rfl) ?_
  refine lv_iload_n hx hb dX7_batch_1 rfl (lv_at hl 1 rfl) ?_
  refine g_callV (As := [.int _]) (rest := []) hC hU hP hS hl.1 (c_X7_isIssuer l N0 D cy _ _ o _ hm) mL_X7_118 iM_X7_isIssuer sL_X7_isIssuer iN_X7 cD_X7_isIssuer ⟨by decide, by decide, rfl⟩ ⟨by decide, by decide⟩ ⟨by decide, by decide⟩ (ci := 7) rfl (by decide) (mK (hm)) rfl (Nat.le_of_ble_eq_true rfl) dX7_batch_2 (fun v S1 H locs hw hP hz hS => ?_)
  obtain ⟨rfl, hS1, hz2⟩ := hw
  replace hS1 := hS1.symm
  subst hS1
  replace hsz := hz2.trans hsz
  refine lv_if_ne (tgt := 10) hx hb dX7_batch_5 (by decide) (fun c_5 => ?_) (fun c_5 => ?_)
  · have c_6 := th1 c_5
    rw [if_pos c_6] at hP
    obtain ⟨k, hk, rfl⟩ := isI_nat c_6
    refine lv_aload_n hx hb dX7_batch_10 rfl (lv_at hl 0 rfl) ?_
    refine lv_iload_n hx hb dX7_batch_11 rfl (lv_at hl 2 rfl) ?_
    refine lv_iconst (v := 1) hx hb dX7_batch_12 (by decide) ?_
    refine lv_icmp_lt (tgt := 23) hx hb dX7_batch_13 (by decide) (fun c_13 => ?_) (fun c_13 => ?_)
    · refine lv_iconst (v := 2) hx hb dX7_batch_23 (by decide) ?_
      refine lv_goto (tgt := 28) hx hb dX7_batch_24 (by decide) ?_
      refine pt_X7_114 hC hP hS (mK (mI (hm))) dX7_batch_28 (fun H locs hP hz hS => ?_)
      replace hsz := hz.trans hsz
      refine lv_aload_n hx hb dX7_batch_31 rfl (lv_at hl 0 rfl) ?_
      refine gv_X7_114 hC hP (mK (mI (mI (hm)))) gI_s dX7_batch_32 ?_
      refine lv_if_eq (tgt := 42) hx hb dX7_batch_35 (by decide) (fun c_35 => ?_) (fun c_35 => ?_)
      · exact absurd c_35 (by decide)
      · refine lv_lconst (v := 0) hx hb dX7_batch_38 rfl ?_
        refine lv_goto (tgt := 48) hx hb dX7_batch_39 (by decide) ?_
        exact g_lret hC hP hS hr hlk (by decide) (by decide) (⟨hsz, by first | exact Or.inr (Or.inr ⟨k, hk, rfl, fun h => by rcases h with h | h; exact c_13 h; exact absurd c_20 (Int32.not_le.mpr h), hgv⟩) | exact Or.inr (Or.inl ⟨k, hk, rfl, Or.inl c_13, rfl, rfl⟩) | exact Or.inr (Or.inl ⟨k, hk, rfl, Or.inr (Int32.not_le.mp c_20), rfl, rfl⟩)⟩) dX7_batch_48
    · refine lv_iload_n hx hb dX7_batch_16 rfl (lv_at hl 2 rfl) ?_
      refine lv_sipush (v := 1024) hx hb dX7_batch_17 (by decide) ?_
      refine lv_icmp_le (tgt := 27) hx hb dX7_batch_20 (by decide) (fun c_20 => ?_) (fun c_20 => ?_)
      · refine lv_iconst (v := 0) hx hb dX7_batch_27 (by decide) ?_
        refine pt_X7_114 hC hP hS (mK (mI (hm))) dX7_batch_28 (fun H locs hP hz hS => ?_)
        replace hsz := hz.trans hsz
        refine lv_aload_n hx hb dX7_batch_31 rfl (lv_at hl 0 rfl) ?_
        refine gv_X7_114 hC hP (mK (mI (mI (hm)))) gI_s dX7_batch_32 ?_
        refine lv_if_eq (tgt := 42) hx hb dX7_batch_35 (by decide) (fun c_35 => ?_) (fun c_35 => ?_)
        · refine lv_aload_n hx hb dX7_batch_42 rfl (lv_at hl 0 rfl) ?_
          refine lv_iload_n hx hb dX7_batch_43 rfl (lv_at hl 1 rfl) ?_
          refine lv_iload_n hx hb dX7_batch_44 rfl (lv_at hl 2 rfl) ?_
          refine g_callV (As := [.int _, .int _]) (rest := []) hC hU hP hS hl.1 (c_X7_give l N0 D cy _ _ o k _ (mI (mI hm)) hk) mL_X7_215 iM_X7_give sL_X7_give iN_X7 cD_X7_give ⟨by decide, by decide, rfl⟩ ⟨by decide, by decide⟩ ⟨by decide, by decide⟩ (ci := 7) rfl (by decide) (mK (mI (mI (hm)))) rfl (Nat.le_of_ble_eq_true rfl) dX7_batch_45 (fun v S1 H locs hw hP hz hS => ?_)
          obtain ⟨hz2, hgv⟩ := hw
          replace hsz := hz2.trans hsz
          obtain ⟨r9, hv9⟩ : ∃ r9 : Int64, v = some (.long r9) := by
            rcases hgv with ⟨-, h, -⟩ | ⟨-, -, h, -⟩ | ⟨-, -, h, -⟩ <;> exact ⟨_, h⟩
          subst hv9
          exact g_lret hC hP hS hr hlk (by decide) (by decide) (⟨hsz, by first | exact Or.inr (Or.inr ⟨k, hk, rfl, fun h => by rcases h with h | h; exact c_13 h; exact absurd c_20 (Int32.not_le.mpr h), hgv⟩) | exact Or.inr (Or.inl ⟨k, hk, rfl, Or.inl c_13, rfl, rfl⟩) | exact Or.inr (Or.inl ⟨k, hk, rfl, Or.inr (Int32.not_le.mp c_20), rfl, rfl⟩)⟩) dX7_batch_48
        · exact absurd (by decide) c_35
      · refine lv_iconst (v := 2) hx hb dX7_batch_23 (by decide) ?_
        refine lv_goto (tgt := 28) hx hb dX7_batch_24 (by decide) ?_
        refine pt_X7_114 hC hP hS (mK (mI (hm))) dX7_batch_28 (fun H locs hP hz hS => ?_)
        replace hsz := hz.trans hsz
        refine lv_aload_n hx hb dX7_batch_31 rfl (lv_at hl 0 rfl) ?_
        refine gv_X7_114 hC hP (mK (mI (mI (hm)))) gI_s dX7_batch_32 ?_
        refine lv_if_eq (tgt := 42) hx hb dX7_batch_35 (by decide) (fun c_35 => ?_) (fun c_35 => ?_)
        · exact absurd c_35 (by decide)
        · refine lv_lconst (v := 0) hx hb dX7_batch_38 rfl ?_
          refine lv_goto (tgt := 48) hx hb dX7_batch_39 (by decide) ?_
          exact g_lret hC hP hS hr hlk (by decide) (by decide) (⟨hsz, by first | exact Or.inr (Or.inr ⟨k, hk, rfl, fun h => by rcases h with h | h; exact c_13 h; exact absurd c_20 (Int32.not_le.mpr h), hgv⟩) | exact Or.inr (Or.inl ⟨k, hk, rfl, Or.inl c_13, rfl, rfl⟩) | exact Or.inr (Or.inl ⟨k, hk, rfl, Or.inr (Int32.not_le.mp c_20), rfl, rfl⟩)⟩) dX7_batch_48
  · refine lv_lconst (v := 0) hx hb dX7_batch_8 rfl ?_
    exact g_lret hC hP hS hr hlk (by decide) (by decide) (⟨hsz, Or.inl ⟨cnt0 c_5, rfl, by rw [if_neg (cnt0 c_5)]⟩⟩) dX7_batch_9

def ptV (x : Int64) (w : Int32) : Int64 := if w = 0 then x / 8388608 else if w = 1 then (x - x / 8388608 * 8388608) / 1024 else (x - x / 8388608 * 8388608) - (x - x / 8388608 * 8388608) / 1024 * 1024
set_option maxRecDepth 100000 in
set_option maxHeartbeats 4000000 in
theorem c_X7_part (l : Launch) (N0 : Nat) (D : va_G) (cy : Nat → ClassId) (S : gS) (sz : Nat) (o : Nat) (x : Int64) (w : Int32) (hm : mOK S o) : gM l yX7_part cX7_part 6 (some FieldType.long) { frames := 0, cells := 0, slots := 0, locals := 0 } N0 D cy [.ref o, .long x, .int w] S sz (fun v S1 z => z = sz ∧ (((x < 0 ∨ w < 0 ∨ 2 < w) ∧ v = some (.long 0) ∧ S1 = sI S o 0 1) ∨ (¬ (x < 0 ∨ w < 0 ∨ 2 < w) ∧ v = some (.long (ptV x w)) ∧ S1 = sI S o 0 0))) := by
  refine g_body (by decide) rfl (Nat.le_of_ble_eq_true rfl) ?_
  intro p e s m args below meth c ls hC hU hr hlk hnm hsz hP hS hl
  have hx := hC.1
  have hb := hC.2.1
  refine lv_aload_n hx hb dX7_part_0 rfl (lv_at hl 0 rfl) ?_
  refine lv_lload_n hx hb dX7_part_1 rfl (lv_at hl 1 rfl) ?_
  refine lv_lconst (v := 0) hx hb dX7_part_2 rfl ?_
  refine W.lcmp hx hb dX7_part_3 ?_
  refine lv_if_lt (tgt := 16) hx hb dX7_part_4 (by decide) (fun c_4 => ?_) (fun c_4 => ?_)
  · replace c_4 := lc_lt.mp c_4
    refine lv_iconst (v := 1) hx hb dX7_part_16 (by decide) ?_
    refine lv_goto (tgt := 21) hx hb dX7_part_17 (by decide) ?_
    refine pt_X7_114 hC hP hS (mK (hm)) dX7_part_21 (fun H locs hP hz hS => ?_)
    replace hsz := hz.trans hsz
    refine lv_aload_n hx hb dX7_part_24 rfl (lv_at hl 0 rfl) ?_
    refine gv_X7_114 hC hP (mK (mI (hm))) gI_s dX7_part_25 ?_
    refine lv_if_eq (tgt := 33) hx hb dX7_part_28 (by decide) (fun c_28 => ?_) (fun c_28 => ?_)
    · exact absurd c_28 (by decide)
    · refine lv_lconst (v := 0) hx hb dX7_part_31 rfl ?_
      exact g_lret hC hP hS hr hlk (by decide) (by decide) (⟨hsz, Or.inl ⟨by first | exact Or.inl c_4 | exact Or.inr (Or.inl c_8) | exact Or.inr (Or.inr (Int32.not_le.mp c_13)), rfl, rfl⟩⟩) dX7_part_32
  · replace c_4 := fun h => c_4 (lc_lt.mpr h)
    refine lv_iload_n hx hb dX7_part_7 rfl (lv_at hl 2 rfl) ?_
    refine lv_if_lt (tgt := 16) hx hb dX7_part_8 (by decide) (fun c_8 => ?_) (fun c_8 => ?_)
    · refine lv_iconst (v := 1) hx hb dX7_part_16 (by decide) ?_
      refine lv_goto (tgt := 21) hx hb dX7_part_17 (by decide) ?_
      refine pt_X7_114 hC hP hS (mK (hm)) dX7_part_21 (fun H locs hP hz hS => ?_)
      replace hsz := hz.trans hsz
      refine lv_aload_n hx hb dX7_part_24 rfl (lv_at hl 0 rfl) ?_
      refine gv_X7_114 hC hP (mK (mI (hm))) gI_s dX7_part_25 ?_
      refine lv_if_eq (tgt := 33) hx hb dX7_part_28 (by decide) (fun c_28 => ?_) (fun c_28 => ?_)
      · exact absurd c_28 (by decide)
      · refine lv_lconst (v := 0) hx hb dX7_part_31 rfl ?_
        exact g_lret hC hP hS hr hlk (by decide) (by decide) (⟨hsz, Or.inl ⟨by first | exact Or.inl c_4 | exact Or.inr (Or.inl c_8) | exact Or.inr (Or.inr (Int32.not_le.mp c_13)), rfl, rfl⟩⟩) dX7_part_32
    · refine lv_iload_n hx hb dX7_part_11 rfl (lv_at hl 2 rfl) ?_
      refine lv_iconst (v := 2) hx hb dX7_part_12 (by decide) ?_
      refine lv_icmp_le (tgt := 20) hx hb dX7_part_13 (by decide) (fun c_13 => ?_) (fun c_13 => ?_)
      · refine lv_iconst (v := 0) hx hb dX7_part_20 (by decide) ?_
        refine pt_X7_114 hC hP hS (mK (hm)) dX7_part_21 (fun H locs hP hz hS => ?_)
        replace hsz := hz.trans hsz
        refine lv_aload_n hx hb dX7_part_24 rfl (lv_at hl 0 rfl) ?_
        refine gv_X7_114 hC hP (mK (mI (hm))) gI_s dX7_part_25 ?_
        refine lv_if_eq (tgt := 33) hx hb dX7_part_28 (by decide) (fun c_28 => ?_) (fun c_28 => ?_)
        · refine lv_lload_n hx hb dX7_part_33 rfl (lv_at hl 1 rfl) ?_
          refine lv_ldc2 hx hb hC.2.2.2.1 (hC.2.2.2.2.1 _ kJ_X7_211) dX7_part_34 ?_
          refine lv_lrem hx hb dX7_part_37 (by decide) ?_
          refine lv_lstore (lv' := [(4, .long _), (0, .ref _), (1, .long _), (3, .int _)]) hx hb dX7_part_38 hl (by decide) rfl (fun ls hl => ?_)
          refine lv_iload_n hx hb dX7_part_40 rfl (lv_at hl 3 rfl) ?_
          refine lv_if_ne (tgt := 52) hx hb dX7_part_41 (by decide) (fun c_41 => ?_) (fun c_41 => ?_)
          · refine lv_iload_n hx hb dX7_part_52 rfl (lv_at hl 3 rfl) ?_
            refine lv_iconst (v := 1) hx hb dX7_part_53 (by decide) ?_
            refine lv_icmp_ne (tgt := 66) hx hb dX7_part_54 (by decide) (fun c_54 => ?_) (fun c_54 => ?_)
            · refine lv_lload hx hb dX7_part_66 (lv_at hl 0 rfl) ?_
              refine lv_ldc2 hx hb hC.2.2.2.1 (hC.2.2.2.2.1 _ kJ_X7_213) dX7_part_68 ?_
              refine lv_lrem hx hb dX7_part_71 (by decide) ?_
              exact g_lret hC hP hS hr hlk (by decide) (by decide) (⟨hsz, Or.inr ⟨fun h => by rcases h with h | h | h; exact c_4 h; exact c_8 h; exact absurd c_13 (Int32.not_le.mpr h), by unfold ptV; first | rw [if_pos c_41] | (rw [if_neg c_41, if_pos c_54]; done) | (rw [if_neg c_41, if_neg c_54]; done), rfl⟩⟩) dX7_part_72
            · refine lv_lload hx hb dX7_part_57 (lv_at hl 0 rfl) ?_
              refine lv_ldc2 hx hb hC.2.2.2.1 (hC.2.2.2.2.1 _ kJ_X7_213) dX7_part_59 ?_
              refine lv_ldiv hx hb dX7_part_62 (by decide) ?_
              refine lv_goto (tgt := 72) hx hb dX7_part_63 (by decide) ?_
              exact g_lret hC hP hS hr hlk (by decide) (by decide) (⟨hsz, Or.inr ⟨fun h => by rcases h with h | h | h; exact c_4 h; exact c_8 h; exact absurd c_13 (Int32.not_le.mpr h), by unfold ptV; first | rw [if_pos c_41] | (rw [if_neg c_41, if_pos c_54]; done) | (rw [if_neg c_41, if_neg c_54]; done), rfl⟩⟩) dX7_part_72
          · refine lv_lload_n hx hb dX7_part_44 rfl (lv_at hl 2 rfl) ?_
            refine lv_ldc2 hx hb hC.2.2.2.1 (hC.2.2.2.2.1 _ kJ_X7_211) dX7_part_45 ?_
            refine lv_ldiv hx hb dX7_part_48 (by decide) ?_
            refine lv_goto (tgt := 72) hx hb dX7_part_49 (by decide) ?_
            exact g_lret hC hP hS hr hlk (by decide) (by decide) (⟨hsz, Or.inr ⟨fun h => by rcases h with h | h | h; exact c_4 h; exact c_8 h; exact absurd c_13 (Int32.not_le.mpr h), by unfold ptV; first | rw [if_pos c_41] | (rw [if_neg c_41, if_pos c_54]; done) | (rw [if_neg c_41, if_neg c_54]; done), rfl⟩⟩) dX7_part_72
        · exact absurd (by decide) c_28
      · refine lv_iconst (v := 1) hx hb dX7_part_16 (by decide) ?_
        refine lv_goto (tgt := 21) hx hb dX7_part_17 (by decide) ?_
        refine pt_X7_114 hC hP hS (mK (hm)) dX7_part_21 (fun H locs hP hz hS => ?_)
        replace hsz := hz.trans hsz
        refine lv_aload_n hx hb dX7_part_24 rfl (lv_at hl 0 rfl) ?_
        refine gv_X7_114 hC hP (mK (mI (hm))) gI_s dX7_part_25 ?_
        refine lv_if_eq (tgt := 33) hx hb dX7_part_28 (by decide) (fun c_28 => ?_) (fun c_28 => ?_)
        · exact absurd c_28 (by decide)
        · refine lv_lconst (v := 0) hx hb dX7_part_31 rfl ?_
          exact g_lret hC hP hS hr hlk (by decide) (by decide) (⟨hsz, Or.inl ⟨by first | exact Or.inl c_4 | exact Or.inr (Or.inl c_8) | exact Or.inr (Or.inr (Int32.not_le.mp c_13)), rfl, rfl⟩⟩) dX7_part_32

