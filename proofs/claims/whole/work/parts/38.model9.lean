def prT (S : gS) (o i : Nat) (rv : Int32) : Int32 := if gI S (o + 19) i = 0 then terR S o rv + 1 else gI S (o + 29) i
def prF (S : gS) (o i : Nat) (rv : Int32) : Int64 := if gJ S (o + 17) i ≤ marR S o rv + 1 then marR S o rv + 1 else gJ S (o + 17) i
def prR (S : gS) (o i : Nat) (sv nd : Int32) (far : Nat) (rc : Nat → Nat) : Int32 := if 0 ≤ sv then agr S o i sv nd far rc 5 else -1
def prS (S : gS) (o i : Nat) (nd : Int32) (far : Nat) (rc : Nat → Nat) : Int32 := if gI S (o + 19) i = 0 then sts S o i nd far rc else gI S (o + 28) i
def prX (sv : Int32) (fv : Int64) : Prop := sv < 0 ∨ 2199023255551 < fv + 59999
theorem prR_ok {S : gS} {o i : Nat} {sv nd : Int32} {far : Nat} {rc : Nat → Nat} (hf : far ≤ 600) (h : ∀ q, q < 5 → rc q ≤ 600) : prR S o i sv nd far rc < 0 ∨ vp_in (prR S o i sv nd far rc) 600 := by
  unfold prR
  by_cases h0 : 0 ≤ sv
  · rw [if_pos h0]; exact agr_ok hf 5 h
  · rw [if_neg h0]; exact Or.inl (by decide)
set_option maxRecDepth 100000 in
set_option maxHeartbeats 4000000 in
theorem sg_pr3 {p : Program} {l : Launch} {e : Env} {R : Room} {s : State} {m : MethodId} {args : Array Value} {below : List Frame} {meth : Method} {c : Code} {cells slots : Nat} {Q : State → Prop} {N0 : Nat} {D : va_G} {cy : Nat → ClassId} {S : gS} {sz : Nat} (hC : gC N0 D cy p s m args c cX7_promises 12 RX7) (hU : gU D cy s) {o k L i0 : Nat} {sv bl rv : Int32} {fv : Int64} (hm : mOK S o) (hi0 : i0 < 8) (hk : k < L) (hL : gI S o 1 = nI L) (hL2 : L + 4 ≤ 90) (hrv : rv < 0 ∨ vp_in rv 600) (hR : 3 ≤ R.frames ∧ 120 ≤ R.locals) (hc0 : cells ≤ R.cells ∧ slots ≤ R.slots)
    (k368 : ∀ (H : Heap) (locs : List Loc) (ls : Array Slot), gP N0 D cy (mAcc S o k L i0 sv (prT S o i0 rv) fv bl) H → H.size = sz → va_S (fun q => N0 ≤ q) s.heap H locs → W p l e R s m args below meth c H locs cells slots Q (F0 m 368 ls [.int 5])) :
    ∀ (H : Heap) (locs : List Loc) (ls : Array Slot), gP N0 D cy S H → H.size = sz → va_S (fun q => N0 ≤ q) s.heap H locs → lv_has ls 12 [(8, .long (fv)), (7, .int (rv)), (6, .int (sv)), (4, .int (bl)), (2, .int (nI i0)), (1, .int (nI k)), (0, .ref (o))] → W p l e R s m args below meth c H locs cells slots Q (F0 m 235 ls []) := by
  intro H locs ls hP hsz hS hl
  have hx := hC.1
  have hb := hC.2.1
  refine lv_aload_n hx hb dX7_promises_235 rfl (lv_at hl 6 rfl) ?_
  refine gt_X7_66 hC hP (mK (hm)) (mR_21 (hm)) dX7_promises_236 ?_
  refine lv_iload_n hx hb dX7_promises_239 rfl (lv_at hl 4 rfl) ?_
  refine g_zald hC hP (mA_21 (hm)) (by rw [mN_21 (hm)]; exact vp_in_nI hi0 (by decide)) dX7_promises_240 ?_
  rw [nI_clamp (by omega)]
  refine lv_if_eq (tgt := 253) hx hb dX7_promises_241 (by decide) (fun c_241 => ?_) (fun c_241 => ?_)
  · refine lv_aload_n hx hb dX7_promises_253 rfl (lv_at hl 6 rfl) ?_
    refine lv_iload hx hb dX7_promises_254 (lv_at hl 1 rfl) ?_
    refine g_callV (As := [.int _]) (rest := []) hC hU hP hS hl.1 (c_X7_termAt l N0 D cy _ _ o _ hm hrv) mL_X7_189 iM_X7_termAt sL_X7_termAt iN_X7 cD_X7_termAt ⟨by decide, by decide, rfl⟩ ⟨Nat.le_trans (by decide) hR.1, Nat.le_trans (by decide) hR.2⟩ ⟨hc0.1, hc0.2⟩ (ci := 7) rfl (by decide) (mK (hm)) rfl (Nat.le_of_ble_eq_true rfl) dX7_promises_256 (fun v S1 H locs hw hP hz hS => ?_)
    obtain ⟨rfl, hS1, hz2⟩ := hw
    replace hS1 := hS1.symm
    subst hS1
    replace hsz := hz2.trans hsz
    refine lv_iconst (v := 1) hx hb dX7_promises_259 (by decide) ?_
    refine lv_iadd hx hb dX7_promises_260 ?_
    refine lv_istore (lv' := [(10, .int _), (8, .long _), (7, .int _), (6, .int _), (4, .int _), (2, .int _), (1, .int _), (0, .ref _)]) hx hb dX7_promises_261 hl (by decide) rfl (fun ls hl => ?_)
    refine sg_pr4 (sz := sz) (sv := sv) (tv := prT S o i0 rv) (fv := fv) (bl := bl) hC hU hm hi0 hk hL hL2 ⟨Nat.le_trans (by decide) hR.1, Nat.le_trans (by decide) hR.2⟩ hc0 k368 _ _ _ hP hsz hS ?_
    unfold prT
    first | (rw [if_pos c_241]; exact lv_sub hl [0, 1, 3, 4, 5, 6, 7] rfl) | (rw [if_neg c_241]; exact lv_sub hl [0, 1, 3, 4, 5, 6, 7] rfl)
  · refine lv_aload_n hx hb dX7_promises_244 rfl (lv_at hl 6 rfl) ?_
    refine gt_X7_96 hC hP (mK (hm)) (mR_31 (hm)) dX7_promises_245 ?_
    refine lv_iload_n hx hb dX7_promises_248 rfl (lv_at hl 4 rfl) ?_
    refine g_iald hC hP (mA_31 (hm)) (by rw [mN_31 (hm)]; exact vp_in_nI hi0 (by decide)) dX7_promises_249 ?_
    rw [nI_clamp (by omega)]
    refine lv_goto (tgt := 261) hx hb dX7_promises_250 (by decide) ?_
    refine lv_istore (lv' := [(10, .int _), (8, .long _), (7, .int _), (6, .int _), (4, .int _), (2, .int _), (1, .int _), (0, .ref _)]) hx hb dX7_promises_261 hl (by decide) rfl (fun ls hl => ?_)
    refine sg_pr4 (sz := sz) (sv := sv) (tv := prT S o i0 rv) (fv := fv) (bl := bl) hC hU hm hi0 hk hL hL2 ⟨Nat.le_trans (by decide) hR.1, Nat.le_trans (by decide) hR.2⟩ hc0 k368 _ _ _ hP hsz hS ?_
    unfold prT
    first | (rw [if_pos c_241]; exact lv_sub hl [0, 1, 3, 4, 5, 6, 7] rfl) | (rw [if_neg c_241]; exact lv_sub hl [0, 1, 3, 4, 5, 6, 7] rfl)

set_option maxRecDepth 100000 in
set_option maxHeartbeats 4000000 in
theorem sg_pr2 {p : Program} {l : Launch} {e : Env} {R : Room} {s : State} {m : MethodId} {args : Array Value} {below : List Frame} {meth : Method} {c : Code} {cells slots : Nat} {Q : State → Prop} {N0 : Nat} {D : va_G} {cy : Nat → ClassId} {S : gS} {sz : Nat} (hC : gC N0 D cy p s m args c cX7_promises 12 RX7) (hU : gU D cy s) {o k L i0 : Nat} {sv bl rv : Int32} {fv : Int64} (hm : mOK S o) (hi0 : i0 < 8) (hk : k < L) (hL : gI S o 1 = nI L) (hL2 : L ≤ 90) (hrv : rv < 0 ∨ vp_in rv 600) (hR : 3 ≤ R.frames ∧ 120 ≤ R.locals) (hc0 : cells ≤ R.cells ∧ slots ≤ R.slots)
    (k216 : prX sv fv → ∀ (H : Heap) (locs : List Loc) (ls : Array Slot), gP N0 D cy (mFail (mRem S o k L) o i0) H → H.size = sz → va_S (fun q => N0 ≤ q) s.heap H locs → W p l e R s m args below meth c H locs cells slots Q (F0 m 216 ls [.int 0]))
    (k234 : ¬ prX sv fv → 90 < L + 4 → ∀ (H : Heap) (locs : List Loc) (ls : Array Slot), gP N0 D cy (sI S o 0 2) H → H.size = sz → va_S (fun q => N0 ≤ q) s.heap H locs → W p l e R s m args below meth c H locs cells slots Q (F0 m 234 ls [.int 0]))
    (k368 : ¬ prX sv fv → L + 4 ≤ 90 → ∀ (H : Heap) (locs : List Loc) (ls : Array Slot), gP N0 D cy (mAcc S o k L i0 sv (prT S o i0 rv) fv bl) H → H.size = sz → va_S (fun q => N0 ≤ q) s.heap H locs → W p l e R s m args below meth c H locs cells slots Q (F0 m 368 ls [.int 5])) :
    ∀ (H : Heap) (locs : List Loc) (ls : Array Slot), gP N0 D cy S H → H.size = sz → va_S (fun q => N0 ≤ q) s.heap H locs → lv_has ls 12 [(8, .long (fv)), (7, .int (rv)), (6, .int (sv)), (4, .int (bl)), (2, .int (nI i0)), (1, .int (nI k)), (0, .ref (o))] → W p l e R s m args below meth c H locs cells slots Q (F0 m 187 ls []) := by
  intro H locs ls hP hsz hS hl
  have hx := hC.1
  have hb := hC.2.1
  refine lv_iload hx hb dX7_promises_187 (lv_at hl 2 rfl) ?_
  refine lv_if_lt (tgt := 205) hx hb dX7_promises_189 (by decide) (fun c_189 => ?_) (fun c_189 => ?_)
  · refine lv_aload_n hx hb dX7_promises_205 rfl (lv_at hl 6 rfl) ?_
    refine lv_iload_n hx hb dX7_promises_206 rfl (lv_at hl 5 rfl) ?_
    refine g_callV (As := [.int _]) (rest := []) hC hU hP hS hl.1 (c_X7_remove l N0 D cy _ _ o k L hm hL (by omega) hk) mL_X7_134 iM_X7_remove sL_X7_remove iN_X7 cD_X7_remove ⟨by decide, by decide, rfl⟩ ⟨Nat.le_trans (by decide) hR.1, Nat.le_trans (by decide) hR.2⟩ ⟨hc0.1, hc0.2⟩ (ci := 7) rfl (by decide) (mK (hm)) rfl (Nat.le_of_ble_eq_true rfl) dX7_promises_207 (fun v S1 H locs hw hP hz hS => ?_)
    obtain ⟨rfl, hS1, hz2⟩ := hw
    replace hS1 := hS1.symm
    subst hS1
    replace hsz := hz2.trans hsz
    refine lv_aload_n hx hb dX7_promises_210 rfl (lv_at hl 6 rfl) ?_
    refine lv_iload_n hx hb dX7_promises_211 rfl (lv_at hl 4 rfl) ?_
    refine g_callV (As := [.int _]) (rest := []) hC hU hP hS hl.1 (c_X7_fail l N0 D cy _ _ o i0 (mD hm) hi0) mL_X7_186 iM_X7_fail sL_X7_fail iN_X7 cD_X7_fail ⟨by decide, by decide, rfl⟩ ⟨Nat.le_trans (by decide) hR.1, Nat.le_trans (by decide) hR.2⟩ ⟨hc0.1, hc0.2⟩ (ci := 7) rfl (by decide) (mK (mD (hm))) rfl (Nat.le_of_ble_eq_true rfl) dX7_promises_212 (fun v S1 H locs hw hP hz hS => ?_)
    obtain ⟨rfl, hS1, hz2⟩ := hw
    replace hS1 := hS1.symm
    subst hS1
    replace hsz := hz2.trans hsz
    refine lv_iconst (v := 0) hx hb dX7_promises_215 (by decide) ?_
    exact k216 (by first | exact Or.inl c_189 | exact Or.inr (Int64.not_le.mp c_202)) _ _ _ hP hsz hS
  · refine lv_lload hx hb dX7_promises_192 (lv_at hl 0 rfl) ?_
    refine lv_ldc2 hx hb hC.2.2.2.1 (hC.2.2.2.2.1 _ kJ_X7_184) dX7_promises_194 ?_
    refine lv_ladd hx hb dX7_promises_197 ?_
    refine lv_ldc2 hx hb hC.2.2.2.1 (hC.2.2.2.2.1 _ kJ_X7_122) dX7_promises_198 ?_
    refine W.lcmp hx hb dX7_promises_201 ?_
    refine lv_if_le (tgt := 217) hx hb dX7_promises_202 (by decide) (fun c_202 => ?_) (fun c_202 => ?_)
    · replace c_202 := lc_le.mp c_202
      refine lv_aload_n hx hb dX7_promises_217 rfl (lv_at hl 6 rfl) ?_
      refine gv_X7_124 hC hP (mK (hm)) (hL) dX7_promises_218 ?_
      refine lv_iconst (v := 4) hx hb dX7_promises_221 (by decide) ?_
      refine lv_iadd hx hb dX7_promises_222 ?_
      rw [show nI L + 4 = nI (L + 4) from nI_add L 4]
      refine lv_bipush (v := 90) hx hb dX7_promises_223 (by decide) ?_
      refine lv_icmp_le (tgt := 235) hx hb dX7_promises_225 (by decide) (fun c_225 => ?_) (fun c_225 => ?_)
      · have h4 : L + 4 ≤ 90 := (nI_leI (a := L + 4) (b := 90) (by omega) (by decide)).mp c_225
        exact sg_pr3 (sz := sz) (sv := sv) (rv := rv) (fv := fv) (bl := bl) hC hU hm hi0 hk hL h4 hrv hR hc0 (k368 (fun h => by rcases h with h | h; exact c_189 h; exact absurd c_202 (Int64.not_le.mpr h)) h4) _ _ _ hP hsz hS (lv_sub hl [0, 1, 2, 3, 4, 5, 6] rfl)
      · refine lv_aload_n hx hb dX7_promises_228 rfl (lv_at hl 6 rfl) ?_
        refine lv_iconst (v := 2) hx hb dX7_promises_229 (by decide) ?_
        refine pt_X7_114 hC hP hS (mK (hm)) dX7_promises_230 (fun H locs hP hz hS => ?_)
        replace hsz := hz.trans hsz
        refine lv_iconst (v := 0) hx hb dX7_promises_233 (by decide) ?_
        exact k234 (fun h => by rcases h with h | h; exact c_189 h; exact absurd c_202 (Int64.not_le.mpr h)) (by have h9 := mt (nI_leI (a := L + 4) (b := 90) (by omega) (by decide)).mpr c_225; omega) _ _ _ hP hsz hS
    · replace c_202 := fun h => c_202 (lc_le.mpr h)
      refine lv_aload_n hx hb dX7_promises_205 rfl (lv_at hl 6 rfl) ?_
      refine lv_iload_n hx hb dX7_promises_206 rfl (lv_at hl 5 rfl) ?_
      refine g_callV (As := [.int _]) (rest := []) hC hU hP hS hl.1 (c_X7_remove l N0 D cy _ _ o k L hm hL (by omega) hk) mL_X7_134 iM_X7_remove sL_X7_remove iN_X7 cD_X7_remove ⟨by decide, by decide, rfl⟩ ⟨Nat.le_trans (by decide) hR.1, Nat.le_trans (by decide) hR.2⟩ ⟨hc0.1, hc0.2⟩ (ci := 7) rfl (by decide) (mK (hm)) rfl (Nat.le_of_ble_eq_true rfl) dX7_promises_207 (fun v S1 H locs hw hP hz hS => ?_)
      obtain ⟨rfl, hS1, hz2⟩ := hw
      replace hS1 := hS1.symm
      subst hS1
      replace hsz := hz2.trans hsz
      refine lv_aload_n hx hb dX7_promises_210 rfl (lv_at hl 6 rfl) ?_
      refine lv_iload_n hx hb dX7_promises_211 rfl (lv_at hl 4 rfl) ?_
      refine g_callV (As := [.int _]) (rest := []) hC hU hP hS hl.1 (c_X7_fail l N0 D cy _ _ o i0 (mD hm) hi0) mL_X7_186 iM_X7_fail sL_X7_fail iN_X7 cD_X7_fail ⟨by decide, by decide, rfl⟩ ⟨Nat.le_trans (by decide) hR.1, Nat.le_trans (by decide) hR.2⟩ ⟨hc0.1, hc0.2⟩ (ci := 7) rfl (by decide) (mK (mD (hm))) rfl (Nat.le_of_ble_eq_true rfl) dX7_promises_212 (fun v S1 H locs hw hP hz hS => ?_)
      obtain ⟨rfl, hS1, hz2⟩ := hw
      replace hS1 := hS1.symm
      subst hS1
      replace hsz := hz2.trans hsz
      refine lv_iconst (v := 0) hx hb dX7_promises_215 (by decide) ?_
      exact k216 (by first | exact Or.inl c_189 | exact Or.inr (Int64.not_le.mp c_202)) _ _ _ hP hsz hS

set_option maxRecDepth 100000 in
set_option maxHeartbeats 4000000 in
theorem sg_pr1 {p : Program} {l : Launch} {e : Env} {R : Room} {s : State} {m : MethodId} {args : Array Value} {below : List Frame} {meth : Method} {c : Code} {cells slots : Nat} {Q : State → Prop} {N0 : Nat} {D : va_G} {cy : Nat → ClassId} {S : gS} {sz : Nat} (hC : gC N0 D cy p s m args c cX7_promises 12 RX7) (hU : gU D cy s) {o k L i0 : Nat} {sv bl rv : Int32} (hm : mOK S o) (hi0 : i0 < 8) (hk : k < L) (hL : gI S o 1 = nI L) (hL2 : L ≤ 90) (hrv : rv < 0 ∨ vp_in rv 600) (hR : 3 ≤ R.frames ∧ 120 ≤ R.locals) (hc0 : cells ≤ R.cells ∧ slots ≤ R.slots)
    (k216 : prX sv (prF S o i0 rv) → ∀ (H : Heap) (locs : List Loc) (ls : Array Slot), gP N0 D cy (mFail (mRem S o k L) o i0) H → H.size = sz → va_S (fun q => N0 ≤ q) s.heap H locs → W p l e R s m args below meth c H locs cells slots Q (F0 m 216 ls [.int 0]))
    (k234 : ¬ prX sv (prF S o i0 rv) → 90 < L + 4 → ∀ (H : Heap) (locs : List Loc) (ls : Array Slot), gP N0 D cy (sI S o 0 2) H → H.size = sz → va_S (fun q => N0 ≤ q) s.heap H locs → W p l e R s m args below meth c H locs cells slots Q (F0 m 234 ls [.int 0]))
    (k368 : ¬ prX sv (prF S o i0 rv) → L + 4 ≤ 90 → ∀ (H : Heap) (locs : List Loc) (ls : Array Slot), gP N0 D cy (mAcc S o k L i0 sv (prT S o i0 rv) (prF S o i0 rv) bl) H → H.size = sz → va_S (fun q => N0 ≤ q) s.heap H locs → W p l e R s m args below meth c H locs cells slots Q (F0 m 368 ls [.int 5])) :
    ∀ (H : Heap) (locs : List Loc) (ls : Array Slot), gP N0 D cy S H → H.size = sz → va_S (fun q => N0 ≤ q) s.heap H locs → lv_has ls 12 [(7, .int (rv)), (6, .int (sv)), (4, .int (bl)), (2, .int (nI i0)), (1, .int (nI k)), (0, .ref (o))] → W p l e R s m args below meth c H locs cells slots Q (F0 m 150 ls []) := by
  intro H locs ls hP hsz hS hl
  have hx := hC.1
  have hb := hC.2.1
  refine lv_aload_n hx hb dX7_promises_150 rfl (lv_at hl 5 rfl) ?_
  refine gt_X7_60 hC hP (mK (hm)) (mR_19 (hm)) dX7_promises_151 ?_
  refine lv_iload_n hx hb dX7_promises_154 rfl (lv_at hl 3 rfl) ?_
  refine g_lald hC hP (mA_19 (hm)) (by rw [mN_19 (hm)]; exact vp_in_nI hi0 (by decide)) dX7_promises_155 ?_
  rw [nI_clamp (by omega)]
  refine lv_aload_n hx hb dX7_promises_156 rfl (lv_at hl 5 rfl) ?_
  refine lv_iload hx hb dX7_promises_157 (lv_at hl 0 rfl) ?_
  refine g_callV (As := [.int _]) (rest := [.long _]) hC hU hP hS hl.1 (c_X7_markAt l N0 D cy _ _ o _ hm hrv) mL_X7_180 iM_X7_markAt sL_X7_markAt iN_X7 cD_X7_markAt ⟨by decide, by decide, rfl⟩ ⟨Nat.le_trans (by decide) hR.1, Nat.le_trans (by decide) hR.2⟩ ⟨hc0.1, hc0.2⟩ (ci := 7) rfl (by decide) (mK (hm)) rfl (Nat.le_of_ble_eq_true rfl) dX7_promises_159 (fun v S1 H locs hw hP hz hS => ?_)
  obtain ⟨rfl, hS1, hz2⟩ := hw
  replace hS1 := hS1.symm
  subst hS1
  replace hsz := hz2.trans hsz
  refine lv_lconst (v := 1) hx hb dX7_promises_162 rfl ?_
  refine lv_ladd hx hb dX7_promises_163 ?_
  refine W.lcmp hx hb dX7_promises_164 ?_
  refine lv_if_le (tgt := 177) hx hb dX7_promises_165 (by decide) (fun c_165 => ?_) (fun c_165 => ?_)
  · replace c_165 := lc_le.mp c_165
    refine lv_aload_n hx hb dX7_promises_177 rfl (lv_at hl 5 rfl) ?_
    refine lv_iload hx hb dX7_promises_178 (lv_at hl 0 rfl) ?_
    refine g_callV (As := [.int _]) (rest := []) hC hU hP hS hl.1 (c_X7_markAt l N0 D cy _ _ o _ hm hrv) mL_X7_180 iM_X7_markAt sL_X7_markAt iN_X7 cD_X7_markAt ⟨by decide, by decide, rfl⟩ ⟨Nat.le_trans (by decide) hR.1, Nat.le_trans (by decide) hR.2⟩ ⟨hc0.1, hc0.2⟩ (ci := 7) rfl (by decide) (mK (hm)) rfl (Nat.le_of_ble_eq_true rfl) dX7_promises_180 (fun v S1 H locs hw hP hz hS => ?_)
    obtain ⟨rfl, hS1, hz2⟩ := hw
    replace hS1 := hS1.symm
    subst hS1
    replace hsz := hz2.trans hsz
    refine lv_lconst (v := 1) hx hb dX7_promises_183 rfl ?_
    refine lv_ladd hx hb dX7_promises_184 ?_
    refine lv_lstore (lv' := [(8, .long _), (7, .int _), (6, .int _), (4, .int _), (2, .int _), (1, .int _), (0, .ref _)]) hx hb dX7_promises_185 hl (by decide) rfl (fun ls hl => ?_)
    refine sg_pr2 (sz := sz) (sv := sv) (rv := rv) (fv := prF S o i0 rv) (bl := bl) hC hU hm hi0 hk hL hL2 hrv hR hc0 k216 k234 k368 _ _ _ hP hsz hS ?_
    unfold prF
    first | (rw [if_pos (show gJ S (o + 17) i0 ≤ marR S o rv + 1 from c_165)]; exact lv_sub hl [0, 1, 2, 3, 4, 5, 6] rfl) | (rw [if_neg (show ¬ gJ S (o + 17) i0 ≤ marR S o rv + 1 from c_165)]; exact lv_sub hl [0, 1, 2, 3, 4, 5, 6] rfl)
  · replace c_165 := fun h => c_165 (lc_le.mpr h)
    refine lv_aload_n hx hb dX7_promises_168 rfl (lv_at hl 5 rfl) ?_
    refine gt_X7_60 hC hP (mK (hm)) (mR_19 (hm)) dX7_promises_169 ?_
    refine lv_iload_n hx hb dX7_promises_172 rfl (lv_at hl 3 rfl) ?_
    refine g_lald hC hP (mA_19 (hm)) (by rw [mN_19 (hm)]; exact vp_in_nI hi0 (by decide)) dX7_promises_173 ?_
    rw [nI_clamp (by omega)]
    refine lv_goto (tgt := 185) hx hb dX7_promises_174 (by decide) ?_
    refine lv_lstore (lv' := [(8, .long _), (7, .int _), (6, .int _), (4, .int _), (2, .int _), (1, .int _), (0, .ref _)]) hx hb dX7_promises_185 hl (by decide) rfl (fun ls hl => ?_)
    refine sg_pr2 (sz := sz) (sv := sv) (rv := rv) (fv := prF S o i0 rv) (bl := bl) hC hU hm hi0 hk hL hL2 hrv hR hc0 k216 k234 k368 _ _ _ hP hsz hS ?_
    unfold prF
    first | (rw [if_pos (show gJ S (o + 17) i0 ≤ marR S o rv + 1 from c_165)]; exact lv_sub hl [0, 1, 2, 3, 4, 5, 6] rfl) | (rw [if_neg (show ¬ gJ S (o + 17) i0 ≤ marR S o rv + 1 from c_165)]; exact lv_sub hl [0, 1, 2, 3, 4, 5, 6] rfl)

set_option maxRecDepth 100000 in
set_option maxHeartbeats 4000000 in
theorem sg_pr0 {p : Program} {l : Launch} {e : Env} {R : Room} {s : State} {m : MethodId} {args : Array Value} {below : List Frame} {meth : Method} {c : Code} {cells slots : Nat} {Q : State → Prop} {N0 : Nat} {D : va_G} {cy : Nat → ClassId} {S : gS} {sz : Nat} (hC : gC N0 D cy p s m args c cX7_promises 12 RX7) (hU : gU D cy s) {o k L i0 : Nat} {sv bl : Int32} (hm : mOK S o) (hi0 : i0 < 8) (hk : k < L) (hL : gI S o 1 = nI L) (hL2 : L ≤ 90) (hR : 3 ≤ R.frames ∧ 120 ≤ R.locals) (hc0 : cells ≤ R.cells ∧ slots ≤ R.slots) {far : Nat} {nd : Int32} {rc : Nat → Nat} (hfar : gI S (o + 8) k = nI far) (hfar2 : far ≤ 600) (hrc : ∀ n, n < 5 → gI S (o + 23) (5 * i0 + n) = nI (rc n) ∧ rc n ≤ 600)
    (k216 : prX sv (prF S o i0 (prR S o i0 sv nd far rc)) → ∀ (H : Heap) (locs : List Loc) (ls : Array Slot), gP N0 D cy (mFail (mRem S o k L) o i0) H → H.size = sz → va_S (fun q => N0 ≤ q) s.heap H locs → W p l e R s m args below meth c H locs cells slots Q (F0 m 216 ls [.int 0]))
    (k234 : ¬ prX sv (prF S o i0 (prR S o i0 sv nd far rc)) → 90 < L + 4 → ∀ (H : Heap) (locs : List Loc) (ls : Array Slot), gP N0 D cy (sI S o 0 2) H → H.size = sz → va_S (fun q => N0 ≤ q) s.heap H locs → W p l e R s m args below meth c H locs cells slots Q (F0 m 234 ls [.int 0]))
    (k368 : ¬ prX sv (prF S o i0 (prR S o i0 sv nd far rc)) → L + 4 ≤ 90 → ∀ (H : Heap) (locs : List Loc) (ls : Array Slot), gP N0 D cy (mAcc S o k L i0 sv (prT S o i0 (prR S o i0 sv nd far rc)) (prF S o i0 (prR S o i0 sv nd far rc)) bl) H → H.size = sz → va_S (fun q => N0 ≤ q) s.heap H locs → W p l e R s m args below meth c H locs cells slots Q (F0 m 368 ls [.int 5])) :
    ∀ (H : Heap) (locs : List Loc) (ls : Array Slot), gP N0 D cy S H → H.size = sz → va_S (fun q => N0 ≤ q) s.heap H locs → lv_has ls 12 [(6, .int (sv)), (4, .int (bl)), (3, .int (nd)), (2, .int (nI i0)), (1, .int (nI k)), (0, .ref (o))] → W p l e R s m args below meth c H locs cells slots Q (F0 m 125 ls []) := by
  intro H locs ls hP hsz hS hl
  have hx := hC.1
  have hb := hC.2.1
  refine lv_iload hx hb dX7_promises_125 (lv_at hl 0 rfl) ?_
  refine lv_if_ge (tgt := 134) hx hb dX7_promises_127 (by decide) (fun c_127 => ?_) (fun c_127 => ?_)
  · refine lv_aload_n hx hb dX7_promises_134 rfl (lv_at hl 5 rfl) ?_
    refine lv_iload_n hx hb dX7_promises_135 rfl (lv_at hl 3 rfl) ?_
    refine lv_iload hx hb dX7_promises_136 (lv_at hl 0 rfl) ?_
    refine lv_iload_n hx hb dX7_promises_138 rfl (lv_at hl 2 rfl) ?_
    refine lv_aload_n hx hb dX7_promises_139 rfl (lv_at hl 5 rfl) ?_
    refine gt_X7_32 hC hP (mK (hm)) (mR_9 (hm)) dX7_promises_140 ?_
    refine lv_iload_n hx hb dX7_promises_143 rfl (lv_at hl 4 rfl) ?_
    refine g_iald hC hP (mA_9 (hm)) (by rw [mN_9 (hm)]; exact vp_in_nI (by omega) (by decide)) dX7_promises_144 ?_
    rw [nI_clamp (by omega), hfar]
    refine g_callV (As := [.int _, .int _, .int _, .int _]) (rest := []) hC hU hP hS hl.1 (c_X7_agreed l N0 D cy _ _ o i0 far sv nd rc hm hi0 hfar2 hrc) mL_X7_160 iM_X7_agreed sL_X7_agreed iN_X7 cD_X7_agreed ⟨by decide, by decide, rfl⟩ ⟨Nat.le_trans (by decide) hR.1, Nat.le_trans (by decide) hR.2⟩ ⟨hc0.1, hc0.2⟩ (ci := 7) rfl (by decide) (mK (hm)) rfl (Nat.le_of_ble_eq_true rfl) dX7_promises_145 (fun v S1 H locs hw hP hz hS => ?_)
    obtain ⟨rfl, hS1, hz2⟩ := hw
    replace hS1 := hS1.symm
    subst hS1
    replace hsz := hz2.trans hsz
    refine lv_istore (lv' := [(7, .int _), (6, .int _), (4, .int _), (3, .int _), (2, .int _), (1, .int _), (0, .ref _)]) hx hb dX7_promises_148 hl (by decide) rfl (fun ls hl => ?_)
    refine sg_pr1 (sz := sz) (sv := sv) (rv := prR S o i0 sv nd far rc) (bl := bl) hC hU hm hi0 hk hL hL2 (prR_ok hfar2 (fun q hq => (hrc q hq).2)) hR hc0 k216 k234 k368 _ _ _ hP hsz hS ?_
    unfold prR
    first | (rw [if_pos c_127]; exact lv_sub hl [0, 1, 2, 4, 5, 6] rfl) | (rw [if_neg c_127]; exact lv_sub hl [0, 1, 2, 4, 5, 6] rfl)
  · refine lv_iconst (v := (-1)) hx hb dX7_promises_130 (by decide) ?_
    refine lv_goto (tgt := 148) hx hb dX7_promises_131 (by decide) ?_
    refine lv_istore (lv' := [(7, .int _), (6, .int _), (4, .int _), (3, .int _), (2, .int _), (1, .int _), (0, .ref _)]) hx hb dX7_promises_148 hl (by decide) rfl (fun ls hl => ?_)
    refine sg_pr1 (sz := sz) (sv := sv) (rv := prR S o i0 sv nd far rc) (bl := bl) hC hU hm hi0 hk hL hL2 (prR_ok hfar2 (fun q hq => (hrc q hq).2)) hR hc0 k216 k234 k368 _ _ _ hP hsz hS ?_
    unfold prR
    first | (rw [if_pos c_127]; exact lv_sub hl [0, 1, 2, 4, 5, 6] rfl) | (rw [if_neg c_127]; exact lv_sub hl [0, 1, 2, 4, 5, 6] rfl)

