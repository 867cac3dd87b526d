/-- n letters ACCEPT -/
def mAL (S : gS) (o L i : Nat) (sv tv : Int32) (mk : Int64) (bl : Int32) : Nat → gS
  | 0 => S
  | n + 1 => mSend (sJ (sI (sI (mAL S o L i sv tv mk bl n) (o + 5) (L + n) sv) (o + 6) (L + n) tv) (o + 7) (L + n) mk) o (L + n) 2 (nI i) (nI n) bl 0
theorem mLL {S : gS} {o L i o' : Nat} {sv tv bl : Int32} {mk : Int64} : ∀ n : Nat, mOK S o' → mOK (mAL S o L i sv tv mk bl n) o'
  | 0, h => h
  | n + 1, h => mS (mJ (mI (mI (mLL n h))))
theorem mAL_1 {S : gS} {o L i : Nat} {sv tv bl : Int32} {mk : Int64} (hL : gI S o 1 = nI L) : ∀ n : Nat, gI (mAL S o L i sv tv mk bl n) o 1 = nI (L + n)
  | 0 => hL
  | n + 1 => by unfold mAL; rw [gI_mSend1]; rfl
def mAcc0 (S : gS) (o k L i : Nat) (sv tv : Int32) (fv : Int64) : gS := sJ (sI (sI (mFg (sI (mRem S o k L) (o + 18) i 2) o i 5) (o + 24) i sv) (o + 25) i tv) (o + 26) i fv
def mAcc (S : gS) (o k L i : Nat) (sv tv : Int32) (fv : Int64) (bl : Int32) : gS := mAL (mAcc0 S o k L i sv tv fv) o (L - 1) i sv tv (fv + 59999) bl 5
set_option maxRecDepth 100000 in
set_option maxHeartbeats 4000000 in
theorem lp_X7_promises {p : Program} {l : Launch} {e : Env} {R : Room} {s : State} {m : MethodId} {args : Array Value} {below : List Frame} {meth : Method} {c : Code} {cells slots : Nat} {Q : State → Prop} {N0 : Nat} {D : va_G} {cy : Nat → ClassId} {S : gS} {sz : Nat} (hC : gC N0 D cy p s m args c cX7_promises 12 RX7) (hU : gU D cy s) {o L i0 : Nat} {sv tv bl : Int32} {fv : Int64} (hm : mOK S o) (hL : gI S o 1 = nI L) (hL2 : L + 5 ≤ 99) (hR : 1 ≤ R.frames ∧ 40 ≤ R.locals) (hc0 : cells ≤ R.cells ∧ slots ≤ R.slots)
    (hexit : ∀ (H : Heap) (locs : List Loc) (ls : Array Slot), gP N0 D cy (mAL S o L i0 sv tv (fv + 59999) bl 5) H → H.size = sz → va_S (fun q => N0 ≤ q) s.heap H locs → lv_has ls 12 [(11, .int (nI 5)), (10, .int (tv)), (8, .long (fv)), (6, .int (sv)), (4, .int (bl)), (2, .int (nI i0)), (0, .ref (o))] → W p l e R s m args below meth c H locs cells slots Q (F0 m 367 ls [])) :
    ∀ (n i : Nat) (H : Heap) (locs : List Loc) (ls : Array Slot), i + n = 5 → gP N0 D cy (mAL S o L i0 sv tv (fv + 59999) bl i) H → H.size = sz → va_S (fun q => N0 ≤ q) s.heap H locs → lv_has ls 12 [(11, .int (nI i)), (10, .int (tv)), (8, .long (fv)), (6, .int (sv)), (4, .int (bl)), (2, .int (nI i0)), (0, .ref (o))] → W p l e R s m args below meth c H locs cells slots Q (F0 m 307 ls []) := by
  have hx := hC.1
  have hb := hC.2.1
  intro n
  induction n with
  | zero =>
    intro i H locs ls hi hP hsz hS hl
    have hi8 : i = 5 := by omega
    subst hi8
    refine lv_iload hx hb dX7_promises_307 (lv_at hl 0 rfl) ?_
    refine lv_iconst (v := 5) hx hb dX7_promises_309 (by decide) ?_
    refine lv_icmp_ge (tgt := 367) hx hb dX7_promises_310 (by decide) (fun c_310 => ?_) (fun c_310 => ?_)
    · exact hexit _ _ _ hP hsz hS (lv_sub hl [0, 1, 2, 3, 4, 5, 6] rfl)
    · exact absurd (by decide) c_310
  | succ n ih =>
    intro i H locs ls hi hP hsz hS hl
    have hi8 : i < 5 := by omega
    refine lv_iload hx hb dX7_promises_307 (lv_at hl 0 rfl) ?_
    refine lv_iconst (v := 5) hx hb dX7_promises_309 (by decide) ?_
    refine lv_icmp_ge (tgt := 367) hx hb dX7_promises_310 (by decide) (fun c_310 => ?_) (fun c_310 => ?_)
    · exact absurd c_310 (nI_ge (a := i) (b := 5) (by omega) (by decide))
    · refine lv_aload_n hx hb dX7_promises_313 rfl (lv_at hl 6 rfl) ?_
      refine gt_X7_22 hC hP (mK (mLL _ (hm))) (mR_6 (mLL _ (hm))) dX7_promises_314 ?_
      refine lv_aload_n hx hb dX7_promises_317 rfl (lv_at hl 6 rfl) ?_
      refine gv_X7_124 hC hP (mK (mLL _ (hm))) (mAL_1 hL i) dX7_promises_318 ?_
      refine lv_iload hx hb dX7_promises_321 (lv_at hl 3 rfl) ?_
      refine g_iast hC hP hS (mA_6 (mLL _ (hm))) (by rw [mN_6 (mLL _ (hm))]; exact vp_in_nI (by omega) (by decide)) dX7_promises_323 (fun H locs hP hz hS => ?_)
      replace hsz := hz.trans hsz
      rw [nI_clamp (by omega)] at hP
      refine lv_aload_n hx hb dX7_promises_324 rfl (lv_at hl 6 rfl) ?_
      refine gt_X7_25 hC hP (mK (mI (mLL _ (hm)))) (mR_7 (mI (mLL _ (hm)))) dX7_promises_325 ?_
      refine lv_aload_n hx hb dX7_promises_328 rfl (lv_at hl 6 rfl) ?_
      refine gv_X7_124 hC hP (mK (mI (mLL _ (hm)))) (vI (by first | exact Or.inr (by decide) | exact Or.inl (by omega)) (mAL_1 hL i)) dX7_promises_329 ?_
      refine lv_iload hx hb dX7_promises_332 (lv_at hl 1 rfl) ?_
      refine g_iast hC hP hS (mA_7 (mI (mLL _ (hm)))) (by rw [mN_7 (mI (mLL _ (hm)))]; exact vp_in_nI (by omega) (by decide)) dX7_promises_334 (fun H locs hP hz hS => ?_)
      replace hsz := hz.trans hsz
      rw [nI_clamp (by omega)] at hP
      refine lv_aload_n hx hb dX7_promises_335 rfl (lv_at hl 6 rfl) ?_
      refine gt_X7_28 hC hP (mK (mI (mI (mLL _ (hm))))) (mR_8 (mI (mI (mLL _ (hm))))) dX7_promises_336 ?_
      refine lv_aload_n hx hb dX7_promises_339 rfl (lv_at hl 6 rfl) ?_
      refine gv_X7_124 hC hP (mK (mI (mI (mLL _ (hm))))) (vI (by first | exact Or.inr (by decide) | exact Or.inl (by omega)) (vI (by first | exact Or.inr (by decide) | exact Or.inl (by omega)) (mAL_1 hL i))) dX7_promises_340 ?_
      refine lv_lload hx hb dX7_promises_343 (lv_at hl 2 rfl) ?_
      refine lv_ldc2 hx hb hC.2.2.2.1 (hC.2.2.2.2.1 _ kJ_X7_184) dX7_promises_345 ?_
      refine lv_ladd hx hb dX7_promises_348 ?_
      refine g_last hC hP hS (mA_8 (mI (mI (mLL _ (hm))))) (by rw [mN_8 (mI (mI (mLL _ (hm))))]; exact vp_in_nI (by omega) (by decide)) dX7_promises_349 (fun H locs hP hz hS => ?_)
      replace hsz := hz.trans hsz
      rw [nI_clamp (by omega)] at hP
      refine lv_aload_n hx hb dX7_promises_350 rfl (lv_at hl 6 rfl) ?_
      refine lv_iconst (v := 2) hx hb dX7_promises_351 (by decide) ?_
      refine lv_iload_n hx hb dX7_promises_352 rfl (lv_at hl 5 rfl) ?_
      refine lv_iload hx hb dX7_promises_353 (lv_at hl 0 rfl) ?_
      refine lv_iload hx hb dX7_promises_355 (lv_at hl 4 rfl) ?_
      refine lv_iconst (v := 0) hx hb dX7_promises_357 (by decide) ?_
      refine g_callV (As := [.int _, .int _, .int _, .int _, .int _]) (rest := []) hC hU hP hS hl.1 (c_X7_send l N0 D cy _ _ o (L + i) _ _ _ _ _ (mJ (mI (mI (mLL i hm)))) (vJ (vI (Or.inl (by omega)) (vI (Or.inl (by omega)) (mAL_1 hL i)))) (by omega)) mL_X7_145 iM_X7_send sL_X7_send iN_X7 cD_X7_send ⟨by decide, by decide, rfl⟩ ⟨Nat.le_trans (by decide) hR.1, Nat.le_trans (by decide) hR.2⟩ ⟨hc0.1, hc0.2⟩ (ci := 7) rfl (by decide) (mK (mJ (mI (mI (mLL _ (hm)))))) rfl (Nat.le_of_ble_eq_true rfl) dX7_promises_358 (fun v S1 H locs hw hP hz hS => ?_)
      obtain ⟨rfl, hS1, hz2⟩ := hw
      replace hS1 := hS1.symm
      subst hS1
      replace hsz := hz2.trans hsz
      refine lv_iinc (v := _ + 1) (lv' := [(11, .int _), (10, .int _), (8, .long _), (6, .int _), (4, .int _), (2, .int _), (0, .ref _)]) hx hb dX7_promises_361 hl (k := 0) rfl rfl (by decide) rfl (fun ls hl => ?_)
      refine lv_goto (tgt := 307) hx hb dX7_promises_364 (by decide) ?_
      exact ih (i + 1) _ _ _ (by omega) (by exact hP) hsz hS (by rw [nI_succ]; exact lv_sub hl [0, 1, 2, 3, 4, 5, 6] rfl)

set_option maxRecDepth 100000 in
set_option maxHeartbeats 4000000 in
theorem sg_pr4 {p : Program} {l : Launch} {e : Env} {R : Room} {s : State} {m : MethodId} {args : Array Value} {below : List Frame} {meth : Method} {c : Code} {cells slots : Nat} {Q : State → Prop} {N0 : Nat} {D : va_G} {cy : Nat → ClassId} {S : gS} {sz : Nat} (hC : gC N0 D cy p s m args c cX7_promises 12 RX7) (hU : gU D cy s) {o k L i0 : Nat} {sv tv bl : Int32} {fv : Int64} (hm : mOK S o) (hi0 : i0 < 8) (hk : k < L) (hL : gI S o 1 = nI L) (hL2 : L + 4 ≤ 90) (hR : 2 ≤ R.frames ∧ 80 ≤ R.locals) (hc0 : cells ≤ R.cells ∧ slots ≤ R.slots)
    (k368 : ∀ (H : Heap) (locs : List Loc) (ls : Array Slot), gP N0 D cy (mAcc S o k L i0 sv tv fv bl) H → H.size = sz → va_S (fun q => N0 ≤ q) s.heap H locs → W p l e R s m args below meth c H locs cells slots Q (F0 m 368 ls [.int 5])) :
    ∀ (H : Heap) (locs : List Loc) (ls : Array Slot), gP N0 D cy S H → H.size = sz → va_S (fun q => N0 ≤ q) s.heap H locs → lv_has ls 12 [(10, .int (tv)), (8, .long (fv)), (6, .int (sv)), (4, .int (bl)), (2, .int (nI i0)), (1, .int (nI k)), (0, .ref (o))] → W p l e R s m args below meth c H locs cells slots Q (F0 m 263 ls []) := by
  intro H locs ls hP hsz hS hl
  have hx := hC.1
  have hb := hC.2.1
  refine lv_aload_n hx hb dX7_promises_263 rfl (lv_at hl 6 rfl) ?_
  refine lv_iload_n hx hb dX7_promises_264 rfl (lv_at hl 5 rfl) ?_
  refine g_callV (As := [.int _]) (rest := []) hC hU hP hS hl.1 (c_X7_remove l N0 D cy _ _ o k L hm hL (by omega) hk) mL_X7_134 iM_X7_remove sL_X7_remove iN_X7 cD_X7_remove ⟨by decide, by decide, rfl⟩ ⟨Nat.le_trans (by decide) hR.1, Nat.le_trans (by decide) hR.2⟩ ⟨hc0.1, hc0.2⟩ (ci := 7) rfl (by decide) (mK (hm)) rfl (Nat.le_of_ble_eq_true rfl) dX7_promises_265 (fun v S1 H locs hw hP hz hS => ?_)
  obtain ⟨rfl, hS1, hz2⟩ := hw
  replace hS1 := hS1.symm
  subst hS1
  replace hsz := hz2.trans hsz
  refine lv_aload_n hx hb dX7_promises_268 rfl (lv_at hl 6 rfl) ?_
  refine gt_X7_63 hC hP (mK (mD (hm))) (mR_20 (mD (hm))) dX7_promises_269 ?_
  refine lv_iload_n hx hb dX7_promises_272 rfl (lv_at hl 4 rfl) ?_
  refine lv_iconst (v := 2) hx hb dX7_promises_273 (by decide) ?_
  refine g_iast hC hP hS (mA_20 (mD (hm))) (by rw [mN_20 (mD (hm))]; exact vp_in_nI hi0 (by decide)) dX7_promises_274 (fun H locs hP hz hS => ?_)
  replace hsz := hz.trans hsz
  rw [nI_clamp (by omega)] at hP
  refine lv_aload_n hx hb dX7_promises_275 rfl (lv_at hl 6 rfl) ?_
  refine lv_iload_n hx hb dX7_promises_276 rfl (lv_at hl 4 rfl) ?_
  refine g_callV (As := [.int _]) (rest := []) hC hU hP hS hl.1 (c_X7_forgetCounts l N0 D cy _ _ o i0 (mI (mD hm)) hi0) mL_X7_138 iM_X7_forgetCounts sL_X7_forgetCounts iN_X7 cD_X7_forgetCounts ⟨by decide, by decide, rfl⟩ ⟨Nat.le_trans (by decide) hR.1, Nat.le_trans (by decide) hR.2⟩ ⟨hc0.1, hc0.2⟩ (ci := 7) rfl (by decide) (mK (mI (mD (hm)))) rfl (Nat.le_of_ble_eq_true rfl) dX7_promises_277 (fun v S1 H locs hw hP hz hS => ?_)
  obtain ⟨rfl, hS1, hz2⟩ := hw
  replace hS1 := hS1.symm
  subst hS1
  replace hsz := hz2.trans hsz
  refine lv_aload_n hx hb dX7_promises_280 rfl (lv_at hl 6 rfl) ?_
  refine gt_X7_81 hC hP (mK (mG (mI (mD (hm))))) (mR_26 (mG (mI (mD (hm))))) dX7_promises_281 ?_
  refine lv_iload_n hx hb dX7_promises_284 rfl (lv_at hl 4 rfl) ?_
  refine lv_iload hx hb dX7_promises_285 (lv_at hl 2 rfl) ?_
  refine g_iast hC hP hS (mA_26 (mG (mI (mD (hm))))) (by rw [mN_26 (mG (mI (mD (hm))))]; exact vp_in_nI hi0 (by decide)) dX7_promises_287 (fun H locs hP hz hS => ?_)
  replace hsz := hz.trans hsz
  rw [nI_clamp (by omega)] at hP
  refine lv_aload_n hx hb dX7_promises_288 rfl (lv_at hl 6 rfl) ?_
  refine gt_X7_84 hC hP (mK (mI (mG (mI (mD (hm)))))) (mR_27 (mI (mG (mI (mD (hm)))))) dX7_promises_289 ?_
  refine lv_iload_n hx hb dX7_promises_292 rfl (lv_at hl 4 rfl) ?_
  refine lv_iload hx hb dX7_promises_293 (lv_at hl 0 rfl) ?_
  refine g_iast hC hP hS (mA_27 (mI (mG (mI (mD (hm)))))) (by rw [mN_27 (mI (mG (mI (mD (hm)))))]; exact vp_in_nI hi0 (by decide)) dX7_promises_295 (fun H locs hP hz hS => ?_)
  replace hsz := hz.trans hsz
  rw [nI_clamp (by omega)] at hP
  refine lv_aload_n hx hb dX7_promises_296 rfl (lv_at hl 6 rfl) ?_
  refine gt_X7_87 hC hP (mK (mI (mI (mG (mI (mD (hm))))))) (mR_28 (mI (mI (mG (mI (mD (hm))))))) dX7_promises_297 ?_
  refine lv_iload_n hx hb dX7_promises_300 rfl (lv_at hl 4 rfl) ?_
  refine lv_lload hx hb dX7_promises_301 (lv_at hl 1 rfl) ?_
  refine g_last hC hP hS (mA_28 (mI (mI (mG (mI (mD (hm))))))) (by rw [mN_28 (mI (mI (mG (mI (mD (hm))))))]; exact vp_in_nI hi0 (by decide)) dX7_promises_303 (fun H locs hP hz hS => ?_)
  replace hsz := hz.trans hsz
  rw [nI_clamp (by omega)] at hP
  refine lv_iconst (v := 0) hx hb dX7_promises_304 (by decide) ?_
  refine lv_istore (lv' := [(11, .int _), (10, .int _), (8, .long _), (6, .int _), (4, .int _), (2, .int _), (1, .int _), (0, .ref _)]) hx hb dX7_promises_305 hl (by decide) rfl (fun ls hl => ?_)
  refine lp_X7_promises (sz := sz) (L := L - 1) (i0 := i0) (sv := sv) (tv := tv) (fv := fv) hC hU (mJ (mI (mI (mG (mI (mD hm)))))) (vJ (vI (Or.inl (by omega)) (vI (Or.inl (by omega)) (vG (by omega) (vI (Or.inl (by omega)) gI_mRem1))))) (by omega) ⟨Nat.le_trans (by decide) hR.1, Nat.le_trans (by decide) hR.2⟩ hc0 (fun H locs ls hP hsz hS hl => ?_) 5 0 _ _ _ rfl hP hsz hS (lv_sub hl [0, 1, 2, 3, 4, 5, 7] rfl)
  refine lv_iconst (v := 5) hx hb dX7_promises_367 (by decide) ?_
  exact k368 _ _ _ hP hsz hS

