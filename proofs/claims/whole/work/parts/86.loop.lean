set_option linter.constructorNameAsVariable false
theorem LI.mono {x J : Nat} {S : gS} (h : LI x J S) (hJ : J + 1 ≤ 512) : LI x (J + 1) S := by
  obtain ⟨pm, L, t, G, hR, hk, hn⟩ := h
  exact ⟨pm, L, t, G, hR.mono (Nat.le_succ J) hJ, hk, hn⟩
theorem hi_of {i L : Nat} (h : ¬ (Int32.ofNat L - 4 < nI i)) (hL : L ≤ 2048) (hi : i ≤ 4096) : i + 4 ≤ L := by
  have h1 := Int32.le_iff_toInt_le.mp (Int32.not_lt.mp h)
  rw [nI_toInt (by omega), Int32.toInt_sub, show (Int32.ofNat L).toInt = (L : Int) from nI_toInt (by omega), show (4 : Int32).toInt = 4 from rfl, Int.bmod_eq_of_le (by omega) (by omega)] at h1
  omega
set_option maxRecDepth 100000 in
set_option maxHeartbeats 4000000 in
theorem lw_letters {p : Program} {l : Launch} {e : Env} {s : State} {m : MethodId} {below : List Frame} {meth : Method} {c : Code} {Q : State → Prop} {N0 : Nat} {D : va_G} {cy : Nat → ClassId} {S : gS} {H : Heap} {locs : List Loc} {ls : Array Slot} {cells slots x J i b L : Nat} {xs : Nat → Int32} (hls : l.stackTraces = false) (hC : gC N0 D cy p s m #[Value.ref b] c cL_law 8 RL) (hU : gU D cy s) (hZ : gZL N0 s) (hX : va_X b L xs s s.heap) (hbl : b < s.heap.size) (hbA : ¬ N0 ≤ b) (hJ : J + 1 ≤ 512) (hi : i + 4 ≤ L) (hL : L ≤ 2048) (hLI : LI x J S) (hP : gP N0 D cy S H) (hS : va_S (fun q => N0 ≤ q) s.heap H locs) (hl : lv_has ls 8 [(0, .ref b), (1, .ref x), (2, .ref (x + 214)), (3, .ref (x + 249)), (4, .int (nI i))]) (hc1 : cells + 3 ≤ 601024) (hc2 : slots + 13 ≤ 7293034)
    (kk : ∀ (S2 : gS) (H2 : Heap) (locs2 : List Loc) (ls2 : Array Slot) (k n : Nat), LI x (J + 1) S2 → gP N0 D cy S2 H2 → va_S (fun q => N0 ≤ q) s.heap H2 locs2 → lv_has ls2 8 [(0, .ref b), (1, .ref x), (2, .ref (x + 214)), (3, .ref (x + 249)), (4, .int (nI i))] → k ≤ cells + 3 → n ≤ slots + 13 → W p l e room_1 s m #[Value.ref b] below meth c H2 locs2 k n Q (F0 m 928 ls2 [])) : W p l e room_1 s m #[Value.ref b] below meth c H locs cells slots Q (F0 m 364 ls []) := by
  have hx := hC.1
  have hb := hC.2.1
  obtain ⟨q1, q2, q3, q4, q5, q6⟩ := op_letters hLI hJ
  refine lv_aload_n hx hb dL_law_364 rfl (lv_at hl 1 rfl) ?_
  refine g_callV (As := []) (rest := []) hC hU hP hS hl.1 (c_X6_letters l N0 D cy S _ x (x + 4) q1 q2 q3) mL_L_95 iM_X6_letters sL_X6_letters iN_X6 cD_X6_letters ⟨by decide, by decide, rfl⟩ ⟨by decide, by decide⟩ ⟨by show cells + 0 ≤ 601024; omega, by show slots + 0 ≤ 7293034; omega⟩ (ci := 6) rfl (by decide) q1 rfl (Nat.le_of_ble_eq_true rfl) dL_law_365 (fun v S1 H locs hw hP1 hz hS1 => ?_)
  obtain ⟨rfl, rfl, hz9⟩ := hw
  have hP := hP1
  have hS := hS1
  refine lv_aload_n hx hb dL_law_368 rfl (lv_at hl 2 rfl) ?_
  refine g_callV (As := []) (rest := [.int _]) hC hU hP hS hl.1 (c_X7_letters l N0 D cy _ _ (x + 214) q4) mL_L_98 iM_X7_letters sL_X7_letters iN_X7 cD_X7_letters ⟨by decide, by decide, rfl⟩ ⟨by decide, by decide⟩ ⟨by show cells + 0 + 0 ≤ 601024; omega, by show slots + 0 + 0 ≤ 7293034; omega⟩ (ci := 7) rfl (by decide) q4.1 rfl (Nat.le_of_ble_eq_true rfl) dL_law_369 (fun v S2 H locs hw hP2 hz hS2 => ?_)
  obtain ⟨rfl, rfl, hz8⟩ := hw
  have hP := hP2
  have hS := hS2
  refine lv_icmp_eq (tgt := 928) hx hb dL_law_372 (by decide) (fun c_372 => ?_) (fun c_372 => ?_)
  · exact kk _ _ _ _ _ _ q6 hP hS (lv_sub hl [0, 1, 2, 3, 4] rfl) (by show cells + 0 + 0 ≤ cells + 3; omega) (by show slots + 0 + 0 ≤ slots + 13; omega)
  · exact absurd q5 c_372
set_option maxRecDepth 100000 in
set_option maxHeartbeats 4000000 in
theorem lw_loop {p : Program} {l : Launch} {e : Env} {s : State} {m : MethodId} {below : List Frame} {meth : Method} {c : Code} {Q : State → Prop} {N0 : Nat} {D : va_G} {cy : Nat → ClassId} {x b L : Nat} {xs : Nat → Int32} (hls : l.stackTraces = false) (hC : gC N0 D cy p s m #[Value.ref b] c cL_law 8 RL) (hU : gU D cy s) (hZ : gZL N0 s) (hX : va_X b L xs s s.heap) (hbl : b < s.heap.size) (hbA : ¬ N0 ≤ b) (hL : L ≤ 2048)
    (hexit : ∀ (H : Heap) (locs : List Loc) (ls : Array Slot) (k n : Nat), va_S (fun q => N0 ≤ q) s.heap H locs → k ≤ 601024 → n ≤ 7293034 → W p l e room_1 s m #[Value.ref b] below meth c H locs k n Q (F0 m 934 ls [])) :
    ∀ (r J : Nat) (S : gS) (H : Heap) (locs : List Loc) (ls : Array Slot) (cells slots : Nat), r + J = 513 → LI x J S → gP N0 D cy S H → va_S (fun q => N0 ≤ q) s.heap H locs → lv_has ls 8 [(0, .ref b), (1, .ref x), (2, .ref (x + 214)), (3, .ref (x + 249)), (4, .int (nI (4 * J)))] → cells ≤ 300 + 3 * J → slots ≤ 7000 + 13 * J → W p l e room_1 s m #[Value.ref b] below meth c H locs cells slots Q (F0 m 23 ls []) := by
  have hx := hC.1
  have hb := hC.2.1
  intro r
  induction r with
  | zero =>
    intro J S H locs ls cells slots hrJ hLI hP hS hl hc hsl
    refine lv_iload hx hb dL_law_23 (lv_at hl 4 rfl) ?_
    refine lv_aload_n hx hb dL_law_25 rfl (lv_at hl 0 rfl) ?_
    refine va_slen hx hb hX hbl hbA hS dL_law_26 ?_
    refine lv_iconst (v := 4) hx hb dL_law_27 (by decide) ?_
    refine lv_isub hx hb dL_law_28 ?_
    refine lv_icmp_gt (tgt := 934) hx hb dL_law_29 (by decide) (fun c_29 => ?_) (fun c_29 => ?_)
    · exact hexit _ _ _ _ _ hS (by omega) (by omega)
    · exact absurd (hi_of c_29 hL (by omega)) (by omega)
  | succ r ih =>
    intro J S H locs ls cells slots hrJ hLI hP hS hl hc hsl
    have hk : ∀ (S2 : gS) (H2 : Heap) (locs2 : List Loc) (ls2 : Array Slot) (k n : Nat), LI x (J + 1) S2 → gP N0 D cy S2 H2 → va_S (fun q => N0 ≤ q) s.heap H2 locs2 → lv_has ls2 8 [(0, .ref b), (1, .ref x), (2, .ref (x + 214)), (3, .ref (x + 249)), (4, .int (nI (4 * J)))] → k ≤ cells + 3 → n ≤ slots + 13 → W p l e room_1 s m #[Value.ref b] below meth c H2 locs2 k n Q (F0 m 928 ls2 []) := by
      intro S2 H2 locs2 ls2 k n h1 h2 h3 hl h5 h6
      refine lv_iinc (v := _ + 4) (lv' := [(4, .int _), (0, .ref _), (1, .ref _), (2, .ref _), (3, .ref _)]) hx hb dL_law_928 hl (k := 4) rfl rfl (by decide) rfl (fun ls hl => ?_)
      refine lv_goto (tgt := 23) hx hb dL_law_931 (by decide) ?_
      exact ih (J + 1) _ _ _ _ _ _ (by omega) h1 h2 h3 (by rw [show nI (4 * (J + 1)) = nI (4 * J) + 4 from (nI_add (4 * J) 4).symm]; exact lv_sub hl [1, 2, 3, 4, 0] rfl) (by omega) (by omega)
    refine lv_iload hx hb dL_law_23 (lv_at hl 4 rfl) ?_
    refine lv_aload_n hx hb dL_law_25 rfl (lv_at hl 0 rfl) ?_
    refine va_slen hx hb hX hbl hbA hS dL_law_26 ?_
    refine lv_iconst (v := 4) hx hb dL_law_27 (by decide) ?_
    refine lv_isub hx hb dL_law_28 ?_
    refine lv_icmp_gt (tgt := 934) hx hb dL_law_29 (by decide) (fun c_29 => ?_) (fun c_29 => ?_)
    · exact hexit _ _ _ _ _ hS (by omega) (by omega)
    · have hi : 4 * J + 4 ≤ L := hi_of c_29 hL (by omega)
      have hJ : J + 1 ≤ 512 := by omega
      refine lv_aload_n hx hb dL_law_32 rfl (lv_at hl 0 rfl) ?_
      refine lv_iload hx hb dL_law_33 (lv_at hl 4 rfl) ?_
      refine va_sld hx hb hX hbl hbA hS (vp_in_nI (by omega) (by omega)) dL_law_35 ?_
      refine lv_bipush (v := 15) hx hb dL_law_36 (by decide) ?_
      refine lv_iand hx hb dL_law_38 ?_
      refine g_ts (dt := 928) hC dL_law_39 (by decide) (by decide) (fun k_39 of_39 hk_39 c_39 => ?_) (fun c_39 => ?_)
      · match k_39, hk_39 with
        | 0, hk_39 =>
          have e9 : of_39 = 73 := by simpa using hk_39.symm
          subst e9
          replace c_39 := ts_lit (v := 0) (by decide) c_39
          refine ⟨112, by decide, ?_⟩
          exact lw_clock hls hC hU hZ hX hbl hbA hJ hi hL hLI hP hS hl (by omega) (by omega) hk
        | 1, hk_39 =>
          have e9 : of_39 = 153 := by simpa using hk_39.symm
          subst e9
          replace c_39 := ts_lit (v := 1) (by decide) c_39
          refine ⟨192, by decide, ?_⟩
          exact lw_start hls hC hU hZ hX hbl hbA hJ hi hL hLI hP hS hl (by omega) (by omega) hk
        | 2, hk_39 =>
          have e9 : of_39 = 189 := by simpa using hk_39.symm
          subst e9
          replace c_39 := ts_lit (v := 2) (by decide) c_39
          refine ⟨228, by decide, ?_⟩
          exact lw_prolong hls hC hU hZ hX hbl hbA hJ hi hL hLI hP hS hl (by omega) (by omega) hk
        | 3, hk_39 =>
          have e9 : of_39 = 225 := by simpa using hk_39.symm
          subst e9
          replace c_39 := ts_lit (v := 3) (by decide) c_39
          refine ⟨264, by decide, ?_⟩
          exact lw_crash hls hC hU hZ hX hbl hbA hJ hi hL hLI hP hS hl (by omega) (by omega) hk
        | 4, hk_39 =>
          have e9 : of_39 = 261 := by simpa using hk_39.symm
          subst e9
          replace c_39 := ts_lit (v := 4) (by decide) c_39
          refine ⟨300, by decide, ?_⟩
          exact lw_node hls hC hU hZ hX hbl hbA hJ hi hL hLI hP hS hl (by omega) (by omega) hk
        | 5, hk_39 =>
          have e9 : of_39 = 325 := by simpa using hk_39.symm
          subst e9
          replace c_39 := ts_lit (v := 5) (by decide) c_39
          refine ⟨364, by decide, ?_⟩
          exact lw_letters hls hC hU hZ hX hbl hbA hJ hi hL hLI hP hS hl (by omega) (by omega) hk
        | 6, hk_39 =>
          have e9 : of_39 = 338 := by simpa using hk_39.symm
          subst e9
          replace c_39 := ts_lit (v := 6) (by decide) c_39
          refine ⟨377, by decide, ?_⟩
          exact lw_deliver hls hC hU hZ hX hbl hbA hJ hi hL hLI hP hS hl (by omega) (by omega) hk
        | 7, hk_39 =>
          have e9 : of_39 = 394 := by simpa using hk_39.symm
          subst e9
          replace c_39 := ts_lit (v := 7) (by decide) c_39
          refine ⟨433, by decide, ?_⟩
          exact lw_lose hls hC hU hZ hX hbl hbA hJ hi hL hLI hP hS hl (by omega) (by omega) hk
        | 8, hk_39 =>
          have e9 : of_39 = 430 := by simpa using hk_39.symm
          subst e9
          replace c_39 := ts_lit (v := 8) (by decide) c_39
          refine ⟨469, by decide, ?_⟩
          exact lw_twin hls hC hU hZ hX hbl hbA hJ hi hL hLI hP hS hl (by omega) (by omega) hk
        | 9, hk_39 =>
          have e9 : of_39 = 466 := by simpa using hk_39.symm
          subst e9
          replace c_39 := ts_lit (v := 9) (by decide) c_39
          refine ⟨505, by decide, ?_⟩
          exact lw_letter hls hC hU hZ hX hbl hbA hJ hi hL hLI hP hS hl (by omega) (by omega) hk
        | 10, hk_39 =>
          have e9 : of_39 = 534 := by simpa using hk_39.symm
          subst e9
          replace c_39 := ts_lit (v := 10) (by decide) c_39
          refine ⟨573, by decide, ?_⟩
          exact lw_issuer hls hC hU hZ hX hbl hbA hJ hi hL hLI hP hS hl (by omega) (by omega) hk
        | 11, hk_39 =>
          have e9 : of_39 = 601 := by simpa using hk_39.symm
          subst e9
          replace c_39 := ts_lit (v := 11) (by decide) c_39
          refine ⟨640, by decide, ?_⟩
          exact lw_next hls hC hU hZ hX hbl hbA hJ hi hL hLI hP hS hl (by omega) (by omega) hk
        | 12, hk_39 =>
          have e9 : of_39 = 656 := by simpa using hk_39.symm
          subst e9
          replace c_39 := ts_lit (v := 12) (by decide) c_39
          refine ⟨695, by decide, ?_⟩
          exact lw_batch hls hC hU hZ hX hbl hbA hJ hi hL hLI hP hS hl (by omega) (by omega) hk
        | 13, hk_39 =>
          have e9 : of_39 = 723 := by simpa using hk_39.symm
          subst e9
          replace c_39 := ts_lit (v := 13) (by decide) c_39
          refine ⟨762, by decide, ?_⟩
          exact lw_seat hls hC hU hZ hX hbl hbA hJ hi hL hLI hP hS hl (by omega) (by omega) hk
        | 14, hk_39 =>
          have e9 : of_39 = 790 := by simpa using hk_39.symm
          subst e9
          replace c_39 := ts_lit (v := 14) (by decide) c_39
          refine ⟨829, by decide, ?_⟩
          exact lw_part hls hC hU hZ hX hbl hbA hJ hi hL hLI hP hS hl (by omega) (by omega) hk
        | k9 + 15, hk_39 => exact absurd hk_39 (by simp)
      · exact hk _ _ _ _ _ _ (hLI.mono hJ) hP hS hl (by omega) (by omega)
