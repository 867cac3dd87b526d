set_option maxRecDepth 100000 in
set_option maxHeartbeats 4000000 in
theorem c_X7_prepares (l : Launch) (N0 : Nat) (D : va_G) (cy : Nat → ClassId) (S : gS) (sz : Nat) (o L n : Nat) (i b : Int32) (hm : mOK S o) (hn : n < 5) (hL : gI S o 1 = nI L) (hL2 : L < 100) : gM l yX7_prepares cX7_prepares 4 (some FieldType.int) { frames := 2, cells := 0, slots := 0, locals := 60 } N0 D cy [.ref o, .int i, .int (nI n), .int b] S sz (fun v S1 z => v = some (.int 1) ∧ S1 = (if gI S (o + 16) n < b then mSend (sI S (o + 16) n b) o L 1 i (nI n) b (gI S o 10) else mSend S o L 4 i (nI n) b (gI S (o + 16) n)) ∧ z = sz) := by
  refine g_body (by decide) rfl (Nat.le_of_ble_eq_true rfl) ?_
  intro p e s m args below meth c ls hC hU hr hlk hnm hsz hP hS hl
  have hx := hC.1
  have hb := hC.2.1
  refine lv_iload_n hx hb dX7_prepares_0 rfl (lv_at hl 3 rfl) ?_
  refine lv_aload_n hx hb dX7_prepares_1 rfl (lv_at hl 0 rfl) ?_
  refine gt_X7_57 hC hP (mK (hm)) (mR_18 (hm)) dX7_prepares_2 ?_
  refine lv_iload_n hx hb dX7_prepares_5 rfl (lv_at hl 2 rfl) ?_
  refine g_iald hC hP (mA_18 (hm)) (by rw [mN_18 (hm)]; exact vp_in_nI hn (by decide)) dX7_prepares_6 ?_
  rw [nI_clamp (by omega)]
  refine lv_icmp_gt (tgt := 25) hx hb dX7_prepares_7 (by decide) (fun c_7 => ?_) (fun c_7 => ?_)
  · refine lv_aload_n hx hb dX7_prepares_25 rfl (lv_at hl 0 rfl) ?_
    refine gt_X7_57 hC hP (mK (hm)) (mR_18 (hm)) dX7_prepares_26 ?_
    refine lv_iload_n hx hb dX7_prepares_29 rfl (lv_at hl 2 rfl) ?_
    refine lv_iload_n hx hb dX7_prepares_30 rfl (lv_at hl 3 rfl) ?_
    refine g_iast hC hP hS (mA_18 (hm)) (by rw [mN_18 (hm)]; exact vp_in_nI hn (by decide)) dX7_prepares_31 (fun H locs hP hz hS => ?_)
    replace hsz := hz.trans hsz
    rw [nI_clamp (by omega)] at hP
    refine lv_aload_n hx hb dX7_prepares_32 rfl (lv_at hl 0 rfl) ?_
    refine lv_iconst (v := 1) hx hb dX7_prepares_33 (by decide) ?_
    refine lv_iload_n hx hb dX7_prepares_34 rfl (lv_at hl 1 rfl) ?_
    refine lv_iload_n hx hb dX7_prepares_35 rfl (lv_at hl 2 rfl) ?_
    refine lv_iload_n hx hb dX7_prepares_36 rfl (lv_at hl 3 rfl) ?_
    refine lv_aload_n hx hb dX7_prepares_37 rfl (lv_at hl 0 rfl) ?_
    refine gt_X7_171 hC hP (mK (mI (hm))) dX7_prepares_38 ?_
    rw [gI_a (by omega)]
    refine g_callV (As := [.int _, .int _, .int _, .int _, .int _]) (rest := []) hC hU hP hS hl.1 (c_X7_answer l N0 D cy _ _ o L _ _ _ _ _ (mI hm) (vI (Or.inl (by omega)) hL) hL2) mL_X7_167 iM_X7_answer sL_X7_answer iN_X7 cD_X7_answer ⟨by decide, by decide, rfl⟩ ⟨by decide, by decide⟩ ⟨by decide, by decide⟩ (ci := 7) rfl (by decide) (mK (mI (hm))) rfl (Nat.le_of_ble_eq_true rfl) dX7_prepares_41 (fun v S1 H locs hw hP hz hS => ?_)
    obtain ⟨rfl, hS1, hz2⟩ := hw
    replace hS1 := hS1.symm
    subst hS1
    replace hsz := hz2.trans hsz
    exact g_iret hC hP hS hr hlk (by decide) (by decide) (⟨rfl, by rw [if_pos (by assumption)], hsz⟩) dX7_prepares_44
  · refine lv_aload_n hx hb dX7_prepares_10 rfl (lv_at hl 0 rfl) ?_
    refine lv_iconst (v := 4) hx hb dX7_prepares_11 (by decide) ?_
    refine lv_iload_n hx hb dX7_prepares_12 rfl (lv_at hl 1 rfl) ?_
    refine lv_iload_n hx hb dX7_prepares_13 rfl (lv_at hl 2 rfl) ?_
    refine lv_iload_n hx hb dX7_prepares_14 rfl (lv_at hl 3 rfl) ?_
    refine lv_aload_n hx hb dX7_prepares_15 rfl (lv_at hl 0 rfl) ?_
    refine gt_X7_57 hC hP (mK (hm)) (mR_18 (hm)) dX7_prepares_16 ?_
    refine lv_iload_n hx hb dX7_prepares_19 rfl (lv_at hl 2 rfl) ?_
    refine g_iald hC hP (mA_18 (hm)) (by rw [mN_18 (hm)]; exact vp_in_nI hn (by decide)) dX7_prepares_20 ?_
    rw [nI_clamp (by omega)]
    refine g_callV (As := [.int _, .int _, .int _, .int _, .int _]) (rest := []) hC hU hP hS hl.1 (c_X7_answer l N0 D cy _ _ o L _ _ _ _ _ hm hL hL2) mL_X7_167 iM_X7_answer sL_X7_answer iN_X7 cD_X7_answer ⟨by decide, by decide, rfl⟩ ⟨by decide, by decide⟩ ⟨by decide, by decide⟩ (ci := 7) rfl (by decide) (mK (hm)) rfl (Nat.le_of_ble_eq_true rfl) dX7_prepares_21 (fun v S1 H locs hw hP hz hS => ?_)
    obtain ⟨rfl, hS1, hz2⟩ := hw
    replace hS1 := hS1.symm
    subst hS1
    replace hsz := hz2.trans hsz
    exact g_iret hC hP hS hr hlk (by decide) (by decide) (⟨rfl, by rw [if_neg (by assumption)], hsz⟩) dX7_prepares_24

set_option maxRecDepth 100000 in
set_option maxHeartbeats 4000000 in
theorem c_X7_refuses (l : Launch) (N0 : Nat) (D : va_G) (cy : Nat → ClassId) (S : gS) (sz : Nat) (o i : Nat) (b x : Int32) (hm : mOK S o) (hi : i < 8) : gM l yX7_refuses cX7_refuses 4 (some FieldType.int) { frames := 1, cells := 0, slots := 0, locals := 30 } N0 D cy [.ref o, .int (nI i), .int b, .int x] S sz (fun v S1 z => v = some (.int 0) ∧ z = sz ∧ (((gI S (o + 18) i = 0 ∨ b ≠ 8 * gI S (o + 20) i + nI i) ∧ S1 = S) ∨ (¬ (gI S (o + 18) i = 0 ∨ b ≠ 8 * gI S (o + 20) i + nI i) ∧ S1 = sI (mFail S o i) (o + 21) i (x / 8)))) := by
  refine g_body (by decide) rfl (Nat.le_of_ble_eq_true rfl) ?_
  intro p e s m args below meth c ls hC hU hr hlk hnm hsz hP hS hl
  have hx := hC.1
  have hb := hC.2.1
  refine lv_aload_n hx hb dX7_refuses_0 rfl (lv_at hl 0 rfl) ?_
  refine gt_X7_63 hC hP (mK (hm)) (mR_20 (hm)) dX7_refuses_1 ?_
  refine lv_iload_n hx hb dX7_refuses_4 rfl (lv_at hl 1 rfl) ?_
  refine g_iald hC hP (mA_20 (hm)) (by rw [mN_20 (hm)]; exact vp_in_nI hi (by decide)) dX7_refuses_5 ?_
  rw [nI_clamp (by omega)]
  refine lv_if_eq (tgt := 18) hx hb dX7_refuses_6 (by decide) (fun c_6 => ?_) (fun c_6 => ?_)
  · refine lv_iconst (v := 0) hx hb dX7_refuses_18 (by decide) ?_
    exact g_iret hC hP hS hr hlk (by decide) (by decide) (⟨rfl, hsz, Or.inl ⟨by first | exact Or.inl c_6 | exact Or.inr c_15, rfl⟩⟩) dX7_refuses_19
  · refine lv_iload_n hx hb dX7_refuses_9 rfl (lv_at hl 2 rfl) ?_
    refine lv_aload_n hx hb dX7_refuses_10 rfl (lv_at hl 0 rfl) ?_
    refine lv_iload_n hx hb dX7_refuses_11 rfl (lv_at hl 1 rfl) ?_
    refine g_callV (As := [.int _]) (rest := [.int _]) hC hU hP hS hl.1 (c_X7_ballotOf l N0 D cy _ _ o i hm hi) mL_X7_141 iM_X7_ballotOf sL_X7_ballotOf iN_X7 cD_X7_ballotOf ⟨by decide, by decide, rfl⟩ ⟨by decide, by decide⟩ ⟨by decide, by decide⟩ (ci := 7) rfl (by decide) (mK (hm)) rfl (Nat.le_of_ble_eq_true rfl) dX7_refuses_12 (fun v S1 H locs hw hP hz hS => ?_)
    obtain ⟨rfl, hS1, hz2⟩ := hw
    replace hS1 := hS1.symm
    subst hS1
    replace hsz := hz2.trans hsz
    refine lv_icmp_eq (tgt := 20) hx hb dX7_refuses_15 (by decide) (fun c_15 => ?_) (fun c_15 => ?_)
    · refine lv_aload_n hx hb dX7_refuses_20 rfl (lv_at hl 0 rfl) ?_
      refine lv_iload_n hx hb dX7_refuses_21 rfl (lv_at hl 1 rfl) ?_
      refine g_callV (As := [.int _]) (rest := []) hC hU hP hS hl.1 (c_X7_fail l N0 D cy _ _ o i hm hi) mL_X7_186 iM_X7_fail sL_X7_fail iN_X7 cD_X7_fail ⟨by decide, by decide, rfl⟩ ⟨by decide, by decide⟩ ⟨by decide, by decide⟩ (ci := 7) rfl (by decide) (mK (hm)) rfl (Nat.le_of_ble_eq_true rfl) dX7_refuses_22 (fun v S1 H locs hw hP hz hS => ?_)
      obtain ⟨rfl, hS1, hz2⟩ := hw
      replace hS1 := hS1.symm
      subst hS1
      replace hsz := hz2.trans hsz
      refine lv_aload_n hx hb dX7_refuses_25 rfl (lv_at hl 0 rfl) ?_
      refine gt_X7_72 hC hP (mK (mF (hm))) (mR_23 (mF (hm))) dX7_refuses_26 ?_
      refine lv_iload_n hx hb dX7_refuses_29 rfl (lv_at hl 1 rfl) ?_
      refine lv_iload_n hx hb dX7_refuses_30 rfl (lv_at hl 3 rfl) ?_
      refine lv_bipush (v := 8) hx hb dX7_refuses_31 (by decide) ?_
      refine lv_idiv hx hb dX7_refuses_33 (by decide) ?_
      refine g_iast hC hP hS (mA_23 (mF (hm))) (by rw [mN_23 (mF (hm))]; exact vp_in_nI hi (by decide)) dX7_refuses_34 (fun H locs hP hz hS => ?_)
      replace hsz := hz.trans hsz
      rw [nI_clamp (by omega)] at hP
      refine lv_iconst (v := 0) hx hb dX7_refuses_35 (by decide) ?_
      exact g_iret hC hP hS hr hlk (by decide) (by decide) (⟨rfl, hsz, Or.inr ⟨fun h => by rcases h with h | h; exact c_6 h; exact h c_15, rfl⟩⟩) dX7_refuses_36
    · refine lv_iconst (v := 0) hx hb dX7_refuses_18 (by decide) ?_
      exact g_iret hC hP hS hr hlk (by decide) (by decide) (⟨rfl, hsz, Or.inl ⟨by first | exact Or.inl c_6 | exact Or.inr c_15, rfl⟩⟩) dX7_refuses_19

