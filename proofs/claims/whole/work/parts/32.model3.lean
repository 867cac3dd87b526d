set_option maxRecDepth 100000 in
set_option maxHeartbeats 4000000 in
theorem c_X7_clock (l : Launch) (N0 : Nat) (D : va_G) (cy : Nat → ClassId) (S : gS) (sz : Nat) (o : Nat) (i : Int32) (t : Int64) (hm : mOK S o) : gM l yX7_clock cX7_clock 4 (none : Option FieldType) { frames := 1, cells := 0, slots := 0, locals := 30 } N0 D cy [.ref o, .int i, .long t] S sz (fun v S1 z => v = none ∧ z = sz ∧ ((¬ (0 ≤ i ∧ i < 8) ∧ S1 = sI S o 0 1) ∨ (∃ k, k < 8 ∧ i = nI k ∧ (t < 0 ∨ 2199023255551 < t) ∧ S1 = sI (sI S o 0 0) o 0 2) ∨ (∃ k, k < 8 ∧ i = nI k ∧ ¬ (t < 0 ∨ 2199023255551 < t) ∧ S1 = sJ (sI S o 0 0) (o + 17) k t))) := by
  refine g_body (by decide) rfl (Nat.le_of_ble_eq_true rfl) ?_
  intro p e s m args below meth c ls hC hU hr hlk hnm hsz hP hS hl
  have hx := hC.1
  have hb := hC.2.1
  refine lv_aload_n hx hb dX7_clock_0 rfl (lv_at hl 0 rfl) ?_
  refine lv_iload_n hx hb dX7_clock_1 rfl (lv_at hl 1 rfl) ?_
  refine g_callV (As := [.int _]) (rest := []) hC hU hP hS hl.1 (c_X7_isIssuer l N0 D cy _ _ o _ hm) mL_X7_118 iM_X7_isIssuer sL_X7_isIssuer iN_X7 cD_X7_isIssuer ⟨by decide, by decide, rfl⟩ ⟨by decide, by decide⟩ ⟨by decide, by decide⟩ (ci := 7) rfl (by decide) (mK (hm)) rfl (Nat.le_of_ble_eq_true rfl) dX7_clock_2 (fun v S1 H locs hw hP hz hS => ?_)
  obtain ⟨rfl, hS1, hz2⟩ := hw
  replace hS1 := hS1.symm
  subst hS1
  replace hsz := hz2.trans hsz
  refine lv_if_ne (tgt := 9) hx hb dX7_clock_5 (by decide) (fun c_5 => ?_) (fun c_5 => ?_)
  · have c_6 := th1 c_5
    rw [if_pos c_6] at hP
    obtain ⟨k, hk, rfl⟩ := isI_nat c_6
    refine lv_lload_n hx hb dX7_clock_9 rfl (lv_at hl 2 rfl) ?_
    refine lv_lconst (v := 0) hx hb dX7_clock_10 rfl ?_
    refine W.lcmp hx hb dX7_clock_11 ?_
    refine lv_if_lt (tgt := 23) hx hb dX7_clock_12 (by decide) (fun c_12 => ?_) (fun c_12 => ?_)
    · replace c_12 := lc_lt.mp c_12
      refine lv_aload_n hx hb dX7_clock_23 rfl (lv_at hl 0 rfl) ?_
      refine lv_iconst (v := 2) hx hb dX7_clock_24 (by decide) ?_
      refine pt_X7_114 hC hP hS (mK (mI (hm))) dX7_clock_25 (fun H locs hP hz hS => ?_)
      replace hsz := hz.trans hsz
      refine lv_goto (tgt := 38) hx hb dX7_clock_28 (by decide) ?_
      exact g_vret hC hP hS hr hlk (by decide) (by decide) (⟨rfl, hsz, by first | exact Or.inr (Or.inl ⟨k, hk, rfl, Or.inl c_12, rfl⟩) | exact Or.inr (Or.inl ⟨k, hk, rfl, Or.inr (Int64.not_le.mp c_20), rfl⟩) | (rw [nI_clamp (by omega)]; exact Or.inr (Or.inr ⟨k, hk, rfl, fun h => by rcases h with h | h; exact c_12 h; exact absurd c_20 (Int64.not_le.mpr h), rfl⟩))⟩) dX7_clock_38
    · replace c_12 := fun h => c_12 (lc_lt.mpr h)
      refine lv_lload_n hx hb dX7_clock_15 rfl (lv_at hl 2 rfl) ?_
      refine lv_ldc2 hx hb hC.2.2.2.1 (hC.2.2.2.2.1 _ kJ_X7_122) dX7_clock_16 ?_
      refine W.lcmp hx hb dX7_clock_19 ?_
      refine lv_if_le (tgt := 31) hx hb dX7_clock_20 (by decide) (fun c_20 => ?_) (fun c_20 => ?_)
      · replace c_20 := lc_le.mp c_20
        refine lv_aload_n hx hb dX7_clock_31 rfl (lv_at hl 0 rfl) ?_
        refine gt_X7_60 hC hP (mK (mI (hm))) (mR_19 (mI (hm))) dX7_clock_32 ?_
        refine lv_iload_n hx hb dX7_clock_35 rfl (lv_at hl 1 rfl) ?_
        refine lv_lload_n hx hb dX7_clock_36 rfl (lv_at hl 2 rfl) ?_
        refine g_last hC hP hS (mA_19 (mI (hm))) (by rw [mN_19 (mI (hm))]; exact vp_in_nI hk (by decide)) dX7_clock_37 (fun H locs hP hz hS => ?_)
        replace hsz := hz.trans hsz
        exact g_vret hC hP hS hr hlk (by decide) (by decide) (⟨rfl, hsz, by first | exact Or.inr (Or.inl ⟨k, hk, rfl, Or.inl c_12, rfl⟩) | exact Or.inr (Or.inl ⟨k, hk, rfl, Or.inr (Int64.not_le.mp c_20), rfl⟩) | (rw [nI_clamp (by omega)]; exact Or.inr (Or.inr ⟨k, hk, rfl, fun h => by rcases h with h | h; exact c_12 h; exact absurd c_20 (Int64.not_le.mpr h), rfl⟩))⟩) dX7_clock_38
      · replace c_20 := fun h => c_20 (lc_le.mpr h)
        refine lv_aload_n hx hb dX7_clock_23 rfl (lv_at hl 0 rfl) ?_
        refine lv_iconst (v := 2) hx hb dX7_clock_24 (by decide) ?_
        refine pt_X7_114 hC hP hS (mK (mI (hm))) dX7_clock_25 (fun H locs hP hz hS => ?_)
        replace hsz := hz.trans hsz
        refine lv_goto (tgt := 38) hx hb dX7_clock_28 (by decide) ?_
        exact g_vret hC hP hS hr hlk (by decide) (by decide) (⟨rfl, hsz, by first | exact Or.inr (Or.inl ⟨k, hk, rfl, Or.inl c_12, rfl⟩) | exact Or.inr (Or.inl ⟨k, hk, rfl, Or.inr (Int64.not_le.mp c_20), rfl⟩) | (rw [nI_clamp (by omega)]; exact Or.inr (Or.inr ⟨k, hk, rfl, fun h => by rcases h with h | h; exact c_12 h; exact absurd c_20 (Int64.not_le.mpr h), rfl⟩))⟩) dX7_clock_38
  · exact g_vret hC hP hS hr hlk (by decide) (by decide) (⟨rfl, hsz, Or.inl ⟨cnt0 c_5, by rw [if_neg (cnt0 c_5)]⟩⟩) dX7_clock_8

set_option maxRecDepth 100000 in
set_option maxHeartbeats 4000000 in
theorem c_X7_crash (l : Launch) (N0 : Nat) (D : va_G) (cy : Nat → ClassId) (S : gS) (sz : Nat) (o : Nat) (i : Int32) (hm : mOK S o) : gM l yX7_crash cX7_crash 2 (none : Option FieldType) { frames := 1, cells := 0, slots := 0, locals := 30 } N0 D cy [.ref o, .int i] S sz (fun v S1 z => v = none ∧ z = sz ∧ ((¬ (0 ≤ i ∧ i < 8) ∧ S1 = sI S o 0 1) ∨ (∃ k, k < 8 ∧ i = nI k ∧ S1 = sI (sI (sI (sI S o 0 0) (o + 27) k 0) (o + 18) k 0) (o + 21) k 0))) := by
  refine g_body (by decide) rfl (Nat.le_of_ble_eq_true rfl) ?_
  intro p e s m args below meth c ls hC hU hr hlk hnm hsz hP hS hl
  have hx := hC.1
  have hb := hC.2.1
  refine lv_aload_n hx hb dX7_crash_0 rfl (lv_at hl 0 rfl) ?_
  refine lv_iload_n hx hb dX7_crash_1 rfl (lv_at hl 1 rfl) ?_
  refine g_callV (As := [.int _]) (rest := []) hC hU hP hS hl.1 (c_X7_isIssuer l N0 D cy _ _ o _ hm) mL_X7_118 iM_X7_isIssuer sL_X7_isIssuer iN_X7 cD_X7_isIssuer ⟨by decide, by decide, rfl⟩ ⟨by decide, by decide⟩ ⟨by decide, by decide⟩ (ci := 7) rfl (by decide) (mK (hm)) rfl (Nat.le_of_ble_eq_true rfl) dX7_crash_2 (fun v S1 H locs hw hP hz hS => ?_)
  obtain ⟨rfl, hS1, hz2⟩ := hw
  replace hS1 := hS1.symm
  subst hS1
  replace hsz := hz2.trans hsz
  refine lv_if_ne (tgt := 9) hx hb dX7_crash_5 (by decide) (fun c_5 => ?_) (fun c_5 => ?_)
  · have c_6 := th1 c_5
    rw [if_pos c_6] at hP
    obtain ⟨k, hk, rfl⟩ := isI_nat c_6
    refine lv_aload_n hx hb dX7_crash_9 rfl (lv_at hl 0 rfl) ?_
    refine gt_X7_90 hC hP (mK (mI (hm))) (mR_29 (mI (hm))) dX7_crash_10 ?_
    refine lv_iload_n hx hb dX7_crash_13 rfl (lv_at hl 1 rfl) ?_
    refine lv_iconst (v := 0) hx hb dX7_crash_14 (by decide) ?_
    refine g_zast hC hP hS (mA_29 (mI (hm))) (by rw [mN_29 (mI (hm))]; exact vp_in_nI hk (by decide)) (nz01 (by decide)) dX7_crash_15 (fun H locs hP hz hS => ?_)
    replace hsz := hz.trans hsz
    rw [nI_clamp (by omega)] at hP
    refine lv_aload_n hx hb dX7_crash_16 rfl (lv_at hl 0 rfl) ?_
    refine gt_X7_63 hC hP (mK (mI (mI (hm)))) (mR_20 (mI (mI (hm)))) dX7_crash_17 ?_
    refine lv_iload_n hx hb dX7_crash_20 rfl (lv_at hl 1 rfl) ?_
    refine lv_iconst (v := 0) hx hb dX7_crash_21 (by decide) ?_
    refine g_iast hC hP hS (mA_20 (mI (mI (hm)))) (by rw [mN_20 (mI (mI (hm)))]; exact vp_in_nI hk (by decide)) dX7_crash_22 (fun H locs hP hz hS => ?_)
    replace hsz := hz.trans hsz
    rw [nI_clamp (by omega)] at hP
    refine lv_aload_n hx hb dX7_crash_23 rfl (lv_at hl 0 rfl) ?_
    refine gt_X7_72 hC hP (mK (mI (mI (mI (hm))))) (mR_23 (mI (mI (mI (hm))))) dX7_crash_24 ?_
    refine lv_iload_n hx hb dX7_crash_27 rfl (lv_at hl 1 rfl) ?_
    refine lv_iconst (v := 0) hx hb dX7_crash_28 (by decide) ?_
    refine g_iast hC hP hS (mA_23 (mI (mI (mI (hm))))) (by rw [mN_23 (mI (mI (mI (hm))))]; exact vp_in_nI hk (by decide)) dX7_crash_29 (fun H locs hP hz hS => ?_)
    replace hsz := hz.trans hsz
    rw [nI_clamp (by omega)] at hP
    exact g_vret hC hP hS hr hlk (by decide) (by decide) (⟨rfl, hsz, Or.inr ⟨k, hk, rfl, rfl⟩⟩) dX7_crash_30
  · exact g_vret hC hP hS hr hlk (by decide) (by decide) (⟨rfl, hsz, Or.inl ⟨cnt0 c_5, by rw [if_neg (cnt0 c_5)]⟩⟩) dX7_crash_8

theorem nd_nat {i : Int32} (h1 : ¬ i < 0) (h2 : i ≤ 4) : ∃ k, k < 5 ∧ i = nI k := by
  obtain ⟨j, hj, e⟩ := nI_of h1
  subst e
  exact ⟨j, by have := (nI_leI (b := 4) hj (by decide)).mp h2; omega, rfl⟩
set_option maxRecDepth 100000 in
set_option maxHeartbeats 4000000 in
theorem c_X7_node (l : Launch) (N0 : Nat) (D : va_G) (cy : Nat → ClassId) (S : gS) (sz : Nat) (o : Nat) (i u : Int32) (hm : mOK S o) : gM l yX7_node cX7_node 3 (none : Option FieldType) { frames := 0, cells := 0, slots := 0, locals := 0 } N0 D cy [.ref o, .int i, .int u] S sz (fun v S1 z => v = none ∧ z = sz ∧ (((i < 0 ∨ 4 < i) ∧ S1 = sI S o 0 1) ∨ (∃ k, k < 5 ∧ i = nI k ∧ S1 = sI (sI S o 0 0) (o + 15) k (if u = 0 then 1 else 0)))) := by
  refine g_body (by decide) rfl (Nat.le_of_ble_eq_true rfl) ?_
  intro p e s m args below meth c ls hC hU hr hlk hnm hsz hP hS hl
  have hx := hC.1
  have hb := hC.2.1
  refine lv_aload_n hx hb dX7_node_0 rfl (lv_at hl 0 rfl) ?_
  refine lv_iload_n hx hb dX7_node_1 rfl (lv_at hl 1 rfl) ?_
  refine lv_if_lt (tgt := 10) hx hb dX7_node_2 (by decide) (fun c_2 => ?_) (fun c_2 => ?_)
  · refine lv_iconst (v := 1) hx hb dX7_node_10 (by decide) ?_
    refine lv_goto (tgt := 15) hx hb dX7_node_11 (by decide) ?_
    refine pt_X7_114 hC hP hS (mK (hm)) dX7_node_15 (fun H locs hP hz hS => ?_)
    replace hsz := hz.trans hsz
    refine lv_aload_n hx hb dX7_node_18 rfl (lv_at hl 0 rfl) ?_
    refine gt_X7_114 hC hP (mK (mI (hm))) dX7_node_19 ?_
    refine lv_if_ne (tgt := 40) hx hb dX7_node_22 (by decide) (fun c_22 => ?_) (fun c_22 => ?_)
    · exact g_vret hC hP hS hr hlk (by decide) (by decide) (⟨rfl, hsz, by first | (rw [gI_s] at c_22; exact absurd rfl c_22) | (rw [gI_s] at c_22; exact absurd c_22 (by decide)) | exact Or.inl ⟨Or.inl c_2, rfl⟩ | exact Or.inl ⟨Or.inr (Int32.not_le.mp c_7), rfl⟩ | (rw [nI_clamp (by omega)]; first | exact Or.inr ⟨k, hk, rfl, by rw [if_pos c_31]⟩ | exact Or.inr ⟨k, hk, rfl, by rw [if_neg c_31]⟩)⟩) dX7_node_40
    · obtain ⟨k, hk, rfl⟩ : ∃ k, k < 5 ∧ i = nI k := by first | exact nd_nat c_2 c_7 | (rw [gI_s] at c_22; exact absurd c_22 (by decide)) | (rw [gI_s] at c_22; exact absurd rfl c_22)
      refine lv_aload_n hx hb dX7_node_25 rfl (lv_at hl 0 rfl) ?_
      refine gt_X7_53 hC hP (mK (mI (hm))) (mR_17 (mI (hm))) dX7_node_26 ?_
      refine lv_iload_n hx hb dX7_node_29 rfl (lv_at hl 1 rfl) ?_
      refine lv_iload_n hx hb dX7_node_30 rfl (lv_at hl 2 rfl) ?_
      refine lv_if_ne (tgt := 38) hx hb dX7_node_31 (by decide) (fun c_31 => ?_) (fun c_31 => ?_)
      · refine lv_iconst (v := 0) hx hb dX7_node_38 (by decide) ?_
        refine g_zast hC hP hS (mA_17 (mI (hm))) (by rw [mN_17 (mI (hm))]; exact vp_in_nI hk (by decide)) (nz01 (by first | exact Or.inl rfl | exact Or.inr rfl)) dX7_node_39 (fun H locs hP hz hS => ?_)
        replace hsz := hz.trans hsz
        exact g_vret hC hP hS hr hlk (by decide) (by decide) (⟨rfl, hsz, by first | (rw [gI_s] at c_22; exact absurd rfl c_22) | (rw [gI_s] at c_22; exact absurd c_22 (by decide)) | exact Or.inl ⟨Or.inl c_2, rfl⟩ | exact Or.inl ⟨Or.inr (Int32.not_le.mp c_7), rfl⟩ | (rw [nI_clamp (by omega)]; first | exact Or.inr ⟨k, hk, rfl, by rw [if_pos c_31]⟩ | exact Or.inr ⟨k, hk, rfl, by rw [if_neg c_31]⟩)⟩) dX7_node_40
      · refine lv_iconst (v := 1) hx hb dX7_node_34 (by decide) ?_
        refine lv_goto (tgt := 39) hx hb dX7_node_35 (by decide) ?_
        refine g_zast hC hP hS (mA_17 (mI (hm))) (by rw [mN_17 (mI (hm))]; exact vp_in_nI hk (by decide)) (nz01 (by first | exact Or.inl rfl | exact Or.inr rfl)) dX7_node_39 (fun H locs hP hz hS => ?_)
        replace hsz := hz.trans hsz
        exact g_vret hC hP hS hr hlk (by decide) (by decide) (⟨rfl, hsz, by first | (rw [gI_s] at c_22; exact absurd rfl c_22) | (rw [gI_s] at c_22; exact absurd c_22 (by decide)) | exact Or.inl ⟨Or.inl c_2, rfl⟩ | exact Or.inl ⟨Or.inr (Int32.not_le.mp c_7), rfl⟩ | (rw [nI_clamp (by omega)]; first | exact Or.inr ⟨k, hk, rfl, by rw [if_pos c_31]⟩ | exact Or.inr ⟨k, hk, rfl, by rw [if_neg c_31]⟩)⟩) dX7_node_40
  · refine lv_iload_n hx hb dX7_node_5 rfl (lv_at hl 1 rfl) ?_
    refine lv_iconst (v := 4) hx hb dX7_node_6 (by decide) ?_
    refine lv_icmp_le (tgt := 14) hx hb dX7_node_7 (by decide) (fun c_7 => ?_) (fun c_7 => ?_)
    · refine lv_iconst (v := 0) hx hb dX7_node_14 (by decide) ?_
      refine pt_X7_114 hC hP hS (mK (hm)) dX7_node_15 (fun H locs hP hz hS => ?_)
      replace hsz := hz.trans hsz
      refine lv_aload_n hx hb dX7_node_18 rfl (lv_at hl 0 rfl) ?_
      refine gt_X7_114 hC hP (mK (mI (hm))) dX7_node_19 ?_
      refine lv_if_ne (tgt := 40) hx hb dX7_node_22 (by decide) (fun c_22 => ?_) (fun c_22 => ?_)
      · exact g_vret hC hP hS hr hlk (by decide) (by decide) (⟨rfl, hsz, by first | (rw [gI_s] at c_22; exact absurd rfl c_22) | (rw [gI_s] at c_22; exact absurd c_22 (by decide)) | exact Or.inl ⟨Or.inl c_2, rfl⟩ | exact Or.inl ⟨Or.inr (Int32.not_le.mp c_7), rfl⟩ | (rw [nI_clamp (by omega)]; first | exact Or.inr ⟨k, hk, rfl, by rw [if_pos c_31]⟩ | exact Or.inr ⟨k, hk, rfl, by rw [if_neg c_31]⟩)⟩) dX7_node_40
      · obtain ⟨k, hk, rfl⟩ : ∃ k, k < 5 ∧ i = nI k := by first | exact nd_nat c_2 c_7 | (rw [gI_s] at c_22; exact absurd c_22 (by decide)) | (rw [gI_s] at c_22; exact absurd rfl c_22)
        refine lv_aload_n hx hb dX7_node_25 rfl (lv_at hl 0 rfl) ?_
        refine gt_X7_53 hC hP (mK (mI (hm))) (mR_17 (mI (hm))) dX7_node_26 ?_
        refine lv_iload_n hx hb dX7_node_29 rfl (lv_at hl 1 rfl) ?_
        refine lv_iload_n hx hb dX7_node_30 rfl (lv_at hl 2 rfl) ?_
        refine lv_if_ne (tgt := 38) hx hb dX7_node_31 (by decide) (fun c_31 => ?_) (fun c_31 => ?_)
        · refine lv_iconst (v := 0) hx hb dX7_node_38 (by decide) ?_
          refine g_zast hC hP hS (mA_17 (mI (hm))) (by rw [mN_17 (mI (hm))]; exact vp_in_nI hk (by decide)) (nz01 (by first | exact Or.inl rfl | exact Or.inr rfl)) dX7_node_39 (fun H locs hP hz hS => ?_)
          replace hsz := hz.trans hsz
          exact g_vret hC hP hS hr hlk (by decide) (by decide) (⟨rfl, hsz, by first | (rw [gI_s] at c_22; exact absurd rfl c_22) | (rw [gI_s] at c_22; exact absurd c_22 (by decide)) | exact Or.inl ⟨Or.inl c_2, rfl⟩ | exact Or.inl ⟨Or.inr (Int32.not_le.mp c_7), rfl⟩ | (rw [nI_clamp (by omega)]; first | exact Or.inr ⟨k, hk, rfl, by rw [if_pos c_31]⟩ | exact Or.inr ⟨k, hk, rfl, by rw [if_neg c_31]⟩)⟩) dX7_node_40
        · refine lv_iconst (v := 1) hx hb dX7_node_34 (by decide) ?_
          refine lv_goto (tgt := 39) hx hb dX7_node_35 (by decide) ?_
          refine g_zast hC hP hS (mA_17 (mI (hm))) (by rw [mN_17 (mI (hm))]; exact vp_in_nI hk (by decide)) (nz01 (by first | exact Or.inl rfl | exact Or.inr rfl)) dX7_node_39 (fun H locs hP hz hS => ?_)
          replace hsz := hz.trans hsz
          exact g_vret hC hP hS hr hlk (by decide) (by decide) (⟨rfl, hsz, by first | (rw [gI_s] at c_22; exact absurd rfl c_22) | (rw [gI_s] at c_22; exact absurd c_22 (by decide)) | exact Or.inl ⟨Or.inl c_2, rfl⟩ | exact Or.inl ⟨Or.inr (Int32.not_le.mp c_7), rfl⟩ | (rw [nI_clamp (by omega)]; first | exact Or.inr ⟨k, hk, rfl, by rw [if_pos c_31]⟩ | exact Or.inr ⟨k, hk, rfl, by rw [if_neg c_31]⟩)⟩) dX7_node_40
    · refine lv_iconst (v := 1) hx hb dX7_node_10 (by decide) ?_
      refine lv_goto (tgt := 15) hx hb dX7_node_11 (by decide) ?_
      refine pt_X7_114 hC hP hS (mK (hm)) dX7_node_15 (fun H locs hP hz hS => ?_)
      replace hsz := hz.trans hsz
      refine lv_aload_n hx hb dX7_node_18 rfl (lv_at hl 0 rfl) ?_
      refine gt_X7_114 hC hP (mK (mI (hm))) dX7_node_19 ?_
      refine lv_if_ne (tgt := 40) hx hb dX7_node_22 (by decide) (fun c_22 => ?_) (fun c_22 => ?_)
      · exact g_vret hC hP hS hr hlk (by decide) (by decide) (⟨rfl, hsz, by first | (rw [gI_s] at c_22; exact absurd rfl c_22) | (rw [gI_s] at c_22; exact absurd c_22 (by decide)) | exact Or.inl ⟨Or.inl c_2, rfl⟩ | exact Or.inl ⟨Or.inr (Int32.not_le.mp c_7), rfl⟩ | (rw [nI_clamp (by omega)]; first | exact Or.inr ⟨k, hk, rfl, by rw [if_pos c_31]⟩ | exact Or.inr ⟨k, hk, rfl, by rw [if_neg c_31]⟩)⟩) dX7_node_40
      · obtain ⟨k, hk, rfl⟩ : ∃ k, k < 5 ∧ i = nI k := by first | exact nd_nat c_2 c_7 | (rw [gI_s] at c_22; exact absurd c_22 (by decide)) | (rw [gI_s] at c_22; exact absurd rfl c_22)
        refine lv_aload_n hx hb dX7_node_25 rfl (lv_at hl 0 rfl) ?_
        refine gt_X7_53 hC hP (mK (mI (hm))) (mR_17 (mI (hm))) dX7_node_26 ?_
        refine lv_iload_n hx hb dX7_node_29 rfl (lv_at hl 1 rfl) ?_
        refine lv_iload_n hx hb dX7_node_30 rfl (lv_at hl 2 rfl) ?_
        refine lv_if_ne (tgt := 38) hx hb dX7_node_31 (by decide) (fun c_31 => ?_) (fun c_31 => ?_)
        · refine lv_iconst (v := 0) hx hb dX7_node_38 (by decide) ?_
          refine g_zast hC hP hS (mA_17 (mI (hm))) (by rw [mN_17 (mI (hm))]; exact vp_in_nI hk (by decide)) (nz01 (by first | exact Or.inl rfl | exact Or.inr rfl)) dX7_node_39 (fun H locs hP hz hS => ?_)
          replace hsz := hz.trans hsz
          exact g_vret hC hP hS hr hlk (by decide) (by decide) (⟨rfl, hsz, by first | (rw [gI_s] at c_22; exact absurd rfl c_22) | (rw [gI_s] at c_22; exact absurd c_22 (by decide)) | exact Or.inl ⟨Or.inl c_2, rfl⟩ | exact Or.inl ⟨Or.inr (Int32.not_le.mp c_7), rfl⟩ | (rw [nI_clamp (by omega)]; first | exact Or.inr ⟨k, hk, rfl, by rw [if_pos c_31]⟩ | exact Or.inr ⟨k, hk, rfl, by rw [if_neg c_31]⟩)⟩) dX7_node_40
        · refine lv_iconst (v := 1) hx hb dX7_node_34 (by decide) ?_
          refine lv_goto (tgt := 39) hx hb dX7_node_35 (by decide) ?_
          refine g_zast hC hP hS (mA_17 (mI (hm))) (by rw [mN_17 (mI (hm))]; exact vp_in_nI hk (by decide)) (nz01 (by first | exact Or.inl rfl | exact Or.inr rfl)) dX7_node_39 (fun H locs hP hz hS => ?_)
          replace hsz := hz.trans hsz
          exact g_vret hC hP hS hr hlk (by decide) (by decide) (⟨rfl, hsz, by first | (rw [gI_s] at c_22; exact absurd rfl c_22) | (rw [gI_s] at c_22; exact absurd c_22 (by decide)) | exact Or.inl ⟨Or.inl c_2, rfl⟩ | exact Or.inl ⟨Or.inr (Int32.not_le.mp c_7), rfl⟩ | (rw [nI_clamp (by omega)]; first | exact Or.inr ⟨k, hk, rfl, by rw [if_pos c_31]⟩ | exact Or.inr ⟨k, hk, rfl, by rw [if_neg c_31]⟩)⟩) dX7_node_40

def mFail (S : gS) (o i : Nat) : gS := sI (sI S (o + 18) i 0) (o + 33) i (gI S (o + 33) i + 1)
theorem mF {S : gS} {o i o' : Nat} (h : mOK S o') : mOK (mFail S o i) o' := h
set_option maxRecDepth 100000 in
set_option maxHeartbeats 4000000 in
theorem c_X7_fail (l : Launch) (N0 : Nat) (D : va_G) (cy : Nat → ClassId) (S : gS) (sz : Nat) (o i : Nat) (hm : mOK S o) (hi : i < 8) : gM l yX7_fail cX7_fail 2 (none : Option FieldType) { frames := 0, cells := 0, slots := 0, locals := 0 } N0 D cy [.ref o, .int (nI i)] S sz (fun v S1 z => v = none ∧ S1 = mFail S o i ∧ z = sz) := by
  refine g_body (by decide) rfl (Nat.le_of_ble_eq_true rfl) ?_
  intro p e s m args below meth c ls hC hU hr hlk hnm hsz hP hS hl
  have hx := hC.1
  have hb := hC.2.1
  refine lv_aload_n hx hb dX7_fail_0 rfl (lv_at hl 0 rfl) ?_
  refine gt_X7_63 hC hP (mK (hm)) (mR_20 (hm)) dX7_fail_1 ?_
  refine lv_iload_n hx hb dX7_fail_4 rfl (lv_at hl 1 rfl) ?_
  refine lv_iconst (v := 0) hx hb dX7_fail_5 (by decide) ?_
  refine g_iast hC hP hS (mA_20 (hm)) (by rw [mN_20 (hm)]; exact vp_in_nI hi (by decide)) dX7_fail_6 (fun H locs hP hz hS => ?_)
  replace hsz := hz.trans hsz
  rw [nI_clamp (by omega)] at hP
  refine lv_aload_n hx hb dX7_fail_7 rfl (lv_at hl 0 rfl) ?_
  refine gt_X7_108 hC hP (mK (mI (hm))) (mR_35 (mI (hm))) dX7_fail_8 ?_
  refine lv_iload_n hx hb dX7_fail_11 rfl (lv_at hl 1 rfl) ?_
  refine lv_dup2_11 hx hb dX7_fail_12 rfl rfl ?_
  refine g_iald hC hP (mA_35 (mI (hm))) (by rw [mN_35 (mI (hm))]; exact vp_in_nI hi (by decide)) dX7_fail_13 ?_
  refine lv_iconst (v := 1) hx hb dX7_fail_14 (by decide) ?_
  refine lv_iadd hx hb dX7_fail_15 ?_
  refine g_iast hC hP hS (mA_35 (mI (hm))) (by rw [mN_35 (mI (hm))]; exact vp_in_nI hi (by decide)) dX7_fail_16 (fun H locs hP hz hS => ?_)
  replace hsz := hz.trans hsz
  rw [nI_clamp (by omega), gI_a (by omega)] at hP
  exact g_vret hC hP hS hr hlk (by decide) (by decide) (⟨rfl, rfl, hsz⟩) dX7_fail_17

set_option maxRecDepth 100000 in
set_option maxHeartbeats 4000000 in
theorem c_X7_answer (l : Launch) (N0 : Nat) (D : va_G) (cy : Nat → ClassId) (S : gS) (sz : Nat) (o L : Nat) (k i n b x : Int32) (hm : mOK S o) (hL : gI S o 1 = nI L) (hL2 : L < 100) : gM l yX7_answer cX7_answer 6 (some FieldType.int) { frames := 1, cells := 0, slots := 0, locals := 30 } N0 D cy [.ref o, .int k, .int i, .int n, .int b, .int x] S sz (fun v S1 z => v = some (.int 1) ∧ S1 = mSend S o L k i n b x ∧ z = sz) := by
  refine g_body (by decide) rfl (Nat.le_of_ble_eq_true rfl) ?_
  intro p e s m args below meth c ls hC hU hr hlk hnm hsz hP hS hl
  have hx := hC.1
  have hb := hC.2.1
  refine lv_aload_n hx hb dX7_answer_0 rfl (lv_at hl 0 rfl) ?_
  refine lv_iload_n hx hb dX7_answer_1 rfl (lv_at hl 1 rfl) ?_
  refine lv_iload_n hx hb dX7_answer_2 rfl (lv_at hl 2 rfl) ?_
  refine lv_iload_n hx hb dX7_answer_3 rfl (lv_at hl 3 rfl) ?_
  refine lv_iload hx hb dX7_answer_4 (lv_at hl 4 rfl) ?_
  refine lv_iload hx hb dX7_answer_6 (lv_at hl 5 rfl) ?_
  refine g_callV (As := [.int _, .int _, .int _, .int _, .int _]) (rest := []) hC hU hP hS hl.1 (c_X7_send l N0 D cy _ _ o L _ _ _ _ _ hm hL hL2) mL_X7_145 iM_X7_send sL_X7_send iN_X7 cD_X7_send ⟨by decide, by decide, rfl⟩ ⟨by decide, by decide⟩ ⟨by decide, by decide⟩ (ci := 7) rfl (by decide) (mK (hm)) rfl (Nat.le_of_ble_eq_true rfl) dX7_answer_8 (fun v S1 H locs hw hP hz hS => ?_)
  obtain ⟨rfl, hS1, hz2⟩ := hw
  replace hS1 := hS1.symm
  subst hS1
  replace hsz := hz2.trans hsz
  refine lv_iconst (v := 1) hx hb dX7_answer_11 (by decide) ?_
  exact g_iret hC hP hS hr hlk (by decide) (by decide) (⟨rfl, rfl, hsz⟩) dX7_answer_12

set_option maxRecDepth 100000 in
set_option maxHeartbeats 4000000 in
theorem c_X7_ballotAt (l : Launch) (N0 : Nat) (D : va_G) (cy : Nat → ClassId) (S : gS) (sz : Nat) (o : Nat) (r : Int32) (hm : mOK S o) (hr0 : r < 0 ∨ vp_in r 600) : gM l yX7_ballotAt cX7_ballotAt 2 (some FieldType.int) { frames := 0, cells := 0, slots := 0, locals := 0 } N0 D cy [.ref o, .int r] S sz (fun v S1 z => v = some (.int (if r < 0 then 0 else gI S (o + 11) r.toNatClampNeg)) ∧ S1 = S ∧ z = sz) := by
  refine g_body (by decide) rfl (Nat.le_of_ble_eq_true rfl) ?_
  intro p e s m args below meth c ls hC hU hr hlk hnm hsz hP hS hl
  have hx := hC.1
  have hb := hC.2.1
  refine lv_iload_n hx hb dX7_ballotAt_0 rfl (lv_at hl 1 rfl) ?_
  refine lv_if_ge (tgt := 8) hx hb dX7_ballotAt_1 (by decide) (fun c_1 => ?_) (fun c_1 => ?_)
  · refine lv_aload_n hx hb dX7_ballotAt_8 rfl (lv_at hl 0 rfl) ?_
    refine gt_X7_41 hC hP (mK (hm)) (mR_13 (hm)) dX7_ballotAt_9 ?_
    refine lv_iload_n hx hb dX7_ballotAt_12 rfl (lv_at hl 1 rfl) ?_
    refine g_iald hC hP (mA_13 (hm)) (by rw [mN_13 (hm)]; exact by rcases hr0 with h | h; exact absurd c_1 (Int32.not_le.mpr h); exact h) dX7_ballotAt_13 ?_
    exact g_iret hC hP hS hr hlk (by decide) (by decide) (⟨by first | (rw [if_pos (Int32.not_le.mp c_1)]; done) | (rw [if_neg (Int32.not_lt.mpr c_1)]; done), rfl, hsz⟩) dX7_ballotAt_14
  · refine lv_iconst (v := 0) hx hb dX7_ballotAt_4 (by decide) ?_
    refine lv_goto (tgt := 14) hx hb dX7_ballotAt_5 (by decide) ?_
    exact g_iret hC hP hS hr hlk (by decide) (by decide) (⟨by first | (rw [if_pos (Int32.not_le.mp c_1)]; done) | (rw [if_neg (Int32.not_lt.mpr c_1)]; done), rfl, hsz⟩) dX7_ballotAt_14

set_option maxRecDepth 100000 in
set_option maxHeartbeats 4000000 in
theorem c_X7_holderAt (l : Launch) (N0 : Nat) (D : va_G) (cy : Nat → ClassId) (S : gS) (sz : Nat) (o : Nat) (r : Int32) (hm : mOK S o) (hr0 : r < 0 ∨ vp_in r 600) : gM l yX7_holderAt cX7_holderAt 2 (some FieldType.int) { frames := 0, cells := 0, slots := 0, locals := 0 } N0 D cy [.ref o, .int r] S sz (fun v S1 z => v = some (.int (if r < 0 then (-1) else gI S (o + 12) r.toNatClampNeg)) ∧ S1 = S ∧ z = sz) := by
  refine g_body (by decide) rfl (Nat.le_of_ble_eq_true rfl) ?_
  intro p e s m args below meth c ls hC hU hr hlk hnm hsz hP hS hl
  have hx := hC.1
  have hb := hC.2.1
  refine lv_iload_n hx hb dX7_holderAt_0 rfl (lv_at hl 1 rfl) ?_
  refine lv_if_ge (tgt := 8) hx hb dX7_holderAt_1 (by decide) (fun c_1 => ?_) (fun c_1 => ?_)
  · refine lv_aload_n hx hb dX7_holderAt_8 rfl (lv_at hl 0 rfl) ?_
    refine gt_X7_44 hC hP (mK (hm)) (mR_14 (hm)) dX7_holderAt_9 ?_
    refine lv_iload_n hx hb dX7_holderAt_12 rfl (lv_at hl 1 rfl) ?_
    refine g_iald hC hP (mA_14 (hm)) (by rw [mN_14 (hm)]; exact by rcases hr0 with h | h; exact absurd c_1 (Int32.not_le.mpr h); exact h) dX7_holderAt_13 ?_
    exact g_iret hC hP hS hr hlk (by decide) (by decide) (⟨by first | (rw [if_pos (Int32.not_le.mp c_1)]; done) | (rw [if_neg (Int32.not_lt.mpr c_1)]; done), rfl, hsz⟩) dX7_holderAt_14
  · refine lv_iconst (v := (-1)) hx hb dX7_holderAt_4 (by decide) ?_
    refine lv_goto (tgt := 14) hx hb dX7_holderAt_5 (by decide) ?_
    exact g_iret hC hP hS hr hlk (by decide) (by decide) (⟨by first | (rw [if_pos (Int32.not_le.mp c_1)]; done) | (rw [if_neg (Int32.not_lt.mpr c_1)]; done), rfl, hsz⟩) dX7_holderAt_14

set_option maxRecDepth 100000 in
set_option maxHeartbeats 4000000 in
theorem c_X7_termAt (l : Launch) (N0 : Nat) (D : va_G) (cy : Nat → ClassId) (S : gS) (sz : Nat) (o : Nat) (r : Int32) (hm : mOK S o) (hr0 : r < 0 ∨ vp_in r 600) : gM l yX7_termAt cX7_termAt 2 (some FieldType.int) { frames := 0, cells := 0, slots := 0, locals := 0 } N0 D cy [.ref o, .int r] S sz (fun v S1 z => v = some (.int (if r < 0 then 0 else gI S (o + 13) r.toNatClampNeg)) ∧ S1 = S ∧ z = sz) := by
  refine g_body (by decide) rfl (Nat.le_of_ble_eq_true rfl) ?_
  intro p e s m args below meth c ls hC hU hr hlk hnm hsz hP hS hl
  have hx := hC.1
  have hb := hC.2.1
  refine lv_iload_n hx hb dX7_termAt_0 rfl (lv_at hl 1 rfl) ?_
  refine lv_if_ge (tgt := 8) hx hb dX7_termAt_1 (by decide) (fun c_1 => ?_) (fun c_1 => ?_)
  · refine lv_aload_n hx hb dX7_termAt_8 rfl (lv_at hl 0 rfl) ?_
    refine gt_X7_47 hC hP (mK (hm)) (mR_15 (hm)) dX7_termAt_9 ?_
    refine lv_iload_n hx hb dX7_termAt_12 rfl (lv_at hl 1 rfl) ?_
    refine g_iald hC hP (mA_15 (hm)) (by rw [mN_15 (hm)]; exact by rcases hr0 with h | h; exact absurd c_1 (Int32.not_le.mpr h); exact h) dX7_termAt_13 ?_
    exact g_iret hC hP hS hr hlk (by decide) (by decide) (⟨by first | (rw [if_pos (Int32.not_le.mp c_1)]; done) | (rw [if_neg (Int32.not_lt.mpr c_1)]; done), rfl, hsz⟩) dX7_termAt_14
  · refine lv_iconst (v := 0) hx hb dX7_termAt_4 (by decide) ?_
    refine lv_goto (tgt := 14) hx hb dX7_termAt_5 (by decide) ?_
    exact g_iret hC hP hS hr hlk (by decide) (by decide) (⟨by first | (rw [if_pos (Int32.not_le.mp c_1)]; done) | (rw [if_neg (Int32.not_lt.mpr c_1)]; done), rfl, hsz⟩) dX7_termAt_14

set_option maxRecDepth 100000 in
set_option maxHeartbeats 4000000 in
theorem c_X7_markAt (l : Launch) (N0 : Nat) (D : va_G) (cy : Nat → ClassId) (S : gS) (sz : Nat) (o : Nat) (r : Int32) (hm : mOK S o) (hr0 : r < 0 ∨ vp_in r 600) : gM l yX7_markAt cX7_markAt 2 (some FieldType.long) { frames := 0, cells := 0, slots := 0, locals := 0 } N0 D cy [.ref o, .int r] S sz (fun v S1 z => v = some (.long (if r < 0 then 0 else gJ S (o + 14) r.toNatClampNeg)) ∧ S1 = S ∧ z = sz) := by
  refine g_body (by decide) rfl (Nat.le_of_ble_eq_true rfl) ?_
  intro p e s m args below meth c ls hC hU hr hlk hnm hsz hP hS hl
  have hx := hC.1
  have hb := hC.2.1
  refine lv_iload_n hx hb dX7_markAt_0 rfl (lv_at hl 1 rfl) ?_
  refine lv_if_ge (tgt := 8) hx hb dX7_markAt_1 (by decide) (fun c_1 => ?_) (fun c_1 => ?_)
  · refine lv_aload_n hx hb dX7_markAt_8 rfl (lv_at hl 0 rfl) ?_
    refine gt_X7_50 hC hP (mK (hm)) (mR_16 (hm)) dX7_markAt_9 ?_
    refine lv_iload_n hx hb dX7_markAt_12 rfl (lv_at hl 1 rfl) ?_
    refine g_lald hC hP (mA_16 (hm)) (by rw [mN_16 (hm)]; exact by rcases hr0 with h | h; exact absurd c_1 (Int32.not_le.mpr h); exact h) dX7_markAt_13 ?_
    exact g_lret hC hP hS hr hlk (by decide) (by decide) (⟨by first | (rw [if_pos (Int32.not_le.mp c_1)]; done) | (rw [if_neg (Int32.not_lt.mpr c_1)]; done), rfl, hsz⟩) dX7_markAt_14
  · refine lv_lconst (v := 0) hx hb dX7_markAt_4 rfl ?_
    refine lv_goto (tgt := 14) hx hb dX7_markAt_5 (by decide) ?_
    exact g_lret hC hP hS hr hlk (by decide) (by decide) (⟨by first | (rw [if_pos (Int32.not_le.mp c_1)]; done) | (rw [if_neg (Int32.not_lt.mpr c_1)]; done), rfl, hsz⟩) dX7_markAt_14

theorem m5 (i n : Nat) : (5 : Int32) * nI i + nI n = nI (5 * i + n) := by
  rw [show (5 : Int32) = nI 5 from rfl, pk_mul, nI_add]
/-- counted[5 i ..] is cleared as far as n -/
def mFg (S : gS) (o i n : Nat) : gS := (gK S, gn S, fun b j => if b = o + 22 ∧ 5 * i ≤ j ∧ j < 5 * i + n then 0 else gI S b j, gJ S, gR S)
theorem mG {S : gS} {o i n o' : Nat} (h : mOK S o') : mOK (mFg S o i n) o' := h
theorem gI_mFg {S : gS} {o i n b j : Nat} : gI (mFg S o i n) b j = if b = o + 22 ∧ 5 * i ≤ j ∧ j < 5 * i + n then 0 else gI S b j := rfl
theorem gJ_mFg {S : gS} {o i n : Nat} : gJ (mFg S o i n) = gJ S := rfl
theorem vG {S : gS} {o i n b j : Nat} {x : Int32} (hne : b ≠ o + 22) (h : gI S b j = x) : gI (mFg S o i n) b j = x := by rw [gI_mFg, if_neg (fun h => hne h.1)]; exact h
theorem mFg_0 {S : gS} {o i : Nat} : mFg S o i 0 = S := gS_ext rfl rfl (fun b j => by rw [gI_mFg, if_neg (by omega)]) (fun _ _ => rfl) (fun _ _ => rfl)
theorem mFg_s {S : gS} {o i n : Nat} : sI (mFg S o i n) (o + 22) (5 * i + n) 0 = mFg S o i (n + 1) := by
  refine gS_ext rfl rfl (fun b j => ?_) (fun _ _ => rfl) (fun _ _ => rfl)
  rw [gI_sI, gI_mFg, gI_mFg]
  by_cases hj : j = 5 * i + n
  · rw [if_pos hj]
    by_cases hb : b = o + 22
    · rw [if_pos hb, if_pos (by omega)]
    · rw [if_neg hb, if_neg (by omega), if_neg (by omega)]
  · rw [if_neg hj]
    by_cases hc : b = o + 22 ∧ 5 * i ≤ j ∧ j < 5 * i + n
    · rw [if_pos hc, if_pos (by omega)]
    · rw [if_neg hc, if_neg (by omega)]
set_option maxRecDepth 100000 in
set_option maxHeartbeats 4000000 in
theorem lp_X7_forgetCounts {p : Program} {l : Launch} {e : Env} {R : Room} {s : State} {m : MethodId} {args : Array Value} {below : List Frame} {meth : Method} {c : Code} {cells slots : Nat} {Q : State → Prop} {N0 : Nat} {D : va_G} {cy : Nat → ClassId} {S : gS} {sz : Nat} (hC : gC N0 D cy p s m args c cX7_forgetCounts 3 RX7) {o q : Nat} (hm : mOK S o) (hq : q < 8)
    (hexit : ∀ (H : Heap) (locs : List Loc) (ls : Array Slot), gP N0 D cy (mFg S o q 5) H → H.size = sz → va_S (fun q => N0 ≤ q) s.heap H locs → lv_has ls 3 [(2, .int (nI 5)), (0, .ref (o)), (1, .int (nI q))] → W p l e R s m args below meth c H locs cells slots Q (F0 m 24 ls [])) :
    ∀ (n i : Nat) (H : Heap) (locs : List Loc) (ls : Array Slot), i + n = 5 → gP N0 D cy (mFg S o q i) H → H.size = sz → va_S (fun q => N0 ≤ q) s.heap H locs → lv_has ls 3 [(2, .int (nI i)), (0, .ref (o)), (1, .int (nI q))] → W p l e R s m args below meth c H locs cells slots Q (F0 m 2 ls []) := by
  have hx := hC.1
  have hb := hC.2.1
  intro n
  induction n with
  | zero =>
    intro i H locs ls hi hP hsz hS hl
    have hi8 : i = 5 := by omega
    subst hi8
    refine lv_iload_n hx hb dX7_forgetCounts_2 rfl (lv_at hl 0 rfl) ?_
    refine lv_iconst (v := 5) hx hb dX7_forgetCounts_3 (by decide) ?_
    refine lv_icmp_ge (tgt := 24) hx hb dX7_forgetCounts_4 (by decide) (fun c_4 => ?_) (fun c_4 => ?_)
    · exact hexit _ _ _ hP hsz hS (lv_sub hl [0, 1, 2] rfl)
    · exact absurd (by decide) c_4
  | succ n ih =>
    intro i H locs ls hi hP hsz hS hl
    have hi8 : i < 5 := by omega
    refine lv_iload_n hx hb dX7_forgetCounts_2 rfl (lv_at hl 0 rfl) ?_
    refine lv_iconst (v := 5) hx hb dX7_forgetCounts_3 (by decide) ?_
    refine lv_icmp_ge (tgt := 24) hx hb dX7_forgetCounts_4 (by decide) (fun c_4 => ?_) (fun c_4 => ?_)
    · exact absurd c_4 (nI_ge (a := i) (b := 5) (by omega) (by decide))
    · refine lv_aload_n hx hb dX7_forgetCounts_7 rfl (lv_at hl 1 rfl) ?_
      refine gt_X7_75 hC hP (mK (mG (hm))) (mR_24 (mG (hm))) dX7_forgetCounts_8 ?_
      refine lv_iconst (v := 5) hx hb dX7_forgetCounts_11 (by decide) ?_
      refine lv_iload_n hx hb dX7_forgetCounts_12 rfl (lv_at hl 2 rfl) ?_
      refine lv_imul hx hb dX7_forgetCounts_13 ?_
      refine lv_iload_n hx hb dX7_forgetCounts_14 rfl (lv_at hl 0 rfl) ?_
      refine lv_iadd hx hb dX7_forgetCounts_15 ?_
      rw [m5]
      refine lv_iconst (v := 0) hx hb dX7_forgetCounts_16 (by decide) ?_
      refine g_zast hC hP hS (mA_24 (mG (hm))) (by rw [mN_24 (mG (hm))]; exact vp_in_nI (by omega) (by decide)) (nz01 (by decide)) dX7_forgetCounts_17 (fun H locs hP hz hS => ?_)
      replace hsz := hz.trans hsz
      refine lv_iinc (v := _ + 1) (lv' := [(2, .int _), (0, .ref _), (1, .int _)]) hx hb dX7_forgetCounts_18 hl (k := 0) rfl rfl (by decide) rfl (fun ls hl => ?_)
      refine lv_goto (tgt := 2) hx hb dX7_forgetCounts_21 (by decide) ?_
      exact ih (i + 1) _ _ _ (by omega) (by rw [nI_clamp (by omega)] at hP; exact mFg_s ▸ hP) hsz hS (by rw [nI_succ]; exact lv_sub hl [0, 1, 2] rfl)

set_option maxRecDepth 100000 in
set_option maxHeartbeats 4000000 in
theorem c_X7_forgetCounts (l : Launch) (N0 : Nat) (D : va_G) (cy : Nat → ClassId) (S : gS) (sz : Nat) (o q : Nat) (hm : mOK S o) (hq : q < 8) : gM l yX7_forgetCounts cX7_forgetCounts 3 (none : Option FieldType) { frames := 0, cells := 0, slots := 0, locals := 0 } N0 D cy [.ref o, .int (nI q)] S sz (fun v S1 z => v = none ∧ S1 = mFg S o q 5 ∧ z = sz) := by
  refine g_body (by decide) rfl (Nat.le_of_ble_eq_true rfl) ?_
  intro p e s m args below meth c ls hC hU hr hlk hnm hsz hP hS hl
  have hx := hC.1
  have hb := hC.2.1
  refine lv_iconst (v := 0) hx hb dX7_forgetCounts_0 (by decide) ?_
  refine lv_istore_n (lv' := [(2, .int _), (0, .ref _), (1, .int _)]) hx hb dX7_forgetCounts_1 rfl hl (by decide) rfl (fun ls hl => ?_)
  refine lp_X7_forgetCounts (sz := sz) hC hm hq (fun H locs ls hP hsz hS hl => ?_) 5 0 _ _ _ rfl (by rw [mFg_0]; exact hP) hsz hS hl
  exact g_vret hC hP hS hr hlk (by decide) (by decide) (⟨rfl, rfl, hsz⟩) dX7_forgetCounts_24
