def busyM (S : gS) (o k L : Nat) (rd : Int32) : Prop := gI S (o + 27) k = rd ∨ gI S (o + 18) k ≠ 0 ∨ 90 < L + 5
set_option maxRecDepth 100000 in
set_option maxHeartbeats 4000000 in
theorem c_X7_start (l : Launch) (N0 : Nat) (D : va_G) (cy : Nat → ClassId) (S : gS) (sz : Nat) (o L : Nat) (i : Int32) (hm : mOK S o) (hL : gI S o 1 = nI L) (hL2 : L ≤ 90) : gM l yX7_start cX7_start 2 (none : Option FieldType) { frames := 3, cells := 0, slots := 0, locals := 120 } N0 D cy [.ref o, .int i] S sz (fun v S1 z => v = none ∧ z = sz ∧ ((¬ (0 ≤ i ∧ i < 8) ∧ S1 = sI S o 0 1) ∨ (∃ k, k < 8 ∧ i = nI k ∧ (gI S (o + 27) k ≠ 0 ∨ gI S (o + 18) k ≠ 0 ∨ 90 < L + 5) ∧ S1 = sI (sI S o 0 0) o 0 2) ∨ (∃ k, k < 8 ∧ i = nI k ∧ ¬ (gI S (o + 27) k ≠ 0 ∨ gI S (o + 18) k ≠ 0 ∨ 90 < L + 5) ∧ S1 = mAtt (sI S o 0 0) o L k 0))) := by
  refine g_body (by decide) rfl (Nat.le_of_ble_eq_true rfl) ?_
  intro p e s m args below meth c ls hC hU hr hlk hnm hsz hP hS hl
  have hx := hC.1
  have hb := hC.2.1
  refine lv_aload_n hx hb dX7_start_0 rfl (lv_at hl 0 rfl) ?_
  refine lv_iload_n hx hb dX7_start_1 rfl (lv_at hl 1 rfl) ?_
  refine g_callV (As := [.int _]) (rest := []) hC hU hP hS hl.1 (c_X7_isIssuer l N0 D cy _ _ o _ hm) mL_X7_118 iM_X7_isIssuer sL_X7_isIssuer iN_X7 cD_X7_isIssuer ⟨by decide, by decide, rfl⟩ ⟨by decide, by decide⟩ ⟨by decide, by decide⟩ (ci := 7) rfl (by decide) (mK (hm)) rfl (Nat.le_of_ble_eq_true rfl) dX7_start_2 (fun v S1 H locs hw hP hz hS => ?_)
  obtain ⟨rfl, hS1, hz2⟩ := hw
  replace hS1 := hS1.symm
  subst hS1
  replace hsz := hz2.trans hsz
  refine lv_if_ne (tgt := 9) hx hb dX7_start_5 (by decide) (fun c_5 => ?_) (fun c_5 => ?_)
  · have c_6 := th1 c_5
    rw [if_pos c_6] at hP
    obtain ⟨k, hk, rfl⟩ := isI_nat c_6
    refine lv_aload_n hx hb dX7_start_9 rfl (lv_at hl 0 rfl) ?_
    refine gt_X7_90 hC hP (mK (mI (hm))) (mR_29 (mI (hm))) dX7_start_10 ?_
    refine lv_iload_n hx hb dX7_start_13 rfl (lv_at hl 1 rfl) ?_
    refine g_zald hC hP (mA_29 (mI (hm))) (by rw [mN_29 (mI (hm))]; exact vp_in_nI hk (by decide)) dX7_start_14 ?_
    rw [nI_clamp (by omega), gI_a (by omega)]
    refine lv_if_ne (tgt := 38) hx hb dX7_start_15 (by decide) (fun c_15 => ?_) (fun c_15 => ?_)
    · have hbz : gI S (o + 27) k ≠ 0 ∨ gI S (o + 18) k ≠ 0 ∨ 90 < L + 5 := by
        first | exact Or.inl c_15 | exact Or.inr (Or.inl c_24) | exact Or.inr (Or.inr (by have h9 := mt (nI_leI (a := L + 5) (b := 90) (by omega) (by decide)).mpr c_35; omega))
      refine lv_aload_n hx hb dX7_start_38 rfl (lv_at hl 0 rfl) ?_
      refine lv_iconst (v := 2) hx hb dX7_start_39 (by decide) ?_
      refine pt_X7_114 hC hP hS (mK (mI (hm))) dX7_start_40 (fun H locs hP hz hS => ?_)
      replace hsz := hz.trans hsz
      refine lv_goto (tgt := 52) hx hb dX7_start_43 (by decide) ?_
      exact g_vret hC hP hS hr hlk (by decide) (by decide) (⟨rfl, hsz, by first | exact Or.inr (Or.inl ⟨k, hk, rfl, hbz, rfl⟩) | exact Or.inr (Or.inr ⟨k, hk, rfl, hnb, rfl⟩)⟩) dX7_start_52
    · refine lv_aload_n hx hb dX7_start_18 rfl (lv_at hl 0 rfl) ?_
      refine gt_X7_63 hC hP (mK (mI (hm))) (mR_20 (mI (hm))) dX7_start_19 ?_
      refine lv_iload_n hx hb dX7_start_22 rfl (lv_at hl 1 rfl) ?_
      refine g_iald hC hP (mA_20 (mI (hm))) (by rw [mN_20 (mI (hm))]; exact vp_in_nI hk (by decide)) dX7_start_23 ?_
      rw [nI_clamp (by omega), gI_a (by omega)]
      refine lv_if_ne (tgt := 38) hx hb dX7_start_24 (by decide) (fun c_24 => ?_) (fun c_24 => ?_)
      · have hbz : gI S (o + 27) k ≠ 0 ∨ gI S (o + 18) k ≠ 0 ∨ 90 < L + 5 := by
          first | exact Or.inl c_15 | exact Or.inr (Or.inl c_24) | exact Or.inr (Or.inr (by have h9 := mt (nI_leI (a := L + 5) (b := 90) (by omega) (by decide)).mpr c_35; omega))
        refine lv_aload_n hx hb dX7_start_38 rfl (lv_at hl 0 rfl) ?_
        refine lv_iconst (v := 2) hx hb dX7_start_39 (by decide) ?_
        refine pt_X7_114 hC hP hS (mK (mI (hm))) dX7_start_40 (fun H locs hP hz hS => ?_)
        replace hsz := hz.trans hsz
        refine lv_goto (tgt := 52) hx hb dX7_start_43 (by decide) ?_
        exact g_vret hC hP hS hr hlk (by decide) (by decide) (⟨rfl, hsz, by first | exact Or.inr (Or.inl ⟨k, hk, rfl, hbz, rfl⟩) | exact Or.inr (Or.inr ⟨k, hk, rfl, hnb, rfl⟩)⟩) dX7_start_52
      · refine lv_aload_n hx hb dX7_start_27 rfl (lv_at hl 0 rfl) ?_
        refine gv_X7_124 hC hP (mK (mI (hm))) (vI (by first | exact Or.inr (by decide) | exact Or.inl (by omega)) (hL)) dX7_start_28 ?_
        refine lv_iconst (v := 5) hx hb dX7_start_31 (by decide) ?_
        refine lv_iadd hx hb dX7_start_32 ?_
        rw [show nI L + 5 = nI (L + 5) from nI_add L 5]
        refine lv_bipush (v := 90) hx hb dX7_start_33 (by decide) ?_
        refine lv_icmp_le (tgt := 46) hx hb dX7_start_35 (by decide) (fun c_35 => ?_) (fun c_35 => ?_)
        · have hL5 : L + 5 ≤ 90 := (nI_leI (b := 90) (by omega) (by decide)).mp c_35
          have hnb : ¬ (gI S (o + 27) k ≠ 0 ∨ gI S (o + 18) k ≠ 0 ∨ 90 < L + 5) := fun h => by
            rcases h with h | h | h
            · first | exact h c_15 | exact c_15 h
            · exact h c_24
            · omega
          refine lv_aload_n hx hb dX7_start_46 rfl (lv_at hl 0 rfl) ?_
          refine lv_iload_n hx hb dX7_start_47 rfl (lv_at hl 1 rfl) ?_
          refine lv_iconst (v := 0) hx hb dX7_start_48 (by decide) ?_
          refine g_callV (As := [.int _, .int _]) (rest := []) hC hU hP hS hl.1 (c_X7_attempt l N0 D cy _ _ o L k _ (mI hm) hk (vI (Or.inr (by decide)) hL) (by omega) (by decide)) mL_X7_149 iM_X7_attempt sL_X7_attempt iN_X7 cD_X7_attempt ⟨by decide, by decide, rfl⟩ ⟨by decide, by decide⟩ ⟨by decide, by decide⟩ (ci := 7) rfl (by decide) (mK (mI (hm))) rfl (Nat.le_of_ble_eq_true rfl) dX7_start_49 (fun v S1 H locs hw hP hz hS => ?_)
          obtain ⟨rfl, hS1, hz2⟩ := hw
          replace hS1 := hS1.symm
          subst hS1
          replace hsz := hz2.trans hsz
          exact g_vret hC hP hS hr hlk (by decide) (by decide) (⟨rfl, hsz, by first | exact Or.inr (Or.inl ⟨k, hk, rfl, hbz, rfl⟩) | exact Or.inr (Or.inr ⟨k, hk, rfl, hnb, rfl⟩)⟩) dX7_start_52
        · have hbz : gI S (o + 27) k ≠ 0 ∨ gI S (o + 18) k ≠ 0 ∨ 90 < L + 5 := by
            first | exact Or.inl c_15 | exact Or.inr (Or.inl c_24) | exact Or.inr (Or.inr (by have h9 := mt (nI_leI (a := L + 5) (b := 90) (by omega) (by decide)).mpr c_35; omega))
          refine lv_aload_n hx hb dX7_start_38 rfl (lv_at hl 0 rfl) ?_
          refine lv_iconst (v := 2) hx hb dX7_start_39 (by decide) ?_
          refine pt_X7_114 hC hP hS (mK (mI (hm))) dX7_start_40 (fun H locs hP hz hS => ?_)
          replace hsz := hz.trans hsz
          refine lv_goto (tgt := 52) hx hb dX7_start_43 (by decide) ?_
          exact g_vret hC hP hS hr hlk (by decide) (by decide) (⟨rfl, hsz, by first | exact Or.inr (Or.inl ⟨k, hk, rfl, hbz, rfl⟩) | exact Or.inr (Or.inr ⟨k, hk, rfl, hnb, rfl⟩)⟩) dX7_start_52
  · exact g_vret hC hP hS hr hlk (by decide) (by decide) (⟨rfl, hsz, Or.inl ⟨cnt0 c_5, by rw [if_neg (cnt0 c_5)]⟩⟩) dX7_start_8

set_option maxRecDepth 100000 in
set_option maxHeartbeats 4000000 in
theorem c_X7_prolong (l : Launch) (N0 : Nat) (D : va_G) (cy : Nat → ClassId) (S : gS) (sz : Nat) (o L : Nat) (i : Int32) (hm : mOK S o) (hL : gI S o 1 = nI L) (hL2 : L ≤ 90) : gM l yX7_prolong cX7_prolong 2 (none : Option FieldType) { frames := 3, cells := 0, slots := 0, locals := 120 } N0 D cy [.ref o, .int i] S sz (fun v S1 z => v = none ∧ z = sz ∧ ((¬ (0 ≤ i ∧ i < 8) ∧ S1 = sI S o 0 1) ∨ (∃ k, k < 8 ∧ i = nI k ∧ (gI S (o + 27) k = 0 ∨ gI S (o + 18) k ≠ 0 ∨ 90 < L + 5) ∧ S1 = sI (sI S o 0 0) o 0 2) ∨ (∃ k, k < 8 ∧ i = nI k ∧ ¬ (gI S (o + 27) k = 0 ∨ gI S (o + 18) k ≠ 0 ∨ 90 < L + 5) ∧ S1 = mAtt (sI S o 0 0) o L k 1))) := by
  refine g_body (by decide) rfl (Nat.le_of_ble_eq_true rfl) ?_
  intro p e s m args below meth c ls hC hU hr hlk hnm hsz hP hS hl
  have hx := hC.1
  have hb := hC.2.1
  refine lv_aload_n hx hb dX7_prolong_0 rfl (lv_at hl 0 rfl) ?_
  refine lv_iload_n hx hb dX7_prolong_1 rfl (lv_at hl 1 rfl) ?_
  refine g_callV (As := [.int _]) (rest := []) hC hU hP hS hl.1 (c_X7_isIssuer l N0 D cy _ _ o _ hm) mL_X7_118 iM_X7_isIssuer sL_X7_isIssuer iN_X7 cD_X7_isIssuer ⟨by decide, by decide, rfl⟩ ⟨by decide, by decide⟩ ⟨by decide, by decide⟩ (ci := 7) rfl (by decide) (mK (hm)) rfl (Nat.le_of_ble_eq_true rfl) dX7_prolong_2 (fun v S1 H locs hw hP hz hS => ?_)
  obtain ⟨rfl, hS1, hz2⟩ := hw
  replace hS1 := hS1.symm
  subst hS1
  replace hsz := hz2.trans hsz
  refine lv_if_ne (tgt := 9) hx hb dX7_prolong_5 (by decide) (fun c_5 => ?_) (fun c_5 => ?_)
  · have c_6 := th1 c_5
    rw [if_pos c_6] at hP
    obtain ⟨k, hk, rfl⟩ := isI_nat c_6
    refine lv_aload_n hx hb dX7_prolong_9 rfl (lv_at hl 0 rfl) ?_
    refine gt_X7_90 hC hP (mK (mI (hm))) (mR_29 (mI (hm))) dX7_prolong_10 ?_
    refine lv_iload_n hx hb dX7_prolong_13 rfl (lv_at hl 1 rfl) ?_
    refine g_zald hC hP (mA_29 (mI (hm))) (by rw [mN_29 (mI (hm))]; exact vp_in_nI hk (by decide)) dX7_prolong_14 ?_
    rw [nI_clamp (by omega), gI_a (by omega)]
    refine lv_if_eq (tgt := 38) hx hb dX7_prolong_15 (by decide) (fun c_15 => ?_) (fun c_15 => ?_)
    · have hbz : gI S (o + 27) k = 0 ∨ gI S (o + 18) k ≠ 0 ∨ 90 < L + 5 := by
        first | exact Or.inl c_15 | exact Or.inr (Or.inl c_24) | exact Or.inr (Or.inr (by have h9 := mt (nI_leI (a := L + 5) (b := 90) (by omega) (by decide)).mpr c_35; omega))
      refine lv_aload_n hx hb dX7_prolong_38 rfl (lv_at hl 0 rfl) ?_
      refine lv_iconst (v := 2) hx hb dX7_prolong_39 (by decide) ?_
      refine pt_X7_114 hC hP hS (mK (mI (hm))) dX7_prolong_40 (fun H locs hP hz hS => ?_)
      replace hsz := hz.trans hsz
      refine lv_goto (tgt := 52) hx hb dX7_prolong_43 (by decide) ?_
      exact g_vret hC hP hS hr hlk (by decide) (by decide) (⟨rfl, hsz, by first | exact Or.inr (Or.inl ⟨k, hk, rfl, hbz, rfl⟩) | exact Or.inr (Or.inr ⟨k, hk, rfl, hnb, rfl⟩)⟩) dX7_prolong_52
    · refine lv_aload_n hx hb dX7_prolong_18 rfl (lv_at hl 0 rfl) ?_
      refine gt_X7_63 hC hP (mK (mI (hm))) (mR_20 (mI (hm))) dX7_prolong_19 ?_
      refine lv_iload_n hx hb dX7_prolong_22 rfl (lv_at hl 1 rfl) ?_
      refine g_iald hC hP (mA_20 (mI (hm))) (by rw [mN_20 (mI (hm))]; exact vp_in_nI hk (by decide)) dX7_prolong_23 ?_
      rw [nI_clamp (by omega), gI_a (by omega)]
      refine lv_if_ne (tgt := 38) hx hb dX7_prolong_24 (by decide) (fun c_24 => ?_) (fun c_24 => ?_)
      · have hbz : gI S (o + 27) k = 0 ∨ gI S (o + 18) k ≠ 0 ∨ 90 < L + 5 := by
          first | exact Or.inl c_15 | exact Or.inr (Or.inl c_24) | exact Or.inr (Or.inr (by have h9 := mt (nI_leI (a := L + 5) (b := 90) (by omega) (by decide)).mpr c_35; omega))
        refine lv_aload_n hx hb dX7_prolong_38 rfl (lv_at hl 0 rfl) ?_
        refine lv_iconst (v := 2) hx hb dX7_prolong_39 (by decide) ?_
        refine pt_X7_114 hC hP hS (mK (mI (hm))) dX7_prolong_40 (fun H locs hP hz hS => ?_)
        replace hsz := hz.trans hsz
        refine lv_goto (tgt := 52) hx hb dX7_prolong_43 (by decide) ?_
        exact g_vret hC hP hS hr hlk (by decide) (by decide) (⟨rfl, hsz, by first | exact Or.inr (Or.inl ⟨k, hk, rfl, hbz, rfl⟩) | exact Or.inr (Or.inr ⟨k, hk, rfl, hnb, rfl⟩)⟩) dX7_prolong_52
      · refine lv_aload_n hx hb dX7_prolong_27 rfl (lv_at hl 0 rfl) ?_
        refine gv_X7_124 hC hP (mK (mI (hm))) (vI (by first | exact Or.inr (by decide) | exact Or.inl (by omega)) (hL)) dX7_prolong_28 ?_
        refine lv_iconst (v := 5) hx hb dX7_prolong_31 (by decide) ?_
        refine lv_iadd hx hb dX7_prolong_32 ?_
        rw [show nI L + 5 = nI (L + 5) from nI_add L 5]
        refine lv_bipush (v := 90) hx hb dX7_prolong_33 (by decide) ?_
        refine lv_icmp_le (tgt := 46) hx hb dX7_prolong_35 (by decide) (fun c_35 => ?_) (fun c_35 => ?_)
        · have hL5 : L + 5 ≤ 90 := (nI_leI (b := 90) (by omega) (by decide)).mp c_35
          have hnb : ¬ (gI S (o + 27) k = 0 ∨ gI S (o + 18) k ≠ 0 ∨ 90 < L + 5) := fun h => by
            rcases h with h | h | h
            · first | exact h c_15 | exact c_15 h
            · exact h c_24
            · omega
          refine lv_aload_n hx hb dX7_prolong_46 rfl (lv_at hl 0 rfl) ?_
          refine lv_iload_n hx hb dX7_prolong_47 rfl (lv_at hl 1 rfl) ?_
          refine lv_iconst (v := 1) hx hb dX7_prolong_48 (by decide) ?_
          refine g_callV (As := [.int _, .int _]) (rest := []) hC hU hP hS hl.1 (c_X7_attempt l N0 D cy _ _ o L k _ (mI hm) hk (vI (Or.inr (by decide)) hL) (by omega) (by decide)) mL_X7_149 iM_X7_attempt sL_X7_attempt iN_X7 cD_X7_attempt ⟨by decide, by decide, rfl⟩ ⟨by decide, by decide⟩ ⟨by decide, by decide⟩ (ci := 7) rfl (by decide) (mK (mI (hm))) rfl (Nat.le_of_ble_eq_true rfl) dX7_prolong_49 (fun v S1 H locs hw hP hz hS => ?_)
          obtain ⟨rfl, hS1, hz2⟩ := hw
          replace hS1 := hS1.symm
          subst hS1
          replace hsz := hz2.trans hsz
          exact g_vret hC hP hS hr hlk (by decide) (by decide) (⟨rfl, hsz, by first | exact Or.inr (Or.inl ⟨k, hk, rfl, hbz, rfl⟩) | exact Or.inr (Or.inr ⟨k, hk, rfl, hnb, rfl⟩)⟩) dX7_prolong_52
        · have hbz : gI S (o + 27) k = 0 ∨ gI S (o + 18) k ≠ 0 ∨ 90 < L + 5 := by
            first | exact Or.inl c_15 | exact Or.inr (Or.inl c_24) | exact Or.inr (Or.inr (by have h9 := mt (nI_leI (a := L + 5) (b := 90) (by omega) (by decide)).mpr c_35; omega))
          refine lv_aload_n hx hb dX7_prolong_38 rfl (lv_at hl 0 rfl) ?_
          refine lv_iconst (v := 2) hx hb dX7_prolong_39 (by decide) ?_
          refine pt_X7_114 hC hP hS (mK (mI (hm))) dX7_prolong_40 (fun H locs hP hz hS => ?_)
          replace hsz := hz.trans hsz
          refine lv_goto (tgt := 52) hx hb dX7_prolong_43 (by decide) ?_
          exact g_vret hC hP hS hr hlk (by decide) (by decide) (⟨rfl, hsz, by first | exact Or.inr (Or.inl ⟨k, hk, rfl, hbz, rfl⟩) | exact Or.inr (Or.inr ⟨k, hk, rfl, hnb, rfl⟩)⟩) dX7_prolong_52
  · exact g_vret hC hP hS hr hlk (by decide) (by decide) (⟨rfl, hsz, Or.inl ⟨cnt0 c_5, by rw [if_neg (cnt0 c_5)]⟩⟩) dX7_prolong_8

