def ltV (S : gS) (o k : Nat) (w : Int32) : Int32 := if w = 0 then gI S (o + 1) k else if w = 1 then gI S (o + 2) k else if w = 2 then gI S (o + 3) k else if w = 3 then gI S (o + 4) k else if w = 4 then (if gI S (o + 1) k = 2 then gI S (o + 5) k else -1) else (if gI S (o + 1) k = 4 then gI S (o + 8) k else -1)
set_option maxRecDepth 100000 in
set_option maxHeartbeats 4000000 in
theorem c_X7_letter (l : Launch) (N0 : Nat) (D : va_G) (cy : Nat → ClassId) (S : gS) (sz : Nat) (o L : Nat) (i w : Int32) (hm : mOK S o) (hL : gI S o 1 = nI L) (hL2 : L < 100) : gM l yX7_letter cX7_letter 3 (some FieldType.int) { frames := 1, cells := 0, slots := 0, locals := 30 } N0 D cy [.ref o, .int i, .int w] S sz (fun v S1 z => z = sz ∧ ((¬ isL S o i ∧ v = some (.int 0) ∧ S1 = sI S o 0 1) ∨ (∃ k, k < L ∧ i = nI k ∧ (w < 0 ∨ 5 < w) ∧ v = some (.int 0) ∧ S1 = sI (sI S o 0 0) o 0 1) ∨ (∃ k, k < L ∧ i = nI k ∧ ¬ (w < 0 ∨ 5 < w) ∧ v = some (.int (ltV S o k w)) ∧ S1 = sI (sI S o 0 0) o 0 0))) := by
  refine g_body (by decide) rfl (Nat.le_of_ble_eq_true rfl) ?_
  intro p e s m args below meth c ls hC hU hr hlk hnm hsz hP hS hl
  have hx := hC.1
  have hb := hC.2.1
  refine lv_aload_n hx hb dX7_letter_0 rfl (lv_at hl 0 rfl) ?_
  refine lv_iload_n hx hb dX7_letter_1 rfl (lv_at hl 1 rfl) ?_
  refine g_callV (As := [.int _]) (rest := []) hC hU hP hS hl.1 (c_X7_isLetter l N0 D cy _ _ o _ hm) mL_X7_131 iM_X7_isLetter sL_X7_isLetter iN_X7 cD_X7_isLetter ⟨by decide, by decide, rfl⟩ ⟨by decide, by decide⟩ ⟨by decide, by decide⟩ (ci := 7) rfl (by decide) (mK (hm)) rfl (Nat.le_of_ble_eq_true rfl) dX7_letter_2 (fun v S1 H locs hw hP hz hS => ?_)
  obtain ⟨rfl, hS1, hz2⟩ := hw
  replace hS1 := hS1.symm
  subst hS1
  replace hsz := hz2.trans hsz
  refine lv_if_ne (tgt := 10) hx hb dX7_letter_5 (by decide) (fun c_5 => ?_) (fun c_5 => ?_)
  · have c_6 := th1 c_5
    rw [if_pos c_6] at hP
    rw [hL] at c_6
    obtain ⟨k, hk, rfl⟩ := isL_nat c_6 hL2
    refine lv_aload_n hx hb dX7_letter_10 rfl (lv_at hl 0 rfl) ?_
    refine lv_iload_n hx hb dX7_letter_11 rfl (lv_at hl 2 rfl) ?_
    refine lv_if_lt (tgt := 20) hx hb dX7_letter_12 (by decide) (fun c_12 => ?_) (fun c_12 => ?_)
    · refine lv_iconst (v := 1) hx hb dX7_letter_20 (by decide) ?_
      refine lv_goto (tgt := 25) hx hb dX7_letter_21 (by decide) ?_
      refine pt_X7_114 hC hP hS (mK (mI (hm))) dX7_letter_25 (fun H locs hP hz hS => ?_)
      replace hsz := hz.trans hsz
      refine lv_aload_n hx hb dX7_letter_28 rfl (lv_at hl 0 rfl) ?_
      refine gv_X7_114 hC hP (mK (mI (mI (hm)))) gI_s dX7_letter_29 ?_
      refine lv_if_eq (tgt := 37) hx hb dX7_letter_32 (by decide) (fun c_32 => ?_) (fun c_32 => ?_)
      · exact absurd c_32 (by decide)
      · refine lv_iconst (v := 0) hx hb dX7_letter_35 (by decide) ?_
        exact g_iret hC hP hS hr hlk (by decide) (by decide) (⟨hsz, Or.inr (Or.inl ⟨k, hk, rfl, by first | exact Or.inl c_12 | exact Or.inr (Int32.not_le.mp c_17), rfl, rfl⟩)⟩) dX7_letter_36
    · refine lv_iload_n hx hb dX7_letter_15 rfl (lv_at hl 2 rfl) ?_
      refine lv_iconst (v := 5) hx hb dX7_letter_16 (by decide) ?_
      refine lv_icmp_le (tgt := 24) hx hb dX7_letter_17 (by decide) (fun c_17 => ?_) (fun c_17 => ?_)
      · refine lv_iconst (v := 0) hx hb dX7_letter_24 (by decide) ?_
        refine pt_X7_114 hC hP hS (mK (mI (hm))) dX7_letter_25 (fun H locs hP hz hS => ?_)
        replace hsz := hz.trans hsz
        refine lv_aload_n hx hb dX7_letter_28 rfl (lv_at hl 0 rfl) ?_
        refine gv_X7_114 hC hP (mK (mI (mI (hm)))) gI_s dX7_letter_29 ?_
        refine lv_if_eq (tgt := 37) hx hb dX7_letter_32 (by decide) (fun c_32 => ?_) (fun c_32 => ?_)
        · refine lv_iload_n hx hb dX7_letter_37 rfl (lv_at hl 2 rfl) ?_
          refine lv_if_ne (tgt := 48) hx hb dX7_letter_38 (by decide) (fun c_38 => ?_) (fun c_38 => ?_)
          · refine lv_iload_n hx hb dX7_letter_48 rfl (lv_at hl 2 rfl) ?_
            refine lv_iconst (v := 1) hx hb dX7_letter_49 (by decide) ?_
            refine lv_icmp_ne (tgt := 60) hx hb dX7_letter_50 (by decide) (fun c_50 => ?_) (fun c_50 => ?_)
            · refine lv_iload_n hx hb dX7_letter_60 rfl (lv_at hl 2 rfl) ?_
              refine lv_iconst (v := 2) hx hb dX7_letter_61 (by decide) ?_
              refine lv_icmp_ne (tgt := 72) hx hb dX7_letter_62 (by decide) (fun c_62 => ?_) (fun c_62 => ?_)
              · refine lv_iload_n hx hb dX7_letter_72 rfl (lv_at hl 2 rfl) ?_
                refine lv_iconst (v := 3) hx hb dX7_letter_73 (by decide) ?_
                refine lv_icmp_ne (tgt := 84) hx hb dX7_letter_74 (by decide) (fun c_74 => ?_) (fun c_74 => ?_)
                · refine lv_iload_n hx hb dX7_letter_84 rfl (lv_at hl 2 rfl) ?_
                  refine lv_iconst (v := 4) hx hb dX7_letter_85 (by decide) ?_
                  refine lv_icmp_ne (tgt := 110) hx hb dX7_letter_86 (by decide) (fun c_86 => ?_) (fun c_86 => ?_)
                  · refine lv_aload_n hx hb dX7_letter_110 rfl (lv_at hl 0 rfl) ?_
                    refine gt_X7_7 hC hP (mK (mI (mI (hm)))) (mR_2 (mI (mI (hm)))) dX7_letter_111 ?_
                    refine lv_iload_n hx hb dX7_letter_114 rfl (lv_at hl 1 rfl) ?_
                    refine g_iald hC hP (mA_2 (mI (mI (hm)))) (by rw [mN_2 (mI (mI (hm)))]; exact vp_in_nI (by omega) (by decide)) dX7_letter_115 ?_
                    rw [nI_clamp (by omega), gI_a (by omega), gI_a (by omega)]
                    refine lv_iconst (v := 4) hx hb dX7_letter_116 (by decide) ?_
                    refine lv_icmp_ne (tgt := 129) hx hb dX7_letter_117 (by decide) (fun c_117 => ?_) (fun c_117 => ?_)
                    · refine lv_iconst (v := (-1)) hx hb dX7_letter_129 (by decide) ?_
                      exact g_iret hC hP hS hr hlk (by decide) (by decide) (⟨hsz, Or.inr (Or.inr ⟨k, hk, rfl, fun h => by rcases h with h | h; exact c_12 h; exact absurd c_17 (Int32.not_le.mpr h), by unfold ltV; rw [if_neg c_38, if_neg c_50, if_neg c_62, if_neg c_74, if_neg c_86]; first | rw [if_pos c_117] | rw [if_neg c_117], rfl⟩)⟩) dX7_letter_130
                    · refine lv_aload_n hx hb dX7_letter_120 rfl (lv_at hl 0 rfl) ?_
                      refine gt_X7_32 hC hP (mK (mI (mI (hm)))) (mR_9 (mI (mI (hm)))) dX7_letter_121 ?_
                      refine lv_iload_n hx hb dX7_letter_124 rfl (lv_at hl 1 rfl) ?_
                      refine g_iald hC hP (mA_9 (mI (mI (hm)))) (by rw [mN_9 (mI (mI (hm)))]; exact vp_in_nI (by omega) (by decide)) dX7_letter_125 ?_
                      rw [nI_clamp (by omega), gI_a (by omega), gI_a (by omega)]
                      refine lv_goto (tgt := 130) hx hb dX7_letter_126 (by decide) ?_
                      exact g_iret hC hP hS hr hlk (by decide) (by decide) (⟨hsz, Or.inr (Or.inr ⟨k, hk, rfl, fun h => by rcases h with h | h; exact c_12 h; exact absurd c_17 (Int32.not_le.mpr h), by unfold ltV; rw [if_neg c_38, if_neg c_50, if_neg c_62, if_neg c_74, if_neg c_86]; first | rw [if_pos c_117] | rw [if_neg c_117], rfl⟩)⟩) dX7_letter_130
                  · refine lv_aload_n hx hb dX7_letter_89 rfl (lv_at hl 0 rfl) ?_
                    refine gt_X7_7 hC hP (mK (mI (mI (hm)))) (mR_2 (mI (mI (hm)))) dX7_letter_90 ?_
                    refine lv_iload_n hx hb dX7_letter_93 rfl (lv_at hl 1 rfl) ?_
                    refine g_iald hC hP (mA_2 (mI (mI (hm)))) (by rw [mN_2 (mI (mI (hm)))]; exact vp_in_nI (by omega) (by decide)) dX7_letter_94 ?_
                    rw [nI_clamp (by omega), gI_a (by omega), gI_a (by omega)]
                    refine lv_iconst (v := 2) hx hb dX7_letter_95 (by decide) ?_
                    refine lv_icmp_ne (tgt := 108) hx hb dX7_letter_96 (by decide) (fun c_96 => ?_) (fun c_96 => ?_)
                    · refine lv_iconst (v := (-1)) hx hb dX7_letter_108 (by decide) ?_
                      exact g_iret hC hP hS hr hlk (by decide) (by decide) (⟨hsz, Or.inr (Or.inr ⟨k, hk, rfl, fun h => by rcases h with h | h; exact c_12 h; exact absurd c_17 (Int32.not_le.mpr h), by unfold ltV; rw [if_neg c_38, if_neg c_50, if_neg c_62, if_neg c_74, if_pos c_86]; first | rw [if_pos c_96] | rw [if_neg c_96], rfl⟩)⟩) dX7_letter_109
                    · refine lv_aload_n hx hb dX7_letter_99 rfl (lv_at hl 0 rfl) ?_
                      refine gt_X7_22 hC hP (mK (mI (mI (hm)))) (mR_6 (mI (mI (hm)))) dX7_letter_100 ?_
                      refine lv_iload_n hx hb dX7_letter_103 rfl (lv_at hl 1 rfl) ?_
                      refine g_iald hC hP (mA_6 (mI (mI (hm)))) (by rw [mN_6 (mI (mI (hm)))]; exact vp_in_nI (by omega) (by decide)) dX7_letter_104 ?_
                      rw [nI_clamp (by omega), gI_a (by omega), gI_a (by omega)]
                      refine lv_goto (tgt := 109) hx hb dX7_letter_105 (by decide) ?_
                      exact g_iret hC hP hS hr hlk (by decide) (by decide) (⟨hsz, Or.inr (Or.inr ⟨k, hk, rfl, fun h => by rcases h with h | h; exact c_12 h; exact absurd c_17 (Int32.not_le.mpr h), by unfold ltV; rw [if_neg c_38, if_neg c_50, if_neg c_62, if_neg c_74, if_pos c_86]; first | rw [if_pos c_96] | rw [if_neg c_96], rfl⟩)⟩) dX7_letter_109
                · refine lv_aload_n hx hb dX7_letter_77 rfl (lv_at hl 0 rfl) ?_
                  refine gt_X7_19 hC hP (mK (mI (mI (hm)))) (mR_5 (mI (mI (hm)))) dX7_letter_78 ?_
                  refine lv_iload_n hx hb dX7_letter_81 rfl (lv_at hl 1 rfl) ?_
                  refine g_iald hC hP (mA_5 (mI (mI (hm)))) (by rw [mN_5 (mI (mI (hm)))]; exact vp_in_nI (by omega) (by decide)) dX7_letter_82 ?_
                  rw [nI_clamp (by omega), gI_a (by omega), gI_a (by omega)]
                  exact g_iret hC hP hS hr hlk (by decide) (by decide) (⟨hsz, Or.inr (Or.inr ⟨k, hk, rfl, fun h => by rcases h with h | h; exact c_12 h; exact absurd c_17 (Int32.not_le.mpr h), by unfold ltV; rw [if_neg c_38, if_neg c_50, if_neg c_62, if_pos c_74], rfl⟩)⟩) dX7_letter_83
              · refine lv_aload_n hx hb dX7_letter_65 rfl (lv_at hl 0 rfl) ?_
                refine gt_X7_16 hC hP (mK (mI (mI (hm)))) (mR_4 (mI (mI (hm)))) dX7_letter_66 ?_
                refine lv_iload_n hx hb dX7_letter_69 rfl (lv_at hl 1 rfl) ?_
                refine g_iald hC hP (mA_4 (mI (mI (hm)))) (by rw [mN_4 (mI (mI (hm)))]; exact vp_in_nI (by omega) (by decide)) dX7_letter_70 ?_
                rw [nI_clamp (by omega), gI_a (by omega), gI_a (by omega)]
                exact g_iret hC hP hS hr hlk (by decide) (by decide) (⟨hsz, Or.inr (Or.inr ⟨k, hk, rfl, fun h => by rcases h with h | h; exact c_12 h; exact absurd c_17 (Int32.not_le.mpr h), by unfold ltV; rw [if_neg c_38, if_neg c_50, if_pos c_62], rfl⟩)⟩) dX7_letter_71
            · refine lv_aload_n hx hb dX7_letter_53 rfl (lv_at hl 0 rfl) ?_
              refine gt_X7_13 hC hP (mK (mI (mI (hm)))) (mR_3 (mI (mI (hm)))) dX7_letter_54 ?_
              refine lv_iload_n hx hb dX7_letter_57 rfl (lv_at hl 1 rfl) ?_
              refine g_iald hC hP (mA_3 (mI (mI (hm)))) (by rw [mN_3 (mI (mI (hm)))]; exact vp_in_nI (by omega) (by decide)) dX7_letter_58 ?_
              rw [nI_clamp (by omega), gI_a (by omega), gI_a (by omega)]
              exact g_iret hC hP hS hr hlk (by decide) (by decide) (⟨hsz, Or.inr (Or.inr ⟨k, hk, rfl, fun h => by rcases h with h | h; exact c_12 h; exact absurd c_17 (Int32.not_le.mpr h), by unfold ltV; rw [if_neg c_38, if_pos c_50], rfl⟩)⟩) dX7_letter_59
          · refine lv_aload_n hx hb dX7_letter_41 rfl (lv_at hl 0 rfl) ?_
            refine gt_X7_7 hC hP (mK (mI (mI (hm)))) (mR_2 (mI (mI (hm)))) dX7_letter_42 ?_
            refine lv_iload_n hx hb dX7_letter_45 rfl (lv_at hl 1 rfl) ?_
            refine g_iald hC hP (mA_2 (mI (mI (hm)))) (by rw [mN_2 (mI (mI (hm)))]; exact vp_in_nI (by omega) (by decide)) dX7_letter_46 ?_
            rw [nI_clamp (by omega), gI_a (by omega), gI_a (by omega)]
            exact g_iret hC hP hS hr hlk (by decide) (by decide) (⟨hsz, Or.inr (Or.inr ⟨k, hk, rfl, fun h => by rcases h with h | h; exact c_12 h; exact absurd c_17 (Int32.not_le.mpr h), by unfold ltV; rw [if_pos c_38], rfl⟩)⟩) dX7_letter_47
        · exact absurd (by decide) c_32
      · refine lv_iconst (v := 1) hx hb dX7_letter_20 (by decide) ?_
        refine lv_goto (tgt := 25) hx hb dX7_letter_21 (by decide) ?_
        refine pt_X7_114 hC hP hS (mK (mI (hm))) dX7_letter_25 (fun H locs hP hz hS => ?_)
        replace hsz := hz.trans hsz
        refine lv_aload_n hx hb dX7_letter_28 rfl (lv_at hl 0 rfl) ?_
        refine gv_X7_114 hC hP (mK (mI (mI (hm)))) gI_s dX7_letter_29 ?_
        refine lv_if_eq (tgt := 37) hx hb dX7_letter_32 (by decide) (fun c_32 => ?_) (fun c_32 => ?_)
        · exact absurd c_32 (by decide)
        · refine lv_iconst (v := 0) hx hb dX7_letter_35 (by decide) ?_
          exact g_iret hC hP hS hr hlk (by decide) (by decide) (⟨hsz, Or.inr (Or.inl ⟨k, hk, rfl, by first | exact Or.inl c_12 | exact Or.inr (Int32.not_le.mp c_17), rfl, rfl⟩)⟩) dX7_letter_36
  · refine lv_iconst (v := 0) hx hb dX7_letter_8 (by decide) ?_
    exact g_iret hC hP hS hr hlk (by decide) (by decide) (⟨hsz, Or.inl ⟨cnt0 c_5, rfl, by rw [if_neg (cnt0 c_5)]⟩⟩) dX7_letter_9

def isV (S : gS) (o k : Nat) (w : Int32) : Int64 := if w = 0 then (if gI S (o + 27) k = 0 then 0 else 1) else if w = 1 then (gI S (o + 18) k).toInt64 else if w = 6 then (gI S (o + 33) k).toInt64 else if w = 7 then gJ S (o + 34) k else if gI S (o + 27) k = 0 then -1 else if w = 2 then (gI S (o + 28) k).toInt64 else if w = 3 then (gI S (o + 29) k).toInt64 else if w = 4 then gJ S (o + 30) k + 59999 else gJ S (o + 31) k
set_option maxRecDepth 100000 in
set_option maxHeartbeats 4000000 in
theorem c_X7_issuer (l : Launch) (N0 : Nat) (D : va_G) (cy : Nat → ClassId) (S : gS) (sz : Nat) (o : Nat) (i w : Int32) (hm : mOK S o) : gM l yX7_issuer cX7_issuer 3 (some FieldType.long) { frames := 1, cells := 0, slots := 0, locals := 30 } N0 D cy [.ref o, .int i, .int w] S sz (fun v S1 z => z = sz ∧ ((¬ (0 ≤ i ∧ i < 8) ∧ v = some (.long 0) ∧ S1 = sI S o 0 1) ∨ (∃ k, k < 8 ∧ i = nI k ∧ (w < 0 ∨ 7 < w) ∧ v = some (.long 0) ∧ S1 = sI (sI S o 0 0) o 0 1) ∨ (∃ k, k < 8 ∧ i = nI k ∧ ¬ (w < 0 ∨ 7 < w) ∧ v = some (.long (isV S o k w)) ∧ S1 = sI (sI S o 0 0) o 0 0))) := by
  refine g_body (by decide) rfl (Nat.le_of_ble_eq_true rfl) ?_
  intro p e s m args below meth c ls hC hU hr hlk hnm hsz hP hS hl
  have hx := hC.1
  have hb := hC.2.1
  refine lv_aload_n hx hb dX7_issuer_0 rfl (lv_at hl 0 rfl) ?_
  refine lv_iload_n hx hb dX7_issuer_1 rfl (lv_at hl 1 rfl) ?_
  refine g_callV (As := [.int _]) (rest := []) hC hU hP hS hl.1 (c_X7_isIssuer l N0 D cy _ _ o _ hm) mL_X7_118 iM_X7_isIssuer sL_X7_isIssuer iN_X7 cD_X7_isIssuer ⟨by decide, by decide, rfl⟩ ⟨by decide, by decide⟩ ⟨by decide, by decide⟩ (ci := 7) rfl (by decide) (mK (hm)) rfl (Nat.le_of_ble_eq_true rfl) dX7_issuer_2 (fun v S1 H locs hw hP hz hS => ?_)
  obtain ⟨rfl, hS1, hz2⟩ := hw
  replace hS1 := hS1.symm
  subst hS1
  replace hsz := hz2.trans hsz
  refine lv_if_ne (tgt := 10) hx hb dX7_issuer_5 (by decide) (fun c_5 => ?_) (fun c_5 => ?_)
  · have c_6 := th1 c_5
    rw [if_pos c_6] at hP
    obtain ⟨k, hk, rfl⟩ := isI_nat c_6
    refine lv_aload_n hx hb dX7_issuer_10 rfl (lv_at hl 0 rfl) ?_
    refine lv_iload_n hx hb dX7_issuer_11 rfl (lv_at hl 2 rfl) ?_
    refine lv_if_lt (tgt := 21) hx hb dX7_issuer_12 (by decide) (fun c_12 => ?_) (fun c_12 => ?_)
    · refine lv_iconst (v := 1) hx hb dX7_issuer_21 (by decide) ?_
      refine lv_goto (tgt := 26) hx hb dX7_issuer_22 (by decide) ?_
      refine pt_X7_114 hC hP hS (mK (mI (hm))) dX7_issuer_26 (fun H locs hP hz hS => ?_)
      replace hsz := hz.trans hsz
      refine lv_aload_n hx hb dX7_issuer_29 rfl (lv_at hl 0 rfl) ?_
      refine gv_X7_114 hC hP (mK (mI (mI (hm)))) gI_s dX7_issuer_30 ?_
      refine lv_if_eq (tgt := 38) hx hb dX7_issuer_33 (by decide) (fun c_33 => ?_) (fun c_33 => ?_)
      · exact absurd c_33 (by decide)
      · refine lv_lconst (v := 0) hx hb dX7_issuer_36 rfl ?_
        exact g_lret hC hP hS hr hlk (by decide) (by decide) (⟨hsz, Or.inr (Or.inl ⟨k, hk, rfl, by first | exact Or.inl c_12 | exact Or.inr (Int32.not_le.mp c_18), rfl, rfl⟩)⟩) dX7_issuer_37
    · refine lv_iload_n hx hb dX7_issuer_15 rfl (lv_at hl 2 rfl) ?_
      refine lv_bipush (v := 7) hx hb dX7_issuer_16 (by decide) ?_
      refine lv_icmp_le (tgt := 25) hx hb dX7_issuer_18 (by decide) (fun c_18 => ?_) (fun c_18 => ?_)
      · refine lv_iconst (v := 0) hx hb dX7_issuer_25 (by decide) ?_
        refine pt_X7_114 hC hP hS (mK (mI (hm))) dX7_issuer_26 (fun H locs hP hz hS => ?_)
        replace hsz := hz.trans hsz
        refine lv_aload_n hx hb dX7_issuer_29 rfl (lv_at hl 0 rfl) ?_
        refine gv_X7_114 hC hP (mK (mI (mI (hm)))) gI_s dX7_issuer_30 ?_
        refine lv_if_eq (tgt := 38) hx hb dX7_issuer_33 (by decide) (fun c_33 => ?_) (fun c_33 => ?_)
        · refine lv_iload_n hx hb dX7_issuer_38 rfl (lv_at hl 2 rfl) ?_
          refine lv_if_ne (tgt := 57) hx hb dX7_issuer_39 (by decide) (fun c_39 => ?_) (fun c_39 => ?_)
          · refine lv_iload_n hx hb dX7_issuer_57 rfl (lv_at hl 2 rfl) ?_
            refine lv_iconst (v := 1) hx hb dX7_issuer_58 (by decide) ?_
            refine lv_icmp_ne (tgt := 70) hx hb dX7_issuer_59 (by decide) (fun c_59 => ?_) (fun c_59 => ?_)
            · refine lv_iload_n hx hb dX7_issuer_70 rfl (lv_at hl 2 rfl) ?_
              refine lv_bipush (v := 6) hx hb dX7_issuer_71 (by decide) ?_
              refine lv_icmp_ne (tgt := 84) hx hb dX7_issuer_73 (by decide) (fun c_73 => ?_) (fun c_73 => ?_)
              · refine lv_iload_n hx hb dX7_issuer_84 rfl (lv_at hl 2 rfl) ?_
                refine lv_bipush (v := 7) hx hb dX7_issuer_85 (by decide) ?_
                refine lv_icmp_ne (tgt := 97) hx hb dX7_issuer_87 (by decide) (fun c_87 => ?_) (fun c_87 => ?_)
                · refine lv_aload_n hx hb dX7_issuer_97 rfl (lv_at hl 0 rfl) ?_
                  refine gt_X7_90 hC hP (mK (mI (mI (hm)))) (mR_29 (mI (mI (hm)))) dX7_issuer_98 ?_
                  refine lv_iload_n hx hb dX7_issuer_101 rfl (lv_at hl 1 rfl) ?_
                  refine g_zald hC hP (mA_29 (mI (mI (hm)))) (by rw [mN_29 (mI (mI (hm)))]; exact vp_in_nI (by omega) (by decide)) dX7_issuer_102 ?_
                  rw [nI_clamp (by omega), gI_a (by omega), gI_a (by omega)]
                  refine lv_if_ne (tgt := 110) hx hb dX7_issuer_103 (by decide) (fun c_103 => ?_) (fun c_103 => ?_)
                  · refine lv_iload_n hx hb dX7_issuer_110 rfl (lv_at hl 2 rfl) ?_
                    refine lv_iconst (v := 2) hx hb dX7_issuer_111 (by decide) ?_
                    refine lv_icmp_ne (tgt := 125) hx hb dX7_issuer_112 (by decide) (fun c_112 => ?_) (fun c_112 => ?_)
                    · refine lv_iload_n hx hb dX7_issuer_125 rfl (lv_at hl 2 rfl) ?_
                      refine lv_iconst (v := 3) hx hb dX7_issuer_126 (by decide) ?_
                      refine lv_icmp_ne (tgt := 140) hx hb dX7_issuer_127 (by decide) (fun c_127 => ?_) (fun c_127 => ?_)
                      · refine lv_iload_n hx hb dX7_issuer_140 rfl (lv_at hl 2 rfl) ?_
                        refine lv_iconst (v := 4) hx hb dX7_issuer_141 (by decide) ?_
                        refine lv_icmp_ne (tgt := 158) hx hb dX7_issuer_142 (by decide) (fun c_142 => ?_) (fun c_142 => ?_)
                        · refine lv_aload_n hx hb dX7_issuer_158 rfl (lv_at hl 0 rfl) ?_
                          refine gt_X7_102 hC hP (mK (mI (mI (hm)))) (mR_33 (mI (mI (hm)))) dX7_issuer_159 ?_
                          refine lv_iload_n hx hb dX7_issuer_162 rfl (lv_at hl 1 rfl) ?_
                          refine g_lald hC hP (mA_33 (mI (mI (hm)))) (by rw [mN_33 (mI (mI (hm)))]; exact vp_in_nI (by omega) (by decide)) dX7_issuer_163 ?_
                          exact g_lret hC hP hS hr hlk (by decide) (by decide) (⟨hsz, Or.inr (Or.inr ⟨k, hk, rfl, fun h => by rcases h with h | h; exact c_12 h; exact absurd c_18 (Int32.not_le.mpr h), by unfold isV; rw [if_neg c_39, if_neg c_59, if_neg c_73, if_neg c_87, if_neg c_103]; first | rw [if_pos c_112] | (rw [if_neg c_112, if_pos c_127]; done) | (rw [if_neg c_112, if_neg c_127, if_pos c_142]; done) | (rw [if_neg c_112, if_neg c_127, if_neg c_142, nI_clamp (by omega), gJ_sI, gJ_sI]; done), rfl⟩)⟩) dX7_issuer_164
                        · refine lv_aload_n hx hb dX7_issuer_145 rfl (lv_at hl 0 rfl) ?_
                          refine gt_X7_99 hC hP (mK (mI (mI (hm)))) (mR_32 (mI (mI (hm)))) dX7_issuer_146 ?_
                          refine lv_iload_n hx hb dX7_issuer_149 rfl (lv_at hl 1 rfl) ?_
                          refine g_lald hC hP (mA_32 (mI (mI (hm)))) (by rw [mN_32 (mI (mI (hm)))]; exact vp_in_nI (by omega) (by decide)) dX7_issuer_150 ?_
                          rw [nI_clamp (by omega), gJ_sI, gJ_sI]
                          refine lv_ldc2 hx hb hC.2.2.2.1 (hC.2.2.2.2.1 _ kJ_X7_184) dX7_issuer_151 ?_
                          refine lv_ladd hx hb dX7_issuer_154 ?_
                          refine lv_goto (tgt := 164) hx hb dX7_issuer_155 (by decide) ?_
                          exact g_lret hC hP hS hr hlk (by decide) (by decide) (⟨hsz, Or.inr (Or.inr ⟨k, hk, rfl, fun h => by rcases h with h | h; exact c_12 h; exact absurd c_18 (Int32.not_le.mpr h), by unfold isV; rw [if_neg c_39, if_neg c_59, if_neg c_73, if_neg c_87, if_neg c_103]; first | rw [if_pos c_112] | (rw [if_neg c_112, if_pos c_127]; done) | (rw [if_neg c_112, if_neg c_127, if_pos c_142]; done) | (rw [if_neg c_112, if_neg c_127, if_neg c_142, nI_clamp (by omega), gJ_sI, gJ_sI]; done), rfl⟩)⟩) dX7_issuer_164
                      · refine lv_aload_n hx hb dX7_issuer_130 rfl (lv_at hl 0 rfl) ?_
                        refine gt_X7_96 hC hP (mK (mI (mI (hm)))) (mR_31 (mI (mI (hm)))) dX7_issuer_131 ?_
                        refine lv_iload_n hx hb dX7_issuer_134 rfl (lv_at hl 1 rfl) ?_
                        refine g_iald hC hP (mA_31 (mI (mI (hm)))) (by rw [mN_31 (mI (mI (hm)))]; exact vp_in_nI (by omega) (by decide)) dX7_issuer_135 ?_
                        rw [nI_clamp (by omega), gI_a (by omega), gI_a (by omega)]
                        refine lv_i2l hx hb dX7_issuer_136 rfl ?_
                        refine lv_goto (tgt := 164) hx hb dX7_issuer_137 (by decide) ?_
                        exact g_lret hC hP hS hr hlk (by decide) (by decide) (⟨hsz, Or.inr (Or.inr ⟨k, hk, rfl, fun h => by rcases h with h | h; exact c_12 h; exact absurd c_18 (Int32.not_le.mpr h), by unfold isV; rw [if_neg c_39, if_neg c_59, if_neg c_73, if_neg c_87, if_neg c_103]; first | rw [if_pos c_112] | (rw [if_neg c_112, if_pos c_127]; done) | (rw [if_neg c_112, if_neg c_127, if_pos c_142]; done) | (rw [if_neg c_112, if_neg c_127, if_neg c_142, nI_clamp (by omega), gJ_sI, gJ_sI]; done), rfl⟩)⟩) dX7_issuer_164
                    · refine lv_aload_n hx hb dX7_issuer_115 rfl (lv_at hl 0 rfl) ?_
                      refine gt_X7_93 hC hP (mK (mI (mI (hm)))) (mR_30 (mI (mI (hm)))) dX7_issuer_116 ?_
                      refine lv_iload_n hx hb dX7_issuer_119 rfl (lv_at hl 1 rfl) ?_
                      refine g_iald hC hP (mA_30 (mI (mI (hm)))) (by rw [mN_30 (mI (mI (hm)))]; exact vp_in_nI (by omega) (by decide)) dX7_issuer_120 ?_
                      rw [nI_clamp (by omega), gI_a (by omega), gI_a (by omega)]
                      refine lv_i2l hx hb dX7_issuer_121 rfl ?_
                      refine lv_goto (tgt := 164) hx hb dX7_issuer_122 (by decide) ?_
                      exact g_lret hC hP hS hr hlk (by decide) (by decide) (⟨hsz, Or.inr (Or.inr ⟨k, hk, rfl, fun h => by rcases h with h | h; exact c_12 h; exact absurd c_18 (Int32.not_le.mpr h), by unfold isV; rw [if_neg c_39, if_neg c_59, if_neg c_73, if_neg c_87, if_neg c_103]; first | rw [if_pos c_112] | (rw [if_neg c_112, if_pos c_127]; done) | (rw [if_neg c_112, if_neg c_127, if_pos c_142]; done) | (rw [if_neg c_112, if_neg c_127, if_neg c_142, nI_clamp (by omega), gJ_sI, gJ_sI]; done), rfl⟩)⟩) dX7_issuer_164
                  · refine lv_ldc2 hx hb hC.2.2.2.1 (hC.2.2.2.2.1 _ kJ_X7_192) dX7_issuer_106 ?_
                    exact g_lret hC hP hS hr hlk (by decide) (by decide) (⟨hsz, Or.inr (Or.inr ⟨k, hk, rfl, fun h => by rcases h with h | h; exact c_12 h; exact absurd c_18 (Int32.not_le.mpr h), by unfold isV; rw [if_neg c_39, if_neg c_59, if_neg c_73, if_neg c_87, if_pos c_103], rfl⟩)⟩) dX7_issuer_109
                · refine lv_aload_n hx hb dX7_issuer_90 rfl (lv_at hl 0 rfl) ?_
                  refine gt_X7_111 hC hP (mK (mI (mI (hm)))) (mR_36 (mI (mI (hm)))) dX7_issuer_91 ?_
                  refine lv_iload_n hx hb dX7_issuer_94 rfl (lv_at hl 1 rfl) ?_
                  refine g_lald hC hP (mA_36 (mI (mI (hm)))) (by rw [mN_36 (mI (mI (hm)))]; exact vp_in_nI (by omega) (by decide)) dX7_issuer_95 ?_
                  rw [nI_clamp (by omega), gJ_sI, gJ_sI]
                  exact g_lret hC hP hS hr hlk (by decide) (by decide) (⟨hsz, Or.inr (Or.inr ⟨k, hk, rfl, fun h => by rcases h with h | h; exact c_12 h; exact absurd c_18 (Int32.not_le.mpr h), by unfold isV; rw [if_neg c_39, if_neg c_59, if_neg c_73, if_pos c_87], rfl⟩)⟩) dX7_issuer_96
              · refine lv_aload_n hx hb dX7_issuer_76 rfl (lv_at hl 0 rfl) ?_
                refine gt_X7_108 hC hP (mK (mI (mI (hm)))) (mR_35 (mI (mI (hm)))) dX7_issuer_77 ?_
                refine lv_iload_n hx hb dX7_issuer_80 rfl (lv_at hl 1 rfl) ?_
                refine g_iald hC hP (mA_35 (mI (mI (hm)))) (by rw [mN_35 (mI (mI (hm)))]; exact vp_in_nI (by omega) (by decide)) dX7_issuer_81 ?_
                rw [nI_clamp (by omega), gI_a (by omega), gI_a (by omega)]
                refine lv_i2l hx hb dX7_issuer_82 rfl ?_
                exact g_lret hC hP hS hr hlk (by decide) (by decide) (⟨hsz, Or.inr (Or.inr ⟨k, hk, rfl, fun h => by rcases h with h | h; exact c_12 h; exact absurd c_18 (Int32.not_le.mpr h), by unfold isV; rw [if_neg c_39, if_neg c_59, if_pos c_73], rfl⟩)⟩) dX7_issuer_83
            · refine lv_aload_n hx hb dX7_issuer_62 rfl (lv_at hl 0 rfl) ?_
              refine gt_X7_63 hC hP (mK (mI (mI (hm)))) (mR_20 (mI (mI (hm)))) dX7_issuer_63 ?_
              refine lv_iload_n hx hb dX7_issuer_66 rfl (lv_at hl 1 rfl) ?_
              refine g_iald hC hP (mA_20 (mI (mI (hm)))) (by rw [mN_20 (mI (mI (hm)))]; exact vp_in_nI (by omega) (by decide)) dX7_issuer_67 ?_
              rw [nI_clamp (by omega), gI_a (by omega), gI_a (by omega)]
              refine lv_i2l hx hb dX7_issuer_68 rfl ?_
              exact g_lret hC hP hS hr hlk (by decide) (by decide) (⟨hsz, Or.inr (Or.inr ⟨k, hk, rfl, fun h => by rcases h with h | h; exact c_12 h; exact absurd c_18 (Int32.not_le.mpr h), by unfold isV; rw [if_neg c_39, if_pos c_59], rfl⟩)⟩) dX7_issuer_69
          · refine lv_aload_n hx hb dX7_issuer_42 rfl (lv_at hl 0 rfl) ?_
            refine gt_X7_90 hC hP (mK (mI (mI (hm)))) (mR_29 (mI (mI (hm)))) dX7_issuer_43 ?_
            refine lv_iload_n hx hb dX7_issuer_46 rfl (lv_at hl 1 rfl) ?_
            refine g_zald hC hP (mA_29 (mI (mI (hm)))) (by rw [mN_29 (mI (mI (hm)))]; exact vp_in_nI (by omega) (by decide)) dX7_issuer_47 ?_
            rw [nI_clamp (by omega), gI_a (by omega), gI_a (by omega)]
            refine lv_if_eq (tgt := 55) hx hb dX7_issuer_48 (by decide) (fun c_48 => ?_) (fun c_48 => ?_)
            · refine lv_lconst (v := 0) hx hb dX7_issuer_55 rfl ?_
              exact g_lret hC hP hS hr hlk (by decide) (by decide) (⟨hsz, Or.inr (Or.inr ⟨k, hk, rfl, fun h => by rcases h with h | h; exact c_12 h; exact absurd c_18 (Int32.not_le.mpr h), by unfold isV; rw [if_pos c_39]; first | rw [if_pos c_48] | rw [if_neg c_48], rfl⟩)⟩) dX7_issuer_56
            · refine lv_lconst (v := 1) hx hb dX7_issuer_51 rfl ?_
              refine lv_goto (tgt := 56) hx hb dX7_issuer_52 (by decide) ?_
              exact g_lret hC hP hS hr hlk (by decide) (by decide) (⟨hsz, Or.inr (Or.inr ⟨k, hk, rfl, fun h => by rcases h with h | h; exact c_12 h; exact absurd c_18 (Int32.not_le.mpr h), by unfold isV; rw [if_pos c_39]; first | rw [if_pos c_48] | rw [if_neg c_48], rfl⟩)⟩) dX7_issuer_56
        · exact absurd (by decide) c_33
      · refine lv_iconst (v := 1) hx hb dX7_issuer_21 (by decide) ?_
        refine lv_goto (tgt := 26) hx hb dX7_issuer_22 (by decide) ?_
        refine pt_X7_114 hC hP hS (mK (mI (hm))) dX7_issuer_26 (fun H locs hP hz hS => ?_)
        replace hsz := hz.trans hsz
        refine lv_aload_n hx hb dX7_issuer_29 rfl (lv_at hl 0 rfl) ?_
        refine gv_X7_114 hC hP (mK (mI (mI (hm)))) gI_s dX7_issuer_30 ?_
        refine lv_if_eq (tgt := 38) hx hb dX7_issuer_33 (by decide) (fun c_33 => ?_) (fun c_33 => ?_)
        · exact absurd c_33 (by decide)
        · refine lv_lconst (v := 0) hx hb dX7_issuer_36 rfl ?_
          exact g_lret hC hP hS hr hlk (by decide) (by decide) (⟨hsz, Or.inr (Or.inl ⟨k, hk, rfl, by first | exact Or.inl c_12 | exact Or.inr (Int32.not_le.mp c_18), rfl, rfl⟩)⟩) dX7_issuer_37
  · refine lv_lconst (v := 0) hx hb dX7_issuer_8 rfl ?_
    exact g_lret hC hP hS hr hlk (by decide) (by decide) (⟨hsz, Or.inl ⟨cnt0 c_5, rfl, by rw [if_neg (cnt0 c_5)]⟩⟩) dX7_issuer_9

