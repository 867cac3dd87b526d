def agOK (S : gS) (o i n : Nat) (b : Int32) : Prop := gI S (o + 18) i = 2 ∧ b = 8 * gI S (o + 20) i + nI i ∧ gI S (o + 22) (5 * i + n) = 0
def mRdy (S : gS) (o i n : Nat) : gS := sJ (sJ (sI (sI (sI (sI (sI S (o + 22) (5 * i + n) 1) (o + 18) i 0) (o + 27) i 1) (o + 28) i (gI S (o + 24) i)) (o + 29) i (gI S (o + 25) i)) (o + 30) i (gJ S (o + 26) i)) (o + 31) i (-1)
def mAgr (S : gS) (o i n : Nat) (b : Int32) (S1 : gS) : Prop := (¬ agOK S o i n b ∧ S1 = S) ∨ (agOK S o i n b ∧ cntF (sI S (o + 22) (5 * i + n) 1) o i 5 < 3 ∧ S1 = sI S (o + 22) (5 * i + n) 1) ∨ (agOK S o i n b ∧ ¬ cntF (sI S (o + 22) (5 * i + n) 1) o i 5 < 3 ∧ S1 = mRdy S o i n)
set_option maxRecDepth 100000 in
set_option maxHeartbeats 4000000 in
theorem c_X7_agrees (l : Launch) (N0 : Nat) (D : va_G) (cy : Nat → ClassId) (S : gS) (sz : Nat) (o i n : Nat) (b : Int32) (hm : mOK S o) (hi : i < 8) (hn : n < 5) : gM l yX7_agrees cX7_agrees 4 (some FieldType.int) { frames := 1, cells := 0, slots := 0, locals := 30 } N0 D cy [.ref o, .int (nI i), .int (nI n), .int b] S sz (fun v S1 z => v = some (.int 0) ∧ z = sz ∧ mAgr S o i n b S1) := by
  refine g_body (by decide) rfl (Nat.le_of_ble_eq_true rfl) ?_
  intro p e s m args below meth c ls hC hU hr hlk hnm hsz hP hS hl
  have hx := hC.1
  have hb := hC.2.1
  refine lv_aload_n hx hb dX7_agrees_0 rfl (lv_at hl 0 rfl) ?_
  refine gt_X7_63 hC hP (mK (hm)) (mR_20 (hm)) dX7_agrees_1 ?_
  refine lv_iload_n hx hb dX7_agrees_4 rfl (lv_at hl 1 rfl) ?_
  refine g_iald hC hP (mA_20 (hm)) (by rw [mN_20 (hm)]; exact vp_in_nI hi (by decide)) dX7_agrees_5 ?_
  rw [nI_clamp (by omega)]
  refine lv_iconst (v := 2) hx hb dX7_agrees_6 (by decide) ?_
  refine lv_icmp_ne (tgt := 32) hx hb dX7_agrees_7 (by decide) (fun c_7 => ?_) (fun c_7 => ?_)
  · refine lv_iconst (v := 0) hx hb dX7_agrees_32 (by decide) ?_
    exact g_iret hC hP hS hr hlk (by decide) (by decide) (⟨rfl, hsz, Or.inl ⟨fun h => by first | exact c_7 h.1 | exact c_16 h.2.1 | exact c_29 h.2.2, rfl⟩⟩) dX7_agrees_33
  · refine lv_iload_n hx hb dX7_agrees_10 rfl (lv_at hl 3 rfl) ?_
    refine lv_aload_n hx hb dX7_agrees_11 rfl (lv_at hl 0 rfl) ?_
    refine lv_iload_n hx hb dX7_agrees_12 rfl (lv_at hl 1 rfl) ?_
    refine g_callV (As := [.int _]) (rest := [.int _]) hC hU hP hS hl.1 (c_X7_ballotOf l N0 D cy _ _ o i hm hi) mL_X7_141 iM_X7_ballotOf sL_X7_ballotOf iN_X7 cD_X7_ballotOf ⟨by decide, by decide, rfl⟩ ⟨by decide, by decide⟩ ⟨by decide, by decide⟩ (ci := 7) rfl (by decide) (mK (hm)) rfl (Nat.le_of_ble_eq_true rfl) dX7_agrees_13 (fun v S1 H locs hw hP hz hS => ?_)
    obtain ⟨rfl, hS1, hz2⟩ := hw
    replace hS1 := hS1.symm
    subst hS1
    replace hsz := hz2.trans hsz
    refine lv_icmp_ne (tgt := 32) hx hb dX7_agrees_16 (by decide) (fun c_16 => ?_) (fun c_16 => ?_)
    · refine lv_iconst (v := 0) hx hb dX7_agrees_32 (by decide) ?_
      exact g_iret hC hP hS hr hlk (by decide) (by decide) (⟨rfl, hsz, Or.inl ⟨fun h => by first | exact c_7 h.1 | exact c_16 h.2.1 | exact c_29 h.2.2, rfl⟩⟩) dX7_agrees_33
    · refine lv_aload_n hx hb dX7_agrees_19 rfl (lv_at hl 0 rfl) ?_
      refine gt_X7_75 hC hP (mK (hm)) (mR_24 (hm)) dX7_agrees_20 ?_
      refine lv_iconst (v := 5) hx hb dX7_agrees_23 (by decide) ?_
      refine lv_iload_n hx hb dX7_agrees_24 rfl (lv_at hl 1 rfl) ?_
      refine lv_imul hx hb dX7_agrees_25 ?_
      refine lv_iload_n hx hb dX7_agrees_26 rfl (lv_at hl 2 rfl) ?_
      refine lv_iadd hx hb dX7_agrees_27 ?_
      rw [m5]
      refine g_zald hC hP (mA_24 (hm)) (by rw [mN_24 (hm)]; exact vp_in_nI (by omega) (by decide)) dX7_agrees_28 ?_
      rw [nI_clamp (by omega)]
      refine lv_if_eq (tgt := 34) hx hb dX7_agrees_29 (by decide) (fun c_29 => ?_) (fun c_29 => ?_)
      · refine lv_aload_n hx hb dX7_agrees_34 rfl (lv_at hl 0 rfl) ?_
        refine gt_X7_75 hC hP (mK (hm)) (mR_24 (hm)) dX7_agrees_35 ?_
        refine lv_iconst (v := 5) hx hb dX7_agrees_38 (by decide) ?_
        refine lv_iload_n hx hb dX7_agrees_39 rfl (lv_at hl 1 rfl) ?_
        refine lv_imul hx hb dX7_agrees_40 ?_
        refine lv_iload_n hx hb dX7_agrees_41 rfl (lv_at hl 2 rfl) ?_
        refine lv_iadd hx hb dX7_agrees_42 ?_
        rw [m5]
        refine lv_iconst (v := 1) hx hb dX7_agrees_43 (by decide) ?_
        refine g_zast hC hP hS (mA_24 (hm)) (by rw [mN_24 (hm)]; exact vp_in_nI (by omega) (by decide)) (nz01 (by decide)) dX7_agrees_44 (fun H locs hP hz hS => ?_)
        replace hsz := hz.trans hsz
        rw [nI_clamp (by omega)] at hP
        refine lv_aload_n hx hb dX7_agrees_45 rfl (lv_at hl 0 rfl) ?_
        refine lv_iload_n hx hb dX7_agrees_46 rfl (lv_at hl 1 rfl) ?_
        refine g_callV (As := [.int _]) (rest := []) hC hU hP hS hl.1 (c_X7_countOf l N0 D cy _ _ o i (mI hm) hi) mL_X7_174 iM_X7_countOf sL_X7_countOf iN_X7 cD_X7_countOf ⟨by decide, by decide, rfl⟩ ⟨by decide, by decide⟩ ⟨by decide, by decide⟩ (ci := 7) rfl (by decide) (mK (mI (hm))) rfl (Nat.le_of_ble_eq_true rfl) dX7_agrees_47 (fun v S1 H locs hw hP hz hS => ?_)
        obtain ⟨rfl, hS1, hz2⟩ := hw
        replace hS1 := hS1.symm
        subst hS1
        replace hsz := hz2.trans hsz
        refine lv_iconst (v := 3) hx hb dX7_agrees_50 (by decide) ?_
        refine lv_icmp_ge (tgt := 56) hx hb dX7_agrees_51 (by decide) (fun c_51 => ?_) (fun c_51 => ?_)
        · refine lv_aload_n hx hb dX7_agrees_56 rfl (lv_at hl 0 rfl) ?_
          refine gt_X7_63 hC hP (mK (mI (hm))) (mR_20 (mI (hm))) dX7_agrees_57 ?_
          refine lv_iload_n hx hb dX7_agrees_60 rfl (lv_at hl 1 rfl) ?_
          refine lv_iconst (v := 0) hx hb dX7_agrees_61 (by decide) ?_
          refine g_iast hC hP hS (mA_20 (mI (hm))) (by rw [mN_20 (mI (hm))]; exact vp_in_nI hi (by decide)) dX7_agrees_62 (fun H locs hP hz hS => ?_)
          replace hsz := hz.trans hsz
          rw [nI_clamp (by omega)] at hP
          refine lv_aload_n hx hb dX7_agrees_63 rfl (lv_at hl 0 rfl) ?_
          refine gt_X7_90 hC hP (mK (mI (mI (hm)))) (mR_29 (mI (mI (hm)))) dX7_agrees_64 ?_
          refine lv_iload_n hx hb dX7_agrees_67 rfl (lv_at hl 1 rfl) ?_
          refine lv_iconst (v := 1) hx hb dX7_agrees_68 (by decide) ?_
          refine g_zast hC hP hS (mA_29 (mI (mI (hm)))) (by rw [mN_29 (mI (mI (hm)))]; exact vp_in_nI hi (by decide)) (nz01 (by decide)) dX7_agrees_69 (fun H locs hP hz hS => ?_)
          replace hsz := hz.trans hsz
          rw [nI_clamp (by omega)] at hP
          refine lv_aload_n hx hb dX7_agrees_70 rfl (lv_at hl 0 rfl) ?_
          refine gt_X7_93 hC hP (mK (mI (mI (mI (hm))))) (mR_30 (mI (mI (mI (hm))))) dX7_agrees_71 ?_
          refine lv_iload_n hx hb dX7_agrees_74 rfl (lv_at hl 1 rfl) ?_
          refine lv_aload_n hx hb dX7_agrees_75 rfl (lv_at hl 0 rfl) ?_
          refine gt_X7_81 hC hP (mK (mI (mI (mI (hm))))) (mR_26 (mI (mI (mI (hm))))) dX7_agrees_76 ?_
          refine lv_iload_n hx hb dX7_agrees_79 rfl (lv_at hl 1 rfl) ?_
          refine g_iald hC hP (mA_26 (mI (mI (mI (hm))))) (by rw [mN_26 (mI (mI (mI (hm))))]; exact vp_in_nI hi (by decide)) dX7_agrees_80 ?_
          refine g_iast hC hP hS (mA_30 (mI (mI (mI (hm))))) (by rw [mN_30 (mI (mI (mI (hm))))]; exact vp_in_nI hi (by decide)) dX7_agrees_81 (fun H locs hP hz hS => ?_)
          replace hsz := hz.trans hsz
          rw [nI_clamp (by omega), gI_a (by omega), gI_a (by omega), gI_a (by omega)] at hP
          refine lv_aload_n hx hb dX7_agrees_82 rfl (lv_at hl 0 rfl) ?_
          refine gt_X7_96 hC hP (mK (mI (mI (mI (mI (hm)))))) (mR_31 (mI (mI (mI (mI (hm)))))) dX7_agrees_83 ?_
          refine lv_iload_n hx hb dX7_agrees_86 rfl (lv_at hl 1 rfl) ?_
          refine lv_aload_n hx hb dX7_agrees_87 rfl (lv_at hl 0 rfl) ?_
          refine gt_X7_84 hC hP (mK (mI (mI (mI (mI (hm)))))) (mR_27 (mI (mI (mI (mI (hm)))))) dX7_agrees_88 ?_
          refine lv_iload_n hx hb dX7_agrees_91 rfl (lv_at hl 1 rfl) ?_
          refine g_iald hC hP (mA_27 (mI (mI (mI (mI (hm)))))) (by rw [mN_27 (mI (mI (mI (mI (hm)))))]; exact vp_in_nI hi (by decide)) dX7_agrees_92 ?_
          refine g_iast hC hP hS (mA_31 (mI (mI (mI (mI (hm)))))) (by rw [mN_31 (mI (mI (mI (mI (hm)))))]; exact vp_in_nI hi (by decide)) dX7_agrees_93 (fun H locs hP hz hS => ?_)
          replace hsz := hz.trans hsz
          rw [nI_clamp (by omega), gI_a (by omega), gI_a (by omega), gI_a (by omega), gI_a (by omega)] at hP
          refine lv_aload_n hx hb dX7_agrees_94 rfl (lv_at hl 0 rfl) ?_
          refine gt_X7_99 hC hP (mK (mI (mI (mI (mI (mI (hm))))))) (mR_32 (mI (mI (mI (mI (mI (hm))))))) dX7_agrees_95 ?_
          refine lv_iload_n hx hb dX7_agrees_98 rfl (lv_at hl 1 rfl) ?_
          refine lv_aload_n hx hb dX7_agrees_99 rfl (lv_at hl 0 rfl) ?_
          refine gt_X7_87 hC hP (mK (mI (mI (mI (mI (mI (hm))))))) (mR_28 (mI (mI (mI (mI (mI (hm))))))) dX7_agrees_100 ?_
          refine lv_iload_n hx hb dX7_agrees_103 rfl (lv_at hl 1 rfl) ?_
          refine g_lald hC hP (mA_28 (mI (mI (mI (mI (mI (hm))))))) (by rw [mN_28 (mI (mI (mI (mI (mI (hm))))))]; exact vp_in_nI hi (by decide)) dX7_agrees_104 ?_
          refine g_last hC hP hS (mA_32 (mI (mI (mI (mI (mI (hm))))))) (by rw [mN_32 (mI (mI (mI (mI (mI (hm))))))]; exact vp_in_nI hi (by decide)) dX7_agrees_105 (fun H locs hP hz hS => ?_)
          replace hsz := hz.trans hsz
          rw [nI_clamp (by omega), gJ_sI, gJ_sI, gJ_sI, gJ_sI, gJ_sI] at hP
          refine lv_aload_n hx hb dX7_agrees_106 rfl (lv_at hl 0 rfl) ?_
          refine gt_X7_102 hC hP (mK (mJ (mI (mI (mI (mI (mI (hm)))))))) (mR_33 (mJ (mI (mI (mI (mI (mI (hm)))))))) dX7_agrees_107 ?_
          refine lv_iload_n hx hb dX7_agrees_110 rfl (lv_at hl 1 rfl) ?_
          refine lv_ldc2 hx hb hC.2.2.2.1 (hC.2.2.2.2.1 _ kJ_X7_192) dX7_agrees_111 ?_
          refine g_last hC hP hS (mA_33 (mJ (mI (mI (mI (mI (mI (hm)))))))) (by rw [mN_33 (mJ (mI (mI (mI (mI (mI (hm)))))))]; exact vp_in_nI hi (by decide)) dX7_agrees_114 (fun H locs hP hz hS => ?_)
          replace hsz := hz.trans hsz
          rw [nI_clamp (by omega)] at hP
          refine lv_iconst (v := 0) hx hb dX7_agrees_115 (by decide) ?_
          exact g_iret hC hP hS hr hlk (by decide) (by decide) (⟨rfl, hsz, Or.inr (Or.inr ⟨⟨c_7, c_16, c_29⟩, Int32.not_lt.mpr c_51, rfl⟩)⟩) dX7_agrees_116
        · refine lv_iconst (v := 0) hx hb dX7_agrees_54 (by decide) ?_
          exact g_iret hC hP hS hr hlk (by decide) (by decide) (⟨rfl, hsz, Or.inr (Or.inl ⟨⟨c_7, c_16, c_29⟩, Int32.not_le.mp c_51, rfl⟩)⟩) dX7_agrees_55
      · refine lv_iconst (v := 0) hx hb dX7_agrees_32 (by decide) ?_
        exact g_iret hC hP hS hr hlk (by decide) (by decide) (⟨rfl, hsz, Or.inl ⟨fun h => by first | exact c_7 h.1 | exact c_16 h.2.1 | exact c_29 h.2.2, rfl⟩⟩) dX7_agrees_33

