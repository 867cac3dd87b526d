/-- what deliver does with letter k; S is the store with thrown = 0 -/
def mDel (S : gS) (o L k i n t : Nat) (rc : Nat → Nat) (v : Option Value) (S1 : gS) : Prop :=
  (gI S (o + 1) k = 1 ∧ ∃ far, gI S (o + 8) k = nI far ∧ far ≤ 600 ∧ mPro S o L k i n far (gI S (o + 4) k) rc v S1) ∨
  (gI S (o + 1) k = 2 ∧ gI S (o + 15) n = 0 ∧ v = some (.int 1) ∧ S1 = (if gI S (o + 4) k < gI S (o + 16) n then mSend (mRem S o k L) o (L - 1) 4 (nI i) (nI n) (gI S (o + 4) k) (gI S (o + 16) n) else mSend (mStory (sI (mRem S o k L) (o + 16) n (gI S (o + 4) k)) o t (nI n) (gI S (o + 5) k) (gI S (o + 4) k) (nI i) (gI S (o + 6) k) (gJ S (o + 7) k)) o (L - 1) 3 (nI i) (nI n) (gI S (o + 4) k) 0)) ∨
  ((gI S (o + 1) k = 0 ∨ gI S (o + 1) k = 2) ∧ gI S (o + 15) n ≠ 0 ∧ v = some (.int 0) ∧ S1 = mRem S o k L) ∨
  (gI S (o + 1) k = 0 ∧ gI S (o + 15) n = 0 ∧ v = some (.int 1) ∧ S1 = (if gI S (o + 16) n < gI S (o + 4) k then mSend (sI (mRem S o k L) (o + 16) n (gI S (o + 4) k)) o (L - 1) 1 (nI i) (nI n) (gI S (o + 4) k) (gI S o 10) else mSend (mRem S o k L) o (L - 1) 4 (nI i) (nI n) (gI S (o + 4) k) (gI S (o + 16) n))) ∨
  (gI S (o + 1) k = 3 ∧ v = some (.int 0) ∧ mAgr (mRem S o k L) o i n (gI S (o + 4) k) S1) ∨
  ((gI S (o + 1) k ≠ 0 ∧ gI S (o + 1) k ≠ 1 ∧ gI S (o + 1) k ≠ 2 ∧ gI S (o + 1) k ≠ 3) ∧ v = some (.int 0) ∧ (((gI S (o + 18) i = 0 ∨ gI S (o + 4) k ≠ 8 * gI S (o + 20) i + nI i) ∧ S1 = mRem S o k L) ∨ (¬ (gI S (o + 18) i = 0 ∨ gI S (o + 4) k ≠ 8 * gI S (o + 20) i + nI i) ∧ S1 = sI (mFail (mRem S o k L) o i) (o + 21) i (gI S (o + 8) k / 8))))
set_option maxRecDepth 100000 in
set_option maxHeartbeats 4000000 in
theorem c_X7_deliver (l : Launch) (N0 : Nat) (D : va_G) (cy : Nat → ClassId) (S : gS) (sz : Nat) (o L t : Nat) (iv : Int32) (rc : Nat → Nat → Nat) (hm : mOK S o) (hL : gI S o 1 = nI L) (hL2 : L ≤ 90) (ht : gI S o 10 = nI t) (ht2 : t < 600) (hlt : ∀ k, k < L → ∃ i0 n0, i0 < 8 ∧ n0 < 5 ∧ gI S (o + 2) k = nI i0 ∧ gI S (o + 3) k = nI n0 ∧ (gI S (o + 1) k = 1 → ∃ far, gI S (o + 8) k = nI far ∧ far ≤ 600)) (hrc : ∀ i n, i < 8 → n < 5 → gI S (o + 23) (5 * i + n) = nI (rc i n) ∧ rc i n ≤ 600) : gM l yX7_deliver cX7_deliver 8 (some FieldType.int) { frames := 4, cells := 0, slots := 0, locals := 160 } N0 D cy [.ref o, .int iv] S sz (fun v S1 z => z = sz ∧ ((¬ isL S o iv ∧ v = some (.int 0) ∧ S1 = sI S o 0 1) ∨ (∃ k i n, k < L ∧ i < 8 ∧ n < 5 ∧ iv = nI k ∧ gI (sI S o 0 0) (o + 2) k = nI i ∧ gI (sI S o 0 0) (o + 3) k = nI n ∧ mDel (sI S o 0 0) o L k i n t (rc i) v S1))) := by
  refine g_body (by decide) rfl (Nat.le_of_ble_eq_true rfl) ?_
  intro p e s m args below meth c ls hC hU hr hlk hnm hsz hP hS hl
  have hx := hC.1
  have hb := hC.2.1
  refine lv_aload_n hx hb dX7_deliver_0 rfl (lv_at hl 0 rfl) ?_
  refine lv_iload_n hx hb dX7_deliver_1 rfl (lv_at hl 1 rfl) ?_
  refine g_callV (As := [.int _]) (rest := []) hC hU hP hS hl.1 (c_X7_isLetter l N0 D cy _ _ o _ hm) mL_X7_131 iM_X7_isLetter sL_X7_isLetter iN_X7 cD_X7_isLetter ⟨by decide, by decide, rfl⟩ ⟨by decide, by decide⟩ ⟨by decide, by decide⟩ (ci := 7) rfl (by decide) (mK (hm)) rfl (Nat.le_of_ble_eq_true rfl) dX7_deliver_2 (fun v S1 H locs hw hP hz hS => ?_)
  obtain ⟨rfl, hS1, hz2⟩ := hw
  replace hS1 := hS1.symm
  subst hS1
  replace hsz := hz2.trans hsz
  refine lv_if_ne (tgt := 10) hx hb dX7_deliver_5 (by decide) (fun c_5 => ?_) (fun c_5 => ?_)
  · have c_6 := th1 c_5
    rw [if_pos c_6] at hP
    rw [hL] at c_6
    obtain ⟨k, hk, rfl⟩ := isL_nat c_6 (by omega)
    obtain ⟨i0, n0, hi0, hn0, e2, e3, hfr⟩ := hlt k hk
    replace e2 : gI (sI S o 0 0) (o + 2) k = nI i0 := vI (Or.inl (by omega)) e2
    replace e3 : gI (sI S o 0 0) (o + 3) k = nI n0 := vI (Or.inl (by omega)) e3
    replace hfr : gI (sI S o 0 0) (o + 1) k = 1 → ∃ far, gI (sI S o 0 0) (o + 8) k = nI far ∧ far ≤ 600 := fun h => by rw [gI_a (by omega)] at h ⊢; exact hfr h
    have hm0 : mOK (sI S o 0 0) o := mI hm
    have hL0 : gI (sI S o 0 0) o 1 = nI L := vI (Or.inr (by decide)) hL
    have ht0 : gI (sI S o 0 0) o 10 = nI t := vI (Or.inr (by decide)) ht
    have hrc0 : ∀ i n, i < 8 → n < 5 → gI (sI S o 0 0) (o + 23) (5 * i + n) = nI (rc i n) ∧ rc i n ≤ 600 := fun i n h1 h2 => ⟨vI (Or.inl (by omega)) (hrc i n h1 h2).1, (hrc i n h1 h2).2⟩
    generalize sI S o 0 0 = S0 at *
    refine lv_aload_n hx hb dX7_deliver_10 rfl (lv_at hl 0 rfl) ?_
    refine gt_X7_13 hC hP (mK (hm0)) (mR_3 (hm0)) dX7_deliver_11 ?_
    refine lv_iload_n hx hb dX7_deliver_14 rfl (lv_at hl 1 rfl) ?_
    refine g_iald hC hP (mA_3 (hm0)) (by rw [mN_3 (hm0)]; exact vp_in_nI (by omega) (by decide)) dX7_deliver_15 ?_
    rw [nI_clamp (by omega), e2]
    refine lv_istore_n (lv' := [(2, .int _), (0, .ref _), (1, .int _)]) hx hb dX7_deliver_16 rfl hl (by decide) rfl (fun ls hl => ?_)
    refine lv_aload_n hx hb dX7_deliver_17 rfl (lv_at hl 1 rfl) ?_
    refine gt_X7_16 hC hP (mK (hm0)) (mR_4 (hm0)) dX7_deliver_18 ?_
    refine lv_iload_n hx hb dX7_deliver_21 rfl (lv_at hl 2 rfl) ?_
    refine g_iald hC hP (mA_4 (hm0)) (by rw [mN_4 (hm0)]; exact vp_in_nI (by omega) (by decide)) dX7_deliver_22 ?_
    rw [nI_clamp (by omega), e3]
    refine lv_istore_n (lv' := [(3, .int _), (2, .int _), (0, .ref _), (1, .int _)]) hx hb dX7_deliver_23 rfl hl (by decide) rfl (fun ls hl => ?_)
    refine lv_aload_n hx hb dX7_deliver_24 rfl (lv_at hl 2 rfl) ?_
    refine gt_X7_19 hC hP (mK (hm0)) (mR_5 (hm0)) dX7_deliver_25 ?_
    refine lv_iload_n hx hb dX7_deliver_28 rfl (lv_at hl 3 rfl) ?_
    refine g_iald hC hP (mA_5 (hm0)) (by rw [mN_5 (hm0)]; exact vp_in_nI (by omega) (by decide)) dX7_deliver_29 ?_
    rw [nI_clamp (by omega)]
    refine lv_istore (lv' := [(4, .int _), (3, .int _), (2, .int _), (0, .ref _), (1, .int _)]) hx hb dX7_deliver_30 hl (by decide) rfl (fun ls hl => ?_)
    refine lv_aload_n hx hb dX7_deliver_32 rfl (lv_at hl 3 rfl) ?_
    refine gt_X7_7 hC hP (mK (hm0)) (mR_2 (hm0)) dX7_deliver_33 ?_
    refine lv_iload_n hx hb dX7_deliver_36 rfl (lv_at hl 4 rfl) ?_
    refine g_iald hC hP (mA_2 (hm0)) (by rw [mN_2 (hm0)]; exact vp_in_nI (by omega) (by decide)) dX7_deliver_37 ?_
    rw [nI_clamp (by omega)]
    refine lv_istore (lv' := [(5, .int _), (4, .int _), (3, .int _), (2, .int _), (0, .ref _), (1, .int _)]) hx hb dX7_deliver_38 hl (by decide) rfl (fun ls hl => ?_)
    refine lv_aload_n hx hb dX7_deliver_40 rfl (lv_at hl 4 rfl) ?_
    refine gt_X7_32 hC hP (mK (hm0)) (mR_9 (hm0)) dX7_deliver_41 ?_
    refine lv_iload_n hx hb dX7_deliver_44 rfl (lv_at hl 5 rfl) ?_
    refine g_iald hC hP (mA_9 (hm0)) (by rw [mN_9 (hm0)]; exact vp_in_nI (by omega) (by decide)) dX7_deliver_45 ?_
    rw [nI_clamp (by omega)]
    refine lv_istore (lv' := [(6, .int _), (5, .int _), (4, .int _), (3, .int _), (2, .int _), (0, .ref _), (1, .int _)]) hx hb dX7_deliver_46 hl (by decide) rfl (fun ls hl => ?_)
    refine lv_iload hx hb dX7_deliver_48 (lv_at hl 1 rfl) ?_
    refine lv_iconst (v := 1) hx hb dX7_deliver_50 (by decide) ?_
    refine lv_icmp_ne (tgt := 64) hx hb dX7_deliver_51 (by decide) (fun c_51 => ?_) (fun c_51 => ?_)
    · refine lv_iload hx hb dX7_deliver_64 (lv_at hl 1 rfl) ?_
      refine lv_if_eq (tgt := 75) hx hb dX7_deliver_66 (by decide) (fun c_66 => ?_) (fun c_66 => ?_)
      · refine lv_iconst (v := 1) hx hb dX7_deliver_75 (by decide) ?_
        refine lv_goto (tgt := 80) hx hb dX7_deliver_76 (by decide) ?_
        refine lv_istore (lv' := [(7, .int _), (6, .int _), (5, .int _), (4, .int _), (3, .int _), (2, .int _), (0, .ref _), (1, .int _)]) hx hb dX7_deliver_80 hl (by decide) rfl (fun ls hl => ?_)
        refine lv_iload hx hb dX7_deliver_82 (lv_at hl 2 rfl) ?_
        refine lv_iconst (v := 2) hx hb dX7_deliver_84 (by decide) ?_
        refine lv_icmp_ne (tgt := 107) hx hb dX7_deliver_85 (by decide) (fun c_85 => ?_) (fun c_85 => ?_)
        · refine lv_aload_n hx hb dX7_deliver_107 rfl (lv_at hl 6 rfl) ?_
          refine lv_iload_n hx hb dX7_deliver_108 rfl (lv_at hl 7 rfl) ?_
          refine g_callV (As := [.int _]) (rest := []) hC hU hP hS hl.1 (c_X7_remove l N0 D cy _ _ o k L hm0 hL0 (by omega) hk) mL_X7_134 iM_X7_remove sL_X7_remove iN_X7 cD_X7_remove ⟨by decide, by decide, rfl⟩ ⟨by decide, by decide⟩ ⟨by decide, by decide⟩ (ci := 7) rfl (by decide) (mK (hm0)) rfl (Nat.le_of_ble_eq_true rfl) dX7_deliver_109 (fun v S1 H locs hw hP hz hS => ?_)
          obtain ⟨rfl, hS1, hz2⟩ := hw
          replace hS1 := hS1.symm
          subst hS1
          replace hsz := hz2.trans hsz
          refine lv_iload hx hb dX7_deliver_112 (lv_at hl 0 rfl) ?_
          refine lv_if_eq (tgt := 139) hx hb dX7_deliver_114 (by decide) (fun c_114 => ?_) (fun c_114 => ?_)
          · exact absurd c_114 (by decide)
          · refine lv_aload_n hx hb dX7_deliver_117 rfl (lv_at hl 6 rfl) ?_
            refine gt_X7_53 hC hP (mK (mD (hm0))) (mR_17 (mD (hm0))) dX7_deliver_118 ?_
            refine lv_iload_n hx hb dX7_deliver_121 rfl (lv_at hl 4 rfl) ?_
            refine g_zald hC hP (mA_17 (mD (hm0))) (by rw [mN_17 (mD (hm0))]; exact vp_in_nI hn0 (by decide)) dX7_deliver_122 ?_
            rw [nI_clamp (by omega), gI_mRem (Or.inr (by omega))]
            refine lv_if_eq (tgt := 130) hx hb dX7_deliver_123 (by decide) (fun c_123 => ?_) (fun c_123 => ?_)
            · refine lv_aload_n hx hb dX7_deliver_130 rfl (lv_at hl 6 rfl) ?_
              refine lv_iload_n hx hb dX7_deliver_131 rfl (lv_at hl 5 rfl) ?_
              refine lv_iload_n hx hb dX7_deliver_132 rfl (lv_at hl 4 rfl) ?_
              refine lv_iload hx hb dX7_deliver_133 (lv_at hl 3 rfl) ?_
              refine g_callV (As := [.int _, .int _, .int _]) (rest := []) hC hU hP hS hl.1 (c_X7_prepares l N0 D cy _ _ o (L - 1) n0 _ _ (mD hm0) hn0 gI_mRem1 (by omega)) mL_X7_200 iM_X7_prepares sL_X7_prepares iN_X7 cD_X7_prepares ⟨by decide, by decide, rfl⟩ ⟨by decide, by decide⟩ ⟨by decide, by decide⟩ (ci := 7) rfl (by decide) (mK (mD (hm0))) rfl (Nat.le_of_ble_eq_true rfl) dX7_deliver_135 (fun v S1 H locs hw hP hz hS => ?_)
              obtain ⟨rfl, hS1, hz2⟩ := hw
              replace hS1 := hS1.symm
              subst hS1
              replace hsz := hz2.trans hsz
              exact g_iret hC hP hS hr hlk (by decide) (by decide) (⟨hsz, Or.inr ⟨k, i0, n0, hk, hi0, hn0, rfl, e2, e3, by first | exact Or.inr (Or.inr (Or.inl ⟨Or.inr c_85, c_94, rfl, rfl⟩)) | exact Or.inr (Or.inr (Or.inl ⟨Or.inl c_66, c_123, rfl, rfl⟩)) | exact Or.inr (Or.inr (Or.inr (Or.inl ⟨c_66, c_123, rfl, by rw [gI_mRem (Or.inr (by omega)), gI_mRem (Or.inl ⟨rfl, by decide⟩)]⟩))) | exact absurd (c_66.symm.trans c_85) (by decide) | exact absurd c_85 c_72 | exact absurd c_72 c_85 | exact absurd c_123 c_94⟩⟩) dX7_deliver_138
            · refine lv_iconst (v := 0) hx hb dX7_deliver_126 (by decide) ?_
              refine lv_goto (tgt := 138) hx hb dX7_deliver_127 (by decide) ?_
              exact g_iret hC hP hS hr hlk (by decide) (by decide) (⟨hsz, Or.inr ⟨k, i0, n0, hk, hi0, hn0, rfl, e2, e3, by first | exact Or.inr (Or.inr (Or.inl ⟨Or.inr c_85, c_94, rfl, rfl⟩)) | exact Or.inr (Or.inr (Or.inl ⟨Or.inl c_66, c_123, rfl, rfl⟩)) | exact Or.inr (Or.inr (Or.inr (Or.inl ⟨c_66, c_123, rfl, by rw [gI_mRem (Or.inr (by omega)), gI_mRem (Or.inl ⟨rfl, by decide⟩)]⟩))) | exact absurd (c_66.symm.trans c_85) (by decide) | exact absurd c_85 c_72 | exact absurd c_72 c_85 | exact absurd c_123 c_94⟩⟩) dX7_deliver_138
        · refine lv_aload_n hx hb dX7_deliver_88 rfl (lv_at hl 6 rfl) ?_
          refine gt_X7_53 hC hP (mK (hm0)) (mR_17 (hm0)) dX7_deliver_89 ?_
          refine lv_iload_n hx hb dX7_deliver_92 rfl (lv_at hl 4 rfl) ?_
          refine g_zald hC hP (mA_17 (hm0)) (by rw [mN_17 (hm0)]; exact vp_in_nI hn0 (by decide)) dX7_deliver_93 ?_
          rw [nI_clamp (by omega)]
          refine lv_if_ne (tgt := 107) hx hb dX7_deliver_94 (by decide) (fun c_94 => ?_) (fun c_94 => ?_)
          · refine lv_aload_n hx hb dX7_deliver_107 rfl (lv_at hl 6 rfl) ?_
            refine lv_iload_n hx hb dX7_deliver_108 rfl (lv_at hl 7 rfl) ?_
            refine g_callV (As := [.int _]) (rest := []) hC hU hP hS hl.1 (c_X7_remove l N0 D cy _ _ o k L hm0 hL0 (by omega) hk) mL_X7_134 iM_X7_remove sL_X7_remove iN_X7 cD_X7_remove ⟨by decide, by decide, rfl⟩ ⟨by decide, by decide⟩ ⟨by decide, by decide⟩ (ci := 7) rfl (by decide) (mK (hm0)) rfl (Nat.le_of_ble_eq_true rfl) dX7_deliver_109 (fun v S1 H locs hw hP hz hS => ?_)
            obtain ⟨rfl, hS1, hz2⟩ := hw
            replace hS1 := hS1.symm
            subst hS1
            replace hsz := hz2.trans hsz
            refine lv_iload hx hb dX7_deliver_112 (lv_at hl 0 rfl) ?_
            refine lv_if_eq (tgt := 139) hx hb dX7_deliver_114 (by decide) (fun c_114 => ?_) (fun c_114 => ?_)
            · exact absurd c_114 (by decide)
            · refine lv_aload_n hx hb dX7_deliver_117 rfl (lv_at hl 6 rfl) ?_
              refine gt_X7_53 hC hP (mK (mD (hm0))) (mR_17 (mD (hm0))) dX7_deliver_118 ?_
              refine lv_iload_n hx hb dX7_deliver_121 rfl (lv_at hl 4 rfl) ?_
              refine g_zald hC hP (mA_17 (mD (hm0))) (by rw [mN_17 (mD (hm0))]; exact vp_in_nI hn0 (by decide)) dX7_deliver_122 ?_
              rw [nI_clamp (by omega), gI_mRem (Or.inr (by omega))]
              refine lv_if_eq (tgt := 130) hx hb dX7_deliver_123 (by decide) (fun c_123 => ?_) (fun c_123 => ?_)
              · refine lv_aload_n hx hb dX7_deliver_130 rfl (lv_at hl 6 rfl) ?_
                refine lv_iload_n hx hb dX7_deliver_131 rfl (lv_at hl 5 rfl) ?_
                refine lv_iload_n hx hb dX7_deliver_132 rfl (lv_at hl 4 rfl) ?_
                refine lv_iload hx hb dX7_deliver_133 (lv_at hl 3 rfl) ?_
                refine g_callV (As := [.int _, .int _, .int _]) (rest := []) hC hU hP hS hl.1 (c_X7_prepares l N0 D cy _ _ o (L - 1) n0 _ _ (mD hm0) hn0 gI_mRem1 (by omega)) mL_X7_200 iM_X7_prepares sL_X7_prepares iN_X7 cD_X7_prepares ⟨by decide, by decide, rfl⟩ ⟨by decide, by decide⟩ ⟨by decide, by decide⟩ (ci := 7) rfl (by decide) (mK (mD (hm0))) rfl (Nat.le_of_ble_eq_true rfl) dX7_deliver_135 (fun v S1 H locs hw hP hz hS => ?_)
                obtain ⟨rfl, hS1, hz2⟩ := hw
                replace hS1 := hS1.symm
                subst hS1
                replace hsz := hz2.trans hsz
                exact g_iret hC hP hS hr hlk (by decide) (by decide) (⟨hsz, Or.inr ⟨k, i0, n0, hk, hi0, hn0, rfl, e2, e3, by first | exact Or.inr (Or.inr (Or.inl ⟨Or.inr c_85, c_94, rfl, rfl⟩)) | exact Or.inr (Or.inr (Or.inl ⟨Or.inl c_66, c_123, rfl, rfl⟩)) | exact Or.inr (Or.inr (Or.inr (Or.inl ⟨c_66, c_123, rfl, by rw [gI_mRem (Or.inr (by omega)), gI_mRem (Or.inl ⟨rfl, by decide⟩)]⟩))) | exact absurd (c_66.symm.trans c_85) (by decide) | exact absurd c_85 c_72 | exact absurd c_72 c_85 | exact absurd c_123 c_94⟩⟩) dX7_deliver_138
              · refine lv_iconst (v := 0) hx hb dX7_deliver_126 (by decide) ?_
                refine lv_goto (tgt := 138) hx hb dX7_deliver_127 (by decide) ?_
                exact g_iret hC hP hS hr hlk (by decide) (by decide) (⟨hsz, Or.inr ⟨k, i0, n0, hk, hi0, hn0, rfl, e2, e3, by first | exact Or.inr (Or.inr (Or.inl ⟨Or.inr c_85, c_94, rfl, rfl⟩)) | exact Or.inr (Or.inr (Or.inl ⟨Or.inl c_66, c_123, rfl, rfl⟩)) | exact Or.inr (Or.inr (Or.inr (Or.inl ⟨c_66, c_123, rfl, by rw [gI_mRem (Or.inr (by omega)), gI_mRem (Or.inl ⟨rfl, by decide⟩)]⟩))) | exact absurd (c_66.symm.trans c_85) (by decide) | exact absurd c_85 c_72 | exact absurd c_72 c_85 | exact absurd c_123 c_94⟩⟩) dX7_deliver_138
          · refine lv_aload_n hx hb dX7_deliver_97 rfl (lv_at hl 6 rfl) ?_
            refine lv_iload_n hx hb dX7_deliver_98 rfl (lv_at hl 7 rfl) ?_
            refine lv_iload_n hx hb dX7_deliver_99 rfl (lv_at hl 5 rfl) ?_
            refine lv_iload_n hx hb dX7_deliver_100 rfl (lv_at hl 4 rfl) ?_
            refine lv_iload hx hb dX7_deliver_101 (lv_at hl 3 rfl) ?_
            refine g_callV (As := [.int _, .int _, .int _, .int _]) (rest := []) hC hU hP hS hl.1 (c_X7_accepts l N0 D cy _ _ o L k n0 t _ _ hm0 hn0 hk hL0 (by omega) ht0 ht2) mL_X7_197 iM_X7_accepts sL_X7_accepts iN_X7 cD_X7_accepts ⟨by decide, by decide, rfl⟩ ⟨by decide, by decide⟩ ⟨by decide, by decide⟩ (ci := 7) rfl (by decide) (mK (hm0)) rfl (Nat.le_of_ble_eq_true rfl) dX7_deliver_103 (fun v S1 H locs hw hP hz hS => ?_)
            obtain ⟨rfl, hS1, hz2⟩ := hw
            replace hS1 := hS1.symm
            subst hS1
            replace hsz := hz2.trans hsz
            exact g_iret hC hP hS hr hlk (by decide) (by decide) (⟨hsz, Or.inr ⟨k, i0, n0, hk, hi0, hn0, rfl, e2, e3, by exact Or.inr (Or.inl ⟨c_85, c_94, rfl, rfl⟩)⟩⟩) dX7_deliver_106
      · refine lv_iload hx hb dX7_deliver_69 (lv_at hl 1 rfl) ?_
        refine lv_iconst (v := 2) hx hb dX7_deliver_71 (by decide) ?_
        refine lv_icmp_ne (tgt := 79) hx hb dX7_deliver_72 (by decide) (fun c_72 => ?_) (fun c_72 => ?_)
        · refine lv_iconst (v := 0) hx hb dX7_deliver_79 (by decide) ?_
          refine lv_istore (lv' := [(7, .int _), (6, .int _), (5, .int _), (4, .int _), (3, .int _), (2, .int _), (0, .ref _), (1, .int _)]) hx hb dX7_deliver_80 hl (by decide) rfl (fun ls hl => ?_)
          refine lv_iload hx hb dX7_deliver_82 (lv_at hl 2 rfl) ?_
          refine lv_iconst (v := 2) hx hb dX7_deliver_84 (by decide) ?_
          refine lv_icmp_ne (tgt := 107) hx hb dX7_deliver_85 (by decide) (fun c_85 => ?_) (fun c_85 => ?_)
          · refine lv_aload_n hx hb dX7_deliver_107 rfl (lv_at hl 6 rfl) ?_
            refine lv_iload_n hx hb dX7_deliver_108 rfl (lv_at hl 7 rfl) ?_
            refine g_callV (As := [.int _]) (rest := []) hC hU hP hS hl.1 (c_X7_remove l N0 D cy _ _ o k L hm0 hL0 (by omega) hk) mL_X7_134 iM_X7_remove sL_X7_remove iN_X7 cD_X7_remove ⟨by decide, by decide, rfl⟩ ⟨by decide, by decide⟩ ⟨by decide, by decide⟩ (ci := 7) rfl (by decide) (mK (hm0)) rfl (Nat.le_of_ble_eq_true rfl) dX7_deliver_109 (fun v S1 H locs hw hP hz hS => ?_)
            obtain ⟨rfl, hS1, hz2⟩ := hw
            replace hS1 := hS1.symm
            subst hS1
            replace hsz := hz2.trans hsz
            refine lv_iload hx hb dX7_deliver_112 (lv_at hl 0 rfl) ?_
            refine lv_if_eq (tgt := 139) hx hb dX7_deliver_114 (by decide) (fun c_114 => ?_) (fun c_114 => ?_)
            · refine lv_iload hx hb dX7_deliver_139 (lv_at hl 2 rfl) ?_
              refine lv_iconst (v := 3) hx hb dX7_deliver_141 (by decide) ?_
              refine lv_icmp_ne (tgt := 156) hx hb dX7_deliver_142 (by decide) (fun c_142 => ?_) (fun c_142 => ?_)
              · refine lv_aload_n hx hb dX7_deliver_156 rfl (lv_at hl 6 rfl) ?_
                refine lv_iload_n hx hb dX7_deliver_157 rfl (lv_at hl 5 rfl) ?_
                refine lv_iload hx hb dX7_deliver_158 (lv_at hl 3 rfl) ?_
                refine lv_iload hx hb dX7_deliver_160 (lv_at hl 1 rfl) ?_
                refine g_callV (As := [.int _, .int _, .int _]) (rest := []) hC hU hP hS hl.1 (c_X7_refuses l N0 D cy _ _ o i0 _ _ (mD hm0) hi0) mL_X7_206 iM_X7_refuses sL_X7_refuses iN_X7 cD_X7_refuses ⟨by decide, by decide, rfl⟩ ⟨by decide, by decide⟩ ⟨by decide, by decide⟩ (ci := 7) rfl (by decide) (mK (mD (hm0))) rfl (Nat.le_of_ble_eq_true rfl) dX7_deliver_162 (fun v S1 H locs hw hP hz hS => ?_)
                obtain ⟨rfl, hz2, hrf⟩ := hw
                replace hsz := hz2.trans hsz
                exact g_iret hC hP hS hr hlk (by decide) (by decide) (⟨hsz, Or.inr ⟨k, i0, n0, hk, hi0, hn0, rfl, e2, e3, by first | exact Or.inr (Or.inr (Or.inr (Or.inr (Or.inl ⟨c_142, rfl, hag⟩)))) | exact Or.inr (Or.inr (Or.inr (Or.inr (Or.inr ⟨⟨c_66, c_51, c_72, c_142⟩, rfl, by rw [gI_mRem (Or.inr (by omega)), gI_mRem (Or.inr (by omega))] at hrf; exact hrf⟩))))⟩⟩) dX7_deliver_165
              · refine lv_aload_n hx hb dX7_deliver_145 rfl (lv_at hl 6 rfl) ?_
                refine lv_iload_n hx hb dX7_deliver_146 rfl (lv_at hl 5 rfl) ?_
                refine lv_iload_n hx hb dX7_deliver_147 rfl (lv_at hl 4 rfl) ?_
                refine lv_iload hx hb dX7_deliver_148 (lv_at hl 3 rfl) ?_
                refine g_callV (As := [.int _, .int _, .int _]) (rest := []) hC hU hP hS hl.1 (c_X7_agrees l N0 D cy _ _ o i0 n0 _ (mD hm0) hi0 hn0) mL_X7_203 iM_X7_agrees sL_X7_agrees iN_X7 cD_X7_agrees ⟨by decide, by decide, rfl⟩ ⟨by decide, by decide⟩ ⟨by decide, by decide⟩ (ci := 7) rfl (by decide) (mK (mD (hm0))) rfl (Nat.le_of_ble_eq_true rfl) dX7_deliver_150 (fun v S1 H locs hw hP hz hS => ?_)
                obtain ⟨rfl, hz2, hag⟩ := hw
                replace hsz := hz2.trans hsz
                refine lv_goto (tgt := 165) hx hb dX7_deliver_153 (by decide) ?_
                exact g_iret hC hP hS hr hlk (by decide) (by decide) (⟨hsz, Or.inr ⟨k, i0, n0, hk, hi0, hn0, rfl, e2, e3, by first | exact Or.inr (Or.inr (Or.inr (Or.inr (Or.inl ⟨c_142, rfl, hag⟩)))) | exact Or.inr (Or.inr (Or.inr (Or.inr (Or.inr ⟨⟨c_66, c_51, c_72, c_142⟩, rfl, by rw [gI_mRem (Or.inr (by omega)), gI_mRem (Or.inr (by omega))] at hrf; exact hrf⟩))))⟩⟩) dX7_deliver_165
            · exact absurd (by decide) c_114
          · refine lv_aload_n hx hb dX7_deliver_88 rfl (lv_at hl 6 rfl) ?_
            refine gt_X7_53 hC hP (mK (hm0)) (mR_17 (hm0)) dX7_deliver_89 ?_
            refine lv_iload_n hx hb dX7_deliver_92 rfl (lv_at hl 4 rfl) ?_
            refine g_zald hC hP (mA_17 (hm0)) (by rw [mN_17 (hm0)]; exact vp_in_nI hn0 (by decide)) dX7_deliver_93 ?_
            rw [nI_clamp (by omega)]
            refine lv_if_ne (tgt := 107) hx hb dX7_deliver_94 (by decide) (fun c_94 => ?_) (fun c_94 => ?_)
            · refine lv_aload_n hx hb dX7_deliver_107 rfl (lv_at hl 6 rfl) ?_
              refine lv_iload_n hx hb dX7_deliver_108 rfl (lv_at hl 7 rfl) ?_
              refine g_callV (As := [.int _]) (rest := []) hC hU hP hS hl.1 (c_X7_remove l N0 D cy _ _ o k L hm0 hL0 (by omega) hk) mL_X7_134 iM_X7_remove sL_X7_remove iN_X7 cD_X7_remove ⟨by decide, by decide, rfl⟩ ⟨by decide, by decide⟩ ⟨by decide, by decide⟩ (ci := 7) rfl (by decide) (mK (hm0)) rfl (Nat.le_of_ble_eq_true rfl) dX7_deliver_109 (fun v S1 H locs hw hP hz hS => ?_)
              obtain ⟨rfl, hS1, hz2⟩ := hw
              replace hS1 := hS1.symm
              subst hS1
              replace hsz := hz2.trans hsz
              refine lv_iload hx hb dX7_deliver_112 (lv_at hl 0 rfl) ?_
              refine lv_if_eq (tgt := 139) hx hb dX7_deliver_114 (by decide) (fun c_114 => ?_) (fun c_114 => ?_)
              · refine lv_iload hx hb dX7_deliver_139 (lv_at hl 2 rfl) ?_
                refine lv_iconst (v := 3) hx hb dX7_deliver_141 (by decide) ?_
                refine lv_icmp_ne (tgt := 156) hx hb dX7_deliver_142 (by decide) (fun c_142 => ?_) (fun c_142 => ?_)
                · refine lv_aload_n hx hb dX7_deliver_156 rfl (lv_at hl 6 rfl) ?_
                  refine lv_iload_n hx hb dX7_deliver_157 rfl (lv_at hl 5 rfl) ?_
                  refine lv_iload hx hb dX7_deliver_158 (lv_at hl 3 rfl) ?_
                  refine lv_iload hx hb dX7_deliver_160 (lv_at hl 1 rfl) ?_
                  refine g_callV (As := [.int _, .int _, .int _]) (rest := []) hC hU hP hS hl.1 (c_X7_refuses l N0 D cy _ _ o i0 _ _ (mD hm0) hi0) mL_X7_206 iM_X7_refuses sL_X7_refuses iN_X7 cD_X7_refuses ⟨by decide, by decide, rfl⟩ ⟨by decide, by decide⟩ ⟨by decide, by decide⟩ (ci := 7) rfl (by decide) (mK (mD (hm0))) rfl (Nat.le_of_ble_eq_true rfl) dX7_deliver_162 (fun v S1 H locs hw hP hz hS => ?_)
                  obtain ⟨rfl, hz2, hrf⟩ := hw
                  replace hsz := hz2.trans hsz
                  exact g_iret hC hP hS hr hlk (by decide) (by decide) (⟨hsz, Or.inr ⟨k, i0, n0, hk, hi0, hn0, rfl, e2, e3, by first | exact Or.inr (Or.inr (Or.inr (Or.inr (Or.inl ⟨c_142, rfl, hag⟩)))) | exact Or.inr (Or.inr (Or.inr (Or.inr (Or.inr ⟨⟨c_66, c_51, c_72, c_142⟩, rfl, by rw [gI_mRem (Or.inr (by omega)), gI_mRem (Or.inr (by omega))] at hrf; exact hrf⟩))))⟩⟩) dX7_deliver_165
                · refine lv_aload_n hx hb dX7_deliver_145 rfl (lv_at hl 6 rfl) ?_
                  refine lv_iload_n hx hb dX7_deliver_146 rfl (lv_at hl 5 rfl) ?_
                  refine lv_iload_n hx hb dX7_deliver_147 rfl (lv_at hl 4 rfl) ?_
                  refine lv_iload hx hb dX7_deliver_148 (lv_at hl 3 rfl) ?_
                  refine g_callV (As := [.int _, .int _, .int _]) (rest := []) hC hU hP hS hl.1 (c_X7_agrees l N0 D cy _ _ o i0 n0 _ (mD hm0) hi0 hn0) mL_X7_203 iM_X7_agrees sL_X7_agrees iN_X7 cD_X7_agrees ⟨by decide, by decide, rfl⟩ ⟨by decide, by decide⟩ ⟨by decide, by decide⟩ (ci := 7) rfl (by decide) (mK (mD (hm0))) rfl (Nat.le_of_ble_eq_true rfl) dX7_deliver_150 (fun v S1 H locs hw hP hz hS => ?_)
                  obtain ⟨rfl, hz2, hag⟩ := hw
                  replace hsz := hz2.trans hsz
                  refine lv_goto (tgt := 165) hx hb dX7_deliver_153 (by decide) ?_
                  exact g_iret hC hP hS hr hlk (by decide) (by decide) (⟨hsz, Or.inr ⟨k, i0, n0, hk, hi0, hn0, rfl, e2, e3, by first | exact Or.inr (Or.inr (Or.inr (Or.inr (Or.inl ⟨c_142, rfl, hag⟩)))) | exact Or.inr (Or.inr (Or.inr (Or.inr (Or.inr ⟨⟨c_66, c_51, c_72, c_142⟩, rfl, by rw [gI_mRem (Or.inr (by omega)), gI_mRem (Or.inr (by omega))] at hrf; exact hrf⟩))))⟩⟩) dX7_deliver_165
              · exact absurd (by decide) c_114
            · refine lv_aload_n hx hb dX7_deliver_97 rfl (lv_at hl 6 rfl) ?_
              refine lv_iload_n hx hb dX7_deliver_98 rfl (lv_at hl 7 rfl) ?_
              refine lv_iload_n hx hb dX7_deliver_99 rfl (lv_at hl 5 rfl) ?_
              refine lv_iload_n hx hb dX7_deliver_100 rfl (lv_at hl 4 rfl) ?_
              refine lv_iload hx hb dX7_deliver_101 (lv_at hl 3 rfl) ?_
              refine g_callV (As := [.int _, .int _, .int _, .int _]) (rest := []) hC hU hP hS hl.1 (c_X7_accepts l N0 D cy _ _ o L k n0 t _ _ hm0 hn0 hk hL0 (by omega) ht0 ht2) mL_X7_197 iM_X7_accepts sL_X7_accepts iN_X7 cD_X7_accepts ⟨by decide, by decide, rfl⟩ ⟨by decide, by decide⟩ ⟨by decide, by decide⟩ (ci := 7) rfl (by decide) (mK (hm0)) rfl (Nat.le_of_ble_eq_true rfl) dX7_deliver_103 (fun v S1 H locs hw hP hz hS => ?_)
              obtain ⟨rfl, hS1, hz2⟩ := hw
              replace hS1 := hS1.symm
              subst hS1
              replace hsz := hz2.trans hsz
              exact g_iret hC hP hS hr hlk (by decide) (by decide) (⟨hsz, Or.inr ⟨k, i0, n0, hk, hi0, hn0, rfl, e2, e3, by exact Or.inr (Or.inl ⟨c_85, c_94, rfl, rfl⟩)⟩⟩) dX7_deliver_106
        · refine lv_iconst (v := 1) hx hb dX7_deliver_75 (by decide) ?_
          refine lv_goto (tgt := 80) hx hb dX7_deliver_76 (by decide) ?_
          refine lv_istore (lv' := [(7, .int _), (6, .int _), (5, .int _), (4, .int _), (3, .int _), (2, .int _), (0, .ref _), (1, .int _)]) hx hb dX7_deliver_80 hl (by decide) rfl (fun ls hl => ?_)
          refine lv_iload hx hb dX7_deliver_82 (lv_at hl 2 rfl) ?_
          refine lv_iconst (v := 2) hx hb dX7_deliver_84 (by decide) ?_
          refine lv_icmp_ne (tgt := 107) hx hb dX7_deliver_85 (by decide) (fun c_85 => ?_) (fun c_85 => ?_)
          · refine lv_aload_n hx hb dX7_deliver_107 rfl (lv_at hl 6 rfl) ?_
            refine lv_iload_n hx hb dX7_deliver_108 rfl (lv_at hl 7 rfl) ?_
            refine g_callV (As := [.int _]) (rest := []) hC hU hP hS hl.1 (c_X7_remove l N0 D cy _ _ o k L hm0 hL0 (by omega) hk) mL_X7_134 iM_X7_remove sL_X7_remove iN_X7 cD_X7_remove ⟨by decide, by decide, rfl⟩ ⟨by decide, by decide⟩ ⟨by decide, by decide⟩ (ci := 7) rfl (by decide) (mK (hm0)) rfl (Nat.le_of_ble_eq_true rfl) dX7_deliver_109 (fun v S1 H locs hw hP hz hS => ?_)
            obtain ⟨rfl, hS1, hz2⟩ := hw
            replace hS1 := hS1.symm
            subst hS1
            replace hsz := hz2.trans hsz
            refine lv_iload hx hb dX7_deliver_112 (lv_at hl 0 rfl) ?_
            refine lv_if_eq (tgt := 139) hx hb dX7_deliver_114 (by decide) (fun c_114 => ?_) (fun c_114 => ?_)
            · exact absurd c_114 (by decide)
            · refine lv_aload_n hx hb dX7_deliver_117 rfl (lv_at hl 6 rfl) ?_
              refine gt_X7_53 hC hP (mK (mD (hm0))) (mR_17 (mD (hm0))) dX7_deliver_118 ?_
              refine lv_iload_n hx hb dX7_deliver_121 rfl (lv_at hl 4 rfl) ?_
              refine g_zald hC hP (mA_17 (mD (hm0))) (by rw [mN_17 (mD (hm0))]; exact vp_in_nI hn0 (by decide)) dX7_deliver_122 ?_
              rw [nI_clamp (by omega), gI_mRem (Or.inr (by omega))]
              refine lv_if_eq (tgt := 130) hx hb dX7_deliver_123 (by decide) (fun c_123 => ?_) (fun c_123 => ?_)
              · refine lv_aload_n hx hb dX7_deliver_130 rfl (lv_at hl 6 rfl) ?_
                refine lv_iload_n hx hb dX7_deliver_131 rfl (lv_at hl 5 rfl) ?_
                refine lv_iload_n hx hb dX7_deliver_132 rfl (lv_at hl 4 rfl) ?_
                refine lv_iload hx hb dX7_deliver_133 (lv_at hl 3 rfl) ?_
                refine g_callV (As := [.int _, .int _, .int _]) (rest := []) hC hU hP hS hl.1 (c_X7_prepares l N0 D cy _ _ o (L - 1) n0 _ _ (mD hm0) hn0 gI_mRem1 (by omega)) mL_X7_200 iM_X7_prepares sL_X7_prepares iN_X7 cD_X7_prepares ⟨by decide, by decide, rfl⟩ ⟨by decide, by decide⟩ ⟨by decide, by decide⟩ (ci := 7) rfl (by decide) (mK (mD (hm0))) rfl (Nat.le_of_ble_eq_true rfl) dX7_deliver_135 (fun v S1 H locs hw hP hz hS => ?_)
                obtain ⟨rfl, hS1, hz2⟩ := hw
                replace hS1 := hS1.symm
                subst hS1
                replace hsz := hz2.trans hsz
                exact g_iret hC hP hS hr hlk (by decide) (by decide) (⟨hsz, Or.inr ⟨k, i0, n0, hk, hi0, hn0, rfl, e2, e3, by first | exact Or.inr (Or.inr (Or.inl ⟨Or.inr c_85, c_94, rfl, rfl⟩)) | exact Or.inr (Or.inr (Or.inl ⟨Or.inl c_66, c_123, rfl, rfl⟩)) | exact Or.inr (Or.inr (Or.inr (Or.inl ⟨c_66, c_123, rfl, by rw [gI_mRem (Or.inr (by omega)), gI_mRem (Or.inl ⟨rfl, by decide⟩)]⟩))) | exact absurd (c_66.symm.trans c_85) (by decide) | exact absurd c_85 c_72 | exact absurd c_72 c_85 | exact absurd c_123 c_94⟩⟩) dX7_deliver_138
              · refine lv_iconst (v := 0) hx hb dX7_deliver_126 (by decide) ?_
                refine lv_goto (tgt := 138) hx hb dX7_deliver_127 (by decide) ?_
                exact g_iret hC hP hS hr hlk (by decide) (by decide) (⟨hsz, Or.inr ⟨k, i0, n0, hk, hi0, hn0, rfl, e2, e3, by first | exact Or.inr (Or.inr (Or.inl ⟨Or.inr c_85, c_94, rfl, rfl⟩)) | exact Or.inr (Or.inr (Or.inl ⟨Or.inl c_66, c_123, rfl, rfl⟩)) | exact Or.inr (Or.inr (Or.inr (Or.inl ⟨c_66, c_123, rfl, by rw [gI_mRem (Or.inr (by omega)), gI_mRem (Or.inl ⟨rfl, by decide⟩)]⟩))) | exact absurd (c_66.symm.trans c_85) (by decide) | exact absurd c_85 c_72 | exact absurd c_72 c_85 | exact absurd c_123 c_94⟩⟩) dX7_deliver_138
          · refine lv_aload_n hx hb dX7_deliver_88 rfl (lv_at hl 6 rfl) ?_
            refine gt_X7_53 hC hP (mK (hm0)) (mR_17 (hm0)) dX7_deliver_89 ?_
            refine lv_iload_n hx hb dX7_deliver_92 rfl (lv_at hl 4 rfl) ?_
            refine g_zald hC hP (mA_17 (hm0)) (by rw [mN_17 (hm0)]; exact vp_in_nI hn0 (by decide)) dX7_deliver_93 ?_
            rw [nI_clamp (by omega)]
            refine lv_if_ne (tgt := 107) hx hb dX7_deliver_94 (by decide) (fun c_94 => ?_) (fun c_94 => ?_)
            · refine lv_aload_n hx hb dX7_deliver_107 rfl (lv_at hl 6 rfl) ?_
              refine lv_iload_n hx hb dX7_deliver_108 rfl (lv_at hl 7 rfl) ?_
              refine g_callV (As := [.int _]) (rest := []) hC hU hP hS hl.1 (c_X7_remove l N0 D cy _ _ o k L hm0 hL0 (by omega) hk) mL_X7_134 iM_X7_remove sL_X7_remove iN_X7 cD_X7_remove ⟨by decide, by decide, rfl⟩ ⟨by decide, by decide⟩ ⟨by decide, by decide⟩ (ci := 7) rfl (by decide) (mK (hm0)) rfl (Nat.le_of_ble_eq_true rfl) dX7_deliver_109 (fun v S1 H locs hw hP hz hS => ?_)
              obtain ⟨rfl, hS1, hz2⟩ := hw
              replace hS1 := hS1.symm
              subst hS1
              replace hsz := hz2.trans hsz
              refine lv_iload hx hb dX7_deliver_112 (lv_at hl 0 rfl) ?_
              refine lv_if_eq (tgt := 139) hx hb dX7_deliver_114 (by decide) (fun c_114 => ?_) (fun c_114 => ?_)
              · exact absurd c_114 (by decide)
              · refine lv_aload_n hx hb dX7_deliver_117 rfl (lv_at hl 6 rfl) ?_
                refine gt_X7_53 hC hP (mK (mD (hm0))) (mR_17 (mD (hm0))) dX7_deliver_118 ?_
                refine lv_iload_n hx hb dX7_deliver_121 rfl (lv_at hl 4 rfl) ?_
                refine g_zald hC hP (mA_17 (mD (hm0))) (by rw [mN_17 (mD (hm0))]; exact vp_in_nI hn0 (by decide)) dX7_deliver_122 ?_
                rw [nI_clamp (by omega), gI_mRem (Or.inr (by omega))]
                refine lv_if_eq (tgt := 130) hx hb dX7_deliver_123 (by decide) (fun c_123 => ?_) (fun c_123 => ?_)
                · refine lv_aload_n hx hb dX7_deliver_130 rfl (lv_at hl 6 rfl) ?_
                  refine lv_iload_n hx hb dX7_deliver_131 rfl (lv_at hl 5 rfl) ?_
                  refine lv_iload_n hx hb dX7_deliver_132 rfl (lv_at hl 4 rfl) ?_
                  refine lv_iload hx hb dX7_deliver_133 (lv_at hl 3 rfl) ?_
                  refine g_callV (As := [.int _, .int _, .int _]) (rest := []) hC hU hP hS hl.1 (c_X7_prepares l N0 D cy _ _ o (L - 1) n0 _ _ (mD hm0) hn0 gI_mRem1 (by omega)) mL_X7_200 iM_X7_prepares sL_X7_prepares iN_X7 cD_X7_prepares ⟨by decide, by decide, rfl⟩ ⟨by decide, by decide⟩ ⟨by decide, by decide⟩ (ci := 7) rfl (by decide) (mK (mD (hm0))) rfl (Nat.le_of_ble_eq_true rfl) dX7_deliver_135 (fun v S1 H locs hw hP hz hS => ?_)
                  obtain ⟨rfl, hS1, hz2⟩ := hw
                  replace hS1 := hS1.symm
                  subst hS1
                  replace hsz := hz2.trans hsz
                  exact g_iret hC hP hS hr hlk (by decide) (by decide) (⟨hsz, Or.inr ⟨k, i0, n0, hk, hi0, hn0, rfl, e2, e3, by first | exact Or.inr (Or.inr (Or.inl ⟨Or.inr c_85, c_94, rfl, rfl⟩)) | exact Or.inr (Or.inr (Or.inl ⟨Or.inl c_66, c_123, rfl, rfl⟩)) | exact Or.inr (Or.inr (Or.inr (Or.inl ⟨c_66, c_123, rfl, by rw [gI_mRem (Or.inr (by omega)), gI_mRem (Or.inl ⟨rfl, by decide⟩)]⟩))) | exact absurd (c_66.symm.trans c_85) (by decide) | exact absurd c_85 c_72 | exact absurd c_72 c_85 | exact absurd c_123 c_94⟩⟩) dX7_deliver_138
                · refine lv_iconst (v := 0) hx hb dX7_deliver_126 (by decide) ?_
                  refine lv_goto (tgt := 138) hx hb dX7_deliver_127 (by decide) ?_
                  exact g_iret hC hP hS hr hlk (by decide) (by decide) (⟨hsz, Or.inr ⟨k, i0, n0, hk, hi0, hn0, rfl, e2, e3, by first | exact Or.inr (Or.inr (Or.inl ⟨Or.inr c_85, c_94, rfl, rfl⟩)) | exact Or.inr (Or.inr (Or.inl ⟨Or.inl c_66, c_123, rfl, rfl⟩)) | exact Or.inr (Or.inr (Or.inr (Or.inl ⟨c_66, c_123, rfl, by rw [gI_mRem (Or.inr (by omega)), gI_mRem (Or.inl ⟨rfl, by decide⟩)]⟩))) | exact absurd (c_66.symm.trans c_85) (by decide) | exact absurd c_85 c_72 | exact absurd c_72 c_85 | exact absurd c_123 c_94⟩⟩) dX7_deliver_138
            · refine lv_aload_n hx hb dX7_deliver_97 rfl (lv_at hl 6 rfl) ?_
              refine lv_iload_n hx hb dX7_deliver_98 rfl (lv_at hl 7 rfl) ?_
              refine lv_iload_n hx hb dX7_deliver_99 rfl (lv_at hl 5 rfl) ?_
              refine lv_iload_n hx hb dX7_deliver_100 rfl (lv_at hl 4 rfl) ?_
              refine lv_iload hx hb dX7_deliver_101 (lv_at hl 3 rfl) ?_
              refine g_callV (As := [.int _, .int _, .int _, .int _]) (rest := []) hC hU hP hS hl.1 (c_X7_accepts l N0 D cy _ _ o L k n0 t _ _ hm0 hn0 hk hL0 (by omega) ht0 ht2) mL_X7_197 iM_X7_accepts sL_X7_accepts iN_X7 cD_X7_accepts ⟨by decide, by decide, rfl⟩ ⟨by decide, by decide⟩ ⟨by decide, by decide⟩ (ci := 7) rfl (by decide) (mK (hm0)) rfl (Nat.le_of_ble_eq_true rfl) dX7_deliver_103 (fun v S1 H locs hw hP hz hS => ?_)
              obtain ⟨rfl, hS1, hz2⟩ := hw
              replace hS1 := hS1.symm
              subst hS1
              replace hsz := hz2.trans hsz
              exact g_iret hC hP hS hr hlk (by decide) (by decide) (⟨hsz, Or.inr ⟨k, i0, n0, hk, hi0, hn0, rfl, e2, e3, by exact Or.inr (Or.inl ⟨c_85, c_94, rfl, rfl⟩)⟩⟩) dX7_deliver_106
    · refine lv_aload_n hx hb dX7_deliver_54 rfl (lv_at hl 5 rfl) ?_
      refine lv_iload_n hx hb dX7_deliver_55 rfl (lv_at hl 6 rfl) ?_
      refine lv_iload_n hx hb dX7_deliver_56 rfl (lv_at hl 4 rfl) ?_
      refine lv_iload_n hx hb dX7_deliver_57 rfl (lv_at hl 3 rfl) ?_
      refine lv_iload hx hb dX7_deliver_58 (lv_at hl 2 rfl) ?_
      refine g_callV (As := [.int _, .int _, .int _, .int _]) (rest := []) hC hU hP hS hl.1 (c_X7_promises l N0 D cy _ _ o L k i0 n0 (Classical.choose (hfr c_51)) _ (rc i0) hm0 hi0 hn0 hk hL0 hL2 (Classical.choose_spec (hfr c_51)).1 (Classical.choose_spec (hfr c_51)).2 (fun n h => hrc0 i0 n hi0 h)) mL_X7_194 iM_X7_promises sL_X7_promises iN_X7 cD_X7_promises ⟨by decide, by decide, rfl⟩ ⟨by decide, by decide⟩ ⟨by decide, by decide⟩ (ci := 7) rfl (by decide) (mK (hm0)) rfl (Nat.le_of_ble_eq_true rfl) dX7_deliver_60 (fun v S1 H locs hw hP hz hS => ?_)
      obtain ⟨hz2, hpr⟩ := hw
      replace hsz := hz2.trans hsz
      obtain ⟨r9, hv9⟩ : ∃ r9 : Int32, v = some (.int r9) := by
        rcases hpr with ⟨-, h, -⟩ | ⟨-, -, h, -⟩ | ⟨-, -, _, _, _, -, -, -, ⟨-, h, -⟩ | ⟨-, -, h, -⟩ | ⟨-, -, h, -⟩⟩ <;> exact ⟨_, h⟩
      subst hv9
      exact g_iret hC hP hS hr hlk (by decide) (by decide) (⟨hsz, Or.inr ⟨k, i0, n0, hk, hi0, hn0, rfl, e2, e3, by exact Or.inl ⟨c_51, _, (Classical.choose_spec (hfr c_51)).1, (Classical.choose_spec (hfr c_51)).2, hpr⟩⟩⟩) dX7_deliver_63
  · refine lv_iconst (v := 0) hx hb dX7_deliver_8 (by decide) ?_
    exact g_iret hC hP hS hr hlk (by decide) (by decide) (⟨hsz, Or.inl ⟨cnt0 c_5, rfl, by rw [if_neg (cnt0 c_5)]⟩⟩) dX7_deliver_9
