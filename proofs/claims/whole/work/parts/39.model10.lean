def prOK (S : gS) (o i n : Nat) (b : Int32) : Prop := gI S (o + 18) i = 1 ∧ b = 8 * gI S (o + 20) i + nI i ∧ gI S (o + 22) (5 * i + n) = 0
/-- what promises does -/
def mPro (S : gS) (o L k i n far : Nat) (b : Int32) (rc : Nat → Nat) (v : Option Value) (S1 : gS) : Prop :=
  (¬ prOK S o i n b ∧ v = some (.int 0) ∧ S1 = mRem S o k L) ∨
  (prOK S o i n b ∧ cntF S o i 5 < 2 ∧ v = some (.int 0) ∧ S1 = mRem (sI (sI S (o + 22) (5 * i + n) 1) (o + 23) (5 * i + n) (nI far)) o k L) ∨
  (prOK S o i n b ∧ ¬ cntF S o i 5 < 2 ∧ ∃ (sv rv : Int32) (fv : Int64), sv = prS S o i (nI n) far rc ∧ rv = prR S o i sv (nI n) far rc ∧ fv = prF S o i rv ∧
    ((prX sv fv ∧ v = some (.int 0) ∧ S1 = mFail (mRem S o k L) o i) ∨ (¬ prX sv fv ∧ 90 < L + 4 ∧ v = some (.int 0) ∧ S1 = sI S o 0 2) ∨ (¬ prX sv fv ∧ L + 4 ≤ 90 ∧ v = some (.int 5) ∧ S1 = mAcc S o k L i sv (prT S o i rv) fv b)))
set_option maxRecDepth 100000 in
set_option maxHeartbeats 4000000 in
theorem c_X7_promises (l : Launch) (N0 : Nat) (D : va_G) (cy : Nat → ClassId) (S : gS) (sz : Nat) (o L k i0 n0 far : Nat) (b : Int32) (rc : Nat → Nat) (hm : mOK S o) (hi0 : i0 < 8) (hn0 : n0 < 5) (hk : k < L) (hL : gI S o 1 = nI L) (hL2 : L ≤ 90) (hfar : gI S (o + 8) k = nI far) (hfar2 : far ≤ 600) (hrc : ∀ n, n < 5 → gI S (o + 23) (5 * i0 + n) = nI (rc n) ∧ rc n ≤ 600) : gM l yX7_promises cX7_promises 12 (some FieldType.int) { frames := 3, cells := 0, slots := 0, locals := 120 } N0 D cy [.ref o, .int (nI k), .int (nI i0), .int (nI n0), .int b] S sz (fun v S1 z => z = sz ∧ mPro S o L k i0 n0 far b rc v S1) := by
  refine g_body (by decide) rfl (Nat.le_of_ble_eq_true rfl) ?_
  intro p e s m args below meth c ls hC hU hr hlk hnm hsz hP hS hl
  have hx := hC.1
  have hb := hC.2.1
  refine lv_aload_n hx hb dX7_promises_0 rfl (lv_at hl 0 rfl) ?_
  refine gt_X7_63 hC hP (mK (hm)) (mR_20 (hm)) dX7_promises_1 ?_
  refine lv_iload_n hx hb dX7_promises_4 rfl (lv_at hl 2 rfl) ?_
  refine g_iald hC hP (mA_20 (hm)) (by rw [mN_20 (hm)]; exact vp_in_nI hi0 (by decide)) dX7_promises_5 ?_
  rw [nI_clamp (by omega)]
  refine lv_iconst (v := 1) hx hb dX7_promises_6 (by decide) ?_
  refine lv_icmp_ne (tgt := 37) hx hb dX7_promises_7 (by decide) (fun c_7 => ?_) (fun c_7 => ?_)
  · refine lv_iconst (v := 0) hx hb dX7_promises_37 (by decide) ?_
    refine lv_istore (lv' := [(5, .int _), (0, .ref _), (1, .int _), (2, .int _), (3, .int _), (4, .int _)]) hx hb dX7_promises_38 hl (by decide) rfl (fun ls hl => ?_)
    refine lv_iload hx hb dX7_promises_40 (lv_at hl 0 rfl) ?_
    refine lv_if_eq (tgt := 54) hx hb dX7_promises_42 (by decide) (fun c_42 => ?_) (fun c_42 => ?_)
    · refine lv_iload hx hb dX7_promises_54 (lv_at hl 0 rfl) ?_
      refine lv_if_eq (tgt := 86) hx hb dX7_promises_56 (by decide) (fun c_56 => ?_) (fun c_56 => ?_)
      · first | skip | skip
        refine lv_aload_n hx hb dX7_promises_86 rfl (lv_at hl 1 rfl) ?_
        refine lv_iload_n hx hb dX7_promises_87 rfl (lv_at hl 2 rfl) ?_
        refine g_callV (As := [.int _]) (rest := []) hC hU hP hS hl.1 (c_X7_remove l N0 D cy _ _ o k L (by first | exact hm | exact mI (mI hm)) (by first | exact hL | exact vI (Or.inl (by omega)) (vI (Or.inl (by omega)) hL)) (by omega) hk) mL_X7_134 iM_X7_remove sL_X7_remove iN_X7 cD_X7_remove ⟨by decide, by decide, rfl⟩ ⟨by decide, by decide⟩ ⟨by decide, by decide⟩ (ci := 7) rfl (by decide) (mK (hm)) rfl (Nat.le_of_ble_eq_true rfl) dX7_promises_88 (fun v S1 H locs hw hP hz hS => ?_)
        obtain ⟨rfl, hS1, hz2⟩ := hw
        replace hS1 := hS1.symm
        subst hS1
        replace hsz := hz2.trans hsz
        refine lv_iconst (v := 0) hx hb dX7_promises_91 (by decide) ?_
        exact g_iret hC hP hS hr hlk (by decide) (by decide) (⟨hsz, by first | exact Or.inl ⟨fun h => by first | exact c_7 h.1 | exact c_17 h.2.1 | exact c_30 h.2.2, rfl, rfl⟩ | (rw [nI_clamp (by omega)]; exact Or.inr (Or.inl ⟨⟨c_7, c_17, c_30⟩, Int32.not_le.mp c_51, rfl, rfl⟩)) | exact absurd rfl c_42 | exact absurd c_42 (by decide) | exact absurd rfl c_56 | exact absurd c_56 (by decide)⟩) dX7_promises_92
      · exact absurd (by decide) c_56
    · exact absurd (by decide) c_42
  · refine lv_iload hx hb dX7_promises_10 (lv_at hl 4 rfl) ?_
    refine lv_aload_n hx hb dX7_promises_12 rfl (lv_at hl 0 rfl) ?_
    refine lv_iload_n hx hb dX7_promises_13 rfl (lv_at hl 2 rfl) ?_
    refine g_callV (As := [.int _]) (rest := [.int _]) hC hU hP hS hl.1 (c_X7_ballotOf l N0 D cy _ _ o i0 hm hi0) mL_X7_141 iM_X7_ballotOf sL_X7_ballotOf iN_X7 cD_X7_ballotOf ⟨by decide, by decide, rfl⟩ ⟨by decide, by decide⟩ ⟨by decide, by decide⟩ (ci := 7) rfl (by decide) (mK (hm)) rfl (Nat.le_of_ble_eq_true rfl) dX7_promises_14 (fun v S1 H locs hw hP hz hS => ?_)
    obtain ⟨rfl, hS1, hz2⟩ := hw
    replace hS1 := hS1.symm
    subst hS1
    replace hsz := hz2.trans hsz
    refine lv_icmp_ne (tgt := 37) hx hb dX7_promises_17 (by decide) (fun c_17 => ?_) (fun c_17 => ?_)
    · refine lv_iconst (v := 0) hx hb dX7_promises_37 (by decide) ?_
      refine lv_istore (lv' := [(5, .int _), (0, .ref _), (1, .int _), (2, .int _), (3, .int _), (4, .int _)]) hx hb dX7_promises_38 hl (by decide) rfl (fun ls hl => ?_)
      refine lv_iload hx hb dX7_promises_40 (lv_at hl 0 rfl) ?_
      refine lv_if_eq (tgt := 54) hx hb dX7_promises_42 (by decide) (fun c_42 => ?_) (fun c_42 => ?_)
      · refine lv_iload hx hb dX7_promises_54 (lv_at hl 0 rfl) ?_
        refine lv_if_eq (tgt := 86) hx hb dX7_promises_56 (by decide) (fun c_56 => ?_) (fun c_56 => ?_)
        · first | skip | skip
          refine lv_aload_n hx hb dX7_promises_86 rfl (lv_at hl 1 rfl) ?_
          refine lv_iload_n hx hb dX7_promises_87 rfl (lv_at hl 2 rfl) ?_
          refine g_callV (As := [.int _]) (rest := []) hC hU hP hS hl.1 (c_X7_remove l N0 D cy _ _ o k L (by first | exact hm | exact mI (mI hm)) (by first | exact hL | exact vI (Or.inl (by omega)) (vI (Or.inl (by omega)) hL)) (by omega) hk) mL_X7_134 iM_X7_remove sL_X7_remove iN_X7 cD_X7_remove ⟨by decide, by decide, rfl⟩ ⟨by decide, by decide⟩ ⟨by decide, by decide⟩ (ci := 7) rfl (by decide) (mK (hm)) rfl (Nat.le_of_ble_eq_true rfl) dX7_promises_88 (fun v S1 H locs hw hP hz hS => ?_)
          obtain ⟨rfl, hS1, hz2⟩ := hw
          replace hS1 := hS1.symm
          subst hS1
          replace hsz := hz2.trans hsz
          refine lv_iconst (v := 0) hx hb dX7_promises_91 (by decide) ?_
          exact g_iret hC hP hS hr hlk (by decide) (by decide) (⟨hsz, by first | exact Or.inl ⟨fun h => by first | exact c_7 h.1 | exact c_17 h.2.1 | exact c_30 h.2.2, rfl, rfl⟩ | (rw [nI_clamp (by omega)]; exact Or.inr (Or.inl ⟨⟨c_7, c_17, c_30⟩, Int32.not_le.mp c_51, rfl, rfl⟩)) | exact absurd rfl c_42 | exact absurd c_42 (by decide) | exact absurd rfl c_56 | exact absurd c_56 (by decide)⟩) dX7_promises_92
        · exact absurd (by decide) c_56
      · exact absurd (by decide) c_42
    · refine lv_aload_n hx hb dX7_promises_20 rfl (lv_at hl 0 rfl) ?_
      refine gt_X7_75 hC hP (mK (hm)) (mR_24 (hm)) dX7_promises_21 ?_
      refine lv_iconst (v := 5) hx hb dX7_promises_24 (by decide) ?_
      refine lv_iload_n hx hb dX7_promises_25 rfl (lv_at hl 2 rfl) ?_
      refine lv_imul hx hb dX7_promises_26 ?_
      refine lv_iload_n hx hb dX7_promises_27 rfl (lv_at hl 3 rfl) ?_
      refine lv_iadd hx hb dX7_promises_28 ?_
      rw [m5]
      refine g_zald hC hP (mA_24 (hm)) (by rw [mN_24 (hm)]; exact vp_in_nI (by omega) (by decide)) dX7_promises_29 ?_
      rw [nI_clamp (by omega)]
      refine lv_if_ne (tgt := 37) hx hb dX7_promises_30 (by decide) (fun c_30 => ?_) (fun c_30 => ?_)
      · refine lv_iconst (v := 0) hx hb dX7_promises_37 (by decide) ?_
        refine lv_istore (lv' := [(5, .int _), (0, .ref _), (1, .int _), (2, .int _), (3, .int _), (4, .int _)]) hx hb dX7_promises_38 hl (by decide) rfl (fun ls hl => ?_)
        refine lv_iload hx hb dX7_promises_40 (lv_at hl 0 rfl) ?_
        refine lv_if_eq (tgt := 54) hx hb dX7_promises_42 (by decide) (fun c_42 => ?_) (fun c_42 => ?_)
        · refine lv_iload hx hb dX7_promises_54 (lv_at hl 0 rfl) ?_
          refine lv_if_eq (tgt := 86) hx hb dX7_promises_56 (by decide) (fun c_56 => ?_) (fun c_56 => ?_)
          · first | skip | skip
            refine lv_aload_n hx hb dX7_promises_86 rfl (lv_at hl 1 rfl) ?_
            refine lv_iload_n hx hb dX7_promises_87 rfl (lv_at hl 2 rfl) ?_
            refine g_callV (As := [.int _]) (rest := []) hC hU hP hS hl.1 (c_X7_remove l N0 D cy _ _ o k L (by first | exact hm | exact mI (mI hm)) (by first | exact hL | exact vI (Or.inl (by omega)) (vI (Or.inl (by omega)) hL)) (by omega) hk) mL_X7_134 iM_X7_remove sL_X7_remove iN_X7 cD_X7_remove ⟨by decide, by decide, rfl⟩ ⟨by decide, by decide⟩ ⟨by decide, by decide⟩ (ci := 7) rfl (by decide) (mK (hm)) rfl (Nat.le_of_ble_eq_true rfl) dX7_promises_88 (fun v S1 H locs hw hP hz hS => ?_)
            obtain ⟨rfl, hS1, hz2⟩ := hw
            replace hS1 := hS1.symm
            subst hS1
            replace hsz := hz2.trans hsz
            refine lv_iconst (v := 0) hx hb dX7_promises_91 (by decide) ?_
            exact g_iret hC hP hS hr hlk (by decide) (by decide) (⟨hsz, by first | exact Or.inl ⟨fun h => by first | exact c_7 h.1 | exact c_17 h.2.1 | exact c_30 h.2.2, rfl, rfl⟩ | (rw [nI_clamp (by omega)]; exact Or.inr (Or.inl ⟨⟨c_7, c_17, c_30⟩, Int32.not_le.mp c_51, rfl, rfl⟩)) | exact absurd rfl c_42 | exact absurd c_42 (by decide) | exact absurd rfl c_56 | exact absurd c_56 (by decide)⟩) dX7_promises_92
          · exact absurd (by decide) c_56
        · exact absurd (by decide) c_42
      · refine lv_iconst (v := 1) hx hb dX7_promises_33 (by decide) ?_
        refine lv_goto (tgt := 38) hx hb dX7_promises_34 (by decide) ?_
        refine lv_istore (lv' := [(5, .int _), (0, .ref _), (1, .int _), (2, .int _), (3, .int _), (4, .int _)]) hx hb dX7_promises_38 hl (by decide) rfl (fun ls hl => ?_)
        refine lv_iload hx hb dX7_promises_40 (lv_at hl 0 rfl) ?_
        refine lv_if_eq (tgt := 54) hx hb dX7_promises_42 (by decide) (fun c_42 => ?_) (fun c_42 => ?_)
        · exact absurd c_42 (by decide)
        · refine lv_aload_n hx hb dX7_promises_45 rfl (lv_at hl 1 rfl) ?_
          refine lv_iload_n hx hb dX7_promises_46 rfl (lv_at hl 3 rfl) ?_
          refine g_callV (As := [.int _]) (rest := []) hC hU hP hS hl.1 (c_X7_countOf l N0 D cy _ _ o i0 hm hi0) mL_X7_174 iM_X7_countOf sL_X7_countOf iN_X7 cD_X7_countOf ⟨by decide, by decide, rfl⟩ ⟨by decide, by decide⟩ ⟨by decide, by decide⟩ (ci := 7) rfl (by decide) (mK (hm)) rfl (Nat.le_of_ble_eq_true rfl) dX7_promises_47 (fun v S1 H locs hw hP hz hS => ?_)
          obtain ⟨rfl, hS1, hz2⟩ := hw
          replace hS1 := hS1.symm
          subst hS1
          replace hsz := hz2.trans hsz
          refine lv_iconst (v := 2) hx hb dX7_promises_50 (by decide) ?_
          refine lv_icmp_ge (tgt := 93) hx hb dX7_promises_51 (by decide) (fun c_51 => ?_) (fun c_51 => ?_)
          · refine lv_aload_n hx hb dX7_promises_93 rfl (lv_at hl 1 rfl) ?_
            refine gt_X7_66 hC hP (mK (hm)) (mR_21 (hm)) dX7_promises_94 ?_
            refine lv_iload_n hx hb dX7_promises_97 rfl (lv_at hl 3 rfl) ?_
            refine g_zald hC hP (mA_21 (hm)) (by rw [mN_21 (hm)]; exact vp_in_nI hi0 (by decide)) dX7_promises_98 ?_
            rw [nI_clamp (by omega)]
            refine lv_if_eq (tgt := 111) hx hb dX7_promises_99 (by decide) (fun c_99 => ?_) (fun c_99 => ?_)
            · refine lv_aload_n hx hb dX7_promises_111 rfl (lv_at hl 1 rfl) ?_
              refine lv_iload_n hx hb dX7_promises_112 rfl (lv_at hl 3 rfl) ?_
              refine lv_iload_n hx hb dX7_promises_113 rfl (lv_at hl 4 rfl) ?_
              refine lv_aload_n hx hb dX7_promises_114 rfl (lv_at hl 1 rfl) ?_
              refine gt_X7_32 hC hP (mK (hm)) (mR_9 (hm)) dX7_promises_115 ?_
              refine lv_iload_n hx hb dX7_promises_118 rfl (lv_at hl 2 rfl) ?_
              refine g_iald hC hP (mA_9 (hm)) (by rw [mN_9 (hm)]; exact vp_in_nI (by omega) (by decide)) dX7_promises_119 ?_
              rw [nI_clamp (by omega), hfar]
              refine g_callV (As := [.int _, .int _, .int _]) (rest := []) hC hU hP hS hl.1 (c_X7_seatToStart l N0 D cy _ _ o i0 far (nI n0) rc hm hi0 hfar2 hrc) mL_X7_177 iM_X7_seatToStart sL_X7_seatToStart iN_X7 cD_X7_seatToStart ⟨by decide, by decide, rfl⟩ ⟨by decide, by decide⟩ ⟨by decide, by decide⟩ (ci := 7) rfl (by decide) (mK (hm)) rfl (Nat.le_of_ble_eq_true rfl) dX7_promises_120 (fun v S1 H locs hw hP hz hS => ?_)
              obtain ⟨rfl, hS1, hz2⟩ := hw
              replace hS1 := hS1.symm
              subst hS1
              replace hsz := hz2.trans hsz
              refine lv_istore (lv' := [(6, .int _), (5, .int _), (0, .ref _), (1, .int _), (2, .int _), (3, .int _), (4, .int _)]) hx hb dX7_promises_123 hl (by decide) rfl (fun ls hl => ?_)
              refine sg_pr0 (sz := sz) (sv := prS S o i0 (nI n0) far rc) (bl := b) (nd := nI n0) (far := far) (rc := rc) hC hU hm hi0 hk hL hL2 ⟨by decide, by decide⟩ ⟨by decide, by decide⟩ hfar hfar2 hrc (fun hX H locs ls hP hsz hS => ?_) (fun hX h4 H locs ls hP hsz hS => ?_) (fun hX h4 H locs ls hP hsz hS => ?_) _ _ _ hP hsz hS ?_
              · exact g_iret hC hP hS hr hlk (by decide) (by decide) (⟨hsz, Or.inr (Or.inr ⟨⟨c_7, c_17, c_30⟩, Int32.not_lt.mpr c_51, _, _, _, rfl, rfl, rfl, Or.inl ⟨hX, rfl, rfl⟩⟩)⟩) dX7_promises_216
              · exact g_iret hC hP hS hr hlk (by decide) (by decide) (⟨hsz, Or.inr (Or.inr ⟨⟨c_7, c_17, c_30⟩, Int32.not_lt.mpr c_51, _, _, _, rfl, rfl, rfl, Or.inr (Or.inl ⟨hX, h4, rfl, rfl⟩)⟩)⟩) dX7_promises_234
              · exact g_iret hC hP hS hr hlk (by decide) (by decide) (⟨hsz, Or.inr (Or.inr ⟨⟨c_7, c_17, c_30⟩, Int32.not_lt.mpr c_51, _, _, _, rfl, rfl, rfl, Or.inr (Or.inr ⟨hX, h4, rfl, rfl⟩)⟩)⟩) dX7_promises_368
              · unfold prS
                first | (rw [if_pos c_99]; exact lv_sub hl [0, 6, 5, 4, 3, 2] rfl) | (rw [if_neg c_99]; exact lv_sub hl [0, 6, 5, 4, 3, 2] rfl)
            · refine lv_aload_n hx hb dX7_promises_102 rfl (lv_at hl 1 rfl) ?_
              refine gt_X7_93 hC hP (mK (hm)) (mR_30 (hm)) dX7_promises_103 ?_
              refine lv_iload_n hx hb dX7_promises_106 rfl (lv_at hl 3 rfl) ?_
              refine g_iald hC hP (mA_30 (hm)) (by rw [mN_30 (hm)]; exact vp_in_nI hi0 (by decide)) dX7_promises_107 ?_
              rw [nI_clamp (by omega)]
              refine lv_goto (tgt := 123) hx hb dX7_promises_108 (by decide) ?_
              refine lv_istore (lv' := [(6, .int _), (5, .int _), (0, .ref _), (1, .int _), (2, .int _), (3, .int _), (4, .int _)]) hx hb dX7_promises_123 hl (by decide) rfl (fun ls hl => ?_)
              refine sg_pr0 (sz := sz) (sv := prS S o i0 (nI n0) far rc) (bl := b) (nd := nI n0) (far := far) (rc := rc) hC hU hm hi0 hk hL hL2 ⟨by decide, by decide⟩ ⟨by decide, by decide⟩ hfar hfar2 hrc (fun hX H locs ls hP hsz hS => ?_) (fun hX h4 H locs ls hP hsz hS => ?_) (fun hX h4 H locs ls hP hsz hS => ?_) _ _ _ hP hsz hS ?_
              · exact g_iret hC hP hS hr hlk (by decide) (by decide) (⟨hsz, Or.inr (Or.inr ⟨⟨c_7, c_17, c_30⟩, Int32.not_lt.mpr c_51, _, _, _, rfl, rfl, rfl, Or.inl ⟨hX, rfl, rfl⟩⟩)⟩) dX7_promises_216
              · exact g_iret hC hP hS hr hlk (by decide) (by decide) (⟨hsz, Or.inr (Or.inr ⟨⟨c_7, c_17, c_30⟩, Int32.not_lt.mpr c_51, _, _, _, rfl, rfl, rfl, Or.inr (Or.inl ⟨hX, h4, rfl, rfl⟩)⟩)⟩) dX7_promises_234
              · exact g_iret hC hP hS hr hlk (by decide) (by decide) (⟨hsz, Or.inr (Or.inr ⟨⟨c_7, c_17, c_30⟩, Int32.not_lt.mpr c_51, _, _, _, rfl, rfl, rfl, Or.inr (Or.inr ⟨hX, h4, rfl, rfl⟩)⟩)⟩) dX7_promises_368
              · unfold prS
                first | (rw [if_pos c_99]; exact lv_sub hl [0, 6, 5, 4, 3, 2] rfl) | (rw [if_neg c_99]; exact lv_sub hl [0, 6, 5, 4, 3, 2] rfl)
          · refine lv_iload hx hb dX7_promises_54 (lv_at hl 0 rfl) ?_
            refine lv_if_eq (tgt := 86) hx hb dX7_promises_56 (by decide) (fun c_56 => ?_) (fun c_56 => ?_)
            · exact absurd c_56 (by decide)
            · refine lv_aload_n hx hb dX7_promises_59 rfl (lv_at hl 1 rfl) ?_
              refine gt_X7_75 hC hP (mK (hm)) (mR_24 (hm)) dX7_promises_60 ?_
              refine lv_iconst (v := 5) hx hb dX7_promises_63 (by decide) ?_
              refine lv_iload_n hx hb dX7_promises_64 rfl (lv_at hl 3 rfl) ?_
              refine lv_imul hx hb dX7_promises_65 ?_
              refine lv_iload_n hx hb dX7_promises_66 rfl (lv_at hl 4 rfl) ?_
              refine lv_iadd hx hb dX7_promises_67 ?_
              rw [m5]
              refine lv_iconst (v := 1) hx hb dX7_promises_68 (by decide) ?_
              refine g_zast hC hP hS (mA_24 (hm)) (by rw [mN_24 (hm)]; exact vp_in_nI (by omega) (by decide)) (nz01 (by decide)) dX7_promises_69 (fun H locs hP hz hS => ?_)
              replace hsz := hz.trans hsz
              rw [nI_clamp (by omega)] at hP
              refine lv_aload_n hx hb dX7_promises_70 rfl (lv_at hl 1 rfl) ?_
              refine gt_X7_78 hC hP (mK (mI (hm))) (mR_25 (mI (hm))) dX7_promises_71 ?_
              refine lv_iconst (v := 5) hx hb dX7_promises_74 (by decide) ?_
              refine lv_iload_n hx hb dX7_promises_75 rfl (lv_at hl 3 rfl) ?_
              refine lv_imul hx hb dX7_promises_76 ?_
              refine lv_iload_n hx hb dX7_promises_77 rfl (lv_at hl 4 rfl) ?_
              refine lv_iadd hx hb dX7_promises_78 ?_
              rw [m5]
              refine lv_aload_n hx hb dX7_promises_79 rfl (lv_at hl 1 rfl) ?_
              refine gt_X7_32 hC hP (mK (mI (hm))) (mR_9 (mI (hm))) dX7_promises_80 ?_
              refine lv_iload_n hx hb dX7_promises_83 rfl (lv_at hl 2 rfl) ?_
              refine g_iald hC hP (mA_9 (mI (hm))) (by rw [mN_9 (mI (hm))]; exact vp_in_nI (by omega) (by decide)) dX7_promises_84 ?_
              rw [nI_clamp (by omega), gI_a (by omega), hfar]
              refine g_iast hC hP hS (mA_25 (mI (hm))) (by rw [mN_25 (mI (hm))]; exact vp_in_nI (by omega) (by decide)) dX7_promises_85 (fun H locs hP hz hS => ?_)
              replace hsz := hz.trans hsz
              first | skip | skip
              refine lv_aload_n hx hb dX7_promises_86 rfl (lv_at hl 1 rfl) ?_
              refine lv_iload_n hx hb dX7_promises_87 rfl (lv_at hl 2 rfl) ?_
              refine g_callV (As := [.int _]) (rest := []) hC hU hP hS hl.1 (c_X7_remove l N0 D cy _ _ o k L (by first | exact hm | exact mI (mI hm)) (by first | exact hL | exact vI (Or.inl (by omega)) (vI (Or.inl (by omega)) hL)) (by omega) hk) mL_X7_134 iM_X7_remove sL_X7_remove iN_X7 cD_X7_remove ⟨by decide, by decide, rfl⟩ ⟨by decide, by decide⟩ ⟨by decide, by decide⟩ (ci := 7) rfl (by decide) (mK (mI (mI (hm)))) rfl (Nat.le_of_ble_eq_true rfl) dX7_promises_88 (fun v S1 H locs hw hP hz hS => ?_)
              obtain ⟨rfl, hS1, hz2⟩ := hw
              replace hS1 := hS1.symm
              subst hS1
              replace hsz := hz2.trans hsz
              refine lv_iconst (v := 0) hx hb dX7_promises_91 (by decide) ?_
              exact g_iret hC hP hS hr hlk (by decide) (by decide) (⟨hsz, by first | exact Or.inl ⟨fun h => by first | exact c_7 h.1 | exact c_17 h.2.1 | exact c_30 h.2.2, rfl, rfl⟩ | (rw [nI_clamp (by omega)]; exact Or.inr (Or.inl ⟨⟨c_7, c_17, c_30⟩, Int32.not_le.mp c_51, rfl, rfl⟩)) | exact absurd rfl c_42 | exact absurd c_42 (by decide) | exact absurd rfl c_56 | exact absurd c_56 (by decide)⟩) dX7_promises_92
