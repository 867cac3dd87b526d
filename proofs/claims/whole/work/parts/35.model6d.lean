def mStory (S : gS) (o t : Nat) (n st b i tm : Int32) (mk : Int64) : gS := sI (sJ (sI (sI (sI (sI (sI S (o + 9) t n) (o + 10) t st) (o + 11) t b) (o + 12) t i) (o + 13) t tm) (o + 14) t mk) o 10 (nI (t + 1))
theorem mT {S : gS} {o t o' : Nat} {n st b i tm : Int32} {mk : Int64} (h : mOK S o') : mOK (mStory S o t n st b i tm mk) o' := h
theorem gI_mRem {S : gS} {o k L b j : Nat} (h : b = o ∧ j ≠ 1 ∨ o + 8 < b) : gI (mRem S o k L) b j = gI S b j := by
  unfold mRem
  rw [gI_mSh, if_neg (by omega)]
  rcases h with ⟨h1, h2⟩ | h
  · exact gI_k h2
  · exact gI_a (by omega)
theorem gI_mRem1 {S : gS} {o k L : Nat} : gI (mRem S o k L) o 1 = nI (L - 1) := by
  unfold mRem
  rw [gI_mSh, if_neg (by omega)]; exact gI_s
theorem mD {S : gS} {o k L o' : Nat} (h : mOK S o') : mOK (mRem S o k L) o' := h
set_option maxRecDepth 100000 in
set_option maxHeartbeats 4000000 in
theorem c_X7_accepts (l : Launch) (N0 : Nat) (D : va_G) (cy : Nat → ClassId) (S : gS) (sz : Nat) (o L k n t : Nat) (i b : Int32) (hm : mOK S o) (hn : n < 5) (hk : k < L) (hL : gI S o 1 = nI L) (hL2 : L < 100) (ht : gI S o 10 = nI t) (ht2 : t < 600) : gM l yX7_accepts cX7_accepts 9 (some FieldType.int) { frames := 2, cells := 0, slots := 0, locals := 80 } N0 D cy [.ref o, .int (nI k), .int i, .int (nI n), .int b] S sz (fun v S1 z => v = some (.int 1) ∧ S1 = (if b < gI S (o + 16) n then mSend (mRem S o k L) o (L - 1) 4 i (nI n) b (gI S (o + 16) n) else mSend (mStory (sI (mRem S o k L) (o + 16) n b) o t (nI n) (gI S (o + 5) k) b i (gI S (o + 6) k) (gJ S (o + 7) k)) o (L - 1) 3 i (nI n) b 0) ∧ z = sz) := by
  refine g_body (by decide) rfl (Nat.le_of_ble_eq_true rfl) ?_
  intro p e s m args below meth c ls hC hU hr hlk hnm hsz hP hS hl
  have hx := hC.1
  have hb := hC.2.1
  refine lv_aload_n hx hb dX7_accepts_0 rfl (lv_at hl 0 rfl) ?_
  refine gt_X7_22 hC hP (mK (hm)) (mR_6 (hm)) dX7_accepts_1 ?_
  refine lv_iload_n hx hb dX7_accepts_4 rfl (lv_at hl 1 rfl) ?_
  refine g_iald hC hP (mA_6 (hm)) (by rw [mN_6 (hm)]; exact vp_in_nI (by omega) (by decide)) dX7_accepts_5 ?_
  rw [nI_clamp (by omega)]
  refine lv_istore (lv' := [(5, .int _), (0, .ref _), (1, .int _), (2, .int _), (3, .int _), (4, .int _)]) hx hb dX7_accepts_6 hl (by decide) rfl (fun ls hl => ?_)
  refine lv_aload_n hx hb dX7_accepts_8 rfl (lv_at hl 1 rfl) ?_
  refine gt_X7_25 hC hP (mK (hm)) (mR_7 (hm)) dX7_accepts_9 ?_
  refine lv_iload_n hx hb dX7_accepts_12 rfl (lv_at hl 2 rfl) ?_
  refine g_iald hC hP (mA_7 (hm)) (by rw [mN_7 (hm)]; exact vp_in_nI (by omega) (by decide)) dX7_accepts_13 ?_
  rw [nI_clamp (by omega)]
  refine lv_istore (lv' := [(6, .int _), (5, .int _), (0, .ref _), (1, .int _), (2, .int _), (3, .int _), (4, .int _)]) hx hb dX7_accepts_14 hl (by decide) rfl (fun ls hl => ?_)
  refine lv_aload_n hx hb dX7_accepts_16 rfl (lv_at hl 2 rfl) ?_
  refine gt_X7_28 hC hP (mK (hm)) (mR_8 (hm)) dX7_accepts_17 ?_
  refine lv_iload_n hx hb dX7_accepts_20 rfl (lv_at hl 3 rfl) ?_
  refine g_lald hC hP (mA_8 (hm)) (by rw [mN_8 (hm)]; exact vp_in_nI (by omega) (by decide)) dX7_accepts_21 ?_
  rw [nI_clamp (by omega)]
  refine lv_lstore (lv' := [(7, .long _), (6, .int _), (5, .int _), (0, .ref _), (1, .int _), (2, .int _), (3, .int _), (4, .int _)]) hx hb dX7_accepts_22 hl (by decide) rfl (fun ls hl => ?_)
  refine lv_aload_n hx hb dX7_accepts_24 rfl (lv_at hl 3 rfl) ?_
  refine lv_iload_n hx hb dX7_accepts_25 rfl (lv_at hl 4 rfl) ?_
  refine g_callV (As := [.int _]) (rest := []) hC hU hP hS hl.1 (c_X7_remove l N0 D cy _ _ o k L hm hL hL2 hk) mL_X7_134 iM_X7_remove sL_X7_remove iN_X7 cD_X7_remove ⟨by decide, by decide, rfl⟩ ⟨by decide, by decide⟩ ⟨by decide, by decide⟩ (ci := 7) rfl (by decide) (mK (hm)) rfl (Nat.le_of_ble_eq_true rfl) dX7_accepts_26 (fun v S1 H locs hw hP hz hS => ?_)
  obtain ⟨rfl, hS1, hz2⟩ := hw
  replace hS1 := hS1.symm
  subst hS1
  replace hsz := hz2.trans hsz
  refine lv_iload hx hb dX7_accepts_29 (lv_at hl 7 rfl) ?_
  refine lv_aload_n hx hb dX7_accepts_31 rfl (lv_at hl 3 rfl) ?_
  refine gt_X7_57 hC hP (mK (mD (hm))) (mR_18 (mD (hm))) dX7_accepts_32 ?_
  refine lv_iload_n hx hb dX7_accepts_35 rfl (lv_at hl 6 rfl) ?_
  refine g_iald hC hP (mA_18 (mD (hm))) (by rw [mN_18 (mD (hm))]; exact vp_in_nI hn (by decide)) dX7_accepts_36 ?_
  rw [nI_clamp (by omega), gI_mRem (Or.inr (by omega))]
  refine lv_icmp_ge (tgt := 56) hx hb dX7_accepts_37 (by decide) (fun c_37 => ?_) (fun c_37 => ?_)
  · refine lv_aload_n hx hb dX7_accepts_56 rfl (lv_at hl 3 rfl) ?_
    refine gt_X7_57 hC hP (mK (mD (hm))) (mR_18 (mD (hm))) dX7_accepts_57 ?_
    refine lv_iload_n hx hb dX7_accepts_60 rfl (lv_at hl 6 rfl) ?_
    refine lv_iload hx hb dX7_accepts_61 (lv_at hl 7 rfl) ?_
    refine g_iast hC hP hS (mA_18 (mD (hm))) (by rw [mN_18 (mD (hm))]; exact vp_in_nI hn (by decide)) dX7_accepts_63 (fun H locs hP hz hS => ?_)
    replace hsz := hz.trans hsz
    rw [nI_clamp (by omega)] at hP
    refine lv_aload_n hx hb dX7_accepts_64 rfl (lv_at hl 3 rfl) ?_
    refine gt_X7_35 hC hP (mK (mI (mD (hm)))) (mR_11 (mI (mD (hm)))) dX7_accepts_65 ?_
    refine lv_aload_n hx hb dX7_accepts_68 rfl (lv_at hl 3 rfl) ?_
    refine gv_X7_171 hC hP (mK (mI (mD (hm)))) (vI (by first | exact Or.inr (by decide) | exact Or.inl (by omega)) ((gI_mRem (Or.inl ⟨rfl, by decide⟩)).trans ht)) dX7_accepts_69 ?_
    refine lv_iload_n hx hb dX7_accepts_72 rfl (lv_at hl 6 rfl) ?_
    refine g_iast hC hP hS (mA_11 (mI (mD (hm)))) (by rw [mN_11 (mI (mD (hm)))]; exact vp_in_nI ht2 (by decide)) dX7_accepts_73 (fun H locs hP hz hS => ?_)
    replace hsz := hz.trans hsz
    rw [nI_clamp (by omega)] at hP
    refine lv_aload_n hx hb dX7_accepts_74 rfl (lv_at hl 3 rfl) ?_
    refine gt_X7_38 hC hP (mK (mI (mI (mD (hm))))) (mR_12 (mI (mI (mD (hm))))) dX7_accepts_75 ?_
    refine lv_aload_n hx hb dX7_accepts_78 rfl (lv_at hl 3 rfl) ?_
    refine gv_X7_171 hC hP (mK (mI (mI (mD (hm))))) (vI (by first | exact Or.inr (by decide) | exact Or.inl (by omega)) (vI (by first | exact Or.inr (by decide) | exact Or.inl (by omega)) ((gI_mRem (Or.inl ⟨rfl, by decide⟩)).trans ht))) dX7_accepts_79 ?_
    refine lv_iload hx hb dX7_accepts_82 (lv_at hl 2 rfl) ?_
    refine g_iast hC hP hS (mA_12 (mI (mI (mD (hm))))) (by rw [mN_12 (mI (mI (mD (hm))))]; exact vp_in_nI ht2 (by decide)) dX7_accepts_84 (fun H locs hP hz hS => ?_)
    replace hsz := hz.trans hsz
    rw [nI_clamp (by omega)] at hP
    refine lv_aload_n hx hb dX7_accepts_85 rfl (lv_at hl 3 rfl) ?_
    refine gt_X7_41 hC hP (mK (mI (mI (mI (mD (hm)))))) (mR_13 (mI (mI (mI (mD (hm)))))) dX7_accepts_86 ?_
    refine lv_aload_n hx hb dX7_accepts_89 rfl (lv_at hl 3 rfl) ?_
    refine gv_X7_171 hC hP (mK (mI (mI (mI (mD (hm)))))) (vI (by first | exact Or.inr (by decide) | exact Or.inl (by omega)) (vI (by first | exact Or.inr (by decide) | exact Or.inl (by omega)) (vI (by first | exact Or.inr (by decide) | exact Or.inl (by omega)) ((gI_mRem (Or.inl ⟨rfl, by decide⟩)).trans ht)))) dX7_accepts_90 ?_
    refine lv_iload hx hb dX7_accepts_93 (lv_at hl 7 rfl) ?_
    refine g_iast hC hP hS (mA_13 (mI (mI (mI (mD (hm)))))) (by rw [mN_13 (mI (mI (mI (mD (hm)))))]; exact vp_in_nI ht2 (by decide)) dX7_accepts_95 (fun H locs hP hz hS => ?_)
    replace hsz := hz.trans hsz
    rw [nI_clamp (by omega)] at hP
    refine lv_aload_n hx hb dX7_accepts_96 rfl (lv_at hl 3 rfl) ?_
    refine gt_X7_44 hC hP (mK (mI (mI (mI (mI (mD (hm))))))) (mR_14 (mI (mI (mI (mI (mD (hm))))))) dX7_accepts_97 ?_
    refine lv_aload_n hx hb dX7_accepts_100 rfl (lv_at hl 3 rfl) ?_
    refine gv_X7_171 hC hP (mK (mI (mI (mI (mI (mD (hm))))))) (vI (by first | exact Or.inr (by decide) | exact Or.inl (by omega)) (vI (by first | exact Or.inr (by decide) | exact Or.inl (by omega)) (vI (by first | exact Or.inr (by decide) | exact Or.inl (by omega)) (vI (by first | exact Or.inr (by decide) | exact Or.inl (by omega)) ((gI_mRem (Or.inl ⟨rfl, by decide⟩)).trans ht))))) dX7_accepts_101 ?_
    refine lv_iload_n hx hb dX7_accepts_104 rfl (lv_at hl 5 rfl) ?_
    refine g_iast hC hP hS (mA_14 (mI (mI (mI (mI (mD (hm))))))) (by rw [mN_14 (mI (mI (mI (mI (mD (hm))))))]; exact vp_in_nI ht2 (by decide)) dX7_accepts_105 (fun H locs hP hz hS => ?_)
    replace hsz := hz.trans hsz
    rw [nI_clamp (by omega)] at hP
    refine lv_aload_n hx hb dX7_accepts_106 rfl (lv_at hl 3 rfl) ?_
    refine gt_X7_47 hC hP (mK (mI (mI (mI (mI (mI (mD (hm)))))))) (mR_15 (mI (mI (mI (mI (mI (mD (hm)))))))) dX7_accepts_107 ?_
    refine lv_aload_n hx hb dX7_accepts_110 rfl (lv_at hl 3 rfl) ?_
    refine gv_X7_171 hC hP (mK (mI (mI (mI (mI (mI (mD (hm)))))))) (vI (by first | exact Or.inr (by decide) | exact Or.inl (by omega)) (vI (by first | exact Or.inr (by decide) | exact Or.inl (by omega)) (vI (by first | exact Or.inr (by decide) | exact Or.inl (by omega)) (vI (by first | exact Or.inr (by decide) | exact Or.inl (by omega)) (vI (by first | exact Or.inr (by decide) | exact Or.inl (by omega)) ((gI_mRem (Or.inl ⟨rfl, by decide⟩)).trans ht)))))) dX7_accepts_111 ?_
    refine lv_iload hx hb dX7_accepts_114 (lv_at hl 1 rfl) ?_
    refine g_iast hC hP hS (mA_15 (mI (mI (mI (mI (mI (mD (hm)))))))) (by rw [mN_15 (mI (mI (mI (mI (mI (mD (hm)))))))]; exact vp_in_nI ht2 (by decide)) dX7_accepts_116 (fun H locs hP hz hS => ?_)
    replace hsz := hz.trans hsz
    rw [nI_clamp (by omega)] at hP
    refine lv_aload_n hx hb dX7_accepts_117 rfl (lv_at hl 3 rfl) ?_
    refine gt_X7_50 hC hP (mK (mI (mI (mI (mI (mI (mI (mD (hm))))))))) (mR_16 (mI (mI (mI (mI (mI (mI (mD (hm))))))))) dX7_accepts_118 ?_
    refine lv_aload_n hx hb dX7_accepts_121 rfl (lv_at hl 3 rfl) ?_
    refine gv_X7_171 hC hP (mK (mI (mI (mI (mI (mI (mI (mD (hm))))))))) (vI (by first | exact Or.inr (by decide) | exact Or.inl (by omega)) (vI (by first | exact Or.inr (by decide) | exact Or.inl (by omega)) (vI (by first | exact Or.inr (by decide) | exact Or.inl (by omega)) (vI (by first | exact Or.inr (by decide) | exact Or.inl (by omega)) (vI (by first | exact Or.inr (by decide) | exact Or.inl (by omega)) (vI (by first | exact Or.inr (by decide) | exact Or.inl (by omega)) ((gI_mRem (Or.inl ⟨rfl, by decide⟩)).trans ht))))))) dX7_accepts_122 ?_
    refine lv_lload hx hb dX7_accepts_125 (lv_at hl 0 rfl) ?_
    refine g_last hC hP hS (mA_16 (mI (mI (mI (mI (mI (mI (mD (hm))))))))) (by rw [mN_16 (mI (mI (mI (mI (mI (mI (mD (hm))))))))]; exact vp_in_nI ht2 (by decide)) dX7_accepts_127 (fun H locs hP hz hS => ?_)
    replace hsz := hz.trans hsz
    rw [nI_clamp (by omega)] at hP
    refine lv_aload_n hx hb dX7_accepts_128 rfl (lv_at hl 3 rfl) ?_
    refine lv_dup hx hb dX7_accepts_129 rfl ?_
    refine gv_X7_171 hC hP (mK (mJ (mI (mI (mI (mI (mI (mI (mD (hm)))))))))) (vJ (vI (by first | exact Or.inr (by decide) | exact Or.inl (by omega)) (vI (by first | exact Or.inr (by decide) | exact Or.inl (by omega)) (vI (by first | exact Or.inr (by decide) | exact Or.inl (by omega)) (vI (by first | exact Or.inr (by decide) | exact Or.inl (by omega)) (vI (by first | exact Or.inr (by decide) | exact Or.inl (by omega)) (vI (by first | exact Or.inr (by decide) | exact Or.inl (by omega)) ((gI_mRem (Or.inl ⟨rfl, by decide⟩)).trans ht)))))))) dX7_accepts_130 ?_
    refine lv_iconst (v := 1) hx hb dX7_accepts_133 (by decide) ?_
    refine lv_iadd hx hb dX7_accepts_134 ?_
    refine pt_X7_171 hC hP hS (mK (mJ (mI (mI (mI (mI (mI (mI (mD (hm)))))))))) dX7_accepts_135 (fun H locs hP hz hS => ?_)
    replace hsz := hz.trans hsz
    rw [← nI_succ] at hP
    refine lv_aload_n hx hb dX7_accepts_138 rfl (lv_at hl 3 rfl) ?_
    refine lv_iconst (v := 3) hx hb dX7_accepts_139 (by decide) ?_
    refine lv_iload_n hx hb dX7_accepts_140 rfl (lv_at hl 5 rfl) ?_
    refine lv_iload_n hx hb dX7_accepts_141 rfl (lv_at hl 6 rfl) ?_
    refine lv_iload hx hb dX7_accepts_142 (lv_at hl 7 rfl) ?_
    refine lv_iconst (v := 0) hx hb dX7_accepts_144 (by decide) ?_
    refine g_callV (As := [.int _, .int _, .int _, .int _, .int _]) (rest := []) hC hU hP hS hl.1 (c_X7_answer l N0 D cy _ _ o (L - 1) _ _ _ _ _ (mT (mI (mD hm))) (vI (Or.inr (by decide)) (vJ (vI (Or.inl (by omega)) (vI (Or.inl (by omega)) (vI (Or.inl (by omega)) (vI (Or.inl (by omega)) (vI (Or.inl (by omega)) (vI (Or.inl (by omega)) gI_mRem1)))))))) (by omega)) mL_X7_167 iM_X7_answer sL_X7_answer iN_X7 cD_X7_answer ⟨by decide, by decide, rfl⟩ ⟨by decide, by decide⟩ ⟨by decide, by decide⟩ (ci := 7) rfl (by decide) (mK (mI (mJ (mI (mI (mI (mI (mI (mI (mD (hm))))))))))) rfl (Nat.le_of_ble_eq_true rfl) dX7_accepts_145 (fun v S1 H locs hw hP hz hS => ?_)
    obtain ⟨rfl, hS1, hz2⟩ := hw
    replace hS1 := hS1.symm
    subst hS1
    replace hsz := hz2.trans hsz
    exact g_iret hC hP hS hr hlk (by decide) (by decide) (⟨rfl, by rw [if_neg (Int32.not_lt.mpr c_37)]; rfl, hsz⟩) dX7_accepts_148
  · refine lv_aload_n hx hb dX7_accepts_40 rfl (lv_at hl 3 rfl) ?_
    refine lv_iconst (v := 4) hx hb dX7_accepts_41 (by decide) ?_
    refine lv_iload_n hx hb dX7_accepts_42 rfl (lv_at hl 5 rfl) ?_
    refine lv_iload_n hx hb dX7_accepts_43 rfl (lv_at hl 6 rfl) ?_
    refine lv_iload hx hb dX7_accepts_44 (lv_at hl 7 rfl) ?_
    refine lv_aload_n hx hb dX7_accepts_46 rfl (lv_at hl 3 rfl) ?_
    refine gt_X7_57 hC hP (mK (mD (hm))) (mR_18 (mD (hm))) dX7_accepts_47 ?_
    refine lv_iload_n hx hb dX7_accepts_50 rfl (lv_at hl 6 rfl) ?_
    refine g_iald hC hP (mA_18 (mD (hm))) (by rw [mN_18 (mD (hm))]; exact vp_in_nI hn (by decide)) dX7_accepts_51 ?_
    rw [nI_clamp (by omega), gI_mRem (Or.inr (by omega))]
    refine g_callV (As := [.int _, .int _, .int _, .int _, .int _]) (rest := []) hC hU hP hS hl.1 (c_X7_answer l N0 D cy _ _ o (L - 1) _ _ _ _ _ (mD hm) gI_mRem1 (by omega)) mL_X7_167 iM_X7_answer sL_X7_answer iN_X7 cD_X7_answer ⟨by decide, by decide, rfl⟩ ⟨by decide, by decide⟩ ⟨by decide, by decide⟩ (ci := 7) rfl (by decide) (mK (mD (hm))) rfl (Nat.le_of_ble_eq_true rfl) dX7_accepts_52 (fun v S1 H locs hw hP hz hS => ?_)
    obtain ⟨rfl, hS1, hz2⟩ := hw
    replace hS1 := hS1.symm
    subst hS1
    replace hsz := hz2.trans hsz
    exact g_iret hC hP hS hr hlk (by decide) (by decide) (⟨rfl, by rw [if_pos (Int32.not_le.mp c_37)], hsz⟩) dX7_accepts_55

