theorem icV_none {S : gS} {a : Nat} {w : Int32} (hh : gR S a 11 = none) (h0 : w ≠ 0) (h1 : w ≠ 1) (h6 : w ≠ 6) (h7 : w ≠ 7) : icV S a w = -1 := by
  unfold icV
  rw [if_neg h0, if_neg h1, if_neg h6, if_neg h7, hh]
theorem icV_some {S : gS} {a h r0 : Nat} {w : Int32} (hh : gR S a 11 = some h) (hr : gR S h 2 = some r0) (h0 : w ≠ 0) (h1 : w ≠ 1) (h6 : w ≠ 6) (h7 : w ≠ 7) : icV S a w = thV S a h r0 w := by
  unfold icV
  rw [if_neg h0, if_neg h1, if_neg h6, if_neg h7, hh]
  show thV S a h ((gR S h 2).getD 0) w = _
  rw [hr]
  rfl
set_option maxRecDepth 100000 in
set_option maxHeartbeats 4000000 in
theorem c_X6_issuer0 (l : Launch) (hls : l.stackTraces = false) (N0 : Nat) (D : va_G) (cy : Nat → ClassId) (S : gS) (sz : Nat) (x is : Nat) (f : Nat → Nat) (hxk : gK S x = 7) (his : gR S x 0 = some is) (hisk : gK S is = 12) (hisn : gn S is = 8) (hf : ∀ k, k < 8 → gR S is k = some (f k) ∧ gK S (f k) = 2) (p0 w : Int32) (hh : ∀ k, k < 8 → p0 = nI k → gR S (f k) 11 = none) : gMX l yX6_issuer cX6_issuer 4 (some FieldType.long) { frames := 6, cells := 1, slots := 6, locals := 90 } N0 D cy [.ref x, .int p0, .int w] S sz (fun v S1 z => z = sz ∧ S1 = S ∧ ∃ k, k < 8 ∧ p0 = nI k ∧ (0 ≤ w ∧ w < 8) ∧ v = some (.long (icV S (f k) w))) (fun E S1 => S1 = S ∧ ((E = exO ∧ (¬ (0 ≤ p0 ∧ p0 < 8) ∨ ¬ (0 ≤ w ∧ w < 8))))) := by
  refine bodyX (by decide) rfl (Nat.le_of_ble_eq_true rfl) ?_
  intro p e s m args below meth c ls hC hU hZ hne hr hlk hnm hsz hP hS hl
  have hx := hC.1
  have hb := hC.2.1
  refine lv_iload_n hx hb dX6_issuer_0 rfl (lv_at hl 1 rfl) ?_
  refine lv_bipush (v := 8) hx hb dX6_issuer_1 (by decide) ?_
  refine g_callS (As := [.int _, .int _]) (rest := []) hC hU hP hS hl.1 (c_X6_isWithin l N0 D cy _ _ _ _) mL_X6_43 sT_X6_isWithin iN_X6 cD_X6_isWithin ⟨by decide, by decide, rfl⟩ ⟨by decide, by decide⟩ ⟨by decide, by decide⟩ rfl (Nat.le_of_ble_eq_true rfl) dX6_issuer_3 (fun v S1 H locs hw hP hz hS => ?_)
  obtain ⟨rfl, hS1, hz2⟩ := hw
  replace hS1 := hS1.symm
  subst hS1
  replace hsz := hz2.trans hsz
  refine lv_if_eq (tgt := 18) hx hb dX6_issuer_6 (by decide) (fun c_6 => ?_) (fun c_6 => ?_)
  · exact g_thrO (is := 156) (text := "no such issuer, or what") hC hls hZ hne hlk hP hS hl.1 (by decide) dX6_issuer_18 dX6_issuer_21 dX6_issuer_22 dX6_issuer_24 dX6_issuer_27 ⟨by decide, by decide⟩ ⟨by decide, by decide⟩ ⟨by decide, by decide⟩ (⟨rfl, rfl, by first | exact Or.inl (th0 c_6) | exact Or.inr (th0 c_15)⟩)
  · refine lv_iload_n hx hb dX6_issuer_9 rfl (lv_at hl 2 rfl) ?_
    refine lv_bipush (v := 8) hx hb dX6_issuer_10 (by decide) ?_
    refine g_callS (As := [.int _, .int _]) (rest := []) hC hU hP hS hl.1 (c_X6_isWithin l N0 D cy _ _ _ _) mL_X6_43 sT_X6_isWithin iN_X6 cD_X6_isWithin ⟨by decide, by decide, rfl⟩ ⟨by decide, by decide⟩ ⟨by decide, by decide⟩ rfl (Nat.le_of_ble_eq_true rfl) dX6_issuer_12 (fun v S1 H locs hw hP hz hS => ?_)
    obtain ⟨rfl, hS1, hz2⟩ := hw
    replace hS1 := hS1.symm
    subst hS1
    replace hsz := hz2.trans hsz
    refine lv_if_ne (tgt := 28) hx hb dX6_issuer_15 (by decide) (fun c_15 => ?_) (fun c_15 => ?_)
    · obtain ⟨k, hk, rfl⟩ := isI_nat (th1 c_6)
      refine lv_aload_n hx hb dX6_issuer_28 rfl (lv_at hl 0 rfl) ?_
      refine gt_X6_11 hC hP (hxk) (his) dX6_issuer_29 ?_
      refine lv_iload_n hx hb dX6_issuer_32 rfl (lv_at hl 1 rfl) ?_
      refine g_aald hC hP (j := 0) (by decide) (hisk) (by rw [hisn]; exact vp_in_nI hk (by decide)) dX6_issuer_33 ?_
      refine g_rf (by rw [nI_clamp (by omega)]; exact (hf k hk).1) ?_
      refine lv_astore_n (lv' := [(3, .ref _), (0, .ref _), (1, .int _), (2, .int _)]) hx hb dX6_issuer_34 rfl hl (by decide) rfl (fun ls hl => ?_)
      refine lv_iload_n hx hb dX6_issuer_35 rfl (lv_at hl 3 rfl) ?_
      refine g_ts (dt := 114) hC dX6_issuer_36 (by decide) (by decide) (fun k_36 of_36 hk_36 c_36 => ?_) (fun c_36 => ?_)
      · match k_36, hk_36 with
        | 0, hk_36 =>
          have e9 : of_36 = 48 := by simpa using hk_36.symm
          subst e9
          replace c_36 := ts_lit (v := 0) (by decide) c_36
          refine ⟨84, by decide, ?_⟩
          refine lv_aload_n hx hb dX6_issuer_84 rfl (lv_at hl 0 rfl) ?_
          refine g_callV (As := []) (rest := []) hC hU hP hS hl.1 (c_X1_isReady l N0 D cy _ _ (f k) (hf k hk).2) mL_X6_65 iM_X1_isReady sL_X1_isReady iN_X1 cD_X1_isReady ⟨by decide, by decide, rfl⟩ ⟨by decide, by decide⟩ ⟨by decide, by decide⟩ (ci := 1) rfl (by decide) ((hf k hk).2) rfl (Nat.le_of_ble_eq_true rfl) dX6_issuer_85 (fun v S1 H locs hw hP hz hS => ?_)
          obtain ⟨rfl, hS1, hz2⟩ := hw
          replace hS1 := hS1.symm
          subst hS1
          replace hsz := hz2.trans hsz
          refine lv_if_eq (tgt := 95) hx hb dX6_issuer_88 (by decide) (fun c_88 => ?_) (fun c_88 => ?_)
          · refine lv_lconst (v := 0) hx hb dX6_issuer_95 rfl ?_
            exact vx_ret (g_lret hC hP hS hr hlk (by decide) (by decide) (⟨hsz, rfl, k, hk, rfl, th1 c_15, by subst c_36; unfold icV; rw [if_pos rfl]; first | rw [if_pos (rd0 c_88)] | rw [if_neg (rd1 c_88)]⟩) dX6_issuer_96)
          · refine lv_lconst (v := 1) hx hb dX6_issuer_91 rfl ?_
            refine lv_goto (tgt := 96) hx hb dX6_issuer_92 (by decide) ?_
            exact vx_ret (g_lret hC hP hS hr hlk (by decide) (by decide) (⟨hsz, rfl, k, hk, rfl, th1 c_15, by subst c_36; unfold icV; rw [if_pos rfl]; first | rw [if_pos (rd0 c_88)] | rw [if_neg (rd1 c_88)]⟩) dX6_issuer_96)
        | 1, hk_36 =>
          have e9 : of_36 = 61 := by simpa using hk_36.symm
          subst e9
          replace c_36 := ts_lit (v := 1) (by decide) c_36
          refine ⟨97, by decide, ?_⟩
          refine lv_aload_n hx hb dX6_issuer_97 rfl (lv_at hl 0 rfl) ?_
          refine gt_X6_69 hC hP ((hf k hk).2) dX6_issuer_98 ?_
          refine lv_i2l hx hb dX6_issuer_101 rfl ?_
          exact vx_ret (g_lret hC hP hS hr hlk (by decide) (by decide) (⟨hsz, rfl, k, hk, rfl, th1 c_15, by subst c_36; rfl⟩) dX6_issuer_102)
        | 2, hk_36 =>
          have e9 : of_36 = 78 := by simpa using hk_36.symm
          subst e9
          replace c_36 := ts_lit (v := 2) (by decide) c_36
          refine ⟨114, by decide, ?_⟩
          refine lv_aload_n hx hb dX6_issuer_114 rfl (lv_at hl 0 rfl) ?_
          refine lv_iload_n hx hb dX6_issuer_115 rfl (lv_at hl 3 rfl) ?_
          refine g_callV (As := [.int _]) (rest := []) hC hU hP hS hl.1 (c_X1_tellHeld0 l N0 D cy _ _ (f k) w (hf k hk).2 (hh k hk rfl)) mL_X6_164 iM_X1_tellHeld sL_X1_tellHeld iN_X1 cD_X1_tellHeld ⟨by decide, by decide, rfl⟩ ⟨by decide, by decide⟩ ⟨by decide, by decide⟩ (ci := 1) rfl (by decide) ((hf k hk).2) rfl (Nat.le_of_ble_eq_true rfl) dX6_issuer_116 (fun v S1 H locs hw hP hz hS => ?_)
          obtain ⟨rfl, hS1, hz2⟩ := hw
          replace hS1 := hS1.symm
          subst hS1
          replace hsz := hz2.trans hsz
          exact vx_ret (g_lret hC hP hS hr hlk (by decide) (by decide) (⟨hsz, rfl, k, hk, rfl, th1 c_15, by first | (subst c_36; rw [icV_none (hh k hk rfl) (by decide) (by decide) (by decide) (by decide)]) | rw [icV_none (hh k hk rfl) (fun h9 => by subst h9; exact absurd c_36 (by decide)) (fun h9 => by subst h9; exact absurd c_36 (by decide)) (fun h9 => by subst h9; exact absurd c_36 (by decide)) (fun h9 => by subst h9; exact absurd c_36 (by decide))]⟩) dX6_issuer_119)
        | 3, hk_36 =>
          have e9 : of_36 = 78 := by simpa using hk_36.symm
          subst e9
          replace c_36 := ts_lit (v := 3) (by decide) c_36
          refine ⟨114, by decide, ?_⟩
          refine lv_aload_n hx hb dX6_issuer_114 rfl (lv_at hl 0 rfl) ?_
          refine lv_iload_n hx hb dX6_issuer_115 rfl (lv_at hl 3 rfl) ?_
          refine g_callV (As := [.int _]) (rest := []) hC hU hP hS hl.1 (c_X1_tellHeld0 l N0 D cy _ _ (f k) w (hf k hk).2 (hh k hk rfl)) mL_X6_164 iM_X1_tellHeld sL_X1_tellHeld iN_X1 cD_X1_tellHeld ⟨by decide, by decide, rfl⟩ ⟨by decide, by decide⟩ ⟨by decide, by decide⟩ (ci := 1) rfl (by decide) ((hf k hk).2) rfl (Nat.le_of_ble_eq_true rfl) dX6_issuer_116 (fun v S1 H locs hw hP hz hS => ?_)
          obtain ⟨rfl, hS1, hz2⟩ := hw
          replace hS1 := hS1.symm
          subst hS1
          replace hsz := hz2.trans hsz
          exact vx_ret (g_lret hC hP hS hr hlk (by decide) (by decide) (⟨hsz, rfl, k, hk, rfl, th1 c_15, by first | (subst c_36; rw [icV_none (hh k hk rfl) (by decide) (by decide) (by decide) (by decide)]) | rw [icV_none (hh k hk rfl) (fun h9 => by subst h9; exact absurd c_36 (by decide)) (fun h9 => by subst h9; exact absurd c_36 (by decide)) (fun h9 => by subst h9; exact absurd c_36 (by decide)) (fun h9 => by subst h9; exact absurd c_36 (by decide))]⟩) dX6_issuer_119)
        | 4, hk_36 =>
          have e9 : of_36 = 78 := by simpa using hk_36.symm
          subst e9
          replace c_36 := ts_lit (v := 4) (by decide) c_36
          refine ⟨114, by decide, ?_⟩
          refine lv_aload_n hx hb dX6_issuer_114 rfl (lv_at hl 0 rfl) ?_
          refine lv_iload_n hx hb dX6_issuer_115 rfl (lv_at hl 3 rfl) ?_
          refine g_callV (As := [.int _]) (rest := []) hC hU hP hS hl.1 (c_X1_tellHeld0 l N0 D cy _ _ (f k) w (hf k hk).2 (hh k hk rfl)) mL_X6_164 iM_X1_tellHeld sL_X1_tellHeld iN_X1 cD_X1_tellHeld ⟨by decide, by decide, rfl⟩ ⟨by decide, by decide⟩ ⟨by decide, by decide⟩ (ci := 1) rfl (by decide) ((hf k hk).2) rfl (Nat.le_of_ble_eq_true rfl) dX6_issuer_116 (fun v S1 H locs hw hP hz hS => ?_)
          obtain ⟨rfl, hS1, hz2⟩ := hw
          replace hS1 := hS1.symm
          subst hS1
          replace hsz := hz2.trans hsz
          exact vx_ret (g_lret hC hP hS hr hlk (by decide) (by decide) (⟨hsz, rfl, k, hk, rfl, th1 c_15, by first | (subst c_36; rw [icV_none (hh k hk rfl) (by decide) (by decide) (by decide) (by decide)]) | rw [icV_none (hh k hk rfl) (fun h9 => by subst h9; exact absurd c_36 (by decide)) (fun h9 => by subst h9; exact absurd c_36 (by decide)) (fun h9 => by subst h9; exact absurd c_36 (by decide)) (fun h9 => by subst h9; exact absurd c_36 (by decide))]⟩) dX6_issuer_119)
        | 5, hk_36 =>
          have e9 : of_36 = 78 := by simpa using hk_36.symm
          subst e9
          replace c_36 := ts_lit (v := 5) (by decide) c_36
          refine ⟨114, by decide, ?_⟩
          refine lv_aload_n hx hb dX6_issuer_114 rfl (lv_at hl 0 rfl) ?_
          refine lv_iload_n hx hb dX6_issuer_115 rfl (lv_at hl 3 rfl) ?_
          refine g_callV (As := [.int _]) (rest := []) hC hU hP hS hl.1 (c_X1_tellHeld0 l N0 D cy _ _ (f k) w (hf k hk).2 (hh k hk rfl)) mL_X6_164 iM_X1_tellHeld sL_X1_tellHeld iN_X1 cD_X1_tellHeld ⟨by decide, by decide, rfl⟩ ⟨by decide, by decide⟩ ⟨by decide, by decide⟩ (ci := 1) rfl (by decide) ((hf k hk).2) rfl (Nat.le_of_ble_eq_true rfl) dX6_issuer_116 (fun v S1 H locs hw hP hz hS => ?_)
          obtain ⟨rfl, hS1, hz2⟩ := hw
          replace hS1 := hS1.symm
          subst hS1
          replace hsz := hz2.trans hsz
          exact vx_ret (g_lret hC hP hS hr hlk (by decide) (by decide) (⟨hsz, rfl, k, hk, rfl, th1 c_15, by first | (subst c_36; rw [icV_none (hh k hk rfl) (by decide) (by decide) (by decide) (by decide)]) | rw [icV_none (hh k hk rfl) (fun h9 => by subst h9; exact absurd c_36 (by decide)) (fun h9 => by subst h9; exact absurd c_36 (by decide)) (fun h9 => by subst h9; exact absurd c_36 (by decide)) (fun h9 => by subst h9; exact absurd c_36 (by decide))]⟩) dX6_issuer_119)
        | 6, hk_36 =>
          have e9 : of_36 = 67 := by simpa using hk_36.symm
          subst e9
          replace c_36 := ts_lit (v := 6) (by decide) c_36
          refine ⟨103, by decide, ?_⟩
          refine lv_aload_n hx hb dX6_issuer_103 rfl (lv_at hl 0 rfl) ?_
          refine gt_X6_158 hC hP ((hf k hk).2) dX6_issuer_104 ?_
          refine lv_i2l hx hb dX6_issuer_107 rfl ?_
          exact vx_ret (g_lret hC hP hS hr hlk (by decide) (by decide) (⟨hsz, rfl, k, hk, rfl, th1 c_15, by subst c_36; rfl⟩) dX6_issuer_108)
        | 7, hk_36 =>
          have e9 : of_36 = 73 := by simpa using hk_36.symm
          subst e9
          replace c_36 := ts_lit (v := 7) (by decide) c_36
          refine ⟨109, by decide, ?_⟩
          refine lv_aload_n hx hb dX6_issuer_109 rfl (lv_at hl 0 rfl) ?_
          refine gt_X6_161 hC hP ((hf k hk).2) dX6_issuer_110 ?_
          exact vx_ret (g_lret hC hP hS hr hlk (by decide) (by decide) (⟨hsz, rfl, k, hk, rfl, th1 c_15, by subst c_36; rfl⟩) dX6_issuer_113)
        | k9 + 8, hk_36 => exact absurd hk_36 (by simp)
      · refine lv_aload_n hx hb dX6_issuer_114 rfl (lv_at hl 0 rfl) ?_
        refine lv_iload_n hx hb dX6_issuer_115 rfl (lv_at hl 3 rfl) ?_
        refine g_callV (As := [.int _]) (rest := []) hC hU hP hS hl.1 (c_X1_tellHeld0 l N0 D cy _ _ (f k) w (hf k hk).2 (hh k hk rfl)) mL_X6_164 iM_X1_tellHeld sL_X1_tellHeld iN_X1 cD_X1_tellHeld ⟨by decide, by decide, rfl⟩ ⟨by decide, by decide⟩ ⟨by decide, by decide⟩ (ci := 1) rfl (by decide) ((hf k hk).2) rfl (Nat.le_of_ble_eq_true rfl) dX6_issuer_116 (fun v S1 H locs hw hP hz hS => ?_)
        obtain ⟨rfl, hS1, hz2⟩ := hw
        replace hS1 := hS1.symm
        subst hS1
        replace hsz := hz2.trans hsz
        exact vx_ret (g_lret hC hP hS hr hlk (by decide) (by decide) (⟨hsz, rfl, k, hk, rfl, th1 c_15, by first | (subst c_36; rw [icV_none (hh k hk rfl) (by decide) (by decide) (by decide) (by decide)]) | rw [icV_none (hh k hk rfl) (fun h9 => by subst h9; exact absurd c_36 (by decide)) (fun h9 => by subst h9; exact absurd c_36 (by decide)) (fun h9 => by subst h9; exact absurd c_36 (by decide)) (fun h9 => by subst h9; exact absurd c_36 (by decide))]⟩) dX6_issuer_119)
    · exact g_thrO (is := 156) (text := "no such issuer, or what") hC hls hZ hne hlk hP hS hl.1 (by decide) dX6_issuer_18 dX6_issuer_21 dX6_issuer_22 dX6_issuer_24 dX6_issuer_27 ⟨by decide, by decide⟩ ⟨by decide, by decide⟩ ⟨by decide, by decide⟩ (⟨rfl, rfl, by first | exact Or.inl (th0 c_6) | exact Or.inr (th0 c_15)⟩)

set_option maxRecDepth 100000 in
set_option maxHeartbeats 4000000 in
theorem c_X6_next0 (l : Launch) (hls : l.stackTraces = false) (N0 : Nat) (D : va_G) (cy : Nat → ClassId) (S : gS) (sz : Nat) (x is : Nat) (f : Nat → Nat) (hxk : gK S x = 7) (his : gR S x 0 = some is) (hisk : gK S is = 12) (hisn : gn S is = 8) (hf : ∀ k, k < 8 → gR S is k = some (f k) ∧ gK S (f k) = 2) (p0 n : Int32) (hn : n = 1) (hh : ∀ k, k < 8 → p0 = nI k → gR S (f k) 11 = none) : gMX l yX6_next cX6_next 2 (some FieldType.long) { frames := 6, cells := 1, slots := 6, locals := 90 } N0 D cy [.ref x, .int p0] S sz (fun v S1 z => z = sz ∧ ∃ k, k < 8 ∧ p0 = nI k ∧ v = some (.long 0) ∧ S1 = S) (fun E S1 => S1 = S ∧ ((E = exO ∧ ¬ (0 ≤ p0 ∧ p0 < 8)))) := by
  refine bodyX (by decide) rfl (Nat.le_of_ble_eq_true rfl) ?_
  intro p e s m args below meth c ls hC hU hZ hne hr hlk hnm hsz hP hS hl
  have hx := hC.1
  have hb := hC.2.1
  refine lv_iload_n hx hb dX6_next_0 rfl (lv_at hl 1 rfl) ?_
  refine lv_bipush (v := 8) hx hb dX6_next_1 (by decide) ?_
  refine g_callS (As := [.int _, .int _]) (rest := []) hC hU hP hS hl.1 (c_X6_isWithin l N0 D cy _ _ _ _) mL_X6_43 sT_X6_isWithin iN_X6 cD_X6_isWithin ⟨by decide, by decide, rfl⟩ ⟨by decide, by decide⟩ ⟨by decide, by decide⟩ rfl (Nat.le_of_ble_eq_true rfl) dX6_next_3 (fun v S1 H locs hw hP hz hS => ?_)
  obtain ⟨rfl, hS1, hz2⟩ := hw
  replace hS1 := hS1.symm
  subst hS1
  replace hsz := hz2.trans hsz
  refine lv_if_ne (tgt := 19) hx hb dX6_next_6 (by decide) (fun c_6 => ?_) (fun c_6 => ?_)
  · obtain ⟨k, hk, rfl⟩ := isI_nat (th1 c_6)
    refine lv_aload_n hx hb dX6_next_19 rfl (lv_at hl 0 rfl) ?_
    refine gt_X6_11 hC hP (hxk) (his) dX6_next_20 ?_
    refine lv_iload_n hx hb dX6_next_23 rfl (lv_at hl 1 rfl) ?_
    refine g_aald hC hP (j := 0) (by decide) (hisk) (by rw [hisn]; exact vp_in_nI hk (by decide)) dX6_next_24 ?_
    refine g_rf (by rw [nI_clamp (by omega)]; exact (hf k hk).1) ?_
    refine lv_iconst (v := n) hx hb dX6_next_25 (by rw [hn]; decide) ?_
    refine g_callV (As := [.int _]) (rest := []) hC hU hP hS hl.1 (c_X1_give0 l N0 D cy _ _ (f k) _ (hf k hk).2 (hh k hk rfl)) mL_X6_168 iM_X1_give sL_X1_give iN_X1 cD_X1_give ⟨by decide, by decide, rfl⟩ ⟨by decide, by decide⟩ ⟨by decide, by decide⟩ (ci := 1) rfl (by decide) ((hf k hk).2) rfl (Nat.le_of_ble_eq_true rfl) dX6_next_26 (fun v S1 H locs hw hP hz hS => ?_)
    obtain ⟨rfl, hS1, hz2⟩ := hw
    replace hS1 := hS1.symm
    subst hS1
    replace hsz := hz2.trans hsz
    exact vx_ret (g_lret hC hP hS hr hlk (by decide) (by decide) (⟨hsz, k, hk, rfl, rfl, rfl⟩) dX6_next_29)
  · exact g_thrO (is := 49) (text := "no such issuer") hC hls hZ hne hlk hP hS hl.1 (by decide) dX6_next_9 dX6_next_12 dX6_next_13 dX6_next_15 dX6_next_18 ⟨by decide, by decide⟩ ⟨by decide, by decide⟩ ⟨by decide, by decide⟩ (⟨rfl, rfl, th0 c_6⟩)

set_option maxRecDepth 100000 in
set_option maxHeartbeats 4000000 in
theorem c_X6_batch0 (l : Launch) (hls : l.stackTraces = false) (N0 : Nat) (D : va_G) (cy : Nat → ClassId) (S : gS) (sz : Nat) (x is : Nat) (f : Nat → Nat) (hxk : gK S x = 7) (his : gR S x 0 = some is) (hisk : gK S is = 12) (hisn : gn S is = 8) (hf : ∀ k, k < 8 → gR S is k = some (f k) ∧ gK S (f k) = 2) (p0 n : Int32) (hh : ∀ k, k < 8 → p0 = nI k → gR S (f k) 11 = none) : gMX l yX6_batch cX6_batch 3 (some FieldType.long) { frames := 6, cells := 1, slots := 6, locals := 90 } N0 D cy [.ref x, .int p0, .int n] S sz (fun v S1 z => z = sz ∧ ∃ k, k < 8 ∧ p0 = nI k ∧ ¬ (n < 1 ∨ 1024 < n) ∧ v = some (.long 0) ∧ S1 = S) (fun E S1 => S1 = S ∧ ((E = exO ∧ ¬ (0 ≤ p0 ∧ p0 < 8)) ∨ (E = exA ∧ ∃ k, k < 8 ∧ p0 = nI k ∧ (n < 1 ∨ 1024 < n)))) := by
  refine bodyX (by decide) rfl (Nat.le_of_ble_eq_true rfl) ?_
  intro p e s m args below meth c ls hC hU hZ hne hr hlk hnm hsz hP hS hl
  have hx := hC.1
  have hb := hC.2.1
  refine lv_iload_n hx hb dX6_batch_0 rfl (lv_at hl 1 rfl) ?_
  refine lv_bipush (v := 8) hx hb dX6_batch_1 (by decide) ?_
  refine g_callS (As := [.int _, .int _]) (rest := []) hC hU hP hS hl.1 (c_X6_isWithin l N0 D cy _ _ _ _) mL_X6_43 sT_X6_isWithin iN_X6 cD_X6_isWithin ⟨by decide, by decide, rfl⟩ ⟨by decide, by decide⟩ ⟨by decide, by decide⟩ rfl (Nat.le_of_ble_eq_true rfl) dX6_batch_3 (fun v S1 H locs hw hP hz hS => ?_)
  obtain ⟨rfl, hS1, hz2⟩ := hw
  replace hS1 := hS1.symm
  subst hS1
  replace hsz := hz2.trans hsz
  refine lv_if_ne (tgt := 19) hx hb dX6_batch_6 (by decide) (fun c_6 => ?_) (fun c_6 => ?_)
  · obtain ⟨k, hk, rfl⟩ := isI_nat (th1 c_6)
    refine lv_iload_n hx hb dX6_batch_19 rfl (lv_at hl 2 rfl) ?_
    refine lv_iconst (v := 1) hx hb dX6_batch_20 (by decide) ?_
    refine lv_icmp_lt (tgt := 31) hx hb dX6_batch_21 (by decide) (fun c_21 => ?_) (fun c_21 => ?_)
    · exact g_thrA (is := 171) (text := "not 1 to 1024 numbers") hC hls hZ hne hlk hP hS hl.1 (by decide) dX6_batch_31 dX6_batch_34 dX6_batch_35 dX6_batch_37 dX6_batch_40 ⟨by decide, by decide⟩ ⟨by decide, by decide⟩ ⟨by decide, by decide⟩ (⟨rfl, Or.inr ⟨rfl, k, hk, rfl, by first | exact Or.inl c_21 | exact Or.inr (Int32.not_le.mp c_28)⟩⟩)
    · refine lv_iload_n hx hb dX6_batch_24 rfl (lv_at hl 2 rfl) ?_
      refine lv_sipush (v := 1024) hx hb dX6_batch_25 (by decide) ?_
      refine lv_icmp_le (tgt := 41) hx hb dX6_batch_28 (by decide) (fun c_28 => ?_) (fun c_28 => ?_)
      · refine lv_aload_n hx hb dX6_batch_41 rfl (lv_at hl 0 rfl) ?_
        refine gt_X6_11 hC hP (hxk) (his) dX6_batch_42 ?_
        refine lv_iload_n hx hb dX6_batch_45 rfl (lv_at hl 1 rfl) ?_
        refine g_aald hC hP (j := 0) (by decide) (hisk) (by rw [hisn]; exact vp_in_nI hk (by decide)) dX6_batch_46 ?_
        refine g_rf (by rw [nI_clamp (by omega)]; exact (hf k hk).1) ?_
        refine lv_iload_n hx hb dX6_batch_47 rfl (lv_at hl 2 rfl) ?_
        refine g_callV (As := [.int _]) (rest := []) hC hU hP hS hl.1 (c_X1_give0 l N0 D cy _ _ (f k) _ (hf k hk).2 (hh k hk rfl)) mL_X6_168 iM_X1_give sL_X1_give iN_X1 cD_X1_give ⟨by decide, by decide, rfl⟩ ⟨by decide, by decide⟩ ⟨by decide, by decide⟩ (ci := 1) rfl (by decide) ((hf k hk).2) rfl (Nat.le_of_ble_eq_true rfl) dX6_batch_48 (fun v S1 H locs hw hP hz hS => ?_)
        obtain ⟨rfl, hS1, hz2⟩ := hw
        replace hS1 := hS1.symm
        subst hS1
        replace hsz := hz2.trans hsz
        exact vx_ret (g_lret hC hP hS hr hlk (by decide) (by decide) (⟨hsz, k, hk, rfl, fun h9 => h9.elim c_21 (fun h9 => absurd h9 (Int32.not_lt.mpr c_28)), rfl, rfl⟩) dX6_batch_51)
      · exact g_thrA (is := 171) (text := "not 1 to 1024 numbers") hC hls hZ hne hlk hP hS hl.1 (by decide) dX6_batch_31 dX6_batch_34 dX6_batch_35 dX6_batch_37 dX6_batch_40 ⟨by decide, by decide⟩ ⟨by decide, by decide⟩ ⟨by decide, by decide⟩ (⟨rfl, Or.inr ⟨rfl, k, hk, rfl, by first | exact Or.inl c_21 | exact Or.inr (Int32.not_le.mp c_28)⟩⟩)
  · exact g_thrO (is := 49) (text := "no such issuer") hC hls hZ hne hlk hP hS hl.1 (by decide) dX6_batch_9 dX6_batch_12 dX6_batch_13 dX6_batch_15 dX6_batch_18 ⟨by decide, by decide⟩ ⟨by decide, by decide⟩ ⟨by decide, by decide⟩ (⟨rfl, Or.inl ⟨rfl, th0 c_6⟩⟩)

set_option maxRecDepth 100000 in
set_option maxHeartbeats 4000000 in
theorem c_X6_issuer1 (l : Launch) (hls : l.stackTraces = false) (N0 : Nat) (D : va_G) (cy : Nat → ClassId) (S : gS) (sz : Nat) (x is : Nat) (f : Nat → Nat) (hxk : gK S x = 7) (his : gR S x 0 = some is) (hisk : gK S is = 12) (hisn : gn S is = 8) (hf : ∀ k, k < 8 → gR S is k = some (f k) ∧ gK S (f k) = 2) (p0 w : Int32) (h r0 : Nat) (hh : ∀ k, k < 8 → p0 = nI k → gR S (f k) 11 = some h) (hhk : (0 ≤ p0 ∧ p0 < 8) → gK S h = 1 ∧ gR S h 2 = some r0 ∧ gK S r0 = 6) : gMX l yX6_issuer cX6_issuer 4 (some FieldType.long) { frames := 6, cells := 1, slots := 6, locals := 90 } N0 D cy [.ref x, .int p0, .int w] S sz (fun v S1 z => z = sz ∧ S1 = S ∧ ∃ k, k < 8 ∧ p0 = nI k ∧ (0 ≤ w ∧ w < 8) ∧ v = some (.long (icV S (f k) w))) (fun E S1 => S1 = S ∧ ((E = exO ∧ (¬ (0 ≤ p0 ∧ p0 < 8) ∨ ¬ (0 ≤ w ∧ w < 8))))) := by
  refine bodyX (by decide) rfl (Nat.le_of_ble_eq_true rfl) ?_
  intro p e s m args below meth c ls hC hU hZ hne hr hlk hnm hsz hP hS hl
  have hx := hC.1
  have hb := hC.2.1
  refine lv_iload_n hx hb dX6_issuer_0 rfl (lv_at hl 1 rfl) ?_
  refine lv_bipush (v := 8) hx hb dX6_issuer_1 (by decide) ?_
  refine g_callS (As := [.int _, .int _]) (rest := []) hC hU hP hS hl.1 (c_X6_isWithin l N0 D cy _ _ _ _) mL_X6_43 sT_X6_isWithin iN_X6 cD_X6_isWithin ⟨by decide, by decide, rfl⟩ ⟨by decide, by decide⟩ ⟨by decide, by decide⟩ rfl (Nat.le_of_ble_eq_true rfl) dX6_issuer_3 (fun v S1 H locs hw hP hz hS => ?_)
  obtain ⟨rfl, hS1, hz2⟩ := hw
  replace hS1 := hS1.symm
  subst hS1
  replace hsz := hz2.trans hsz
  refine lv_if_eq (tgt := 18) hx hb dX6_issuer_6 (by decide) (fun c_6 => ?_) (fun c_6 => ?_)
  · exact g_thrO (is := 156) (text := "no such issuer, or what") hC hls hZ hne hlk hP hS hl.1 (by decide) dX6_issuer_18 dX6_issuer_21 dX6_issuer_22 dX6_issuer_24 dX6_issuer_27 ⟨by decide, by decide⟩ ⟨by decide, by decide⟩ ⟨by decide, by decide⟩ (⟨rfl, rfl, by first | exact Or.inl (th0 c_6) | exact Or.inr (th0 c_15)⟩)
  · refine lv_iload_n hx hb dX6_issuer_9 rfl (lv_at hl 2 rfl) ?_
    refine lv_bipush (v := 8) hx hb dX6_issuer_10 (by decide) ?_
    refine g_callS (As := [.int _, .int _]) (rest := []) hC hU hP hS hl.1 (c_X6_isWithin l N0 D cy _ _ _ _) mL_X6_43 sT_X6_isWithin iN_X6 cD_X6_isWithin ⟨by decide, by decide, rfl⟩ ⟨by decide, by decide⟩ ⟨by decide, by decide⟩ rfl (Nat.le_of_ble_eq_true rfl) dX6_issuer_12 (fun v S1 H locs hw hP hz hS => ?_)
    obtain ⟨rfl, hS1, hz2⟩ := hw
    replace hS1 := hS1.symm
    subst hS1
    replace hsz := hz2.trans hsz
    refine lv_if_ne (tgt := 28) hx hb dX6_issuer_15 (by decide) (fun c_15 => ?_) (fun c_15 => ?_)
    · obtain ⟨k, hk, rfl⟩ := isI_nat (th1 c_6)
      refine lv_aload_n hx hb dX6_issuer_28 rfl (lv_at hl 0 rfl) ?_
      refine gt_X6_11 hC hP (hxk) (his) dX6_issuer_29 ?_
      refine lv_iload_n hx hb dX6_issuer_32 rfl (lv_at hl 1 rfl) ?_
      refine g_aald hC hP (j := 0) (by decide) (hisk) (by rw [hisn]; exact vp_in_nI hk (by decide)) dX6_issuer_33 ?_
      refine g_rf (by rw [nI_clamp (by omega)]; exact (hf k hk).1) ?_
      refine lv_astore_n (lv' := [(3, .ref _), (0, .ref _), (1, .int _), (2, .int _)]) hx hb dX6_issuer_34 rfl hl (by decide) rfl (fun ls hl => ?_)
      refine lv_iload_n hx hb dX6_issuer_35 rfl (lv_at hl 3 rfl) ?_
      refine g_ts (dt := 114) hC dX6_issuer_36 (by decide) (by decide) (fun k_36 of_36 hk_36 c_36 => ?_) (fun c_36 => ?_)
      · match k_36, hk_36 with
        | 0, hk_36 =>
          have e9 : of_36 = 48 := by simpa using hk_36.symm
          subst e9
          replace c_36 := ts_lit (v := 0) (by decide) c_36
          refine ⟨84, by decide, ?_⟩
          refine lv_aload_n hx hb dX6_issuer_84 rfl (lv_at hl 0 rfl) ?_
          refine g_callV (As := []) (rest := []) hC hU hP hS hl.1 (c_X1_isReady l N0 D cy _ _ (f k) (hf k hk).2) mL_X6_65 iM_X1_isReady sL_X1_isReady iN_X1 cD_X1_isReady ⟨by decide, by decide, rfl⟩ ⟨by decide, by decide⟩ ⟨by decide, by decide⟩ (ci := 1) rfl (by decide) ((hf k hk).2) rfl (Nat.le_of_ble_eq_true rfl) dX6_issuer_85 (fun v S1 H locs hw hP hz hS => ?_)
          obtain ⟨rfl, hS1, hz2⟩ := hw
          replace hS1 := hS1.symm
          subst hS1
          replace hsz := hz2.trans hsz
          refine lv_if_eq (tgt := 95) hx hb dX6_issuer_88 (by decide) (fun c_88 => ?_) (fun c_88 => ?_)
          · refine lv_lconst (v := 0) hx hb dX6_issuer_95 rfl ?_
            exact vx_ret (g_lret hC hP hS hr hlk (by decide) (by decide) (⟨hsz, rfl, k, hk, rfl, th1 c_15, by subst c_36; unfold icV; rw [if_pos rfl]; first | rw [if_pos (rd0 c_88)] | rw [if_neg (rd1 c_88)]⟩) dX6_issuer_96)
          · refine lv_lconst (v := 1) hx hb dX6_issuer_91 rfl ?_
            refine lv_goto (tgt := 96) hx hb dX6_issuer_92 (by decide) ?_
            exact vx_ret (g_lret hC hP hS hr hlk (by decide) (by decide) (⟨hsz, rfl, k, hk, rfl, th1 c_15, by subst c_36; unfold icV; rw [if_pos rfl]; first | rw [if_pos (rd0 c_88)] | rw [if_neg (rd1 c_88)]⟩) dX6_issuer_96)
        | 1, hk_36 =>
          have e9 : of_36 = 61 := by simpa using hk_36.symm
          subst e9
          replace c_36 := ts_lit (v := 1) (by decide) c_36
          refine ⟨97, by decide, ?_⟩
          refine lv_aload_n hx hb dX6_issuer_97 rfl (lv_at hl 0 rfl) ?_
          refine gt_X6_69 hC hP ((hf k hk).2) dX6_issuer_98 ?_
          refine lv_i2l hx hb dX6_issuer_101 rfl ?_
          exact vx_ret (g_lret hC hP hS hr hlk (by decide) (by decide) (⟨hsz, rfl, k, hk, rfl, th1 c_15, by subst c_36; rfl⟩) dX6_issuer_102)
        | 2, hk_36 =>
          have e9 : of_36 = 78 := by simpa using hk_36.symm
          subst e9
          replace c_36 := ts_lit (v := 2) (by decide) c_36
          refine ⟨114, by decide, ?_⟩
          refine lv_aload_n hx hb dX6_issuer_114 rfl (lv_at hl 0 rfl) ?_
          refine lv_iload_n hx hb dX6_issuer_115 rfl (lv_at hl 3 rfl) ?_
          refine g_callV (As := [.int _]) (rest := []) hC hU hP hS hl.1 (c_X1_tellHeld1 l N0 D cy _ _ (f k) h r0 w (hf k hk).2 (hh k hk rfl) (hhk ⟨nI_pos' (by omega), nI_lt hk (by decide)⟩).1 (hhk ⟨nI_pos' (by omega), nI_lt hk (by decide)⟩).2.1 (hhk ⟨nI_pos' (by omega), nI_lt hk (by decide)⟩).2.2) mL_X6_164 iM_X1_tellHeld sL_X1_tellHeld iN_X1 cD_X1_tellHeld ⟨by decide, by decide, rfl⟩ ⟨by decide, by decide⟩ ⟨by decide, by decide⟩ (ci := 1) rfl (by decide) ((hf k hk).2) rfl (Nat.le_of_ble_eq_true rfl) dX6_issuer_116 (fun v S1 H locs hw hP hz hS => ?_)
          obtain ⟨rfl, hS1, hz2⟩ := hw
          replace hS1 := hS1.symm
          subst hS1
          replace hsz := hz2.trans hsz
          exact vx_ret (g_lret hC hP hS hr hlk (by decide) (by decide) (⟨hsz, rfl, k, hk, rfl, th1 c_15, by first | (subst c_36; rw [icV_some (hh k hk rfl) (hhk ⟨nI_pos' (by omega), nI_lt hk (by decide)⟩).2.1 (by decide) (by decide) (by decide) (by decide)]) | rw [icV_some (hh k hk rfl) (hhk ⟨nI_pos' (by omega), nI_lt hk (by decide)⟩).2.1 (fun h9 => by subst h9; exact absurd c_36 (by decide)) (fun h9 => by subst h9; exact absurd c_36 (by decide)) (fun h9 => by subst h9; exact absurd c_36 (by decide)) (fun h9 => by subst h9; exact absurd c_36 (by decide))]⟩) dX6_issuer_119)
        | 3, hk_36 =>
          have e9 : of_36 = 78 := by simpa using hk_36.symm
          subst e9
          replace c_36 := ts_lit (v := 3) (by decide) c_36
          refine ⟨114, by decide, ?_⟩
          refine lv_aload_n hx hb dX6_issuer_114 rfl (lv_at hl 0 rfl) ?_
          refine lv_iload_n hx hb dX6_issuer_115 rfl (lv_at hl 3 rfl) ?_
          refine g_callV (As := [.int _]) (rest := []) hC hU hP hS hl.1 (c_X1_tellHeld1 l N0 D cy _ _ (f k) h r0 w (hf k hk).2 (hh k hk rfl) (hhk ⟨nI_pos' (by omega), nI_lt hk (by decide)⟩).1 (hhk ⟨nI_pos' (by omega), nI_lt hk (by decide)⟩).2.1 (hhk ⟨nI_pos' (by omega), nI_lt hk (by decide)⟩).2.2) mL_X6_164 iM_X1_tellHeld sL_X1_tellHeld iN_X1 cD_X1_tellHeld ⟨by decide, by decide, rfl⟩ ⟨by decide, by decide⟩ ⟨by decide, by decide⟩ (ci := 1) rfl (by decide) ((hf k hk).2) rfl (Nat.le_of_ble_eq_true rfl) dX6_issuer_116 (fun v S1 H locs hw hP hz hS => ?_)
          obtain ⟨rfl, hS1, hz2⟩ := hw
          replace hS1 := hS1.symm
          subst hS1
          replace hsz := hz2.trans hsz
          exact vx_ret (g_lret hC hP hS hr hlk (by decide) (by decide) (⟨hsz, rfl, k, hk, rfl, th1 c_15, by first | (subst c_36; rw [icV_some (hh k hk rfl) (hhk ⟨nI_pos' (by omega), nI_lt hk (by decide)⟩).2.1 (by decide) (by decide) (by decide) (by decide)]) | rw [icV_some (hh k hk rfl) (hhk ⟨nI_pos' (by omega), nI_lt hk (by decide)⟩).2.1 (fun h9 => by subst h9; exact absurd c_36 (by decide)) (fun h9 => by subst h9; exact absurd c_36 (by decide)) (fun h9 => by subst h9; exact absurd c_36 (by decide)) (fun h9 => by subst h9; exact absurd c_36 (by decide))]⟩) dX6_issuer_119)
        | 4, hk_36 =>
          have e9 : of_36 = 78 := by simpa using hk_36.symm
          subst e9
          replace c_36 := ts_lit (v := 4) (by decide) c_36
          refine ⟨114, by decide, ?_⟩
          refine lv_aload_n hx hb dX6_issuer_114 rfl (lv_at hl 0 rfl) ?_
          refine lv_iload_n hx hb dX6_issuer_115 rfl (lv_at hl 3 rfl) ?_
          refine g_callV (As := [.int _]) (rest := []) hC hU hP hS hl.1 (c_X1_tellHeld1 l N0 D cy _ _ (f k) h r0 w (hf k hk).2 (hh k hk rfl) (hhk ⟨nI_pos' (by omega), nI_lt hk (by decide)⟩).1 (hhk ⟨nI_pos' (by omega), nI_lt hk (by decide)⟩).2.1 (hhk ⟨nI_pos' (by omega), nI_lt hk (by decide)⟩).2.2) mL_X6_164 iM_X1_tellHeld sL_X1_tellHeld iN_X1 cD_X1_tellHeld ⟨by decide, by decide, rfl⟩ ⟨by decide, by decide⟩ ⟨by decide, by decide⟩ (ci := 1) rfl (by decide) ((hf k hk).2) rfl (Nat.le_of_ble_eq_true rfl) dX6_issuer_116 (fun v S1 H locs hw hP hz hS => ?_)
          obtain ⟨rfl, hS1, hz2⟩ := hw
          replace hS1 := hS1.symm
          subst hS1
          replace hsz := hz2.trans hsz
          exact vx_ret (g_lret hC hP hS hr hlk (by decide) (by decide) (⟨hsz, rfl, k, hk, rfl, th1 c_15, by first | (subst c_36; rw [icV_some (hh k hk rfl) (hhk ⟨nI_pos' (by omega), nI_lt hk (by decide)⟩).2.1 (by decide) (by decide) (by decide) (by decide)]) | rw [icV_some (hh k hk rfl) (hhk ⟨nI_pos' (by omega), nI_lt hk (by decide)⟩).2.1 (fun h9 => by subst h9; exact absurd c_36 (by decide)) (fun h9 => by subst h9; exact absurd c_36 (by decide)) (fun h9 => by subst h9; exact absurd c_36 (by decide)) (fun h9 => by subst h9; exact absurd c_36 (by decide))]⟩) dX6_issuer_119)
        | 5, hk_36 =>
          have e9 : of_36 = 78 := by simpa using hk_36.symm
          subst e9
          replace c_36 := ts_lit (v := 5) (by decide) c_36
          refine ⟨114, by decide, ?_⟩
          refine lv_aload_n hx hb dX6_issuer_114 rfl (lv_at hl 0 rfl) ?_
          refine lv_iload_n hx hb dX6_issuer_115 rfl (lv_at hl 3 rfl) ?_
          refine g_callV (As := [.int _]) (rest := []) hC hU hP hS hl.1 (c_X1_tellHeld1 l N0 D cy _ _ (f k) h r0 w (hf k hk).2 (hh k hk rfl) (hhk ⟨nI_pos' (by omega), nI_lt hk (by decide)⟩).1 (hhk ⟨nI_pos' (by omega), nI_lt hk (by decide)⟩).2.1 (hhk ⟨nI_pos' (by omega), nI_lt hk (by decide)⟩).2.2) mL_X6_164 iM_X1_tellHeld sL_X1_tellHeld iN_X1 cD_X1_tellHeld ⟨by decide, by decide, rfl⟩ ⟨by decide, by decide⟩ ⟨by decide, by decide⟩ (ci := 1) rfl (by decide) ((hf k hk).2) rfl (Nat.le_of_ble_eq_true rfl) dX6_issuer_116 (fun v S1 H locs hw hP hz hS => ?_)
          obtain ⟨rfl, hS1, hz2⟩ := hw
          replace hS1 := hS1.symm
          subst hS1
          replace hsz := hz2.trans hsz
          exact vx_ret (g_lret hC hP hS hr hlk (by decide) (by decide) (⟨hsz, rfl, k, hk, rfl, th1 c_15, by first | (subst c_36; rw [icV_some (hh k hk rfl) (hhk ⟨nI_pos' (by omega), nI_lt hk (by decide)⟩).2.1 (by decide) (by decide) (by decide) (by decide)]) | rw [icV_some (hh k hk rfl) (hhk ⟨nI_pos' (by omega), nI_lt hk (by decide)⟩).2.1 (fun h9 => by subst h9; exact absurd c_36 (by decide)) (fun h9 => by subst h9; exact absurd c_36 (by decide)) (fun h9 => by subst h9; exact absurd c_36 (by decide)) (fun h9 => by subst h9; exact absurd c_36 (by decide))]⟩) dX6_issuer_119)
        | 6, hk_36 =>
          have e9 : of_36 = 67 := by simpa using hk_36.symm
          subst e9
          replace c_36 := ts_lit (v := 6) (by decide) c_36
          refine ⟨103, by decide, ?_⟩
          refine lv_aload_n hx hb dX6_issuer_103 rfl (lv_at hl 0 rfl) ?_
          refine gt_X6_158 hC hP ((hf k hk).2) dX6_issuer_104 ?_
          refine lv_i2l hx hb dX6_issuer_107 rfl ?_
          exact vx_ret (g_lret hC hP hS hr hlk (by decide) (by decide) (⟨hsz, rfl, k, hk, rfl, th1 c_15, by subst c_36; rfl⟩) dX6_issuer_108)
        | 7, hk_36 =>
          have e9 : of_36 = 73 := by simpa using hk_36.symm
          subst e9
          replace c_36 := ts_lit (v := 7) (by decide) c_36
          refine ⟨109, by decide, ?_⟩
          refine lv_aload_n hx hb dX6_issuer_109 rfl (lv_at hl 0 rfl) ?_
          refine gt_X6_161 hC hP ((hf k hk).2) dX6_issuer_110 ?_
          exact vx_ret (g_lret hC hP hS hr hlk (by decide) (by decide) (⟨hsz, rfl, k, hk, rfl, th1 c_15, by subst c_36; rfl⟩) dX6_issuer_113)
        | k9 + 8, hk_36 => exact absurd hk_36 (by simp)
      · refine lv_aload_n hx hb dX6_issuer_114 rfl (lv_at hl 0 rfl) ?_
        refine lv_iload_n hx hb dX6_issuer_115 rfl (lv_at hl 3 rfl) ?_
        refine g_callV (As := [.int _]) (rest := []) hC hU hP hS hl.1 (c_X1_tellHeld1 l N0 D cy _ _ (f k) h r0 w (hf k hk).2 (hh k hk rfl) (hhk ⟨nI_pos' (by omega), nI_lt hk (by decide)⟩).1 (hhk ⟨nI_pos' (by omega), nI_lt hk (by decide)⟩).2.1 (hhk ⟨nI_pos' (by omega), nI_lt hk (by decide)⟩).2.2) mL_X6_164 iM_X1_tellHeld sL_X1_tellHeld iN_X1 cD_X1_tellHeld ⟨by decide, by decide, rfl⟩ ⟨by decide, by decide⟩ ⟨by decide, by decide⟩ (ci := 1) rfl (by decide) ((hf k hk).2) rfl (Nat.le_of_ble_eq_true rfl) dX6_issuer_116 (fun v S1 H locs hw hP hz hS => ?_)
        obtain ⟨rfl, hS1, hz2⟩ := hw
        replace hS1 := hS1.symm
        subst hS1
        replace hsz := hz2.trans hsz
        exact vx_ret (g_lret hC hP hS hr hlk (by decide) (by decide) (⟨hsz, rfl, k, hk, rfl, th1 c_15, by first | (subst c_36; rw [icV_some (hh k hk rfl) (hhk ⟨nI_pos' (by omega), nI_lt hk (by decide)⟩).2.1 (by decide) (by decide) (by decide) (by decide)]) | rw [icV_some (hh k hk rfl) (hhk ⟨nI_pos' (by omega), nI_lt hk (by decide)⟩).2.1 (fun h9 => by subst h9; exact absurd c_36 (by decide)) (fun h9 => by subst h9; exact absurd c_36 (by decide)) (fun h9 => by subst h9; exact absurd c_36 (by decide)) (fun h9 => by subst h9; exact absurd c_36 (by decide))]⟩) dX6_issuer_119)
    · exact g_thrO (is := 156) (text := "no such issuer, or what") hC hls hZ hne hlk hP hS hl.1 (by decide) dX6_issuer_18 dX6_issuer_21 dX6_issuer_22 dX6_issuer_24 dX6_issuer_27 ⟨by decide, by decide⟩ ⟨by decide, by decide⟩ ⟨by decide, by decide⟩ (⟨rfl, rfl, by first | exact Or.inl (th0 c_6) | exact Or.inr (th0 c_15)⟩)

theorem cGive_v {S S1 : gS} {a h r0 : Nat} {n : Int32} {v : Option Value} (hw : cGive S a h r0 n v S1) : ∃ r : Int64, v = some (.long r) := by
  unfold cGive at hw
  split at hw
  · exact ⟨_, hw.1⟩
  · exact ⟨_, hw.1⟩
set_option maxRecDepth 100000 in
set_option maxHeartbeats 4000000 in
theorem c_X6_next1 (l : Launch) (hls : l.stackTraces = false) (N0 : Nat) (D : va_G) (cy : Nat → ClassId) (S : gS) (sz : Nat) (x is : Nat) (f : Nat → Nat) (hxk : gK S x = 7) (his : gR S x 0 = some is) (hisk : gK S is = 12) (hisn : gn S is = 8) (hf : ∀ k, k < 8 → gR S is k = some (f k) ∧ gK S (f k) = 2) (p0 n : Int32) (hn : n = 1) (h r0 : Nat) (hh : ∀ k, k < 8 → p0 = nI k → gR S (f k) 11 = some h) (hhk : (0 ≤ p0 ∧ p0 < 8) → gK S h = 1 ∧ gR S h 2 = some r0 ∧ gK S r0 = 6) : gMX l yX6_next cX6_next 2 (some FieldType.long) { frames := 6, cells := 1, slots := 6, locals := 90 } N0 D cy [.ref x, .int p0] S sz (fun v S1 z => z = sz ∧ ∃ k, k < 8 ∧ p0 = nI k ∧ cGive S (f k) h r0 n v S1) (fun E S1 => S1 = S ∧ ((E = exO ∧ ¬ (0 ≤ p0 ∧ p0 < 8)))) := by
  refine bodyX (by decide) rfl (Nat.le_of_ble_eq_true rfl) ?_
  intro p e s m args below meth c ls hC hU hZ hne hr hlk hnm hsz hP hS hl
  have hx := hC.1
  have hb := hC.2.1
  refine lv_iload_n hx hb dX6_next_0 rfl (lv_at hl 1 rfl) ?_
  refine lv_bipush (v := 8) hx hb dX6_next_1 (by decide) ?_
  refine g_callS (As := [.int _, .int _]) (rest := []) hC hU hP hS hl.1 (c_X6_isWithin l N0 D cy _ _ _ _) mL_X6_43 sT_X6_isWithin iN_X6 cD_X6_isWithin ⟨by decide, by decide, rfl⟩ ⟨by decide, by decide⟩ ⟨by decide, by decide⟩ rfl (Nat.le_of_ble_eq_true rfl) dX6_next_3 (fun v S1 H locs hw hP hz hS => ?_)
  obtain ⟨rfl, hS1, hz2⟩ := hw
  replace hS1 := hS1.symm
  subst hS1
  replace hsz := hz2.trans hsz
  refine lv_if_ne (tgt := 19) hx hb dX6_next_6 (by decide) (fun c_6 => ?_) (fun c_6 => ?_)
  · obtain ⟨k, hk, rfl⟩ := isI_nat (th1 c_6)
    refine lv_aload_n hx hb dX6_next_19 rfl (lv_at hl 0 rfl) ?_
    refine gt_X6_11 hC hP (hxk) (his) dX6_next_20 ?_
    refine lv_iload_n hx hb dX6_next_23 rfl (lv_at hl 1 rfl) ?_
    refine g_aald hC hP (j := 0) (by decide) (hisk) (by rw [hisn]; exact vp_in_nI hk (by decide)) dX6_next_24 ?_
    refine g_rf (by rw [nI_clamp (by omega)]; exact (hf k hk).1) ?_
    refine lv_iconst (v := n) hx hb dX6_next_25 (by rw [hn]; decide) ?_
    refine g_callV (As := [.int _]) (rest := []) hC hU hP hS hl.1 (c_X1_give1 l N0 D cy _ _ (f k) h r0 _ (hf k hk).2 (hh k hk rfl) (hhk ⟨nI_pos' (by omega), nI_lt hk (by decide)⟩).1 (hhk ⟨nI_pos' (by omega), nI_lt hk (by decide)⟩).2.1 (hhk ⟨nI_pos' (by omega), nI_lt hk (by decide)⟩).2.2) mL_X6_168 iM_X1_give sL_X1_give iN_X1 cD_X1_give ⟨by decide, by decide, rfl⟩ ⟨by decide, by decide⟩ ⟨by decide, by decide⟩ (ci := 1) rfl (by decide) ((hf k hk).2) rfl (Nat.le_of_ble_eq_true rfl) dX6_next_26 (fun v S1 H locs hw hP hz hS => ?_)
    obtain ⟨hz2, hw⟩ := hw
    replace hsz := hz2.trans hsz
    obtain ⟨r9, rfl⟩ := cGive_v hw
    exact vx_ret (g_lret hC hP hS hr hlk (by decide) (by decide) (⟨hsz, k, hk, rfl, hw⟩) dX6_next_29)
  · exact g_thrO (is := 49) (text := "no such issuer") hC hls hZ hne hlk hP hS hl.1 (by decide) dX6_next_9 dX6_next_12 dX6_next_13 dX6_next_15 dX6_next_18 ⟨by decide, by decide⟩ ⟨by decide, by decide⟩ ⟨by decide, by decide⟩ (⟨rfl, rfl, th0 c_6⟩)

set_option maxRecDepth 100000 in
set_option maxHeartbeats 4000000 in
theorem c_X6_batch1 (l : Launch) (hls : l.stackTraces = false) (N0 : Nat) (D : va_G) (cy : Nat → ClassId) (S : gS) (sz : Nat) (x is : Nat) (f : Nat → Nat) (hxk : gK S x = 7) (his : gR S x 0 = some is) (hisk : gK S is = 12) (hisn : gn S is = 8) (hf : ∀ k, k < 8 → gR S is k = some (f k) ∧ gK S (f k) = 2) (p0 n : Int32) (h r0 : Nat) (hh : ∀ k, k < 8 → p0 = nI k → gR S (f k) 11 = some h) (hhk : (0 ≤ p0 ∧ p0 < 8) → gK S h = 1 ∧ gR S h 2 = some r0 ∧ gK S r0 = 6) : gMX l yX6_batch cX6_batch 3 (some FieldType.long) { frames := 6, cells := 1, slots := 6, locals := 90 } N0 D cy [.ref x, .int p0, .int n] S sz (fun v S1 z => z = sz ∧ ∃ k, k < 8 ∧ p0 = nI k ∧ ¬ (n < 1 ∨ 1024 < n) ∧ cGive S (f k) h r0 n v S1) (fun E S1 => S1 = S ∧ ((E = exO ∧ ¬ (0 ≤ p0 ∧ p0 < 8)) ∨ (E = exA ∧ ∃ k, k < 8 ∧ p0 = nI k ∧ (n < 1 ∨ 1024 < n)))) := by
  refine bodyX (by decide) rfl (Nat.le_of_ble_eq_true rfl) ?_
  intro p e s m args below meth c ls hC hU hZ hne hr hlk hnm hsz hP hS hl
  have hx := hC.1
  have hb := hC.2.1
  refine lv_iload_n hx hb dX6_batch_0 rfl (lv_at hl 1 rfl) ?_
  refine lv_bipush (v := 8) hx hb dX6_batch_1 (by decide) ?_
  refine g_callS (As := [.int _, .int _]) (rest := []) hC hU hP hS hl.1 (c_X6_isWithin l N0 D cy _ _ _ _) mL_X6_43 sT_X6_isWithin iN_X6 cD_X6_isWithin ⟨by decide, by decide, rfl⟩ ⟨by decide, by decide⟩ ⟨by decide, by decide⟩ rfl (Nat.le_of_ble_eq_true rfl) dX6_batch_3 (fun v S1 H locs hw hP hz hS => ?_)
  obtain ⟨rfl, hS1, hz2⟩ := hw
  replace hS1 := hS1.symm
  subst hS1
  replace hsz := hz2.trans hsz
  refine lv_if_ne (tgt := 19) hx hb dX6_batch_6 (by decide) (fun c_6 => ?_) (fun c_6 => ?_)
  · obtain ⟨k, hk, rfl⟩ := isI_nat (th1 c_6)
    refine lv_iload_n hx hb dX6_batch_19 rfl (lv_at hl 2 rfl) ?_
    refine lv_iconst (v := 1) hx hb dX6_batch_20 (by decide) ?_
    refine lv_icmp_lt (tgt := 31) hx hb dX6_batch_21 (by decide) (fun c_21 => ?_) (fun c_21 => ?_)
    · exact g_thrA (is := 171) (text := "not 1 to 1024 numbers") hC hls hZ hne hlk hP hS hl.1 (by decide) dX6_batch_31 dX6_batch_34 dX6_batch_35 dX6_batch_37 dX6_batch_40 ⟨by decide, by decide⟩ ⟨by decide, by decide⟩ ⟨by decide, by decide⟩ (⟨rfl, Or.inr ⟨rfl, k, hk, rfl, by first | exact Or.inl c_21 | exact Or.inr (Int32.not_le.mp c_28)⟩⟩)
    · refine lv_iload_n hx hb dX6_batch_24 rfl (lv_at hl 2 rfl) ?_
      refine lv_sipush (v := 1024) hx hb dX6_batch_25 (by decide) ?_
      refine lv_icmp_le (tgt := 41) hx hb dX6_batch_28 (by decide) (fun c_28 => ?_) (fun c_28 => ?_)
      · refine lv_aload_n hx hb dX6_batch_41 rfl (lv_at hl 0 rfl) ?_
        refine gt_X6_11 hC hP (hxk) (his) dX6_batch_42 ?_
        refine lv_iload_n hx hb dX6_batch_45 rfl (lv_at hl 1 rfl) ?_
        refine g_aald hC hP (j := 0) (by decide) (hisk) (by rw [hisn]; exact vp_in_nI hk (by decide)) dX6_batch_46 ?_
        refine g_rf (by rw [nI_clamp (by omega)]; exact (hf k hk).1) ?_
        refine lv_iload_n hx hb dX6_batch_47 rfl (lv_at hl 2 rfl) ?_
        refine g_callV (As := [.int _]) (rest := []) hC hU hP hS hl.1 (c_X1_give1 l N0 D cy _ _ (f k) h r0 _ (hf k hk).2 (hh k hk rfl) (hhk ⟨nI_pos' (by omega), nI_lt hk (by decide)⟩).1 (hhk ⟨nI_pos' (by omega), nI_lt hk (by decide)⟩).2.1 (hhk ⟨nI_pos' (by omega), nI_lt hk (by decide)⟩).2.2) mL_X6_168 iM_X1_give sL_X1_give iN_X1 cD_X1_give ⟨by decide, by decide, rfl⟩ ⟨by decide, by decide⟩ ⟨by decide, by decide⟩ (ci := 1) rfl (by decide) ((hf k hk).2) rfl (Nat.le_of_ble_eq_true rfl) dX6_batch_48 (fun v S1 H locs hw hP hz hS => ?_)
        obtain ⟨hz2, hw⟩ := hw
        replace hsz := hz2.trans hsz
        obtain ⟨r9, rfl⟩ := cGive_v hw
        exact vx_ret (g_lret hC hP hS hr hlk (by decide) (by decide) (⟨hsz, k, hk, rfl, fun h9 => h9.elim c_21 (fun h9 => absurd h9 (Int32.not_lt.mpr c_28)), hw⟩) dX6_batch_51)
      · exact g_thrA (is := 171) (text := "not 1 to 1024 numbers") hC hls hZ hne hlk hP hS hl.1 (by decide) dX6_batch_31 dX6_batch_34 dX6_batch_35 dX6_batch_37 dX6_batch_40 ⟨by decide, by decide⟩ ⟨by decide, by decide⟩ ⟨by decide, by decide⟩ (⟨rfl, Or.inr ⟨rfl, k, hk, rfl, by first | exact Or.inl c_21 | exact Or.inr (Int32.not_le.mp c_28)⟩⟩)
  · exact g_thrO (is := 49) (text := "no such issuer") hC hls hZ hne hlk hP hS hl.1 (by decide) dX6_batch_9 dX6_batch_12 dX6_batch_13 dX6_batch_15 dX6_batch_18 ⟨by decide, by decide⟩ ⟨by decide, by decide⟩ ⟨by decide, by decide⟩ (⟨rfl, Or.inl ⟨rfl, th0 c_6⟩⟩)

set_option maxRecDepth 100000 in
set_option maxHeartbeats 4000000 in
theorem c_X6_seat (l : Launch) (hls : l.stackTraces = false) (N0 : Nat) (D : va_G) (cy : Nat → ClassId) (S : gS) (sz : Nat) (x ns : Nat) (g : Nat → Nat) (hxk : gK S x = 7) (hns : gR S x 1 = some ns) (hnsk : gK S ns = 14) (hnsn : gn S ns = 5) (hg : ∀ n, n < 5 → gR S ns n = some (g n) ∧ gK S (g n) = 4) (un : Nat) (ra : Nat → Nat) (rr : Nat → Nat → Nat) (hun : gR S x 2 = some un) (hunk : gK S un = 6) (hra : ∀ n, n < 5 → gR S (g n) 2 = some (ra n) ∧ gK S (ra n) = 15 ∧ gn S (ra n) = 8 ∧ ∀ j, j < 8 → gR S (ra n) j = some (rr j n) ∧ gK S (rr j n) = 6) (p0 w : Int32) : gMX l yX6_seat cX6_seat 4 (some FieldType.long) { frames := 6, cells := 1, slots := 6, locals := 90 } N0 D cy [.ref x, .int p0, .int w] S sz (fun v S1 z => z = sz ∧ S1 = S ∧ ∃ k, k < 8 ∧ p0 = nI k ∧ (0 ≤ w ∧ w < 3) ∧ v = some (.long (csV S g (cNew S un g (rr k) 5) w))) (fun E S1 => S1 = S ∧ ((E = exO ∧ (¬ (0 ≤ p0 ∧ p0 < 8) ∨ ¬ (0 ≤ w ∧ w < 3))))) := by
  refine bodyX (by decide) rfl (Nat.le_of_ble_eq_true rfl) ?_
  intro p e s m args below meth c ls hC hU hZ hne hr hlk hnm hsz hP hS hl
  have hx := hC.1
  have hb := hC.2.1
  refine lv_iload_n hx hb dX6_seat_0 rfl (lv_at hl 1 rfl) ?_
  refine lv_bipush (v := 8) hx hb dX6_seat_1 (by decide) ?_
  refine g_callS (As := [.int _, .int _]) (rest := []) hC hU hP hS hl.1 (c_X6_isWithin l N0 D cy _ _ _ _) mL_X6_43 sT_X6_isWithin iN_X6 cD_X6_isWithin ⟨by decide, by decide, rfl⟩ ⟨by decide, by decide⟩ ⟨by decide, by decide⟩ rfl (Nat.le_of_ble_eq_true rfl) dX6_seat_3 (fun v S1 H locs hw hP hz hS => ?_)
  obtain ⟨rfl, hS1, hz2⟩ := hw
  replace hS1 := hS1.symm
  subst hS1
  replace hsz := hz2.trans hsz
  refine lv_if_eq (tgt := 17) hx hb dX6_seat_6 (by decide) (fun c_6 => ?_) (fun c_6 => ?_)
  · exact g_thrO (is := 173) (text := "no such seat, or what") hC hls hZ hne hlk hP hS hl.1 (by decide) dX6_seat_17 dX6_seat_20 dX6_seat_21 dX6_seat_23 dX6_seat_26 ⟨by decide, by decide⟩ ⟨by decide, by decide⟩ ⟨by decide, by decide⟩ (⟨rfl, rfl, by first | exact Or.inl (th0 c_6) | exact Or.inr (th0 c_14)⟩)
  · refine lv_iload_n hx hb dX6_seat_9 rfl (lv_at hl 2 rfl) ?_
    refine lv_iconst (v := 3) hx hb dX6_seat_10 (by decide) ?_
    refine g_callS (As := [.int _, .int _]) (rest := []) hC hU hP hS hl.1 (c_X6_isWithin l N0 D cy _ _ _ _) mL_X6_43 sT_X6_isWithin iN_X6 cD_X6_isWithin ⟨by decide, by decide, rfl⟩ ⟨by decide, by decide⟩ ⟨by decide, by decide⟩ rfl (Nat.le_of_ble_eq_true rfl) dX6_seat_11 (fun v S1 H locs hw hP hz hS => ?_)
    obtain ⟨rfl, hS1, hz2⟩ := hw
    replace hS1 := hS1.symm
    subst hS1
    replace hsz := hz2.trans hsz
    refine lv_if_ne (tgt := 27) hx hb dX6_seat_14 (by decide) (fun c_14 => ?_) (fun c_14 => ?_)
    · obtain ⟨k, hk, rfl⟩ := isI_nat (th1 c_6)
      refine lv_aload_n hx hb dX6_seat_27 rfl (lv_at hl 0 rfl) ?_
      refine g_callV (As := []) (rest := []) hC hU hP hS hl.1 (c_X6_nodesUp l N0 D cy _ _ x ns g hxk hns hnsk hnsn hg) mL_X6_175 iM_X6_nodesUp sL_X6_nodesUp iN_X6 cD_X6_nodesUp ⟨by decide, by decide, rfl⟩ ⟨by decide, by decide⟩ ⟨by decide, by decide⟩ (ci := 6) rfl (by decide) (hxk) rfl (Nat.le_of_ble_eq_true rfl) dX6_seat_28 (fun v S1 H locs hw hP hz hS => ?_)
      obtain ⟨rfl, hS1, hz2⟩ := hw
      replace hS1 := hS1.symm
      subst hS1
      replace hsz := hz2.trans hsz
      refine lv_iconst (v := 3) hx hb dX6_seat_31 (by decide) ?_
      refine lv_icmp_ge (tgt := 39) hx hb dX6_seat_32 (by decide) (fun c_32 => ?_) (fun c_32 => ?_)
      · refine lv_aload_n hx hb dX6_seat_39 rfl (lv_at hl 0 rfl) ?_
        refine lv_iload_n hx hb dX6_seat_40 rfl (lv_at hl 1 rfl) ?_
        refine g_callV (As := [.int _]) (rest := []) hC hU hP hS hl.1 (c_X6_newestRow l N0 D cy _ _ x ns g hxk hns hnsk hnsn hg un k ra (rr k) hunk hk (fun n hn => ⟨(hra n hn).1, (hra n hn).2.1, (hra n hn).2.2.1, (hra n hn).2.2.2 k hk⟩) hun) mL_X6_181 iM_X6_newestRow sL_X6_newestRow iN_X6 cD_X6_newestRow ⟨by decide, by decide, rfl⟩ ⟨by decide, by decide⟩ ⟨by decide, by decide⟩ (ci := 6) rfl (by decide) (hxk) rfl (Nat.le_of_ble_eq_true rfl) dX6_seat_41 (fun v S1 H locs hw hP hz hS => ?_)
        obtain ⟨rfl, hS1, hz2⟩ := hw
        replace hS1 := hS1.symm
        subst hS1
        replace hsz := hz2.trans hsz
        refine lv_astore_n (lv' := [(3, .ref _), (0, .ref _), (1, .int _), (2, .int _)]) hx hb dX6_seat_44 rfl hl (by decide) rfl (fun ls hl => ?_)
        refine lv_aload_n hx hb dX6_seat_45 rfl (lv_at hl 0 rfl) ?_
        refine gt_X6_185 hC hP (cNew_k hunk 5 (fun i hi => ((hra i hi).2.2.2 k hk).2)) dX6_seat_46 ?_
        refine lv_iconst (v := (-1)) hx hb dX6_seat_49 (by decide) ?_
        refine lv_icmp_ne (tgt := 57) hx hb dX6_seat_50 (by decide) (fun c_50 => ?_) (fun c_50 => ?_)
        · refine lv_iload_n hx hb dX6_seat_57 rfl (lv_at hl 3 rfl) ?_
          refine g_ls2 (t0 := 84) (t1 := 90) (dt := 96) (v0 := 0) (v1 := 1) hC dX6_seat_58 (by decide) (by decide) (by decide) (by decide) (by decide) (by decide) (fun c_58 => ?_) (fun c_58 => ?_) (fun c_58 => ?_)
          · refine lv_aload_n hx hb dX6_seat_84 rfl (lv_at hl 0 rfl) ?_
            refine gt_X6_185 hC hP (cNew_k hunk 5 (fun i hi => ((hra i hi).2.2.2 k hk).2)) dX6_seat_85 ?_
            refine lv_i2l hx hb dX6_seat_88 rfl ?_
            exact vx_ret (g_lret hC hP hS hr hlk (by decide) (by decide) (⟨hsz, rfl, k, hk, rfl, th1 c_14, by unfold csV; rw [if_neg (Int32.not_lt.mpr c_32), if_neg c_50, if_pos c_58]⟩) dX6_seat_89)
          · refine lv_aload_n hx hb dX6_seat_90 rfl (lv_at hl 0 rfl) ?_
            refine gt_X6_188 hC hP (cNew_k hunk 5 (fun i hi => ((hra i hi).2.2.2 k hk).2)) dX6_seat_91 ?_
            refine lv_i2l hx hb dX6_seat_94 rfl ?_
            exact vx_ret (g_lret hC hP hS hr hlk (by decide) (by decide) (⟨hsz, rfl, k, hk, rfl, th1 c_14, by unfold csV; rw [if_neg (Int32.not_lt.mpr c_32), if_neg c_50, if_neg (by rw [c_58]; decide), if_pos c_58]⟩) dX6_seat_95)
          · refine lv_aload_n hx hb dX6_seat_96 rfl (lv_at hl 0 rfl) ?_
            refine gt_X6_191 hC hP (cNew_k hunk 5 (fun i hi => ((hra i hi).2.2.2 k hk).2)) dX6_seat_97 ?_
            exact vx_ret (g_lret hC hP hS hr hlk (by decide) (by decide) (⟨hsz, rfl, k, hk, rfl, th1 c_14, by unfold csV; rw [if_neg (Int32.not_lt.mpr c_32), if_neg c_50, if_neg c_58.1, if_neg c_58.2]⟩) dX6_seat_100)
        · refine lv_ldc2 hx hb hC.2.2.2.1 (hC.2.2.2.2.1 _ kJ_X6_179) dX6_seat_53 ?_
          exact vx_ret (g_lret hC hP hS hr hlk (by decide) (by decide) (⟨hsz, rfl, k, hk, rfl, th1 c_14, by unfold csV; rw [if_neg (Int32.not_lt.mpr c_32), if_pos c_50]⟩) dX6_seat_56)
      · refine lv_ldc2 hx hb hC.2.2.2.1 (hC.2.2.2.2.1 _ kJ_X6_179) dX6_seat_35 ?_
        exact vx_ret (g_lret hC hP hS hr hlk (by decide) (by decide) (⟨hsz, rfl, k, hk, rfl, th1 c_14, by unfold csV; rw [if_pos (Int32.not_le.mp c_32)]⟩) dX6_seat_38)
    · exact g_thrO (is := 173) (text := "no such seat, or what") hC hls hZ hne hlk hP hS hl.1 (by decide) dX6_seat_17 dX6_seat_20 dX6_seat_21 dX6_seat_23 dX6_seat_26 ⟨by decide, by decide⟩ ⟨by decide, by decide⟩ ⟨by decide, by decide⟩ (⟨rfl, rfl, by first | exact Or.inl (th0 c_6) | exact Or.inr (th0 c_14)⟩)

set_option maxRecDepth 100000 in
set_option maxHeartbeats 4000000 in
theorem c_X6_part (l : Launch) (hls : l.stackTraces = false) (N0 : Nat) (D : va_G) (cy : Nat → ClassId) (S : gS) (sz : Nat) (x : Nat) (n : Int64) (w : Int32) : gMX l yX6_part cX6_part 4 (some FieldType.long) { frames := 6, cells := 1, slots := 6, locals := 90 } N0 D cy [.ref x, .long n, .int w] S sz (fun v S1 z => z = sz ∧ S1 = S ∧ ¬ n < 0 ∧ (0 ≤ w ∧ w < 3) ∧ v = some (.long (cpV n w))) (fun E S1 => S1 = S ∧ ((E = exA ∧ (n < 0 ∨ ¬ (0 ≤ w ∧ w < 3))))) := by
  refine bodyX (by decide) rfl (Nat.le_of_ble_eq_true rfl) ?_
  intro p e s m args below meth c ls hC hU hZ hne hr hlk hnm hsz hP hS hl
  have hx := hC.1
  have hb := hC.2.1
  refine lv_lload_n hx hb dX6_part_0 rfl (lv_at hl 1 rfl) ?_
  refine lv_lconst (v := 0) hx hb dX6_part_1 rfl ?_
  refine W.lcmp hx hb dX6_part_2 ?_
  refine lv_if_lt (tgt := 14) hx hb dX6_part_3 (by decide) (fun c_3 => ?_) (fun c_3 => ?_)
  · replace c_3 := lc_lt.mp c_3
    exact g_thrA (is := 194) (text := "a number below 0, or no such what") hC hls hZ hne hlk hP hS hl.1 (by decide) dX6_part_14 dX6_part_17 dX6_part_18 dX6_part_20 dX6_part_23 ⟨by decide, by decide⟩ ⟨by decide, by decide⟩ ⟨by decide, by decide⟩ (⟨rfl, rfl, by first | exact Or.inl c_3 | exact Or.inr (th0 c_11)⟩)
  · replace c_3 := fun h => c_3 (lc_lt.mpr h)
    refine lv_iload_n hx hb dX6_part_6 rfl (lv_at hl 2 rfl) ?_
    refine lv_iconst (v := 3) hx hb dX6_part_7 (by decide) ?_
    refine g_callS (As := [.int _, .int _]) (rest := []) hC hU hP hS hl.1 (c_X6_isWithin l N0 D cy _ _ _ _) mL_X6_43 sT_X6_isWithin iN_X6 cD_X6_isWithin ⟨by decide, by decide, rfl⟩ ⟨by decide, by decide⟩ ⟨by decide, by decide⟩ rfl (Nat.le_of_ble_eq_true rfl) dX6_part_8 (fun v S1 H locs hw hP hz hS => ?_)
    obtain ⟨rfl, hS1, hz2⟩ := hw
    replace hS1 := hS1.symm
    subst hS1
    replace hsz := hz2.trans hsz
    refine lv_if_ne (tgt := 24) hx hb dX6_part_11 (by decide) (fun c_11 => ?_) (fun c_11 => ?_)
    · refine lv_iload_n hx hb dX6_part_24 rfl (lv_at hl 2 rfl) ?_
      refine g_ls2 (t0 := 52) (t1 := 57) (dt := 66) (v0 := 0) (v1 := 1) hC dX6_part_25 (by decide) (by decide) (by decide) (by decide) (by decide) (by decide) (fun c_25 => ?_) (fun c_25 => ?_) (fun c_25 => ?_)
      · refine lv_lload_n hx hb dX6_part_52 rfl (lv_at hl 1 rfl) ?_
        refine lv_bipush (v := 23) hx hb dX6_part_53 (by decide) ?_
        refine lv_lshr hx hb dX6_part_55 rfl ?_
        exact vx_ret (g_lret hC hP hS hr hlk (by decide) (by decide) (⟨hsz, rfl, c_3, th1 c_11, by unfold cpV; rw [if_pos c_25]⟩) dX6_part_56)
      · refine lv_lload_n hx hb dX6_part_57 rfl (lv_at hl 1 rfl) ?_
        refine lv_bipush (v := 10) hx hb dX6_part_58 (by decide) ?_
        refine lv_lshr hx hb dX6_part_60 rfl ?_
        refine lv_ldc2 hx hb hC.2.2.2.1 (hC.2.2.2.2.1 _ kJ_X6_196) dX6_part_61 ?_
        refine lv_land hx hb dX6_part_64 ?_
        exact vx_ret (g_lret hC hP hS hr hlk (by decide) (by decide) (⟨hsz, rfl, c_3, th1 c_11, by unfold cpV; rw [if_neg (by rw [c_25]; decide), if_pos c_25]⟩) dX6_part_65)
      · refine lv_lload_n hx hb dX6_part_66 rfl (lv_at hl 1 rfl) ?_
        refine lv_ldc2 hx hb hC.2.2.2.1 (hC.2.2.2.2.1 _ kJ_X6_198) dX6_part_67 ?_
        refine lv_land hx hb dX6_part_70 ?_
        exact vx_ret (g_lret hC hP hS hr hlk (by decide) (by decide) (⟨hsz, rfl, c_3, th1 c_11, by unfold cpV; rw [if_neg c_25.1, if_neg c_25.2]⟩) dX6_part_71)
    · exact g_thrA (is := 194) (text := "a number below 0, or no such what") hC hls hZ hne hlk hP hS hl.1 (by decide) dX6_part_14 dX6_part_17 dX6_part_18 dX6_part_20 dX6_part_23 ⟨by decide, by decide⟩ ⟨by decide, by decide⟩ ⟨by decide, by decide⟩ (⟨rfl, rfl, by first | exact Or.inl c_3 | exact Or.inr (th0 c_11)⟩)

