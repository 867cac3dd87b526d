theorem th0 {P : Prop} {_ : Decidable P} (h : (if P then (1 : Int32) else 0) = 0) : ¬ P := fun hp => by rw [if_pos hp] at h; exact absurd h (by decide)
theorem isN_nat {i : Int32} {L : Nat} (hL : L < 2 ^ 31) (h : 0 ≤ i ∧ i < nI L) : ∃ k, k < L ∧ i = nI k := by
  obtain ⟨j, hj, e⟩ := nI_of (Int32.not_lt.mpr h.1)
  subst e
  exact ⟨j, (nI_ltI hj hL).mp h.2, rfl⟩
theorem rm5 {L : Nat} {q : Int32} {n : Nat} (hq : q = nI n) (hn : n ≤ 5) (hL : L ≤ 90) : (nI L + q ≤ 90) ↔ L + n ≤ 90 := by
  subst hq
  rw [nI_add]
  exact nI_leI (b := 90) (by omega) (by decide)
def icV (S : gS) (a : Nat) (w : Int32) : Int64 := if w = 0 then (if gR S a 11 = none then 0 else 1) else if w = 1 then (gI S a 3).toInt64 else if w = 6 then (gI S a 10).toInt64 else if w = 7 then gJ S a 14 else (match gR S a 11 with | none => -1 | some h => thV S a h ((gR S h 2).getD 0) w)
def clV (S : gS) (a : Nat) (w : Int32) : Int32 := if w = 0 then gI S a 0 else if w = 1 then gI S a 1 else if w = 2 then gI S a 2 else if w = 3 then gI S a 3 else if w = 4 then gI S a 4 else gI S a 5
def csV (S : gS) (nd : Nat → Nat) (nw : Nat) (w : Int32) : Int64 := if cUp S nd 5 < 3 then -1 else if gI S nw 1 = -1 then -1 else if w = 0 then (gI S nw 1).toInt64 else if w = 1 then (gI S nw 2).toInt64 else gJ S nw 3
def cpV (x : Int64) (w : Int32) : Int64 := if w = 0 then x >>> ((23 : Int32).toInt64 &&& 63) else if w = 1 then (x >>> ((10 : Int32).toInt64 &&& 63)) &&& 8191 else x &&& 1023
set_option maxRecDepth 100000 in
set_option maxHeartbeats 4000000 in
theorem c_X6_clock (l : Launch) (hls : l.stackTraces = false) (N0 : Nat) (D : va_G) (cy : Nat → ClassId) (S : gS) (sz : Nat) (x is : Nat) (f : Nat → Nat) (hxk : gK S x = 7) (his : gR S x 0 = some is) (hisk : gK S is = 12) (hisn : gn S is = 8) (hf : ∀ k, k < 8 → gR S is k = some (f k) ∧ gK S (f k) = 2) (p0 : Int32) (t : Int64) : gMX l yX6_clock cX6_clock 4 (none : Option FieldType) { frames := 6, cells := 1, slots := 6, locals := 90 } N0 D cy [.ref x, .int p0, .long t] S sz (fun v S1 z => v = none ∧ z = sz ∧ ∃ k, k < 8 ∧ p0 = nI k ∧ ¬ (t < 0 ∨ 2199023255551 < t) ∧ S1 = sJ S (f k) 2 t) (fun E S1 => S1 = S ∧ ((E = exO ∧ ¬ (0 ≤ p0 ∧ p0 < 8)) ∨ (E = exA ∧ ∃ k, k < 8 ∧ p0 = nI k ∧ (t < 0 ∨ 2199023255551 < t)))) := by
  refine bodyX (by decide) rfl (Nat.le_of_ble_eq_true rfl) ?_
  intro p e s m args below meth c ls hC hU hZ hne hr hlk hnm hsz hP hS hl
  have hx := hC.1
  have hb := hC.2.1
  refine lv_iload_n hx hb dX6_clock_0 rfl (lv_at hl 1 rfl) ?_
  refine lv_bipush (v := 8) hx hb dX6_clock_1 (by decide) ?_
  refine g_callS (As := [.int _, .int _]) (rest := []) hC hU hP hS hl.1 (c_X6_isWithin l N0 D cy _ _ _ _) mL_X6_43 sT_X6_isWithin iN_X6 cD_X6_isWithin ⟨by decide, by decide, rfl⟩ ⟨by decide, by decide⟩ ⟨by decide, by decide⟩ rfl (Nat.le_of_ble_eq_true rfl) dX6_clock_3 (fun v S1 H locs hw hP hz hS => ?_)
  obtain ⟨rfl, hS1, hz2⟩ := hw
  replace hS1 := hS1.symm
  subst hS1
  replace hsz := hz2.trans hsz
  refine lv_if_ne (tgt := 19) hx hb dX6_clock_6 (by decide) (fun c_6 => ?_) (fun c_6 => ?_)
  · obtain ⟨k, hk, rfl⟩ := isI_nat (th1 c_6)
    refine lv_lload_n hx hb dX6_clock_19 rfl (lv_at hl 2 rfl) ?_
    refine lv_lconst (v := 0) hx hb dX6_clock_20 rfl ?_
    refine W.lcmp hx hb dX6_clock_21 ?_
    refine lv_if_lt (tgt := 33) hx hb dX6_clock_22 (by decide) (fun c_22 => ?_) (fun c_22 => ?_)
    · replace c_22 := lc_lt.mp c_22
      exact g_thrA (is := 58) (text := "no time") hC hls hZ hne hlk hP hS hl.1 (by decide) dX6_clock_33 dX6_clock_36 dX6_clock_37 dX6_clock_39 dX6_clock_42 ⟨by decide, by decide⟩ ⟨by decide, by decide⟩ ⟨by decide, by decide⟩ (⟨rfl, Or.inr ⟨rfl, k, hk, rfl, by first | exact Or.inl c_22 | exact Or.inr (Int64.not_le.mp c_30)⟩⟩)
    · replace c_22 := fun h => c_22 (lc_lt.mpr h)
      refine lv_lload_n hx hb dX6_clock_25 rfl (lv_at hl 2 rfl) ?_
      refine lv_ldc2 hx hb hC.2.2.2.1 (hC.2.2.2.2.1 _ kJ_X6_54) dX6_clock_26 ?_
      refine W.lcmp hx hb dX6_clock_29 ?_
      refine lv_if_le (tgt := 43) hx hb dX6_clock_30 (by decide) (fun c_30 => ?_) (fun c_30 => ?_)
      · replace c_30 := lc_le.mp c_30
        refine lv_aload_n hx hb dX6_clock_43 rfl (lv_at hl 0 rfl) ?_
        refine gt_X6_11 hC hP (hxk) (his) dX6_clock_44 ?_
        refine lv_iload_n hx hb dX6_clock_47 rfl (lv_at hl 1 rfl) ?_
        refine g_aald hC hP (j := 0) (by decide) (hisk) (by rw [hisn]; exact vp_in_nI hk (by decide)) dX6_clock_48 ?_
        refine g_rf (by rw [nI_clamp (by omega)]; exact (hf k hk).1) ?_
        refine lv_lload_n hx hb dX6_clock_49 rfl (lv_at hl 2 rfl) ?_
        refine pt_X6_61 hC hP hS ((hf k hk).2) dX6_clock_50 (fun H locs hP hz hS => ?_)
        replace hsz := hz.trans hsz
        exact vx_ret (g_vret hC hP hS hr hlk (by decide) (by decide) (⟨rfl, hsz, k, hk, rfl, fun h => h.elim c_22 (fun h => absurd h (Int64.not_lt.mpr c_30)), rfl⟩) dX6_clock_53)
      · replace c_30 := fun h => c_30 (lc_le.mpr h)
        exact g_thrA (is := 58) (text := "no time") hC hls hZ hne hlk hP hS hl.1 (by decide) dX6_clock_33 dX6_clock_36 dX6_clock_37 dX6_clock_39 dX6_clock_42 ⟨by decide, by decide⟩ ⟨by decide, by decide⟩ ⟨by decide, by decide⟩ (⟨rfl, Or.inr ⟨rfl, k, hk, rfl, by first | exact Or.inl c_22 | exact Or.inr (Int64.not_le.mp c_30)⟩⟩)
  · exact g_thrO (is := 49) (text := "no such issuer") hC hls hZ hne hlk hP hS hl.1 (by decide) dX6_clock_9 dX6_clock_12 dX6_clock_13 dX6_clock_15 dX6_clock_18 ⟨by decide, by decide⟩ ⟨by decide, by decide⟩ ⟨by decide, by decide⟩ (⟨rfl, Or.inl ⟨rfl, th0 c_6⟩⟩)

theorem rd1 {r : Option Nat} (h : ¬ (if r = none then (0 : Int32) else 1) = 0) : r ≠ none := fun e => h (by rw [if_pos e])
theorem rd0 {r : Option Nat} (h : (if r = none then (0 : Int32) else 1) = 0) : r = none := by
  by_cases e : r = none
  · exact e
  · rw [if_neg e] at h; exact absurd h (by decide)
set_option maxRecDepth 100000 in
set_option maxHeartbeats 4000000 in
theorem c_X6_start (l : Launch) (hls : l.stackTraces = false) (N0 : Nat) (D : va_G) (cy : Nat → ClassId) (S : gS) (sz : Nat) (x is : Nat) (f : Nat → Nat) (hxk : gK S x = 7) (his : gR S x 0 = some is) (hisk : gK S is = 12) (hisn : gn S is = 8) (hf : ∀ k, k < 8 → gR S is k = some (f k) ∧ gK S (f k) = 2) (po pl L : Nat) (lt : Nat → Nat) (hpo : gR S x 3 = some po) (hpok : gK S po = 5) (hpl : gR S po 0 = some pl) (hplk : gK S pl = 13) (hpln : gn S pl = 91) (hL : gI S po 1 = nI L) (hL2 : L ≤ 90) (hlt : ∀ k, k < 91 → gR S pl k = some (lt k)) (hltk : ∀ k, gK S (lt k) = 3) (un : Nat) (sa : Nat → Nat) (hun : ∀ k, k < 8 → gR S (f k) 1 = some un) (hunk : gK S un = 6) (hsa : ∀ k, k < 8 → gR S (f k) 8 = some (sa k) ∧ gK S (sa k) = 15 ∧ gn S (sa k) = 8) (p0 : Int32) : gMX l yX6_start cX6_start 3 (none : Option FieldType) { frames := 6, cells := 1, slots := 6, locals := 110 } N0 D cy [.ref x, .int p0] S sz (fun v S1 z => v = none ∧ z = sz ∧ ∃ k, k < 8 ∧ p0 = nI k ∧ ¬ (gR S (f k) 11 ≠ none ∨ gI S (f k) 3 ≠ 0 ∨ 90 < L + 5) ∧ S1 = cPL (cPrep S (f k) (sa k) un) po lt L (gI S (f k) 0) (8 * cRound S (f k) + gI S (f k) 0) 5) (fun E S1 => S1 = S ∧ ((E = exO ∧ ¬ (0 ≤ p0 ∧ p0 < 8)) ∨ (E = exS ∧ ∃ k, k < 8 ∧ p0 = nI k ∧ (gR S (f k) 11 ≠ none ∨ gI S (f k) 3 ≠ 0 ∨ 90 < L + 5)))) := by
  refine bodyX (by decide) rfl (Nat.le_of_ble_eq_true rfl) ?_
  intro p e s m args below meth c ls hC hU hZ hne hr hlk hnm hsz hP hS hl
  have hx := hC.1
  have hb := hC.2.1
  refine lv_iload_n hx hb dX6_start_0 rfl (lv_at hl 1 rfl) ?_
  refine lv_bipush (v := 8) hx hb dX6_start_1 (by decide) ?_
  refine g_callS (As := [.int _, .int _]) (rest := []) hC hU hP hS hl.1 (c_X6_isWithin l N0 D cy _ _ _ _) mL_X6_43 sT_X6_isWithin iN_X6 cD_X6_isWithin ⟨by decide, by decide, rfl⟩ ⟨by decide, by decide⟩ ⟨by decide, by decide⟩ rfl (Nat.le_of_ble_eq_true rfl) dX6_start_3 (fun v S1 H locs hw hP hz hS => ?_)
  obtain ⟨rfl, hS1, hz2⟩ := hw
  replace hS1 := hS1.symm
  subst hS1
  replace hsz := hz2.trans hsz
  refine lv_if_ne (tgt := 19) hx hb dX6_start_6 (by decide) (fun c_6 => ?_) (fun c_6 => ?_)
  · obtain ⟨k, hk, rfl⟩ := isI_nat (th1 c_6)
    refine lv_aload_n hx hb dX6_start_19 rfl (lv_at hl 0 rfl) ?_
    refine gt_X6_11 hC hP (hxk) (his) dX6_start_20 ?_
    refine lv_iload_n hx hb dX6_start_23 rfl (lv_at hl 1 rfl) ?_
    refine g_aald hC hP (j := 0) (by decide) (hisk) (by rw [hisn]; exact vp_in_nI hk (by decide)) dX6_start_24 ?_
    refine g_rf (by rw [nI_clamp (by omega)]; exact (hf k hk).1) ?_
    refine lv_astore_n (lv' := [(2, .ref _), (0, .ref _), (1, .int _)]) hx hb dX6_start_25 rfl hl (by decide) rfl (fun ls hl => ?_)
    refine lv_aload_n hx hb dX6_start_26 rfl (lv_at hl 0 rfl) ?_
    refine g_callV (As := []) (rest := []) hC hU hP hS hl.1 (c_X1_isReady l N0 D cy _ _ (f k) (hf k hk).2) mL_X6_65 iM_X1_isReady sL_X1_isReady iN_X1 cD_X1_isReady ⟨by decide, by decide, rfl⟩ ⟨by decide, by decide⟩ ⟨by decide, by decide⟩ (ci := 1) rfl (by decide) ((hf k hk).2) rfl (Nat.le_of_ble_eq_true rfl) dX6_start_27 (fun v S1 H locs hw hP hz hS => ?_)
    obtain ⟨rfl, hS1, hz2⟩ := hw
    replace hS1 := hS1.symm
    subst hS1
    replace hsz := hz2.trans hsz
    refine lv_if_ne (tgt := 51) hx hb dX6_start_30 (by decide) (fun c_30 => ?_) (fun c_30 => ?_)
    · exact g_thrS (is := 79) (text := "ready, or at an attempt, or too many letters") hC hls hZ hne hlk hP hS hl.1 (by decide) dX6_start_51 dX6_start_54 dX6_start_55 dX6_start_57 dX6_start_60 ⟨by decide, by decide⟩ ⟨by decide, by decide⟩ ⟨by decide, by decide⟩ (⟨rfl, Or.inr ⟨rfl, k, hk, rfl, by first | exact Or.inl (rd1 c_30) | exact Or.inr (Or.inl c_37) | exact Or.inr (Or.inr (by have := mt (rm5 (q := 5) (n := 5) rfl (by decide) hL2).mpr (th0 c_48); omega))⟩⟩)
    · refine lv_aload_n hx hb dX6_start_33 rfl (lv_at hl 0 rfl) ?_
      refine gt_X6_69 hC hP ((hf k hk).2) dX6_start_34 ?_
      refine lv_if_ne (tgt := 51) hx hb dX6_start_37 (by decide) (fun c_37 => ?_) (fun c_37 => ?_)
      · exact g_thrS (is := 79) (text := "ready, or at an attempt, or too many letters") hC hls hZ hne hlk hP hS hl.1 (by decide) dX6_start_51 dX6_start_54 dX6_start_55 dX6_start_57 dX6_start_60 ⟨by decide, by decide⟩ ⟨by decide, by decide⟩ ⟨by decide, by decide⟩ (⟨rfl, Or.inr ⟨rfl, k, hk, rfl, by first | exact Or.inl (rd1 c_30) | exact Or.inr (Or.inl c_37) | exact Or.inr (Or.inr (by have := mt (rm5 (q := 5) (n := 5) rfl (by decide) hL2).mpr (th0 c_48); omega))⟩⟩)
      · refine lv_aload_n hx hb dX6_start_40 rfl (lv_at hl 1 rfl) ?_
        refine gt_X6_35 hC hP (hxk) (hpo) dX6_start_41 ?_
        refine lv_iconst (v := 5) hx hb dX6_start_44 (by decide) ?_
        refine g_callV (As := [.int _]) (rest := []) hC hU hP hS hl.1 (c_X4_hasRoomFor l N0 D cy _ _ po _ hpok) mL_X6_73 iM_X4_hasRoomFor sL_X4_hasRoomFor iN_X4 cD_X4_hasRoomFor ⟨by decide, by decide, rfl⟩ ⟨by decide, by decide⟩ ⟨by decide, by decide⟩ (ci := 4) rfl (by decide) (hpok) rfl (Nat.le_of_ble_eq_true rfl) dX6_start_45 (fun v S1 H locs hw hP hz hS => ?_)
        obtain ⟨rfl, hS1, hz2⟩ := hw
        replace hS1 := hS1.symm
        subst hS1
        replace hsz := hz2.trans hsz
        rw [hL]
        refine lv_if_ne (tgt := 61) hx hb dX6_start_48 (by decide) (fun c_48 => ?_) (fun c_48 => ?_)
        · refine lv_aload_n hx hb dX6_start_61 rfl (lv_at hl 1 rfl) ?_
          refine lv_aload_n hx hb dX6_start_62 rfl (lv_at hl 0 rfl) ?_
          refine g_callV (As := [.ref _]) (rest := []) hC hU hP hS hl.1 (c_X6_attempt l N0 D cy _ _ x (f k) po pl L lt hxk (hf k hk).2 hpo hpok hpl hplk hpln hL ((rm5 (n := 5) rfl (by decide) hL2).mp (th1 c_48)) hlt hltk (sa k) un (hsa k hk).1 (hun k hk) (hsa k hk).2.1 (hsa k hk).2.2 hunk) mL_X6_82 iM_X6_attempt sL_X6_attempt iN_X6 cD_X6_attempt ⟨by decide, by decide, rfl⟩ ⟨by decide, by decide⟩ ⟨by decide, by decide⟩ (ci := 6) rfl (by decide) (hxk) rfl (Nat.le_of_ble_eq_true rfl) dX6_start_63 (fun v S1 H locs hw hP hz hS => ?_)
          obtain ⟨rfl, hS1, hz2⟩ := hw
          replace hS1 := hS1.symm
          subst hS1
          replace hsz := hz2.trans hsz
          exact vx_ret (g_vret hC hP hS hr hlk (by decide) (by decide) (⟨rfl, hsz, k, hk, rfl, fun h => h.elim (fun h => absurd h (not_not_intro (rd0 c_30))) (fun h => h.elim (fun h => h c_37) (fun h => by have := (rm5 (q := 5) (n := 5) rfl (by decide) hL2).mp (th1 c_48); omega)), rfl⟩) dX6_start_66)
        · exact g_thrS (is := 79) (text := "ready, or at an attempt, or too many letters") hC hls hZ hne hlk hP hS hl.1 (by decide) dX6_start_51 dX6_start_54 dX6_start_55 dX6_start_57 dX6_start_60 ⟨by decide, by decide⟩ ⟨by decide, by decide⟩ ⟨by decide, by decide⟩ (⟨rfl, Or.inr ⟨rfl, k, hk, rfl, by first | exact Or.inl (rd1 c_30) | exact Or.inr (Or.inl c_37) | exact Or.inr (Or.inr (by have := mt (rm5 (q := 5) (n := 5) rfl (by decide) hL2).mpr (th0 c_48); omega))⟩⟩)
  · exact g_thrO (is := 49) (text := "no such issuer") hC hls hZ hne hlk hP hS hl.1 (by decide) dX6_start_9 dX6_start_12 dX6_start_13 dX6_start_15 dX6_start_18 ⟨by decide, by decide⟩ ⟨by decide, by decide⟩ ⟨by decide, by decide⟩ (⟨rfl, Or.inl ⟨rfl, th0 c_6⟩⟩)

set_option maxRecDepth 100000 in
set_option maxHeartbeats 4000000 in
theorem c_X6_prolong (l : Launch) (hls : l.stackTraces = false) (N0 : Nat) (D : va_G) (cy : Nat → ClassId) (S : gS) (sz : Nat) (x is : Nat) (f : Nat → Nat) (hxk : gK S x = 7) (his : gR S x 0 = some is) (hisk : gK S is = 12) (hisn : gn S is = 8) (hf : ∀ k, k < 8 → gR S is k = some (f k) ∧ gK S (f k) = 2) (po pl L : Nat) (lt : Nat → Nat) (hpo : gR S x 3 = some po) (hpok : gK S po = 5) (hpl : gR S po 0 = some pl) (hplk : gK S pl = 13) (hpln : gn S pl = 91) (hL : gI S po 1 = nI L) (hL2 : L ≤ 90) (hlt : ∀ k, k < 91 → gR S pl k = some (lt k)) (hltk : ∀ k, gK S (lt k) = 3) (un : Nat) (sa : Nat → Nat) (hun : ∀ k, k < 8 → gR S (f k) 1 = some un) (hunk : gK S un = 6) (hsa : ∀ k, k < 8 → gR S (f k) 8 = some (sa k) ∧ gK S (sa k) = 15 ∧ gn S (sa k) = 8) (p0 : Int32) : gMX l yX6_prolong cX6_prolong 3 (none : Option FieldType) { frames := 6, cells := 1, slots := 6, locals := 110 } N0 D cy [.ref x, .int p0] S sz (fun v S1 z => v = none ∧ z = sz ∧ ∃ k, k < 8 ∧ p0 = nI k ∧ ¬ (gR S (f k) 11 = none ∨ gI S (f k) 3 ≠ 0 ∨ 90 < L + 5) ∧ S1 = cPL (cPrep S (f k) (sa k) un) po lt L (gI S (f k) 0) (8 * cRound S (f k) + gI S (f k) 0) 5) (fun E S1 => S1 = S ∧ ((E = exO ∧ ¬ (0 ≤ p0 ∧ p0 < 8)) ∨ (E = exS ∧ ∃ k, k < 8 ∧ p0 = nI k ∧ (gR S (f k) 11 = none ∨ gI S (f k) 3 ≠ 0 ∨ 90 < L + 5)))) := by
  refine bodyX (by decide) rfl (Nat.le_of_ble_eq_true rfl) ?_
  intro p e s m args below meth c ls hC hU hZ hne hr hlk hnm hsz hP hS hl
  have hx := hC.1
  have hb := hC.2.1
  refine lv_iload_n hx hb dX6_prolong_0 rfl (lv_at hl 1 rfl) ?_
  refine lv_bipush (v := 8) hx hb dX6_prolong_1 (by decide) ?_
  refine g_callS (As := [.int _, .int _]) (rest := []) hC hU hP hS hl.1 (c_X6_isWithin l N0 D cy _ _ _ _) mL_X6_43 sT_X6_isWithin iN_X6 cD_X6_isWithin ⟨by decide, by decide, rfl⟩ ⟨by decide, by decide⟩ ⟨by decide, by decide⟩ rfl (Nat.le_of_ble_eq_true rfl) dX6_prolong_3 (fun v S1 H locs hw hP hz hS => ?_)
  obtain ⟨rfl, hS1, hz2⟩ := hw
  replace hS1 := hS1.symm
  subst hS1
  replace hsz := hz2.trans hsz
  refine lv_if_ne (tgt := 19) hx hb dX6_prolong_6 (by decide) (fun c_6 => ?_) (fun c_6 => ?_)
  · obtain ⟨k, hk, rfl⟩ := isI_nat (th1 c_6)
    refine lv_aload_n hx hb dX6_prolong_19 rfl (lv_at hl 0 rfl) ?_
    refine gt_X6_11 hC hP (hxk) (his) dX6_prolong_20 ?_
    refine lv_iload_n hx hb dX6_prolong_23 rfl (lv_at hl 1 rfl) ?_
    refine g_aald hC hP (j := 0) (by decide) (hisk) (by rw [hisn]; exact vp_in_nI hk (by decide)) dX6_prolong_24 ?_
    refine g_rf (by rw [nI_clamp (by omega)]; exact (hf k hk).1) ?_
    refine lv_astore_n (lv' := [(2, .ref _), (0, .ref _), (1, .int _)]) hx hb dX6_prolong_25 rfl hl (by decide) rfl (fun ls hl => ?_)
    refine lv_aload_n hx hb dX6_prolong_26 rfl (lv_at hl 0 rfl) ?_
    refine g_callV (As := []) (rest := []) hC hU hP hS hl.1 (c_X1_isReady l N0 D cy _ _ (f k) (hf k hk).2) mL_X6_65 iM_X1_isReady sL_X1_isReady iN_X1 cD_X1_isReady ⟨by decide, by decide, rfl⟩ ⟨by decide, by decide⟩ ⟨by decide, by decide⟩ (ci := 1) rfl (by decide) ((hf k hk).2) rfl (Nat.le_of_ble_eq_true rfl) dX6_prolong_27 (fun v S1 H locs hw hP hz hS => ?_)
    obtain ⟨rfl, hS1, hz2⟩ := hw
    replace hS1 := hS1.symm
    subst hS1
    replace hsz := hz2.trans hsz
    refine lv_if_eq (tgt := 51) hx hb dX6_prolong_30 (by decide) (fun c_30 => ?_) (fun c_30 => ?_)
    · exact g_thrS (is := 86) (text := "not ready, or at an attempt, or too many letters") hC hls hZ hne hlk hP hS hl.1 (by decide) dX6_prolong_51 dX6_prolong_54 dX6_prolong_55 dX6_prolong_57 dX6_prolong_60 ⟨by decide, by decide⟩ ⟨by decide, by decide⟩ ⟨by decide, by decide⟩ (⟨rfl, Or.inr ⟨rfl, k, hk, rfl, by first | exact Or.inl (rd0 c_30) | exact Or.inr (Or.inl c_37) | exact Or.inr (Or.inr (by have := mt (rm5 (q := 5) (n := 5) rfl (by decide) hL2).mpr (th0 c_48); omega))⟩⟩)
    · refine lv_aload_n hx hb dX6_prolong_33 rfl (lv_at hl 0 rfl) ?_
      refine gt_X6_69 hC hP ((hf k hk).2) dX6_prolong_34 ?_
      refine lv_if_ne (tgt := 51) hx hb dX6_prolong_37 (by decide) (fun c_37 => ?_) (fun c_37 => ?_)
      · exact g_thrS (is := 86) (text := "not ready, or at an attempt, or too many letters") hC hls hZ hne hlk hP hS hl.1 (by decide) dX6_prolong_51 dX6_prolong_54 dX6_prolong_55 dX6_prolong_57 dX6_prolong_60 ⟨by decide, by decide⟩ ⟨by decide, by decide⟩ ⟨by decide, by decide⟩ (⟨rfl, Or.inr ⟨rfl, k, hk, rfl, by first | exact Or.inl (rd0 c_30) | exact Or.inr (Or.inl c_37) | exact Or.inr (Or.inr (by have := mt (rm5 (q := 5) (n := 5) rfl (by decide) hL2).mpr (th0 c_48); omega))⟩⟩)
      · refine lv_aload_n hx hb dX6_prolong_40 rfl (lv_at hl 1 rfl) ?_
        refine gt_X6_35 hC hP (hxk) (hpo) dX6_prolong_41 ?_
        refine lv_iconst (v := 5) hx hb dX6_prolong_44 (by decide) ?_
        refine g_callV (As := [.int _]) (rest := []) hC hU hP hS hl.1 (c_X4_hasRoomFor l N0 D cy _ _ po _ hpok) mL_X6_73 iM_X4_hasRoomFor sL_X4_hasRoomFor iN_X4 cD_X4_hasRoomFor ⟨by decide, by decide, rfl⟩ ⟨by decide, by decide⟩ ⟨by decide, by decide⟩ (ci := 4) rfl (by decide) (hpok) rfl (Nat.le_of_ble_eq_true rfl) dX6_prolong_45 (fun v S1 H locs hw hP hz hS => ?_)
        obtain ⟨rfl, hS1, hz2⟩ := hw
        replace hS1 := hS1.symm
        subst hS1
        replace hsz := hz2.trans hsz
        rw [hL]
        refine lv_if_ne (tgt := 61) hx hb dX6_prolong_48 (by decide) (fun c_48 => ?_) (fun c_48 => ?_)
        · refine lv_aload_n hx hb dX6_prolong_61 rfl (lv_at hl 1 rfl) ?_
          refine lv_aload_n hx hb dX6_prolong_62 rfl (lv_at hl 0 rfl) ?_
          refine g_callV (As := [.ref _]) (rest := []) hC hU hP hS hl.1 (c_X6_attempt l N0 D cy _ _ x (f k) po pl L lt hxk (hf k hk).2 hpo hpok hpl hplk hpln hL ((rm5 (n := 5) rfl (by decide) hL2).mp (th1 c_48)) hlt hltk (sa k) un (hsa k hk).1 (hun k hk) (hsa k hk).2.1 (hsa k hk).2.2 hunk) mL_X6_82 iM_X6_attempt sL_X6_attempt iN_X6 cD_X6_attempt ⟨by decide, by decide, rfl⟩ ⟨by decide, by decide⟩ ⟨by decide, by decide⟩ (ci := 6) rfl (by decide) (hxk) rfl (Nat.le_of_ble_eq_true rfl) dX6_prolong_63 (fun v S1 H locs hw hP hz hS => ?_)
          obtain ⟨rfl, hS1, hz2⟩ := hw
          replace hS1 := hS1.symm
          subst hS1
          replace hsz := hz2.trans hsz
          exact vx_ret (g_vret hC hP hS hr hlk (by decide) (by decide) (⟨rfl, hsz, k, hk, rfl, fun h => h.elim (fun h => absurd h (rd1 c_30)) (fun h => h.elim (fun h => h c_37) (fun h => by have := (rm5 (q := 5) (n := 5) rfl (by decide) hL2).mp (th1 c_48); omega)), rfl⟩) dX6_prolong_66)
        · exact g_thrS (is := 86) (text := "not ready, or at an attempt, or too many letters") hC hls hZ hne hlk hP hS hl.1 (by decide) dX6_prolong_51 dX6_prolong_54 dX6_prolong_55 dX6_prolong_57 dX6_prolong_60 ⟨by decide, by decide⟩ ⟨by decide, by decide⟩ ⟨by decide, by decide⟩ (⟨rfl, Or.inr ⟨rfl, k, hk, rfl, by first | exact Or.inl (rd0 c_30) | exact Or.inr (Or.inl c_37) | exact Or.inr (Or.inr (by have := mt (rm5 (q := 5) (n := 5) rfl (by decide) hL2).mpr (th0 c_48); omega))⟩⟩)
  · exact g_thrO (is := 49) (text := "no such issuer") hC hls hZ hne hlk hP hS hl.1 (by decide) dX6_prolong_9 dX6_prolong_12 dX6_prolong_13 dX6_prolong_15 dX6_prolong_18 ⟨by decide, by decide⟩ ⟨by decide, by decide⟩ ⟨by decide, by decide⟩ (⟨rfl, Or.inl ⟨rfl, th0 c_6⟩⟩)

set_option maxRecDepth 100000 in
set_option maxHeartbeats 4000000 in
theorem c_X6_crash (l : Launch) (hls : l.stackTraces = false) (N0 : Nat) (D : va_G) (cy : Nat → ClassId) (S : gS) (sz : Nat) (x is : Nat) (f : Nat → Nat) (hxk : gK S x = 7) (his : gR S x 0 = some is) (hisk : gK S is = 12) (hisn : gn S is = 8) (hf : ∀ k, k < 8 → gR S is k = some (f k) ∧ gK S (f k) = 2) (p0 : Int32) : gMX l yX6_crash cX6_crash 2 (none : Option FieldType) { frames := 6, cells := 1, slots := 6, locals := 90 } N0 D cy [.ref x, .int p0] S sz (fun v S1 z => v = none ∧ z = sz ∧ ∃ k, k < 8 ∧ p0 = nI k ∧ S1 = sI (sJ (sR (sI (sI S (f k) 3 0) (f k) 5 0) (f k) 11 none) (f k) 12 (-1)) (f k) 13 0) (fun E S1 => S1 = S ∧ ((E = exO ∧ ¬ (0 ≤ p0 ∧ p0 < 8)))) := by
  refine bodyX (by decide) rfl (Nat.le_of_ble_eq_true rfl) ?_
  intro p e s m args below meth c ls hC hU hZ hne hr hlk hnm hsz hP hS hl
  have hx := hC.1
  have hb := hC.2.1
  refine lv_iload_n hx hb dX6_crash_0 rfl (lv_at hl 1 rfl) ?_
  refine lv_bipush (v := 8) hx hb dX6_crash_1 (by decide) ?_
  refine g_callS (As := [.int _, .int _]) (rest := []) hC hU hP hS hl.1 (c_X6_isWithin l N0 D cy _ _ _ _) mL_X6_43 sT_X6_isWithin iN_X6 cD_X6_isWithin ⟨by decide, by decide, rfl⟩ ⟨by decide, by decide⟩ ⟨by decide, by decide⟩ rfl (Nat.le_of_ble_eq_true rfl) dX6_crash_3 (fun v S1 H locs hw hP hz hS => ?_)
  obtain ⟨rfl, hS1, hz2⟩ := hw
  replace hS1 := hS1.symm
  subst hS1
  replace hsz := hz2.trans hsz
  refine lv_if_ne (tgt := 19) hx hb dX6_crash_6 (by decide) (fun c_6 => ?_) (fun c_6 => ?_)
  · obtain ⟨k, hk, rfl⟩ := isI_nat (th1 c_6)
    refine lv_aload_n hx hb dX6_crash_19 rfl (lv_at hl 0 rfl) ?_
    refine gt_X6_11 hC hP (hxk) (his) dX6_crash_20 ?_
    refine lv_iload_n hx hb dX6_crash_23 rfl (lv_at hl 1 rfl) ?_
    refine g_aald hC hP (j := 0) (by decide) (hisk) (by rw [hisn]; exact vp_in_nI hk (by decide)) dX6_crash_24 ?_
    refine g_rf (by rw [nI_clamp (by omega)]; exact (hf k hk).1) ?_
    refine g_callV (As := []) (rest := []) hC hU hP hS hl.1 (c_X1_breakDown l N0 D cy _ _ (f k) (hf k hk).2) mL_X6_88 iM_X1_breakDown sL_X1_breakDown iN_X1 cD_X1_breakDown ⟨by decide, by decide, rfl⟩ ⟨by decide, by decide⟩ ⟨by decide, by decide⟩ (ci := 1) rfl (by decide) ((hf k hk).2) rfl (Nat.le_of_ble_eq_true rfl) dX6_crash_25 (fun v S1 H locs hw hP hz hS => ?_)
    obtain ⟨rfl, hS1, hz2⟩ := hw
    replace hS1 := hS1.symm
    subst hS1
    replace hsz := hz2.trans hsz
    exact vx_ret (g_vret hC hP hS hr hlk (by decide) (by decide) (⟨rfl, hsz, k, hk, rfl, rfl⟩) dX6_crash_28)
  · exact g_thrO (is := 49) (text := "no such issuer") hC hls hZ hne hlk hP hS hl.1 (by decide) dX6_crash_9 dX6_crash_12 dX6_crash_13 dX6_crash_15 dX6_crash_18 ⟨by decide, by decide⟩ ⟨by decide, by decide⟩ ⟨by decide, by decide⟩ (⟨rfl, rfl, th0 c_6⟩)

set_option maxRecDepth 100000 in
set_option maxHeartbeats 4000000 in
theorem c_X6_node (l : Launch) (hls : l.stackTraces = false) (N0 : Nat) (D : va_G) (cy : Nat → ClassId) (S : gS) (sz : Nat) (x ns : Nat) (g : Nat → Nat) (hxk : gK S x = 7) (hns : gR S x 1 = some ns) (hnsk : gK S ns = 14) (hnsn : gn S ns = 5) (hg : ∀ n, n < 5 → gR S ns n = some (g n) ∧ gK S (g n) = 4) (p0 u : Int32) (hu : u = 0 ∨ u = 1) : gMX l yX6_node cX6_node 3 (none : Option FieldType) { frames := 6, cells := 1, slots := 6, locals := 90 } N0 D cy [.ref x, .int p0, .int u] S sz (fun v S1 z => v = none ∧ z = sz ∧ ∃ k, k < 5 ∧ p0 = nI k ∧ S1 = sI S (g k) 0 u) (fun E S1 => S1 = S ∧ ((E = exO ∧ ¬ (0 ≤ p0 ∧ p0 < 5)))) := by
  refine bodyX (by decide) rfl (Nat.le_of_ble_eq_true rfl) ?_
  intro p e s m args below meth c ls hC hU hZ hne hr hlk hnm hsz hP hS hl
  have hx := hC.1
  have hb := hC.2.1
  refine lv_iload_n hx hb dX6_node_0 rfl (lv_at hl 1 rfl) ?_
  refine lv_iconst (v := 5) hx hb dX6_node_1 (by decide) ?_
  refine g_callS (As := [.int _, .int _]) (rest := []) hC hU hP hS hl.1 (c_X6_isWithin l N0 D cy _ _ _ _) mL_X6_43 sT_X6_isWithin iN_X6 cD_X6_isWithin ⟨by decide, by decide, rfl⟩ ⟨by decide, by decide⟩ ⟨by decide, by decide⟩ rfl (Nat.le_of_ble_eq_true rfl) dX6_node_2 (fun v S1 H locs hw hP hz hS => ?_)
  obtain ⟨rfl, hS1, hz2⟩ := hw
  replace hS1 := hS1.symm
  subst hS1
  replace hsz := hz2.trans hsz
  refine lv_if_ne (tgt := 18) hx hb dX6_node_5 (by decide) (fun c_5 => ?_) (fun c_5 => ?_)
  · obtain ⟨k, hk, rfl⟩ := isN_nat (L := 5) (by decide) (th1 c_5)
    refine lv_aload_n hx hb dX6_node_18 rfl (lv_at hl 0 rfl) ?_
    refine gt_X6_17 hC hP (hxk) (hns) dX6_node_19 ?_
    refine lv_iload_n hx hb dX6_node_22 rfl (lv_at hl 1 rfl) ?_
    refine g_aald hC hP (j := 2) (by decide) (hnsk) (by rw [hnsn]; exact vp_in_nI hk (by decide)) dX6_node_23 ?_
    refine g_rf (by rw [nI_clamp (by omega)]; exact (hg k hk).1) ?_
    refine lv_iload_n hx hb dX6_node_24 rfl (lv_at hl 2 rfl) ?_
    refine pt_X6_93 hC hP hS ((hg k hk).2) (hu) dX6_node_25 (fun H locs hP hz hS => ?_)
    replace hsz := hz.trans hsz
    exact vx_ret (g_vret hC hP hS hr hlk (by decide) (by decide) (⟨rfl, hsz, k, hk, rfl, rfl⟩) dX6_node_28)
  · exact g_thrO (is := 91) (text := "no such node") hC hls hZ hne hlk hP hS hl.1 (by decide) dX6_node_8 dX6_node_11 dX6_node_12 dX6_node_14 dX6_node_17 ⟨by decide, by decide⟩ ⟨by decide, by decide⟩ ⟨by decide, by decide⟩ (⟨rfl, rfl, th0 c_5⟩)

set_option maxRecDepth 100000 in
set_option maxHeartbeats 4000000 in
theorem c_X6_letters (l : Launch) (N0 : Nat) (D : va_G) (cy : Nat → ClassId) (S : gS) (sz : Nat) (x po : Nat) (hxk : gK S x = 7) (hpo : gR S x 3 = some po) (hpok : gK S po = 5) : gM l yX6_letters cX6_letters 1 (some FieldType.int) { frames := 0, cells := 0, slots := 0, locals := 0 } N0 D cy [.ref x] S sz (fun v S1 z => v = some (.int (gI S po 1)) ∧ S1 = S ∧ z = sz) := by
  refine g_body (by decide) rfl (Nat.le_of_ble_eq_true rfl) ?_
  intro p e s m args below meth c ls hC hU hr hlk hnm hsz hP hS hl
  have hx := hC.1
  have hb := hC.2.1
  refine lv_aload_n hx hb dX6_letters_0 rfl (lv_at hl 0 rfl) ?_
  refine gt_X6_35 hC hP (hxk) (hpo) dX6_letters_1 ?_
  refine gt_X6_97 hC hP (hpok) dX6_letters_4 ?_
  exact g_iret hC hP hS hr hlk (by decide) (by decide) (⟨rfl, rfl, hsz⟩) dX6_letters_7

set_option maxRecDepth 100000 in
set_option maxHeartbeats 4000000 in
theorem c_X6_lose (l : Launch) (hls : l.stackTraces = false) (N0 : Nat) (D : va_G) (cy : Nat → ClassId) (S : gS) (sz : Nat) (x : Nat) (hxk : gK S x = 7) (po pl L : Nat) (lt : Nat → Nat) (hpo : gR S x 3 = some po) (hpok : gK S po = 5) (hpl : gR S po 0 = some pl) (hplk : gK S pl = 13) (hpln : gn S pl = 91) (hL : gI S po 1 = nI L) (hL2 : L ≤ 90) (hlt : ∀ k, k < 91 → gR S pl k = some (lt k)) (hltk : ∀ k, gK S (lt k) = 3) (p0 : Int32) : gMX l yX6_lose cX6_lose 2 (none : Option FieldType) { frames := 6, cells := 1, slots := 6, locals := 90 } N0 D cy [.ref x, .int p0] S sz (fun v S1 z => v = none ∧ z = sz ∧ ∃ k, k < L ∧ p0 = nI k ∧ S1 = sI (sRow S pl 91 (fun j => some (tkf lt k j))) po 1 (gI S po 1 - 1)) (fun E S1 => S1 = S ∧ ((E = exO ∧ ¬ (0 ≤ p0 ∧ p0 < nI L)))) := by
  refine bodyX (by decide) rfl (Nat.le_of_ble_eq_true rfl) ?_
  intro p e s m args below meth c ls hC hU hZ hne hr hlk hnm hsz hP hS hl
  have hx := hC.1
  have hb := hC.2.1
  refine lv_iload_n hx hb dX6_lose_0 rfl (lv_at hl 1 rfl) ?_
  refine lv_aload_n hx hb dX6_lose_1 rfl (lv_at hl 0 rfl) ?_
  refine gt_X6_35 hC hP (hxk) (hpo) dX6_lose_2 ?_
  refine gt_X6_97 hC hP (hpok) dX6_lose_5 ?_
  rw [hL]
  refine g_callS (As := [.int _, .int _]) (rest := []) hC hU hP hS hl.1 (c_X6_isWithin l N0 D cy _ _ _ _) mL_X6_43 sT_X6_isWithin iN_X6 cD_X6_isWithin ⟨by decide, by decide, rfl⟩ ⟨by decide, by decide⟩ ⟨by decide, by decide⟩ rfl (Nat.le_of_ble_eq_true rfl) dX6_lose_8 (fun v S1 H locs hw hP hz hS => ?_)
  obtain ⟨rfl, hS1, hz2⟩ := hw
  replace hS1 := hS1.symm
  subst hS1
  replace hsz := hz2.trans hsz
  refine lv_if_ne (tgt := 24) hx hb dX6_lose_11 (by decide) (fun c_11 => ?_) (fun c_11 => ?_)
  · obtain ⟨k, hk, rfl⟩ := isN_nat (by omega) (th1 c_11)
    refine lv_aload_n hx hb dX6_lose_24 rfl (lv_at hl 0 rfl) ?_
    refine gt_X6_35 hC hP (hxk) (hpo) dX6_lose_25 ?_
    refine lv_iload_n hx hb dX6_lose_28 rfl (lv_at hl 1 rfl) ?_
    refine g_callV (As := [.int _]) (rest := []) hC hU hP hS hl.1 (c_X4_take l N0 D cy _ _ po pl k lt hpok hpl hplk hpln (fun j hj => ⟨hlt j hj, hltk j⟩) (by omega)) mL_X6_111 iM_X4_take sL_X4_take iN_X4 cD_X4_take ⟨by decide, by decide, rfl⟩ ⟨by decide, by decide⟩ ⟨by decide, by decide⟩ (ci := 4) rfl (by decide) (hpok) rfl (Nat.le_of_ble_eq_true rfl) dX6_lose_29 (fun v S1 H locs hw hP hz hS => ?_)
    obtain ⟨rfl, hS1, hz2⟩ := hw
    replace hS1 := hS1.symm
    subst hS1
    replace hsz := hz2.trans hsz
    exact vx_ret (g_vret hC hP hS hr hlk (by decide) (by decide) (⟨rfl, hsz, k, hk, rfl, by rw [hL]⟩) dX6_lose_32)
  · exact g_thrO (is := 100) (text := "no such letter") hC hls hZ hne hlk hP hS hl.1 (by decide) dX6_lose_14 dX6_lose_17 dX6_lose_18 dX6_lose_20 dX6_lose_23 ⟨by decide, by decide⟩ ⟨by decide, by decide⟩ ⟨by decide, by decide⟩ (⟨rfl, rfl, th0 c_11⟩)

def cTwin (S : gS) (po q lt rq rw : Nat) (f : Nat → Nat) : gS := sRow (sR (sI (sI (cSend S po q (gI S lt 0) (gI S lt 1) (gI S lt 2) (gI S lt 3)) q 4 (gI S lt 4)) q 5 (gI S lt 5)) q 6 (some rw)) rq 8 (fun j => some (f j))
set_option maxRecDepth 100000 in
set_option maxHeartbeats 4000000 in
theorem c_X6_twin (l : Launch) (hls : l.stackTraces = false) (N0 : Nat) (D : va_G) (cy : Nat → ClassId) (S : gS) (sz : Nat) (x : Nat) (hxk : gK S x = 7) (po pl L : Nat) (lt : Nat → Nat) (hpo : gR S x 3 = some po) (hpok : gK S po = 5) (hpl : gR S po 0 = some pl) (hplk : gK S pl = 13) (hpln : gn S pl = 91) (hL : gI S po 1 = nI L) (hL2 : L ≤ 90) (hlt : ∀ k, k < 91 → gR S pl k = some (lt k)) (hltk : ∀ k, gK S (lt k) = 3) (rl rw : Nat → Nat) (rf : Nat → Nat → Nat) (hinj : ∀ i j, i < 91 → j < 91 → lt i = lt j → i = j) (hrl : ∀ k, gR S (lt k) 7 = some (rl k) ∧ gK S (rl k) = 15 ∧ gn S (rl k) = 8) (hrw : ∀ k, k < 91 → gR S (lt k) 6 = some (rw k)) (hrf : ∀ k, k < 91 → ∀ j, j < 8 → gR S (rl k) j = some (rf k j) ∧ gK S (rf k j) = 6) (p0 : Int32) : gMX l yX6_twin cX6_twin 2 (none : Option FieldType) { frames := 6, cells := 1, slots := 6, locals := 90 } N0 D cy [.ref x, .int p0] S sz (fun v S1 z => v = none ∧ z = sz ∧ ∃ k, k < L ∧ p0 = nI k ∧ L + 1 ≤ 90 ∧ S1 = cTwin S po (lt L) (lt k) (rl L) (rw k) (rf k)) (fun E S1 => S1 = S ∧ ((E = exO ∧ ¬ (0 ≤ p0 ∧ p0 < nI L)) ∨ (E = exS ∧ ∃ k, k < L ∧ p0 = nI k ∧ 90 < L + 1))) := by
  refine bodyX (by decide) rfl (Nat.le_of_ble_eq_true rfl) ?_
  intro p e s m args below meth c ls hC hU hZ hne hr hlk hnm hsz hP hS hl
  have hx := hC.1
  have hb := hC.2.1
  refine lv_iload_n hx hb dX6_twin_0 rfl (lv_at hl 1 rfl) ?_
  refine lv_aload_n hx hb dX6_twin_1 rfl (lv_at hl 0 rfl) ?_
  refine gt_X6_35 hC hP (hxk) (hpo) dX6_twin_2 ?_
  refine gt_X6_97 hC hP (hpok) dX6_twin_5 ?_
  rw [hL]
  refine g_callS (As := [.int _, .int _]) (rest := []) hC hU hP hS hl.1 (c_X6_isWithin l N0 D cy _ _ _ _) mL_X6_43 sT_X6_isWithin iN_X6 cD_X6_isWithin ⟨by decide, by decide, rfl⟩ ⟨by decide, by decide⟩ ⟨by decide, by decide⟩ rfl (Nat.le_of_ble_eq_true rfl) dX6_twin_8 (fun v S1 H locs hw hP hz hS => ?_)
  obtain ⟨rfl, hS1, hz2⟩ := hw
  replace hS1 := hS1.symm
  subst hS1
  replace hsz := hz2.trans hsz
  refine lv_if_ne (tgt := 24) hx hb dX6_twin_11 (by decide) (fun c_11 => ?_) (fun c_11 => ?_)
  · obtain ⟨k, hk, rfl⟩ := isN_nat (by omega) (th1 c_11)
    refine lv_aload_n hx hb dX6_twin_24 rfl (lv_at hl 0 rfl) ?_
    refine gt_X6_35 hC hP (hxk) (hpo) dX6_twin_25 ?_
    refine lv_iconst (v := 1) hx hb dX6_twin_28 (by decide) ?_
    refine g_callV (As := [.int _]) (rest := []) hC hU hP hS hl.1 (c_X4_hasRoomFor l N0 D cy _ _ po _ hpok) mL_X6_73 iM_X4_hasRoomFor sL_X4_hasRoomFor iN_X4 cD_X4_hasRoomFor ⟨by decide, by decide, rfl⟩ ⟨by decide, by decide⟩ ⟨by decide, by decide⟩ (ci := 4) rfl (by decide) (hpok) rfl (Nat.le_of_ble_eq_true rfl) dX6_twin_29 (fun v S1 H locs hw hP hz hS => ?_)
    obtain ⟨rfl, hS1, hz2⟩ := hw
    replace hS1 := hS1.symm
    subst hS1
    replace hsz := hz2.trans hsz
    rw [hL]
    refine lv_if_ne (tgt := 45) hx hb dX6_twin_32 (by decide) (fun c_32 => ?_) (fun c_32 => ?_)
    · have hL3 := (rm5 (q := 1) (n := 1) rfl (by decide) hL2).mp (th1 c_32)
      refine lv_aload_n hx hb dX6_twin_45 rfl (lv_at hl 0 rfl) ?_
      refine gt_X6_35 hC hP (hxk) (hpo) dX6_twin_46 ?_
      refine lv_iload_n hx hb dX6_twin_49 rfl (lv_at hl 1 rfl) ?_
      refine g_callV (As := [.int _]) (rest := []) hC hU hP hS hl.1 (c_X4_sendAgain l N0 D cy _ _ (nI k) po pl (lt L) (lt k) (rl k) (rl L) (rw k) (rf k) hpok hpl hplk (by rw [hL, hpln]; exact vp_in_nI (by omega) (by decide)) (by rw [hL, nI_clamp (by omega)]; exact hlt L (by omega)) (hltk L) (by rw [hpln]; exact vp_in_nI (by omega) (by decide)) (by rw [nI_clamp (by omega)]; exact hlt k (by omega)) (hltk k) (fun h => by have := hinj k L (by omega) (by omega) h; omega) (hrw k (by omega)) (hrl k).1 (hrl k).2.1 (hrl k).2.2 (hrf k (by omega)) (hrl L).1 (hrl L).2.1 (hrl L).2.2) mL_X6_136 iM_X4_sendAgain sL_X4_sendAgain iN_X4 cD_X4_sendAgain ⟨by decide, by decide, rfl⟩ ⟨by decide, by decide⟩ ⟨by decide, by decide⟩ (ci := 4) rfl (by decide) (hpok) rfl (Nat.le_of_ble_eq_true rfl) dX6_twin_50 (fun v S1 H locs hw hP hz hS => ?_)
      obtain ⟨rfl, hS1, hz2⟩ := hw
      replace hS1 := hS1.symm
      subst hS1
      replace hsz := hz2.trans hsz
      exact vx_ret (g_vret hC hP hS hr hlk (by decide) (by decide) (⟨rfl, hsz, k, hk, rfl, hL3, rfl⟩) dX6_twin_53)
    · exact g_thrS (is := 134) (text := "too many letters") hC hls hZ hne hlk hP hS hl.1 (by decide) dX6_twin_35 dX6_twin_38 dX6_twin_39 dX6_twin_41 dX6_twin_44 ⟨by decide, by decide⟩ ⟨by decide, by decide⟩ ⟨by decide, by decide⟩ (⟨rfl, Or.inr ⟨rfl, k, hk, rfl, by have := mt (rm5 (q := 1) (n := 1) rfl (by decide) hL2).mpr (th0 c_32); omega⟩⟩)
  · exact g_thrO (is := 100) (text := "no such letter") hC hls hZ hne hlk hP hS hl.1 (by decide) dX6_twin_14 dX6_twin_17 dX6_twin_18 dX6_twin_20 dX6_twin_23 ⟨by decide, by decide⟩ ⟨by decide, by decide⟩ ⟨by decide, by decide⟩ (⟨rfl, Or.inl ⟨rfl, th0 c_11⟩⟩)

set_option maxRecDepth 100000 in
set_option maxHeartbeats 4000000 in
theorem c_X6_letter (l : Launch) (hls : l.stackTraces = false) (N0 : Nat) (D : va_G) (cy : Nat → ClassId) (S : gS) (sz : Nat) (x : Nat) (hxk : gK S x = 7) (po pl L : Nat) (lt : Nat → Nat) (hpo : gR S x 3 = some po) (hpok : gK S po = 5) (hpl : gR S po 0 = some pl) (hplk : gK S pl = 13) (hpln : gn S pl = 91) (hL : gI S po 1 = nI L) (hL2 : L ≤ 90) (hlt : ∀ k, k < 91 → gR S pl k = some (lt k)) (hltk : ∀ k, gK S (lt k) = 3) (p0 w : Int32) : gMX l yX6_letter cX6_letter 4 (some FieldType.int) { frames := 6, cells := 1, slots := 6, locals := 90 } N0 D cy [.ref x, .int p0, .int w] S sz (fun v S1 z => z = sz ∧ S1 = S ∧ ∃ k, k < L ∧ p0 = nI k ∧ (0 ≤ w ∧ w < 6) ∧ v = some (.int (clV S (lt k) w))) (fun E S1 => S1 = S ∧ ((E = exO ∧ (¬ (0 ≤ p0 ∧ p0 < nI L) ∨ ¬ (0 ≤ w ∧ w < 6))))) := by
  refine bodyX (by decide) rfl (Nat.le_of_ble_eq_true rfl) ?_
  intro p e s m args below meth c ls hC hU hZ hne hr hlk hnm hsz hP hS hl
  have hx := hC.1
  have hb := hC.2.1
  refine lv_iload_n hx hb dX6_letter_0 rfl (lv_at hl 1 rfl) ?_
  refine lv_aload_n hx hb dX6_letter_1 rfl (lv_at hl 0 rfl) ?_
  refine gt_X6_35 hC hP (hxk) (hpo) dX6_letter_2 ?_
  refine gt_X6_97 hC hP (hpok) dX6_letter_5 ?_
  rw [hL]
  refine g_callS (As := [.int _, .int _]) (rest := []) hC hU hP hS hl.1 (c_X6_isWithin l N0 D cy _ _ _ _) mL_X6_43 sT_X6_isWithin iN_X6 cD_X6_isWithin ⟨by decide, by decide, rfl⟩ ⟨by decide, by decide⟩ ⟨by decide, by decide⟩ rfl (Nat.le_of_ble_eq_true rfl) dX6_letter_8 (fun v S1 H locs hw hP hz hS => ?_)
  obtain ⟨rfl, hS1, hz2⟩ := hw
  replace hS1 := hS1.symm
  subst hS1
  replace hsz := hz2.trans hsz
  refine lv_if_eq (tgt := 23) hx hb dX6_letter_11 (by decide) (fun c_11 => ?_) (fun c_11 => ?_)
  · exact g_thrO (is := 139) (text := "no such letter, or what") hC hls hZ hne hlk hP hS hl.1 (by decide) dX6_letter_23 dX6_letter_26 dX6_letter_27 dX6_letter_29 dX6_letter_32 ⟨by decide, by decide⟩ ⟨by decide, by decide⟩ ⟨by decide, by decide⟩ (⟨rfl, rfl, by first | exact Or.inl (th0 c_11) | exact Or.inr (th0 c_20)⟩)
  · refine lv_iload_n hx hb dX6_letter_14 rfl (lv_at hl 2 rfl) ?_
    refine lv_bipush (v := 6) hx hb dX6_letter_15 (by decide) ?_
    refine g_callS (As := [.int _, .int _]) (rest := []) hC hU hP hS hl.1 (c_X6_isWithin l N0 D cy _ _ _ _) mL_X6_43 sT_X6_isWithin iN_X6 cD_X6_isWithin ⟨by decide, by decide, rfl⟩ ⟨by decide, by decide⟩ ⟨by decide, by decide⟩ rfl (Nat.le_of_ble_eq_true rfl) dX6_letter_17 (fun v S1 H locs hw hP hz hS => ?_)
    obtain ⟨rfl, hS1, hz2⟩ := hw
    replace hS1 := hS1.symm
    subst hS1
    replace hsz := hz2.trans hsz
    refine lv_if_ne (tgt := 33) hx hb dX6_letter_20 (by decide) (fun c_20 => ?_) (fun c_20 => ?_)
    · obtain ⟨k, hk, rfl⟩ := isN_nat (by omega) (th1 c_11)
      refine lv_aload_n hx hb dX6_letter_33 rfl (lv_at hl 0 rfl) ?_
      refine gt_X6_35 hC hP (hxk) (hpo) dX6_letter_34 ?_
      refine lv_iload_n hx hb dX6_letter_37 rfl (lv_at hl 1 rfl) ?_
      refine g_callV (As := [.int _]) (rest := []) hC hU hP hS hl.1 (c_X4_at l N0 D cy _ _ po pl (lt k) _ hpok hpl hplk (by rw [hpln]; exact vp_in_nI (by omega) (by decide)) (by rw [nI_clamp (by omega)]; exact hlt k (by omega))) mL_X6_102 iM_X4_at sL_X4_at iN_X4 cD_X4_at ⟨by decide, by decide, rfl⟩ ⟨by decide, by decide⟩ ⟨by decide, by decide⟩ (ci := 4) rfl (by decide) (hpok) rfl (Nat.le_of_ble_eq_true rfl) dX6_letter_38 (fun v S1 H locs hw hP hz hS => ?_)
      obtain ⟨rfl, hS1, hz2⟩ := hw
      replace hS1 := hS1.symm
      subst hS1
      replace hsz := hz2.trans hsz
      refine lv_astore_n (lv' := [(3, .ref _), (0, .ref _), (1, .int _), (2, .int _)]) hx hb dX6_letter_41 rfl hl (by decide) rfl (fun ls hl => ?_)
      refine lv_iload_n hx hb dX6_letter_42 rfl (lv_at hl 3 rfl) ?_
      refine g_ts (dt := 101) hC dX6_letter_43 (by decide) (by decide) (fun k_43 of_43 hk_43 c_43 => ?_) (fun c_43 => ?_)
      · match k_43, hk_43 with
        | 0, hk_43 =>
          have e9 : of_43 = 33 := by simpa using hk_43.symm
          subst e9
          replace c_43 := ts_lit (v := 0) (by decide) c_43
          refine ⟨76, by decide, ?_⟩
          refine lv_aload_n hx hb dX6_letter_76 rfl (lv_at hl 0 rfl) ?_
          refine gt_X6_141 hC hP (hltk k) dX6_letter_77 ?_
          exact vx_ret (g_iret hC hP hS hr hlk (by decide) (by decide) (⟨hsz, rfl, k, hk, rfl, th1 c_20, by subst c_43; rfl⟩) dX6_letter_80)
        | 1, hk_43 =>
          have e9 : of_43 = 38 := by simpa using hk_43.symm
          subst e9
          replace c_43 := ts_lit (v := 1) (by decide) c_43
          refine ⟨81, by decide, ?_⟩
          refine lv_aload_n hx hb dX6_letter_81 rfl (lv_at hl 0 rfl) ?_
          refine gt_X6_119 hC hP (hltk k) dX6_letter_82 ?_
          exact vx_ret (g_iret hC hP hS hr hlk (by decide) (by decide) (⟨hsz, rfl, k, hk, rfl, th1 c_20, by subst c_43; rfl⟩) dX6_letter_85)
        | 2, hk_43 =>
          have e9 : of_43 = 43 := by simpa using hk_43.symm
          subst e9
          replace c_43 := ts_lit (v := 2) (by decide) c_43
          refine ⟨86, by decide, ?_⟩
          refine lv_aload_n hx hb dX6_letter_86 rfl (lv_at hl 0 rfl) ?_
          refine gt_X6_144 hC hP (hltk k) dX6_letter_87 ?_
          exact vx_ret (g_iret hC hP hS hr hlk (by decide) (by decide) (⟨hsz, rfl, k, hk, rfl, th1 c_20, by subst c_43; rfl⟩) dX6_letter_90)
        | 3, hk_43 =>
          have e9 : of_43 = 48 := by simpa using hk_43.symm
          subst e9
          replace c_43 := ts_lit (v := 3) (by decide) c_43
          refine ⟨91, by decide, ?_⟩
          refine lv_aload_n hx hb dX6_letter_91 rfl (lv_at hl 0 rfl) ?_
          refine gt_X6_147 hC hP (hltk k) dX6_letter_92 ?_
          exact vx_ret (g_iret hC hP hS hr hlk (by decide) (by decide) (⟨hsz, rfl, k, hk, rfl, th1 c_20, by subst c_43; rfl⟩) dX6_letter_95)
        | 4, hk_43 =>
          have e9 : of_43 = 53 := by simpa using hk_43.symm
          subst e9
          replace c_43 := ts_lit (v := 4) (by decide) c_43
          refine ⟨96, by decide, ?_⟩
          refine lv_aload_n hx hb dX6_letter_96 rfl (lv_at hl 0 rfl) ?_
          refine gt_X6_150 hC hP (hltk k) dX6_letter_97 ?_
          exact vx_ret (g_iret hC hP hS hr hlk (by decide) (by decide) (⟨hsz, rfl, k, hk, rfl, th1 c_20, by subst c_43; rfl⟩) dX6_letter_100)
        | k9 + 5, hk_43 => exact absurd hk_43 (by simp)
      · refine lv_aload_n hx hb dX6_letter_101 rfl (lv_at hl 0 rfl) ?_
        refine gt_X6_153 hC hP (hltk k) dX6_letter_102 ?_
        exact vx_ret (g_iret hC hP hS hr hlk (by decide) (by decide) (⟨hsz, rfl, k, hk, rfl, th1 c_20, by unfold clV; rw [if_neg (fun h => by subst h; exact absurd c_43 (by decide)), if_neg (fun h => by subst h; exact absurd c_43 (by decide)), if_neg (fun h => by subst h; exact absurd c_43 (by decide)), if_neg (fun h => by subst h; exact absurd c_43 (by decide)), if_neg (fun h => by subst h; exact absurd c_43 (by decide))]⟩) dX6_letter_105)
    · exact g_thrO (is := 139) (text := "no such letter, or what") hC hls hZ hne hlk hP hS hl.1 (by decide) dX6_letter_23 dX6_letter_26 dX6_letter_27 dX6_letter_29 dX6_letter_32 ⟨by decide, by decide⟩ ⟨by decide, by decide⟩ ⟨by decide, by decide⟩ (⟨rfl, rfl, by first | exact Or.inl (th0 c_11) | exact Or.inr (th0 c_20)⟩)

