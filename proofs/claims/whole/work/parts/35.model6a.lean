theorem gI_mSend {S : gS} {o L b j : Nat} {k i n bl x : Int32} (h : b ≠ o ∧ b ≠ o + 1 ∧ b ≠ o + 2 ∧ b ≠ o + 3 ∧ b ≠ o + 4 ∧ b ≠ o + 8) : gI (mSend S o L k i n bl x) b j = gI S b j := by
  unfold mSend
  rw [gI_a h.1, gI_a h.2.2.2.2.2, gI_a h.2.2.2.2.1, gI_a h.2.2.2.1, gI_a h.2.2.1, gI_a h.2.1]
theorem gI_mSend1 {S : gS} {o L : Nat} {k i n bl x : Int32} : gI (mSend S o L k i n bl x) o 1 = nI (L + 1) := by
  unfold mSend; exact gI_s
theorem gJ_mSend {S : gS} {o L : Nat} {k i n bl x : Int32} : gJ (mSend S o L k i n bl x) = gJ S := rfl
/-- n letters PREPARE -/
def mPL (S : gS) (o L i : Nat) (bl : Int32) : Nat → gS
  | 0 => S
  | n + 1 => mSend (mPL S o L i bl n) o (L + n) 0 (nI i) (nI n) bl 0
theorem mP {S : gS} {o L i o' : Nat} {bl : Int32} : ∀ n : Nat, mOK S o' → mOK (mPL S o L i bl n) o'
  | 0, h => h
  | n + 1, h => mS (mP n h)
theorem gI_mPL {S : gS} {o L i b j : Nat} {bl : Int32} (h : b ≠ o ∧ b ≠ o + 1 ∧ b ≠ o + 2 ∧ b ≠ o + 3 ∧ b ≠ o + 4 ∧ b ≠ o + 8) : ∀ n : Nat, gI (mPL S o L i bl n) b j = gI S b j
  | 0 => rfl
  | n + 1 => by unfold mPL; rw [gI_mSend h]; exact gI_mPL h n
theorem mPL_1 {S : gS} {o L i : Nat} {bl : Int32} (hL : gI S o 1 = nI L) : ∀ n : Nat, gI (mPL S o L i bl n) o 1 = nI (L + n)
  | 0 => hL
  | n + 1 => by unfold mPL; rw [gI_mSend1]; rfl
set_option maxRecDepth 100000 in
set_option maxHeartbeats 4000000 in
theorem lp_X7_attempt {p : Program} {l : Launch} {e : Env} {R : Room} {s : State} {m : MethodId} {args : Array Value} {below : List Frame} {meth : Method} {c : Code} {cells slots : Nat} {Q : State → Prop} {N0 : Nat} {D : va_G} {cy : Nat → ClassId} {S : gS} {sz : Nat} (hC : gC N0 D cy p s m args c cX7_attempt 5 RX7) (hU : gU D cy s) {o L q : Nat} {bl pv av : Int32} (hm : mOK S o) (hq : q < 8) (hL : gI S o 1 = nI L) (hL2 : L + 5 ≤ 99) (hbl : 8 * gI S (o + 20) q + nI q = bl) (hR : 1 ≤ R.frames ∧ 40 ≤ R.locals) (hc0 : cells ≤ R.cells ∧ slots ≤ R.slots)
    (hexit : ∀ (H : Heap) (locs : List Loc) (ls : Array Slot), gP N0 D cy (mPL S o L q bl 5) H → H.size = sz → va_S (fun q => N0 ≤ q) s.heap H locs → lv_has ls 5 [(4, .int (nI 5)), (3, .int (av)), (0, .ref (o)), (1, .int (nI q)), (2, .int (pv))] → W p l e R s m args below meth c H locs cells slots Q (F0 m 85 ls [])) :
    ∀ (n i : Nat) (H : Heap) (locs : List Loc) (ls : Array Slot), i + n = 5 → gP N0 D cy (mPL S o L q bl i) H → H.size = sz → va_S (fun q => N0 ≤ q) s.heap H locs → lv_has ls 5 [(4, .int (nI i)), (3, .int (av)), (0, .ref (o)), (1, .int (nI q)), (2, .int (pv))] → W p l e R s m args below meth c H locs cells slots Q (F0 m 59 ls []) := by
  have hx := hC.1
  have hb := hC.2.1
  intro n
  induction n with
  | zero =>
    intro i H locs ls hi hP hsz hS hl
    have hi8 : i = 5 := by omega
    subst hi8
    refine lv_iload hx hb dX7_attempt_59 (lv_at hl 0 rfl) ?_
    refine lv_iconst (v := 5) hx hb dX7_attempt_61 (by decide) ?_
    refine lv_icmp_ge (tgt := 85) hx hb dX7_attempt_62 (by decide) (fun c_62 => ?_) (fun c_62 => ?_)
    · exact hexit _ _ _ hP hsz hS (lv_sub hl [0, 1, 2, 3, 4] rfl)
    · exact absurd (by decide) c_62
  | succ n ih =>
    intro i H locs ls hi hP hsz hS hl
    have hi8 : i < 5 := by omega
    have hb2 : 8 * gI (mPL S o L q bl i) (o + 20) q + nI q = bl := by rw [gI_mPL (by omega)]; exact hbl
    refine lv_iload hx hb dX7_attempt_59 (lv_at hl 0 rfl) ?_
    refine lv_iconst (v := 5) hx hb dX7_attempt_61 (by decide) ?_
    refine lv_icmp_ge (tgt := 85) hx hb dX7_attempt_62 (by decide) (fun c_62 => ?_) (fun c_62 => ?_)
    · exact absurd c_62 (nI_ge (a := i) (b := 5) (by omega) (by decide))
    · refine lv_aload_n hx hb dX7_attempt_65 rfl (lv_at hl 2 rfl) ?_
      refine lv_iconst (v := 0) hx hb dX7_attempt_66 (by decide) ?_
      refine lv_iload_n hx hb dX7_attempt_67 rfl (lv_at hl 3 rfl) ?_
      refine lv_iload hx hb dX7_attempt_68 (lv_at hl 0 rfl) ?_
      refine lv_aload_n hx hb dX7_attempt_70 rfl (lv_at hl 2 rfl) ?_
      refine lv_iload_n hx hb dX7_attempt_71 rfl (lv_at hl 3 rfl) ?_
      refine g_callV (As := [.int _]) (rest := [.int _, .int _, .int _, .ref _]) hC hU hP hS hl.1 (c_X7_ballotOf l N0 D cy _ _ o q (mP i hm) hq) mL_X7_141 iM_X7_ballotOf sL_X7_ballotOf iN_X7 cD_X7_ballotOf ⟨by decide, by decide, rfl⟩ ⟨Nat.le_trans (by decide) hR.1, Nat.le_trans (by decide) hR.2⟩ ⟨hc0.1, hc0.2⟩ (ci := 7) rfl (by decide) (mK (mP _ (hm))) rfl (Nat.le_of_ble_eq_true rfl) dX7_attempt_72 (fun v S1 H locs hw hP hz hS => ?_)
      obtain ⟨hv1, hS1, hz2⟩ := hw
      replace hS1 := hS1.symm
      subst hS1
      rw [hb2] at hv1
      subst hv1
      replace hsz := hz2.trans hsz
      refine lv_iconst (v := 0) hx hb dX7_attempt_75 (by decide) ?_
      refine g_callV (As := [.int _, .int _, .int _, .int _, .int _]) (rest := []) hC hU hP hS hl.1 (c_X7_send l N0 D cy _ _ o (L + i) _ _ _ _ _ (mP i hm) (mPL_1 hL i) (by omega)) mL_X7_145 iM_X7_send sL_X7_send iN_X7 cD_X7_send ⟨by decide, by decide, rfl⟩ ⟨Nat.le_trans (by decide) hR.1, Nat.le_trans (by decide) hR.2⟩ ⟨hc0.1, hc0.2⟩ (ci := 7) rfl (by decide) (mK (mP _ (hm))) rfl (Nat.le_of_ble_eq_true rfl) dX7_attempt_76 (fun v S1 H locs hw hP hz hS => ?_)
      obtain ⟨rfl, hS1, hz2⟩ := hw
      replace hS1 := hS1.symm
      subst hS1
      replace hsz := hz2.trans hsz
      refine lv_iinc (v := _ + 1) (lv' := [(4, .int _), (3, .int _), (0, .ref _), (1, .int _), (2, .int _)]) hx hb dX7_attempt_79 hl (k := 0) rfl rfl (by decide) rfl (fun ls hl => ?_)
      refine lv_goto (tgt := 59) hx hb dX7_attempt_82 (by decide) ?_
      exact ih (i + 1) _ _ _ (by omega) (by exact hP) hsz hS (by rw [nI_succ]; exact lv_sub hl [0, 1, 2, 3, 4] rfl)

def attA (S : gS) (o i : Nat) : Int32 := if gI S (o + 20) i + 1 ≤ gI S (o + 21) i then gI S (o + 21) i + 1 else gI S (o + 20) i + 1
def mAtt0 (S : gS) (o i : Nat) (pv : Int32) : gS := mFg (sI (sI (sI S (o + 20) i (attA S o i)) (o + 18) i 1) (o + 19) i pv) o i 5
def mAtt (S : gS) (o L i : Nat) (pv : Int32) : gS := mPL (mAtt0 S o i pv) o L i (8 * attA S o i + nI i) 5
set_option maxRecDepth 100000 in
set_option maxHeartbeats 4000000 in
theorem c_X7_attempt (l : Launch) (N0 : Nat) (D : va_G) (cy : Nat → ClassId) (S : gS) (sz : Nat) (o L q : Nat) (pv : Int32) (hm : mOK S o) (hq : q < 8) (hL : gI S o 1 = nI L) (hL2 : L + 5 ≤ 99) (hpv : pv = 0 ∨ pv = 1) : gM l yX7_attempt cX7_attempt 5 (none : Option FieldType) { frames := 2, cells := 0, slots := 0, locals := 80 } N0 D cy [.ref o, .int (nI q), .int pv] S sz (fun v S1 z => v = none ∧ S1 = mAtt S o L q pv ∧ z = sz) := by
  refine g_body (by decide) rfl (Nat.le_of_ble_eq_true rfl) ?_
  intro p e s m args below meth c ls hC hU hr hlk hnm hsz hP hS hl
  have hx := hC.1
  have hb := hC.2.1
  refine lv_aload_n hx hb dX7_attempt_0 rfl (lv_at hl 0 rfl) ?_
  refine gt_X7_69 hC hP (mK (hm)) (mR_22 (hm)) dX7_attempt_1 ?_
  refine lv_iload_n hx hb dX7_attempt_4 rfl (lv_at hl 1 rfl) ?_
  refine g_iald hC hP (mA_22 (hm)) (by rw [mN_22 (hm)]; exact vp_in_nI hq (by decide)) dX7_attempt_5 ?_
  rw [nI_clamp (by omega)]
  refine lv_iconst (v := 1) hx hb dX7_attempt_6 (by decide) ?_
  refine lv_iadd hx hb dX7_attempt_7 ?_
  refine lv_istore_n (lv' := [(3, .int _), (0, .ref _), (1, .int _), (2, .int _)]) hx hb dX7_attempt_8 rfl hl (by decide) rfl (fun ls hl => ?_)
  refine lv_aload_n hx hb dX7_attempt_9 rfl (lv_at hl 1 rfl) ?_
  refine gt_X7_69 hC hP (mK (hm)) (mR_22 (hm)) dX7_attempt_10 ?_
  refine lv_iload_n hx hb dX7_attempt_13 rfl (lv_at hl 2 rfl) ?_
  refine lv_iload_n hx hb dX7_attempt_14 rfl (lv_at hl 0 rfl) ?_
  refine lv_aload_n hx hb dX7_attempt_15 rfl (lv_at hl 1 rfl) ?_
  refine gt_X7_72 hC hP (mK (hm)) (mR_23 (hm)) dX7_attempt_16 ?_
  refine lv_iload_n hx hb dX7_attempt_19 rfl (lv_at hl 2 rfl) ?_
  refine g_iald hC hP (mA_23 (hm)) (by rw [mN_23 (hm)]; exact vp_in_nI hq (by decide)) dX7_attempt_20 ?_
  rw [nI_clamp (by omega)]
  refine lv_icmp_le (tgt := 28) hx hb dX7_attempt_21 (by decide) (fun c_21 => ?_) (fun c_21 => ?_)
  · refine lv_aload_n hx hb dX7_attempt_28 rfl (lv_at hl 1 rfl) ?_
    refine gt_X7_72 hC hP (mK (hm)) (mR_23 (hm)) dX7_attempt_29 ?_
    refine lv_iload_n hx hb dX7_attempt_32 rfl (lv_at hl 2 rfl) ?_
    refine g_iald hC hP (mA_23 (hm)) (by rw [mN_23 (hm)]; exact vp_in_nI hq (by decide)) dX7_attempt_33 ?_
    rw [nI_clamp (by omega)]
    refine lv_iconst (v := 1) hx hb dX7_attempt_34 (by decide) ?_
    refine lv_iadd hx hb dX7_attempt_35 ?_
    refine g_iast hC hP hS (mA_22 (hm)) (by rw [mN_22 (hm)]; exact vp_in_nI hq (by decide)) dX7_attempt_36 (fun H locs hP hz hS => ?_)
    replace hsz := hz.trans hsz
    rw [nI_clamp (by omega)] at hP
    replace hP : gP N0 D cy (sI S (o + 20) q (attA S o q)) H := by
      unfold attA
      first | (rw [if_pos c_21]; exact hP) | (rw [if_neg c_21]; exact hP)
    refine lv_aload_n hx hb dX7_attempt_37 rfl (lv_at hl 1 rfl) ?_
    refine gt_X7_63 hC hP (mK (mI (hm))) (mR_20 (mI (hm))) dX7_attempt_38 ?_
    refine lv_iload_n hx hb dX7_attempt_41 rfl (lv_at hl 2 rfl) ?_
    refine lv_iconst (v := 1) hx hb dX7_attempt_42 (by decide) ?_
    refine g_iast hC hP hS (mA_20 (mI (hm))) (by rw [mN_20 (mI (hm))]; exact vp_in_nI hq (by decide)) dX7_attempt_43 (fun H locs hP hz hS => ?_)
    replace hsz := hz.trans hsz
    rw [nI_clamp (by omega)] at hP
    refine lv_aload_n hx hb dX7_attempt_44 rfl (lv_at hl 1 rfl) ?_
    refine gt_X7_66 hC hP (mK (mI (mI (hm)))) (mR_21 (mI (mI (hm)))) dX7_attempt_45 ?_
    refine lv_iload_n hx hb dX7_attempt_48 rfl (lv_at hl 2 rfl) ?_
    refine lv_iload_n hx hb dX7_attempt_49 rfl (lv_at hl 3 rfl) ?_
    refine g_zast hC hP hS (mA_21 (mI (mI (hm)))) (by rw [mN_21 (mI (mI (hm)))]; exact vp_in_nI hq (by decide)) (nz01 (hpv)) dX7_attempt_50 (fun H locs hP hz hS => ?_)
    replace hsz := hz.trans hsz
    rw [nI_clamp (by omega)] at hP
    refine lv_aload_n hx hb dX7_attempt_51 rfl (lv_at hl 1 rfl) ?_
    refine lv_iload_n hx hb dX7_attempt_52 rfl (lv_at hl 2 rfl) ?_
    refine g_callV (As := [.int _]) (rest := []) hC hU hP hS hl.1 (c_X7_forgetCounts l N0 D cy _ _ o q (mI (mI (mI hm))) hq) mL_X7_138 iM_X7_forgetCounts sL_X7_forgetCounts iN_X7 cD_X7_forgetCounts ⟨by decide, by decide, rfl⟩ ⟨by decide, by decide⟩ ⟨by decide, by decide⟩ (ci := 7) rfl (by decide) (mK (mI (mI (mI (hm))))) rfl (Nat.le_of_ble_eq_true rfl) dX7_attempt_53 (fun v S1 H locs hw hP hz hS => ?_)
    obtain ⟨rfl, hS1, hz2⟩ := hw
    replace hS1 := hS1.symm
    subst hS1
    replace hsz := hz2.trans hsz
    refine lv_iconst (v := 0) hx hb dX7_attempt_56 (by decide) ?_
    refine lv_istore (lv' := [(4, .int _), (3, .int _), (0, .ref _), (1, .int _), (2, .int _)]) hx hb dX7_attempt_57 hl (by decide) rfl (fun ls hl => ?_)
    refine lp_X7_attempt (sz := sz) (L := L) (q := q) (bl := 8 * attA S o q + nI q) hC hU (mG (mI (mI (mI hm)))) hq (vG (by omega) (vI (Or.inl (by omega)) (vI (Or.inl (by omega)) (vI (Or.inl (by omega)) hL)))) hL2 (by rw [gI_mFg, if_neg (by omega), gI_a (by omega), gI_a (by omega), gI_s]) ⟨by decide, by decide⟩ ⟨by decide, by decide⟩ (fun H locs ls hP hsz hS hl => ?_) 5 0 _ _ _ rfl hP hsz hS (lv_sub hl [0, 1, 2, 3, 4] rfl)
    exact g_vret hC hP hS hr hlk (by decide) (by decide) (⟨rfl, rfl, hsz⟩) dX7_attempt_85
  · refine lv_iload_n hx hb dX7_attempt_24 rfl (lv_at hl 0 rfl) ?_
    refine lv_goto (tgt := 36) hx hb dX7_attempt_25 (by decide) ?_
    refine g_iast hC hP hS (mA_22 (hm)) (by rw [mN_22 (hm)]; exact vp_in_nI hq (by decide)) dX7_attempt_36 (fun H locs hP hz hS => ?_)
    replace hsz := hz.trans hsz
    rw [nI_clamp (by omega)] at hP
    replace hP : gP N0 D cy (sI S (o + 20) q (attA S o q)) H := by
      unfold attA
      first | (rw [if_pos c_21]; exact hP) | (rw [if_neg c_21]; exact hP)
    refine lv_aload_n hx hb dX7_attempt_37 rfl (lv_at hl 1 rfl) ?_
    refine gt_X7_63 hC hP (mK (mI (hm))) (mR_20 (mI (hm))) dX7_attempt_38 ?_
    refine lv_iload_n hx hb dX7_attempt_41 rfl (lv_at hl 2 rfl) ?_
    refine lv_iconst (v := 1) hx hb dX7_attempt_42 (by decide) ?_
    refine g_iast hC hP hS (mA_20 (mI (hm))) (by rw [mN_20 (mI (hm))]; exact vp_in_nI hq (by decide)) dX7_attempt_43 (fun H locs hP hz hS => ?_)
    replace hsz := hz.trans hsz
    rw [nI_clamp (by omega)] at hP
    refine lv_aload_n hx hb dX7_attempt_44 rfl (lv_at hl 1 rfl) ?_
    refine gt_X7_66 hC hP (mK (mI (mI (hm)))) (mR_21 (mI (mI (hm)))) dX7_attempt_45 ?_
    refine lv_iload_n hx hb dX7_attempt_48 rfl (lv_at hl 2 rfl) ?_
    refine lv_iload_n hx hb dX7_attempt_49 rfl (lv_at hl 3 rfl) ?_
    refine g_zast hC hP hS (mA_21 (mI (mI (hm)))) (by rw [mN_21 (mI (mI (hm)))]; exact vp_in_nI hq (by decide)) (nz01 (hpv)) dX7_attempt_50 (fun H locs hP hz hS => ?_)
    replace hsz := hz.trans hsz
    rw [nI_clamp (by omega)] at hP
    refine lv_aload_n hx hb dX7_attempt_51 rfl (lv_at hl 1 rfl) ?_
    refine lv_iload_n hx hb dX7_attempt_52 rfl (lv_at hl 2 rfl) ?_
    refine g_callV (As := [.int _]) (rest := []) hC hU hP hS hl.1 (c_X7_forgetCounts l N0 D cy _ _ o q (mI (mI (mI hm))) hq) mL_X7_138 iM_X7_forgetCounts sL_X7_forgetCounts iN_X7 cD_X7_forgetCounts ⟨by decide, by decide, rfl⟩ ⟨by decide, by decide⟩ ⟨by decide, by decide⟩ (ci := 7) rfl (by decide) (mK (mI (mI (mI (hm))))) rfl (Nat.le_of_ble_eq_true rfl) dX7_attempt_53 (fun v S1 H locs hw hP hz hS => ?_)
    obtain ⟨rfl, hS1, hz2⟩ := hw
    replace hS1 := hS1.symm
    subst hS1
    replace hsz := hz2.trans hsz
    refine lv_iconst (v := 0) hx hb dX7_attempt_56 (by decide) ?_
    refine lv_istore (lv' := [(4, .int _), (3, .int _), (0, .ref _), (1, .int _), (2, .int _)]) hx hb dX7_attempt_57 hl (by decide) rfl (fun ls hl => ?_)
    refine lp_X7_attempt (sz := sz) (L := L) (q := q) (bl := 8 * attA S o q + nI q) hC hU (mG (mI (mI (mI hm)))) hq (vG (by omega) (vI (Or.inl (by omega)) (vI (Or.inl (by omega)) (vI (Or.inl (by omega)) hL)))) hL2 (by rw [gI_mFg, if_neg (by omega), gI_a (by omega), gI_a (by omega), gI_s]) ⟨by decide, by decide⟩ ⟨by decide, by decide⟩ (fun H locs ls hP hsz hS hl => ?_) 5 0 _ _ _ rfl hP hsz hS (lv_sub hl [0, 1, 2, 3, 4] rfl)
    exact g_vret hC hP hS hr hlk (by decide) (by decide) (⟨rfl, rfl, hsz⟩) dX7_attempt_85
