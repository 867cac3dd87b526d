theorem gS_ext {S T : gS} (h1 : gK S = gK T) (h2 : gn S = gn T) (h3 : ∀ b j, gI S b j = gI T b j) (h4 : ∀ b j, gJ S b j = gJ T b j) (h5 : ∀ b j, gR S b j = gR T b j) : S = T :=
  Prod.ext h1 (Prod.ext h2 (Prod.ext (funext fun b => funext fun j => h3 b j) (Prod.ext (funext fun b => funext fun j => h4 b j) (funext fun b => funext fun j => h5 b j))))
theorem gK_sI {S : gS} {a k : Nat} {v : Int32} : gK (sI S a k v) = gK S := rfl
theorem gK_sJ {S : gS} {a k : Nat} {v : Int64} : gK (sJ S a k v) = gK S := rfl
theorem gn_sI {S : gS} {a k : Nat} {v : Int32} : gn (sI S a k v) = gn S := rfl
theorem gn_sJ {S : gS} {a k : Nat} {v : Int64} : gn (sJ S a k v) = gn S := rfl
theorem vC {S : gS} {o fr t j : Nat} {x : Int32} (h : gI S o j = x) : gI (mCopy S o fr t) o j = x := by
  unfold mCopy
  rw [gI_a (by omega), gI_sJ, gI_a (by omega), gI_a (by omega), gI_a (by omega), gI_a (by omega), gI_a (by omega), gI_a (by omega)]
  exact h
/-- letters from k on move up, as far as place m -/
def mSh (S : gS) (o k m : Nat) : gS := (gK S, gn S, fun b j => if (o + 1 ≤ b ∧ b ≤ o + 8 ∧ b ≠ o + 7) ∧ k ≤ j ∧ j < m then gI S b (j + 1) else gI S b j, fun b j => if b = o + 7 ∧ k ≤ j ∧ j < m then gJ S b (j + 1) else gJ S b j, gR S)
theorem mH {S : gS} {o k m o' : Nat} (h : mOK S o') : mOK (mSh S o k m) o' := h
theorem gI_mSh {S : gS} {o k m b j : Nat} : gI (mSh S o k m) b j = if (o + 1 ≤ b ∧ b ≤ o + 8 ∧ b ≠ o + 7) ∧ k ≤ j ∧ j < m then gI S b (j + 1) else gI S b j := rfl
theorem gJ_mSh {S : gS} {o k m b j : Nat} : gJ (mSh S o k m) b j = if b = o + 7 ∧ k ≤ j ∧ j < m then gJ S b (j + 1) else gJ S b j := rfl
theorem mSh_id {S : gS} {o k : Nat} : mSh S o k k = S := by
  obtain ⟨K, n, i, j, r⟩ := S
  refine gS_ext rfl rfl (fun b q => ?_) (fun b q => ?_) (fun _ _ => rfl)
  · rw [gI_mSh, if_neg (by omega)]
  · rw [gJ_mSh, if_neg (by omega)]
theorem mSh_s {S : gS} {o k i : Nat} (hk : k ≤ i) : mCopy (mSh S o k i) o (i + 1) i = mSh S o k (i + 1) := by
  have e1 : ∀ b, gI (mSh S o k i) b (i + 1) = gI S b (i + 1) := fun b => by rw [gI_mSh, if_neg (by omega)]
  have e2 : ∀ b, gJ (mSh S o k i) b (i + 1) = gJ S b (i + 1) := fun b => by rw [gJ_mSh, if_neg (by omega)]
  unfold mCopy
  simp only [e1, e2]
  refine gS_ext (by simp only [gK_sI, gK_sJ]; rfl) (by simp only [gn_sI, gn_sJ]; rfl) (fun b j => ?_) (fun b j => ?_) (fun b j => by simp only [gR_sI, gR_sJ]; rfl)
  · simp only [gI_sI, gI_sJ, gI_mSh]
    by_cases hj : j = i
    · subst hj
      simp only [if_true]
      by_cases h8 : b = o + 8
      · subst h8; rw [if_pos rfl, if_pos (by omega)]
      · rw [if_neg h8]
        by_cases h6 : b = o + 6
        · subst h6; rw [if_pos rfl, if_pos (by omega)]
        · rw [if_neg h6]
          by_cases h5 : b = o + 5
          · subst h5; rw [if_pos rfl, if_pos (by omega)]
          · rw [if_neg h5]
            by_cases h4 : b = o + 4
            · subst h4; rw [if_pos rfl, if_pos (by omega)]
            · rw [if_neg h4]
              by_cases h3 : b = o + 3
              · subst h3; rw [if_pos rfl, if_pos (by omega)]
              · rw [if_neg h3]
                by_cases h2 : b = o + 2
                · subst h2; rw [if_pos rfl, if_pos (by omega)]
                · rw [if_neg h2]
                  by_cases h1 : b = o + 1
                  · subst h1; rw [if_pos rfl, if_pos (by omega)]
                  · rw [if_neg h1, if_neg (by omega), if_neg (by omega)]
    · simp only [if_neg hj]
      by_cases hc : (o + 1 ≤ b ∧ b ≤ o + 8 ∧ b ≠ o + 7) ∧ k ≤ j ∧ j < i
      · rw [if_pos hc, if_pos (by omega)]
      · rw [if_neg hc, if_neg (by omega)]
  · simp only [gJ_sJ, gJ_sI, gJ_mSh]
    by_cases hj : j = i
    · subst hj
      simp only [if_true]
      by_cases h7 : b = o + 7
      · subst h7; rw [if_pos rfl, if_pos (by omega)]
      · rw [if_neg h7, if_neg (by omega), if_neg (by omega)]
    · simp only [if_neg hj]
      by_cases hc : b = o + 7 ∧ k ≤ j ∧ j < i
      · rw [if_pos hc, if_pos (by omega)]
      · rw [if_neg hc, if_neg (by omega)]
theorem vH {S : gS} {o k m : Nat} {x : Int32} {j : Nat} (h : gI S o j = x) : gI (mSh S o k m) o j = x := by rw [gI_mSh, if_neg (by omega)]; exact h
def mRem (S : gS) (o k L : Nat) : gS := mSh (sI S o 1 (nI (L - 1))) o k (L - 1)
set_option maxRecDepth 100000 in
set_option maxHeartbeats 4000000 in
theorem lp_X7_remove {p : Program} {l : Launch} {e : Env} {R : Room} {s : State} {m : MethodId} {args : Array Value} {below : List Frame} {meth : Method} {c : Code} {cells slots : Nat} {Q : State → Prop} {N0 : Nat} {D : va_G} {cy : Nat → ClassId} {S : gS} {sz : Nat} (hC : gC N0 D cy p s m args c cX7_remove 3 RX7) (hU : gU D cy s) {o k B : Nat} {kv : Int32} (hm : mOK S o) (hL : gI S o 1 = nI B) (hB : B < 99) (hR : 1 ≤ R.frames ∧ 40 ≤ R.locals) (hc0 : cells ≤ R.cells ∧ slots ≤ R.slots)
    (hexit : ∀ (H : Heap) (locs : List Loc) (ls : Array Slot), gP N0 D cy (mSh S o k B) H → H.size = sz → va_S (fun q => N0 ≤ q) s.heap H locs → lv_has ls 3 [(2, .int (nI B)), (0, .ref (o)), (1, .int (kv))] → W p l e R s m args below meth c H locs cells slots Q (F0 m 34 ls [])) :
    ∀ (n i : Nat) (H : Heap) (locs : List Loc) (ls : Array Slot), i + n = B → k ≤ i → gP N0 D cy (mSh S o k i) H → H.size = sz → va_S (fun q => N0 ≤ q) s.heap H locs → lv_has ls 3 [(2, .int (nI i)), (0, .ref (o)), (1, .int (kv))] → W p l e R s m args below meth c H locs cells slots Q (F0 m 12 ls []) := by
  have hx := hC.1
  have hb := hC.2.1
  intro n
  induction n with
  | zero =>
    intro i H locs ls hi hh hP hsz hS hl
    have hi8 : i = B := by omega
    subst hi8
    refine lv_iload_n hx hb dX7_remove_12 rfl (lv_at hl 0 rfl) ?_
    refine lv_aload_n hx hb dX7_remove_13 rfl (lv_at hl 1 rfl) ?_
    refine gv_X7_124 hC hP (mK (mH (hm))) (vH (hL)) dX7_remove_14 ?_
    refine lv_icmp_ge (tgt := 34) hx hb dX7_remove_17 (by decide) (fun c_17 => ?_) (fun c_17 => ?_)
    · exact hexit _ _ _ hP hsz hS (lv_sub hl [0, 1, 2] rfl)
    · exact absurd (Int32.le_refl _) c_17
  | succ n ih =>
    intro i H locs ls hi hh hP hsz hS hl
    have hi8 : i < B := by omega
    refine lv_iload_n hx hb dX7_remove_12 rfl (lv_at hl 0 rfl) ?_
    refine lv_aload_n hx hb dX7_remove_13 rfl (lv_at hl 1 rfl) ?_
    refine gv_X7_124 hC hP (mK (mH (hm))) (vH (hL)) dX7_remove_14 ?_
    refine lv_icmp_ge (tgt := 34) hx hb dX7_remove_17 (by decide) (fun c_17 => ?_) (fun c_17 => ?_)
    · exact absurd c_17 (nI_ge hi8 (by omega))
    · refine lv_aload_n hx hb dX7_remove_20 rfl (lv_at hl 1 rfl) ?_
      refine lv_iload_n hx hb dX7_remove_21 rfl (lv_at hl 0 rfl) ?_
      refine lv_iconst (v := 1) hx hb dX7_remove_22 (by decide) ?_
      refine lv_iadd hx hb dX7_remove_23 ?_
      refine lv_iload_n hx hb dX7_remove_24 rfl (lv_at hl 0 rfl) ?_
      rw [← nI_succ]
      refine g_callV (As := [.int _, .int _]) (rest := []) hC hU hP hS hl.1 (c_X7_copy l N0 D cy _ _ o (i + 1) i (mH hm) (by omega) (by omega)) mL_X7_127 iM_X7_copy sL_X7_copy iN_X7 cD_X7_copy ⟨by decide, by decide, rfl⟩ ⟨Nat.le_trans (by decide) hR.1, Nat.le_trans (by decide) hR.2⟩ ⟨hc0.1, hc0.2⟩ (ci := 7) rfl (by decide) (mK (mH (hm))) rfl (Nat.le_of_ble_eq_true rfl) dX7_remove_25 (fun v S1 H locs hw hP hz hS => ?_)
      obtain ⟨rfl, hS1, hz2⟩ := hw
      replace hS1 := hS1.symm
      subst hS1
      replace hsz := hz2.trans hsz
      refine lv_iinc (v := _ + 1) (lv' := [(2, .int _), (0, .ref _), (1, .int _)]) hx hb dX7_remove_28 hl (k := 0) rfl rfl (by decide) rfl (fun ls hl => ?_)
      refine lv_goto (tgt := 12) hx hb dX7_remove_31 (by decide) ?_
      exact ih (i + 1) _ _ _ (by omega) (by omega) (by exact mSh_s hh ▸ hP) hsz hS (by rw [nI_succ]; exact lv_sub hl [0, 1, 2] rfl)

set_option maxRecDepth 100000 in
set_option maxHeartbeats 4000000 in
theorem c_X7_remove (l : Launch) (N0 : Nat) (D : va_G) (cy : Nat → ClassId) (S : gS) (sz : Nat) (o k L : Nat) (hm : mOK S o) (hL : gI S o 1 = nI L) (hL2 : L < 100) (hk : k < L) : gM l yX7_remove cX7_remove 3 (none : Option FieldType) { frames := 1, cells := 0, slots := 0, locals := 40 } N0 D cy [.ref o, .int (nI k)] S sz (fun v S1 z => v = none ∧ S1 = mRem S o k L ∧ z = sz) := by
  refine g_body (by decide) rfl (Nat.le_of_ble_eq_true rfl) ?_
  intro p e s m args below meth c ls hC hU hr hlk hnm hsz hP hS hl
  have hx := hC.1
  have hb := hC.2.1
  refine lv_aload_n hx hb dX7_remove_0 rfl (lv_at hl 0 rfl) ?_
  refine lv_dup hx hb dX7_remove_1 rfl ?_
  refine gv_X7_124 hC hP (mK (hm)) (hL) dX7_remove_2 ?_
  refine lv_iconst (v := 1) hx hb dX7_remove_5 (by decide) ?_
  refine lv_isub hx hb dX7_remove_6 ?_
  refine pt_X7_124 hC hP hS (mK (hm)) dX7_remove_7 (fun H locs hP hz hS => ?_)
  replace hsz := hz.trans hsz
  rw [show nI L - 1 = nI (L - 1) from by rw [show L = (L - 1) + 1 from by omega, nI_pred]; rfl] at hP
  refine lv_iload_n hx hb dX7_remove_10 rfl (lv_at hl 1 rfl) ?_
  refine lv_istore_n (lv' := [(2, .int _), (0, .ref _), (1, .int _)]) hx hb dX7_remove_11 rfl hl (by decide) rfl (fun ls hl => ?_)
  refine lp_X7_remove (sz := sz) (k := k) (B := L - 1) hC hU (mI hm) gI_s (by omega) ⟨by decide, by decide⟩ ⟨by decide, by decide⟩ (fun H locs ls hP hsz hS hl => ?_) (L - 1 - k) k _ _ _ (by omega) (Nat.le_refl _) (by rw [mSh_id]; exact hP) hsz hS (lv_sub hl [0, 1, 2] rfl)
  exact g_vret hC hP hS hr hlk (by decide) (by decide) (⟨rfl, rfl, hsz⟩) dX7_remove_34
set_option maxRecDepth 100000 in
set_option maxHeartbeats 4000000 in
theorem c_X7_isLetter (l : Launch) (N0 : Nat) (D : va_G) (cy : Nat → ClassId) (S : gS) (sz : Nat) (o : Nat) (i : Int32) (hm : mOK S o) : gM l yX7_isLetter cX7_isLetter 3 (some FieldType.boolean) { frames := 0, cells := 0, slots := 0, locals := 0 } N0 D cy [.ref o, .int i] S sz (fun v S1 z => v = some (.int (if 0 ≤ i ∧ i < gI S o 1 then 1 else 0)) ∧ S1 = sI S o 0 (if 0 ≤ i ∧ i < gI S o 1 then 0 else 1) ∧ z = sz) := by
  refine g_body (by decide) rfl (Nat.le_of_ble_eq_true rfl) ?_
  intro p e s m args below meth c ls hC hU hr hlk hnm hsz hP hS hl
  have hx := hC.1
  have hb := hC.2.1
  refine lv_iload_n hx hb dX7_isLetter_0 rfl (lv_at hl 1 rfl) ?_
  refine lv_if_lt (tgt := 16) hx hb dX7_isLetter_1 (by decide) (fun c_1 => ?_) (fun c_1 => ?_)
  · refine lv_iconst (v := 0) hx hb dX7_isLetter_16 (by decide) ?_
    refine lv_istore_n (lv' := [(2, .int _), (0, .ref _), (1, .int _)]) hx hb dX7_isLetter_17 rfl hl (by decide) rfl (fun ls hl => ?_)
    refine lv_aload_n hx hb dX7_isLetter_18 rfl (lv_at hl 1 rfl) ?_
    refine lv_iload_n hx hb dX7_isLetter_19 rfl (lv_at hl 0 rfl) ?_
    refine lv_if_eq (tgt := 27) hx hb dX7_isLetter_20 (by decide) (fun c_20 => ?_) (fun c_20 => ?_)
    · refine lv_iconst (v := 1) hx hb dX7_isLetter_27 (by decide) ?_
      refine pt_X7_114 hC hP hS (mK (hm)) dX7_isLetter_28 (fun H locs hP hz hS => ?_)
      replace hsz := hz.trans hsz
      refine lv_iload_n hx hb dX7_isLetter_31 rfl (lv_at hl 0 rfl) ?_
      exact g_zret hC hP hS hr hlk (by decide) (by decide) (nz01 (by first | exact Or.inl rfl | exact Or.inr rfl)) (by first | (rw [if_pos ⟨Int32.not_lt.mp c_1, Int32.not_le.mp c_9⟩, if_pos ⟨Int32.not_lt.mp c_1, Int32.not_le.mp c_9⟩]; exact ⟨rfl, rfl, hsz⟩) | (rw [if_neg (fun h => absurd h.1 (Int32.not_le.mpr c_1)), if_neg (fun h => absurd h.1 (Int32.not_le.mpr c_1))]; exact ⟨rfl, rfl, hsz⟩) | (rw [if_neg (fun h => absurd h.2 (Int32.not_lt.mpr c_9)), if_neg (fun h => absurd h.2 (Int32.not_lt.mpr c_9))]; exact ⟨rfl, rfl, hsz⟩) | exact absurd rfl c_20 | exact absurd c_20 (by decide)) dX7_isLetter_32
    · refine lv_iconst (v := 0) hx hb dX7_isLetter_23 (by decide) ?_
      refine lv_goto (tgt := 28) hx hb dX7_isLetter_24 (by decide) ?_
      refine pt_X7_114 hC hP hS (mK (hm)) dX7_isLetter_28 (fun H locs hP hz hS => ?_)
      replace hsz := hz.trans hsz
      refine lv_iload_n hx hb dX7_isLetter_31 rfl (lv_at hl 0 rfl) ?_
      exact g_zret hC hP hS hr hlk (by decide) (by decide) (nz01 (by first | exact Or.inl rfl | exact Or.inr rfl)) (by first | (rw [if_pos ⟨Int32.not_lt.mp c_1, Int32.not_le.mp c_9⟩, if_pos ⟨Int32.not_lt.mp c_1, Int32.not_le.mp c_9⟩]; exact ⟨rfl, rfl, hsz⟩) | (rw [if_neg (fun h => absurd h.1 (Int32.not_le.mpr c_1)), if_neg (fun h => absurd h.1 (Int32.not_le.mpr c_1))]; exact ⟨rfl, rfl, hsz⟩) | (rw [if_neg (fun h => absurd h.2 (Int32.not_lt.mpr c_9)), if_neg (fun h => absurd h.2 (Int32.not_lt.mpr c_9))]; exact ⟨rfl, rfl, hsz⟩) | exact absurd rfl c_20 | exact absurd c_20 (by decide)) dX7_isLetter_32
  · refine lv_iload_n hx hb dX7_isLetter_4 rfl (lv_at hl 1 rfl) ?_
    refine lv_aload_n hx hb dX7_isLetter_5 rfl (lv_at hl 0 rfl) ?_
    refine gt_X7_124 hC hP (mK (hm)) dX7_isLetter_6 ?_
    refine lv_icmp_ge (tgt := 16) hx hb dX7_isLetter_9 (by decide) (fun c_9 => ?_) (fun c_9 => ?_)
    · refine lv_iconst (v := 0) hx hb dX7_isLetter_16 (by decide) ?_
      refine lv_istore_n (lv' := [(2, .int _), (0, .ref _), (1, .int _)]) hx hb dX7_isLetter_17 rfl hl (by decide) rfl (fun ls hl => ?_)
      refine lv_aload_n hx hb dX7_isLetter_18 rfl (lv_at hl 1 rfl) ?_
      refine lv_iload_n hx hb dX7_isLetter_19 rfl (lv_at hl 0 rfl) ?_
      refine lv_if_eq (tgt := 27) hx hb dX7_isLetter_20 (by decide) (fun c_20 => ?_) (fun c_20 => ?_)
      · refine lv_iconst (v := 1) hx hb dX7_isLetter_27 (by decide) ?_
        refine pt_X7_114 hC hP hS (mK (hm)) dX7_isLetter_28 (fun H locs hP hz hS => ?_)
        replace hsz := hz.trans hsz
        refine lv_iload_n hx hb dX7_isLetter_31 rfl (lv_at hl 0 rfl) ?_
        exact g_zret hC hP hS hr hlk (by decide) (by decide) (nz01 (by first | exact Or.inl rfl | exact Or.inr rfl)) (by first | (rw [if_pos ⟨Int32.not_lt.mp c_1, Int32.not_le.mp c_9⟩, if_pos ⟨Int32.not_lt.mp c_1, Int32.not_le.mp c_9⟩]; exact ⟨rfl, rfl, hsz⟩) | (rw [if_neg (fun h => absurd h.1 (Int32.not_le.mpr c_1)), if_neg (fun h => absurd h.1 (Int32.not_le.mpr c_1))]; exact ⟨rfl, rfl, hsz⟩) | (rw [if_neg (fun h => absurd h.2 (Int32.not_lt.mpr c_9)), if_neg (fun h => absurd h.2 (Int32.not_lt.mpr c_9))]; exact ⟨rfl, rfl, hsz⟩) | exact absurd rfl c_20 | exact absurd c_20 (by decide)) dX7_isLetter_32
      · refine lv_iconst (v := 0) hx hb dX7_isLetter_23 (by decide) ?_
        refine lv_goto (tgt := 28) hx hb dX7_isLetter_24 (by decide) ?_
        refine pt_X7_114 hC hP hS (mK (hm)) dX7_isLetter_28 (fun H locs hP hz hS => ?_)
        replace hsz := hz.trans hsz
        refine lv_iload_n hx hb dX7_isLetter_31 rfl (lv_at hl 0 rfl) ?_
        exact g_zret hC hP hS hr hlk (by decide) (by decide) (nz01 (by first | exact Or.inl rfl | exact Or.inr rfl)) (by first | (rw [if_pos ⟨Int32.not_lt.mp c_1, Int32.not_le.mp c_9⟩, if_pos ⟨Int32.not_lt.mp c_1, Int32.not_le.mp c_9⟩]; exact ⟨rfl, rfl, hsz⟩) | (rw [if_neg (fun h => absurd h.1 (Int32.not_le.mpr c_1)), if_neg (fun h => absurd h.1 (Int32.not_le.mpr c_1))]; exact ⟨rfl, rfl, hsz⟩) | (rw [if_neg (fun h => absurd h.2 (Int32.not_lt.mpr c_9)), if_neg (fun h => absurd h.2 (Int32.not_lt.mpr c_9))]; exact ⟨rfl, rfl, hsz⟩) | exact absurd rfl c_20 | exact absurd c_20 (by decide)) dX7_isLetter_32
    · refine lv_iconst (v := 1) hx hb dX7_isLetter_12 (by decide) ?_
      refine lv_goto (tgt := 17) hx hb dX7_isLetter_13 (by decide) ?_
      refine lv_istore_n (lv' := [(2, .int _), (0, .ref _), (1, .int _)]) hx hb dX7_isLetter_17 rfl hl (by decide) rfl (fun ls hl => ?_)
      refine lv_aload_n hx hb dX7_isLetter_18 rfl (lv_at hl 1 rfl) ?_
      refine lv_iload_n hx hb dX7_isLetter_19 rfl (lv_at hl 0 rfl) ?_
      refine lv_if_eq (tgt := 27) hx hb dX7_isLetter_20 (by decide) (fun c_20 => ?_) (fun c_20 => ?_)
      · refine lv_iconst (v := 1) hx hb dX7_isLetter_27 (by decide) ?_
        refine pt_X7_114 hC hP hS (mK (hm)) dX7_isLetter_28 (fun H locs hP hz hS => ?_)
        replace hsz := hz.trans hsz
        refine lv_iload_n hx hb dX7_isLetter_31 rfl (lv_at hl 0 rfl) ?_
        exact g_zret hC hP hS hr hlk (by decide) (by decide) (nz01 (by first | exact Or.inl rfl | exact Or.inr rfl)) (by first | (rw [if_pos ⟨Int32.not_lt.mp c_1, Int32.not_le.mp c_9⟩, if_pos ⟨Int32.not_lt.mp c_1, Int32.not_le.mp c_9⟩]; exact ⟨rfl, rfl, hsz⟩) | (rw [if_neg (fun h => absurd h.1 (Int32.not_le.mpr c_1)), if_neg (fun h => absurd h.1 (Int32.not_le.mpr c_1))]; exact ⟨rfl, rfl, hsz⟩) | (rw [if_neg (fun h => absurd h.2 (Int32.not_lt.mpr c_9)), if_neg (fun h => absurd h.2 (Int32.not_lt.mpr c_9))]; exact ⟨rfl, rfl, hsz⟩) | exact absurd rfl c_20 | exact absurd c_20 (by decide)) dX7_isLetter_32
      · refine lv_iconst (v := 0) hx hb dX7_isLetter_23 (by decide) ?_
        refine lv_goto (tgt := 28) hx hb dX7_isLetter_24 (by decide) ?_
        refine pt_X7_114 hC hP hS (mK (hm)) dX7_isLetter_28 (fun H locs hP hz hS => ?_)
        replace hsz := hz.trans hsz
        refine lv_iload_n hx hb dX7_isLetter_31 rfl (lv_at hl 0 rfl) ?_
        exact g_zret hC hP hS hr hlk (by decide) (by decide) (nz01 (by first | exact Or.inl rfl | exact Or.inr rfl)) (by first | (rw [if_pos ⟨Int32.not_lt.mp c_1, Int32.not_le.mp c_9⟩, if_pos ⟨Int32.not_lt.mp c_1, Int32.not_le.mp c_9⟩]; exact ⟨rfl, rfl, hsz⟩) | (rw [if_neg (fun h => absurd h.1 (Int32.not_le.mpr c_1)), if_neg (fun h => absurd h.1 (Int32.not_le.mpr c_1))]; exact ⟨rfl, rfl, hsz⟩) | (rw [if_neg (fun h => absurd h.2 (Int32.not_lt.mpr c_9)), if_neg (fun h => absurd h.2 (Int32.not_lt.mpr c_9))]; exact ⟨rfl, rfl, hsz⟩) | exact absurd rfl c_20 | exact absurd c_20 (by decide)) dX7_isLetter_32

set_option maxRecDepth 100000 in
set_option maxHeartbeats 4000000 in
theorem c_X7_letters (l : Launch) (N0 : Nat) (D : va_G) (cy : Nat → ClassId) (S : gS) (sz : Nat) (o : Nat) (hm : mOK S o) : gM l yX7_letters cX7_letters 1 (some FieldType.int) { frames := 0, cells := 0, slots := 0, locals := 0 } N0 D cy [.ref o] S sz (fun v S1 z => v = some (.int (gI S o 1)) ∧ S1 = sI S o 0 0 ∧ z = sz) := by
  refine g_body (by decide) rfl (Nat.le_of_ble_eq_true rfl) ?_
  intro p e s m args below meth c ls hC hU hr hlk hnm hsz hP hS hl
  have hx := hC.1
  have hb := hC.2.1
  refine lv_aload_n hx hb dX7_letters_0 rfl (lv_at hl 0 rfl) ?_
  refine lv_iconst (v := 0) hx hb dX7_letters_1 (by decide) ?_
  refine pt_X7_114 hC hP hS (mK (hm)) dX7_letters_2 (fun H locs hP hz hS => ?_)
  replace hsz := hz.trans hsz
  refine lv_aload_n hx hb dX7_letters_5 rfl (lv_at hl 0 rfl) ?_
  refine gt_X7_124 hC hP (mK (mI (hm))) dX7_letters_6 ?_
  exact g_iret hC hP hS hr hlk (by decide) (by decide) (⟨by rw [gI_k (by decide)], rfl, hsz⟩) dX7_letters_9

theorem th1 {P : Prop} {_ : Decidable P} (h : ¬ (if P then (1 : Int32) else 0) = 0) : P := cnt1 h
/-- a letter's number, or no such -/
def isL (S : gS) (o : Nat) (i : Int32) : Prop := 0 ≤ i ∧ i < gI S o 1
theorem isL_nat {i : Int32} {L : Nat} (h : 0 ≤ i ∧ i < nI L) (hL : L < 100) : ∃ k, k < L ∧ i = nI k := by
  obtain ⟨j, hj, e⟩ := nI_of (Int32.not_lt.mpr h.1)
  subst e
  exact ⟨j, (nI_ltI hj (by omega)).mp h.2, rfl⟩
theorem isI_nat {i : Int32} (h : 0 ≤ i ∧ i < 8) : ∃ k, k < 8 ∧ i = nI k := by
  obtain ⟨j, hj, e⟩ := nI_of (Int32.not_lt.mpr h.1)
  subst e
  exact ⟨j, (nI_ltI (b := 8) hj (by omega)).mp h.2, rfl⟩
set_option maxRecDepth 100000 in
set_option maxHeartbeats 4000000 in
theorem c_X7_lose (l : Launch) (N0 : Nat) (D : va_G) (cy : Nat → ClassId) (S : gS) (sz : Nat) (o L : Nat) (i : Int32) (hm : mOK S o) (hL : gI S o 1 = nI L) (hL2 : L < 100) : gM l yX7_lose cX7_lose 2 (none : Option FieldType) { frames := 2, cells := 0, slots := 0, locals := 80 } N0 D cy [.ref o, .int i] S sz (fun v S1 z => v = none ∧ z = sz ∧ ((¬ isL S o i ∧ S1 = sI S o 0 1) ∨ (∃ k, k < L ∧ i = nI k ∧ S1 = mRem (sI S o 0 0) o k L))) := by
  refine g_body (by decide) rfl (Nat.le_of_ble_eq_true rfl) ?_
  intro p e s m args below meth c ls hC hU hr hlk hnm hsz hP hS hl
  have hx := hC.1
  have hb := hC.2.1
  refine lv_aload_n hx hb dX7_lose_0 rfl (lv_at hl 0 rfl) ?_
  refine lv_iload_n hx hb dX7_lose_1 rfl (lv_at hl 1 rfl) ?_
  refine g_callV (As := [.int _]) (rest := []) hC hU hP hS hl.1 (c_X7_isLetter l N0 D cy _ _ o _ hm) mL_X7_131 iM_X7_isLetter sL_X7_isLetter iN_X7 cD_X7_isLetter ⟨by decide, by decide, rfl⟩ ⟨by decide, by decide⟩ ⟨by decide, by decide⟩ (ci := 7) rfl (by decide) (mK (hm)) rfl (Nat.le_of_ble_eq_true rfl) dX7_lose_2 (fun v S1 H locs hw hP hz hS => ?_)
  obtain ⟨rfl, hS1, hz2⟩ := hw
  replace hS1 := hS1.symm
  subst hS1
  replace hsz := hz2.trans hsz
  refine lv_if_eq (tgt := 13) hx hb dX7_lose_5 (by decide) (fun c_5 => ?_) (fun c_5 => ?_)
  · exact g_vret hC hP hS hr hlk (by decide) (by decide) (⟨rfl, hsz, by first | exact Or.inr ⟨k, hk, rfl, rfl⟩ | exact Or.inl ⟨cnt0 c_5, by rw [if_neg (cnt0 c_5)]⟩⟩) dX7_lose_13
  · have c_6 := th1 c_5
    rw [if_pos c_6] at hP
    rw [hL] at c_6
    obtain ⟨k, hk, rfl⟩ := isL_nat c_6 hL2
    refine lv_aload_n hx hb dX7_lose_8 rfl (lv_at hl 0 rfl) ?_
    refine lv_iload_n hx hb dX7_lose_9 rfl (lv_at hl 1 rfl) ?_
    refine g_callV (As := [.int _]) (rest := []) hC hU hP hS hl.1 (c_X7_remove l N0 D cy _ _ o k L (mI hm) (vI (Or.inr (by decide)) hL) hL2 hk) mL_X7_134 iM_X7_remove sL_X7_remove iN_X7 cD_X7_remove ⟨by decide, by decide, rfl⟩ ⟨by decide, by decide⟩ ⟨by decide, by decide⟩ (ci := 7) rfl (by decide) (mK (hm)) rfl (Nat.le_of_ble_eq_true rfl) dX7_lose_10 (fun v S1 H locs hw hP hz hS => ?_)
    obtain ⟨rfl, hS1, hz2⟩ := hw
    replace hS1 := hS1.symm
    subst hS1
    replace hsz := hz2.trans hsz
    exact g_vret hC hP hS hr hlk (by decide) (by decide) (⟨rfl, hsz, by first | exact Or.inr ⟨k, hk, rfl, rfl⟩ | exact Or.inl ⟨cnt0 c_5, by rw [if_neg (cnt0 c_5)]⟩⟩) dX7_lose_13

set_option maxRecDepth 100000 in
set_option maxHeartbeats 4000000 in
theorem c_X7_twin (l : Launch) (N0 : Nat) (D : va_G) (cy : Nat → ClassId) (S : gS) (sz : Nat) (o L : Nat) (i : Int32) (hm : mOK S o) (hL : gI S o 1 = nI L) (hL2 : L < 100) : gM l yX7_twin cX7_twin 2 (none : Option FieldType) { frames := 2, cells := 0, slots := 0, locals := 80 } N0 D cy [.ref o, .int i] S sz (fun v S1 z => v = none ∧ z = sz ∧ ((¬ isL S o i ∧ S1 = sI S o 0 1) ∨ (∃ k, k < L ∧ i = nI k ∧ L = 90 ∧ S1 = sI (sI S o 0 0) o 0 2) ∨ (∃ k, k < L ∧ i = nI k ∧ L ≠ 90 ∧ S1 = sI (mCopy (sI S o 0 0) o k L) o 1 (nI (L + 1))))) := by
  refine g_body (by decide) rfl (Nat.le_of_ble_eq_true rfl) ?_
  intro p e s m args below meth c ls hC hU hr hlk hnm hsz hP hS hl
  have hx := hC.1
  have hb := hC.2.1
  refine lv_aload_n hx hb dX7_twin_0 rfl (lv_at hl 0 rfl) ?_
  refine lv_iload_n hx hb dX7_twin_1 rfl (lv_at hl 1 rfl) ?_
  refine g_callV (As := [.int _]) (rest := []) hC hU hP hS hl.1 (c_X7_isLetter l N0 D cy _ _ o _ hm) mL_X7_131 iM_X7_isLetter sL_X7_isLetter iN_X7 cD_X7_isLetter ⟨by decide, by decide, rfl⟩ ⟨by decide, by decide⟩ ⟨by decide, by decide⟩ (ci := 7) rfl (by decide) (mK (hm)) rfl (Nat.le_of_ble_eq_true rfl) dX7_twin_2 (fun v S1 H locs hw hP hz hS => ?_)
  obtain ⟨rfl, hS1, hz2⟩ := hw
  replace hS1 := hS1.symm
  subst hS1
  replace hsz := hz2.trans hsz
  refine lv_if_ne (tgt := 9) hx hb dX7_twin_5 (by decide) (fun c_5 => ?_) (fun c_5 => ?_)
  · have c_6 := th1 c_5
    rw [if_pos c_6] at hP
    rw [hL] at c_6
    obtain ⟨k, hk, rfl⟩ := isL_nat c_6 hL2
    refine lv_aload_n hx hb dX7_twin_9 rfl (lv_at hl 0 rfl) ?_
    refine gv_X7_124 hC hP (mK (mI (hm))) (vI (by first | exact Or.inr (by decide) | exact Or.inl (by omega)) (hL)) dX7_twin_10 ?_
    refine lv_bipush (v := 90) hx hb dX7_twin_13 (by decide) ?_
    refine lv_icmp_ne (tgt := 24) hx hb dX7_twin_15 (by decide) (fun c_15 => ?_) (fun c_15 => ?_)
    · refine lv_aload_n hx hb dX7_twin_24 rfl (lv_at hl 0 rfl) ?_
      refine lv_iload_n hx hb dX7_twin_25 rfl (lv_at hl 1 rfl) ?_
      refine lv_aload_n hx hb dX7_twin_26 rfl (lv_at hl 0 rfl) ?_
      refine gv_X7_124 hC hP (mK (mI (hm))) (vI (by first | exact Or.inr (by decide) | exact Or.inl (by omega)) (hL)) dX7_twin_27 ?_
      refine g_callV (As := [.int _, .int _]) (rest := []) hC hU hP hS hl.1 (c_X7_copy l N0 D cy _ _ o k L (mI hm) (by omega) (by omega)) mL_X7_127 iM_X7_copy sL_X7_copy iN_X7 cD_X7_copy ⟨by decide, by decide, rfl⟩ ⟨by decide, by decide⟩ ⟨by decide, by decide⟩ (ci := 7) rfl (by decide) (mK (mI (hm))) rfl (Nat.le_of_ble_eq_true rfl) dX7_twin_30 (fun v S1 H locs hw hP hz hS => ?_)
      obtain ⟨rfl, hS1, hz2⟩ := hw
      replace hS1 := hS1.symm
      subst hS1
      replace hsz := hz2.trans hsz
      refine lv_aload_n hx hb dX7_twin_33 rfl (lv_at hl 0 rfl) ?_
      refine lv_dup hx hb dX7_twin_34 rfl ?_
      refine gv_X7_124 hC hP (mK (mC (mI (hm)))) (vC (vI (by first | exact Or.inr (by decide) | exact Or.inl (by omega)) (hL))) dX7_twin_35 ?_
      refine lv_iconst (v := 1) hx hb dX7_twin_38 (by decide) ?_
      refine lv_iadd hx hb dX7_twin_39 ?_
      refine pt_X7_124 hC hP hS (mK (mC (mI (hm)))) dX7_twin_40 (fun H locs hP hz hS => ?_)
      replace hsz := hz.trans hsz
      rw [← nI_succ] at hP
      exact g_vret hC hP hS hr hlk (by decide) (by decide) (⟨rfl, hsz, Or.inr (Or.inr ⟨k, hk, rfl, fun e => c_15 (by rw [e]; rfl), rfl⟩)⟩) dX7_twin_43
    · refine lv_aload_n hx hb dX7_twin_18 rfl (lv_at hl 0 rfl) ?_
      refine lv_iconst (v := 2) hx hb dX7_twin_19 (by decide) ?_
      refine pt_X7_114 hC hP hS (mK (mI (hm))) dX7_twin_20 (fun H locs hP hz hS => ?_)
      replace hsz := hz.trans hsz
      exact g_vret hC hP hS hr hlk (by decide) (by decide) (⟨rfl, hsz, Or.inr (Or.inl ⟨k, hk, rfl, (nI_eq (b := 90) (by omega) (by decide)).mp c_15, rfl⟩)⟩) dX7_twin_23
  · exact g_vret hC hP hS hr hlk (by decide) (by decide) (⟨rfl, hsz, Or.inl ⟨cnt0 c_5, by rw [if_neg (cnt0 c_5)]⟩⟩) dX7_twin_8

