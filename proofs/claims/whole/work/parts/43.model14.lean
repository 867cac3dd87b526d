def upF (S : gS) (o : Nat) : Nat → Int32
  | 0 => 0
  | n + 1 => if gI S (o + 15) n = 0 then upF S o n + 1 else upF S o n
def beF (S : gS) (o t : Nat) (st : Int32) : Nat → Int32
  | 0 => -1
  | n + 1 => if gI S (o + 15) n = 0 then (if balR S o (beF S o t st n) < balR S o (rowI S o (nI n) st t) then rowI S o (nI n) st t else beF S o t st n) else beF S o t st n
theorem beF_ok {S : gS} {o t : Nat} {st : Int32} (ht : t ≤ 600) : ∀ n : Nat, beF S o t st n < 0 ∨ vp_in (beF S o t st n) 600
  | 0 => Or.inl (show (-1 : Int32) < 0 by decide)
  | n + 1 => by
    unfold beF
    split
    · split
      · exact rowI_ok ht
      · exact beF_ok ht n
    · exact beF_ok ht n
set_option maxRecDepth 100000 in
set_option maxHeartbeats 4000000 in
theorem lp_X7_seat {p : Program} {l : Launch} {e : Env} {R : Room} {s : State} {m : MethodId} {args : Array Value} {below : List Frame} {meth : Method} {c : Code} {cells slots : Nat} {Q : State → Prop} {N0 : Nat} {D : va_G} {cy : Nat → ClassId} {S : gS} {sz : Nat} (hC : gC N0 D cy p s m args c cX7_seat 7 RX7) (hU : gU D cy s) {o t : Nat} {st wv : Int32} (hm : mOK S o) (ht : gI S o 10 = nI t) (ht2 : t ≤ 600) (hR : 1 ≤ R.frames ∧ 40 ≤ R.locals) (hc0 : cells ≤ R.cells ∧ slots ≤ R.slots)
    (hexit : ∀ (H : Heap) (locs : List Loc) (ls : Array Slot), gP N0 D cy S H → H.size = sz → va_S (fun q => N0 ≤ q) s.heap H locs → lv_has ls 7 [(5, .int (nI 5)), (4, .int (beF S o t st 5)), (3, .int (upF S o 5)), (0, .ref o), (1, .int st), (2, .int wv)] → W p l e R s m args below meth c H locs cells slots Q (F0 m 110 ls [])) :
    ∀ (n i : Nat) (H : Heap) (locs : List Loc) (ls : Array Slot), i + n = 5 → gP N0 D cy S H → H.size = sz → va_S (fun q => N0 ≤ q) s.heap H locs → lv_has ls 7 [(5, .int (nI i)), (4, .int (beF S o t st i)), (3, .int (upF S o i)), (0, .ref o), (1, .int st), (2, .int wv)] → W p l e R s m args below meth c H locs cells slots Q (F0 m 45 ls []) := by
  have hx := hC.1
  have hb := hC.2.1
  intro n
  induction n with
  | zero =>
    intro i H locs ls hi hP hsz hS hl
    have hi8 : i = 5 := by omega
    subst hi8
    refine lv_iload hx hb dX7_seat_45 (lv_at hl 0 rfl) ?_
    refine lv_iconst (v := 5) hx hb dX7_seat_47 (by decide) ?_
    refine lv_icmp_ge (tgt := 110) hx hb dX7_seat_48 (by decide) (fun c_48 => ?_) (fun c_48 => ?_)
    · exact hexit _ _ _ hP hsz hS (lv_sub hl [0, 1, 2, 3, 4, 5] rfl)
    · exact absurd (by decide) c_48
  | succ n ih =>
    intro i H locs ls hi hP hsz hS hl
    have hi8 : i < 5 := by omega
    refine lv_iload hx hb dX7_seat_45 (lv_at hl 0 rfl) ?_
    refine lv_iconst (v := 5) hx hb dX7_seat_47 (by decide) ?_
    refine lv_icmp_ge (tgt := 110) hx hb dX7_seat_48 (by decide) (fun c_48 => ?_) (fun c_48 => ?_)
    · exact absurd c_48 (nI_ge (a := i) (b := 5) (by omega) (by decide))
    · refine lv_aload_n hx hb dX7_seat_51 rfl (lv_at hl 3 rfl) ?_
      refine gt_X7_53 hC hP (mK (hm)) (mR_17 (hm)) dX7_seat_52 ?_
      refine lv_iload hx hb dX7_seat_55 (lv_at hl 0 rfl) ?_
      refine g_zald hC hP (mA_17 (hm)) (by rw [mN_17 (hm)]; exact vp_in_nI (by omega) (by decide)) dX7_seat_57 ?_
      rw [nI_clamp (by omega)]
      refine lv_if_eq (tgt := 64) hx hb dX7_seat_58 (by decide) (fun c_58 => ?_) (fun c_58 => ?_)
      · refine lv_iinc (v := _ + 1) (lv' := [(3, .int _), (5, .int _), (4, .int _), (0, .ref _), (1, .int _), (2, .int _)]) hx hb dX7_seat_64 hl (k := 2) rfl rfl (by decide) rfl (fun ls hl => ?_)
        refine lv_aload_n hx hb dX7_seat_67 rfl (lv_at hl 3 rfl) ?_
        refine lv_iload hx hb dX7_seat_68 (lv_at hl 1 rfl) ?_
        refine lv_iload_n hx hb dX7_seat_70 rfl (lv_at hl 4 rfl) ?_
        refine lv_aload_n hx hb dX7_seat_71 rfl (lv_at hl 3 rfl) ?_
        refine gv_X7_171 hC hP (mK (hm)) (ht) dX7_seat_72 ?_
        refine g_callV (As := [.int _, .int _, .int _]) (rest := []) hC hU hP hS hl.1 (c_X7_rowOf l N0 D cy _ _ o t (nI i) st hm ht2) mL_X7_153 iM_X7_rowOf sL_X7_rowOf iN_X7 cD_X7_rowOf ⟨by decide, by decide, rfl⟩ ⟨Nat.le_trans (by decide) hR.1, Nat.le_trans (by decide) hR.2⟩ ⟨hc0.1, hc0.2⟩ (ci := 7) rfl (by decide) (mK (hm)) rfl (Nat.le_of_ble_eq_true rfl) dX7_seat_75 (fun v S1 H locs hw hP hz hS => ?_)
        obtain ⟨rfl, hS1, hz2⟩ := hw
        replace hS1 := hS1.symm
        subst hS1
        replace hsz := hz2.trans hsz
        refine lv_istore (lv' := [(6, .int _), (3, .int _), (5, .int _), (4, .int _), (0, .ref _), (1, .int _), (2, .int _)]) hx hb dX7_seat_78 hl (by decide) rfl (fun ls hl => ?_)
        refine lv_aload_n hx hb dX7_seat_80 rfl (lv_at hl 4 rfl) ?_
        refine lv_iload hx hb dX7_seat_81 (lv_at hl 0 rfl) ?_
        refine g_callV (As := [.int _]) (rest := []) hC hU hP hS hl.1 (c_X7_ballotAt l N0 D cy _ _ o _ hm (rowI_ok ht2)) mL_X7_157 iM_X7_ballotAt sL_X7_ballotAt iN_X7 cD_X7_ballotAt ⟨by decide, by decide, rfl⟩ ⟨Nat.le_trans (by decide) hR.1, Nat.le_trans (by decide) hR.2⟩ ⟨hc0.1, hc0.2⟩ (ci := 7) rfl (by decide) (mK (hm)) rfl (Nat.le_of_ble_eq_true rfl) dX7_seat_83 (fun v S1 H locs hw hP hz hS => ?_)
        obtain ⟨rfl, hS1, hz2⟩ := hw
        replace hS1 := hS1.symm
        subst hS1
        replace hsz := hz2.trans hsz
        refine lv_aload_n hx hb dX7_seat_86 rfl (lv_at hl 4 rfl) ?_
        refine lv_iload hx hb dX7_seat_87 (lv_at hl 3 rfl) ?_
        refine g_callV (As := [.int _]) (rest := [.int _]) hC hU hP hS hl.1 (c_X7_ballotAt l N0 D cy _ _ o _ hm (beF_ok ht2 i)) mL_X7_157 iM_X7_ballotAt sL_X7_ballotAt iN_X7 cD_X7_ballotAt ⟨by decide, by decide, rfl⟩ ⟨Nat.le_trans (by decide) hR.1, Nat.le_trans (by decide) hR.2⟩ ⟨hc0.1, hc0.2⟩ (ci := 7) rfl (by decide) (mK (hm)) rfl (Nat.le_of_ble_eq_true rfl) dX7_seat_89 (fun v S1 H locs hw hP hz hS => ?_)
        obtain ⟨rfl, hS1, hz2⟩ := hw
        replace hS1 := hS1.symm
        subst hS1
        replace hsz := hz2.trans hsz
        refine lv_icmp_le (tgt := 100) hx hb dX7_seat_92 (by decide) (fun c_92 => ?_) (fun c_92 => ?_)
        · refine lv_iload hx hb dX7_seat_100 (lv_at hl 3 rfl) ?_
          refine lv_istore (lv' := [(4, .int _), (6, .int _), (3, .int _), (5, .int _), (0, .ref _), (1, .int _), (2, .int _)]) hx hb dX7_seat_102 hl (by decide) rfl (fun ls hl => ?_)
          refine lv_iinc (v := _ + 1) (lv' := [(5, .int _), (4, .int _), (6, .int _), (3, .int _), (0, .ref _), (1, .int _), (2, .int _)]) hx hb dX7_seat_104 hl (k := 3) rfl rfl (by decide) rfl (fun ls hl => ?_)
          refine lv_goto (tgt := 45) hx hb dX7_seat_107 (by decide) ?_
          exact ih (i + 1) _ _ _ (by omega) hP hsz hS (by rw [nI_succ]; unfold beF upF; first | (rw [if_neg c_58, if_neg c_58]; exact lv_sub hl [0, 1, 3, 4, 5, 6] rfl) | (rw [if_pos c_58, if_pos c_58, if_pos (show balR S o (beF S o t st i) < balR S o (rowI S o (nI i) st t) from Int32.not_le.mp c_92)]; exact lv_sub hl [0, 1, 3, 4, 5, 6] rfl) | (rw [if_pos c_58, if_pos c_58, if_neg (show ¬ balR S o (beF S o t st i) < balR S o (rowI S o (nI i) st t) from Int32.not_lt.mpr c_92)]; exact lv_sub hl [0, 1, 3, 4, 5, 6] rfl))
        · refine lv_iload hx hb dX7_seat_95 (lv_at hl 0 rfl) ?_
          refine lv_goto (tgt := 102) hx hb dX7_seat_97 (by decide) ?_
          refine lv_istore (lv' := [(4, .int _), (6, .int _), (3, .int _), (5, .int _), (0, .ref _), (1, .int _), (2, .int _)]) hx hb dX7_seat_102 hl (by decide) rfl (fun ls hl => ?_)
          refine lv_iinc (v := _ + 1) (lv' := [(5, .int _), (4, .int _), (6, .int _), (3, .int _), (0, .ref _), (1, .int _), (2, .int _)]) hx hb dX7_seat_104 hl (k := 3) rfl rfl (by decide) rfl (fun ls hl => ?_)
          refine lv_goto (tgt := 45) hx hb dX7_seat_107 (by decide) ?_
          exact ih (i + 1) _ _ _ (by omega) hP hsz hS (by rw [nI_succ]; unfold beF upF; first | (rw [if_neg c_58, if_neg c_58]; exact lv_sub hl [0, 1, 3, 4, 5, 6] rfl) | (rw [if_pos c_58, if_pos c_58, if_pos (show balR S o (beF S o t st i) < balR S o (rowI S o (nI i) st t) from Int32.not_le.mp c_92)]; exact lv_sub hl [0, 1, 3, 4, 5, 6] rfl) | (rw [if_pos c_58, if_pos c_58, if_neg (show ¬ balR S o (beF S o t st i) < balR S o (rowI S o (nI i) st t) from Int32.not_lt.mpr c_92)]; exact lv_sub hl [0, 1, 3, 4, 5, 6] rfl))
      · refine lv_goto (tgt := 104) hx hb dX7_seat_61 (by decide) ?_
        refine lv_iinc (v := _ + 1) (lv' := [(5, .int _), (4, .int _), (3, .int _), (0, .ref _), (1, .int _), (2, .int _)]) hx hb dX7_seat_104 hl (k := 0) rfl rfl (by decide) rfl (fun ls hl => ?_)
        refine lv_goto (tgt := 45) hx hb dX7_seat_107 (by decide) ?_
        exact ih (i + 1) _ _ _ (by omega) hP hsz hS (by rw [nI_succ]; unfold beF upF; first | (rw [if_neg c_58, if_neg c_58]; exact lv_sub hl [0, 1, 2, 3, 4, 5] rfl) | (rw [if_pos c_58, if_pos c_58, if_pos (show balR S o (beF S o t st i) < balR S o (rowI S o (nI i) st t) from Int32.not_le.mp c_92)]; exact lv_sub hl [0, 1, 2, 3, 4, 5] rfl) | (rw [if_pos c_58, if_pos c_58, if_neg (show ¬ balR S o (beF S o t st i) < balR S o (rowI S o (nI i) st t) from Int32.not_lt.mpr c_92)]; exact lv_sub hl [0, 1, 2, 3, 4, 5] rfl))
def seX (st w : Int32) : Prop := st < 0 ∨ 7 < st ∨ w < 0 ∨ 2 < w
def seV (S : gS) (o t : Nat) (st w : Int32) : Int64 := if upF S o 5 < 3 ∨ beF S o t st 5 < 0 then -1 else if w = 0 then (holR S o (beF S o t st 5)).toInt64 else if w = 1 then (terR S o (beF S o t st 5)).toInt64 else marR S o (beF S o t st 5)
set_option maxRecDepth 100000 in
set_option maxHeartbeats 4000000 in
theorem c_X7_seat (l : Launch) (N0 : Nat) (D : va_G) (cy : Nat → ClassId) (S : gS) (sz : Nat) (o t : Nat) (st w : Int32) (hm : mOK S o) (ht : gI S o 10 = nI t) (ht2 : t ≤ 600) : gM l yX7_seat cX7_seat 7 (some FieldType.long) { frames := 1, cells := 0, slots := 0, locals := 40 } N0 D cy [.ref o, .int st, .int w] S sz (fun v S1 z => z = sz ∧ ((seX st w ∧ v = some (.long 0) ∧ S1 = sI S o 0 1) ∨ (¬ seX st w ∧ v = some (.long (seV (sI S o 0 0) o t st w)) ∧ S1 = sI S o 0 0))) := by
  refine g_body (by decide) rfl (Nat.le_of_ble_eq_true rfl) ?_
  intro p e s m args below meth c ls hC hU hr hlk hnm hsz hP hS hl
  have hx := hC.1
  have hb := hC.2.1
  refine lv_aload_n hx hb dX7_seat_0 rfl (lv_at hl 0 rfl) ?_
  refine lv_iload_n hx hb dX7_seat_1 rfl (lv_at hl 1 rfl) ?_
  refine lv_if_lt (tgt := 20) hx hb dX7_seat_2 (by decide) (fun c_2 => ?_) (fun c_2 => ?_)
  · refine lv_iconst (v := 1) hx hb dX7_seat_20 (by decide) ?_
    refine lv_goto (tgt := 25) hx hb dX7_seat_21 (by decide) ?_
    refine pt_X7_114 hC hP hS (mK (hm)) dX7_seat_25 (fun H locs hP hz hS => ?_)
    replace hsz := hz.trans hsz
    refine lv_aload_n hx hb dX7_seat_28 rfl (lv_at hl 0 rfl) ?_
    refine gv_X7_114 hC hP (mK (mI (hm))) gI_s dX7_seat_29 ?_
    refine lv_if_eq (tgt := 37) hx hb dX7_seat_32 (by decide) (fun c_32 => ?_) (fun c_32 => ?_)
    · exact absurd c_32 (by decide)
    · refine lv_lconst (v := 0) hx hb dX7_seat_35 rfl ?_
      exact g_lret hC hP hS hr hlk (by decide) (by decide) (⟨hsz, Or.inl ⟨by first | exact Or.inl c_2 | exact Or.inr (Or.inl c_8) | exact Or.inr (Or.inr (Or.inl c_12)) | exact Or.inr (Or.inr (Or.inr (Int32.not_le.mp c_17))), rfl, rfl⟩⟩) dX7_seat_36
  · refine lv_iload_n hx hb dX7_seat_5 rfl (lv_at hl 1 rfl) ?_
    refine lv_bipush (v := 7) hx hb dX7_seat_6 (by decide) ?_
    refine lv_icmp_gt (tgt := 20) hx hb dX7_seat_8 (by decide) (fun c_8 => ?_) (fun c_8 => ?_)
    · refine lv_iconst (v := 1) hx hb dX7_seat_20 (by decide) ?_
      refine lv_goto (tgt := 25) hx hb dX7_seat_21 (by decide) ?_
      refine pt_X7_114 hC hP hS (mK (hm)) dX7_seat_25 (fun H locs hP hz hS => ?_)
      replace hsz := hz.trans hsz
      refine lv_aload_n hx hb dX7_seat_28 rfl (lv_at hl 0 rfl) ?_
      refine gv_X7_114 hC hP (mK (mI (hm))) gI_s dX7_seat_29 ?_
      refine lv_if_eq (tgt := 37) hx hb dX7_seat_32 (by decide) (fun c_32 => ?_) (fun c_32 => ?_)
      · exact absurd c_32 (by decide)
      · refine lv_lconst (v := 0) hx hb dX7_seat_35 rfl ?_
        exact g_lret hC hP hS hr hlk (by decide) (by decide) (⟨hsz, Or.inl ⟨by first | exact Or.inl c_2 | exact Or.inr (Or.inl c_8) | exact Or.inr (Or.inr (Or.inl c_12)) | exact Or.inr (Or.inr (Or.inr (Int32.not_le.mp c_17))), rfl, rfl⟩⟩) dX7_seat_36
    · refine lv_iload_n hx hb dX7_seat_11 rfl (lv_at hl 2 rfl) ?_
      refine lv_if_lt (tgt := 20) hx hb dX7_seat_12 (by decide) (fun c_12 => ?_) (fun c_12 => ?_)
      · refine lv_iconst (v := 1) hx hb dX7_seat_20 (by decide) ?_
        refine lv_goto (tgt := 25) hx hb dX7_seat_21 (by decide) ?_
        refine pt_X7_114 hC hP hS (mK (hm)) dX7_seat_25 (fun H locs hP hz hS => ?_)
        replace hsz := hz.trans hsz
        refine lv_aload_n hx hb dX7_seat_28 rfl (lv_at hl 0 rfl) ?_
        refine gv_X7_114 hC hP (mK (mI (hm))) gI_s dX7_seat_29 ?_
        refine lv_if_eq (tgt := 37) hx hb dX7_seat_32 (by decide) (fun c_32 => ?_) (fun c_32 => ?_)
        · exact absurd c_32 (by decide)
        · refine lv_lconst (v := 0) hx hb dX7_seat_35 rfl ?_
          exact g_lret hC hP hS hr hlk (by decide) (by decide) (⟨hsz, Or.inl ⟨by first | exact Or.inl c_2 | exact Or.inr (Or.inl c_8) | exact Or.inr (Or.inr (Or.inl c_12)) | exact Or.inr (Or.inr (Or.inr (Int32.not_le.mp c_17))), rfl, rfl⟩⟩) dX7_seat_36
      · refine lv_iload_n hx hb dX7_seat_15 rfl (lv_at hl 2 rfl) ?_
        refine lv_iconst (v := 2) hx hb dX7_seat_16 (by decide) ?_
        refine lv_icmp_le (tgt := 24) hx hb dX7_seat_17 (by decide) (fun c_17 => ?_) (fun c_17 => ?_)
        · refine lv_iconst (v := 0) hx hb dX7_seat_24 (by decide) ?_
          refine pt_X7_114 hC hP hS (mK (hm)) dX7_seat_25 (fun H locs hP hz hS => ?_)
          replace hsz := hz.trans hsz
          refine lv_aload_n hx hb dX7_seat_28 rfl (lv_at hl 0 rfl) ?_
          refine gv_X7_114 hC hP (mK (mI (hm))) gI_s dX7_seat_29 ?_
          refine lv_if_eq (tgt := 37) hx hb dX7_seat_32 (by decide) (fun c_32 => ?_) (fun c_32 => ?_)
          · refine lv_iconst (v := 0) hx hb dX7_seat_37 (by decide) ?_
            refine lv_istore_n (lv' := [(3, .int _), (0, .ref _), (1, .int _), (2, .int _)]) hx hb dX7_seat_38 rfl hl (by decide) rfl (fun ls hl => ?_)
            refine lv_iconst (v := (-1)) hx hb dX7_seat_39 (by decide) ?_
            refine lv_istore (lv' := [(4, .int _), (3, .int _), (0, .ref _), (1, .int _), (2, .int _)]) hx hb dX7_seat_40 hl (by decide) rfl (fun ls hl => ?_)
            refine lv_iconst (v := 0) hx hb dX7_seat_42 (by decide) ?_
            refine lv_istore (lv' := [(5, .int _), (4, .int _), (3, .int _), (0, .ref _), (1, .int _), (2, .int _)]) hx hb dX7_seat_43 hl (by decide) rfl (fun ls hl => ?_)
            refine lp_X7_seat (sz := sz) (t := t) (st := st) (wv := w) hC hU (mI hm) (vI (Or.inr (by decide)) ht) ht2 ⟨by decide, by decide⟩ ⟨by decide, by decide⟩ (fun H locs ls hP hsz hS hl => ?_) 5 0 _ _ _ rfl hP hsz hS (lv_sub hl [0, 1, 2, 3, 4, 5] rfl)
            have hnx : ¬ seX st w := (fun h => by rcases h with h | h | h | h; exact c_2 h; exact c_8 h; exact c_12 h; exact absurd c_17 (Int32.not_le.mpr h))
            clear c_2 c_8 c_12 c_17
            generalize hS0 : sI S o 0 0 = S0 at hP hl ⊢
            have hm0 : mOK S0 o := hS0 ▸ mI hm
            clear hS0
            refine lv_iload_n hx hb dX7_seat_110 rfl (lv_at hl 2 rfl) ?_
            refine lv_iconst (v := 3) hx hb dX7_seat_111 (by decide) ?_
            refine lv_icmp_lt (tgt := 120) hx hb dX7_seat_112 (by decide) (fun c_112 => ?_) (fun c_112 => ?_)
            · refine lv_ldc2 hx hb hC.2.2.2.1 (hC.2.2.2.2.1 _ kJ_X7_192) dX7_seat_120 ?_
              exact g_lret hC hP hS hr hlk (by decide) (by decide) (⟨hsz, Or.inr ⟨hnx, by unfold seV; rw [if_pos (show (upF S0 o 5 < 3 ∨ beF S0 o t st 5 < 0) by first | exact Or.inl c_112 | exact Or.inr (Int32.not_le.mp c_117))], rfl⟩⟩) dX7_seat_123
            · refine lv_iload hx hb dX7_seat_115 (lv_at hl 1 rfl) ?_
              refine lv_if_ge (tgt := 124) hx hb dX7_seat_117 (by decide) (fun c_117 => ?_) (fun c_117 => ?_)
              · refine lv_iload_n hx hb dX7_seat_124 rfl (lv_at hl 5 rfl) ?_
                refine lv_if_ne (tgt := 138) hx hb dX7_seat_125 (by decide) (fun c_125 => ?_) (fun c_125 => ?_)
                · refine lv_iload_n hx hb dX7_seat_138 rfl (lv_at hl 5 rfl) ?_
                  refine lv_iconst (v := 1) hx hb dX7_seat_139 (by decide) ?_
                  refine lv_icmp_ne (tgt := 153) hx hb dX7_seat_140 (by decide) (fun c_140 => ?_) (fun c_140 => ?_)
                  · refine lv_aload_n hx hb dX7_seat_153 rfl (lv_at hl 3 rfl) ?_
                    refine lv_iload hx hb dX7_seat_154 (lv_at hl 1 rfl) ?_
                    refine g_callV (As := [.int _]) (rest := []) hC hU hP hS hl.1 (c_X7_markAt l N0 D cy _ _ o _ hm0 (beF_ok ht2 5)) mL_X7_180 iM_X7_markAt sL_X7_markAt iN_X7 cD_X7_markAt ⟨by decide, by decide, rfl⟩ ⟨by decide, by decide⟩ ⟨by decide, by decide⟩ (ci := 7) rfl (by decide) (mK (hm0)) rfl (Nat.le_of_ble_eq_true rfl) dX7_seat_156 (fun v S1 H locs hw hP hz hS => ?_)
                    obtain ⟨rfl, hS1, hz2⟩ := hw
                    replace hS1 := hS1.symm
                    subst hS1
                    replace hsz := hz2.trans hsz
                    exact g_lret hC hP hS hr hlk (by decide) (by decide) (⟨hsz, Or.inr ⟨hnx, by unfold seV; rw [if_neg (show ¬ (upF S0 o 5 < 3 ∨ beF S0 o t st 5 < 0) from fun h => h.elim (fun h => c_112 h) (fun h => absurd c_117 (Int32.not_le.mpr h)))]; first | (rw [if_pos c_125]; rfl) | (rw [if_neg c_125, if_pos c_140]; rfl) | (rw [if_neg c_125, if_neg c_140]; rfl), rfl⟩⟩) dX7_seat_159
                  · refine lv_aload_n hx hb dX7_seat_143 rfl (lv_at hl 3 rfl) ?_
                    refine lv_iload hx hb dX7_seat_144 (lv_at hl 1 rfl) ?_
                    refine g_callV (As := [.int _]) (rest := []) hC hU hP hS hl.1 (c_X7_termAt l N0 D cy _ _ o _ hm0 (beF_ok ht2 5)) mL_X7_189 iM_X7_termAt sL_X7_termAt iN_X7 cD_X7_termAt ⟨by decide, by decide, rfl⟩ ⟨by decide, by decide⟩ ⟨by decide, by decide⟩ (ci := 7) rfl (by decide) (mK (hm0)) rfl (Nat.le_of_ble_eq_true rfl) dX7_seat_146 (fun v S1 H locs hw hP hz hS => ?_)
                    obtain ⟨rfl, hS1, hz2⟩ := hw
                    replace hS1 := hS1.symm
                    subst hS1
                    replace hsz := hz2.trans hsz
                    refine lv_i2l hx hb dX7_seat_149 rfl ?_
                    refine lv_goto (tgt := 159) hx hb dX7_seat_150 (by decide) ?_
                    exact g_lret hC hP hS hr hlk (by decide) (by decide) (⟨hsz, Or.inr ⟨hnx, by unfold seV; rw [if_neg (show ¬ (upF S0 o 5 < 3 ∨ beF S0 o t st 5 < 0) from fun h => h.elim (fun h => c_112 h) (fun h => absurd c_117 (Int32.not_le.mpr h)))]; first | (rw [if_pos c_125]; rfl) | (rw [if_neg c_125, if_pos c_140]; rfl) | (rw [if_neg c_125, if_neg c_140]; rfl), rfl⟩⟩) dX7_seat_159
                · refine lv_aload_n hx hb dX7_seat_128 rfl (lv_at hl 3 rfl) ?_
                  refine lv_iload hx hb dX7_seat_129 (lv_at hl 1 rfl) ?_
                  refine g_callV (As := [.int _]) (rest := []) hC hU hP hS hl.1 (c_X7_holderAt l N0 D cy _ _ o _ hm0 (beF_ok ht2 5)) mL_X7_164 iM_X7_holderAt sL_X7_holderAt iN_X7 cD_X7_holderAt ⟨by decide, by decide, rfl⟩ ⟨by decide, by decide⟩ ⟨by decide, by decide⟩ (ci := 7) rfl (by decide) (mK (hm0)) rfl (Nat.le_of_ble_eq_true rfl) dX7_seat_131 (fun v S1 H locs hw hP hz hS => ?_)
                  obtain ⟨rfl, hS1, hz2⟩ := hw
                  replace hS1 := hS1.symm
                  subst hS1
                  replace hsz := hz2.trans hsz
                  refine lv_i2l hx hb dX7_seat_134 rfl ?_
                  refine lv_goto (tgt := 159) hx hb dX7_seat_135 (by decide) ?_
                  exact g_lret hC hP hS hr hlk (by decide) (by decide) (⟨hsz, Or.inr ⟨hnx, by unfold seV; rw [if_neg (show ¬ (upF S0 o 5 < 3 ∨ beF S0 o t st 5 < 0) from fun h => h.elim (fun h => c_112 h) (fun h => absurd c_117 (Int32.not_le.mpr h)))]; first | (rw [if_pos c_125]; rfl) | (rw [if_neg c_125, if_pos c_140]; rfl) | (rw [if_neg c_125, if_neg c_140]; rfl), rfl⟩⟩) dX7_seat_159
              · refine lv_ldc2 hx hb hC.2.2.2.1 (hC.2.2.2.2.1 _ kJ_X7_192) dX7_seat_120 ?_
                exact g_lret hC hP hS hr hlk (by decide) (by decide) (⟨hsz, Or.inr ⟨hnx, by unfold seV; rw [if_pos (show (upF S0 o 5 < 3 ∨ beF S0 o t st 5 < 0) by first | exact Or.inl c_112 | exact Or.inr (Int32.not_le.mp c_117))], rfl⟩⟩) dX7_seat_123
          · exact absurd (by decide) c_32
        · refine lv_iconst (v := 1) hx hb dX7_seat_20 (by decide) ?_
          refine lv_goto (tgt := 25) hx hb dX7_seat_21 (by decide) ?_
          refine pt_X7_114 hC hP hS (mK (hm)) dX7_seat_25 (fun H locs hP hz hS => ?_)
          replace hsz := hz.trans hsz
          refine lv_aload_n hx hb dX7_seat_28 rfl (lv_at hl 0 rfl) ?_
          refine gv_X7_114 hC hP (mK (mI (hm))) gI_s dX7_seat_29 ?_
          refine lv_if_eq (tgt := 37) hx hb dX7_seat_32 (by decide) (fun c_32 => ?_) (fun c_32 => ?_)
          · exact absurd c_32 (by decide)
          · refine lv_lconst (v := 0) hx hb dX7_seat_35 rfl ?_
            exact g_lret hC hP hS hr hlk (by decide) (by decide) (⟨hsz, Or.inl ⟨by first | exact Or.inl c_2 | exact Or.inr (Or.inl c_8) | exact Or.inr (Or.inr (Or.inl c_12)) | exact Or.inr (Or.inr (Or.inr (Int32.not_le.mp c_17))), rfl, rfl⟩⟩) dX7_seat_36
