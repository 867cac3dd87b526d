/-- the lowest place below 8 with the value x, or -1, sought from above -/
def dnF (h : Nat → Int32) (x : Int32) : Nat → Int32
  | 0 => -1
  | t + 1 => if h (7 - t) = x then nI (7 - t) else dnF h x t
def hoS (S : gS) (o i0 : Nat) (nd : Int32) (far : Nat) (rc : Nat → Nat) (st : Nat) : Int32 := holR S o (agr S o i0 (nI st) nd far rc 5)
def sts (S : gS) (o i0 : Nat) (nd : Int32) (far : Nat) (rc : Nat → Nat) : Int32 := if dnF (hoS S o i0 nd far rc) (nI i0) 8 < 0 then dnF (hoS S o i0 nd far rc) (-1) 8 else dnF (hoS S o i0 nd far rc) (nI i0) 8
set_option maxRecDepth 100000 in
set_option maxHeartbeats 4000000 in
theorem lp_X7_sts1 {p : Program} {l : Launch} {e : Env} {R : Room} {s : State} {m : MethodId} {args : Array Value} {below : List Frame} {meth : Method} {c : Code} {cells slots : Nat} {Q : State → Prop} {N0 : Nat} {D : va_G} {cy : Nat → ClassId} {S : gS} {sz : Nat} (hC : gC N0 D cy p s m args c cX7_seatToStart 7 RX7) (hU : gU D cy s) {o i0 far : Nat} {nd : Int32} {rc : Nat → Nat} (hm : mOK S o) (hi0 : i0 < 8) (hfar : far ≤ 600) (hrc : ∀ n, n < 5 → gI S (o + 23) (5 * i0 + n) = nI (rc n) ∧ rc n ≤ 600) (hR : 2 ≤ R.frames ∧ 80 ≤ R.locals) (hc0 : cells ≤ R.cells ∧ slots ≤ R.slots)
    (hexit : ∀ (H : Heap) (locs : List Loc) (ls : Array Slot), gP N0 D cy S H → H.size = sz → va_S (fun q => N0 ≤ q) s.heap H locs → lv_has ls 7 [(5, .int (nI 0 - 1)), (4, .int (dnF (hoS S o i0 nd far rc) (-1) 8)), (0, .ref o), (1, .int (nI i0)), (2, .int nd), (3, .int (nI far))] → W p l e R s m args below meth c H locs cells slots Q (F0 m 44 ls [])) :
    ∀ (k : Nat) (H : Heap) (locs : List Loc) (ls : Array Slot), k ≤ 8 → gP N0 D cy S H → H.size = sz → va_S (fun q => N0 ≤ q) s.heap H locs → lv_has ls 7 [(5, .int (nI k - 1)), (4, .int (dnF (hoS S o i0 nd far rc) (-1) (8 - k))), (0, .ref o), (1, .int (nI i0)), (2, .int nd), (3, .int (nI far))] → W p l e R s m args below meth c H locs cells slots Q (F0 m 7 ls []) := by
  have hx := hC.1
  have hb := hC.2.1
  intro k
  induction k with
  | zero =>
    intro H locs ls hk hP hsz hS hl
    refine lv_iload hx hb dX7_seatToStart_7 (lv_at hl 0 rfl) ?_
    refine lv_if_lt (tgt := 44) hx hb dX7_seatToStart_9 (by decide) (fun c_9 => ?_) (fun c_9 => ?_)
    · exact hexit _ _ _ hP hsz hS (lv_sub hl [0, 1, 2, 3, 4, 5] rfl)
    · exact absurd (by decide) c_9
  | succ k ih =>
    intro H locs ls hk hP hsz hS hl
    rw [nI_pred] at hl
    refine lv_iload hx hb dX7_seatToStart_7 (lv_at hl 0 rfl) ?_
    refine lv_if_lt (tgt := 44) hx hb dX7_seatToStart_9 (by decide) (fun c_9 => ?_) (fun c_9 => ?_)
    · exact absurd c_9 (nI_pos (by omega))
    · refine lv_aload_n hx hb dX7_seatToStart_12 rfl (lv_at hl 2 rfl) ?_
      refine lv_aload_n hx hb dX7_seatToStart_13 rfl (lv_at hl 2 rfl) ?_
      refine lv_iload_n hx hb dX7_seatToStart_14 rfl (lv_at hl 3 rfl) ?_
      refine lv_iload hx hb dX7_seatToStart_15 (lv_at hl 0 rfl) ?_
      refine lv_iload_n hx hb dX7_seatToStart_17 rfl (lv_at hl 4 rfl) ?_
      refine lv_iload_n hx hb dX7_seatToStart_18 rfl (lv_at hl 5 rfl) ?_
      refine g_callV (As := [.int _, .int _, .int _, .int _]) (rest := [.ref _]) hC hU hP hS hl.1 (c_X7_agreed l N0 D cy _ _ o i0 far (nI k) nd rc hm hi0 hfar hrc) mL_X7_160 iM_X7_agreed sL_X7_agreed iN_X7 cD_X7_agreed ⟨by decide, by decide, rfl⟩ ⟨Nat.le_trans (by decide) hR.1, Nat.le_trans (by decide) hR.2⟩ ⟨hc0.1, hc0.2⟩ (ci := 7) rfl (by decide) (mK (hm)) rfl (Nat.le_of_ble_eq_true rfl) dX7_seatToStart_19 (fun v S1 H locs hw hP hz hS => ?_)
      obtain ⟨rfl, hS1, hz2⟩ := hw
      replace hS1 := hS1.symm
      subst hS1
      replace hsz := hz2.trans hsz
      refine g_callV (As := [.int _]) (rest := []) hC hU hP hS hl.1 (c_X7_holderAt l N0 D cy _ _ o _ hm (agr_ok hfar 5 (fun q hq => (hrc q hq).2))) mL_X7_164 iM_X7_holderAt sL_X7_holderAt iN_X7 cD_X7_holderAt ⟨by decide, by decide, rfl⟩ ⟨Nat.le_trans (by decide) hR.1, Nat.le_trans (by decide) hR.2⟩ ⟨hc0.1, hc0.2⟩ (ci := 7) rfl (by decide) (mK (hm)) rfl (Nat.le_of_ble_eq_true rfl) dX7_seatToStart_22 (fun v S1 H locs hw hP hz hS => ?_)
      obtain ⟨rfl, hS1, hz2⟩ := hw
      replace hS1 := hS1.symm
      subst hS1
      replace hsz := hz2.trans hsz
      refine lv_iconst (v := (-1)) hx hb dX7_seatToStart_25 (by decide) ?_
      refine lv_icmp_ne (tgt := 34) hx hb dX7_seatToStart_26 (by decide) (fun c_26 => ?_) (fun c_26 => ?_)
      · refine lv_iload hx hb dX7_seatToStart_34 (lv_at hl 1 rfl) ?_
        refine lv_istore (lv' := [(4, .int _), (5, .int _), (0, .ref _), (1, .int _), (2, .int _), (3, .int _)]) hx hb dX7_seatToStart_36 hl (by decide) rfl (fun ls hl => ?_)
        refine lv_iinc (v := _ + (-1)) (lv' := [(5, .int _), (4, .int _), (0, .ref _), (1, .int _), (2, .int _), (3, .int _)]) hx hb dX7_seatToStart_38 hl (k := 1) rfl rfl (by decide) rfl (fun ls hl => ?_)
        refine lv_goto (tgt := 7) hx hb dX7_seatToStart_41 (by decide) ?_
        exact ih _ _ _ (by omega) hP hsz hS (by rw [← sub1, show 8 - k = (8 - (k + 1)) + 1 from by omega]; unfold dnF; rw [show 7 - (8 - (k + 1)) = k from by omega]; first | (rw [if_pos (show hoS S o i0 nd far rc k = -1 from c_26)]; exact lv_sub hl [0, 1, 2, 3, 4, 5] rfl) | (rw [if_neg (show ¬ hoS S o i0 nd far rc k = -1 from c_26)]; exact lv_sub hl [0, 1, 2, 3, 4, 5] rfl))
      · refine lv_iload hx hb dX7_seatToStart_29 (lv_at hl 0 rfl) ?_
        refine lv_goto (tgt := 36) hx hb dX7_seatToStart_31 (by decide) ?_
        refine lv_istore (lv' := [(4, .int _), (5, .int _), (0, .ref _), (1, .int _), (2, .int _), (3, .int _)]) hx hb dX7_seatToStart_36 hl (by decide) rfl (fun ls hl => ?_)
        refine lv_iinc (v := _ + (-1)) (lv' := [(5, .int _), (4, .int _), (0, .ref _), (1, .int _), (2, .int _), (3, .int _)]) hx hb dX7_seatToStart_38 hl (k := 1) rfl rfl (by decide) rfl (fun ls hl => ?_)
        refine lv_goto (tgt := 7) hx hb dX7_seatToStart_41 (by decide) ?_
        exact ih _ _ _ (by omega) hP hsz hS (by rw [← sub1, show 8 - k = (8 - (k + 1)) + 1 from by omega]; unfold dnF; rw [show 7 - (8 - (k + 1)) = k from by omega]; first | (rw [if_pos (show hoS S o i0 nd far rc k = -1 from c_26)]; exact lv_sub hl [0, 1, 2, 3, 4, 5] rfl) | (rw [if_neg (show ¬ hoS S o i0 nd far rc k = -1 from c_26)]; exact lv_sub hl [0, 1, 2, 3, 4, 5] rfl))
set_option maxRecDepth 100000 in
set_option maxHeartbeats 4000000 in
theorem lp_X7_sts2 {p : Program} {l : Launch} {e : Env} {R : Room} {s : State} {m : MethodId} {args : Array Value} {below : List Frame} {meth : Method} {c : Code} {cells slots : Nat} {Q : State → Prop} {N0 : Nat} {D : va_G} {cy : Nat → ClassId} {S : gS} {sz : Nat} (hC : gC N0 D cy p s m args c cX7_seatToStart 7 RX7) (hU : gU D cy s) {o i0 far : Nat} {nd : Int32} {rc : Nat → Nat} (hm : mOK S o) (hi0 : i0 < 8) (hfar : far ≤ 600) (hrc : ∀ n, n < 5 → gI S (o + 23) (5 * i0 + n) = nI (rc n) ∧ rc n ≤ 600) (hR : 2 ≤ R.frames ∧ 80 ≤ R.locals) (hc0 : cells ≤ R.cells ∧ slots ≤ R.slots) {fv : Int32}
    (hexit : ∀ (H : Heap) (locs : List Loc) (ls : Array Slot), gP N0 D cy S H → H.size = sz → va_S (fun q => N0 ≤ q) s.heap H locs → lv_has ls 7 [(6, .int (nI 0 - 1)), (5, .int (dnF (hoS S o i0 nd far rc) (nI i0) 8)), (4, .int fv), (0, .ref o), (1, .int (nI i0)), (2, .int nd), (3, .int (nI far))] → W p l e R s m args below meth c H locs cells slots Q (F0 m 88 ls [])) :
    ∀ (k : Nat) (H : Heap) (locs : List Loc) (ls : Array Slot), k ≤ 8 → gP N0 D cy S H → H.size = sz → va_S (fun q => N0 ≤ q) s.heap H locs → lv_has ls 7 [(6, .int (nI k - 1)), (5, .int (dnF (hoS S o i0 nd far rc) (nI i0) (8 - k))), (4, .int fv), (0, .ref o), (1, .int (nI i0)), (2, .int nd), (3, .int (nI far))] → W p l e R s m args below meth c H locs cells slots Q (F0 m 51 ls []) := by
  have hx := hC.1
  have hb := hC.2.1
  intro k
  induction k with
  | zero =>
    intro H locs ls hk hP hsz hS hl
    refine lv_iload hx hb dX7_seatToStart_51 (lv_at hl 0 rfl) ?_
    refine lv_if_lt (tgt := 88) hx hb dX7_seatToStart_53 (by decide) (fun c_53 => ?_) (fun c_53 => ?_)
    · exact hexit _ _ _ hP hsz hS (lv_sub hl [0, 1, 2, 3, 4, 5, 6] rfl)
    · exact absurd (by decide) c_53
  | succ k ih =>
    intro H locs ls hk hP hsz hS hl
    rw [nI_pred] at hl
    refine lv_iload hx hb dX7_seatToStart_51 (lv_at hl 0 rfl) ?_
    refine lv_if_lt (tgt := 88) hx hb dX7_seatToStart_53 (by decide) (fun c_53 => ?_) (fun c_53 => ?_)
    · exact absurd c_53 (nI_pos (by omega))
    · refine lv_aload_n hx hb dX7_seatToStart_56 rfl (lv_at hl 3 rfl) ?_
      refine lv_aload_n hx hb dX7_seatToStart_57 rfl (lv_at hl 3 rfl) ?_
      refine lv_iload_n hx hb dX7_seatToStart_58 rfl (lv_at hl 4 rfl) ?_
      refine lv_iload hx hb dX7_seatToStart_59 (lv_at hl 0 rfl) ?_
      refine lv_iload_n hx hb dX7_seatToStart_61 rfl (lv_at hl 5 rfl) ?_
      refine lv_iload_n hx hb dX7_seatToStart_62 rfl (lv_at hl 6 rfl) ?_
      refine g_callV (As := [.int _, .int _, .int _, .int _]) (rest := [.ref _]) hC hU hP hS hl.1 (c_X7_agreed l N0 D cy _ _ o i0 far (nI k) nd rc hm hi0 hfar hrc) mL_X7_160 iM_X7_agreed sL_X7_agreed iN_X7 cD_X7_agreed ⟨by decide, by decide, rfl⟩ ⟨Nat.le_trans (by decide) hR.1, Nat.le_trans (by decide) hR.2⟩ ⟨hc0.1, hc0.2⟩ (ci := 7) rfl (by decide) (mK (hm)) rfl (Nat.le_of_ble_eq_true rfl) dX7_seatToStart_63 (fun v S1 H locs hw hP hz hS => ?_)
      obtain ⟨rfl, hS1, hz2⟩ := hw
      replace hS1 := hS1.symm
      subst hS1
      replace hsz := hz2.trans hsz
      refine g_callV (As := [.int _]) (rest := []) hC hU hP hS hl.1 (c_X7_holderAt l N0 D cy _ _ o _ hm (agr_ok hfar 5 (fun q hq => (hrc q hq).2))) mL_X7_164 iM_X7_holderAt sL_X7_holderAt iN_X7 cD_X7_holderAt ⟨by decide, by decide, rfl⟩ ⟨Nat.le_trans (by decide) hR.1, Nat.le_trans (by decide) hR.2⟩ ⟨hc0.1, hc0.2⟩ (ci := 7) rfl (by decide) (mK (hm)) rfl (Nat.le_of_ble_eq_true rfl) dX7_seatToStart_66 (fun v S1 H locs hw hP hz hS => ?_)
      obtain ⟨rfl, hS1, hz2⟩ := hw
      replace hS1 := hS1.symm
      subst hS1
      replace hsz := hz2.trans hsz
      refine lv_iload_n hx hb dX7_seatToStart_69 rfl (lv_at hl 4 rfl) ?_
      refine lv_icmp_ne (tgt := 78) hx hb dX7_seatToStart_70 (by decide) (fun c_70 => ?_) (fun c_70 => ?_)
      · refine lv_iload hx hb dX7_seatToStart_78 (lv_at hl 1 rfl) ?_
        refine lv_istore (lv' := [(5, .int _), (6, .int _), (4, .int _), (0, .ref _), (1, .int _), (2, .int _), (3, .int _)]) hx hb dX7_seatToStart_80 hl (by decide) rfl (fun ls hl => ?_)
        refine lv_iinc (v := _ + (-1)) (lv' := [(6, .int _), (5, .int _), (4, .int _), (0, .ref _), (1, .int _), (2, .int _), (3, .int _)]) hx hb dX7_seatToStart_82 hl (k := 1) rfl rfl (by decide) rfl (fun ls hl => ?_)
        refine lv_goto (tgt := 51) hx hb dX7_seatToStart_85 (by decide) ?_
        exact ih _ _ _ (by omega) hP hsz hS (by rw [← sub1, show 8 - k = (8 - (k + 1)) + 1 from by omega]; unfold dnF; rw [show 7 - (8 - (k + 1)) = k from by omega]; first | (rw [if_pos (show hoS S o i0 nd far rc k = nI i0 from c_70)]; exact lv_sub hl [0, 1, 2, 3, 4, 5, 6] rfl) | (rw [if_neg (show ¬ hoS S o i0 nd far rc k = nI i0 from c_70)]; exact lv_sub hl [0, 1, 2, 3, 4, 5, 6] rfl))
      · refine lv_iload hx hb dX7_seatToStart_73 (lv_at hl 0 rfl) ?_
        refine lv_goto (tgt := 80) hx hb dX7_seatToStart_75 (by decide) ?_
        refine lv_istore (lv' := [(5, .int _), (6, .int _), (4, .int _), (0, .ref _), (1, .int _), (2, .int _), (3, .int _)]) hx hb dX7_seatToStart_80 hl (by decide) rfl (fun ls hl => ?_)
        refine lv_iinc (v := _ + (-1)) (lv' := [(6, .int _), (5, .int _), (4, .int _), (0, .ref _), (1, .int _), (2, .int _), (3, .int _)]) hx hb dX7_seatToStart_82 hl (k := 1) rfl rfl (by decide) rfl (fun ls hl => ?_)
        refine lv_goto (tgt := 51) hx hb dX7_seatToStart_85 (by decide) ?_
        exact ih _ _ _ (by omega) hP hsz hS (by rw [← sub1, show 8 - k = (8 - (k + 1)) + 1 from by omega]; unfold dnF; rw [show 7 - (8 - (k + 1)) = k from by omega]; first | (rw [if_pos (show hoS S o i0 nd far rc k = nI i0 from c_70)]; exact lv_sub hl [0, 1, 2, 3, 4, 5, 6] rfl) | (rw [if_neg (show ¬ hoS S o i0 nd far rc k = nI i0 from c_70)]; exact lv_sub hl [0, 1, 2, 3, 4, 5, 6] rfl))
set_option maxRecDepth 100000 in
set_option maxHeartbeats 4000000 in
theorem c_X7_seatToStart (l : Launch) (N0 : Nat) (D : va_G) (cy : Nat → ClassId) (S : gS) (sz : Nat) (o i0 far : Nat) (nd : Int32) (rc : Nat → Nat) (hm : mOK S o) (hi0 : i0 < 8) (hfar : far ≤ 600) (hrc : ∀ n, n < 5 → gI S (o + 23) (5 * i0 + n) = nI (rc n) ∧ rc n ≤ 600) : gM l yX7_seatToStart cX7_seatToStart 7 (some FieldType.int) { frames := 2, cells := 0, slots := 0, locals := 80 } N0 D cy [.ref o, .int (nI i0), .int nd, .int (nI far)] S sz (fun v S1 z => v = some (.int (sts S o i0 nd far rc)) ∧ S1 = S ∧ z = sz) := by
  refine g_body (by decide) rfl (Nat.le_of_ble_eq_true rfl) ?_
  intro p e s m args below meth c ls hC hU hr hlk hnm hsz hP hS hl
  have hx := hC.1
  have hb := hC.2.1
  refine lv_iconst (v := (-1)) hx hb dX7_seatToStart_0 (by decide) ?_
  refine lv_istore (lv' := [(4, .int _), (0, .ref _), (1, .int _), (2, .int _), (3, .int _)]) hx hb dX7_seatToStart_1 hl (by decide) rfl (fun ls hl => ?_)
  refine lv_bipush (v := 7) hx hb dX7_seatToStart_3 (by decide) ?_
  refine lv_istore (lv' := [(5, .int _), (4, .int _), (0, .ref _), (1, .int _), (2, .int _), (3, .int _)]) hx hb dX7_seatToStart_5 hl (by decide) rfl (fun ls hl => ?_)
  refine lp_X7_sts1 (sz := sz) (i0 := i0) (far := far) (rc := rc) hC hU hm hi0 hfar hrc ⟨by decide, by decide⟩ ⟨by decide, by decide⟩ (fun H locs ls hP hsz hS hl => ?_) 8 _ _ _ (by decide) hP hsz hS (lv_sub hl [0, 1, 2, 3, 4, 5] rfl)
  refine lv_iconst (v := (-1)) hx hb dX7_seatToStart_44 (by decide) ?_
  refine lv_istore (lv' := [(5, .int _), (4, .int _), (0, .ref _), (1, .int _), (2, .int _), (3, .int _)]) hx hb dX7_seatToStart_45 hl (by decide) rfl (fun ls hl => ?_)
  refine lv_bipush (v := 7) hx hb dX7_seatToStart_47 (by decide) ?_
  refine lv_istore (lv' := [(6, .int _), (5, .int _), (4, .int _), (0, .ref _), (1, .int _), (2, .int _), (3, .int _)]) hx hb dX7_seatToStart_49 hl (by decide) rfl (fun ls hl => ?_)
  refine lp_X7_sts2 (sz := sz) (i0 := i0) (far := far) (rc := rc) hC hU hm hi0 hfar hrc ⟨by decide, by decide⟩ ⟨by decide, by decide⟩ (fun H locs ls hP hsz hS hl => ?_) 8 _ _ _ (by decide) hP hsz hS (lv_sub hl [0, 1, 2, 3, 4, 5, 6] rfl)
  refine lv_iload hx hb dX7_seatToStart_88 (lv_at hl 1 rfl) ?_
  refine lv_if_lt (tgt := 98) hx hb dX7_seatToStart_90 (by decide) (fun c_90 => ?_) (fun c_90 => ?_)
  · refine lv_iload hx hb dX7_seatToStart_98 (lv_at hl 2 rfl) ?_
    exact g_iret hC hP hS hr hlk (by decide) (by decide) (⟨by unfold sts; first | rw [if_pos c_90] | rw [if_neg c_90], rfl, hsz⟩) dX7_seatToStart_100
  · refine lv_iload hx hb dX7_seatToStart_93 (lv_at hl 1 rfl) ?_
    refine lv_goto (tgt := 100) hx hb dX7_seatToStart_95 (by decide) ?_
    exact g_iret hC hP hS hr hlk (by decide) (by decide) (⟨by unfold sts; first | rw [if_pos c_90] | rw [if_neg c_90], rfl, hsz⟩) dX7_seatToStart_100
