def rowI (S : gS) (o : Nat) (nd st : Int32) : Nat → Int32
  | 0 => -1
  | k + 1 => if gI S (o + 9) k = nd ∧ gI S (o + 10) k = st then nI k else rowI S o nd st k
theorem rowI_in {S : gS} {o : Nat} {nd st : Int32} : ∀ k : Nat, rowI S o nd st k = -1 ∨ ∃ j, j < k ∧ rowI S o nd st k = nI j
  | 0 => Or.inl rfl
  | k + 1 => by
    unfold rowI
    split
    · exact Or.inr ⟨k, by omega, rfl⟩
    · rcases rowI_in (S := S) (o := o) (nd := nd) (st := st) k with h | ⟨j, hj, h⟩
      · exact Or.inl h
      · exact Or.inr ⟨j, by omega, h⟩
theorem rowI_ok {S : gS} {o : Nat} {nd st : Int32} {k : Nat} (hk : k ≤ 600) : rowI S o nd st k < 0 ∨ vp_in (rowI S o nd st k) 600 := by
  rcases rowI_in (S := S) (o := o) (nd := nd) (st := st) k with h | ⟨j, hj, h⟩
  · rw [h]; exact Or.inl (by decide)
  · rw [h]; exact Or.inr (vp_in_nI (by omega) (by decide))
theorem sub1 (x : Int32) : x + (-1) = x - 1 := by rw [Int32.sub_eq_add_neg]
set_option maxRecDepth 100000 in
set_option maxHeartbeats 4000000 in
theorem lp_X7_rowOf {p : Program} {l : Launch} {e : Env} {R : Room} {s : State} {m : MethodId} {args : Array Value} {below : List Frame} {meth : Method} {c : Code} {cells slots : Nat} {Q : State → Prop} {N0 : Nat} {D : va_G} {cy : Nat → ClassId} {S : gS} {sz : Nat} (hC : gC N0 D cy p s m args c cX7_rowOf 5 RX7) {o far : Nat} {nd st fv : Int32} (hm : mOK S o)
    (hexit : ∀ (r : Int32) (H : Heap) (locs : List Loc) (ls : Array Slot), r = rowI S o nd st far → gP N0 D cy S H → H.size = sz → va_S (fun q => N0 ≤ q) s.heap H locs → lv_has ls 5 [(4, .int r), (0, .ref o), (1, .int nd), (2, .int st), (3, .int fv)] → W p l e R s m args below meth c H locs cells slots Q (F0 m 38 ls [])) :
    ∀ (k : Nat) (H : Heap) (locs : List Loc) (ls : Array Slot), k ≤ 600 → rowI S o nd st k = rowI S o nd st far → gP N0 D cy S H → H.size = sz → va_S (fun q => N0 ≤ q) s.heap H locs → lv_has ls 5 [(4, .int (nI k - 1)), (0, .ref o), (1, .int nd), (2, .int st), (3, .int fv)] → W p l e R s m args below meth c H locs cells slots Q (F0 m 5 ls []) := by
  have hx := hC.1
  have hb := hC.2.1
  intro k
  induction k with
  | zero =>
    intro H locs ls hk hfar hP hsz hS hl
    refine lv_iload hx hb dX7_rowOf_5 (lv_at hl 0 rfl) ?_
    refine lv_if_lt (tgt := 38) hx hb dX7_rowOf_7 (by decide) (fun c_7 => ?_) (fun c_7 => ?_)
    · exact hexit _ _ _ _ ((show nI 0 - 1 = rowI S o nd st 0 from (by show nI 0 - 1 = (-1 : Int32); decide)).trans hfar) hP hsz hS (lv_sub hl [0, 1, 2, 3, 4] rfl)
    · exact absurd (by decide) c_7
  | succ k ih =>
    intro H locs ls hk hfar hP hsz hS hl
    rw [nI_pred] at hl
    refine lv_iload hx hb dX7_rowOf_5 (lv_at hl 0 rfl) ?_
    refine lv_if_lt (tgt := 38) hx hb dX7_rowOf_7 (by decide) (fun c_7 => ?_) (fun c_7 => ?_)
    · exact absurd c_7 (nI_pos (by omega))
    · refine lv_aload_n hx hb dX7_rowOf_10 rfl (lv_at hl 1 rfl) ?_
      refine gt_X7_35 hC hP (mK (hm)) (mR_11 (hm)) dX7_rowOf_11 ?_
      refine lv_iload hx hb dX7_rowOf_14 (lv_at hl 0 rfl) ?_
      refine g_iald hC hP (mA_11 (hm)) (by rw [mN_11 (hm)]; exact vp_in_nI (by omega) (by decide)) dX7_rowOf_16 ?_
      rw [nI_clamp (by omega)]
      refine lv_iload_n hx hb dX7_rowOf_17 rfl (lv_at hl 2 rfl) ?_
      refine lv_icmp_ne (tgt := 32) hx hb dX7_rowOf_18 (by decide) (fun c_18 => ?_) (fun c_18 => ?_)
      · refine lv_iinc (v := _ + (-1)) (lv' := [(4, .int _), (0, .ref _), (1, .int _), (2, .int _), (3, .int _)]) hx hb dX7_rowOf_32 hl (k := 0) rfl rfl (by decide) rfl (fun ls hl => ?_)
        refine lv_goto (tgt := 5) hx hb dX7_rowOf_35 (by decide) ?_
        exact ih _ _ _ (by omega) (by rw [← hfar]; show _ = (if _ then _ else _); first | rw [if_neg (fun h => c_18 h.1)] | rw [if_neg (fun h => c_29 h.2)]) hP hsz hS (by rw [← sub1]; exact lv_sub hl [0, 1, 2, 3, 4] rfl)
      · refine lv_aload_n hx hb dX7_rowOf_21 rfl (lv_at hl 1 rfl) ?_
        refine gt_X7_38 hC hP (mK (hm)) (mR_12 (hm)) dX7_rowOf_22 ?_
        refine lv_iload hx hb dX7_rowOf_25 (lv_at hl 0 rfl) ?_
        refine g_iald hC hP (mA_12 (hm)) (by rw [mN_12 (hm)]; exact vp_in_nI (by omega) (by decide)) dX7_rowOf_27 ?_
        rw [nI_clamp (by omega)]
        refine lv_iload_n hx hb dX7_rowOf_28 rfl (lv_at hl 3 rfl) ?_
        refine lv_icmp_eq (tgt := 38) hx hb dX7_rowOf_29 (by decide) (fun c_29 => ?_) (fun c_29 => ?_)
        · exact hexit _ _ _ _ (by rw [← hfar]; show _ = (if _ then _ else _); rw [if_pos ⟨c_18, c_29⟩]) hP hsz hS (lv_sub hl [0, 1, 2, 3, 4] rfl)
        · refine lv_iinc (v := _ + (-1)) (lv' := [(4, .int _), (0, .ref _), (1, .int _), (2, .int _), (3, .int _)]) hx hb dX7_rowOf_32 hl (k := 0) rfl rfl (by decide) rfl (fun ls hl => ?_)
          refine lv_goto (tgt := 5) hx hb dX7_rowOf_35 (by decide) ?_
          exact ih _ _ _ (by omega) (by rw [← hfar]; show _ = (if _ then _ else _); first | rw [if_neg (fun h => c_18 h.1)] | rw [if_neg (fun h => c_29 h.2)]) hP hsz hS (by rw [← sub1]; exact lv_sub hl [0, 1, 2, 3, 4] rfl)
set_option maxRecDepth 100000 in
set_option maxHeartbeats 4000000 in
theorem c_X7_rowOf (l : Launch) (N0 : Nat) (D : va_G) (cy : Nat → ClassId) (S : gS) (sz : Nat) (o far : Nat) (nd st : Int32) (hm : mOK S o) (hfar : far ≤ 600) : gM l yX7_rowOf cX7_rowOf 5 (some FieldType.int) { frames := 0, cells := 0, slots := 0, locals := 0 } N0 D cy [.ref o, .int nd, .int st, .int (nI far)] S sz (fun v S1 z => v = some (.int (rowI S o nd st far)) ∧ S1 = S ∧ z = sz) := by
  refine g_body (by decide) rfl (Nat.le_of_ble_eq_true rfl) ?_
  intro p e s m args below meth c ls hC hU hr hlk hnm hsz hP hS hl
  have hx := hC.1
  have hb := hC.2.1
  refine lv_iload_n hx hb dX7_rowOf_0 rfl (lv_at hl 3 rfl) ?_
  refine lv_iconst (v := 1) hx hb dX7_rowOf_1 (by decide) ?_
  refine lv_isub hx hb dX7_rowOf_2 ?_
  refine lv_istore (lv' := [(4, .int _), (0, .ref _), (1, .int _), (2, .int _), (3, .int _)]) hx hb dX7_rowOf_3 hl (by decide) rfl (fun ls hl => ?_)
  refine lp_X7_rowOf (sz := sz) (far := far) hC hm (fun r H locs ls hr2 hP hsz hS hl => ?_) far _ _ _ hfar rfl hP hsz hS (lv_sub hl [0, 1, 2, 3, 4] rfl)
  refine lv_iload hx hb dX7_rowOf_38 (lv_at hl 0 rfl) ?_
  exact g_iret hC hP hS hr hlk (by decide) (by decide) (⟨by rw [hr2], rfl, hsz⟩) dX7_rowOf_40
def balR (S : gS) (o : Nat) (r : Int32) : Int32 := if r < 0 then 0 else gI S (o + 11) r.toNatClampNeg
def holR (S : gS) (o : Nat) (r : Int32) : Int32 := if r < 0 then -1 else gI S (o + 12) r.toNatClampNeg
def terR (S : gS) (o : Nat) (r : Int32) : Int32 := if r < 0 then 0 else gI S (o + 13) r.toNatClampNeg
def marR (S : gS) (o : Nat) (r : Int32) : Int64 := if r < 0 then 0 else gJ S (o + 14) r.toNatClampNeg
/-- the best row of seat st: of node nd as far as 'far', and of the counted nodes below n -/
def agr (S : gS) (o i : Nat) (st nd : Int32) (far : Nat) (rc : Nat → Nat) : Nat → Int32
  | 0 => rowI S o nd st far
  | n + 1 => if gI S (o + 22) (5 * i + n) = 0 then agr S o i st nd far rc n else if balR S o (agr S o i st nd far rc n) < balR S o (rowI S o (nI n) st (rc n)) then rowI S o (nI n) st (rc n) else agr S o i st nd far rc n
theorem agr_ok {S : gS} {o i : Nat} {st nd : Int32} {far : Nat} {rc : Nat → Nat} (hf : far ≤ 600) : ∀ n : Nat, (∀ q, q < n → rc q ≤ 600) → agr S o i st nd far rc n < 0 ∨ vp_in (agr S o i st nd far rc n) 600
  | 0, _ => rowI_ok hf
  | n + 1, h => by
    unfold agr
    split
    · exact agr_ok hf n (fun q hq => h q (by omega))
    · split
      · exact rowI_ok (h n (by omega))
      · exact agr_ok hf n (fun q hq => h q (by omega))
set_option maxRecDepth 100000 in
set_option maxHeartbeats 4000000 in
theorem lp_X7_agreed {p : Program} {l : Launch} {e : Env} {R : Room} {s : State} {m : MethodId} {args : Array Value} {below : List Frame} {meth : Method} {c : Code} {cells slots : Nat} {Q : State → Prop} {N0 : Nat} {D : va_G} {cy : Nat → ClassId} {S : gS} {sz : Nat} (hC : gC N0 D cy p s m args c cX7_agreed 8 RX7) (hU : gU D cy s) {o i0 far : Nat} {st nd : Int32} {rc : Nat → Nat} (hm : mOK S o) (hi0 : i0 < 8) (hfar : far ≤ 600) (hrc : ∀ n, n < 5 → gI S (o + 23) (5 * i0 + n) = nI (rc n) ∧ rc n ≤ 600) (hR : 1 ≤ R.frames ∧ 40 ≤ R.locals) (hc0 : cells ≤ R.cells ∧ slots ≤ R.slots)
    (hexit : ∀ (H : Heap) (locs : List Loc) (ls : Array Slot), gP N0 D cy S H → H.size = sz → va_S (fun q => N0 ≤ q) s.heap H locs → lv_has ls 8 [(6, .int (nI 5)), (5, .int (agr S o i0 st nd far rc 5)), (0, .ref o), (1, .int (nI i0)), (2, .int st), (3, .int nd), (4, .int (nI far))] → W p l e R s m args below meth c H locs cells slots Q (F0 m 86 ls [])) :
    ∀ (n i : Nat) (H : Heap) (locs : List Loc) (ls : Array Slot), i + n = 5 → gP N0 D cy S H → H.size = sz → va_S (fun q => N0 ≤ q) s.heap H locs → lv_has ls 8 [(6, .int (nI i)), (5, .int (agr S o i0 st nd far rc i)), (0, .ref o), (1, .int (nI i0)), (2, .int st), (3, .int nd), (4, .int (nI far))] → W p l e R s m args below meth c H locs cells slots Q (F0 m 13 ls []) := by
  have hx := hC.1
  have hb := hC.2.1
  intro n
  induction n with
  | zero =>
    intro i H locs ls hi hP hsz hS hl
    have hi8 : i = 5 := by omega
    subst hi8
    refine lv_iload hx hb dX7_agreed_13 (lv_at hl 0 rfl) ?_
    refine lv_iconst (v := 5) hx hb dX7_agreed_15 (by decide) ?_
    refine lv_icmp_ge (tgt := 86) hx hb dX7_agreed_16 (by decide) (fun c_16 => ?_) (fun c_16 => ?_)
    · exact hexit _ _ _ hP hsz hS (lv_sub hl [0, 1, 2, 3, 4, 5, 6] rfl)
    · exact absurd (by decide) c_16
  | succ n ih =>
    intro i H locs ls hi hP hsz hS hl
    have hi8 : i < 5 := by omega
    refine lv_iload hx hb dX7_agreed_13 (lv_at hl 0 rfl) ?_
    refine lv_iconst (v := 5) hx hb dX7_agreed_15 (by decide) ?_
    refine lv_icmp_ge (tgt := 86) hx hb dX7_agreed_16 (by decide) (fun c_16 => ?_) (fun c_16 => ?_)
    · exact absurd c_16 (nI_ge (a := i) (b := 5) (by omega) (by decide))
    · refine lv_aload_n hx hb dX7_agreed_19 rfl (lv_at hl 2 rfl) ?_
      refine gt_X7_75 hC hP (mK (hm)) (mR_24 (hm)) dX7_agreed_20 ?_
      refine lv_iconst (v := 5) hx hb dX7_agreed_23 (by decide) ?_
      refine lv_iload_n hx hb dX7_agreed_24 rfl (lv_at hl 3 rfl) ?_
      refine lv_imul hx hb dX7_agreed_25 ?_
      refine lv_iload hx hb dX7_agreed_26 (lv_at hl 0 rfl) ?_
      refine lv_iadd hx hb dX7_agreed_28 ?_
      rw [m5]
      refine g_zald hC hP (mA_24 (hm)) (by rw [mN_24 (hm)]; exact vp_in_nI (by omega) (by decide)) dX7_agreed_29 ?_
      rw [nI_clamp (by omega)]
      refine lv_if_ne (tgt := 36) hx hb dX7_agreed_30 (by decide) (fun c_30 => ?_) (fun c_30 => ?_)
      · refine lv_aload_n hx hb dX7_agreed_36 rfl (lv_at hl 2 rfl) ?_
        refine lv_iload hx hb dX7_agreed_37 (lv_at hl 0 rfl) ?_
        refine lv_iload_n hx hb dX7_agreed_39 rfl (lv_at hl 4 rfl) ?_
        refine lv_aload_n hx hb dX7_agreed_40 rfl (lv_at hl 2 rfl) ?_
        refine gt_X7_78 hC hP (mK (hm)) (mR_25 (hm)) dX7_agreed_41 ?_
        refine lv_iconst (v := 5) hx hb dX7_agreed_44 (by decide) ?_
        refine lv_iload_n hx hb dX7_agreed_45 rfl (lv_at hl 3 rfl) ?_
        refine lv_imul hx hb dX7_agreed_46 ?_
        refine lv_iload hx hb dX7_agreed_47 (lv_at hl 0 rfl) ?_
        refine lv_iadd hx hb dX7_agreed_49 ?_
        rw [m5]
        refine g_iald hC hP (mA_25 (hm)) (by rw [mN_25 (hm)]; exact vp_in_nI (by omega) (by decide)) dX7_agreed_50 ?_
        rw [nI_clamp (by omega), (hrc i hi8).1]
        refine g_callV (As := [.int _, .int _, .int _]) (rest := []) hC hU hP hS hl.1 (c_X7_rowOf l N0 D cy _ _ o (rc i) (nI i) st hm (hrc i hi8).2) mL_X7_153 iM_X7_rowOf sL_X7_rowOf iN_X7 cD_X7_rowOf ⟨by decide, by decide, rfl⟩ ⟨Nat.le_trans (by decide) hR.1, Nat.le_trans (by decide) hR.2⟩ ⟨hc0.1, hc0.2⟩ (ci := 7) rfl (by decide) (mK (hm)) rfl (Nat.le_of_ble_eq_true rfl) dX7_agreed_51 (fun v S1 H locs hw hP hz hS => ?_)
        obtain ⟨rfl, hS1, hz2⟩ := hw
        replace hS1 := hS1.symm
        subst hS1
        replace hsz := hz2.trans hsz
        refine lv_istore (lv' := [(7, .int _), (6, .int _), (5, .int _), (0, .ref _), (1, .int _), (2, .int _), (3, .int _), (4, .int _)]) hx hb dX7_agreed_54 hl (by decide) rfl (fun ls hl => ?_)
        refine lv_aload_n hx hb dX7_agreed_56 rfl (lv_at hl 3 rfl) ?_
        refine lv_iload hx hb dX7_agreed_57 (lv_at hl 0 rfl) ?_
        refine g_callV (As := [.int _]) (rest := []) hC hU hP hS hl.1 (c_X7_ballotAt l N0 D cy _ _ o _ hm (rowI_ok (hrc i hi8).2)) mL_X7_157 iM_X7_ballotAt sL_X7_ballotAt iN_X7 cD_X7_ballotAt ⟨by decide, by decide, rfl⟩ ⟨Nat.le_trans (by decide) hR.1, Nat.le_trans (by decide) hR.2⟩ ⟨hc0.1, hc0.2⟩ (ci := 7) rfl (by decide) (mK (hm)) rfl (Nat.le_of_ble_eq_true rfl) dX7_agreed_59 (fun v S1 H locs hw hP hz hS => ?_)
        obtain ⟨rfl, hS1, hz2⟩ := hw
        replace hS1 := hS1.symm
        subst hS1
        replace hsz := hz2.trans hsz
        refine lv_aload_n hx hb dX7_agreed_62 rfl (lv_at hl 3 rfl) ?_
        refine lv_iload hx hb dX7_agreed_63 (lv_at hl 2 rfl) ?_
        refine g_callV (As := [.int _]) (rest := [.int _]) hC hU hP hS hl.1 (c_X7_ballotAt l N0 D cy _ _ o _ hm (agr_ok hfar i (fun q hq => (hrc q (by omega)).2))) mL_X7_157 iM_X7_ballotAt sL_X7_ballotAt iN_X7 cD_X7_ballotAt ⟨by decide, by decide, rfl⟩ ⟨Nat.le_trans (by decide) hR.1, Nat.le_trans (by decide) hR.2⟩ ⟨hc0.1, hc0.2⟩ (ci := 7) rfl (by decide) (mK (hm)) rfl (Nat.le_of_ble_eq_true rfl) dX7_agreed_65 (fun v S1 H locs hw hP hz hS => ?_)
        obtain ⟨rfl, hS1, hz2⟩ := hw
        replace hS1 := hS1.symm
        subst hS1
        replace hsz := hz2.trans hsz
        refine lv_icmp_le (tgt := 76) hx hb dX7_agreed_68 (by decide) (fun c_68 => ?_) (fun c_68 => ?_)
        · refine lv_iload hx hb dX7_agreed_76 (lv_at hl 2 rfl) ?_
          refine lv_istore (lv' := [(5, .int _), (7, .int _), (6, .int _), (0, .ref _), (1, .int _), (2, .int _), (3, .int _), (4, .int _)]) hx hb dX7_agreed_78 hl (by decide) rfl (fun ls hl => ?_)
          refine lv_iinc (v := _ + 1) (lv' := [(6, .int _), (5, .int _), (7, .int _), (0, .ref _), (1, .int _), (2, .int _), (3, .int _), (4, .int _)]) hx hb dX7_agreed_80 hl (k := 2) rfl rfl (by decide) rfl (fun ls hl => ?_)
          refine lv_goto (tgt := 13) hx hb dX7_agreed_83 (by decide) ?_
          exact ih (i + 1) _ _ _ (by omega) hP hsz hS (by rw [nI_succ]; unfold agr; first | (rw [if_pos c_30]; exact lv_sub hl [0, 1, 3, 4, 5, 6, 7] rfl) | (rw [if_neg c_30, if_pos (show balR S o (agr S o i0 st nd far rc i) < balR S o (rowI S o (nI i) st (rc i)) from Int32.not_le.mp c_68)]; exact lv_sub hl [0, 1, 3, 4, 5, 6, 7] rfl) | (rw [if_neg c_30, if_neg (show ¬ balR S o (agr S o i0 st nd far rc i) < balR S o (rowI S o (nI i) st (rc i)) from Int32.not_lt.mpr c_68)]; exact lv_sub hl [0, 1, 3, 4, 5, 6, 7] rfl))
        · refine lv_iload hx hb dX7_agreed_71 (lv_at hl 0 rfl) ?_
          refine lv_goto (tgt := 78) hx hb dX7_agreed_73 (by decide) ?_
          refine lv_istore (lv' := [(5, .int _), (7, .int _), (6, .int _), (0, .ref _), (1, .int _), (2, .int _), (3, .int _), (4, .int _)]) hx hb dX7_agreed_78 hl (by decide) rfl (fun ls hl => ?_)
          refine lv_iinc (v := _ + 1) (lv' := [(6, .int _), (5, .int _), (7, .int _), (0, .ref _), (1, .int _), (2, .int _), (3, .int _), (4, .int _)]) hx hb dX7_agreed_80 hl (k := 2) rfl rfl (by decide) rfl (fun ls hl => ?_)
          refine lv_goto (tgt := 13) hx hb dX7_agreed_83 (by decide) ?_
          exact ih (i + 1) _ _ _ (by omega) hP hsz hS (by rw [nI_succ]; unfold agr; first | (rw [if_pos c_30]; exact lv_sub hl [0, 1, 3, 4, 5, 6, 7] rfl) | (rw [if_neg c_30, if_pos (show balR S o (agr S o i0 st nd far rc i) < balR S o (rowI S o (nI i) st (rc i)) from Int32.not_le.mp c_68)]; exact lv_sub hl [0, 1, 3, 4, 5, 6, 7] rfl) | (rw [if_neg c_30, if_neg (show ¬ balR S o (agr S o i0 st nd far rc i) < balR S o (rowI S o (nI i) st (rc i)) from Int32.not_lt.mpr c_68)]; exact lv_sub hl [0, 1, 3, 4, 5, 6, 7] rfl))
      · refine lv_goto (tgt := 80) hx hb dX7_agreed_33 (by decide) ?_
        refine lv_iinc (v := _ + 1) (lv' := [(6, .int _), (5, .int _), (0, .ref _), (1, .int _), (2, .int _), (3, .int _), (4, .int _)]) hx hb dX7_agreed_80 hl (k := 0) rfl rfl (by decide) rfl (fun ls hl => ?_)
        refine lv_goto (tgt := 13) hx hb dX7_agreed_83 (by decide) ?_
        exact ih (i + 1) _ _ _ (by omega) hP hsz hS (by rw [nI_succ]; unfold agr; first | (rw [if_pos c_30]; exact lv_sub hl [0, 1, 2, 3, 4, 5, 6] rfl) | (rw [if_neg c_30, if_pos (show balR S o (agr S o i0 st nd far rc i) < balR S o (rowI S o (nI i) st (rc i)) from Int32.not_le.mp c_68)]; exact lv_sub hl [0, 1, 2, 3, 4, 5, 6] rfl) | (rw [if_neg c_30, if_neg (show ¬ balR S o (agr S o i0 st nd far rc i) < balR S o (rowI S o (nI i) st (rc i)) from Int32.not_lt.mpr c_68)]; exact lv_sub hl [0, 1, 2, 3, 4, 5, 6] rfl))
set_option maxRecDepth 100000 in
set_option maxHeartbeats 4000000 in
theorem c_X7_agreed (l : Launch) (N0 : Nat) (D : va_G) (cy : Nat → ClassId) (S : gS) (sz : Nat) (o i0 far : Nat) (st nd : Int32) (rc : Nat → Nat) (hm : mOK S o) (hi0 : i0 < 8) (hfar : far ≤ 600) (hrc : ∀ n, n < 5 → gI S (o + 23) (5 * i0 + n) = nI (rc n) ∧ rc n ≤ 600) : gM l yX7_agreed cX7_agreed 8 (some FieldType.int) { frames := 1, cells := 0, slots := 0, locals := 40 } N0 D cy [.ref o, .int (nI i0), .int st, .int nd, .int (nI far)] S sz (fun v S1 z => v = some (.int (agr S o i0 st nd far rc 5)) ∧ S1 = S ∧ z = sz) := by
  refine g_body (by decide) rfl (Nat.le_of_ble_eq_true rfl) ?_
  intro p e s m args below meth c ls hC hU hr hlk hnm hsz hP hS hl
  have hx := hC.1
  have hb := hC.2.1
  refine lv_aload_n hx hb dX7_agreed_0 rfl (lv_at hl 0 rfl) ?_
  refine lv_iload_n hx hb dX7_agreed_1 rfl (lv_at hl 3 rfl) ?_
  refine lv_iload_n hx hb dX7_agreed_2 rfl (lv_at hl 2 rfl) ?_
  refine lv_iload hx hb dX7_agreed_3 (lv_at hl 4 rfl) ?_
  refine g_callV (As := [.int _, .int _, .int _]) (rest := []) hC hU hP hS hl.1 (c_X7_rowOf l N0 D cy _ _ o far nd st hm hfar) mL_X7_153 iM_X7_rowOf sL_X7_rowOf iN_X7 cD_X7_rowOf ⟨by decide, by decide, rfl⟩ ⟨by decide, by decide⟩ ⟨by decide, by decide⟩ (ci := 7) rfl (by decide) (mK (hm)) rfl (Nat.le_of_ble_eq_true rfl) dX7_agreed_5 (fun v S1 H locs hw hP hz hS => ?_)
  obtain ⟨rfl, hS1, hz2⟩ := hw
  replace hS1 := hS1.symm
  subst hS1
  replace hsz := hz2.trans hsz
  refine lv_istore (lv' := [(5, .int _), (0, .ref _), (1, .int _), (2, .int _), (3, .int _), (4, .int _)]) hx hb dX7_agreed_8 hl (by decide) rfl (fun ls hl => ?_)
  refine lv_iconst (v := 0) hx hb dX7_agreed_10 (by decide) ?_
  refine lv_istore (lv' := [(6, .int _), (5, .int _), (0, .ref _), (1, .int _), (2, .int _), (3, .int _), (4, .int _)]) hx hb dX7_agreed_11 hl (by decide) rfl (fun ls hl => ?_)
  refine lp_X7_agreed (sz := sz) (i0 := i0) (far := far) (rc := rc) hC hU hm hi0 hfar hrc ⟨by decide, by decide⟩ ⟨by decide, by decide⟩ (fun H locs ls hP hsz hS hl => ?_) 5 0 _ _ _ rfl hP hsz hS (lv_sub hl [0, 1, 2, 3, 4, 5, 6] rfl)
  refine lv_iload hx hb dX7_agreed_86 (lv_at hl 1 rfl) ?_
  exact g_iret hC hP hS hr hlk (by decide) (by decide) (⟨rfl, rfl, hsz⟩) dX7_agreed_88
def cntF (S : gS) (o i : Nat) : Nat → Int32
  | 0 => 0
  | n + 1 => cntF S o i n + (if gI S (o + 22) (5 * i + n) = 0 then 0 else 1)
set_option maxRecDepth 100000 in
set_option maxHeartbeats 4000000 in
theorem lp_X7_countOf {p : Program} {l : Launch} {e : Env} {R : Room} {s : State} {m : MethodId} {args : Array Value} {below : List Frame} {meth : Method} {c : Code} {cells slots : Nat} {Q : State → Prop} {N0 : Nat} {D : va_G} {cy : Nat → ClassId} {S : gS} {sz : Nat} (hC : gC N0 D cy p s m args c cX7_countOf 4 RX7) {o i0 : Nat} (hm : mOK S o) (hi0 : i0 < 8)
    (hexit : ∀ (H : Heap) (locs : List Loc) (ls : Array Slot), gP N0 D cy S H → H.size = sz → va_S (fun q => N0 ≤ q) s.heap H locs → lv_has ls 4 [(3, .int (nI 5)), (2, .int (cntF S o i0 5)), (0, .ref o), (1, .int (nI i0))] → W p l e R s m args below meth c H locs cells slots Q (F0 m 36 ls [])) :
    ∀ (n i : Nat) (H : Heap) (locs : List Loc) (ls : Array Slot), i + n = 5 → gP N0 D cy S H → H.size = sz → va_S (fun q => N0 ≤ q) s.heap H locs → lv_has ls 4 [(3, .int (nI i)), (2, .int (cntF S o i0 i)), (0, .ref o), (1, .int (nI i0))] → W p l e R s m args below meth c H locs cells slots Q (F0 m 4 ls []) := by
  have hx := hC.1
  have hb := hC.2.1
  intro n
  induction n with
  | zero =>
    intro i H locs ls hi hP hsz hS hl
    have hi8 : i = 5 := by omega
    subst hi8
    refine lv_iload_n hx hb dX7_countOf_4 rfl (lv_at hl 0 rfl) ?_
    refine lv_iconst (v := 5) hx hb dX7_countOf_5 (by decide) ?_
    refine lv_icmp_ge (tgt := 36) hx hb dX7_countOf_6 (by decide) (fun c_6 => ?_) (fun c_6 => ?_)
    · exact hexit _ _ _ hP hsz hS (lv_sub hl [0, 1, 2, 3] rfl)
    · exact absurd (by decide) c_6
  | succ n ih =>
    intro i H locs ls hi hP hsz hS hl
    have hi8 : i < 5 := by omega
    refine lv_iload_n hx hb dX7_countOf_4 rfl (lv_at hl 0 rfl) ?_
    refine lv_iconst (v := 5) hx hb dX7_countOf_5 (by decide) ?_
    refine lv_icmp_ge (tgt := 36) hx hb dX7_countOf_6 (by decide) (fun c_6 => ?_) (fun c_6 => ?_)
    · exact absurd c_6 (nI_ge (a := i) (b := 5) (by omega) (by decide))
    · refine lv_iload_n hx hb dX7_countOf_9 rfl (lv_at hl 1 rfl) ?_
      refine lv_aload_n hx hb dX7_countOf_10 rfl (lv_at hl 2 rfl) ?_
      refine gt_X7_75 hC hP (mK (hm)) (mR_24 (hm)) dX7_countOf_11 ?_
      refine lv_iconst (v := 5) hx hb dX7_countOf_14 (by decide) ?_
      refine lv_iload_n hx hb dX7_countOf_15 rfl (lv_at hl 3 rfl) ?_
      refine lv_imul hx hb dX7_countOf_16 ?_
      refine lv_iload_n hx hb dX7_countOf_17 rfl (lv_at hl 0 rfl) ?_
      refine lv_iadd hx hb dX7_countOf_18 ?_
      rw [m5]
      refine g_zald hC hP (mA_24 (hm)) (by rw [mN_24 (hm)]; exact vp_in_nI (by omega) (by decide)) dX7_countOf_19 ?_
      rw [nI_clamp (by omega)]
      refine lv_if_eq (tgt := 27) hx hb dX7_countOf_20 (by decide) (fun c_20 => ?_) (fun c_20 => ?_)
      · refine lv_iconst (v := 0) hx hb dX7_countOf_27 (by decide) ?_
        refine lv_iadd hx hb dX7_countOf_28 ?_
        refine lv_istore_n (lv' := [(2, .int _), (3, .int _), (0, .ref _), (1, .int _)]) hx hb dX7_countOf_29 rfl hl (by decide) rfl (fun ls hl => ?_)
        refine lv_iinc (v := _ + 1) (lv' := [(3, .int _), (2, .int _), (0, .ref _), (1, .int _)]) hx hb dX7_countOf_30 hl (k := 1) rfl rfl (by decide) rfl (fun ls hl => ?_)
        refine lv_goto (tgt := 4) hx hb dX7_countOf_33 (by decide) ?_
        exact ih (i + 1) _ _ _ (by omega) hP hsz hS (by rw [nI_succ]; unfold cntF; first | (rw [if_pos c_20]; exact lv_sub hl [0, 1, 2, 3] rfl) | (rw [if_neg c_20]; exact lv_sub hl [0, 1, 2, 3] rfl))
      · refine lv_iconst (v := 1) hx hb dX7_countOf_23 (by decide) ?_
        refine lv_goto (tgt := 28) hx hb dX7_countOf_24 (by decide) ?_
        refine lv_iadd hx hb dX7_countOf_28 ?_
        refine lv_istore_n (lv' := [(2, .int _), (3, .int _), (0, .ref _), (1, .int _)]) hx hb dX7_countOf_29 rfl hl (by decide) rfl (fun ls hl => ?_)
        refine lv_iinc (v := _ + 1) (lv' := [(3, .int _), (2, .int _), (0, .ref _), (1, .int _)]) hx hb dX7_countOf_30 hl (k := 1) rfl rfl (by decide) rfl (fun ls hl => ?_)
        refine lv_goto (tgt := 4) hx hb dX7_countOf_33 (by decide) ?_
        exact ih (i + 1) _ _ _ (by omega) hP hsz hS (by rw [nI_succ]; unfold cntF; first | (rw [if_pos c_20]; exact lv_sub hl [0, 1, 2, 3] rfl) | (rw [if_neg c_20]; exact lv_sub hl [0, 1, 2, 3] rfl))
set_option maxRecDepth 100000 in
set_option maxHeartbeats 4000000 in
theorem c_X7_countOf (l : Launch) (N0 : Nat) (D : va_G) (cy : Nat → ClassId) (S : gS) (sz : Nat) (o i0 : Nat) (hm : mOK S o) (hi0 : i0 < 8) : gM l yX7_countOf cX7_countOf 4 (some FieldType.int) { frames := 0, cells := 0, slots := 0, locals := 0 } N0 D cy [.ref o, .int (nI i0)] S sz (fun v S1 z => v = some (.int (cntF S o i0 5)) ∧ S1 = S ∧ z = sz) := by
  refine g_body (by decide) rfl (Nat.le_of_ble_eq_true rfl) ?_
  intro p e s m args below meth c ls hC hU hr hlk hnm hsz hP hS hl
  have hx := hC.1
  have hb := hC.2.1
  refine lv_iconst (v := 0) hx hb dX7_countOf_0 (by decide) ?_
  refine lv_istore_n (lv' := [(2, .int _), (0, .ref _), (1, .int _)]) hx hb dX7_countOf_1 rfl hl (by decide) rfl (fun ls hl => ?_)
  refine lv_iconst (v := 0) hx hb dX7_countOf_2 (by decide) ?_
  refine lv_istore_n (lv' := [(3, .int _), (2, .int _), (0, .ref _), (1, .int _)]) hx hb dX7_countOf_3 rfl hl (by decide) rfl (fun ls hl => ?_)
  refine lp_X7_countOf (sz := sz) (i0 := i0) hC hm hi0 (fun H locs ls hP hsz hS hl => ?_) 5 0 _ _ _ rfl hP hsz hS (lv_sub hl [0, 1, 2, 3] rfl)
  refine lv_iload_n hx hb dX7_countOf_36 rfl (lv_at hl 1 rfl) ?_
  exact g_iret hC hP hS hr hlk (by decide) (by decide) (⟨rfl, rfl, hsz⟩) dX7_countOf_37
