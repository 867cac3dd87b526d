theorem lc_eq {x y : Int64} : lg_cmp x y = 0 ↔ x = y := lg_cmp_eq x y
theorem lc_lt {x y : Int64} : lg_cmp x y < 0 ↔ x < y := lg_cmp_lt x y
theorem lc_gt {x y : Int64} : 0 < lg_cmp x y ↔ y < x := lg_cmp_gt x y
theorem lc_ge {x y : Int64} : 0 ≤ lg_cmp x y ↔ y ≤ x := lg_cmp_ge x y
theorem lc_le {x y : Int64} : lg_cmp x y ≤ 0 ↔ x ≤ y := lg_cmp_le x y
section GMX
variable {p : Program} {l : Launch} {e : Env} {R : Room} {s : State} {m : MethodId} {args : Array Value} {below : List Frame} {meth : Method} {c : Code} {H : Heap} {locs : List Loc} {cells slots : Nat} {Q : State → Prop}
variable {cc : ByteArray} {pc nL : Nat} {own : String} {ls : Array Slot} {rest : List Value} {N0 : Nat} {D : va_G} {cy : Nat → ClassId}
theorem g_max {index : Nat} (hC : gC N0 D cy p s m args c cc nL own) (hl : ls.size = nL) (hmL : Cond.methodLink own index yJ9_max_7cf53 ∈ wsAll) (hframes : 1 ≤ R.frames) (hlocals : (rest.map fun v => v.category).sum + 13 ≤ R.locals) (hc : cells ≤ R.cells) (hs : slots ≤ R.slots) {x y : Int32} (hdg : decode cc pc = .ok (.invokestatic index, 3))
    (kk : W p l e R s m args below meth c H locs cells slots Q (F0 m (pc + 3) ls (.int (if x < y then y else x) :: rest))) : W p l e R s m args below meth c H locs cells slots Q (F0 m pc ls (.int y :: .int x :: rest)) := by
  obtain ⟨hx, hb, hml, hown, hts, hK, -⟩ := hC
  exact va_mmax hx hb (hml.trans hl.symm) hown (hts _ hmL) (hts _ sT_J9_max_7cf53) (hts _ iN_J9) (hts _ cD_J9_max_7cf53) hframes hlocals hc hs hdg kk
theorem g_maxl {index : Nat} (hC : gC N0 D cy p s m args c cc nL own) (hl : ls.size = nL) (hmL : Cond.methodLink own index yJ9_max_f86c9 ∈ wsAll) (hframes : 1 ≤ R.frames) (hlocals : (rest.map fun v => v.category).sum + 15 ≤ R.locals) (hc : cells ≤ R.cells) (hs : slots ≤ R.slots) {x y : Int64} (hdg : decode cc pc = .ok (.invokestatic index, 3))
    (kk : W p l e R s m args below meth c H locs cells slots Q (F0 m (pc + 3) ls (.long (if y < x then x else y) :: rest))) : W p l e R s m args below meth c H locs cells slots Q (F0 m pc ls (.long y :: .long x :: rest)) := by
  obtain ⟨hx, hb, hml, hown, hts, hK, -⟩ := hC
  exact va_mmax_long hx hb (hml.trans hl.symm) hown (hts _ hmL) (hts _ sT_J9_max_f86c9) (hts _ iN_J9) (hts _ cD_J9_max_f86c9) hframes hlocals hc hs hdg kk
end GMX
def us32 (x y : Int32) : Int32 := (x.toUInt32 >>> (y.toUInt32 &&& Int32.toUInt32 31)).toInt32
def bc32 (x0 : Int32) : Int32 :=
  let x1 := x0 - (us32 x0 1 &&& 1431655765)
  let x2 := (x1 &&& 858993459) + (us32 x1 2 &&& 858993459)
  let x3 := (x2 + us32 x2 4) &&& 252645135
  let x4 := x3 + us32 x3 8
  let x5 := x4 + us32 x4 16
  x5 &&& 63
theorem gI_sI {S : gS} {a k b j : Nat} {v : Int32} : gI (sI S a k v) b j = if j = k then (if b = a then v else gI S b j) else gI S b j := rfl
theorem gI_sJ {S : gS} {a k : Nat} {v : Int64} : gI (sJ S a k v) = gI S := rfl
theorem gI_sR {S : gS} {a k : Nat} {v : Option Nat} : gI (sR S a k v) = gI S := rfl
theorem gI_sRow {S : gS} {a n : Nat} {f : Nat → Option Nat} : gI (sRow S a n f) = gI S := rfl
theorem gJ_sI {S : gS} {a k : Nat} {v : Int32} : gJ (sI S a k v) = gJ S := rfl
theorem gJ_sJ {S : gS} {a k b j : Nat} {v : Int64} : gJ (sJ S a k v) b j = if j = k then (if b = a then v else gJ S b j) else gJ S b j := rfl
theorem gJ_sR {S : gS} {a k : Nat} {v : Option Nat} : gJ (sR S a k v) = gJ S := rfl
theorem gJ_sRow {S : gS} {a n : Nat} {f : Nat → Option Nat} : gJ (sRow S a n f) = gJ S := rfl
theorem gR_sI {S : gS} {a k : Nat} {v : Int32} : gR (sI S a k v) = gR S := rfl
theorem gR_sJ {S : gS} {a k : Nat} {v : Int64} : gR (sJ S a k v) = gR S := rfl
theorem gR_sR {S : gS} {a k b j : Nat} {v : Option Nat} : gR (sR S a k v) b j = if j = k then (if b = a then v else gR S b j) else gR S b j := rfl
theorem gR_sRow {S : gS} {a n b j : Nat} {f : Nat → Option Nat} : gR (sRow S a n f) b j = if b = a then (if j < n then f j else gR S b j) else gR S b j := rfl
theorem sRow_id {S : gS} {a n : Nat} {f : Nat → Option Nat} (h : ∀ j, j < n → f j = gR S a j) : sRow S a n f = S := by
  obtain ⟨k, nn, i, j, r⟩ := S
  unfold sRow
  show (k, nn, i, j, _) = (k, nn, i, j, r)
  congr 4
  funext b q
  by_cases hb : b = a
  · subst hb
    by_cases hq : q < n
    · simp [hq, h q hq]; rfl
    · simp [hq]; rfl
  · simp [hb]; rfl
set_option maxRecDepth 100000 in
set_option maxHeartbeats 4000000 in
theorem c_bitCount (l : Launch) (N0 : Nat) (D : va_G) (cy : Nat → ClassId) (S : gS) (sz : Nat) (x : Int32) : gM l yJ6_bitCount_0f7a4 cJ6_bitCount_0f7a4 1 (some FieldType.int) { frames := 0, cells := 0, slots := 0, locals := 0 } N0 D cy [.int x] S sz (fun v S1 z => v = some (.int (bc32 x)) ∧ S1 = S ∧ z = sz) := by
  refine g_body (by decide) rfl (Nat.le_of_ble_eq_true rfl) ?_
  intro p e s m args below meth c ls hC hU hr hlk hnm hsz hP hS hl
  have hx := hC.1
  have hb := hC.2.1
  refine lv_iload_n hx hb dJ6_bitCount_0f7a4_0 rfl (lv_at hl 0 rfl) ?_
  refine lv_iload_n hx hb dJ6_bitCount_0f7a4_1 rfl (lv_at hl 0 rfl) ?_
  refine lv_iconst (v := 1) hx hb dJ6_bitCount_0f7a4_2 (by decide) ?_
  refine lv_iushr hx hb dJ6_bitCount_0f7a4_3 rfl ?_
  refine lv_ldcw hx hb hC.2.2.2.1 (hC.2.2.2.2.1 _ kI_J6_265) dJ6_bitCount_0f7a4_4 ?_
  refine lv_iand hx hb dJ6_bitCount_0f7a4_7 ?_
  refine lv_isub hx hb dJ6_bitCount_0f7a4_8 ?_
  refine lv_istore_n (lv' := [(0, .int _)]) hx hb dJ6_bitCount_0f7a4_9 rfl hl (by decide) rfl (fun ls hl => ?_)
  refine lv_iload_n hx hb dJ6_bitCount_0f7a4_10 rfl (lv_at hl 0 rfl) ?_
  refine lv_ldcw hx hb hC.2.2.2.1 (hC.2.2.2.2.1 _ kI_J6_266) dJ6_bitCount_0f7a4_11 ?_
  refine lv_iand hx hb dJ6_bitCount_0f7a4_14 ?_
  refine lv_iload_n hx hb dJ6_bitCount_0f7a4_15 rfl (lv_at hl 0 rfl) ?_
  refine lv_iconst (v := 2) hx hb dJ6_bitCount_0f7a4_16 (by decide) ?_
  refine lv_iushr hx hb dJ6_bitCount_0f7a4_17 rfl ?_
  refine lv_ldcw hx hb hC.2.2.2.1 (hC.2.2.2.2.1 _ kI_J6_266) dJ6_bitCount_0f7a4_18 ?_
  refine lv_iand hx hb dJ6_bitCount_0f7a4_21 ?_
  refine lv_iadd hx hb dJ6_bitCount_0f7a4_22 ?_
  refine lv_istore_n (lv' := [(0, .int _)]) hx hb dJ6_bitCount_0f7a4_23 rfl hl (by decide) rfl (fun ls hl => ?_)
  refine lv_iload_n hx hb dJ6_bitCount_0f7a4_24 rfl (lv_at hl 0 rfl) ?_
  refine lv_iload_n hx hb dJ6_bitCount_0f7a4_25 rfl (lv_at hl 0 rfl) ?_
  refine lv_iconst (v := 4) hx hb dJ6_bitCount_0f7a4_26 (by decide) ?_
  refine lv_iushr hx hb dJ6_bitCount_0f7a4_27 rfl ?_
  refine lv_iadd hx hb dJ6_bitCount_0f7a4_28 ?_
  refine lv_ldcw hx hb hC.2.2.2.1 (hC.2.2.2.2.1 _ kI_J6_267) dJ6_bitCount_0f7a4_29 ?_
  refine lv_iand hx hb dJ6_bitCount_0f7a4_32 ?_
  refine lv_istore_n (lv' := [(0, .int _)]) hx hb dJ6_bitCount_0f7a4_33 rfl hl (by decide) rfl (fun ls hl => ?_)
  refine lv_iload_n hx hb dJ6_bitCount_0f7a4_34 rfl (lv_at hl 0 rfl) ?_
  refine lv_iload_n hx hb dJ6_bitCount_0f7a4_35 rfl (lv_at hl 0 rfl) ?_
  refine lv_bipush (v := 8) hx hb dJ6_bitCount_0f7a4_36 (by decide) ?_
  refine lv_iushr hx hb dJ6_bitCount_0f7a4_38 rfl ?_
  refine lv_iadd hx hb dJ6_bitCount_0f7a4_39 ?_
  refine lv_istore_n (lv' := [(0, .int _)]) hx hb dJ6_bitCount_0f7a4_40 rfl hl (by decide) rfl (fun ls hl => ?_)
  refine lv_iload_n hx hb dJ6_bitCount_0f7a4_41 rfl (lv_at hl 0 rfl) ?_
  refine lv_iload_n hx hb dJ6_bitCount_0f7a4_42 rfl (lv_at hl 0 rfl) ?_
  refine lv_bipush (v := 16) hx hb dJ6_bitCount_0f7a4_43 (by decide) ?_
  refine lv_iushr hx hb dJ6_bitCount_0f7a4_45 rfl ?_
  refine lv_iadd hx hb dJ6_bitCount_0f7a4_46 ?_
  refine lv_istore_n (lv' := [(0, .int _)]) hx hb dJ6_bitCount_0f7a4_47 rfl hl (by decide) rfl (fun ls hl => ?_)
  refine lv_iload_n hx hb dJ6_bitCount_0f7a4_48 rfl (lv_at hl 0 rfl) ?_
  refine lv_bipush (v := 63) hx hb dJ6_bitCount_0f7a4_49 (by decide) ?_
  refine lv_iand hx hb dJ6_bitCount_0f7a4_51 ?_
  exact g_iret hC hP hS hr hlk (by decide) (by decide) (⟨rfl, rfl, hsz⟩) dJ6_bitCount_0f7a4_52

set_option maxRecDepth 100000 in
set_option maxHeartbeats 4000000 in
theorem c_X1_isMajorityWith (l : Launch) (N0 : Nat) (D : va_G) (cy : Nat → ClassId) (S : gS) (sz : Nat) (a m : Nat) (ha : gK S a = 2) (hm : gK S m = 3) : gM l yX1_isMajorityWith cX1_isMajorityWith 2 (some FieldType.boolean) { frames := 1, cells := 0, slots := 0, locals := 20 } N0 D cy [.ref a, .ref m] S sz (fun v S1 z => v = some (.int (if bc32 (gI S a 7 ||| (1 <<< (gI S m 2 &&& 31))) < 3 then 0 else 1)) ∧ S1 = S ∧ z = sz) := by
  refine g_body (by decide) rfl (Nat.le_of_ble_eq_true rfl) ?_
  intro p e s m args below meth c ls hC hU hr hlk hnm hsz hP hS hl
  have hx := hC.1
  have hb := hC.2.1
  refine lv_aload_n hx hb dX1_isMajorityWith_0 rfl (lv_at hl 0 rfl) ?_
  refine gt_X1_53 hC hP (ha) dX1_isMajorityWith_1 ?_
  refine lv_iconst (v := 1) hx hb dX1_isMajorityWith_4 (by decide) ?_
  refine lv_aload_n hx hb dX1_isMajorityWith_5 rfl (lv_at hl 1 rfl) ?_
  refine gt_X1_96 hC hP (hm) dX1_isMajorityWith_6 ?_
  refine lv_ishl hx hb dX1_isMajorityWith_9 ?_
  refine lv_ior hx hb dX1_isMajorityWith_10 ?_
  refine g_callS (As := [.int _]) (rest := []) hC hU hP hS hl.1 (c_bitCount l N0 D cy _ _ _) mL_X1_99 sT_J6_bitCount_0f7a4 iN_J6 cD_J6_bitCount_0f7a4 ⟨by decide, by decide, rfl⟩ ⟨by decide, by decide⟩ ⟨by decide, by decide⟩ rfl (Nat.le_of_ble_eq_true rfl) dX1_isMajorityWith_11 (fun v S1 H locs hw hP hz hS => ?_)
  obtain ⟨rfl, hS1, hz2⟩ := hw
  replace hS1 := hS1.symm
  subst hS1
  replace hsz := hz2.trans hsz
  refine lv_iconst (v := 3) hx hb dX1_isMajorityWith_14 (by decide) ?_
  refine lv_icmp_lt (tgt := 22) hx hb dX1_isMajorityWith_15 (by decide) (fun c_15 => ?_) (fun c_15 => ?_)
  · refine lv_iconst (v := 0) hx hb dX1_isMajorityWith_22 (by decide) ?_
    exact g_zret hC hP hS hr hlk (by decide) (by decide) (nz01 (by decide)) (⟨by simp [*], rfl, hsz⟩) dX1_isMajorityWith_23
  · refine lv_iconst (v := 1) hx hb dX1_isMajorityWith_18 (by decide) ?_
    refine lv_goto (tgt := 23) hx hb dX1_isMajorityWith_19 (by decide) ?_
    exact g_zret hC hP hS hr hlk (by decide) (by decide) (nz01 (by decide)) (⟨by simp [*], rfl, hsz⟩) dX1_isMajorityWith_23

def cCounts (S : gS) (a m : Nat) (ph : Int32) : Prop := gI S a 3 = ph ∧ gI S m 3 = gI S a 6 ∧ gI S a 7 &&& (1 <<< (gI S m 2 &&& 31)) = 0
def cMaj (S : gS) (a m : Nat) : Prop := ¬ bc32 (gI S a 7 ||| (1 <<< (gI S m 2 &&& 31))) < 3
set_option maxRecDepth 100000 in
set_option maxHeartbeats 4000000 in
theorem c_X1_isDecidedBy (l : Launch) (N0 : Nat) (D : va_G) (cy : Nat → ClassId) (S : gS) (sz : Nat) (a m : Nat) (ha : gK S a = 2) (hm : gK S m = 3) : gM l yX1_isDecidedBy cX1_isDecidedBy 2 (some FieldType.boolean) { frames := 2, cells := 0, slots := 0, locals := 60 } N0 D cy [.ref a, .ref m] S sz (fun v S1 z => (∃ r : Int32, v = some (.int r) ∧ (r = 0 ∨ r = 1) ∧ (r ≠ 0 ↔ (gI S m 0 = 1 ∧ cCounts S a m 1 ∧ cMaj S a m))) ∧ S1 = S ∧ z = sz) := by
  refine g_body (by decide) rfl (Nat.le_of_ble_eq_true rfl) ?_
  intro p e s m args below meth c ls hC hU hr hlk hnm hsz hP hS hl
  have hx := hC.1
  have hb := hC.2.1
  refine lv_aload_n hx hb dX1_isDecidedBy_0 rfl (lv_at hl 1 rfl) ?_
  refine gt_X1_69 hC hP (hm) dX1_isDecidedBy_1 ?_
  refine lv_iconst (v := 1) hx hb dX1_isDecidedBy_4 (by decide) ?_
  refine lv_icmp_ne (tgt := 29) hx hb dX1_isDecidedBy_5 (by decide) (fun c_5 => ?_) (fun c_5 => ?_)
  · refine lv_iconst (v := 0) hx hb dX1_isDecidedBy_29 (by decide) ?_
    exact g_zret hC hP hS hr hlk (by decide) (by decide) (nz01 (by decide)) (⟨⟨_, rfl, by decide, by simp_all [cCounts, cMaj]⟩, rfl, hsz⟩) dX1_isDecidedBy_30
  · refine lv_aload_n hx hb dX1_isDecidedBy_8 rfl (lv_at hl 0 rfl) ?_
    refine lv_aload_n hx hb dX1_isDecidedBy_9 rfl (lv_at hl 1 rfl) ?_
    refine lv_iconst (v := 1) hx hb dX1_isDecidedBy_10 (by decide) ?_
    refine g_callV (As := [.ref _, .int _]) (rest := []) hC hU hP hS hl.1 (c_X1_counts l N0 D cy _ _ _ _ _ ha hm) mL_X1_74 iM_X1_counts sL_X1_counts iN_X1 cD_X1_counts ⟨by decide, by decide, rfl⟩ ⟨by decide, by decide⟩ ⟨by decide, by decide⟩ (ci := 1) rfl (by decide) (ha) rfl (Nat.le_of_ble_eq_true rfl) dX1_isDecidedBy_11 (fun v S1 H locs hw hP hz hS => ?_)
    obtain ⟨rfl, hS1, hz2⟩ := hw
    replace hS1 := hS1.symm
    subst hS1
    replace hsz := hz2.trans hsz
    refine lv_if_eq (tgt := 29) hx hb dX1_isDecidedBy_14 (by decide) (fun c_14 => ?_) (fun c_14 => ?_)
    · refine lv_iconst (v := 0) hx hb dX1_isDecidedBy_29 (by decide) ?_
      exact g_zret hC hP hS hr hlk (by decide) (by decide) (nz01 (by decide)) (⟨⟨_, rfl, by decide, by simp_all [cCounts, cMaj]⟩, rfl, hsz⟩) dX1_isDecidedBy_30
    · refine lv_aload_n hx hb dX1_isDecidedBy_17 rfl (lv_at hl 0 rfl) ?_
      refine lv_aload_n hx hb dX1_isDecidedBy_18 rfl (lv_at hl 1 rfl) ?_
      refine g_callV (As := [.ref _]) (rest := []) hC hU hP hS hl.1 (c_X1_isMajorityWith l N0 D cy _ _ _ _ ha hm) mL_X1_78 iM_X1_isMajorityWith sL_X1_isMajorityWith iN_X1 cD_X1_isMajorityWith ⟨by decide, by decide, rfl⟩ ⟨by decide, by decide⟩ ⟨by decide, by decide⟩ (ci := 1) rfl (by decide) (ha) rfl (Nat.le_of_ble_eq_true rfl) dX1_isDecidedBy_19 (fun v S1 H locs hw hP hz hS => ?_)
      obtain ⟨rfl, hS1, hz2⟩ := hw
      replace hS1 := hS1.symm
      subst hS1
      replace hsz := hz2.trans hsz
      refine lv_if_eq (tgt := 29) hx hb dX1_isDecidedBy_22 (by decide) (fun c_22 => ?_) (fun c_22 => ?_)
      · refine lv_iconst (v := 0) hx hb dX1_isDecidedBy_29 (by decide) ?_
        exact g_zret hC hP hS hr hlk (by decide) (by decide) (nz01 (by decide)) (⟨⟨_, rfl, by decide, by simp_all [cCounts, cMaj]⟩, rfl, hsz⟩) dX1_isDecidedBy_30
      · refine lv_iconst (v := 1) hx hb dX1_isDecidedBy_25 (by decide) ?_
        refine lv_goto (tgt := 30) hx hb dX1_isDecidedBy_26 (by decide) ?_
        exact g_zret hC hP hS hr hlk (by decide) (by decide) (nz01 (by decide)) (⟨⟨_, rfl, by decide, by simp_all [cCounts, cMaj]⟩, rfl, hsz⟩) dX1_isDecidedBy_30

set_option maxRecDepth 100000 in
set_option maxHeartbeats 4000000 in
theorem c_X4_at (l : Launch) (N0 : Nat) (D : va_G) (cy : Nat → ClassId) (S : gS) (sz : Nat) (a pl q : Nat) (k : Int32) (ha : gK S a = 5) (hp : gR S a 0 = some pl) (hk : gK S pl = 13) (hn : vp_in k (gn S pl)) (hq : gR S pl k.toNatClampNeg = some q) : gM l yX4_at cX4_at 2 (some (FieldType.object "IssueHouse$Letter")) { frames := 0, cells := 0, slots := 0, locals := 0 } N0 D cy [.ref a, .int k] S sz (fun v S1 z => v = some (.ref q) ∧ S1 = S ∧ z = sz) := by
  refine g_body (by decide) rfl (Nat.le_of_ble_eq_true rfl) ?_
  intro p e s m args below meth c ls hC hU hr hlk hnm hsz hP hS hl
  have hx := hC.1
  have hb := hC.2.1
  refine lv_aload_n hx hb dX4_at_0 rfl (lv_at hl 0 rfl) ?_
  refine gt_X4_11 hC hP (ha) (hp) dX4_at_1 ?_
  refine lv_iload_n hx hb dX4_at_4 rfl (lv_at hl 1 rfl) ?_
  refine g_aald hC hP (j := 1) (by decide) (hk) (hn) dX4_at_5 ?_
  refine g_rf (hq) ?_
  exact g_aret (v := some _) hC hP hS hr hlk (by decide) (by decide) (⟨rfl, rfl, hsz⟩) dX4_at_6

def cSend (S : gS) (a q : Nat) (kd is nd bl : Int32) : gS := sI (sI (sI (sI (sI (sI (sI S a 1 (gI S a 1 + 1)) q 0 kd) q 1 is) q 2 nd) q 3 bl) q 4 (-1)) q 5 (-1)
theorem kS {S : gS} {a q b c : Nat} {kd is nd bl : Int32} (h : gK S b = c) : gK (cSend S a q kd is nd bl) b = c := kI (kI (kI (kI (kI (kI (kI h))))))
theorem nS' {S : gS} {a q b c : Nat} {kd is nd bl : Int32} (h : gn S b = c) : gn (cSend S a q kd is nd bl) b = c := nI' (nI' (nI' (nI' (nI' (nI' (nI' h))))))
theorem rS {S : gS} {a q b j : Nat} {kd is nd bl : Int32} {r : Option Nat} (h : gR S b j = r) : gR (cSend S a q kd is nd bl) b j = r := rI (rI (rI (rI (rI (rI (rI h))))))
theorem gR_cSend {S : gS} {a q : Nat} {kd is nd bl : Int32} : gR (cSend S a q kd is nd bl) = gR S := rfl
theorem gJ_cSend {S : gS} {a q : Nat} {kd is nd bl : Int32} : gJ (cSend S a q kd is nd bl) = gJ S := rfl
theorem gI_cSend {S : gS} {a q b j : Nat} {kd is nd bl : Int32} (h1 : b ≠ a) (h2 : b ≠ q) : gI (cSend S a q kd is nd bl) b j = gI S b j := by
  unfold cSend
  simp only [gI_sI, h1, h2, if_false, ite_self]
set_option maxRecDepth 100000 in
set_option maxHeartbeats 4000000 in
theorem c_X4_send (l : Launch) (N0 : Nat) (D : va_G) (cy : Nat → ClassId) (S : gS) (sz : Nat) (kd is nd bl : Int32) (a pl q : Nat) (ha : gK S a = 5) (hp : gR S a 0 = some pl) (hk : gK S pl = 13) (hn : vp_in (gI S a 1) (gn S pl)) (hq : gR S pl (gI S a 1).toNatClampNeg = some q) (hqk : gK S q = 3) : gM l yX4_send cX4_send 6 (some (FieldType.object "IssueHouse$Letter")) { frames := 0, cells := 0, slots := 0, locals := 0 } N0 D cy [.ref a, .int kd, .int is, .int nd, .int bl] S sz (fun v S1 z => v = some (.ref q) ∧ S1 = cSend S a q kd is nd bl ∧ z = sz) := by
  refine g_body (by decide) rfl (Nat.le_of_ble_eq_true rfl) ?_
  intro p e s m args below meth c ls hC hU hr hlk hnm hsz hP hS hl
  have hx := hC.1
  have hb := hC.2.1
  refine lv_aload_n hx hb dX4_send_0 rfl (lv_at hl 0 rfl) ?_
  refine gt_X4_11 hC hP (ha) (hp) dX4_send_1 ?_
  refine lv_aload_n hx hb dX4_send_4 rfl (lv_at hl 0 rfl) ?_
  refine gt_X4_20 hC hP (ha) dX4_send_5 ?_
  refine g_aald hC hP (j := 1) (by decide) (hk) (hn) dX4_send_8 ?_
  refine g_rf (hq) ?_
  refine lv_astore (lv' := [(5, .ref _), (0, .ref _), (1, .int _), (2, .int _), (3, .int _), (4, .int _)]) hx hb dX4_send_9 hl (by decide) rfl (fun ls hl => ?_)
  refine lv_aload_n hx hb dX4_send_11 rfl (lv_at hl 1 rfl) ?_
  refine lv_dup hx hb dX4_send_12 rfl ?_
  refine gt_X4_20 hC hP (ha) dX4_send_13 ?_
  refine lv_iconst (v := 1) hx hb dX4_send_16 (by decide) ?_
  refine lv_iadd hx hb dX4_send_17 ?_
  refine pt_X4_20 hC hP hS (ha) dX4_send_18 (fun H locs hP hz hS => ?_)
  replace hsz := hz.trans hsz
  refine lv_aload hx hb dX4_send_21 (lv_at hl 0 rfl) ?_
  refine lv_iload_n hx hb dX4_send_23 rfl (lv_at hl 2 rfl) ?_
  refine pt_X4_24 hC hP hS (kI (hqk)) dX4_send_24 (fun H locs hP hz hS => ?_)
  replace hsz := hz.trans hsz
  refine lv_aload hx hb dX4_send_27 (lv_at hl 0 rfl) ?_
  refine lv_iload_n hx hb dX4_send_29 rfl (lv_at hl 3 rfl) ?_
  refine pt_X4_27 hC hP hS (kI (kI (hqk))) dX4_send_30 (fun H locs hP hz hS => ?_)
  replace hsz := hz.trans hsz
  refine lv_aload hx hb dX4_send_33 (lv_at hl 0 rfl) ?_
  refine lv_iload_n hx hb dX4_send_35 rfl (lv_at hl 4 rfl) ?_
  refine pt_X4_30 hC hP hS (kI (kI (kI (hqk)))) dX4_send_36 (fun H locs hP hz hS => ?_)
  replace hsz := hz.trans hsz
  refine lv_aload hx hb dX4_send_39 (lv_at hl 0 rfl) ?_
  refine lv_iload hx hb dX4_send_41 (lv_at hl 5 rfl) ?_
  refine pt_X4_33 hC hP hS (kI (kI (kI (kI (hqk))))) dX4_send_43 (fun H locs hP hz hS => ?_)
  replace hsz := hz.trans hsz
  refine lv_aload hx hb dX4_send_46 (lv_at hl 0 rfl) ?_
  refine lv_iconst (v := (-1)) hx hb dX4_send_48 (by decide) ?_
  refine pt_X4_36 hC hP hS (kI (kI (kI (kI (kI (hqk)))))) dX4_send_49 (fun H locs hP hz hS => ?_)
  replace hsz := hz.trans hsz
  refine lv_aload hx hb dX4_send_52 (lv_at hl 0 rfl) ?_
  refine lv_iconst (v := (-1)) hx hb dX4_send_54 (by decide) ?_
  refine pt_X4_39 hC hP hS (kI (kI (kI (kI (kI (kI (hqk))))))) dX4_send_55 (fun H locs hP hz hS => ?_)
  replace hsz := hz.trans hsz
  refine lv_aload hx hb dX4_send_58 (lv_at hl 0 rfl) ?_
  exact g_aret (v := some _) hC hP hS hr hlk (by decide) (by decide) (⟨rfl, rfl, hsz⟩) dX4_send_60

set_option maxRecDepth 100000 in
set_option maxHeartbeats 4000000 in
theorem lp_X2_copyRows {p : Program} {l : Launch} {e : Env} {R : Room} {s : State} {m : MethodId} {args : Array Value} {below : List Frame} {meth : Method} {c : Code} {cells slots : Nat} {Q : State → Prop} {N0 : Nat} {D : va_G} {cy : Nat → ClassId} {S : gS} {sz : Nat} (hC : gC N0 D cy p s m args c cX2_copyRows 3 RX2) {a r fr : Nat} {f : Nat → Nat} (ha : gK S a = 3) (hr0 : gR S a 7 = some r) (hrk : gK S r = 15) (hrn : gn S r = 8) (hfk : gK S fr = 15) (hfn : gn S fr = 8) (hf : ∀ j, j < 8 → gR S fr j = some (f j) ∧ gK S (f j) = 6)
    (hexit : ∀ (H : Heap) (locs : List Loc) (ls : Array Slot), gP N0 D cy (sRow S r 8 (fun j => some (f j))) H → H.size = sz → va_S (fun q => N0 ≤ q) s.heap H locs → lv_has ls 3 [(2, .int (nI 8)), (0, .ref (a)), (1, .ref (fr))] → W p l e R s m args below meth c H locs cells slots Q (F0 m 23 ls [])) :
    ∀ (n i : Nat) (H : Heap) (locs : List Loc) (ls : Array Slot), i + n = 8 → gP N0 D cy (sRow S r i (fun j => some (f j))) H → H.size = sz → va_S (fun q => N0 ≤ q) s.heap H locs → lv_has ls 3 [(2, .int (nI i)), (0, .ref (a)), (1, .ref (fr))] → W p l e R s m args below meth c H locs cells slots Q (F0 m 2 ls []) := by
  have hx := hC.1
  have hb := hC.2.1
  intro n
  induction n with
  | zero =>
    intro i H locs ls hi hP hsz hS hl
    have hi8 : i = 8 := by omega
    subst hi8
    have har : a ≠ r := fun h => by rw [h] at ha; omega
    refine lv_iload_n hx hb dX2_copyRows_2 rfl (lv_at hl 0 rfl) ?_
    refine lv_bipush (v := 8) hx hb dX2_copyRows_3 (by decide) ?_
    refine lv_icmp_ge (tgt := 23) hx hb dX2_copyRows_5 (by decide) (fun c_5 => ?_) (fun c_5 => ?_)
    · exact hexit _ _ _ hP hsz hS (lv_sub hl [0, 1, 2] rfl)
    · exact absurd (by decide) c_5
  | succ n ih =>
    intro i H locs ls hi hP hsz hS hl
    have hi8 : i < 8 := by omega
    have har : a ≠ r := fun h => by rw [h] at ha; omega
    have hcl : (nI i).toNatClampNeg = i := nI_clamp (by omega)
    refine lv_iload_n hx hb dX2_copyRows_2 rfl (lv_at hl 0 rfl) ?_
    refine lv_bipush (v := 8) hx hb dX2_copyRows_3 (by decide) ?_
    refine lv_icmp_ge (tgt := 23) hx hb dX2_copyRows_5 (by decide) (fun c_5 => ?_) (fun c_5 => ?_)
    · exact absurd c_5 (nI_ge (a := i) (b := 8) (by omega) (by decide))
    · refine lv_aload_n hx hb dX2_copyRows_8 rfl (lv_at hl 1 rfl) ?_
      refine gt_X2_11 hC hP (kW (ha)) (rW (by first | assumption | exact Ne.symm (by assumption)) ((hr0))) dX2_copyRows_9 ?_
      refine lv_iload_n hx hb dX2_copyRows_12 rfl (lv_at hl 0 rfl) ?_
      refine lv_aload_n hx hb dX2_copyRows_13 rfl (lv_at hl 2 rfl) ?_
      refine lv_iload_n hx hb dX2_copyRows_14 rfl (lv_at hl 0 rfl) ?_
      refine g_aald hC hP (j := 3) (by decide) (kW (hfk)) (by show vp_in (nI i) (gn S fr); rw [hfn]; exact vp_in_nI hi8 (by decide)) dX2_copyRows_15 ?_
      refine g_rf (by rw [hcl, sRow_ge (Nat.le_refl i)]; exact (hf i hi8).1) ?_
      refine g_aast hC hP hS (kd := 15) (ci := 5) (t0 := 6) (by decide) rfl rfl (by decide) (kW (hrk)) (kW ((hf i hi8).2)) (by show vp_in (nI i) (gn S r); rw [hrn]; exact vp_in_nI hi8 (by decide)) dX2_copyRows_16 (fun H locs hP hz hS => ?_)
      replace hsz := hz.trans hsz
      rw [hcl] at hP
      refine lv_iinc (v := _ + 1) (lv' := [(2, .int _), (0, .ref _), (1, .ref _)]) hx hb dX2_copyRows_17 hl (k := 0) rfl rfl (by decide) rfl (fun ls hl => ?_)
      refine lv_goto (tgt := 2) hx hb dX2_copyRows_20 (by decide) ?_
      exact ih (i + 1) _ _ _ (by omega) (by exact (sRow_s S r i (fun j => some (f j))) ▸ hP) hsz hS (by rw [nI_succ]; exact lv_sub hl [0, 1, 2] rfl)

set_option maxRecDepth 100000 in
set_option maxHeartbeats 4000000 in
theorem c_X2_copyRows (l : Launch) (N0 : Nat) (D : va_G) (cy : Nat → ClassId) (S : gS) (sz : Nat) (a r fr : Nat) (f : Nat → Nat) (ha : gK S a = 3) (hr0 : gR S a 7 = some r) (hrk : gK S r = 15) (hrn : gn S r = 8) (hfk : gK S fr = 15) (hfn : gn S fr = 8) (hf : ∀ j, j < 8 → gR S fr j = some (f j) ∧ gK S (f j) = 6) : gM l yX2_copyRows cX2_copyRows 3 (none : Option FieldType) { frames := 0, cells := 0, slots := 0, locals := 0 } N0 D cy [.ref a, .ref fr] S sz (fun v S1 z => v = none ∧ S1 = sRow S r 8 (fun j => some (f j)) ∧ z = sz) := by
  refine g_body (by decide) rfl (Nat.le_of_ble_eq_true rfl) ?_
  intro p e s m args below meth c ls hC hU hr hlk hnm hsz hP hS hl
  have hx := hC.1
  have hb := hC.2.1
  refine lv_iconst (v := 0) hx hb dX2_copyRows_0 (by decide) ?_
  refine lv_istore_n (lv' := [(2, .int _), (0, .ref _), (1, .ref _)]) hx hb dX2_copyRows_1 rfl hl (by decide) rfl (fun ls hl => ?_)
  refine lp_X2_copyRows (sz := sz) hC ha hr0 hrk hrn hfk hfn hf (fun H locs ls hP hsz hS hl => ?_) 8 0 _ _ _ rfl (by rw [sRow_0]; exact hP) hsz hS hl
  exact g_vret hC hP hS hr hlk (by decide) (by decide) (⟨rfl, rfl, hsz⟩) dX2_copyRows_23
