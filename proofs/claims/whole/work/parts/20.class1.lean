theorem g_rf {p : Program} {l : Launch} {e : Env} {R : Room} {s : State} {m : MethodId} {args : Array Value} {below : List Frame} {meth : Method} {c : Code} {H : Heap} {locs : List Loc} {cells slots : Nat} {Q : State → Prop} {pc : Nat} {ls : Array Slot} {rest : List Value} {r : Option Nat} {b : Nat} (h : r = some b) (kk : W p l e R s m args below meth c H locs cells slots Q (F0 m pc ls (.ref b :: rest))) : W p l e R s m args below meth c H locs cells slots Q (F0 m pc ls (va_rf r :: rest)) := by subst h; exact kk
set_option maxRecDepth 100000 in
set_option maxHeartbeats 4000000 in
/-- Row.orNewer -/
theorem c_X5_orNewer (l : Launch) (N0 : Nat) (D : va_G) (cy : Nat → ClassId) (S : gS) (sz : Nat) (a b : Nat) (ha : gK S a = 6) (hb0 : gK S b = 6) : gM l yX5_orNewer cX5_orNewer 2 (some (FieldType.object "IssueHouse$Row")) { frames := 0, cells := 0, slots := 0, locals := 0 } N0 D cy [.ref a, .ref b] S sz (fun v S1 z => v = some (.ref (if gI S a 0 < gI S b 0 then b else a)) ∧ S1 = S ∧ z = sz) := by
  refine g_body (by decide) rfl (Nat.le_of_ble_eq_true rfl) ?_
  intro p e s m args below meth c ls hC hU hr hlk hnm hsz hP hS hl
  have hx := hC.1
  have hb := hC.2.1
  refine lv_aload_n hx hb dX5_orNewer_0 rfl (lv_at hl 1 rfl) ?_
  refine gt_X5_7 hC hP (hb0) dX5_orNewer_1 ?_
  refine lv_aload_n hx hb dX5_orNewer_4 rfl (lv_at hl 0 rfl) ?_
  refine gt_X5_7 hC hP (ha) dX5_orNewer_5 ?_
  refine lv_icmp_le (tgt := 15) hx hb dX5_orNewer_8 (by decide) (fun c_8 => ?_) (fun c_8 => ?_)
  · refine lv_aload_n hx hb dX5_orNewer_15 rfl (lv_at hl 0 rfl) ?_
    exact g_aret (v := some _) hC hP hS hr hlk (by decide) (by decide) (⟨by first | rw [if_pos (by assumption)]; rfl | rw [if_neg (by assumption)]; rfl | (rw [if_neg (Int32.not_lt.mpr (by assumption))]; rfl) | (rw [if_pos (Int32.not_le.mp (by assumption))]; rfl), rfl, hsz⟩) dX5_orNewer_16
  · refine lv_aload_n hx hb dX5_orNewer_11 rfl (lv_at hl 1 rfl) ?_
    refine lv_goto (tgt := 16) hx hb dX5_orNewer_12 (by decide) ?_
    exact g_aret (v := some _) hC hP hS hr hlk (by decide) (by decide) (⟨by first | rw [if_pos (by assumption)]; rfl | rw [if_neg (by assumption)]; rfl | (rw [if_neg (Int32.not_lt.mpr (by assumption))]; rfl) | (rw [if_pos (Int32.not_le.mp (by assumption))]; rfl), rfl, hsz⟩) dX5_orNewer_16

set_option maxRecDepth 100000 in
set_option maxHeartbeats 4000000 in
theorem c_X2_isToNode (l : Launch) (N0 : Nat) (D : va_G) (cy : Nat → ClassId) (S : gS) (sz : Nat) (a : Nat) (ha : gK S a = 3) : gM l yX2_isToNode cX2_isToNode 1 (some FieldType.boolean) { frames := 0, cells := 0, slots := 0, locals := 0 } N0 D cy [.ref a] S sz (fun v S1 z => v = some (.int (if gI S a 0 = 0 ∨ gI S a 0 = 2 then 1 else 0)) ∧ S1 = S ∧ z = sz) := by
  refine g_body (by decide) rfl (Nat.le_of_ble_eq_true rfl) ?_
  intro p e s m args below meth c ls hC hU hr hlk hnm hsz hP hS hl
  have hx := hC.1
  have hb := hC.2.1
  refine lv_aload_n hx hb dX2_isToNode_0 rfl (lv_at hl 0 rfl) ?_
  refine gt_X2_21 hC hP (ha) dX2_isToNode_1 ?_
  refine lv_if_eq (tgt := 15) hx hb dX2_isToNode_4 (by decide) (fun c_4 => ?_) (fun c_4 => ?_)
  · refine lv_iconst (v := 1) hx hb dX2_isToNode_15 (by decide) ?_
    refine lv_goto (tgt := 20) hx hb dX2_isToNode_16 (by decide) ?_
    exact g_zret hC hP hS hr hlk (by decide) (by decide) (nz01 (by decide)) (⟨by simp [*], rfl, hsz⟩) dX2_isToNode_20
  · refine lv_aload_n hx hb dX2_isToNode_7 rfl (lv_at hl 0 rfl) ?_
    refine gt_X2_21 hC hP (ha) dX2_isToNode_8 ?_
    refine lv_iconst (v := 2) hx hb dX2_isToNode_11 (by decide) ?_
    refine lv_icmp_ne (tgt := 19) hx hb dX2_isToNode_12 (by decide) (fun c_12 => ?_) (fun c_12 => ?_)
    · refine lv_iconst (v := 0) hx hb dX2_isToNode_19 (by decide) ?_
      exact g_zret hC hP hS hr hlk (by decide) (by decide) (nz01 (by decide)) (⟨by simp [*], rfl, hsz⟩) dX2_isToNode_20
    · refine lv_iconst (v := 1) hx hb dX2_isToNode_15 (by decide) ?_
      refine lv_goto (tgt := 20) hx hb dX2_isToNode_16 (by decide) ?_
      exact g_zret hC hP hS hr hlk (by decide) (by decide) (nz01 (by decide)) (⟨by simp [*], rfl, hsz⟩) dX2_isToNode_20

set_option maxRecDepth 100000 in
set_option maxHeartbeats 4000000 in
theorem c_X4_hasRoomFor (l : Launch) (N0 : Nat) (D : va_G) (cy : Nat → ClassId) (S : gS) (sz : Nat) (a : Nat) (n : Int32) (ha : gK S a = 5) : gM l yX4_hasRoomFor cX4_hasRoomFor 2 (some FieldType.boolean) { frames := 0, cells := 0, slots := 0, locals := 0 } N0 D cy [.ref a, .int n] S sz (fun v S1 z => v = some (.int (if gI S a 1 + n ≤ 90 then 1 else 0)) ∧ S1 = S ∧ z = sz) := by
  refine g_body (by decide) rfl (Nat.le_of_ble_eq_true rfl) ?_
  intro p e s m args below meth c ls hC hU hr hlk hnm hsz hP hS hl
  have hx := hC.1
  have hb := hC.2.1
  refine lv_aload_n hx hb dX4_hasRoomFor_0 rfl (lv_at hl 0 rfl) ?_
  refine gt_X4_20 hC hP (ha) dX4_hasRoomFor_1 ?_
  refine lv_iload_n hx hb dX4_hasRoomFor_4 rfl (lv_at hl 1 rfl) ?_
  refine lv_iadd hx hb dX4_hasRoomFor_5 ?_
  refine lv_bipush (v := 90) hx hb dX4_hasRoomFor_6 (by decide) ?_
  refine lv_icmp_gt (tgt := 15) hx hb dX4_hasRoomFor_8 (by decide) (fun c_8 => ?_) (fun c_8 => ?_)
  · refine lv_iconst (v := 0) hx hb dX4_hasRoomFor_15 (by decide) ?_
    exact g_zret hC hP hS hr hlk (by decide) (by decide) (nz01 (by decide)) (⟨by first | (rw [if_pos (by assumption)]; done) | (rw [if_neg (by assumption)]; done) | (rw [if_neg (Int32.not_le.mpr (by assumption))]; done) | (rw [if_pos (Int32.not_lt.mp (by assumption))]; done), rfl, hsz⟩) dX4_hasRoomFor_16
  · refine lv_iconst (v := 1) hx hb dX4_hasRoomFor_11 (by decide) ?_
    refine lv_goto (tgt := 16) hx hb dX4_hasRoomFor_12 (by decide) ?_
    exact g_zret hC hP hS hr hlk (by decide) (by decide) (nz01 (by decide)) (⟨by first | (rw [if_pos (by assumption)]; done) | (rw [if_neg (by assumption)]; done) | (rw [if_neg (Int32.not_le.mpr (by assumption))]; done) | (rw [if_pos (Int32.not_lt.mp (by assumption))]; done), rfl, hsz⟩) dX4_hasRoomFor_16

theorem sRow_0 (S : gS) (a : Nat) (f : Nat → Option Nat) : sRow S a 0 f = S := by
  obtain ⟨k, n, i, j, r⟩ := S
  unfold sRow gK gn gI gJ gR
  congr 4
  funext b j
  by_cases h : b = a <;> simp [h]
theorem sRow_s (S : gS) (a i : Nat) (f : Nat → Option Nat) : sR (sRow S a i f) a i (f i) = sRow S a (i + 1) f := by
  unfold sR sRow gK gn gI gJ gR up2
  congr 4
  funext b j
  by_cases h : b = a <;> by_cases h2 : j = i <;> simp [h, h2] <;> (try omega)
  by_cases h3 : j < i
  · simp [h3, Nat.lt_succ_of_lt h3]
  · have : ¬ j < i + 1 := by omega
    simp [h3, this]
theorem sRow_ge {S : gS} {a i b j : Nat} {f : Nat → Option Nat} (h : i ≤ j) : gR (sRow S a i f) b j = gR S b j := by
  show (if b = a then (if j < i then f j else gR S b j) else gR S b j) = gR S b j
  by_cases hb : b = a
  · rw [if_pos hb, if_neg (by omega)]
  · rw [if_neg hb]
theorem sRow_ne {S : gS} {a i b j : Nat} {f : Nat → Option Nat} (h : b ≠ a) : gR (sRow S a i f) b j = gR S b j := by
  show (if b = a then (if j < i then f j else gR S b j) else gR S b j) = gR S b j
  rw [if_neg h]
theorem sRow_lt {S : gS} {a i j : Nat} {f : Nat → Option Nat} (h : j < i) : gR (sRow S a i f) a j = f j := by
  show (if a = a then (if j < i then f j else gR S a j) else gR S a j) = f j
  rw [if_pos rfl, if_pos h]
set_option maxRecDepth 100000 in
set_option maxHeartbeats 4000000 in
theorem c_X5_init (l : Launch) (N0 : Nat) (D : va_G) (cy : Nat → ClassId) (S : gS) (sz : Nat) (a : Nat) (b h t : Int32) (mk : Int64) (ha : gK S a = 6) : gM l yX5_init cX5_init 6 (none : Option FieldType) { frames := 1, cells := 0, slots := 0, locals := 12 } N0 D cy [.ref a, .int b, .int h, .int t, .long mk] S sz (fun v S1 z => v = none ∧ S1 = sJ (sI (sI (sI S a 0 b) a 1 h) a 2 t) a 3 mk ∧ z = sz) := by
  refine g_body (by decide) rfl (Nat.le_of_ble_eq_true rfl) ?_
  intro p e s m args below meth c ls hC hU hr hlk hnm hsz hP hS hl
  have hx := hC.1
  have hb := hC.2.1
  refine lv_aload_n hx hb dX5_init_0 rfl (lv_at hl 0 rfl) ?_
  refine g_obj hC hl.1 mL_X5_1 (by decide) (by decide) dX5_init_1 ?_
  refine lv_aload_n hx hb dX5_init_4 rfl (lv_at hl 0 rfl) ?_
  refine lv_iload_n hx hb dX5_init_5 rfl (lv_at hl 1 rfl) ?_
  refine pt_X5_7 hC hP hS (ha) hnm dX5_init_6 (fun H locs hP hz hS => ?_)
  replace hsz := hz.trans hsz
  refine lv_aload_n hx hb dX5_init_9 rfl (lv_at hl 0 rfl) ?_
  refine lv_iload_n hx hb dX5_init_10 rfl (lv_at hl 2 rfl) ?_
  refine pt_X5_13 hC hP hS (kI (ha)) hnm dX5_init_11 (fun H locs hP hz hS => ?_)
  replace hsz := hz.trans hsz
  refine lv_aload_n hx hb dX5_init_14 rfl (lv_at hl 0 rfl) ?_
  refine lv_iload_n hx hb dX5_init_15 rfl (lv_at hl 3 rfl) ?_
  refine pt_X5_16 hC hP hS (kI (kI (ha))) hnm dX5_init_16 (fun H locs hP hz hS => ?_)
  replace hsz := hz.trans hsz
  refine lv_aload_n hx hb dX5_init_19 rfl (lv_at hl 0 rfl) ?_
  refine lv_lload hx hb dX5_init_20 (lv_at hl 4 rfl) ?_
  refine pt_X5_19 hC hP hS (kI (kI (kI (ha)))) hnm dX5_init_22 (fun H locs hP hz hS => ?_)
  replace hsz := hz.trans hsz
  exact g_vret hC hP hS hr hlk (by decide) (by decide) (⟨rfl, rfl, hsz⟩) dX5_init_25

set_option maxRecDepth 100000 in
set_option maxHeartbeats 4000000 in
theorem c_X0_init (l : Launch) (N0 : Nat) (D : va_G) (cy : Nat → ClassId) (S : gS) (sz : Nat) (a : Nat) (st : Int32) (fi : Int64) (r : Nat) (ha : gK S a = 1) : gM l yX0_init cX0_init 5 (none : Option FieldType) { frames := 1, cells := 0, slots := 0, locals := 12 } N0 D cy [.ref a, .int st, .long fi, .ref r] S sz (fun v S1 z => v = none ∧ S1 = sR (sJ (sI S a 0 st) a 1 fi) a 2 (some r) ∧ z = sz) := by
  refine g_body (by decide) rfl (Nat.le_of_ble_eq_true rfl) ?_
  intro p e s m args below meth c ls hC hU hr hlk hnm hsz hP hS hl
  have hx := hC.1
  have hb := hC.2.1
  refine lv_aload_n hx hb dX0_init_0 rfl (lv_at hl 0 rfl) ?_
  refine g_obj hC hl.1 mL_X0_1 (by decide) (by decide) dX0_init_1 ?_
  refine lv_aload_n hx hb dX0_init_4 rfl (lv_at hl 0 rfl) ?_
  refine lv_iload_n hx hb dX0_init_5 rfl (lv_at hl 1 rfl) ?_
  refine pt_X0_7 hC hP hS (ha) hnm dX0_init_6 (fun H locs hP hz hS => ?_)
  replace hsz := hz.trans hsz
  refine lv_aload_n hx hb dX0_init_9 rfl (lv_at hl 0 rfl) ?_
  refine lv_lload_n hx hb dX0_init_10 rfl (lv_at hl 2 rfl) ?_
  refine pt_X0_13 hC hP hS (kI (ha)) hnm dX0_init_11 (fun H locs hP hz hS => ?_)
  replace hsz := hz.trans hsz
  refine lv_aload_n hx hb dX0_init_14 rfl (lv_at hl 0 rfl) ?_
  refine lv_aload hx hb dX0_init_15 (lv_at hl 3 rfl) ?_
  refine pt_X0_17 (v := some _) hC hP hS (kJ (kI (ha))) hnm dX0_init_17 (fun H locs hP hz hS => ?_)
  replace hsz := hz.trans hsz
  exact g_vret hC hP hS hr hlk (by decide) (by decide) (⟨rfl, rfl, hsz⟩) dX0_init_20

set_option maxRecDepth 100000 in
set_option maxHeartbeats 4000000 in
theorem c_X1_isReady (l : Launch) (N0 : Nat) (D : va_G) (cy : Nat → ClassId) (S : gS) (sz : Nat) (a : Nat) (ha : gK S a = 2) : gM l yX1_isReady cX1_isReady 1 (some FieldType.boolean) { frames := 0, cells := 0, slots := 0, locals := 0 } N0 D cy [.ref a] S sz (fun v S1 z => v = some (.int (if gR S a 11 = none then 0 else 1)) ∧ S1 = S ∧ z = sz) := by
  refine g_body (by decide) rfl (Nat.le_of_ble_eq_true rfl) ?_
  intro p e s m args below meth c ls hC hU hr hlk hnm hsz hP hS hl
  have hx := hC.1
  have hb := hC.2.1
  refine lv_aload_n hx hb dX1_isReady_0 rfl (lv_at hl 0 rfl) ?_
  refine gq_X1_34 hC hP (ha) dX1_isReady_1 (fun q_1 => ?_) (fun b_1 q_1 => ?_)
  · refine lv_ifnullN (tgt := 11) hx hb dX1_isReady_4 (by decide) ?_
    refine lv_iconst (v := 0) hx hb dX1_isReady_11 (by decide) ?_
    exact g_zret hC hP hS hr hlk (by decide) (by decide) (nz01 (by decide)) (⟨by simp [*], rfl, hsz⟩) dX1_isReady_12
  · refine lv_ifnull hx hb dX1_isReady_4 ?_
    refine lv_iconst (v := 1) hx hb dX1_isReady_7 (by decide) ?_
    refine lv_goto (tgt := 12) hx hb dX1_isReady_8 (by decide) ?_
    exact g_zret hC hP hS hr hlk (by decide) (by decide) (nz01 (by decide)) (⟨by simp [*], rfl, hsz⟩) dX1_isReady_12

set_option maxRecDepth 100000 in
set_option maxHeartbeats 4000000 in
theorem c_X1_accept (l : Launch) (N0 : Nat) (D : va_G) (cy : Nat → ClassId) (S : gS) (sz : Nat) (a w : Nat) (ha : gK S a = 2) : gM l yX1_accept cX1_accept 2 (none : Option FieldType) { frames := 0, cells := 0, slots := 0, locals := 0 } N0 D cy [.ref a, .ref w] S sz (fun v S1 z => v = none ∧ S1 = sI (sI (sR S a 9 (some w)) a 3 2) a 7 0 ∧ z = sz) := by
  refine g_body (by decide) rfl (Nat.le_of_ble_eq_true rfl) ?_
  intro p e s m args below meth c ls hC hU hr hlk hnm hsz hP hS hl
  have hx := hC.1
  have hb := hC.2.1
  refine lv_aload_n hx hb dX1_accept_0 rfl (lv_at hl 0 rfl) ?_
  refine lv_aload_n hx hb dX1_accept_1 rfl (lv_at hl 1 rfl) ?_
  refine pt_X1_56 (v := some _) hC hP hS (ha) dX1_accept_2 (fun H locs hP hz hS => ?_)
  replace hsz := hz.trans hsz
  refine lv_aload_n hx hb dX1_accept_5 rfl (lv_at hl 0 rfl) ?_
  refine lv_iconst (v := 2) hx hb dX1_accept_6 (by decide) ?_
  refine pt_X1_9 hC hP hS (kR (ha)) dX1_accept_7 (fun H locs hP hz hS => ?_)
  replace hsz := hz.trans hsz
  refine lv_aload_n hx hb dX1_accept_10 rfl (lv_at hl 0 rfl) ?_
  refine lv_iconst (v := 0) hx hb dX1_accept_11 (by decide) ?_
  refine pt_X1_53 hC hP hS (kI (kR (ha))) dX1_accept_12 (fun H locs hP hz hS => ?_)
  replace hsz := hz.trans hsz
  exact g_vret hC hP hS hr hlk (by decide) (by decide) (⟨rfl, rfl, hsz⟩) dX1_accept_15

set_option maxRecDepth 100000 in
set_option maxHeartbeats 4000000 in
theorem c_X1_fail (l : Launch) (N0 : Nat) (D : va_G) (cy : Nat → ClassId) (S : gS) (sz : Nat) (a : Nat) (ha : gK S a = 2) : gM l yX1_fail cX1_fail 1 (none : Option FieldType) { frames := 0, cells := 0, slots := 0, locals := 0 } N0 D cy [.ref a] S sz (fun v S1 z => v = none ∧ S1 = sI (sI S a 3 0) a 10 (gI S a 10 + 1) ∧ z = sz) := by
  refine g_body (by decide) rfl (Nat.le_of_ble_eq_true rfl) ?_
  intro p e s m args below meth c ls hC hU hr hlk hnm hsz hP hS hl
  have hx := hC.1
  have hb := hC.2.1
  refine lv_aload_n hx hb dX1_fail_0 rfl (lv_at hl 0 rfl) ?_
  refine lv_iconst (v := 0) hx hb dX1_fail_1 (by decide) ?_
  refine pt_X1_9 hC hP hS (ha) dX1_fail_2 (fun H locs hP hz hS => ?_)
  replace hsz := hz.trans hsz
  refine lv_aload_n hx hb dX1_fail_5 rfl (lv_at hl 0 rfl) ?_
  refine lv_dup hx hb dX1_fail_6 rfl ?_
  refine gt_X1_59 hC hP (kI (ha)) dX1_fail_7 ?_
  refine lv_iconst (v := 1) hx hb dX1_fail_10 (by decide) ?_
  refine lv_iadd hx hb dX1_fail_11 ?_
  refine pt_X1_59 hC hP hS (kI (ha)) dX1_fail_12 (fun H locs hP hz hS => ?_)
  replace hsz := hz.trans hsz
  exact g_vret hC hP hS hr hlk (by decide) (by decide) (⟨rfl, rfl, hsz⟩) dX1_fail_15

set_option maxRecDepth 100000 in
set_option maxHeartbeats 4000000 in
theorem c_X1_hold (l : Launch) (N0 : Nat) (D : va_G) (cy : Nat → ClassId) (S : gS) (sz : Nat) (a : Nat) (g : Option Nat) (ha : gK S a = 2) : gM l yX1_hold cX1_hold 2 (none : Option FieldType) { frames := 0, cells := 0, slots := 0, locals := 0 } N0 D cy [.ref a, va_rf g] S sz (fun v S1 z => v = none ∧ S1 = sI (sJ (sR S a 11 g) a 12 (-1)) a 13 0 ∧ z = sz) := by
  cases g with
  | none =>
    refine g_body (by decide) rfl (Nat.le_of_ble_eq_true rfl) ?_
    intro p e s m args below meth c ls hC hU hr hlk hnm hsz hP hS hl
    have hx := hC.1
    have hb := hC.2.1
    refine lv_aload_n hx hb dX1_hold_0 rfl (lv_at hl 0 rfl) ?_
    refine lv_aload_nN hx hb dX1_hold_1 rfl (lv_at hl 1 rfl) ?_
    refine pt_X1_34 (v := none) hC hP hS (ha) dX1_hold_2 (fun H locs hP hz hS => ?_)
    replace hsz := hz.trans hsz
    refine lv_aload_n hx hb dX1_hold_5 rfl (lv_at hl 0 rfl) ?_
    refine lv_ldc2 hx hb hC.2.2.2.1 (hC.2.2.2.2.1 _ kJ_X1_21) dX1_hold_6 ?_
    refine pt_X1_23 hC hP hS (kR (ha)) dX1_hold_9 (fun H locs hP hz hS => ?_)
    replace hsz := hz.trans hsz
    refine lv_aload_n hx hb dX1_hold_12 rfl (lv_at hl 0 rfl) ?_
    refine lv_iconst (v := 0) hx hb dX1_hold_13 (by decide) ?_
    refine pt_X1_66 hC hP hS (kJ (kR (ha))) dX1_hold_14 (fun H locs hP hz hS => ?_)
    replace hsz := hz.trans hsz
    exact g_vret hC hP hS hr hlk (by decide) (by decide) (⟨rfl, rfl, hsz⟩) dX1_hold_17
  | some q =>
    refine g_body (by decide) rfl (Nat.le_of_ble_eq_true rfl) ?_
    intro p e s m args below meth c ls hC hU hr hlk hnm hsz hP hS hl
    have hx := hC.1
    have hb := hC.2.1
    refine lv_aload_n hx hb dX1_hold_0 rfl (lv_at hl 0 rfl) ?_
    refine lv_aload_n hx hb dX1_hold_1 rfl (lv_at hl 1 rfl) ?_
    refine pt_X1_34 (v := some _) hC hP hS (ha) dX1_hold_2 (fun H locs hP hz hS => ?_)
    replace hsz := hz.trans hsz
    refine lv_aload_n hx hb dX1_hold_5 rfl (lv_at hl 0 rfl) ?_
    refine lv_ldc2 hx hb hC.2.2.2.1 (hC.2.2.2.2.1 _ kJ_X1_21) dX1_hold_6 ?_
    refine pt_X1_23 hC hP hS (kR (ha)) dX1_hold_9 (fun H locs hP hz hS => ?_)
    replace hsz := hz.trans hsz
    refine lv_aload_n hx hb dX1_hold_12 rfl (lv_at hl 0 rfl) ?_
    refine lv_iconst (v := 0) hx hb dX1_hold_13 (by decide) ?_
    refine pt_X1_66 hC hP hS (kJ (kR (ha))) dX1_hold_14 (fun H locs hP hz hS => ?_)
    replace hsz := hz.trans hsz
    exact g_vret hC hP hS hr hlk (by decide) (by decide) (⟨rfl, rfl, hsz⟩) dX1_hold_17

set_option maxRecDepth 100000 in
set_option maxHeartbeats 4000000 in
theorem c_X1_breakDown (l : Launch) (N0 : Nat) (D : va_G) (cy : Nat → ClassId) (S : gS) (sz : Nat) (a : Nat) (ha : gK S a = 2) : gM l yX1_breakDown cX1_breakDown 1 (none : Option FieldType) { frames := 1, cells := 0, slots := 0, locals := 21 } N0 D cy [.ref a] S sz (fun v S1 z => v = none ∧ S1 = sI (sJ (sR (sI (sI S a 3 0) a 5 0) a 11 none) a 12 (-1)) a 13 0 ∧ z = sz) := by
  refine g_body (by decide) rfl (Nat.le_of_ble_eq_true rfl) ?_
  intro p e s m args below meth c ls hC hU hr hlk hnm hsz hP hS hl
  have hx := hC.1
  have hb := hC.2.1
  refine lv_aload_n hx hb dX1_breakDown_0 rfl (lv_at hl 0 rfl) ?_
  refine lv_iconst (v := 0) hx hb dX1_breakDown_1 (by decide) ?_
  refine pt_X1_9 hC hP hS (ha) dX1_breakDown_2 (fun H locs hP hz hS => ?_)
  replace hsz := hz.trans hsz
  refine lv_aload_n hx hb dX1_breakDown_5 rfl (lv_at hl 0 rfl) ?_
  refine lv_iconst (v := 0) hx hb dX1_breakDown_6 (by decide) ?_
  refine pt_X1_41 hC hP hS (kI (ha)) dX1_breakDown_7 (fun H locs hP hz hS => ?_)
  replace hsz := hz.trans hsz
  refine lv_aload_n hx hb dX1_breakDown_10 rfl (lv_at hl 0 rfl) ?_
  refine lv_null hx hb dX1_breakDown_11 ?_
  refine g_callV (As := [.null]) (rest := []) hC hU hP hS hl.1 (c_X1_hold l N0 D cy _ _ _ none ha) mL_X1_62 iM_X1_hold sL_X1_hold iN_X1 cD_X1_hold ⟨by decide, by decide, rfl⟩ ⟨by decide, by decide⟩ ⟨by decide, by decide⟩ (ci := 1) rfl (by decide) (kI (kI (ha))) rfl (Nat.le_of_ble_eq_true rfl) dX1_breakDown_12 (fun v S1 H locs hw hP hz hS => ?_)
  obtain ⟨rfl, hS1, hz2⟩ := hw
  replace hS1 := hS1.symm
  subst hS1
  replace hsz := hz2.trans hsz
  exact g_vret hC hP hS hr hlk (by decide) (by decide) (⟨rfl, rfl, hsz⟩) dX1_breakDown_15

set_option maxRecDepth 100000 in
set_option maxHeartbeats 4000000 in
theorem c_X1_counts (l : Launch) (N0 : Nat) (D : va_G) (cy : Nat → ClassId) (S : gS) (sz : Nat) (a m : Nat) (ph : Int32) (ha : gK S a = 2) (hm : gK S m = 3) : gM l yX1_counts cX1_counts 3 (some FieldType.boolean) { frames := 0, cells := 0, slots := 0, locals := 0 } N0 D cy [.ref a, .ref m, .int ph] S sz (fun v S1 z => v = some (.int (if gI S a 3 = ph ∧ gI S m 3 = gI S a 6 ∧ gI S a 7 &&& (1 <<< (gI S m 2 &&& 31)) = 0 then 1 else 0)) ∧ S1 = S ∧ z = sz) := by
  refine g_body (by decide) rfl (Nat.le_of_ble_eq_true rfl) ?_
  intro p e s m args below meth c ls hC hU hr hlk hnm hsz hP hS hl
  have hx := hC.1
  have hb := hC.2.1
  refine lv_aload_n hx hb dX1_counts_0 rfl (lv_at hl 0 rfl) ?_
  refine gt_X1_9 hC hP (ha) dX1_counts_1 ?_
  refine lv_iload_n hx hb dX1_counts_4 rfl (lv_at hl 2 rfl) ?_
  refine lv_icmp_ne (tgt := 37) hx hb dX1_counts_5 (by decide) (fun c_5 => ?_) (fun c_5 => ?_)
  · refine lv_iconst (v := 0) hx hb dX1_counts_37 (by decide) ?_
    exact g_zret hC hP hS hr hlk (by decide) (by decide) (nz01 (by decide)) (⟨by simp [*], rfl, hsz⟩) dX1_counts_38
  · refine lv_aload_n hx hb dX1_counts_8 rfl (lv_at hl 1 rfl) ?_
    refine gt_X1_89 hC hP (hm) dX1_counts_9 ?_
    refine lv_aload_n hx hb dX1_counts_12 rfl (lv_at hl 0 rfl) ?_
    refine gt_X1_50 hC hP (ha) dX1_counts_13 ?_
    refine lv_icmp_ne (tgt := 37) hx hb dX1_counts_16 (by decide) (fun c_16 => ?_) (fun c_16 => ?_)
    · refine lv_iconst (v := 0) hx hb dX1_counts_37 (by decide) ?_
      exact g_zret hC hP hS hr hlk (by decide) (by decide) (nz01 (by decide)) (⟨by simp [*], rfl, hsz⟩) dX1_counts_38
    · refine lv_aload_n hx hb dX1_counts_19 rfl (lv_at hl 0 rfl) ?_
      refine gt_X1_53 hC hP (ha) dX1_counts_20 ?_
      refine lv_iconst (v := 1) hx hb dX1_counts_23 (by decide) ?_
      refine lv_aload_n hx hb dX1_counts_24 rfl (lv_at hl 1 rfl) ?_
      refine gt_X1_96 hC hP (hm) dX1_counts_25 ?_
      refine lv_ishl hx hb dX1_counts_28 ?_
      refine lv_iand hx hb dX1_counts_29 ?_
      refine lv_if_ne (tgt := 37) hx hb dX1_counts_30 (by decide) (fun c_30 => ?_) (fun c_30 => ?_)
      · refine lv_iconst (v := 0) hx hb dX1_counts_37 (by decide) ?_
        exact g_zret hC hP hS hr hlk (by decide) (by decide) (nz01 (by decide)) (⟨by simp [*], rfl, hsz⟩) dX1_counts_38
      · refine lv_iconst (v := 1) hx hb dX1_counts_33 (by decide) ?_
        refine lv_goto (tgt := 38) hx hb dX1_counts_34 (by decide) ?_
        exact g_zret hC hP hS hr hlk (by decide) (by decide) (nz01 (by decide)) (⟨by simp [*], rfl, hsz⟩) dX1_counts_38

