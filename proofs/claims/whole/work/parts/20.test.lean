theorem g_rf {p : Program} {l : Launch} {e : Env} {R : Room} {s : State} {m : MethodId} {args : Array Value} {below : List Frame} {meth : Method} {c : Code} {H : Heap} {locs : List Loc} {cells slots : Nat} {Q : State → Prop} {pc : Nat} {ls : Array Slot} {rest : List Value} {r : Option Nat} {b : Nat} (h : r = some b) (kk : W p l e R s m args below meth c H locs cells slots Q (F0 m pc ls (.ref b :: rest))) : W p l e R s m args below meth c H locs cells slots Q (F0 m pc ls (va_rf r :: rest)) := by subst h; exact kk
set_option maxRecDepth 100000 in
set_option maxHeartbeats 4000000 in
/-- Row.orNewer -/
theorem c_X5_orNewer (l : Launch) (N0 : Nat) (D : va_G) (cy : Nat → ClassId) (S : gS) (sz : Nat) (a b : Nat) (ha : gK S a = 6) (hb0 : gK S b = 6) : gM l yX5_orNewer cX5_orNewer 2 (some (FieldType.object "IssueHouse$Row")) { frames := 0, cells := 0, slots := 0, locals := 0 } N0 D cy [.ref a, .ref b] S sz (fun v S1 z => v = some (.ref (if gI S a 0 < gI S b 0 then b else a)) ∧ S1 = S ∧ z = sz) := by
  refine g_body (by decide) rfl (Nat.le_of_ble_eq_true rfl) ?_
  intro p e s m args below meth c ls hC hU hr hlk hnm hsz hP hS hl
  have hx := hC.1
  have hb := hC.2.1
  refine lv_aload_n hx hb dX5_orNewer_0 rfl (lv_at hl 1 rfl) ?_
  refine gt_X5_7 hC hP (hb0) dX5_orNewer_1 ?_
  refine lv_aload_n hx hb dX5_orNewer_4 rfl (lv_at hl 0 rfl) ?_
  refine gt_X5_7 hC hP (ha) dX5_orNewer_5 ?_
  refine lv_icmp_le (tgt := 15) hx hb dX5_orNewer_8 (by decide) (fun c_8 => ?_) (fun c_8 => ?_)
  · refine lv_aload_n hx hb dX5_orNewer_15 rfl (lv_at hl 0 rfl) ?_
    exact g_aret (v := some _) hC hP hS hr hlk (by decide) (by decide) (⟨by first | rw [if_pos (by assumption)]; rfl | rw [if_neg (by assumption)]; rfl | (rw [if_neg (Int32.not_lt.mpr (by assumption))]; rfl) | (rw [if_pos (Int32.not_le.mp (by assumption))]; rfl), rfl, hsz⟩) dX5_orNewer_16
  · refine lv_aload_n hx hb dX5_orNewer_11 rfl (lv_at hl 1 rfl) ?_
    refine lv_goto (tgt := 16) hx hb dX5_orNewer_12 (by decide) ?_
    exact g_aret (v := some _) hC hP hS hr hlk (by decide) (by decide) (⟨by first | rw [if_pos (by assumption)]; rfl | rw [if_neg (by assumption)]; rfl | (rw [if_neg (Int32.not_lt.mpr (by assumption))]; rfl) | (rw [if_pos (Int32.not_le.mp (by assumption))]; rfl), rfl, hsz⟩) dX5_orNewer_16

set_option maxRecDepth 100000 in
set_option maxHeartbeats 4000000 in
theorem c_X2_isToNode (l : Launch) (N0 : Nat) (D : va_G) (cy : Nat → ClassId) (S : gS) (sz : Nat) (a : Nat) (ha : gK S a = 3) : gM l yX2_isToNode cX2_isToNode 1 (some FieldType.boolean) { frames := 0, cells := 0, slots := 0, locals := 0 } N0 D cy [.ref a] S sz (fun v S1 z => v = some (.int (if gI S a 0 = 0 ∨ gI S a 0 = 2 then 1 else 0)) ∧ S1 = S ∧ z = sz) := by
  refine g_body (by decide) rfl (Nat.le_of_ble_eq_true rfl) ?_
  intro p e s m args below meth c ls hC hU hr hlk hnm hsz hP hS hl
  have hx := hC.1
  have hb := hC.2.1
  refine lv_aload_n hx hb dX2_isToNode_0 rfl (lv_at hl 0 rfl) ?_
  refine gt_X2_21 hC hP (ha) dX2_isToNode_1 ?_
  refine lv_if_eq (tgt := 15) hx hb dX2_isToNode_4 (by decide) (fun c_4 => ?_) (fun c_4 => ?_)
  · refine lv_iconst (v := 1) hx hb dX2_isToNode_15 (by decide) ?_
    refine lv_goto (tgt := 20) hx hb dX2_isToNode_16 (by decide) ?_
    exact g_zret hC hP hS hr hlk (by decide) (by decide) (nz01 (by decide)) (⟨by simp [*], rfl, hsz⟩) dX2_isToNode_20
  · refine lv_aload_n hx hb dX2_isToNode_7 rfl (lv_at hl 0 rfl) ?_
    refine gt_X2_21 hC hP (ha) dX2_isToNode_8 ?_
    refine lv_iconst (v := 2) hx hb dX2_isToNode_11 (by decide) ?_
    refine lv_icmp_ne (tgt := 19) hx hb dX2_isToNode_12 (by decide) (fun c_12 => ?_) (fun c_12 => ?_)
    · refine lv_iconst (v := 0) hx hb dX2_isToNode_19 (by decide) ?_
      exact g_zret hC hP hS hr hlk (by decide) (by decide) (nz01 (by decide)) (⟨by simp [*], rfl, hsz⟩) dX2_isToNode_20
    · refine lv_iconst (v := 1) hx hb dX2_isToNode_15 (by decide) ?_
      refine lv_goto (tgt := 20) hx hb dX2_isToNode_16 (by decide) ?_
      exact g_zret hC hP hS hr hlk (by decide) (by decide) (nz01 (by decide)) (⟨by simp [*], rfl, hsz⟩) dX2_isToNode_20

set_option maxRecDepth 100000 in
set_option maxHeartbeats 4000000 in
theorem c_X4_hasRoomFor (l : Launch) (N0 : Nat) (D : va_G) (cy : Nat → ClassId) (S : gS) (sz : Nat) (a : Nat) (n : Int32) (ha : gK S a = 5) : gM l yX4_hasRoomFor cX4_hasRoomFor 2 (some FieldType.boolean) { frames := 0, cells := 0, slots := 0, locals := 0 } N0 D cy [.ref a, .int n] S sz (fun v S1 z => v = some (.int (if gI S a 1 + n ≤ 90 then 1 else 0)) ∧ S1 = S ∧ z = sz) := by
  refine g_body (by decide) rfl (Nat.le_of_ble_eq_true rfl) ?_
  intro p e s m args below meth c ls hC hU hr hlk hnm hsz hP hS hl
  have hx := hC.1
  have hb := hC.2.1
  refine lv_aload_n hx hb dX4_hasRoomFor_0 rfl (lv_at hl 0 rfl) ?_
  refine gt_X4_20 hC hP (ha) dX4_hasRoomFor_1 ?_
  refine lv_iload_n hx hb dX4_hasRoomFor_4 rfl (lv_at hl 1 rfl) ?_
  refine lv_iadd hx hb dX4_hasRoomFor_5 ?_
  refine lv_bipush (v := 90) hx hb dX4_hasRoomFor_6 (by decide) ?_
  refine lv_icmp_gt (tgt := 15) hx hb dX4_hasRoomFor_8 (by decide) (fun c_8 => ?_) (fun c_8 => ?_)
  · refine lv_iconst (v := 0) hx hb dX4_hasRoomFor_15 (by decide) ?_
    exact g_zret hC hP hS hr hlk (by decide) (by decide) (nz01 (by decide)) (⟨by first | (rw [if_pos (by assumption)]; done) | (rw [if_neg (by assumption)]; done) | (rw [if_neg (Int32.not_le.mpr (by assumption))]; done) | (rw [if_pos (Int32.not_lt.mp (by assumption))]; done), rfl, hsz⟩) dX4_hasRoomFor_16
  · refine lv_iconst (v := 1) hx hb dX4_hasRoomFor_11 (by decide) ?_
    refine lv_goto (tgt := 16) hx hb dX4_hasRoomFor_12 (by decide) ?_
    exact g_zret hC hP hS hr hlk (by decide) (by decide) (nz01 (by decide)) (⟨by first | (rw [if_pos (by assumption)]; done) | (rw [if_neg (by assumption)]; done) | (rw [if_neg (Int32.not_le.mpr (by assumption))]; done) | (rw [if_pos (Int32.not_lt.mp (by assumption))]; done), rfl, hsz⟩) dX4_hasRoomFor_16

