set_option maxRecDepth 100000 in
set_option maxHeartbeats 4000000 in
theorem lp_X2_init {p : Program} {l : Launch} {e : Env} {R : Room} {s : State} {m : MethodId} {args : Array Value} {below : List Frame} {meth : Method} {c : Code} {cells slots : Nat} {Q : State → Prop} {N0 : Nat} {D : va_G} {cy : Nat → ClassId} {S : gS} {sz : Nat} (hC : gC N0 D cy p s m args c cX2_init 3 RX2) {a sa un : Nat} (ha : gK S a = 3) (hsa : gR S a 7 = some sa) (hsak : gK S sa = 15) (hsan : gn S sa = 8) (hunk : gK S un = 6)
    (hexit : ∀ (H : Heap) (locs : List Loc) (ls : Array Slot), gP N0 D cy (sRow S sa 8 (fun _ => some un)) H → H.size = sz → va_S (fun q => N0 ≤ q) s.heap H locs → lv_has ls 3 [(2, .int (nI 8)), (0, .ref (a)), (1, .ref (un))] → W p l e R s m args below meth c H locs cells slots Q (F0 m 39 ls [])) :
    ∀ (n i : Nat) (H : Heap) (locs : List Loc) (ls : Array Slot), i + n = 8 → gP N0 D cy (sRow S sa i (fun _ => some un)) H → H.size = sz → va_S (fun q => N0 ≤ q) s.heap H locs → lv_has ls 3 [(2, .int (nI i)), (0, .ref (a)), (1, .ref (un))] → W p l e R s m args below meth c H locs cells slots Q (F0 m 20 ls []) := by
  have hx := hC.1
  have hb := hC.2.1
  intro n
  induction n with
  | zero =>
    intro i H locs ls hi hP hsz hS hl
    have hi8 : i = 8 := by omega
    subst hi8
    have har : a ≠ sa := fun h => by rw [h] at ha; omega
    refine lv_iload_n hx hb dX2_init_20 rfl (lv_at hl 0 rfl) ?_
    refine lv_bipush (v := 8) hx hb dX2_init_21 (by decide) ?_
    refine lv_icmp_ge (tgt := 39) hx hb dX2_init_23 (by decide) (fun c_23 => ?_) (fun c_23 => ?_)
    · exact hexit _ _ _ hP hsz hS (lv_sub hl [0, 1, 2] rfl)
    · exact absurd (by decide) c_23
  | succ n ih =>
    intro i H locs ls hi hP hsz hS hl
    have hi8 : i < 8 := by omega
    have har : a ≠ sa := fun h => by rw [h] at ha; omega
    have hcl : (nI i).toNatClampNeg = i := nI_clamp (by omega)
    refine lv_iload_n hx hb dX2_init_20 rfl (lv_at hl 0 rfl) ?_
    refine lv_bipush (v := 8) hx hb dX2_init_21 (by decide) ?_
    refine lv_icmp_ge (tgt := 39) hx hb dX2_init_23 (by decide) (fun c_23 => ?_) (fun c_23 => ?_)
    · exact absurd c_23 (nI_ge (a := i) (b := 8) (by omega) (by decide))
    · refine lv_aload_n hx hb dX2_init_26 rfl (lv_at hl 1 rfl) ?_
      refine gt_X2_11 hC hP (kW (ha)) (rW (by first | assumption | exact Ne.symm (by assumption)) (hsa)) dX2_init_27 ?_
      refine lv_iload_n hx hb dX2_init_30 rfl (lv_at hl 0 rfl) ?_
      refine lv_aload_n hx hb dX2_init_31 rfl (lv_at hl 2 rfl) ?_
      refine g_aast hC hP hS (kd := 15) (ci := 5) (t0 := 6) (by decide) rfl rfl (by decide) (kW (hsak)) (kW (hunk)) (by show vp_in (nI i) (gn S sa); rw [hsan]; exact vp_in_nI hi8 (by decide)) dX2_init_32 (fun H locs hP hz hS => ?_)
      replace hsz := hz.trans hsz
      refine lv_iinc (v := _ + 1) (lv' := [(2, .int _), (0, .ref _), (1, .ref _)]) hx hb dX2_init_33 hl (k := 0) rfl rfl (by decide) rfl (fun ls hl => ?_)
      refine lv_goto (tgt := 20) hx hb dX2_init_36 (by decide) ?_
      exact ih (i + 1) _ _ _ (by omega) (by rw [hcl] at hP; exact (sRow_s S sa i (fun _ => some un)) ▸ hP) hsz hS (by rw [nI_succ]; exact lv_sub hl [0, 1, 2] rfl)

set_option maxRecDepth 100000 in
set_option maxHeartbeats 4000000 in
theorem lp_X3_init {p : Program} {l : Launch} {e : Env} {R : Room} {s : State} {m : MethodId} {args : Array Value} {below : List Frame} {meth : Method} {c : Code} {cells slots : Nat} {Q : State → Prop} {N0 : Nat} {D : va_G} {cy : Nat → ClassId} {S : gS} {sz : Nat} (hC : gC N0 D cy p s m args c cX3_init 3 RX3) {a sa un : Nat} (ha : gK S a = 4) (hsa : gR S a 2 = some sa) (hsak : gK S sa = 15) (hsan : gn S sa = 8) (hunk : gK S un = 6)
    (hexit : ∀ (H : Heap) (locs : List Loc) (ls : Array Slot), gP N0 D cy (sRow S sa 8 (fun _ => some un)) H → H.size = sz → va_S (fun q => N0 ≤ q) s.heap H locs → lv_has ls 3 [(2, .int (nI 8)), (0, .ref (a)), (1, .ref (un))] → W p l e R s m args below meth c H locs cells slots Q (F0 m 39 ls [])) :
    ∀ (n i : Nat) (H : Heap) (locs : List Loc) (ls : Array Slot), i + n = 8 → gP N0 D cy (sRow S sa i (fun _ => some un)) H → H.size = sz → va_S (fun q => N0 ≤ q) s.heap H locs → lv_has ls 3 [(2, .int (nI i)), (0, .ref (a)), (1, .ref (un))] → W p l e R s m args below meth c H locs cells slots Q (F0 m 20 ls []) := by
  have hx := hC.1
  have hb := hC.2.1
  intro n
  induction n with
  | zero =>
    intro i H locs ls hi hP hsz hS hl
    have hi8 : i = 8 := by omega
    subst hi8
    have har : a ≠ sa := fun h => by rw [h] at ha; omega
    refine lv_iload_n hx hb dX3_init_20 rfl (lv_at hl 0 rfl) ?_
    refine lv_bipush (v := 8) hx hb dX3_init_21 (by decide) ?_
    refine lv_icmp_ge (tgt := 39) hx hb dX3_init_23 (by decide) (fun c_23 => ?_) (fun c_23 => ?_)
    · exact hexit _ _ _ hP hsz hS (lv_sub hl [0, 1, 2] rfl)
    · exact absurd (by decide) c_23
  | succ n ih =>
    intro i H locs ls hi hP hsz hS hl
    have hi8 : i < 8 := by omega
    have har : a ≠ sa := fun h => by rw [h] at ha; omega
    have hcl : (nI i).toNatClampNeg = i := nI_clamp (by omega)
    refine lv_iload_n hx hb dX3_init_20 rfl (lv_at hl 0 rfl) ?_
    refine lv_bipush (v := 8) hx hb dX3_init_21 (by decide) ?_
    refine lv_icmp_ge (tgt := 39) hx hb dX3_init_23 (by decide) (fun c_23 => ?_) (fun c_23 => ?_)
    · exact absurd c_23 (nI_ge (a := i) (b := 8) (by omega) (by decide))
    · refine lv_aload_n hx hb dX3_init_26 rfl (lv_at hl 1 rfl) ?_
      refine gt_X3_17 hC hP (kW (ha)) (rW (by first | assumption | exact Ne.symm (by assumption)) (hsa)) dX3_init_27 ?_
      refine lv_iload_n hx hb dX3_init_30 rfl (lv_at hl 0 rfl) ?_
      refine lv_aload_n hx hb dX3_init_31 rfl (lv_at hl 2 rfl) ?_
      refine g_aast hC hP hS (kd := 15) (ci := 5) (t0 := 6) (by decide) rfl rfl (by decide) (kW (hsak)) (kW (hunk)) (by show vp_in (nI i) (gn S sa); rw [hsan]; exact vp_in_nI hi8 (by decide)) dX3_init_32 (fun H locs hP hz hS => ?_)
      replace hsz := hz.trans hsz
      refine lv_iinc (v := _ + 1) (lv' := [(2, .int _), (0, .ref _), (1, .ref _)]) hx hb dX3_init_33 hl (k := 0) rfl rfl (by decide) rfl (fun ls hl => ?_)
      refine lv_goto (tgt := 20) hx hb dX3_init_36 (by decide) ?_
      exact ih (i + 1) _ _ _ (by omega) (by rw [hcl] at hP; exact (sRow_s S sa i (fun _ => some un)) ▸ hP) hsz hS (by rw [nI_succ]; exact lv_sub hl [0, 1, 2] rfl)

set_option maxRecDepth 100000 in
set_option maxHeartbeats 4000000 in
theorem lp_X1_init {p : Program} {l : Launch} {e : Env} {R : Room} {s : State} {m : MethodId} {args : Array Value} {below : List Frame} {meth : Method} {c : Code} {cells slots : Nat} {Q : State → Prop} {N0 : Nat} {D : va_G} {cy : Nat → ClassId} {S : gS} {sz : Nat} (hC : gC N0 D cy p s m args c cX1_init 4 RX1) {a sa un : Nat} {xv : Int32} (ha : gK S a = 2) (hsa : gR S a 8 = some sa) (hsak : gK S sa = 15) (hsan : gn S sa = 8) (hunk : gK S un = 6)
    (hexit : ∀ (H : Heap) (locs : List Loc) (ls : Array Slot), gP N0 D cy (sRow S sa 8 (fun _ => some un)) H → H.size = sz → va_S (fun q => N0 ≤ q) s.heap H locs → lv_has ls 4 [(3, .int (nI 8)), (0, .ref (a)), (1, .int (xv)), (2, .ref (un))] → W p l e R s m args below meth c H locs cells slots Q (F0 m 56 ls [])) :
    ∀ (n i : Nat) (H : Heap) (locs : List Loc) (ls : Array Slot), i + n = 8 → gP N0 D cy (sRow S sa i (fun _ => some un)) H → H.size = sz → va_S (fun q => N0 ≤ q) s.heap H locs → lv_has ls 4 [(3, .int (nI i)), (0, .ref (a)), (1, .int (xv)), (2, .ref (un))] → W p l e R s m args below meth c H locs cells slots Q (F0 m 37 ls []) := by
  have hx := hC.1
  have hb := hC.2.1
  intro n
  induction n with
  | zero =>
    intro i H locs ls hi hP hsz hS hl
    have hi8 : i = 8 := by omega
    subst hi8
    have har : a ≠ sa := fun h => by rw [h] at ha; omega
    refine lv_iload_n hx hb dX1_init_37 rfl (lv_at hl 0 rfl) ?_
    refine lv_bipush (v := 8) hx hb dX1_init_38 (by decide) ?_
    refine lv_icmp_ge (tgt := 56) hx hb dX1_init_40 (by decide) (fun c_40 => ?_) (fun c_40 => ?_)
    · exact hexit _ _ _ hP hsz hS (lv_sub hl [0, 1, 2, 3] rfl)
    · exact absurd (by decide) c_40
  | succ n ih =>
    intro i H locs ls hi hP hsz hS hl
    have hi8 : i < 8 := by omega
    have har : a ≠ sa := fun h => by rw [h] at ha; omega
    have hcl : (nI i).toNatClampNeg = i := nI_clamp (by omega)
    refine lv_iload_n hx hb dX1_init_37 rfl (lv_at hl 0 rfl) ?_
    refine lv_bipush (v := 8) hx hb dX1_init_38 (by decide) ?_
    refine lv_icmp_ge (tgt := 56) hx hb dX1_init_40 (by decide) (fun c_40 => ?_) (fun c_40 => ?_)
    · exact absurd c_40 (nI_ge (a := i) (b := 8) (by omega) (by decide))
    · refine lv_aload_n hx hb dX1_init_43 rfl (lv_at hl 1 rfl) ?_
      refine gt_X1_17 hC hP (kW (ha)) (rW (by first | assumption | exact Ne.symm (by assumption)) (hsa)) dX1_init_44 ?_
      refine lv_iload_n hx hb dX1_init_47 rfl (lv_at hl 0 rfl) ?_
      refine lv_aload_n hx hb dX1_init_48 rfl (lv_at hl 3 rfl) ?_
      refine g_aast hC hP hS (kd := 15) (ci := 5) (t0 := 6) (by decide) rfl rfl (by decide) (kW (hsak)) (kW (hunk)) (by show vp_in (nI i) (gn S sa); rw [hsan]; exact vp_in_nI hi8 (by decide)) dX1_init_49 (fun H locs hP hz hS => ?_)
      replace hsz := hz.trans hsz
      refine lv_iinc (v := _ + 1) (lv' := [(3, .int _), (0, .ref _), (1, .int _), (2, .ref _)]) hx hb dX1_init_50 hl (k := 0) rfl rfl (by decide) rfl (fun ls hl => ?_)
      refine lv_goto (tgt := 37) hx hb dX1_init_53 (by decide) ?_
      exact ih (i + 1) _ _ _ (by omega) (by rw [hcl] at hP; exact (sRow_s S sa i (fun _ => some un)) ▸ hP) hsz hS (by rw [nI_succ]; exact lv_sub hl [0, 1, 2, 3] rfl)

theorem gR_s {S : gS} {a k : Nat} {v : Option Nat} : gR (sR S a k v) a k = v := by show up2 (gR S) a k v a k = v; exact up2_s
def mkLetter (S : gS) (a z un : Nat) : gS := sRow (sR (sR (sN S z 15 8) a 7 (some z)) a 6 (some un)) z 8 (fun _ => some un)
def mkNode (S : gS) (a z un : Nat) : gS := sRow (sR (sN (sI S a 0 1) z 15 8) a 2 (some z)) z 8 (fun _ => some un)
def mkIssuer (S : gS) (a z un : Nat) (x : Int32) : gS := sRow (sR (sI (sJ (sR (sN (sI S a 3 0) z 15 8) a 8 (some z)) a 12 (-1)) a 0 x) a 1 (some un)) z 8 (fun _ => some un)
set_option maxRecDepth 100000 in
set_option maxHeartbeats 4000000 in
theorem c_X2_init (l : Launch) (N0 : Nat) (D : va_G) (cy : Nat → ClassId) (S : gS) (sz : Nat) (a un : Nat) (ha : gK S a = 3) (hunk : gK S un = 6) : gM l yX2_init cX2_init 3 (none : Option FieldType) { frames := 1, cells := 1, slots := 8, locals := 12 } N0 D cy [.ref a, .ref un] S sz (fun v S1 z => v = none ∧ S1 = mkLetter S a sz un ∧ z = sz + 1) := by
  refine g_body (by decide) rfl (Nat.le_of_ble_eq_true rfl) ?_
  intro p e s m args below meth c ls hC hU hr hlk hnm hsz hP hS hl
  have hx := hC.1
  have hb := hC.2.1
  have alt : a < sz := by rw [← hsz]; exact hP.lt (by omega)
  have ult : un < sz := by rw [← hsz]; exact hP.lt (by omega)
  refine lv_aload_n hx hb dX2_init_0 rfl (lv_at hl 0 rfl) ?_
  refine g_obj hC hl.1 mL_X2_3 (by decide) (by decide) dX2_init_1 ?_
  refine lv_aload_n hx hb dX2_init_4 rfl (lv_at hl 0 rfl) ?_
  refine lv_bipush (v := 8) hx hb dX2_init_5 (by decide) ?_
  refine g_newq hC hP hS (kd := 15) (t0 := 6) (by decide) rfl kL_X2_9 hU.2.2.2.2 (N' := 8) (by decide) (by decide) (by decide) (by decide) (by decide) dX2_init_7 (fun H1 hP1 hz1 hS1 => ?_)
  rw [hsz] at hP1 hz1 ⊢
  replace hsz := hz1
  clear hz1
  have hP := hP1
  have hS := hS1
  clear hP1 hS1
  refine pt_X2_11 (v := some _) hC hP hS (kN (by omega) (ha)) hnm dX2_init_10 (fun H locs hP hz hS => ?_)
  replace hsz := hz.trans hsz
  refine lv_aload_n hx hb dX2_init_13 rfl (lv_at hl 0 rfl) ?_
  refine lv_aload_n hx hb dX2_init_14 rfl (lv_at hl 1 rfl) ?_
  refine pt_X2_17 (v := some _) hC hP hS (kR (kN (by omega) (ha))) dX2_init_15 (fun H locs hP hz hS => ?_)
  replace hsz := hz.trans hsz
  refine lv_iconst (v := 0) hx hb dX2_init_18 (by decide) ?_
  refine lv_istore_n (lv' := [(2, .int _), (0, .ref _), (1, .ref _)]) hx hb dX2_init_19 rfl hl (by decide) rfl (fun ls hl => ?_)
  refine lp_X2_init (S := sR (sR (sN S sz 15 8) a 7 (some sz)) a 6 (some un)) (sz := sz + 1) (a := a) (sa := sz) (un := un) hC (kR (kR (kN (by omega) ha))) (rR (Or.inl (by decide)) gR_s) (kR (kR kN_s)) (nR' (nR' nN_s)) (kR (kR (kN (by omega) hunk))) (fun H locs ls hP hsz hS hl => ?_) 8 0 _ _ _ rfl (by rw [sRow_0]; exact hP) hsz hS (lv_sub hl [0, 1, 2] rfl)
  exact g_vret hC hP hS hr hlk (by decide) (by decide) (⟨rfl, rfl, hsz⟩) dX2_init_39
set_option maxRecDepth 100000 in
set_option maxHeartbeats 4000000 in
theorem c_X3_init (l : Launch) (N0 : Nat) (D : va_G) (cy : Nat → ClassId) (S : gS) (sz : Nat) (a un : Nat) (ha : gK S a = 4) (hunk : gK S un = 6) : gM l yX3_init cX3_init 3 (none : Option FieldType) { frames := 1, cells := 1, slots := 8, locals := 12 } N0 D cy [.ref a, .ref un] S sz (fun v S1 z => v = none ∧ S1 = mkNode S a sz un ∧ z = sz + 1) := by
  refine g_body (by decide) rfl (Nat.le_of_ble_eq_true rfl) ?_
  intro p e s m args below meth c ls hC hU hr hlk hnm hsz hP hS hl
  have hx := hC.1
  have hb := hC.2.1
  have alt : a < sz := by rw [← hsz]; exact hP.lt (by omega)
  have ult : un < sz := by rw [← hsz]; exact hP.lt (by omega)
  refine lv_aload_n hx hb dX3_init_0 rfl (lv_at hl 0 rfl) ?_
  refine g_obj hC hl.1 mL_X3_3 (by decide) (by decide) dX3_init_1 ?_
  refine lv_aload_n hx hb dX3_init_4 rfl (lv_at hl 0 rfl) ?_
  refine lv_iconst (v := 1) hx hb dX3_init_5 (by decide) ?_
  refine pt_X3_9 hC hP hS (ha) (by decide) dX3_init_6 (fun H locs hP hz hS => ?_)
  replace hsz := hz.trans hsz
  refine lv_aload_n hx hb dX3_init_9 rfl (lv_at hl 0 rfl) ?_
  refine lv_bipush (v := 8) hx hb dX3_init_10 (by decide) ?_
  refine g_newq hC hP hS (kd := 15) (t0 := 6) (by decide) rfl kL_X3_15 hU.2.2.2.2 (N' := 8) (by decide) (by decide) (by decide) (by decide) (by decide) dX3_init_12 (fun H1 hP1 hz1 hS1 => ?_)
  rw [hsz] at hP1 hz1 ⊢
  replace hsz := hz1
  clear hz1
  have hP := hP1
  have hS := hS1
  clear hP1 hS1
  refine pt_X3_17 (v := some _) hC hP hS (kN (by omega) (kI (ha))) hnm dX3_init_15 (fun H locs hP hz hS => ?_)
  replace hsz := hz.trans hsz
  refine lv_iconst (v := 0) hx hb dX3_init_18 (by decide) ?_
  refine lv_istore_n (lv' := [(2, .int _), (0, .ref _), (1, .ref _)]) hx hb dX3_init_19 rfl hl (by decide) rfl (fun ls hl => ?_)
  refine lp_X3_init (S := sR (sN (sI S a 0 1) sz 15 8) a 2 (some sz)) (sz := sz + 1) (a := a) (sa := sz) (un := un) hC (kR (kN (by omega) (kI ha))) gR_s (kR kN_s) (nR' nN_s) (kR (kN (by omega) (kI hunk))) (fun H locs ls hP hsz hS hl => ?_) 8 0 _ _ _ rfl (by rw [sRow_0]; exact hP) hsz hS (lv_sub hl [0, 1, 2] rfl)
  exact g_vret hC hP hS hr hlk (by decide) (by decide) (⟨rfl, rfl, hsz⟩) dX3_init_39
set_option maxRecDepth 100000 in
set_option maxHeartbeats 4000000 in
theorem c_X1_init (l : Launch) (N0 : Nat) (D : va_G) (cy : Nat → ClassId) (S : gS) (sz : Nat) (a un : Nat) (x : Int32) (ha : gK S a = 2) (hunk : gK S un = 6) : gM l yX1_init cX1_init 4 (none : Option FieldType) { frames := 1, cells := 1, slots := 8, locals := 12 } N0 D cy [.ref a, .int x, .ref un] S sz (fun v S1 z => v = none ∧ S1 = mkIssuer S a sz un x ∧ z = sz + 1) := by
  refine g_body (by decide) rfl (Nat.le_of_ble_eq_true rfl) ?_
  intro p e s m args below meth c ls hC hU hr hlk hnm hsz hP hS hl
  have hx := hC.1
  have hb := hC.2.1
  have alt : a < sz := by rw [← hsz]; exact hP.lt (by omega)
  have ult : un < sz := by rw [← hsz]; exact hP.lt (by omega)
  refine lv_aload_n hx hb dX1_init_0 rfl (lv_at hl 0 rfl) ?_
  refine g_obj hC hl.1 mL_X1_3 (by decide) (by decide) dX1_init_1 ?_
  refine lv_aload_n hx hb dX1_init_4 rfl (lv_at hl 0 rfl) ?_
  refine lv_iconst (v := 0) hx hb dX1_init_5 (by decide) ?_
  refine pt_X1_9 hC hP hS (ha) dX1_init_6 (fun H locs hP hz hS => ?_)
  replace hsz := hz.trans hsz
  refine lv_aload_n hx hb dX1_init_9 rfl (lv_at hl 0 rfl) ?_
  refine lv_bipush (v := 8) hx hb dX1_init_10 (by decide) ?_
  refine g_newq hC hP hS (kd := 15) (t0 := 6) (by decide) rfl kL_X1_15 hU.2.2.2.2 (N' := 8) (by decide) (by decide) (by decide) (by decide) (by decide) dX1_init_12 (fun H1 hP1 hz1 hS1 => ?_)
  rw [hsz] at hP1 hz1 ⊢
  replace hsz := hz1
  clear hz1
  have hP := hP1
  have hS := hS1
  clear hP1 hS1
  refine pt_X1_17 (v := some _) hC hP hS (kN (by omega) (kI (ha))) hnm dX1_init_15 (fun H locs hP hz hS => ?_)
  replace hsz := hz.trans hsz
  refine lv_aload_n hx hb dX1_init_18 rfl (lv_at hl 0 rfl) ?_
  refine lv_ldc2 hx hb hC.2.2.2.1 (hC.2.2.2.2.1 _ kJ_X1_21) dX1_init_19 ?_
  refine pt_X1_23 hC hP hS (kR (kN (by omega) (kI (ha)))) dX1_init_22 (fun H locs hP hz hS => ?_)
  replace hsz := hz.trans hsz
  refine lv_aload_n hx hb dX1_init_25 rfl (lv_at hl 0 rfl) ?_
  refine lv_iload_n hx hb dX1_init_26 rfl (lv_at hl 1 rfl) ?_
  refine pt_X1_27 hC hP hS (kJ (kR (kN (by omega) (kI (ha))))) hnm dX1_init_27 (fun H locs hP hz hS => ?_)
  replace hsz := hz.trans hsz
  refine lv_aload_n hx hb dX1_init_30 rfl (lv_at hl 0 rfl) ?_
  refine lv_aload_n hx hb dX1_init_31 rfl (lv_at hl 2 rfl) ?_
  refine pt_X1_30 (v := some _) hC hP hS (kI (kJ (kR (kN (by omega) (kI (ha)))))) hnm dX1_init_32 (fun H locs hP hz hS => ?_)
  replace hsz := hz.trans hsz
  refine lv_iconst (v := 0) hx hb dX1_init_35 (by decide) ?_
  refine lv_istore_n (lv' := [(3, .int _), (0, .ref _), (1, .int _), (2, .ref _)]) hx hb dX1_init_36 rfl hl (by decide) rfl (fun ls hl => ?_)
  refine lp_X1_init (S := sR (sI (sJ (sR (sN (sI S a 3 0) sz 15 8) a 8 (some sz)) a 12 (-1)) a 0 x) a 1 (some un)) (sz := sz + 1) (a := a) (sa := sz) (un := un) (xv := x) hC (kR (kI (kJ (kR (kN (by omega) (kI ha)))))) (rR (Or.inl (by decide)) (rI (rJ gR_s))) (kR (kI (kJ (kR kN_s)))) (nR' (nI' (nJ' (nR' nN_s)))) (kR (kI (kJ (kR (kN (by omega) (kI hunk)))))) (fun H locs ls hP hsz hS hl => ?_) 8 0 _ _ _ rfl (by rw [sRow_0]; exact hP) hsz hS (lv_sub hl [0, 1, 2, 3] rfl)
  exact g_vret hC hP hS hr hlk (by decide) (by decide) (⟨rfl, rfl, hsz⟩) dX1_init_56
theorem wi1 {x y : Int32} (h1 : ¬ x < 0) (h2 : ¬ y ≤ x) : some (Value.int 1) = some (Value.int (if 0 ≤ x ∧ x < y then 1 else 0)) := by rw [if_pos ⟨Int32.not_lt.mp h1, Int32.not_le.mp h2⟩]
theorem wi2 {x y : Int32} (h1 : x < 0) : some (Value.int 0) = some (Value.int (if 0 ≤ x ∧ x < y then 1 else 0)) := by rw [if_neg (fun h => absurd h.1 (Int32.not_le.mpr h1))]
theorem wi3 {x y : Int32} (h2 : y ≤ x) : some (Value.int 0) = some (Value.int (if 0 ≤ x ∧ x < y then 1 else 0)) := by rw [if_neg (fun h => absurd h.2 (Int32.not_lt.mpr h2))]
set_option maxRecDepth 100000 in
set_option maxHeartbeats 4000000 in
theorem c_X6_isWithin (l : Launch) (N0 : Nat) (D : va_G) (cy : Nat → ClassId) (S : gS) (sz : Nat) (x y : Int32) : gM l yX6_isWithin cX6_isWithin 2 (some FieldType.boolean) { frames := 0, cells := 0, slots := 0, locals := 0 } N0 D cy [.int x, .int y] S sz (fun v S1 z => v = some (.int (if 0 ≤ x ∧ x < y then 1 else 0)) ∧ S1 = S ∧ z = sz) := by
  refine g_body (by decide) rfl (Nat.le_of_ble_eq_true rfl) ?_
  intro p e s m args below meth c ls hC hU hr hlk hnm hsz hP hS hl
  have hx := hC.1
  have hb := hC.2.1
  refine lv_iload_n hx hb dX6_isWithin_0 rfl (lv_at hl 0 rfl) ?_
  refine lv_if_lt (tgt := 13) hx hb dX6_isWithin_1 (by decide) (fun c_1 => ?_) (fun c_1 => ?_)
  · refine lv_iconst (v := 0) hx hb dX6_isWithin_13 (by decide) ?_
    exact g_zret hC hP hS hr hlk (by decide) (by decide) (nz01 (by decide)) (⟨by first | exact wi1 c_1 c_6 | exact wi2 c_1 | exact wi3 c_6, rfl, hsz⟩) dX6_isWithin_14
  · refine lv_iload_n hx hb dX6_isWithin_4 rfl (lv_at hl 0 rfl) ?_
    refine lv_iload_n hx hb dX6_isWithin_5 rfl (lv_at hl 1 rfl) ?_
    refine lv_icmp_ge (tgt := 13) hx hb dX6_isWithin_6 (by decide) (fun c_6 => ?_) (fun c_6 => ?_)
    · refine lv_iconst (v := 0) hx hb dX6_isWithin_13 (by decide) ?_
      exact g_zret hC hP hS hr hlk (by decide) (by decide) (nz01 (by decide)) (⟨by first | exact wi1 c_1 c_6 | exact wi2 c_1 | exact wi3 c_6, rfl, hsz⟩) dX6_isWithin_14
    · refine lv_iconst (v := 1) hx hb dX6_isWithin_9 (by decide) ?_
      refine lv_goto (tgt := 14) hx hb dX6_isWithin_10 (by decide) ?_
      exact g_zret hC hP hS hr hlk (by decide) (by decide) (nz01 (by decide)) (⟨by first | exact wi1 c_1 c_6 | exact wi2 c_1 | exact wi3 c_6, rfl, hsz⟩) dX6_isWithin_14

/-- n letters PREPARE; lt k is the letter at place k -/
def cPL (S : gS) (po : Nat) (lt : Nat → Nat) (L : Nat) (is bl : Int32) : Nat → gS
  | 0 => S
  | n + 1 => cSend (cPL S po lt L is bl n) po (lt (L + n)) 0 is (nI n) bl
theorem kPL {S : gS} {po L b c : Nat} {lt : Nat → Nat} {is bl : Int32} : ∀ n : Nat, gK S b = c → gK (cPL S po lt L is bl n) b = c
  | 0, h => h
  | n + 1, h => kS (kPL n h)
theorem nPL {S : gS} {po L b c : Nat} {lt : Nat → Nat} {is bl : Int32} : ∀ n : Nat, gn S b = c → gn (cPL S po lt L is bl n) b = c
  | 0, h => h
  | n + 1, h => nS' (nPL n h)
theorem rPL {S : gS} {po L b j : Nat} {lt : Nat → Nat} {is bl : Int32} {r : Option Nat} : ∀ n : Nat, gR S b j = r → gR (cPL S po lt L is bl n) b j = r
  | 0, h => h
  | n + 1, h => rS (rPL n h)
theorem gI_cPL {S : gS} {po L b j : Nat} {lt : Nat → Nat} {is bl : Int32} (h1 : b ≠ po) (h2 : ∀ k, b ≠ lt k) : ∀ n : Nat, gI (cPL S po lt L is bl n) b j = gI S b j
  | 0 => rfl
  | n + 1 => by unfold cPL; rw [gI_cSend h1 (h2 _)]; exact gI_cPL h1 h2 n
theorem gI_cSend1 {S : gS} {a q : Nat} {kd is nd bl : Int32} (h : q ≠ a) : gI (cSend S a q kd is nd bl) a 1 = gI S a 1 + 1 := by
  unfold cSend
  rw [gI_a (Ne.symm h), gI_a (Ne.symm h), gI_a (Ne.symm h), gI_a (Ne.symm h), gI_a (Ne.symm h), gI_a (Ne.symm h), gI_s]
theorem cPL_1 {S : gS} {po L : Nat} {lt : Nat → Nat} {is bl : Int32} (h : gI S po 1 = nI L) (h2 : ∀ k, lt k ≠ po) : ∀ n : Nat, gI (cPL S po lt L is bl n) po 1 = nI (L + n)
  | 0 => h
  | n + 1 => by unfold cPL; rw [gI_cSend1 (h2 _), cPL_1 h h2 n, ← nI_succ]; rfl
set_option maxRecDepth 100000 in
set_option maxHeartbeats 4000000 in
theorem lp_X6_attempt {p : Program} {l : Launch} {e : Env} {R : Room} {s : State} {m : MethodId} {args : Array Value} {below : List Frame} {meth : Method} {c : Code} {cells slots : Nat} {Q : State → Prop} {N0 : Nat} {D : va_G} {cy : Nat → ClassId} {S : gS} {sz : Nat} (hC : gC N0 D cy p s m args c cX6_attempt 3 RX6) (hU : gU D cy s) {x a po pl L : Nat} {lt : Nat → Nat} (hxk : gK S x = 7) (ha : gK S a = 2) (hpo : gR S x 3 = some po) (hpok : gK S po = 5) (hpl : gR S po 0 = some pl) (hplk : gK S pl = 13) (hpln : gn S pl = 91) (hL : gI S po 1 = nI L) (hL2 : L + 5 ≤ 90) (hlt : ∀ k, k < 91 → gR S pl k = some (lt k)) (hltk : ∀ k, gK S (lt k) = 3) {is bl : Int32} (his : gI S a 0 = is) (hbl : gI S a 6 = bl) (hR : 1 ≤ R.frames ∧ 40 ≤ R.locals) (hc0 : cells ≤ R.cells ∧ slots ≤ R.slots)
    (hexit : ∀ (H : Heap) (locs : List Loc) (ls : Array Slot), gP N0 D cy (cPL S po lt L is bl 5) H → H.size = sz → va_S (fun q => N0 ≤ q) s.heap H locs → lv_has ls 3 [(2, .int (nI 5)), (0, .ref (x)), (1, .ref (a))] → W p l e R s m args below meth c H locs cells slots Q (F0 m 35 ls [])) :
    ∀ (n i : Nat) (H : Heap) (locs : List Loc) (ls : Array Slot), i + n = 5 → gP N0 D cy (cPL S po lt L is bl i) H → H.size = sz → va_S (fun q => N0 ≤ q) s.heap H locs → lv_has ls 3 [(2, .int (nI i)), (0, .ref (x)), (1, .ref (a))] → W p l e R s m args below meth c H locs cells slots Q (F0 m 6 ls []) := by
  have hx := hC.1
  have hb := hC.2.1
  intro n
  induction n with
  | zero =>
    intro i H locs ls hi hP hsz hS hl
    have hi8 : i = 5 := by omega
    subst hi8
    refine lv_iload_n hx hb dX6_attempt_6 rfl (lv_at hl 0 rfl) ?_
    refine lv_iconst (v := 5) hx hb dX6_attempt_7 (by decide) ?_
    refine lv_icmp_ge (tgt := 35) hx hb dX6_attempt_8 (by decide) (fun c_8 => ?_) (fun c_8 => ?_)
    · exact hexit _ _ _ hP hsz hS (lv_sub hl [0, 1, 2] rfl)
    · exact absurd (by decide) c_8
  | succ n ih =>
    intro i H locs ls hi hP hsz hS hl
    have hi8 : i < 5 := by omega
    have hap : a ≠ po := fun h => by rw [h] at ha; omega
    have hal : ∀ k, a ≠ lt k := fun k h => by have := hltk k; rw [← h] at this; omega
    have hlp : ∀ k, lt k ≠ po := fun k h => by have := hltk k; rw [h] at this; omega
    refine lv_iload_n hx hb dX6_attempt_6 rfl (lv_at hl 0 rfl) ?_
    refine lv_iconst (v := 5) hx hb dX6_attempt_7 (by decide) ?_
    refine lv_icmp_ge (tgt := 35) hx hb dX6_attempt_8 (by decide) (fun c_8 => ?_) (fun c_8 => ?_)
    · exact absurd c_8 (nI_ge (a := i) (b := 5) (by omega) (by decide))
    · refine lv_aload_n hx hb dX6_attempt_11 rfl (lv_at hl 1 rfl) ?_
      refine gt_X6_35 hC hP (kPL _ (hxk)) (rPL _ (hpo)) dX6_attempt_12 ?_
      refine lv_iconst (v := 0) hx hb dX6_attempt_15 (by decide) ?_
      refine lv_aload_n hx hb dX6_attempt_16 rfl (lv_at hl 2 rfl) ?_
      refine gt_X6_203 hC hP (kPL _ (ha)) dX6_attempt_17 ?_
      rw [gI_cPL hap hal, his]
      refine lv_iload_n hx hb dX6_attempt_20 rfl (lv_at hl 0 rfl) ?_
      refine lv_aload_n hx hb dX6_attempt_21 rfl (lv_at hl 2 rfl) ?_
      refine gt_X6_206 hC hP (kPL _ (ha)) dX6_attempt_22 ?_
      rw [gI_cPL hap hal, hbl]
      refine g_callV (As := [.int _, .int _, .int _, .int _]) (rest := []) hC hU hP hS hl.1 (c_X4_send l N0 D cy _ _ _ _ _ _ po pl (lt (L + i)) (kPL i hpok) (rPL i hpl) (kPL i hplk) (by rw [cPL_1 hL hlp, nPL i hpln]; exact vp_in_nI (by omega) (by decide)) (by rw [cPL_1 hL hlp, nI_clamp (by omega)]; exact rPL i (hlt _ (by omega))) (kPL i (hltk _))) mL_X6_207 iM_X4_send sL_X4_send iN_X4 cD_X4_send ⟨by decide, by decide, rfl⟩ ⟨Nat.le_trans (by decide) hR.1, Nat.le_trans (by decide) hR.2⟩ ⟨hc0.1, hc0.2⟩ (ci := 4) rfl (by decide) (kPL _ (hpok)) rfl (Nat.le_of_ble_eq_true rfl) dX6_attempt_25 (fun v S1 H locs hw hP hz hS => ?_)
      obtain ⟨rfl, hS1, hz2⟩ := hw
      replace hS1 := hS1.symm
      subst hS1
      replace hsz := hz2.trans hsz
      refine lv_pop hx hb dX6_attempt_28 rfl ?_
      refine lv_iinc (v := _ + 1) (lv' := [(2, .int _), (0, .ref _), (1, .ref _)]) hx hb dX6_attempt_29 hl (k := 0) rfl rfl (by decide) rfl (fun ls hl => ?_)
      refine lv_goto (tgt := 6) hx hb dX6_attempt_32 (by decide) ?_
      exact ih (i + 1) _ _ _ (by omega) (by exact hP) hsz hS (by rw [nI_succ]; exact lv_sub hl [0, 1, 2] rfl)

theorem kP {S : gS} {a sa un b c : Nat} (h : gK S b = c) : gK (cPrep S a sa un) b = c := kW (kI (kI (kI (kI h))))
theorem nP' {S : gS} {a sa un b c : Nat} (h : gn S b = c) : gn (cPrep S a sa un) b = c := nW' (nI' (nI' (nI' (nI' h))))
theorem rP {S : gS} {a sa un b j : Nat} {r : Option Nat} (hne : b ≠ sa) (h : gR S b j = r) : gR (cPrep S a sa un) b j = r := rW hne (rI (rI (rI (rI h))))
theorem gI_P {S : gS} {a sa un b j : Nat} (h : b ≠ a) : gI (cPrep S a sa un) b j = gI S b j := by
  unfold cPrep
  rw [gI_sRow, gI_a h, gI_a h, gI_a h, gI_a h]
theorem gI_P0 {S : gS} {a sa un : Nat} : gI (cPrep S a sa un) a 0 = gI S a 0 := by
  unfold cPrep
  rw [gI_sRow, gI_k (by decide), gI_k (by decide), gI_k (by decide), gI_k (by decide)]
theorem gI_P6 {S : gS} {a sa un : Nat} : gI (cPrep S a sa un) a 6 = 8 * cRound S a + gI S a 0 := by
  unfold cPrep
  rw [gI_sRow, gI_k (by decide), gI_k (by decide), gI_s]
set_option maxRecDepth 100000 in
set_option maxHeartbeats 4000000 in
theorem c_X6_attempt (l : Launch) (N0 : Nat) (D : va_G) (cy : Nat → ClassId) (S : gS) (sz : Nat) (x a po pl L : Nat) (lt : Nat → Nat) (hxk : gK S x = 7) (ha : gK S a = 2) (hpo : gR S x 3 = some po) (hpok : gK S po = 5) (hpl : gR S po 0 = some pl) (hplk : gK S pl = 13) (hpln : gn S pl = 91) (hL : gI S po 1 = nI L) (hL2 : L + 5 ≤ 90) (hlt : ∀ k, k < 91 → gR S pl k = some (lt k)) (hltk : ∀ k, gK S (lt k) = 3) (sa un : Nat) (hsa : gR S a 8 = some sa) (hun : gR S a 1 = some un) (hsak : gK S sa = 15) (hsan : gn S sa = 8) (hunk : gK S un = 6) : gM l yX6_attempt cX6_attempt 3 (none : Option FieldType) { frames := 2, cells := 0, slots := 0, locals := 70 } N0 D cy [.ref x, .ref a] S sz (fun v S1 z => v = none ∧ S1 = cPL (cPrep S a sa un) po lt L (gI S a 0) (8 * cRound S a + gI S a 0) 5 ∧ z = sz) := by
  refine g_body (by decide) rfl (Nat.le_of_ble_eq_true rfl) ?_
  intro p e s m args below meth c ls hC hU hr hlk hnm hsz hP hS hl
  have hx := hC.1
  have hb := hC.2.1
  have hap : po ≠ a := fun h => by rw [h] at hpok; omega
  have hxs : x ≠ sa := fun h => by rw [h] at hxk; omega
  have hps : po ≠ sa := fun h => by rw [h] at hpok; omega
  have hls : pl ≠ sa := fun h => by rw [h] at hplk; omega

  refine lv_aload_n hx hb dX6_attempt_0 rfl (lv_at hl 1 rfl) ?_
  refine g_callV (As := []) (rest := []) hC hU hP hS hl.1 (c_X1_prepare l N0 D cy _ _ a sa un ha hsa hun hsak hsan hunk) mL_X6_200 iM_X1_prepare sL_X1_prepare iN_X1 cD_X1_prepare ⟨by decide, by decide, rfl⟩ ⟨by decide, by decide⟩ ⟨by decide, by decide⟩ (ci := 1) rfl (by decide) (ha) rfl (Nat.le_of_ble_eq_true rfl) dX6_attempt_1 (fun v S1 H locs hw hP hz hS => ?_)
  obtain ⟨rfl, hS1, hz2⟩ := hw
  replace hS1 := hS1.symm
  subst hS1
  replace hsz := hz2.trans hsz
  refine lv_iconst (v := 0) hx hb dX6_attempt_4 (by decide) ?_
  refine lv_istore_n (lv' := [(2, .int _), (0, .ref _), (1, .ref _)]) hx hb dX6_attempt_5 rfl hl (by decide) rfl (fun ls hl => ?_)
  refine lp_X6_attempt (S := cPrep S a sa un) (sz := sz) (L := L) (is := gI S a 0) (bl := 8 * cRound S a + gI S a 0) hC hU (kP hxk) (kP ha) (rP hxs hpo) (kP hpok) (rP hps hpl) (kP hplk) (nP' hpln) ((gI_P hap).trans hL) hL2 (fun k hk => rP hls (hlt k hk)) (fun k => kP (hltk k)) gI_P0 gI_P6 ⟨by decide, by decide⟩ ⟨by decide, by decide⟩ (fun H locs ls hP hsz hS hl => ?_) 5 0 _ _ _ rfl hP hsz hS (lv_sub hl [0, 1, 2] rfl)
  exact g_vret hC hP hS hr hlk (by decide) (by decide) (⟨rfl, rfl, hsz⟩) dX6_attempt_35
