theorem gI_s {S : gS} {a k : Nat} {v : Int32} : gI (sI S a k v) a k = v := by show up2 (gI S) a k v a k = v; exact up2_s
theorem gI_k {S : gS} {a k b j : Nat} {v : Int32} (h : j ≠ k) : gI (sI S a k v) b j = gI S b j := by show up2 (gI S) a k v b j = gI S b j; exact up2_k h
theorem gI_a {S : gS} {a k b j : Nat} {v : Int32} (h : b ≠ a) : gI (sI S a k v) b j = gI S b j := by show up2 (gI S) a k v b j = gI S b j; exact up2_a h
theorem gJ_s {S : gS} {a k : Nat} {v : Int64} : gJ (sJ S a k v) a k = v := by show up2 (gJ S) a k v a k = v; exact up2_s
theorem gJ_k {S : gS} {a k b j : Nat} {v : Int64} (h : j ≠ k) : gJ (sJ S a k v) b j = gJ S b j := by show up2 (gJ S) a k v b j = gJ S b j; exact up2_k h
theorem gJ_a {S : gS} {a k b j : Nat} {v : Int64} (h : b ≠ a) : gJ (sJ S a k v) b j = gJ S b j := by show up2 (gJ S) a k v b j = gJ S b j; exact up2_a h
theorem sRow_congr {S : gS} {a n : Nat} {f g : Nat → Option Nat} (h : ∀ j, j < n → f j = g j) : sRow S a n f = sRow S a n g := by
  unfold sRow
  congr 4
  funext b j
  by_cases hb : b = a
  · by_cases hj : j < n
    · simp [hb, hj, h j hj]
    · simp [hb, hj]
  · simp [hb]
set_option maxRecDepth 100000 in
set_option maxHeartbeats 4000000 in
theorem lp_X1_prepare {p : Program} {l : Launch} {e : Env} {R : Room} {s : State} {m : MethodId} {args : Array Value} {below : List Frame} {meth : Method} {c : Code} {cells slots : Nat} {Q : State → Prop} {N0 : Nat} {D : va_G} {cy : Nat → ClassId} {S : gS} {sz : Nat} (hC : gC N0 D cy p s m args c cX1_prepare 2 RX1) {a sa un : Nat} (ha : gK S a = 2) (hsa : gR S a 8 = some sa) (hun : gR S a 1 = some un) (hsak : gK S sa = 15) (hsan : gn S sa = 8) (hunk : gK S un = 6)
    (hexit : ∀ (H : Heap) (locs : List Loc) (ls : Array Slot), gP N0 D cy (sRow S sa 8 (fun _ => some un)) H → H.size = sz → va_S (fun q => N0 ≤ q) s.heap H locs → lv_has ls 2 [(1, .int (nI 8)), (0, .ref (a))] → W p l e R s m args below meth c H locs cells slots Q (F0 m 67 ls [])) :
    ∀ (n i : Nat) (H : Heap) (locs : List Loc) (ls : Array Slot), i + n = 8 → gP N0 D cy (sRow S sa i (fun _ => some un)) H → H.size = sz → va_S (fun q => N0 ≤ q) s.heap H locs → lv_has ls 2 [(1, .int (nI i)), (0, .ref (a))] → W p l e R s m args below meth c H locs cells slots Q (F0 m 45 ls []) := by
  have hx := hC.1
  have hb := hC.2.1
  intro n
  induction n with
  | zero =>
    intro i H locs ls hi hP hsz hS hl
    have hi8 : i = 8 := by omega
    subst hi8
    have har : a ≠ sa := fun h => by rw [h] at ha; omega
    refine lv_iload_n hx hb dX1_prepare_45 rfl (lv_at hl 0 rfl) ?_
    refine lv_bipush (v := 8) hx hb dX1_prepare_46 (by decide) ?_
    refine lv_icmp_ge (tgt := 67) hx hb dX1_prepare_48 (by decide) (fun c_48 => ?_) (fun c_48 => ?_)
    · exact hexit _ _ _ hP hsz hS (lv_sub hl [0, 1] rfl)
    · exact absurd (by decide) c_48
  | succ n ih =>
    intro i H locs ls hi hP hsz hS hl
    have hi8 : i < 8 := by omega
    have har : a ≠ sa := fun h => by rw [h] at ha; omega
    have hcl : (nI i).toNatClampNeg = i := nI_clamp (by omega)
    refine lv_iload_n hx hb dX1_prepare_45 rfl (lv_at hl 0 rfl) ?_
    refine lv_bipush (v := 8) hx hb dX1_prepare_46 (by decide) ?_
    refine lv_icmp_ge (tgt := 67) hx hb dX1_prepare_48 (by decide) (fun c_48 => ?_) (fun c_48 => ?_)
    · exact absurd c_48 (nI_ge (a := i) (b := 8) (by omega) (by decide))
    · refine lv_aload_n hx hb dX1_prepare_51 rfl (lv_at hl 1 rfl) ?_
      refine gt_X1_17 hC hP (kW (ha)) (rW (by first | assumption | exact Ne.symm (by assumption)) (hsa)) dX1_prepare_52 ?_
      refine lv_iload_n hx hb dX1_prepare_55 rfl (lv_at hl 0 rfl) ?_
      refine lv_aload_n hx hb dX1_prepare_56 rfl (lv_at hl 1 rfl) ?_
      refine gt_X1_30 hC hP (kW (ha)) (rW (by first | assumption | exact Ne.symm (by assumption)) (hun)) dX1_prepare_57 ?_
      refine g_aast hC hP hS (kd := 15) (ci := 5) (t0 := 6) (by decide) rfl rfl (by decide) (kW (hsak)) (kW (hunk)) (by show vp_in (nI i) (gn S sa); rw [hsan]; exact vp_in_nI hi8 (by decide)) dX1_prepare_60 (fun H locs hP hz hS => ?_)
      replace hsz := hz.trans hsz
      refine lv_iinc (v := _ + 1) (lv' := [(1, .int _), (0, .ref _)]) hx hb dX1_prepare_61 hl (k := 0) rfl rfl (by decide) rfl (fun ls hl => ?_)
      refine lv_goto (tgt := 45) hx hb dX1_prepare_64 (by decide) ?_
      exact ih (i + 1) _ _ _ (by omega) (by rw [hcl] at hP; exact (sRow_s S sa i (fun _ => some un)) ▸ hP) hsz hS (by rw [nI_succ]; exact lv_sub hl [0, 1] rfl)

def cRound (S : gS) (a : Nat) : Int32 := if gI S a 4 + 1 < gI S a 5 then gI S a 5 else gI S a 4 + 1
def cPrep (S : gS) (a sa un : Nat) : gS := sRow (sI (sI (sI (sI S a 4 (cRound S a)) a 6 (8 * cRound S a + gI S a 0)) a 3 1) a 7 0) sa 8 (fun _ => some un)
set_option maxRecDepth 100000 in
set_option maxHeartbeats 4000000 in
theorem c_X1_prepare (l : Launch) (N0 : Nat) (D : va_G) (cy : Nat → ClassId) (S : gS) (sz : Nat) (a sa un : Nat) (ha : gK S a = 2) (hsa : gR S a 8 = some sa) (hun : gR S a 1 = some un) (hsak : gK S sa = 15) (hsan : gn S sa = 8) (hunk : gK S un = 6) : gM l yX1_prepare cX1_prepare 2 (none : Option FieldType) { frames := 1, cells := 0, slots := 0, locals := 20 } N0 D cy [.ref a] S sz (fun v S1 z => v = none ∧ S1 = cPrep S a sa un ∧ z = sz) := by
  refine g_body (by decide) rfl (Nat.le_of_ble_eq_true rfl) ?_
  intro p e s m args below meth c ls hC hU hr hlk hnm hsz hP hS hl
  have hx := hC.1
  have hb := hC.2.1
  refine lv_aload_n hx hb dX1_prepare_0 rfl (lv_at hl 0 rfl) ?_
  refine lv_aload_n hx hb dX1_prepare_1 rfl (lv_at hl 0 rfl) ?_
  refine gt_X1_38 hC hP (ha) dX1_prepare_2 ?_
  refine lv_iconst (v := 1) hx hb dX1_prepare_5 (by decide) ?_
  refine lv_iadd hx hb dX1_prepare_6 ?_
  refine lv_aload_n hx hb dX1_prepare_7 rfl (lv_at hl 0 rfl) ?_
  refine gt_X1_41 hC hP (ha) dX1_prepare_8 ?_
  refine g_max hC hl.1 mL_X1_44 (by decide) (Nat.le_of_ble_eq_true rfl) (by decide) (by decide) dX1_prepare_11 ?_
  refine pt_X1_38 hC hP hS (ha) dX1_prepare_14 (fun H locs hP hz hS => ?_)
  replace hsz := hz.trans hsz
  refine lv_aload_n hx hb dX1_prepare_17 rfl (lv_at hl 0 rfl) ?_
  refine lv_bipush (v := 8) hx hb dX1_prepare_18 (by decide) ?_
  refine lv_aload_n hx hb dX1_prepare_20 rfl (lv_at hl 0 rfl) ?_
  refine gt_X1_38 hC hP (kI (ha)) dX1_prepare_21 ?_
  refine lv_imul hx hb dX1_prepare_24 ?_
  refine lv_aload_n hx hb dX1_prepare_25 rfl (lv_at hl 0 rfl) ?_
  refine gt_X1_27 hC hP (kI (ha)) dX1_prepare_26 ?_
  refine lv_iadd hx hb dX1_prepare_29 ?_
  refine pt_X1_50 hC hP hS (kI (ha)) dX1_prepare_30 (fun H locs hP hz hS => ?_)
  replace hsz := hz.trans hsz
  rw [gI_s, gI_k (by decide)] at hP
  refine lv_aload_n hx hb dX1_prepare_33 rfl (lv_at hl 0 rfl) ?_
  refine lv_iconst (v := 1) hx hb dX1_prepare_34 (by decide) ?_
  refine pt_X1_9 hC hP hS (kI (kI (ha))) dX1_prepare_35 (fun H locs hP hz hS => ?_)
  replace hsz := hz.trans hsz
  refine lv_aload_n hx hb dX1_prepare_38 rfl (lv_at hl 0 rfl) ?_
  refine lv_iconst (v := 0) hx hb dX1_prepare_39 (by decide) ?_
  refine pt_X1_53 hC hP hS (kI (kI (kI (ha)))) dX1_prepare_40 (fun H locs hP hz hS => ?_)
  replace hsz := hz.trans hsz
  refine lv_iconst (v := 0) hx hb dX1_prepare_43 (by decide) ?_
  refine lv_istore_n (lv' := [(1, .int _), (0, .ref _)]) hx hb dX1_prepare_44 rfl hl (by decide) rfl (fun ls hl => ?_)
  refine lp_X1_prepare (sz := sz) hC (kI (kI (kI (kI ha)))) (rI (rI (rI (rI hsa)))) (rI (rI (rI (rI hun)))) (kI (kI (kI (kI hsak)))) (nI' (nI' (nI' (nI' hsan)))) (kI (kI (kI (kI hunk)))) (fun H locs ls hP hsz hS hl => ?_) 8 0 _ _ _ rfl (by rw [sRow_0]; exact hP) hsz hS hl
  exact g_vret hC hP hS hr hlk (by decide) (by decide) (⟨rfl, rfl, hsz⟩) dX1_prepare_67
def nwr (S : gS) (x y : Nat) : Nat := if gI S x 0 < gI S y 0 then y else x
set_option maxRecDepth 100000 in
set_option maxHeartbeats 4000000 in
theorem lp_X1_countPromise {p : Program} {l : Launch} {e : Env} {R : Room} {s : State} {m : MethodId} {args : Array Value} {below : List Frame} {meth : Method} {c : Code} {cells slots : Nat} {Q : State → Prop} {N0 : Nat} {D : va_G} {cy : Nat → ClassId} {S : gS} {sz : Nat} (hC : gC N0 D cy p s m args c cX1_countPromise 3 RX1) (hU : gU D cy s) {a sa lt rl : Nat} {f g : Nat → Nat} (ha : gK S a = 2) (hm : gK S lt = 3) (hsa : gR S a 8 = some sa) (hsak : gK S sa = 15) (hsan : gn S sa = 8) (hrl : gR S lt 7 = some rl) (hrlk : gK S rl = 15) (hrln : gn S rl = 8) (hf : ∀ j, j < 8 → gR S sa j = some (f j) ∧ gK S (f j) = 6) (hg : ∀ j, j < 8 → gR S rl j = some (g j) ∧ gK S (g j) = 6) (hsr : rl ≠ sa) (hR : 1 ≤ R.frames ∧ 40 ≤ R.locals) (hc0 : cells ≤ R.cells ∧ slots ≤ R.slots)
    (hexit : ∀ (H : Heap) (locs : List Loc) (ls : Array Slot), gP N0 D cy (sRow S sa 8 (fun j => some (nwr S (f j) (g j)))) H → H.size = sz → va_S (fun q => N0 ≤ q) s.heap H locs → lv_has ls 3 [(2, .int (nI 8)), (0, .ref (a)), (1, .ref (lt))] → W p l e R s m args below meth c H locs cells slots Q (F0 m 50 ls [])) :
    ∀ (n i : Nat) (H : Heap) (locs : List Loc) (ls : Array Slot), i + n = 8 → gP N0 D cy (sRow S sa i (fun j => some (nwr S (f j) (g j)))) H → H.size = sz → va_S (fun q => N0 ≤ q) s.heap H locs → lv_has ls 3 [(2, .int (nI i)), (0, .ref (a)), (1, .ref (lt))] → W p l e R s m args below meth c H locs cells slots Q (F0 m 17 ls []) := by
  have hx := hC.1
  have hb := hC.2.1
  intro n
  induction n with
  | zero =>
    intro i H locs ls hi hP hsz hS hl
    have hi8 : i = 8 := by omega
    subst hi8
    have har : a ≠ sa := fun h => by rw [h] at ha; omega
    have hlr : lt ≠ sa := fun h => by rw [h] at hm; omega
    refine lv_iload_n hx hb dX1_countPromise_17 rfl (lv_at hl 0 rfl) ?_
    refine lv_bipush (v := 8) hx hb dX1_countPromise_18 (by decide) ?_
    refine lv_icmp_ge (tgt := 50) hx hb dX1_countPromise_20 (by decide) (fun c_20 => ?_) (fun c_20 => ?_)
    · exact hexit _ _ _ hP hsz hS (lv_sub hl [0, 1, 2] rfl)
    · exact absurd (by decide) c_20
  | succ n ih =>
    intro i H locs ls hi hP hsz hS hl
    have hi8 : i < 8 := by omega
    have har : a ≠ sa := fun h => by rw [h] at ha; omega
    have hlr : lt ≠ sa := fun h => by rw [h] at hm; omega
    have hcl : (nI i).toNatClampNeg = i := nI_clamp (by omega)
    have hzk : gK (sRow S sa i (fun j => some (nwr S (f j) (g j)))) (nwr S (f i) (g i)) = 6 := by
      unfold nwr
      split
      · exact kW (hg i hi8).2
      · exact kW (hf i hi8).2
    refine lv_iload_n hx hb dX1_countPromise_17 rfl (lv_at hl 0 rfl) ?_
    refine lv_bipush (v := 8) hx hb dX1_countPromise_18 (by decide) ?_
    refine lv_icmp_ge (tgt := 50) hx hb dX1_countPromise_20 (by decide) (fun c_20 => ?_) (fun c_20 => ?_)
    · exact absurd c_20 (nI_ge (a := i) (b := 8) (by omega) (by decide))
    · refine lv_aload_n hx hb dX1_countPromise_23 rfl (lv_at hl 1 rfl) ?_
      refine gt_X1_17 hC hP (kW (ha)) (rW (by first | assumption | exact Ne.symm (by assumption)) (hsa)) dX1_countPromise_24 ?_
      refine lv_iload_n hx hb dX1_countPromise_27 rfl (lv_at hl 0 rfl) ?_
      refine lv_aload_n hx hb dX1_countPromise_28 rfl (lv_at hl 1 rfl) ?_
      refine gt_X1_17 hC hP (kW (ha)) (rW (by first | assumption | exact Ne.symm (by assumption)) (hsa)) dX1_countPromise_29 ?_
      refine lv_iload_n hx hb dX1_countPromise_32 rfl (lv_at hl 0 rfl) ?_
      refine g_aald hC hP (j := 3) (by decide) (kW (hsak)) (by show vp_in (nI i) (gn S sa); rw [hsan]; exact vp_in_nI hi8 (by decide)) dX1_countPromise_33 ?_
      refine g_rf (by rw [hcl, sRow_ge (Nat.le_refl i)]; exact (hf i hi8).1) ?_
      refine lv_aload_n hx hb dX1_countPromise_34 rfl (lv_at hl 2 rfl) ?_
      refine gt_X1_105 hC hP (kW (hm)) (rW (by first | assumption | exact Ne.symm (by assumption)) (hrl)) dX1_countPromise_35 ?_
      refine lv_iload_n hx hb dX1_countPromise_38 rfl (lv_at hl 0 rfl) ?_
      refine g_aald hC hP (j := 3) (by decide) (kW (hrlk)) (by show vp_in (nI i) (gn S rl); rw [hrln]; exact vp_in_nI hi8 (by decide)) dX1_countPromise_39 ?_
      refine g_rf (by rw [hcl]; exact rW hsr (hg i hi8).1) ?_
      refine g_callV (As := [.ref _]) (rest := [.int _, .ref _]) hC hU hP hS hl.1 (c_X5_orNewer l N0 D cy _ _ (f i) (g i) (kW (hf i hi8).2) (kW (hg i hi8).2)) mL_X1_108 iM_X5_orNewer sL_X5_orNewer iN_X5 cD_X5_orNewer ⟨by decide, by decide, rfl⟩ ⟨Nat.le_trans (by decide) hR.1, Nat.le_trans (by decide) hR.2⟩ ⟨hc0.1, hc0.2⟩ (ci := 5) rfl (by decide) (kW ((hf i hi8).2)) rfl (Nat.le_of_ble_eq_true rfl) dX1_countPromise_40 (fun v S1 H locs hw hP hz hS => ?_)
      obtain ⟨hv1, hS1, hz2⟩ := hw
      replace hS1 := hS1.symm
      subst hS1
      replace hv1 : v = some (.ref (nwr S (f i) (g i))) := hv1
      subst hv1
      replace hsz := hz2.trans hsz
      refine g_aast hC hP hS (kd := 15) (ci := 5) (t0 := 6) (by decide) rfl rfl (by decide) (kW (hsak)) (hzk) (by show vp_in (nI i) (gn S sa); rw [hsan]; exact vp_in_nI hi8 (by decide)) dX1_countPromise_43 (fun H locs hP hz hS => ?_)
      replace hsz := hz.trans hsz
      refine lv_iinc (v := _ + 1) (lv' := [(2, .int _), (0, .ref _), (1, .ref _)]) hx hb dX1_countPromise_44 hl (k := 0) rfl rfl (by decide) rfl (fun ls hl => ?_)
      refine lv_goto (tgt := 17) hx hb dX1_countPromise_47 (by decide) ?_
      exact ih (i + 1) _ _ _ (by omega) (by rw [hcl] at hP; exact (sRow_s S sa i (fun j => some (nwr S (f j) (g j)))) ▸ hP) hsz hS (by rw [nI_succ]; exact lv_sub hl [0, 1, 2] rfl)

def cCntP (S : gS) (a sa lt : Nat) (f g : Nat → Nat) : gS := sRow (sI S a 7 (gI S a 7 ||| (1 <<< (gI S lt 2 &&& 31)))) sa 8 (fun j => some (nwr S (f j) (g j)))
theorem nwr_sI {S : gS} {a k x y : Nat} {v : Int32} (hx : x ≠ a) (hy : y ≠ a) : nwr (sI S a k v) x y = nwr S x y := by
  unfold nwr
  simp only [gI_sI, hx, hy, if_false, ite_self]
set_option maxRecDepth 100000 in
set_option maxHeartbeats 4000000 in
theorem c_X1_countPromise (l : Launch) (N0 : Nat) (D : va_G) (cy : Nat → ClassId) (S : gS) (sz : Nat) (a sa lt rl : Nat) (f g : Nat → Nat) (ha : gK S a = 2) (hm : gK S lt = 3) (hsa : gR S a 8 = some sa) (hsak : gK S sa = 15) (hsan : gn S sa = 8) (hrl : gR S lt 7 = some rl) (hrlk : gK S rl = 15) (hrln : gn S rl = 8) (hf : ∀ j, j < 8 → gR S sa j = some (f j) ∧ gK S (f j) = 6) (hg : ∀ j, j < 8 → gR S rl j = some (g j) ∧ gK S (g j) = 6) (hsr : rl ≠ sa) : gM l yX1_countPromise cX1_countPromise 3 (none : Option FieldType) { frames := 1, cells := 0, slots := 0, locals := 40 } N0 D cy [.ref a, .ref lt] S sz (fun v S1 z => v = none ∧ S1 = cCntP S a sa lt f g ∧ z = sz) := by
  refine g_body (by decide) rfl (Nat.le_of_ble_eq_true rfl) ?_
  intro p e s m args below meth c ls hC hU hr hlk hnm hsz hP hS hl
  have hx := hC.1
  have hb := hC.2.1
  refine lv_aload_n hx hb dX1_countPromise_0 rfl (lv_at hl 0 rfl) ?_
  refine lv_dup hx hb dX1_countPromise_1 rfl ?_
  refine gt_X1_53 hC hP (ha) dX1_countPromise_2 ?_
  refine lv_iconst (v := 1) hx hb dX1_countPromise_5 (by decide) ?_
  refine lv_aload_n hx hb dX1_countPromise_6 rfl (lv_at hl 1 rfl) ?_
  refine gt_X1_96 hC hP (hm) dX1_countPromise_7 ?_
  refine lv_ishl hx hb dX1_countPromise_10 ?_
  refine lv_ior hx hb dX1_countPromise_11 ?_
  refine pt_X1_53 hC hP hS (ha) dX1_countPromise_12 (fun H locs hP hz hS => ?_)
  replace hsz := hz.trans hsz
  refine lv_iconst (v := 0) hx hb dX1_countPromise_15 (by decide) ?_
  refine lv_istore_n (lv' := [(2, .int _), (0, .ref _), (1, .ref _)]) hx hb dX1_countPromise_16 rfl hl (by decide) rfl (fun ls hl => ?_)
  refine lp_X1_countPromise (sz := sz) (f := f) (g := g) hC hU (kI ha) (kI hm) (rI hsa) (kI hsak) (nI' hsan) (rI hrl) (kI hrlk) (nI' hrln) (fun j hj => ⟨rI (hf j hj).1, kI (hf j hj).2⟩) (fun j hj => ⟨rI (hg j hj).1, kI (hg j hj).2⟩) hsr ⟨by decide, by decide⟩ ⟨by decide, by decide⟩ (fun H locs ls hP hsz hS hl => ?_) 8 0 _ _ _ rfl (by rw [sRow_0]; exact hP) hsz hS hl
  exact g_vret hC hP hS hr hlk (by decide) (by decide) (⟨rfl, sRow_congr (fun j hj => by rw [nwr_sI (fun h => by have := (hf j hj).2; rw [h] at this; omega) (fun h => by have := (hg j hj).2; rw [h] at this; omega)]), hsz⟩) dX1_countPromise_50
set_option maxRecDepth 100000 in
set_option maxHeartbeats 4000000 in
theorem c_X1_countYes (l : Launch) (N0 : Nat) (D : va_G) (cy : Nat → ClassId) (S : gS) (sz : Nat) (a lt w0 : Nat) (ha : gK S a = 2) (hm : gK S lt = 3) (hw0 : gR S a 9 = some w0) : gM l yX1_countYes cX1_countYes 2 (none : Option FieldType) { frames := 2, cells := 0, slots := 0, locals := 60 } N0 D cy [.ref a, .ref lt] S sz (fun v S1 z => v = none ∧ z = sz ∧ ((cMaj S a lt ∧ S1 = sI (sJ (sR (sI S a 3 0) a 11 (some w0)) a 12 (-1)) a 13 0) ∨ (¬ cMaj S a lt ∧ S1 = sI S a 7 (gI S a 7 ||| (1 <<< (gI S lt 2 &&& 31)))))) := by
  refine g_body (by decide) rfl (Nat.le_of_ble_eq_true rfl) ?_
  intro p e s m args below meth c ls hC hU hr hlk hnm hsz hP hS hl
  have hx := hC.1
  have hb := hC.2.1
  refine lv_aload_n hx hb dX1_countYes_0 rfl (lv_at hl 0 rfl) ?_
  refine lv_aload_n hx hb dX1_countYes_1 rfl (lv_at hl 1 rfl) ?_
  refine g_callV (As := [.ref _]) (rest := []) hC hU hP hS hl.1 (c_X1_isMajorityWith l N0 D cy _ _ _ _ ha hm) mL_X1_78 iM_X1_isMajorityWith sL_X1_isMajorityWith iN_X1 cD_X1_isMajorityWith ⟨by decide, by decide, rfl⟩ ⟨by decide, by decide⟩ ⟨by decide, by decide⟩ (ci := 1) rfl (by decide) (ha) rfl (Nat.le_of_ble_eq_true rfl) dX1_countYes_2 (fun v S1 H locs hw hP hz hS => ?_)
  obtain ⟨rfl, hS1, hz2⟩ := hw
  replace hS1 := hS1.symm
  subst hS1
  replace hsz := hz2.trans hsz
  refine lv_if_eq (tgt := 22) hx hb dX1_countYes_5 (by decide) (fun c_5 => ?_) (fun c_5 => ?_)
  · refine lv_aload_n hx hb dX1_countYes_22 rfl (lv_at hl 0 rfl) ?_
    refine lv_dup hx hb dX1_countYes_23 rfl ?_
    refine gt_X1_53 hC hP (ha) dX1_countYes_24 ?_
    refine lv_iconst (v := 1) hx hb dX1_countYes_27 (by decide) ?_
    refine lv_aload_n hx hb dX1_countYes_28 rfl (lv_at hl 1 rfl) ?_
    refine gt_X1_96 hC hP (hm) dX1_countYes_29 ?_
    refine lv_ishl hx hb dX1_countYes_32 ?_
    refine lv_ior hx hb dX1_countYes_33 ?_
    refine pt_X1_53 hC hP hS (ha) dX1_countYes_34 (fun H locs hP hz hS => ?_)
    replace hsz := hz.trans hsz
    exact g_vret hC hP hS hr hlk (by decide) (by decide) (⟨rfl, hsz, Or.inr ⟨by simp_all [cMaj], rfl⟩⟩) dX1_countYes_37
  · refine lv_aload_n hx hb dX1_countYes_8 rfl (lv_at hl 0 rfl) ?_
    refine lv_iconst (v := 0) hx hb dX1_countYes_9 (by decide) ?_
    refine pt_X1_9 hC hP hS (ha) dX1_countYes_10 (fun H locs hP hz hS => ?_)
    replace hsz := hz.trans hsz
    refine lv_aload_n hx hb dX1_countYes_13 rfl (lv_at hl 0 rfl) ?_
    refine lv_aload_n hx hb dX1_countYes_14 rfl (lv_at hl 0 rfl) ?_
    refine gt_X1_56 hC hP (kI (ha)) (rI (hw0)) dX1_countYes_15 ?_
    refine g_callV (As := [.ref _]) (rest := []) hC hU hP hS hl.1 (c_X1_hold l N0 D cy _ _ _ (some w0) (kI ha)) mL_X1_62 iM_X1_hold sL_X1_hold iN_X1 cD_X1_hold ⟨by decide, by decide, rfl⟩ ⟨by decide, by decide⟩ ⟨by decide, by decide⟩ (ci := 1) rfl (by decide) (kI (ha)) rfl (Nat.le_of_ble_eq_true rfl) dX1_countYes_18 (fun v S1 H locs hw hP hz hS => ?_)
    obtain ⟨rfl, hS1, hz2⟩ := hw
    replace hS1 := hS1.symm
    subst hS1
    replace hsz := hz2.trans hsz
    exact g_vret hC hP hS hr hlk (by decide) (by decide) (⟨rfl, hsz, Or.inl ⟨by simp_all [cMaj], rfl⟩⟩) dX1_countYes_21

/-- the newer row of seat j, of the issuer's and the letter's -/
def nwS (S : gS) (f g : Nat → Nat) (j : Nat) : Nat := nwr S (f j) (g j)
/-- r is the lowest place below 8 where p holds, or -1 -/
def lowP (p : Nat → Prop) (r : Int32) : Prop := (∃ j, j < 8 ∧ r = nI j ∧ p j ∧ ∀ i, i < j → ¬ p i) ∨ (r = -1 ∧ ∀ i, i < 8 → ¬ p i)
set_option maxRecDepth 100000 in
set_option maxHeartbeats 4000000 in
theorem lp_X1_lowestSeatOf {p : Program} {l : Launch} {e : Env} {R : Room} {s : State} {m : MethodId} {args : Array Value} {below : List Frame} {meth : Method} {c : Code} {cells slots : Nat} {Q : State → Prop} {N0 : Nat} {D : va_G} {cy : Nat → ClassId} {S : gS} {sz : Nat} (hC : gC N0 D cy p s m args c cX1_lowestSeatOf 4 RX1) (hU : gU D cy s) {a sa lt rl : Nat} {f g : Nat → Nat} (ha : gK S a = 2) (hm : gK S lt = 3) (hsa : gR S a 8 = some sa) (hsak : gK S sa = 15) (hsan : gn S sa = 8) (hrl : gR S lt 7 = some rl) (hrlk : gK S rl = 15) (hrln : gn S rl = 8) (hf : ∀ j, j < 8 → gR S sa j = some (f j) ∧ gK S (f j) = 6) (hg : ∀ j, j < 8 → gR S rl j = some (g j) ∧ gK S (g j) = 6) {h : Int32} (hR : 1 ≤ R.frames ∧ 40 ≤ R.locals) (hc0 : cells ≤ R.cells ∧ slots ≤ R.slots) (hfound : ∀ (i : Nat) (H : Heap) (locs : List Loc) (ls : Array Slot), i < 8 → gI S (nwS S f g i) 1 = h → (∀ j, j < i → ¬ gI S (nwS S f g j) 1 = h) → gP N0 D cy S H → H.size = sz → va_S (fun q => N0 ≤ q) s.heap H locs → lv_has ls 4 [(3, .int (nI i)), (0, .ref a), (1, .int h), (2, .ref lt)] → W p l e R s m args below meth c H locs cells slots Q (F0 m 30 ls [])) (hnone : (∀ j, j < 8 → ¬ gI S (nwS S f g j) 1 = h) → ∀ (H : Heap) (locs : List Loc) (ls : Array Slot), gP N0 D cy S H → H.size = sz → va_S (fun q => N0 ≤ q) s.heap H locs → W p l e R s m args below meth c H locs cells slots Q (F0 m 38 ls [])) :
    ∀ (n i : Nat) (H : Heap) (locs : List Loc) (ls : Array Slot), i + n = 8 → (∀ j, j < i → ¬ gI S (nwS S f g j) 1 = h) → gP N0 D cy (S) H → H.size = sz → va_S (fun q => N0 ≤ q) s.heap H locs → lv_has ls 4 [(3, .int (nI i)), (0, .ref (a)), (1, .int (h)), (2, .ref (lt))] → W p l e R s m args below meth c H locs cells slots Q (F0 m 2 ls []) := by
  have hx := hC.1
  have hb := hC.2.1
  intro n
  induction n with
  | zero =>
    intro i H locs ls hi hh hP hsz hS hl
    have hi8 : i = 8 := by omega
    subst hi8
    refine lv_iload_n hx hb dX1_lowestSeatOf_2 rfl (lv_at hl 0 rfl) ?_
    refine lv_bipush (v := 8) hx hb dX1_lowestSeatOf_3 (by decide) ?_
    refine lv_icmp_ge (tgt := 38) hx hb dX1_lowestSeatOf_5 (by decide) (fun c_5 => ?_) (fun c_5 => ?_)
    · exact hnone hh _ _ _ hP hsz hS
    · exact absurd (by decide) c_5
  | succ n ih =>
    intro i H locs ls hi hh hP hsz hS hl
    have hi8 : i < 8 := by omega
    have hcl : (nI i).toNatClampNeg = i := nI_clamp (by omega)
    have hzk : gK S (nwS S f g i) = 6 := by
      unfold nwS nwr
      split
      · exact (hg i hi8).2
      · exact (hf i hi8).2
    refine lv_iload_n hx hb dX1_lowestSeatOf_2 rfl (lv_at hl 0 rfl) ?_
    refine lv_bipush (v := 8) hx hb dX1_lowestSeatOf_3 (by decide) ?_
    refine lv_icmp_ge (tgt := 38) hx hb dX1_lowestSeatOf_5 (by decide) (fun c_5 => ?_) (fun c_5 => ?_)
    · exact absurd c_5 (nI_ge (a := i) (b := 8) (by omega) (by decide))
    · refine lv_aload_n hx hb dX1_lowestSeatOf_8 rfl (lv_at hl 1 rfl) ?_
      refine gt_X1_17 hC hP (ha) (hsa) dX1_lowestSeatOf_9 ?_
      refine lv_iload_n hx hb dX1_lowestSeatOf_12 rfl (lv_at hl 0 rfl) ?_
      refine g_aald hC hP (j := 3) (by decide) (hsak) (by show vp_in (nI i) (gn S sa); rw [hsan]; exact vp_in_nI hi8 (by decide)) dX1_lowestSeatOf_13 ?_
      refine g_rf (by rw [hcl]; exact (hf i hi8).1) ?_
      refine lv_aload_n hx hb dX1_lowestSeatOf_14 rfl (lv_at hl 3 rfl) ?_
      refine gt_X1_105 hC hP (hm) (hrl) dX1_lowestSeatOf_15 ?_
      refine lv_iload_n hx hb dX1_lowestSeatOf_18 rfl (lv_at hl 0 rfl) ?_
      refine g_aald hC hP (j := 3) (by decide) (hrlk) (by show vp_in (nI i) (gn S rl); rw [hrln]; exact vp_in_nI hi8 (by decide)) dX1_lowestSeatOf_19 ?_
      refine g_rf (by rw [hcl]; exact (hg i hi8).1) ?_
      refine g_callV (As := [.ref _]) (rest := []) hC hU hP hS hl.1 (c_X5_orNewer l N0 D cy _ _ (f i) (g i) (hf i hi8).2 (hg i hi8).2) mL_X1_108 iM_X5_orNewer sL_X5_orNewer iN_X5 cD_X5_orNewer ⟨by decide, by decide, rfl⟩ ⟨Nat.le_trans (by decide) hR.1, Nat.le_trans (by decide) hR.2⟩ ⟨hc0.1, hc0.2⟩ (ci := 5) rfl (by decide) ((hf i hi8).2) rfl (Nat.le_of_ble_eq_true rfl) dX1_lowestSeatOf_20 (fun v S1 H locs hw hP hz hS => ?_)
      obtain ⟨hv1, hS1, hz2⟩ := hw
      replace hS1 := hS1.symm
      subst hS1
      replace hv1 : v = some (.ref (nwS S f g i)) := hv1
      subst hv1
      replace hsz := hz2.trans hsz
      refine gt_X1_150 hC hP (hzk) dX1_lowestSeatOf_23 ?_
      refine lv_iload_n hx hb dX1_lowestSeatOf_26 rfl (lv_at hl 2 rfl) ?_
      refine lv_icmp_ne (tgt := 32) hx hb dX1_lowestSeatOf_27 (by decide) (fun c_27 => ?_) (fun c_27 => ?_)
      · refine lv_iinc (v := _ + 1) (lv' := [(3, .int _), (0, .ref _), (1, .int _), (2, .ref _)]) hx hb dX1_lowestSeatOf_32 hl (k := 0) rfl rfl (by decide) rfl (fun ls hl => ?_)
        refine lv_goto (tgt := 2) hx hb dX1_lowestSeatOf_35 (by decide) ?_
        exact ih (i + 1) _ _ _ (by omega) (fun j hj => by rcases Nat.lt_succ_iff_lt_or_eq.mp hj with h9 | h9; exact hh j h9; rw [h9]; exact c_27) (by exact hP) hsz hS (by rw [nI_succ]; exact lv_sub hl [0, 1, 2, 3] rfl)
      · exact hfound i _ _ _ hi8 c_27 hh hP hsz hS hl

set_option maxRecDepth 100000 in
set_option maxHeartbeats 4000000 in
theorem c_X1_lowestSeatOf (l : Launch) (N0 : Nat) (D : va_G) (cy : Nat → ClassId) (S : gS) (sz : Nat) (a sa lt rl : Nat) (f g : Nat → Nat) (ha : gK S a = 2) (hm : gK S lt = 3) (hsa : gR S a 8 = some sa) (hsak : gK S sa = 15) (hsan : gn S sa = 8) (hrl : gR S lt 7 = some rl) (hrlk : gK S rl = 15) (hrln : gn S rl = 8) (hf : ∀ j, j < 8 → gR S sa j = some (f j) ∧ gK S (f j) = 6) (hg : ∀ j, j < 8 → gR S rl j = some (g j) ∧ gK S (g j) = 6) (h : Int32) : gM l yX1_lowestSeatOf cX1_lowestSeatOf 4 (some FieldType.int) { frames := 1, cells := 0, slots := 0, locals := 40 } N0 D cy [.ref a, .int h, .ref lt] S sz (fun v S1 z => (∃ r : Int32, v = some (.int r) ∧ lowP (fun j => gI S (nwS S f g j) 1 = h) r) ∧ S1 = S ∧ z = sz) := by
  refine g_body (by decide) rfl (Nat.le_of_ble_eq_true rfl) ?_
  intro p e s m args below meth c ls hC hU hr hlk hnm hsz hP hS hl
  have hx := hC.1
  have hb := hC.2.1
  refine lv_iconst (v := 0) hx hb dX1_lowestSeatOf_0 (by decide) ?_
  refine lv_istore_n (lv' := [(3, .int _), (0, .ref _), (1, .int _), (2, .ref _)]) hx hb dX1_lowestSeatOf_1 rfl hl (by decide) rfl (fun ls hl => ?_)
  refine lp_X1_lowestSeatOf (sz := sz) (f := f) (g := g) (h := h) hC hU ha hm hsa hsak hsan hrl hrlk hrln hf hg ⟨by decide, by decide⟩ ⟨by decide, by decide⟩ (fun i H locs ls hi hp hno hP hsz hS hl => ?_) (fun hno H locs ls hP hsz hS => ?_) 8 0 _ _ _ rfl (fun j hj => absurd hj (Nat.not_lt_zero j)) hP hsz hS hl
  · refine lv_iload_n hx hb dX1_lowestSeatOf_30 rfl (lv_at hl 0 rfl) ?_
    exact g_iret hC hP hS hr hlk (by decide) (by decide) (⟨⟨_, rfl, Or.inl ⟨i, hi, rfl, hp, hno⟩⟩, rfl, hsz⟩) dX1_lowestSeatOf_31
  · refine lv_iconst (v := (-1)) hx hb dX1_lowestSeatOf_38 (by decide) ?_
    exact g_iret hC hP hS hr hlk (by decide) (by decide) (⟨⟨_, rfl, Or.inr ⟨rfl, hno⟩⟩, rfl, hsz⟩) dX1_lowestSeatOf_39
def chS (S : gS) (f g : Nat → Nat) (self r : Int32) : Prop := ∃ o : Int32, lowP (fun j => gI S (nwS S f g j) 1 = self) o ∧ ((o ≠ -1 ∧ r = o) ∨ (o = -1 ∧ lowP (fun j => gI S (nwS S f g j) 1 = -1) r))
set_option maxRecDepth 100000 in
set_option maxHeartbeats 4000000 in
theorem c_X1_chooseSeat (l : Launch) (N0 : Nat) (D : va_G) (cy : Nat → ClassId) (S : gS) (sz : Nat) (a sa lt rl : Nat) (f g : Nat → Nat) (ha : gK S a = 2) (hm : gK S lt = 3) (hsa : gR S a 8 = some sa) (hsak : gK S sa = 15) (hsan : gn S sa = 8) (hrl : gR S lt 7 = some rl) (hrlk : gK S rl = 15) (hrln : gn S rl = 8) (hf : ∀ j, j < 8 → gR S sa j = some (f j) ∧ gK S (f j) = 6) (hg : ∀ j, j < 8 → gR S rl j = some (g j) ∧ gK S (g j) = 6)  : gM l yX1_chooseSeat cX1_chooseSeat 3 (some FieldType.int) { frames := 2, cells := 0, slots := 0, locals := 70 } N0 D cy [.ref a, .ref lt] S sz (fun v S1 z => (∃ r : Int32, v = some (.int r) ∧ chS S f g (gI S a 0) r) ∧ S1 = S ∧ z = sz) := by
  refine g_body (by decide) rfl (Nat.le_of_ble_eq_true rfl) ?_
  intro p e s m args below meth c ls hC hU hr hlk hnm hsz hP hS hl
  have hx := hC.1
  have hb := hC.2.1
  refine lv_aload_n hx hb dX1_chooseSeat_0 rfl (lv_at hl 0 rfl) ?_
  refine lv_aload_n hx hb dX1_chooseSeat_1 rfl (lv_at hl 0 rfl) ?_
  refine gt_X1_27 hC hP (ha) dX1_chooseSeat_2 ?_
  refine lv_aload_n hx hb dX1_chooseSeat_5 rfl (lv_at hl 1 rfl) ?_
  refine g_callV (As := [.int _, .ref _]) (rest := []) hC hU hP hS hl.1 (c_X1_lowestSeatOf l N0 D cy _ _ a sa lt rl f g ha hm hsa hsak hsan hrl hrlk hrln hf hg _) mL_X1_146 iM_X1_lowestSeatOf sL_X1_lowestSeatOf iN_X1 cD_X1_lowestSeatOf ⟨by decide, by decide, rfl⟩ ⟨by decide, by decide⟩ ⟨by decide, by decide⟩ (ci := 1) rfl (by decide) (ha) rfl (Nat.le_of_ble_eq_true rfl) dX1_chooseSeat_6 (fun v S1 H locs hw hP hz hS => ?_)
  obtain ⟨⟨r1, hv1, hlo1⟩, hS1, hz2⟩ := hw
  replace hS1 := hS1.symm
  subst hS1
  subst hv1
  replace hsz := hz2.trans hsz
  refine lv_istore_n (lv' := [(2, .int _), (0, .ref _), (1, .ref _)]) hx hb dX1_chooseSeat_9 rfl hl (by decide) rfl (fun ls hl => ?_)
  refine lv_iload_n hx hb dX1_chooseSeat_10 rfl (lv_at hl 0 rfl) ?_
  refine lv_iconst (v := (-1)) hx hb dX1_chooseSeat_11 (by decide) ?_
  refine lv_icmp_eq (tgt := 19) hx hb dX1_chooseSeat_12 (by decide) (fun c_12 => ?_) (fun c_12 => ?_)
  · refine lv_aload_n hx hb dX1_chooseSeat_19 rfl (lv_at hl 1 rfl) ?_
    refine lv_iconst (v := (-1)) hx hb dX1_chooseSeat_20 (by decide) ?_
    refine lv_aload_n hx hb dX1_chooseSeat_21 rfl (lv_at hl 2 rfl) ?_
    refine g_callV (As := [.int _, .ref _]) (rest := []) hC hU hP hS hl.1 (c_X1_lowestSeatOf l N0 D cy _ _ a sa lt rl f g ha hm hsa hsak hsan hrl hrlk hrln hf hg _) mL_X1_146 iM_X1_lowestSeatOf sL_X1_lowestSeatOf iN_X1 cD_X1_lowestSeatOf ⟨by decide, by decide, rfl⟩ ⟨by decide, by decide⟩ ⟨by decide, by decide⟩ (ci := 1) rfl (by decide) (ha) rfl (Nat.le_of_ble_eq_true rfl) dX1_chooseSeat_22 (fun v S1 H locs hw hP hz hS => ?_)
    obtain ⟨⟨r2, hv1, hlo2⟩, hS1, hz2⟩ := hw
    replace hS1 := hS1.symm
    subst hS1
    subst hv1
    replace hsz := hz2.trans hsz
    exact g_iret hC hP hS hr hlk (by decide) (by decide) (⟨⟨_, rfl, ⟨r1, hlo1, by first | exact Or.inl ⟨c_12, rfl⟩ | exact Or.inr ⟨c_12, hlo2⟩⟩⟩, rfl, hsz⟩) dX1_chooseSeat_25
  · refine lv_iload_n hx hb dX1_chooseSeat_15 rfl (lv_at hl 0 rfl) ?_
    refine lv_goto (tgt := 25) hx hb dX1_chooseSeat_16 (by decide) ?_
    exact g_iret hC hP hS hr hlk (by decide) (by decide) (⟨⟨_, rfl, ⟨r1, hlo1, by first | exact Or.inl ⟨c_12, rfl⟩ | exact Or.inr ⟨c_12, hlo2⟩⟩⟩, rfl, hsz⟩) dX1_chooseSeat_25

