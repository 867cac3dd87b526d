def tkf (f : Nat → Nat) (k j : Nat) : Nat := if j < k then f j else if j < 90 then f (j + 1) else f k
set_option maxRecDepth 100000 in
set_option maxHeartbeats 4000000 in
theorem lp_X4_take {p : Program} {l : Launch} {e : Env} {R : Room} {s : State} {m : MethodId} {args : Array Value} {below : List Frame} {meth : Method} {c : Code} {cells slots : Nat} {Q : State → Prop} {N0 : Nat} {D : va_G} {cy : Nat → ClassId} {S : gS} {sz : Nat} (hC : gC N0 D cy p s m args c cX4_take 4 RX4) {a pl kk : Nat} {f : Nat → Nat} (ha : gK S a = 5) (hp : gR S a 0 = some pl) (hk : gK S pl = 13) (hn : gn S pl = 91) (hf : ∀ j, j < 91 → gR S pl j = some (f j) ∧ gK S (f j) = 3) {q : Nat}
    (hexit : ∀ (H : Heap) (locs : List Loc) (ls : Array Slot), gP N0 D cy (sRow S pl 90 (fun j => some (tkf f kk j))) H → H.size = sz → va_S (fun q => N0 ≤ q) s.heap H locs → lv_has ls 4 [(3, .int (nI 90)), (2, .ref (q)), (0, .ref (a)), (1, .int (nI kk))] → W p l e R s m args below meth c H locs cells slots Q (F0 m 35 ls [])) :
    ∀ (n i : Nat) (H : Heap) (locs : List Loc) (ls : Array Slot), i + n = 90 → kk ≤ i → gP N0 D cy (sRow S pl i (fun j => some (tkf f kk j))) H → H.size = sz → va_S (fun q => N0 ≤ q) s.heap H locs → lv_has ls 4 [(3, .int (nI i)), (2, .ref (q)), (0, .ref (a)), (1, .int (nI kk))] → W p l e R s m args below meth c H locs cells slots Q (F0 m 9 ls []) := by
  have hx := hC.1
  have hb := hC.2.1
  intro n
  induction n with
  | zero =>
    intro i H locs ls hi hh hP hsz hS hl
    have hi8 : i = 90 := by omega
    subst hi8
    have hap : a ≠ pl := fun h => by rw [h] at ha; omega
    refine lv_iload_n hx hb dX4_take_9 rfl (lv_at hl 0 rfl) ?_
    refine lv_bipush (v := 90) hx hb dX4_take_10 (by decide) ?_
    refine lv_icmp_ge (tgt := 35) hx hb dX4_take_12 (by decide) (fun c_12 => ?_) (fun c_12 => ?_)
    · exact hexit _ _ _ hP hsz hS (lv_sub hl [0, 1, 2, 3] rfl)
    · exact absurd (by decide) c_12
  | succ n ih =>
    intro i H locs ls hi hh hP hsz hS hl
    have hi8 : i < 90 := by omega
    have hap : a ≠ pl := fun h => by rw [h] at ha; omega
    have hcl : (nI i).toNatClampNeg = i := nI_clamp (by omega)
    have hcl1 : (nI i + 1).toNatClampNeg = i + 1 := by rw [← nI_succ]; exact nI_clamp (by omega)
    refine lv_iload_n hx hb dX4_take_9 rfl (lv_at hl 0 rfl) ?_
    refine lv_bipush (v := 90) hx hb dX4_take_10 (by decide) ?_
    refine lv_icmp_ge (tgt := 35) hx hb dX4_take_12 (by decide) (fun c_12 => ?_) (fun c_12 => ?_)
    · exact absurd c_12 (nI_ge (a := i) (b := 90) (by omega) (by decide))
    · refine lv_aload_n hx hb dX4_take_15 rfl (lv_at hl 2 rfl) ?_
      refine gt_X4_11 hC hP (kW (ha)) (rW (by first | assumption | exact Ne.symm (by assumption)) (hp)) dX4_take_16 ?_
      refine lv_iload_n hx hb dX4_take_19 rfl (lv_at hl 0 rfl) ?_
      refine lv_aload_n hx hb dX4_take_20 rfl (lv_at hl 2 rfl) ?_
      refine gt_X4_11 hC hP (kW (ha)) (rW (by first | assumption | exact Ne.symm (by assumption)) (hp)) dX4_take_21 ?_
      refine lv_iload_n hx hb dX4_take_24 rfl (lv_at hl 0 rfl) ?_
      refine lv_iconst (v := 1) hx hb dX4_take_25 (by decide) ?_
      refine lv_iadd hx hb dX4_take_26 ?_
      refine g_aald hC hP (j := 1) (by decide) (kW (hk)) (by show vp_in (nI i + 1) (gn S pl); rw [hn, ← nI_succ]; exact vp_in_nI (by omega) (by decide)) dX4_take_27 ?_
      refine g_rf (by rw [hcl1, sRow_ge (by omega)]; exact (hf (i + 1) (by omega)).1) ?_
      refine g_aast hC hP hS (kd := 13) (ci := 2) (t0 := 4) (by decide) rfl rfl (by decide) (kW (hk)) (kW ((hf (i + 1) (by omega)).2)) (by show vp_in (nI i) (gn S pl); rw [hn]; exact vp_in_nI (by omega) (by decide)) dX4_take_28 (fun H locs hP hz hS => ?_)
      replace hsz := hz.trans hsz
      refine lv_iinc (v := _ + 1) (lv' := [(3, .int _), (2, .ref _), (0, .ref _), (1, .int _)]) hx hb dX4_take_29 hl (k := 0) rfl rfl (by decide) rfl (fun ls hl => ?_)
      refine lv_goto (tgt := 9) hx hb dX4_take_32 (by decide) ?_
      exact ih (i + 1) _ _ _ (by omega) (by omega) (by rw [hcl, show some (f (i + 1)) = (fun j => some (tkf f kk j)) i from by simp [tkf, hi8, Nat.not_lt.mpr hh]] at hP; exact (sRow_s S pl i (fun j => some (tkf f kk j))) ▸ hP) hsz hS (by rw [nI_succ]; exact lv_sub hl [0, 1, 2, 3] rfl)

set_option maxRecDepth 100000 in
set_option maxHeartbeats 4000000 in
theorem c_X4_take (l : Launch) (N0 : Nat) (D : va_G) (cy : Nat → ClassId) (S : gS) (sz : Nat) (a pl kk : Nat) (f : Nat → Nat) (ha : gK S a = 5) (hp : gR S a 0 = some pl) (hk : gK S pl = 13) (hn : gn S pl = 91) (hf : ∀ j, j < 91 → gR S pl j = some (f j) ∧ gK S (f j) = 3) (hkk : kk < 91) : gM l yX4_take cX4_take 4 (none : Option FieldType) { frames := 0, cells := 0, slots := 0, locals := 0 } N0 D cy [.ref a, .int (nI kk)] S sz (fun v S1 z => v = none ∧ S1 = sI (sRow S pl 91 (fun j => some (tkf f kk j))) a 1 (gI S a 1 - 1) ∧ z = sz) := by
  refine g_body (by decide) rfl (Nat.le_of_ble_eq_true rfl) ?_
  intro p e s m args below meth c ls hC hU hr hlk hnm hsz hP hS hl
  have hx := hC.1
  have hb := hC.2.1
  refine lv_aload_n hx hb dX4_take_0 rfl (lv_at hl 0 rfl) ?_
  refine gt_X4_11 hC hP (ha) (hp) dX4_take_1 ?_
  refine lv_iload_n hx hb dX4_take_4 rfl (lv_at hl 1 rfl) ?_
  refine g_aald hC hP (j := 1) (by decide) (hk) (by rw [hn]; exact vp_in_nI hkk (by decide)) dX4_take_5 ?_
  refine g_rf (by rw [nI_clamp (by omega)]; exact (hf kk hkk).1) ?_
  refine lv_astore_n (lv' := [(2, .ref _), (0, .ref _), (1, .int _)]) hx hb dX4_take_6 rfl hl (by decide) rfl (fun ls hl => ?_)
  refine lv_iload_n hx hb dX4_take_7 rfl (lv_at hl 2 rfl) ?_
  refine lv_istore_n (lv' := [(3, .int _), (2, .ref _), (0, .ref _), (1, .int _)]) hx hb dX4_take_8 rfl hl (by decide) rfl (fun ls hl => ?_)
  refine lp_X4_take (sz := sz) (kk := kk) (f := f) hC ha hp hk hn hf (fun H locs ls hP hsz hS hl => ?_) (90 - kk) kk _ _ _ (by omega) (Nat.le_refl _) (by rw [sRow_id (fun j hj => by rw [show tkf f kk j = f j from by simp [tkf, hj]]; exact ((hf j (by omega)).1).symm)]; exact hP) hsz hS (lv_sub hl [0, 1, 2, 3] rfl)
  have hap : a ≠ pl := fun h => by rw [h] at ha; omega
  refine lv_aload_n hx hb dX4_take_35 rfl (lv_at hl 2 rfl) ?_
  refine gt_X4_11 hC hP (kW (ha)) (rW (by first | assumption | exact Ne.symm (by assumption)) (hp)) dX4_take_36 ?_
  refine lv_bipush (v := 90) hx hb dX4_take_39 (by decide) ?_
  refine lv_aload_n hx hb dX4_take_41 rfl (lv_at hl 1 rfl) ?_
  refine g_aast hC hP hS (kd := 13) (ci := 2) (t0 := 4) (by decide) rfl rfl (by decide) (kW (hk)) (kW ((hf kk hkk).2)) (by show vp_in 90 (gn S pl); rw [hn]; exact vp_in_nI (n := 90) (by decide) (by decide)) dX4_take_42 (fun H locs hP hz hS => ?_)
  replace hsz := hz.trans hsz
  rw [show ((90 : Int32).toNatClampNeg) = 90 from by decide, show some (f kk) = (fun j => some (tkf f kk j)) 90 from by simp [tkf]; omega, sRow_s] at hP
  refine lv_aload_n hx hb dX4_take_43 rfl (lv_at hl 2 rfl) ?_
  refine lv_dup hx hb dX4_take_44 rfl ?_
  refine gt_X4_20 hC hP (kW (ha)) dX4_take_45 ?_
  refine lv_iconst (v := 1) hx hb dX4_take_48 (by decide) ?_
  refine lv_isub hx hb dX4_take_49 ?_
  refine pt_X4_20 hC hP hS (kW (ha)) dX4_take_50 (fun H locs hP hz hS => ?_)
  replace hsz := hz.trans hsz
  exact g_vret hC hP hS hr hlk (by decide) (by decide) (⟨rfl, rfl, hsz⟩) dX4_take_53
set_option maxRecDepth 100000 in
set_option maxHeartbeats 4000000 in
theorem c_X3_refuse (l : Launch) (N0 : Nat) (D : va_G) (cy : Nat → ClassId) (S : gS) (sz : Nat) (a lt : Nat) (ha : gK S a = 4) (hm : gK S lt = 3) (po pl q : Nat) (hpo : gK S po = 5) (hp : gR S po 0 = some pl) (hk : gK S pl = 13) (hn : vp_in (gI S po 1) (gn S pl)) (hq : gR S pl (gI S po 1).toNatClampNeg = some q) (hqk : gK S q = 3) : gM l yX3_refuse cX3_refuse 3 (none : Option FieldType) { frames := 1, cells := 0, slots := 0, locals := 40 } N0 D cy [.ref a, .ref lt, .ref po] S sz (fun v S1 z => v = none ∧ S1 = sI (cSend S po q 4 (gI S lt 1) (gI S lt 2) (gI S lt 3)) q 5 (gI S a 1) ∧ z = sz) := by
  refine g_body (by decide) rfl (Nat.le_of_ble_eq_true rfl) ?_
  intro p e s m args below meth c ls hC hU hr hlk hnm hsz hP hS hl
  have hx := hC.1
  have hb := hC.2.1
  have n1 : a ≠ q := fun h => by rw [h] at ha; omega
  have n2 : a ≠ po := fun h => by rw [h] at ha; omega
  have n3 : lt ≠ po := fun h => by rw [h] at hm; omega
  have n4 : q ≠ po := fun h => by rw [h] at hqk; omega
  refine lv_aload_n hx hb dX3_refuse_0 rfl (lv_at hl 2 rfl) ?_
  refine lv_iconst (v := 4) hx hb dX3_refuse_1 (by decide) ?_
  refine lv_aload_n hx hb dX3_refuse_2 rfl (lv_at hl 1 rfl) ?_
  refine gt_X3_34 hC hP (hm) dX3_refuse_3 ?_
  refine lv_aload_n hx hb dX3_refuse_6 rfl (lv_at hl 1 rfl) ?_
  refine gt_X3_37 hC hP (hm) dX3_refuse_7 ?_
  refine lv_aload_n hx hb dX3_refuse_10 rfl (lv_at hl 1 rfl) ?_
  refine gt_X3_21 hC hP (hm) dX3_refuse_11 ?_
  refine g_callV (As := [.int _, .int _, .int _, .int _]) (rest := []) hC hU hP hS hl.1 (c_X4_send l N0 D cy _ _ _ _ _ _ po pl q hpo hp hk hn hq hqk) mL_X3_40 iM_X4_send sL_X4_send iN_X4 cD_X4_send ⟨by decide, by decide, rfl⟩ ⟨by decide, by decide⟩ ⟨by decide, by decide⟩ (ci := 4) rfl (by decide) (hpo) rfl (Nat.le_of_ble_eq_true rfl) dX3_refuse_14 (fun v S1 H locs hw hP hz hS => ?_)
  obtain ⟨rfl, hS1, hz2⟩ := hw
  replace hS1 := hS1.symm
  subst hS1
  replace hsz := hz2.trans hsz
  refine lv_aload_n hx hb dX3_refuse_17 rfl (lv_at hl 0 rfl) ?_
  refine gt_X3_27 hC hP (kS (ha)) dX3_refuse_18 ?_
  refine pt_X3_57 hC hP hS (kS (hqk)) dX3_refuse_21 (fun H locs hP hz hS => ?_)
  replace hsz := hz.trans hsz
  exact g_vret hC hP hS hr hlk (by decide) (by decide) (⟨rfl, by rw [gI_cSend n2 n1], hsz⟩) dX3_refuse_24

set_option maxRecDepth 100000 in
set_option maxHeartbeats 4000000 in
theorem c_X3_answerPrepare (l : Launch) (N0 : Nat) (D : va_G) (cy : Nat → ClassId) (S : gS) (sz : Nat) (a lt ra rq : Nat) (f : Nat → Nat) (ha : gK S a = 4) (hm : gK S lt = 3) (hra : gR S a 2 = some ra) (hrak : gK S ra = 15) (hran : gn S ra = 8) (hf : ∀ j, j < 8 → gR S ra j = some (f j) ∧ gK S (f j) = 6) (po pl q : Nat) (hpo : gK S po = 5) (hp : gR S po 0 = some pl) (hk : gK S pl = 13) (hn : vp_in (gI S po 1) (gn S pl)) (hq : gR S pl (gI S po 1).toNatClampNeg = some q) (hqk : gK S q = 3) (hrq : gR S q 7 = some rq) (hrqk : gK S rq = 15) (hrqn : gn S rq = 8) : gM l yX3_answerPrepare cX3_answerPrepare 3 (none : Option FieldType) { frames := 2, cells := 0, slots := 0, locals := 80 } N0 D cy [.ref a, .ref lt, .ref po] S sz (fun v S1 z => v = none ∧ S1 = (if gI S a 1 < gI S lt 3 then sRow (cSend (sI S a 1 (gI S lt 3)) po q 1 (gI S lt 1) (gI S lt 2) (gI S lt 3)) rq 8 (fun j => some (f j)) else sI (cSend S po q 4 (gI S lt 1) (gI S lt 2) (gI S lt 3)) q 5 (gI S a 1)) ∧ z = sz) := by
  refine g_body (by decide) rfl (Nat.le_of_ble_eq_true rfl) ?_
  intro p e s m args below meth c ls hC hU hr hlk hnm hsz hP hS hl
  have hx := hC.1
  have hb := hC.2.1
  have n1 : a ≠ q := fun h => by rw [h] at ha; omega
  have n2 : a ≠ po := fun h => by rw [h] at ha; omega
  have n3 : lt ≠ po := fun h => by rw [h] at hm; omega
  have n4 : q ≠ po := fun h => by rw [h] at hqk; omega
  have n5 : lt ≠ a := fun h => by rw [h] at hm; omega
  refine lv_aload_n hx hb dX3_answerPrepare_0 rfl (lv_at hl 1 rfl) ?_
  refine gt_X3_21 hC hP (hm) dX3_answerPrepare_1 ?_
  refine lv_aload_n hx hb dX3_answerPrepare_4 rfl (lv_at hl 0 rfl) ?_
  refine gt_X3_27 hC hP (ha) dX3_answerPrepare_5 ?_
  refine lv_icmp_gt (tgt := 18) hx hb dX3_answerPrepare_8 (by decide) (fun c_8 => ?_) (fun c_8 => ?_)
  · refine lv_aload_n hx hb dX3_answerPrepare_18 rfl (lv_at hl 0 rfl) ?_
    refine lv_aload_n hx hb dX3_answerPrepare_19 rfl (lv_at hl 1 rfl) ?_
    refine gt_X3_21 hC hP (hm) dX3_answerPrepare_20 ?_
    refine pt_X3_27 hC hP hS (ha) dX3_answerPrepare_23 (fun H locs hP hz hS => ?_)
    replace hsz := hz.trans hsz
    refine lv_aload_n hx hb dX3_answerPrepare_26 rfl (lv_at hl 2 rfl) ?_
    refine lv_iconst (v := 1) hx hb dX3_answerPrepare_27 (by decide) ?_
    refine lv_aload_n hx hb dX3_answerPrepare_28 rfl (lv_at hl 1 rfl) ?_
    refine gt_X3_34 hC hP (kI (hm)) dX3_answerPrepare_29 ?_
    refine lv_aload_n hx hb dX3_answerPrepare_32 rfl (lv_at hl 1 rfl) ?_
    refine gt_X3_37 hC hP (kI (hm)) dX3_answerPrepare_33 ?_
    refine lv_aload_n hx hb dX3_answerPrepare_36 rfl (lv_at hl 1 rfl) ?_
    refine gt_X3_21 hC hP (kI (hm)) dX3_answerPrepare_37 ?_
    refine g_callV (As := [.int _, .int _, .int _, .int _]) (rest := []) hC hU hP hS hl.1 (c_X4_send l N0 D cy (sI S a 1 (gI S lt 3)) _ _ _ _ _ po pl q (kI hpo) (rI hp) (kI hk) (by rw [gI_sI, if_pos rfl, if_neg (Ne.symm n2)]; exact hn) (by rw [gI_sI, if_pos rfl, if_neg (Ne.symm n2)]; exact hq) (kI hqk)) mL_X3_40 iM_X4_send sL_X4_send iN_X4 cD_X4_send ⟨by decide, by decide, rfl⟩ ⟨by decide, by decide⟩ ⟨by decide, by decide⟩ (ci := 4) rfl (by decide) (kI (hpo)) rfl (Nat.le_of_ble_eq_true rfl) dX3_answerPrepare_40 (fun v S1 H locs hw hP hz hS => ?_)
    obtain ⟨rfl, hS1, hz2⟩ := hw
    replace hS1 := hS1.symm
    subst hS1
    replace hsz := hz2.trans hsz
    refine lv_aload_n hx hb dX3_answerPrepare_43 rfl (lv_at hl 0 rfl) ?_
    refine gt_X3_17 hC hP (kS (kI (ha))) (rS (rI (hra))) dX3_answerPrepare_44 ?_
    refine g_callV (As := [.ref _]) (rest := []) hC hU hP hS hl.1 (c_X2_copyRows l N0 D cy _ _ q rq ra f (kS (kI hqk)) (rS (rI hrq)) (kS (kI hrqk)) (nS' (nI' hrqn)) (kS (kI hrak)) (nS' (nI' hran)) (fun j hj => ⟨rS (rI (hf j hj).1), kS (kI (hf j hj).2)⟩)) mL_X3_46 iM_X2_copyRows sL_X2_copyRows iN_X2 cD_X2_copyRows ⟨by decide, by decide, rfl⟩ ⟨by decide, by decide⟩ ⟨by decide, by decide⟩ (ci := 2) rfl (by decide) (kS (kI (hqk))) rfl (Nat.le_of_ble_eq_true rfl) dX3_answerPrepare_47 (fun v S1 H locs hw hP hz hS => ?_)
    obtain ⟨rfl, hS1, hz2⟩ := hw
    replace hS1 := hS1.symm
    subst hS1
    replace hsz := hz2.trans hsz
    exact g_vret hC hP hS hr hlk (by decide) (by decide) (⟨rfl, by rw [if_pos (by assumption)]; simp only [gI_sI, n5, if_false, ite_self], hsz⟩) dX3_answerPrepare_50
  · refine lv_aload_n hx hb dX3_answerPrepare_11 rfl (lv_at hl 0 rfl) ?_
    refine lv_aload_n hx hb dX3_answerPrepare_12 rfl (lv_at hl 1 rfl) ?_
    refine lv_aload_n hx hb dX3_answerPrepare_13 rfl (lv_at hl 2 rfl) ?_
    refine g_callV (As := [.ref _, .ref _]) (rest := []) hC hU hP hS hl.1 (c_X3_refuse l N0 D cy _ _ a lt ha hm po pl q hpo hp hk hn hq hqk) mL_X3_30 iM_X3_refuse sL_X3_refuse iN_X3 cD_X3_refuse ⟨by decide, by decide, rfl⟩ ⟨by decide, by decide⟩ ⟨by decide, by decide⟩ (ci := 3) rfl (by decide) (ha) rfl (Nat.le_of_ble_eq_true rfl) dX3_answerPrepare_14 (fun v S1 H locs hw hP hz hS => ?_)
    obtain ⟨rfl, hS1, hz2⟩ := hw
    replace hS1 := hS1.symm
    subst hS1
    replace hsz := hz2.trans hsz
    exact g_vret hC hP hS hr hlk (by decide) (by decide) (⟨rfl, by rw [if_neg (by assumption)], hsz⟩) dX3_answerPrepare_17

set_option maxRecDepth 100000 in
set_option maxHeartbeats 4000000 in
theorem c_X3_answerAccept (l : Launch) (N0 : Nat) (D : va_G) (cy : Nat → ClassId) (S : gS) (sz : Nat) (a lt ra rw : Nat) (ha : gK S a = 4) (hm : gK S lt = 3) (hra : gR S a 2 = some ra) (hrak : gK S ra = 15) (hrw : gR S lt 6 = some rw) (hrwk : gK S rw = 6) (hin : vp_in (gI S lt 4) (gn S ra)) (po pl q : Nat) (hpo : gK S po = 5) (hp : gR S po 0 = some pl) (hk : gK S pl = 13) (hn : vp_in (gI S po 1) (gn S pl)) (hq : gR S pl (gI S po 1).toNatClampNeg = some q) (hqk : gK S q = 3) : gM l yX3_answerAccept cX3_answerAccept 3 (none : Option FieldType) { frames := 2, cells := 0, slots := 0, locals := 80 } N0 D cy [.ref a, .ref lt, .ref po] S sz (fun v S1 z => v = none ∧ S1 = (if gI S lt 3 < gI S a 1 then sI (cSend S po q 4 (gI S lt 1) (gI S lt 2) (gI S lt 3)) q 5 (gI S a 1) else cSend (sR (sI S a 1 (gI S lt 3)) ra (gI S lt 4).toNatClampNeg (some rw)) po q 3 (gI S lt 1) (gI S lt 2) (gI S lt 3)) ∧ z = sz) := by
  refine g_body (by decide) rfl (Nat.le_of_ble_eq_true rfl) ?_
  intro p e s m args below meth c ls hC hU hr hlk hnm hsz hP hS hl
  have hx := hC.1
  have hb := hC.2.1
  have n1 : a ≠ q := fun h => by rw [h] at ha; omega
  have n2 : a ≠ po := fun h => by rw [h] at ha; omega
  have n3 : lt ≠ po := fun h => by rw [h] at hm; omega
  have n4 : q ≠ po := fun h => by rw [h] at hqk; omega
  have n5 : lt ≠ a := fun h => by rw [h] at hm; omega
  have n6 : po ≠ ra := fun h => by rw [h] at hpo; omega
  have n7 : pl ≠ ra := fun h => by rw [h] at hk; omega
  have e1 : ∀ j, j ≠ 1 ∨ lt ≠ a → gI (sI S a 1 (gI S lt 3)) lt j = gI S lt j := fun j _ => by rw [gI_sI, if_neg n5]; simp
  refine lv_aload_n hx hb dX3_answerAccept_0 rfl (lv_at hl 1 rfl) ?_
  refine gt_X3_21 hC hP (hm) dX3_answerAccept_1 ?_
  refine lv_aload_n hx hb dX3_answerAccept_4 rfl (lv_at hl 0 rfl) ?_
  refine gt_X3_27 hC hP (ha) dX3_answerAccept_5 ?_
  refine lv_icmp_ge (tgt := 18) hx hb dX3_answerAccept_8 (by decide) (fun c_8 => ?_) (fun c_8 => ?_)
  · refine lv_aload_n hx hb dX3_answerAccept_18 rfl (lv_at hl 0 rfl) ?_
    refine lv_aload_n hx hb dX3_answerAccept_19 rfl (lv_at hl 1 rfl) ?_
    refine gt_X3_21 hC hP (hm) dX3_answerAccept_20 ?_
    refine pt_X3_27 hC hP hS (ha) dX3_answerAccept_23 (fun H locs hP hz hS => ?_)
    replace hsz := hz.trans hsz
    refine lv_aload_n hx hb dX3_answerAccept_26 rfl (lv_at hl 0 rfl) ?_
    refine gt_X3_17 hC hP (kI (ha)) (rI (hra)) dX3_answerAccept_27 ?_
    refine lv_aload_n hx hb dX3_answerAccept_30 rfl (lv_at hl 1 rfl) ?_
    refine gt_X3_50 hC hP (kI (hm)) dX3_answerAccept_31 ?_
    refine lv_aload_n hx hb dX3_answerAccept_34 rfl (lv_at hl 1 rfl) ?_
    refine gt_X3_53 hC hP (kI (hm)) (rI (hrw)) dX3_answerAccept_35 ?_
    refine g_aast hC hP hS (kd := 15) (ci := 5) (t0 := 6) (by decide) rfl rfl (by decide) (kI (hrak)) (kI (hrwk)) (by show vp_in (gI (sI S a 1 (gI S lt 3)) lt 4) (gn S ra); rw [e1 4 (Or.inr n5)]; exact hin) dX3_answerAccept_38 (fun H locs hP hz hS => ?_)
    replace hsz := hz.trans hsz
    rw [e1 4 (Or.inr n5)] at hP
    refine lv_aload_n hx hb dX3_answerAccept_39 rfl (lv_at hl 2 rfl) ?_
    refine lv_iconst (v := 3) hx hb dX3_answerAccept_40 (by decide) ?_
    refine lv_aload_n hx hb dX3_answerAccept_41 rfl (lv_at hl 1 rfl) ?_
    refine gt_X3_34 hC hP (kR (kI (hm))) dX3_answerAccept_42 ?_
    refine lv_aload_n hx hb dX3_answerAccept_45 rfl (lv_at hl 1 rfl) ?_
    refine gt_X3_37 hC hP (kR (kI (hm))) dX3_answerAccept_46 ?_
    refine lv_aload_n hx hb dX3_answerAccept_49 rfl (lv_at hl 1 rfl) ?_
    refine gt_X3_21 hC hP (kR (kI (hm))) dX3_answerAccept_50 ?_
    refine g_callV (As := [.int _, .int _, .int _, .int _]) (rest := []) hC hU hP hS hl.1 (c_X4_send l N0 D cy _ _ _ _ _ _ po pl q (kR (kI hpo)) (rR (Or.inr n6) (rI hp)) (kR (kI hk)) (by rw [gI_sR, gI_sI, if_pos rfl, if_neg (Ne.symm n2)]; exact hn) (by rw [gI_sR, gI_sI, if_pos rfl, if_neg (Ne.symm n2)]; exact rR (Or.inr n7) (rI hq)) (kR (kI hqk))) mL_X3_40 iM_X4_send sL_X4_send iN_X4 cD_X4_send ⟨by decide, by decide, rfl⟩ ⟨by decide, by decide⟩ ⟨by decide, by decide⟩ (ci := 4) rfl (by decide) (kR (kI (hpo))) rfl (Nat.le_of_ble_eq_true rfl) dX3_answerAccept_53 (fun v S1 H locs hw hP hz hS => ?_)
    obtain ⟨rfl, hS1, hz2⟩ := hw
    replace hS1 := hS1.symm
    subst hS1
    replace hsz := hz2.trans hsz
    refine lv_pop hx hb dX3_answerAccept_56 rfl ?_
    exact g_vret hC hP hS hr hlk (by decide) (by decide) (⟨rfl, by rw [if_neg (by first | assumption | exact Int32.not_lt.mpr (by assumption))]; simp only [gI_sR, gI_sI, n5, if_false, ite_self], hsz⟩) dX3_answerAccept_57
  · refine lv_aload_n hx hb dX3_answerAccept_11 rfl (lv_at hl 0 rfl) ?_
    refine lv_aload_n hx hb dX3_answerAccept_12 rfl (lv_at hl 1 rfl) ?_
    refine lv_aload_n hx hb dX3_answerAccept_13 rfl (lv_at hl 2 rfl) ?_
    refine g_callV (As := [.ref _, .ref _]) (rest := []) hC hU hP hS hl.1 (c_X3_refuse l N0 D cy _ _ a lt ha hm po pl q hpo hp hk hn hq hqk) mL_X3_30 iM_X3_refuse sL_X3_refuse iN_X3 cD_X3_refuse ⟨by decide, by decide, rfl⟩ ⟨by decide, by decide⟩ ⟨by decide, by decide⟩ (ci := 3) rfl (by decide) (ha) rfl (Nat.le_of_ble_eq_true rfl) dX3_answerAccept_14 (fun v S1 H locs hw hP hz hS => ?_)
    obtain ⟨rfl, hS1, hz2⟩ := hw
    replace hS1 := hS1.symm
    subst hS1
    replace hsz := hz2.trans hsz
    exact g_vret hC hP hS hr hlk (by decide) (by decide) (⟨rfl, by rw [if_pos (by first | assumption | exact Int32.not_le.mp (by assumption))], hsz⟩) dX3_answerAccept_17

