set_option maxRecDepth 100000 in
set_option maxHeartbeats 4000000 in
theorem c_X4_sendAgain (l : Launch) (N0 : Nat) (D : va_G) (cy : Nat → ClassId) (S : gS) (sz : Nat) (k : Int32) (po pl q lt rl rq rw : Nat) (f : Nat → Nat) (hpo : gK S po = 5) (hp : gR S po 0 = some pl) (hk : gK S pl = 13) (hn : vp_in (gI S po 1) (gn S pl)) (hq : gR S pl (gI S po 1).toNatClampNeg = some q) (hqk : gK S q = 3) (hkn : vp_in k (gn S pl)) (hlt : gR S pl k.toNatClampNeg = some lt) (hm : gK S lt = 3) (hne : lt ≠ q) (hrw : gR S lt 6 = some rw) (hrl : gR S lt 7 = some rl) (hrlk : gK S rl = 15) (hrln : gn S rl = 8) (hf : ∀ j, j < 8 → gR S rl j = some (f j) ∧ gK S (f j) = 6) (hrq : gR S q 7 = some rq) (hrqk : gK S rq = 15) (hrqn : gn S rq = 8) : gM l yX4_sendAgain cX4_sendAgain 4 (none : Option FieldType) { frames := 1, cells := 0, slots := 0, locals := 40 } N0 D cy [.ref po, .int k] S sz (fun v S1 z => v = none ∧ S1 = sRow (sR (sI (sI (cSend S po q (gI S lt 0) (gI S lt 1) (gI S lt 2) (gI S lt 3)) q 4 (gI S lt 4)) q 5 (gI S lt 5)) q 6 (some rw)) rq 8 (fun j => some (f j)) ∧ z = sz) := by
  refine g_body (by decide) rfl (Nat.le_of_ble_eq_true rfl) ?_
  intro p e s m args below meth c ls hC hU hr hlk hnm hsz hP hS hl
  have hx := hC.1
  have hb := hC.2.1
  have n3 : lt ≠ po := fun h => by rw [h] at hm; omega
  have n4 : q ≠ po := fun h => by rw [h] at hqk; omega
  have n6 : rl ≠ q := fun h => by rw [h] at hrlk; omega
  have n7 : rq ≠ q := fun h => by rw [h] at hrqk; omega
  refine lv_aload_n hx hb dX4_sendAgain_0 rfl (lv_at hl 0 rfl) ?_
  refine gt_X4_11 hC hP (hpo) (hp) dX4_sendAgain_1 ?_
  refine lv_iload_n hx hb dX4_sendAgain_4 rfl (lv_at hl 1 rfl) ?_
  refine g_aald hC hP (j := 1) (by decide) (hk) (hkn) dX4_sendAgain_5 ?_
  refine g_rf (hlt) ?_
  refine lv_astore_n (lv' := [(2, .ref _), (0, .ref _), (1, .int _)]) hx hb dX4_sendAgain_6 rfl hl (by decide) rfl (fun ls hl => ?_)
  refine lv_aload_n hx hb dX4_sendAgain_7 rfl (lv_at hl 1 rfl) ?_
  refine lv_aload_n hx hb dX4_sendAgain_8 rfl (lv_at hl 0 rfl) ?_
  refine gt_X4_24 hC hP (hm) dX4_sendAgain_9 ?_
  refine lv_aload_n hx hb dX4_sendAgain_12 rfl (lv_at hl 0 rfl) ?_
  refine gt_X4_27 hC hP (hm) dX4_sendAgain_13 ?_
  refine lv_aload_n hx hb dX4_sendAgain_16 rfl (lv_at hl 0 rfl) ?_
  refine gt_X4_30 hC hP (hm) dX4_sendAgain_17 ?_
  refine lv_aload_n hx hb dX4_sendAgain_20 rfl (lv_at hl 0 rfl) ?_
  refine gt_X4_33 hC hP (hm) dX4_sendAgain_21 ?_
  refine g_callV (As := [.int _, .int _, .int _, .int _]) (rest := []) hC hU hP hS hl.1 (c_X4_send l N0 D cy _ _ _ _ _ _ po pl q hpo hp hk hn hq hqk) mL_X4_42 iM_X4_send sL_X4_send iN_X4 cD_X4_send ⟨by decide, by decide, rfl⟩ ⟨by decide, by decide⟩ ⟨by decide, by decide⟩ (ci := 4) rfl (by decide) (hpo) rfl (Nat.le_of_ble_eq_true rfl) dX4_sendAgain_24 (fun v S1 H locs hw hP hz hS => ?_)
  obtain ⟨rfl, hS1, hz2⟩ := hw
  replace hS1 := hS1.symm
  subst hS1
  replace hsz := hz2.trans hsz
  refine lv_astore_n (lv' := [(3, .ref _), (2, .ref _), (0, .ref _), (1, .int _)]) hx hb dX4_sendAgain_27 rfl hl (by decide) rfl (fun ls hl => ?_)
  refine lv_aload_n hx hb dX4_sendAgain_28 rfl (lv_at hl 0 rfl) ?_
  refine lv_aload_n hx hb dX4_sendAgain_29 rfl (lv_at hl 1 rfl) ?_
  refine gt_X4_36 hC hP (kS (hm)) dX4_sendAgain_30 ?_
  refine pt_X4_36 hC hP hS (kS (hqk)) dX4_sendAgain_33 (fun H locs hP hz hS => ?_)
  replace hsz := hz.trans hsz
  rw [gI_cSend n3 hne] at hP
  refine lv_aload_n hx hb dX4_sendAgain_36 rfl (lv_at hl 0 rfl) ?_
  refine lv_aload_n hx hb dX4_sendAgain_37 rfl (lv_at hl 1 rfl) ?_
  refine gt_X4_39 hC hP (kI (kS (hm))) dX4_sendAgain_38 ?_
  refine pt_X4_39 hC hP hS (kI (kS (hqk))) dX4_sendAgain_41 (fun H locs hP hz hS => ?_)
  replace hsz := hz.trans hsz
  rw [gI_sI, if_neg (by decide : ¬ (5 : Nat) = 4), gI_cSend n3 hne] at hP
  refine lv_aload_n hx hb dX4_sendAgain_44 rfl (lv_at hl 0 rfl) ?_
  refine lv_aload_n hx hb dX4_sendAgain_45 rfl (lv_at hl 1 rfl) ?_
  refine gt_X4_46 hC hP (kI (kI (kS (hm)))) (rI (rI (rS (hrw)))) dX4_sendAgain_46 ?_
  refine pt_X4_46 (v := some _) hC hP hS (kI (kI (kS (hqk)))) dX4_sendAgain_49 (fun H locs hP hz hS => ?_)
  replace hsz := hz.trans hsz
  refine lv_aload_n hx hb dX4_sendAgain_52 rfl (lv_at hl 0 rfl) ?_
  refine lv_aload_n hx hb dX4_sendAgain_53 rfl (lv_at hl 1 rfl) ?_
  refine gt_X4_50 hC hP (kR (kI (kI (kS (hm))))) (rR (by first | exact Or.inl (by decide) | exact Or.inr (by assumption) | exact Or.inr (Ne.symm (by assumption))) (rI (rI (rS (hrl))))) dX4_sendAgain_54 ?_
  refine g_callV (As := [.ref _]) (rest := []) hC hU hP hS hl.1 (c_X2_copyRows l N0 D cy _ _ q rq rl f (kR (kI (kI (kS hqk)))) (rR (Or.inl (by decide)) (rI (rI (rS hrq)))) (kR (kI (kI (kS hrqk)))) (nR' (nI' (nI' (nS' hrqn)))) (kR (kI (kI (kS hrlk)))) (nR' (nI' (nI' (nS' hrln)))) (fun j hj => ⟨rR (Or.inr n6) (rI (rI (rS (hf j hj).1))), kR (kI (kI (kS (hf j hj).2)))⟩)) mL_X4_54 iM_X2_copyRows sL_X2_copyRows iN_X2 cD_X2_copyRows ⟨by decide, by decide, rfl⟩ ⟨by decide, by decide⟩ ⟨by decide, by decide⟩ (ci := 2) rfl (by decide) (kR (kI (kI (kS (hqk))))) rfl (Nat.le_of_ble_eq_true rfl) dX4_sendAgain_57 (fun v S1 H locs hw hP hz hS => ?_)
  obtain ⟨rfl, hS1, hz2⟩ := hw
  replace hS1 := hS1.symm
  subst hS1
  replace hsz := hz2.trans hsz
  exact g_vret hC hP hS hr hlk (by decide) (by decide) (⟨rfl, rfl, hsz⟩) dX4_sendAgain_60

