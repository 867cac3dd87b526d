theorem kN {S : gS} {a kd len b c : Nat} (hne : b ≠ a) (h : gK S b = c) : gK (sN S a kd len) b = c := by
  show va_up (gK S) a kd b = c
  simp [va_up, hne, h]
theorem kN_s {S : gS} {a kd len : Nat} : gK (sN S a kd len) a = kd := by
  show va_up (gK S) a kd a = kd
  simp [va_up]
theorem nN' {S : gS} {a kd len b c : Nat} (hne : b ≠ a) (h : gn S b = c) : gn (sN S a kd len) b = c := by
  show va_up (gn S) a len b = c
  simp [va_up, hne, h]
theorem nN_s {S : gS} {a kd len : Nat} : gn (sN S a kd len) a = len := by
  show va_up (gn S) a len a = len
  simp [va_up]
theorem rN {S : gS} {a kd len b j : Nat} {r : Option Nat} (hne : b ≠ a) (h : gR S b j = r) : gR (sN S a kd len) b j = r := by
  show va_up (gR S) a (fun _ => none) b j = r
  simp [va_up, hne, h]
theorem gI_N {S : gS} {a kd len b j : Nat} (hne : b ≠ a) : gI (sN S a kd len) b j = gI S b j := by
  show va_up (gI S) a (fun _ => 0) b j = gI S b j
  simp [va_up, hne]
theorem gJ_N {S : gS} {a kd len b j : Nat} (hne : b ≠ a) : gJ (sN S a kd len) b j = gJ S b j := by
  show va_up (gJ S) a (fun _ => 0) b j = gJ S b j
  simp [va_up, hne]
theorem lowP_ne {p : Nat → Prop} {r : Int32} (h : lowP p r) (hr : ¬ r = -1) : ∃ j, j < 8 ∧ r = nI j := by
  rcases h with ⟨j, hj, e, -⟩ | ⟨e, -⟩
  · exact ⟨j, hj, e⟩
  · exact absurd e hr
theorem chS_ne {S : gS} {f g : Nat → Nat} {self r : Int32} (h : chS S f g self r) (hr : ¬ r = -1) : ∃ j, j < 8 ∧ r = nI j := by
  obtain ⟨o, ho, ⟨h1, h2⟩ | ⟨h1, h2⟩⟩ := h
  · subst h2; exact lowP_ne ho hr
  · exact lowP_ne h2 hr
/-- a new grant at z, its row at z + 1 -/
def mkGrant (S : gS) (z : Nat) (st : Int32) (fi : Int64) (b h t : Int32) (mk : Int64) : gS := sR (sJ (sI (sJ (sI (sI (sI (sN (sN S z 1 0) (z + 1) 6 0) (z + 1) 0 b) (z + 1) 1 h) (z + 1) 2 t) (z + 1) 3 mk) z 0 st) z 1 fi) z 2 (some (z + 1))
def wFirst (S : gS) (a w : Nat) : Int64 := mxl (gJ S a 2) (gJ S w 3 + 1)
def cWish (S : gS) (a sz j w : Nat) (term : Int32) (v : Option Value) (S1 : gS) (z : Nat) : Prop := if 2199023255551 < wFirst S a w + 60000 - 1 then v = some .null ∧ S1 = S ∧ z = sz else v = some (.ref sz) ∧ S1 = mkGrant S sz (nI j) (wFirst S a w) (gI S a 6) (gI S a 0) term (wFirst S a w + 60000 - 1) ∧ z = sz + 2
theorem nIm1 {j : Nat} (h : j < 2 ^ 31) : ¬ nI j = -1 := fun e => by
  have h1 := nI_pos h
  rw [e] at h1
  exact h1 (by decide)
set_option maxRecDepth 100000 in
set_option maxHeartbeats 4000000 in
theorem c_X1_wishWith0 (l : Launch) (N0 : Nat) (D : va_G) (cy : Nat → ClassId) (S : gS) (sz : Nat) (a sa lt rl : Nat) (f g : Nat → Nat) (ha : gK S a = 2) (hm : gK S lt = 3) (hsa : gR S a 8 = some sa) (hsak : gK S sa = 15) (hsan : gn S sa = 8) (hrl : gR S lt 7 = some rl) (hrlk : gK S rl = 15) (hrln : gn S rl = 8) (hf : ∀ j, j < 8 → gR S sa j = some (f j) ∧ gK S (f j) = 6) (hg : ∀ j, j < 8 → gR S rl j = some (g j) ∧ gK S (g j) = 6) (hh : gR S a 11 = none) : gM l yX1_wishWith cX1_wishWith 9 (some (FieldType.object "IssueHouse$Grant")) { frames := 3, cells := 2, slots := 7, locals := 110 } N0 D cy [.ref a, .ref lt] S sz (fun v S1 z => ∃ r : Int32, chS S f g (gI S a 0) r ∧ ((r = -1 ∧ v = some .null ∧ S1 = S ∧ z = sz) ∨ ∃ j, j < 8 ∧ r = nI j ∧ cWish S a sz j (nwS S f g j) (gI S (nwS S f g j) 2 + 1) v S1 z)) := by
  refine g_body (by decide) rfl (Nat.le_of_ble_eq_true rfl) ?_
  intro p e s m args below meth c ls hC hU hr hlk hnm hsz hP hS hl
  have hx := hC.1
  have hb := hC.2.1
  refine lv_aload_n hx hb dX1_wishWith_0 rfl (lv_at hl 0 rfl) ?_
  refine gq_X1_34 hC hP (ha) dX1_wishWith_1 (fun _ => ?_) (fun b9 q9 => by have q8 := q9.symm.trans (hh); cases q8)
  refine lv_ifnullN (tgt := 17) hx hb dX1_wishWith_4 (by decide) ?_
  refine lv_aload_n hx hb dX1_wishWith_17 rfl (lv_at hl 0 rfl) ?_
  refine lv_aload_n hx hb dX1_wishWith_18 rfl (lv_at hl 1 rfl) ?_
  refine g_callV (As := [.ref _]) (rest := []) hC hU hP hS hl.1 (c_X1_chooseSeat l N0 D cy _ _ a sa lt rl f g ha hm hsa hsak hsan hrl hrlk hrln hf hg) mL_X1_117 iM_X1_chooseSeat sL_X1_chooseSeat iN_X1 cD_X1_chooseSeat ⟨by decide, by decide, rfl⟩ ⟨by decide, by decide⟩ ⟨by decide, by decide⟩ (ci := 1) rfl (by decide) (ha) rfl (Nat.le_of_ble_eq_true rfl) dX1_wishWith_19 (fun v S1 H locs hw hP hz hS => ?_)
  obtain ⟨⟨r1, hv1, hch⟩, hS1, hz2⟩ := hw
  replace hS1 := hS1.symm
  subst hS1
  subst hv1
  replace hsz := hz2.trans hsz
  refine lv_istore_n (lv' := [(2, .int _), (0, .ref _), (1, .ref _)]) hx hb dX1_wishWith_22 rfl hl (by decide) rfl (fun ls hl => ?_)
  refine lv_iload_n hx hb dX1_wishWith_23 rfl (lv_at hl 0 rfl) ?_
  refine lv_iconst (v := (-1)) hx hb dX1_wishWith_24 (by decide) ?_
  refine lv_icmp_ne (tgt := 30) hx hb dX1_wishWith_25 (by decide) (fun c_25 => ?_) (fun c_25 => ?_)
  · obtain ⟨j, hj, rfl⟩ := chS_ne hch c_25
    refine lv_aload_n hx hb dX1_wishWith_30 rfl (lv_at hl 1 rfl) ?_
    refine gt_X1_17 hC hP (ha) (hsa) dX1_wishWith_31 ?_
    refine lv_iload_n hx hb dX1_wishWith_34 rfl (lv_at hl 0 rfl) ?_
    refine g_aald hC hP (j := 3) (by decide) (hsak) (by show vp_in (nI j) (gn S sa); rw [hsan]; exact vp_in_nI hj (by decide)) dX1_wishWith_35 ?_
    refine g_rf (by rw [nI_clamp (by omega)]; exact (hf j hj).1) ?_
    refine lv_aload_n hx hb dX1_wishWith_36 rfl (lv_at hl 2 rfl) ?_
    refine gt_X1_105 hC hP (hm) (hrl) dX1_wishWith_37 ?_
    refine lv_iload_n hx hb dX1_wishWith_40 rfl (lv_at hl 0 rfl) ?_
    refine g_aald hC hP (j := 3) (by decide) (hrlk) (by show vp_in (nI j) (gn S rl); rw [hrln]; exact vp_in_nI hj (by decide)) dX1_wishWith_41 ?_
    refine g_rf (by rw [nI_clamp (by omega)]; exact (hg j hj).1) ?_
    refine g_callV (As := [.ref _]) (rest := []) hC hU hP hS hl.1 (c_X5_orNewer l N0 D cy _ _ (f j) (g j) (hf j hj).2 (hg j hj).2) mL_X1_108 iM_X5_orNewer sL_X5_orNewer iN_X5 cD_X5_orNewer ⟨by decide, by decide, rfl⟩ ⟨by decide, by decide⟩ ⟨by decide, by decide⟩ (ci := 5) rfl (by decide) ((hf j hj).2) rfl (Nat.le_of_ble_eq_true rfl) dX1_wishWith_42 (fun v S1 H locs hw hP hz hS => ?_)
    obtain ⟨hv1, hS1, hz2⟩ := hw
    replace hS1 := hS1.symm
    subst hS1
    replace hv1 : v = some (.ref (nwS S f g j)) := hv1
    subst hv1
    replace hsz := hz2.trans hsz
    have hzk : gK S (nwS S f g j) = 6 := by
      unfold nwS nwr
      split
      · exact (hg j hj).2
      · exact (hf j hj).2
    refine lv_astore_n (lv' := [(3, .ref _), (2, .int _), (0, .ref _), (1, .ref _)]) hx hb dX1_wishWith_45 rfl hl (by decide) rfl (fun ls hl => ?_)
    refine lv_aload_n hx hb dX1_wishWith_46 rfl (lv_at hl 2 rfl) ?_
    refine gt_X1_121 hC hP (ha) dX1_wishWith_47 ?_
    refine lv_aload_n hx hb dX1_wishWith_50 rfl (lv_at hl 0 rfl) ?_
    refine gt_X1_124 hC hP (hzk) dX1_wishWith_51 ?_
    refine lv_lconst (v := 1) hx hb dX1_wishWith_54 rfl ?_
    refine lv_ladd hx hb dX1_wishWith_55 ?_
    refine g_maxl hC hl.1 mL_X1_127 (by decide) (Nat.le_of_ble_eq_true rfl) (by decide) (by decide) dX1_wishWith_56 ?_
    refine lv_lstore (lv' := [(4, .long _), (3, .ref _), (2, .int _), (0, .ref _), (1, .ref _)]) hx hb dX1_wishWith_59 hl (by decide) rfl (fun ls hl => ?_)
    refine lv_lload hx hb dX1_wishWith_61 (lv_at hl 0 rfl) ?_
    refine lv_ldc2 hx hb hC.2.2.2.1 (hC.2.2.2.2.1 _ kJ_X1_130) dX1_wishWith_63 ?_
    refine lv_ladd hx hb dX1_wishWith_66 ?_
    refine lv_lconst (v := 1) hx hb dX1_wishWith_67 rfl ?_
    refine lv_lsub hx hb dX1_wishWith_68 ?_
    refine lv_lstore (lv' := [(6, .long _), (4, .long _), (3, .ref _), (2, .int _), (0, .ref _), (1, .ref _)]) hx hb dX1_wishWith_69 hl (by decide) rfl (fun ls hl => ?_)
    refine lv_lload hx hb dX1_wishWith_71 (lv_at hl 0 rfl) ?_
    refine lv_ldc2 hx hb hC.2.2.2.1 (hC.2.2.2.2.1 _ kJ_X1_132) dX1_wishWith_73 ?_
    refine W.lcmp hx hb dX1_wishWith_76 ?_
    refine lv_if_le (tgt := 82) hx hb dX1_wishWith_77 (by decide) (fun c_77 => ?_) (fun c_77 => ?_)
    · replace c_77 := lc_le.mp c_77
      refine lv_aload_n hx hb dX1_wishWith_82 rfl (lv_at hl 4 rfl) ?_
      refine gq_X1_34 hC hP (ha) dX1_wishWith_83 (fun _ => ?_) (fun b9 q9 => by have q8 := q9.symm.trans (hh); cases q8)
      refine lv_ifnullN (tgt := 102) hx hb dX1_wishWith_86 (by decide) ?_
      refine lv_aload_n hx hb dX1_wishWith_102 rfl (lv_at hl 2 rfl) ?_
      refine gt_X1_137 hC hP (hzk) dX1_wishWith_103 ?_
      refine lv_iconst (v := 1) hx hb dX1_wishWith_106 (by decide) ?_
      refine lv_iadd hx hb dX1_wishWith_107 ?_
      refine lv_istore (lv' := [(8, .int _), (6, .long _), (4, .long _), (3, .ref _), (2, .int _), (0, .ref _), (1, .ref _)]) hx hb dX1_wishWith_108 hl (by decide) rfl (fun ls hl => ?_)
      have alt : a < sz := by rw [← hsz]; exact hP.lt (by omega)
      refine g_new hC hP hS (ci := 0) rfl (by decide) uW_X0 tyX0_ok (by decide) kL_X1_113 iB_X0 iN_X0 (by decide) (by decide) dX1_wishWith_110 (fun H1 hP1 hz1 hS1 => ?_)
      rw [hsz] at hP1 hz1 ⊢
      replace hsz := hz1
      clear hz1
      have hP := hP1
      have hS := hS1
      clear hP1 hS1
      refine lv_dup hx hb dX1_wishWith_113 rfl ?_
      refine lv_iload_n hx hb dX1_wishWith_114 rfl (lv_at hl 4 rfl) ?_
      refine lv_lload hx hb dX1_wishWith_115 (lv_at hl 2 rfl) ?_
      refine g_new hC hP hS (ci := 5) rfl (by decide) uW_X5 tyX5_ok (by decide) kL_X1_15 iB_X5 iN_X5 (by decide) (by decide) dX1_wishWith_117 (fun H1 hP1 hz1 hS1 => ?_)
      rw [hsz] at hP1 hz1 ⊢
      replace hsz := hz1
      clear hz1
      have hP := hP1
      have hS := hS1
      clear hP1 hS1
      refine lv_dup hx hb dX1_wishWith_120 rfl ?_
      refine lv_aload_n hx hb dX1_wishWith_121 rfl (lv_at hl 5 rfl) ?_
      refine gt_X1_50 hC hP (kN (by omega) (kN (by omega) (ha))) dX1_wishWith_122 ?_
      refine lv_aload_n hx hb dX1_wishWith_125 rfl (lv_at hl 5 rfl) ?_
      refine gt_X1_27 hC hP (kN (by omega) (kN (by omega) (ha))) dX1_wishWith_126 ?_
      refine lv_iload hx hb dX1_wishWith_129 (lv_at hl 0 rfl) ?_
      refine lv_lload hx hb dX1_wishWith_131 (lv_at hl 1 rfl) ?_
      rw [gI_N (by omega), gI_N (by omega), gI_N (by omega), gI_N (by omega)]
      refine g_callI (As := [.int _, .int _, .int _, .long _]) (rest := [.ref _, .long _, .int _, .ref _, .ref _]) hC hU hP hS hl.1 (c_X5_init l N0 D cy _ _ (sz + 1) _ _ _ _ kN_s) mL_X1_140 iM_X5_init iN_X5 cD_X5_init rfl ⟨by decide, by decide, rfl⟩ ⟨by decide, by decide⟩ ⟨by decide, by decide⟩ rfl (Nat.le_of_ble_eq_true rfl) dX1_wishWith_133 (fun v S1 H locs hw hP hz hS => ?_)
      obtain ⟨rfl, hS1, hz2⟩ := hw
      replace hS1 := hS1.symm
      subst hS1
      replace hsz := hz2.trans hsz
      refine g_callI (As := [.int _, .long _, .ref _]) (rest := [.ref _]) hC hU hP hS hl.1 (c_X0_init l N0 D cy _ _ sz _ _ (sz + 1) (kJ (kI (kI (kI (kN (by omega) kN_s)))))) mL_X1_143 iM_X0_init iN_X0 cD_X0_init rfl ⟨by decide, by decide, rfl⟩ ⟨by decide, by decide⟩ ⟨by decide, by decide⟩ rfl (Nat.le_of_ble_eq_true rfl) dX1_wishWith_136 (fun v S1 H locs hw hP hz hS => ?_)
      obtain ⟨rfl, hS1, hz2⟩ := hw
      replace hS1 := hS1.symm
      subst hS1
      replace hsz := hz2.trans hsz
      exact g_aret (v := some _) hC hP hS hr hlk (by decide) (by decide) (⟨nI j, hch, Or.inr ⟨j, hj, rfl, by unfold cWish; rw [if_neg (show ¬ 2199023255551 < wFirst S a (nwS S f g j) + 60000 - 1 from Int64.not_lt.mpr c_77)]; exact ⟨rfl, rfl, hsz⟩⟩⟩) dX1_wishWith_139
    · replace c_77 := fun h => c_77 (lc_le.mpr h)
      refine lv_null hx hb dX1_wishWith_80 ?_
      exact g_aret (v := none) hC hP hS hr hlk (by decide) (by decide) (⟨nI j, hch, Or.inr ⟨j, hj, rfl, by unfold cWish; rw [if_pos (show 2199023255551 < wFirst S a (nwS S f g j) + 60000 - 1 from Int64.not_le.mp c_77)]; exact ⟨rfl, rfl, hsz⟩⟩⟩) dX1_wishWith_81
  · refine lv_null hx hb dX1_wishWith_28 ?_
    exact g_aret (v := none) hC hP hS hr hlk (by decide) (by decide) (⟨r1, hch, Or.inl ⟨c_25, rfl, rfl, hsz⟩⟩) dX1_wishWith_29

set_option maxRecDepth 100000 in
set_option maxHeartbeats 4000000 in
theorem c_X1_wishWith1 (l : Launch) (N0 : Nat) (D : va_G) (cy : Nat → ClassId) (S : gS) (sz : Nat) (a sa lt rl : Nat) (f g : Nat → Nat) (ha : gK S a = 2) (hm : gK S lt = 3) (hsa : gR S a 8 = some sa) (hsak : gK S sa = 15) (hsan : gn S sa = 8) (hrl : gR S lt 7 = some rl) (hrlk : gK S rl = 15) (hrln : gn S rl = 8) (hf : ∀ j, j < 8 → gR S sa j = some (f j) ∧ gK S (f j) = 6) (hg : ∀ j, j < 8 → gR S rl j = some (g j) ∧ gK S (g j) = 6) (h rh j : Nat) (hh : gR S a 11 = some h) (hhk : gK S h = 1) (hrh : gR S h 2 = some rh) (hrhk : gK S rh = 6) (hst : gI S h 0 = nI j) (hj : j < 8) : gM l yX1_wishWith cX1_wishWith 9 (some (FieldType.object "IssueHouse$Grant")) { frames := 3, cells := 2, slots := 7, locals := 110 } N0 D cy [.ref a, .ref lt] S sz (fun v S1 z => cWish S a sz j (nwS S f g j) (gI S rh 2) v S1 z) := by
  refine g_body (by decide) rfl (Nat.le_of_ble_eq_true rfl) ?_
  intro p e s m args below meth c ls hC hU hr hlk hnm hsz hP hS hl
  have hx := hC.1
  have hb := hC.2.1
  refine lv_aload_n hx hb dX1_wishWith_0 rfl (lv_at hl 0 rfl) ?_
  refine gt_X1_34 hC hP (ha) (hh) dX1_wishWith_1 ?_
  refine lv_ifnull hx hb dX1_wishWith_4 ?_
  refine lv_aload_n hx hb dX1_wishWith_7 rfl (lv_at hl 0 rfl) ?_
  refine gt_X1_34 hC hP (ha) (hh) dX1_wishWith_8 ?_
  refine gt_X1_112 hC hP (hhk) dX1_wishWith_11 ?_
  refine lv_goto (tgt := 22) hx hb dX1_wishWith_14 (by decide) ?_
  rw [hst]
  refine lv_istore_n (lv' := [(2, .int _), (0, .ref _), (1, .ref _)]) hx hb dX1_wishWith_22 rfl hl (by decide) rfl (fun ls hl => ?_)
  refine lv_iload_n hx hb dX1_wishWith_23 rfl (lv_at hl 0 rfl) ?_
  refine lv_iconst (v := (-1)) hx hb dX1_wishWith_24 (by decide) ?_
  refine lv_icmp_ne (tgt := 30) hx hb dX1_wishWith_25 (by decide) (fun c_25 => ?_) (fun c_25 => ?_)
  · refine lv_aload_n hx hb dX1_wishWith_30 rfl (lv_at hl 1 rfl) ?_
    refine gt_X1_17 hC hP (ha) (hsa) dX1_wishWith_31 ?_
    refine lv_iload_n hx hb dX1_wishWith_34 rfl (lv_at hl 0 rfl) ?_
    refine g_aald hC hP (j := 3) (by decide) (hsak) (by show vp_in (nI j) (gn S sa); rw [hsan]; exact vp_in_nI hj (by decide)) dX1_wishWith_35 ?_
    refine g_rf (by rw [nI_clamp (by omega)]; exact (hf j hj).1) ?_
    refine lv_aload_n hx hb dX1_wishWith_36 rfl (lv_at hl 2 rfl) ?_
    refine gt_X1_105 hC hP (hm) (hrl) dX1_wishWith_37 ?_
    refine lv_iload_n hx hb dX1_wishWith_40 rfl (lv_at hl 0 rfl) ?_
    refine g_aald hC hP (j := 3) (by decide) (hrlk) (by show vp_in (nI j) (gn S rl); rw [hrln]; exact vp_in_nI hj (by decide)) dX1_wishWith_41 ?_
    refine g_rf (by rw [nI_clamp (by omega)]; exact (hg j hj).1) ?_
    refine g_callV (As := [.ref _]) (rest := []) hC hU hP hS hl.1 (c_X5_orNewer l N0 D cy _ _ (f j) (g j) (hf j hj).2 (hg j hj).2) mL_X1_108 iM_X5_orNewer sL_X5_orNewer iN_X5 cD_X5_orNewer ⟨by decide, by decide, rfl⟩ ⟨by decide, by decide⟩ ⟨by decide, by decide⟩ (ci := 5) rfl (by decide) ((hf j hj).2) rfl (Nat.le_of_ble_eq_true rfl) dX1_wishWith_42 (fun v S1 H locs hw hP hz hS => ?_)
    obtain ⟨hv1, hS1, hz2⟩ := hw
    replace hS1 := hS1.symm
    subst hS1
    replace hv1 : v = some (.ref (nwS S f g j)) := hv1
    subst hv1
    replace hsz := hz2.trans hsz
    have hzk : gK S (nwS S f g j) = 6 := by
      unfold nwS nwr
      split
      · exact (hg j hj).2
      · exact (hf j hj).2
    refine lv_astore_n (lv' := [(3, .ref _), (2, .int _), (0, .ref _), (1, .ref _)]) hx hb dX1_wishWith_45 rfl hl (by decide) rfl (fun ls hl => ?_)
    refine lv_aload_n hx hb dX1_wishWith_46 rfl (lv_at hl 2 rfl) ?_
    refine gt_X1_121 hC hP (ha) dX1_wishWith_47 ?_
    refine lv_aload_n hx hb dX1_wishWith_50 rfl (lv_at hl 0 rfl) ?_
    refine gt_X1_124 hC hP (hzk) dX1_wishWith_51 ?_
    refine lv_lconst (v := 1) hx hb dX1_wishWith_54 rfl ?_
    refine lv_ladd hx hb dX1_wishWith_55 ?_
    refine g_maxl hC hl.1 mL_X1_127 (by decide) (Nat.le_of_ble_eq_true rfl) (by decide) (by decide) dX1_wishWith_56 ?_
    refine lv_lstore (lv' := [(4, .long _), (3, .ref _), (2, .int _), (0, .ref _), (1, .ref _)]) hx hb dX1_wishWith_59 hl (by decide) rfl (fun ls hl => ?_)
    refine lv_lload hx hb dX1_wishWith_61 (lv_at hl 0 rfl) ?_
    refine lv_ldc2 hx hb hC.2.2.2.1 (hC.2.2.2.2.1 _ kJ_X1_130) dX1_wishWith_63 ?_
    refine lv_ladd hx hb dX1_wishWith_66 ?_
    refine lv_lconst (v := 1) hx hb dX1_wishWith_67 rfl ?_
    refine lv_lsub hx hb dX1_wishWith_68 ?_
    refine lv_lstore (lv' := [(6, .long _), (4, .long _), (3, .ref _), (2, .int _), (0, .ref _), (1, .ref _)]) hx hb dX1_wishWith_69 hl (by decide) rfl (fun ls hl => ?_)
    refine lv_lload hx hb dX1_wishWith_71 (lv_at hl 0 rfl) ?_
    refine lv_ldc2 hx hb hC.2.2.2.1 (hC.2.2.2.2.1 _ kJ_X1_132) dX1_wishWith_73 ?_
    refine W.lcmp hx hb dX1_wishWith_76 ?_
    refine lv_if_le (tgt := 82) hx hb dX1_wishWith_77 (by decide) (fun c_77 => ?_) (fun c_77 => ?_)
    · replace c_77 := lc_le.mp c_77
      refine lv_aload_n hx hb dX1_wishWith_82 rfl (lv_at hl 4 rfl) ?_
      refine gt_X1_34 hC hP (ha) (hh) dX1_wishWith_83 ?_
      refine lv_ifnull hx hb dX1_wishWith_86 ?_
      refine lv_aload_n hx hb dX1_wishWith_89 rfl (lv_at hl 4 rfl) ?_
      refine gt_X1_34 hC hP (ha) (hh) dX1_wishWith_90 ?_
      refine gt_X1_134 hC hP (hhk) (hrh) dX1_wishWith_93 ?_
      refine gt_X1_137 hC hP (hrhk) dX1_wishWith_96 ?_
      refine lv_goto (tgt := 108) hx hb dX1_wishWith_99 (by decide) ?_
      refine lv_istore (lv' := [(8, .int _), (6, .long _), (4, .long _), (3, .ref _), (2, .int _), (0, .ref _), (1, .ref _)]) hx hb dX1_wishWith_108 hl (by decide) rfl (fun ls hl => ?_)
      have alt : a < sz := by rw [← hsz]; exact hP.lt (by omega)
      refine g_new hC hP hS (ci := 0) rfl (by decide) uW_X0 tyX0_ok (by decide) kL_X1_113 iB_X0 iN_X0 (by decide) (by decide) dX1_wishWith_110 (fun H1 hP1 hz1 hS1 => ?_)
      rw [hsz] at hP1 hz1 ⊢
      replace hsz := hz1
      clear hz1
      have hP := hP1
      have hS := hS1
      clear hP1 hS1
      refine lv_dup hx hb dX1_wishWith_113 rfl ?_
      refine lv_iload_n hx hb dX1_wishWith_114 rfl (lv_at hl 4 rfl) ?_
      refine lv_lload hx hb dX1_wishWith_115 (lv_at hl 2 rfl) ?_
      refine g_new hC hP hS (ci := 5) rfl (by decide) uW_X5 tyX5_ok (by decide) kL_X1_15 iB_X5 iN_X5 (by decide) (by decide) dX1_wishWith_117 (fun H1 hP1 hz1 hS1 => ?_)
      rw [hsz] at hP1 hz1 ⊢
      replace hsz := hz1
      clear hz1
      have hP := hP1
      have hS := hS1
      clear hP1 hS1
      refine lv_dup hx hb dX1_wishWith_120 rfl ?_
      refine lv_aload_n hx hb dX1_wishWith_121 rfl (lv_at hl 5 rfl) ?_
      refine gt_X1_50 hC hP (kN (by omega) (kN (by omega) (ha))) dX1_wishWith_122 ?_
      refine lv_aload_n hx hb dX1_wishWith_125 rfl (lv_at hl 5 rfl) ?_
      refine gt_X1_27 hC hP (kN (by omega) (kN (by omega) (ha))) dX1_wishWith_126 ?_
      refine lv_iload hx hb dX1_wishWith_129 (lv_at hl 0 rfl) ?_
      refine lv_lload hx hb dX1_wishWith_131 (lv_at hl 1 rfl) ?_
      rw [gI_N (by omega), gI_N (by omega), gI_N (by omega), gI_N (by omega)]
      refine g_callI (As := [.int _, .int _, .int _, .long _]) (rest := [.ref _, .long _, .int _, .ref _, .ref _]) hC hU hP hS hl.1 (c_X5_init l N0 D cy _ _ (sz + 1) _ _ _ _ kN_s) mL_X1_140 iM_X5_init iN_X5 cD_X5_init rfl ⟨by decide, by decide, rfl⟩ ⟨by decide, by decide⟩ ⟨by decide, by decide⟩ rfl (Nat.le_of_ble_eq_true rfl) dX1_wishWith_133 (fun v S1 H locs hw hP hz hS => ?_)
      obtain ⟨rfl, hS1, hz2⟩ := hw
      replace hS1 := hS1.symm
      subst hS1
      replace hsz := hz2.trans hsz
      refine g_callI (As := [.int _, .long _, .ref _]) (rest := [.ref _]) hC hU hP hS hl.1 (c_X0_init l N0 D cy _ _ sz _ _ (sz + 1) (kJ (kI (kI (kI (kN (by omega) kN_s)))))) mL_X1_143 iM_X0_init iN_X0 cD_X0_init rfl ⟨by decide, by decide, rfl⟩ ⟨by decide, by decide⟩ ⟨by decide, by decide⟩ rfl (Nat.le_of_ble_eq_true rfl) dX1_wishWith_136 (fun v S1 H locs hw hP hz hS => ?_)
      obtain ⟨rfl, hS1, hz2⟩ := hw
      replace hS1 := hS1.symm
      subst hS1
      replace hsz := hz2.trans hsz
      exact g_aret (v := some _) hC hP hS hr hlk (by decide) (by decide) (by unfold cWish; rw [if_neg (show ¬ 2199023255551 < wFirst S a (nwS S f g j) + 60000 - 1 from Int64.not_lt.mpr c_77)]; exact ⟨rfl, rfl, hsz⟩) dX1_wishWith_139
    · replace c_77 := fun h => c_77 (lc_le.mpr h)
      refine lv_null hx hb dX1_wishWith_80 ?_
      exact g_aret (v := none) hC hP hS hr hlk (by decide) (by decide) (by unfold cWish; rw [if_pos (show 2199023255551 < wFirst S a (nwS S f g j) + 60000 - 1 from Int64.not_le.mp c_77)]; exact ⟨rfl, rfl, hsz⟩) dX1_wishWith_81
  · exact absurd c_25 (nIm1 (by omega))

