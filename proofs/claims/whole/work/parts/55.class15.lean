set_option linter.constructorNameAsVariable false
theorem nek {S : gS} {a b m n : Nat} (h1 : gK S a = m) (h2 : gK S b = n) (h : m ≠ n) : a ≠ b := fun e => h (by rw [← h1, ← h2, e])
theorem tkf_L {lt : Nat → Nat} {k L : Nat} (hk : k < L) (hL : L ≤ 90) : tkf lt k (L - 1) = lt L := by
  unfold tkf
  rw [if_neg (by omega), if_pos (by omega), show L - 1 + 1 = L by omega]
set_option maxRecDepth 100000 in
set_option maxHeartbeats 4000000 in
theorem c_X6_deliverX (l : Launch) (hls : l.stackTraces = false) (N0 : Nat) (D : va_G) (cy : Nat → ClassId) (S : gS) (sz : Nat) (x : Nat) (hxk : gK S x = 7) (po pl L : Nat) (lt : Nat → Nat) (hpo : gR S x 3 = some po) (hpok : gK S po = 5) (hpl : gR S po 0 = some pl) (hplk : gK S pl = 13) (hpln : gn S pl = 91) (hL : gI S po 1 = nI L) (hL2 : L ≤ 90) (hlt : ∀ k, k < 91 → gR S pl k = some (lt k)) (hltk : ∀ k, gK S (lt k) = 3) (p0 : Int32) (hp0 : ¬ (0 ≤ p0 ∧ p0 < nI L)) : gMX l yX6_deliver cX6_deliver 4 (some FieldType.int) { frames := 7, cells := 3, slots := 13, locals := 170 } N0 D cy [.ref x, .int p0] S sz (fun v S1 z => False) (fun E S1 => E = exO ∧ S1 = S) := by
  refine bodyX (by decide) rfl (Nat.le_of_ble_eq_true rfl) ?_
  intro p e s m args below meth c ls hC hU hZ hne hr hlk hnm hsz hP hS hl
  have hx := hC.1
  have hb := hC.2.1
  refine lv_iload_n hx hb dX6_deliver_0 rfl (lv_at hl 1 rfl) ?_
  refine lv_aload_n hx hb dX6_deliver_1 rfl (lv_at hl 0 rfl) ?_
  refine gt_X6_35 hC hP (hxk) (hpo) dX6_deliver_2 ?_
  refine gt_X6_97 hC hP (hpok) dX6_deliver_5 ?_
  rw [hL]
  refine g_callS (As := [.int _, .int _]) (rest := []) hC hU hP hS hl.1 (c_X6_isWithin l N0 D cy _ _ _ _) mL_X6_43 sT_X6_isWithin iN_X6 cD_X6_isWithin ⟨by decide, by decide, rfl⟩ ⟨by decide, by decide⟩ ⟨by decide, by decide⟩ rfl (Nat.le_of_ble_eq_true rfl) dX6_deliver_8 (fun v S1 H locs hw hP hz hS => ?_)
  obtain ⟨rfl, hS1, hz2⟩ := hw
  replace hS1 := hS1.symm
  subst hS1
  replace hsz := hz2.trans hsz
  refine lv_if_ne (tgt := 24) hx hb dX6_deliver_11 (by decide) (fun c_11 => ?_) (fun c_11 => ?_)
  · exact absurd (th1 c_11) hp0
  · exact g_thrO (is := 100) (text := "no such letter") hC hls hZ hne hlk hP hS hl.1 (by decide) dX6_deliver_14 dX6_deliver_17 dX6_deliver_18 dX6_deliver_20 dX6_deliver_23 ⟨by decide, by decide⟩ ⟨by decide, by decide⟩ ⟨by decide, by decide⟩ (⟨rfl, rfl⟩)

def cHand (S : gS) (nd lt po q rq ra rw : Nat) (f : Nat → Nat) (v : Option Value) (S1 : gS) : Prop := (gI S nd 0 = 0 ∧ v = some (.int 0) ∧ S1 = S) ∨ (gI S nd 0 ≠ 0 ∧ gI S lt 0 = 0 ∧ v = some (.int 1) ∧ S1 = cPrepA S nd lt po q rq f) ∨ (gI S nd 0 ≠ 0 ∧ gI S lt 0 ≠ 0 ∧ v = some (.int 1) ∧ S1 = cAccA S nd lt po q ra rw)
theorem cHand_v {S S1 : gS} {nd lt po q rq ra rw : Nat} {f : Nat → Nat} {v : Option Value} (h : cHand S nd lt po q rq ra rw f v S1) : ∃ r : Int32, v = some (.int r) := by
  rcases h with ⟨_, h, _⟩ | ⟨_, _, h, _⟩ | ⟨_, _, h, _⟩ <;> exact ⟨_, h⟩
theorem dcP_v {S S1 : gS} {a po pl L k sz z : Nat} {lt : Nat → Nat} {Nu : Prop} {Ok : Nat → Nat → Int32 → Prop} {v : Option Value} (h : dcP S a po pl lt L k sz Nu Ok v S1 z) : ∃ r : Int32, v = some (.int r) := by
  rcases h with ⟨_, h, _⟩ | ⟨_, _, _, _, _, h, _⟩ <;> exact ⟨_, h⟩
set_option maxRecDepth 100000 in
set_option maxHeartbeats 4000000 in
theorem c_X6_deliverN (l : Launch) (hls : l.stackTraces = false) (N0 : Nat) (D : va_G) (cy : Nat → ClassId) (S : gS) (sz : Nat) (x : Nat) (hxk : gK S x = 7) (po pl L : Nat) (lt : Nat → Nat) (hpo : gR S x 3 = some po) (hpok : gK S po = 5) (hpl : gR S po 0 = some pl) (hplk : gK S pl = 13) (hpln : gn S pl = 91) (hL : gI S po 1 = nI L) (hL2 : L ≤ 90) (hlt : ∀ k, k < 91 → gR S pl k = some (lt k)) (hltk : ∀ k, gK S (lt k) = 3) (k : Nat) (hk : k < L) (hkd : gI S (lt k) 0 = 0 ∨ gI S (lt k) 0 = 2) (ns nd n0 ra rq rw : Nat) (f : Nat → Nat) (hns : gR S x 1 = some ns) (hnsk : gK S ns = 14) (hnsn : gn S ns = 5) (hn0 : gI S (lt k) 2 = nI n0) (hn5 : n0 < 5) (hnd : gR S ns n0 = some nd) (hndk : gK S nd = 4) (hra : gR S nd 2 = some ra) (hrak : gK S ra = 15) (hran : gn S ra = 8) (hf : ∀ j, j < 8 → gR S ra j = some (f j) ∧ gK S (f j) = 6) (hrw : gR S (lt k) 6 = some rw) (hrwk : gK S rw = 6) (hin : gI S (lt k) 0 ≠ 0 → vp_in (gI S (lt k) 4) 8) (hrq : gR S (lt L) 7 = some rq) (hrqk : gK S rq = 15) (hrqn : gn S rq = 8) : gMX l yX6_deliver cX6_deliver 4 (some FieldType.int) { frames := 7, cells := 3, slots := 13, locals := 170 } N0 D cy [.ref x, .int (nI k)] S sz (fun v S1 z => z = sz ∧ cHand (cTake S po pl lt k) nd (lt k) po (lt L) rq ra rw f v S1) (fun E S1 => False) := by
  refine bodyX (by decide) rfl (Nat.le_of_ble_eq_true rfl) ?_
  intro p e s m args below meth c ls hC hU hZ hne hr hlk hnm hsz hP hS hl
  have hx := hC.1
  have hb := hC.2.1
  refine lv_iload_n hx hb dX6_deliver_0 rfl (lv_at hl 1 rfl) ?_
  refine lv_aload_n hx hb dX6_deliver_1 rfl (lv_at hl 0 rfl) ?_
  refine gt_X6_35 hC hP (hxk) (hpo) dX6_deliver_2 ?_
  refine gt_X6_97 hC hP (hpok) dX6_deliver_5 ?_
  rw [hL]
  refine g_callS (As := [.int _, .int _]) (rest := []) hC hU hP hS hl.1 (c_X6_isWithin l N0 D cy _ _ _ _) mL_X6_43 sT_X6_isWithin iN_X6 cD_X6_isWithin ⟨by decide, by decide, rfl⟩ ⟨by decide, by decide⟩ ⟨by decide, by decide⟩ rfl (Nat.le_of_ble_eq_true rfl) dX6_deliver_8 (fun v S1 H locs hw hP hz hS => ?_)
  obtain ⟨rfl, hS1, hz2⟩ := hw
  replace hS1 := hS1.symm
  subst hS1
  replace hsz := hz2.trans hsz
  refine lv_if_ne (tgt := 24) hx hb dX6_deliver_11 (by decide) (fun c_11 => ?_) (fun c_11 => ?_)
  · refine lv_aload_n hx hb dX6_deliver_24 rfl (lv_at hl 0 rfl) ?_
    refine gt_X6_35 hC hP (hxk) (hpo) dX6_deliver_25 ?_
    refine lv_iload_n hx hb dX6_deliver_28 rfl (lv_at hl 1 rfl) ?_
    refine g_callV (As := [.int _]) (rest := []) hC hU hP hS hl.1 (c_X4_at l N0 D cy _ _ po pl (lt k) _ hpok hpl hplk (by rw [hpln]; exact vp_in_nI (by omega) (by decide)) (by rw [nI_clamp (by omega)]; exact hlt k (by omega))) mL_X6_102 iM_X4_at sL_X4_at iN_X4 cD_X4_at ⟨by decide, by decide, rfl⟩ ⟨by decide, by decide⟩ ⟨by decide, by decide⟩ (ci := 4) rfl (by decide) (hpok) rfl (Nat.le_of_ble_eq_true rfl) dX6_deliver_29 (fun v S1 H locs hw hP hz hS => ?_)
    obtain ⟨rfl, hS1, hz2⟩ := hw
    replace hS1 := hS1.symm
    subst hS1
    replace hsz := hz2.trans hsz
    refine lv_astore_n (lv' := [(2, .ref _), (0, .ref _), (1, .int _)]) hx hb dX6_deliver_32 rfl hl (by decide) rfl (fun ls hl => ?_)
    refine lv_aload_n hx hb dX6_deliver_33 rfl (lv_at hl 0 rfl) ?_
    refine g_callV (As := []) (rest := []) hC hU hP hS hl.1 (c_X2_isToNode l N0 D cy _ _ (lt k) (hltk k)) mL_X6_106 iM_X2_isToNode sL_X2_isToNode iN_X2 cD_X2_isToNode ⟨by decide, by decide, rfl⟩ ⟨by decide, by decide⟩ ⟨by decide, by decide⟩ (ci := 2) rfl (by decide) (hltk k) rfl (Nat.le_of_ble_eq_true rfl) dX6_deliver_34 (fun v S1 H locs hw hP hz hS => ?_)
    obtain ⟨rfl, hS1, hz2⟩ := hw
    replace hS1 := hS1.symm
    subst hS1
    replace hsz := hz2.trans hsz
    refine lv_if_eq (tgt := 54) hx hb dX6_deliver_37 (by decide) (fun c_37 => ?_) (fun c_37 => ?_)
    · exact absurd hkd (th0 c_37)
    · refine lv_aload_n hx hb dX6_deliver_40 rfl (lv_at hl 1 rfl) ?_
      refine gt_X6_35 hC hP (hxk) (hpo) dX6_deliver_41 ?_
      refine lv_iload_n hx hb dX6_deliver_44 rfl (lv_at hl 2 rfl) ?_
      refine g_callV (As := [.int _]) (rest := []) hC hU hP hS hl.1 (c_X4_take l N0 D cy _ _ po pl k lt hpok hpl hplk hpln (fun j hj => ⟨hlt j hj, hltk j⟩) (by omega)) mL_X6_111 iM_X4_take sL_X4_take iN_X4 cD_X4_take ⟨by decide, by decide, rfl⟩ ⟨by decide, by decide⟩ ⟨by decide, by decide⟩ (ci := 4) rfl (by decide) (hpok) rfl (Nat.le_of_ble_eq_true rfl) dX6_deliver_45 (fun v S1 H locs hw hP hz hS => ?_)
      obtain ⟨rfl, hS1, hz2⟩ := hw
      replace hS1 := hS1.symm
      subst hS1
      replace hsz := hz2.trans hsz
      replace hP : gP N0 D cy (cTake S po pl lt k) H := hP
      refine lv_aload_n hx hb dX6_deliver_48 rfl (lv_at hl 1 rfl) ?_
      refine lv_aload_n hx hb dX6_deliver_49 rfl (lv_at hl 0 rfl) ?_
      refine g_callV (As := [.ref _]) (rest := []) hC hU hP hS hl.1 (c_X6_handToNode l N0 D cy _ _ x (lt k) ns nd n0 ra rq rw f (kTk hxk) (kTk (hltk k)) (rTk (nek hxk hplk (by decide)) hns) (kTk hnsk) (nTk hnsn) (by rw [gI_Tk (nek (hltk k) hpok (by decide))]; exact hn0) hn5 (rTk (nek hnsk hplk (by decide)) hnd) (kTk hndk) (rTk (nek hndk hplk (by decide)) hra) (kTk hrak) (nTk hran) (fun j hj => ⟨rTk (nek hrak hplk (by decide)) (hf j hj).1, kTk (hf j hj).2⟩) (rTk (nek (hltk k) hplk (by decide)) hrw) (kTk hrwk) (fun h => by rw [gI_Tk (nek (hltk k) hpok (by decide))] at h ⊢; exact hin h) po pl (lt L) (rTk (nek hxk hplk (by decide)) hpo) (kTk hpok) (rTk (nek hpok hplk (by decide)) hpl) (kTk hplk) (by rw [gI_Tk1 hL (by omega), nTk hpln]; exact vp_in_nI (by omega) (by decide)) (by rw [gI_Tk1 hL (by omega), nI_clamp (by omega), gR_Tk (by omega), tkf_L hk hL2]) (kTk (hltk L)) (rTk (nek (hltk L) hplk (by decide)) hrq) (kTk hrqk) (nTk hrqn)) mL_X6_115 iM_X6_handToNode sL_X6_handToNode iN_X6 cD_X6_handToNode ⟨by decide, by decide, rfl⟩ ⟨by decide, by decide⟩ ⟨by decide, by decide⟩ (ci := 6) rfl (by decide) (kTk (hxk)) rfl (Nat.le_of_ble_eq_true rfl) dX6_deliver_50 (fun v S1 H locs hw hP hz hS => ?_)
      obtain ⟨hz2, hw⟩ := hw
      replace hsz := hz2.trans hsz
      replace hw : cHand (cTake S po pl lt k) nd (lt k) po (lt L) rq ra rw f v S1 := hw
      obtain ⟨r9, rfl⟩ := cHand_v hw
      exact vx_ret (g_iret hC hP hS hr hlk (by decide) (by decide) (⟨hsz, hw⟩) dX6_deliver_53)
  · exact absurd ⟨nI_pos' (by omega), nI_lt hk (by omega)⟩ (th0 c_11)

set_option maxRecDepth 100000 in
set_option maxHeartbeats 4000000 in
theorem c_X6_deliverD0 (l : Launch) (hls : l.stackTraces = false) (N0 : Nat) (D : va_G) (cy : Nat → ClassId) (S : gS) (sz : Nat) (x : Nat) (hxk : gK S x = 7) (po pl L : Nat) (lt : Nat → Nat) (hpo : gR S x 3 = some po) (hpok : gK S po = 5) (hpl : gR S po 0 = some pl) (hplk : gK S pl = 13) (hpln : gn S pl = 91) (hL : gI S po 1 = nI L) (hL2 : L ≤ 90) (hlt : ∀ k, k < 91 → gR S pl k = some (lt k)) (hltk : ∀ k, gK S (lt k) = 3) (k : Nat) (hk : k < L) (hkd : ¬ (gI S (lt k) 0 = 0 ∨ gI S (lt k) 0 = 2)) (is a i0 sa rl : Nat) (f g : Nat → Nat) (his : gR S x 0 = some is) (hisk : gK S is = 12) (hisn : gn S is = 8) (hi0v : gI S (lt k) 1 = nI i0) (hi0 : i0 < 8) (hia : gR S is i0 = some a) (ha : gK S a = 2) (hsa : gR S a 8 = some sa) (hsak : gK S sa = 15) (hsan : gn S sa = 8) (hrl : gR S (lt k) 7 = some rl) (hrlk : gK S rl = 15) (hrln : gn S rl = 8) (hf : ∀ j, j < 8 → gR S sa j = some (f j) ∧ gK S (f j) = 6) (hg : ∀ j, j < 8 → gR S rl j = some (g j) ∧ gK S (g j) = 6) (un : Nat) (hdc : (gI S (lt k) 0 = 1 ∧ cCounts S a (lt k) 1 ∧ cMaj S a (lt k))) (hh : gR S a 11 = none) : gMX l yX6_deliver cX6_deliver 4 (some FieldType.int) { frames := 7, cells := 3, slots := 13, locals := 170 } N0 D cy [.ref x, .int (nI k)] S sz (dcP S a po pl lt L k sz (nu0 S a f g) (ok0 S a f g)) (dcX S a L sz (ok0 S a f g)) := by
  refine bodyX (by decide) rfl (Nat.le_of_ble_eq_true rfl) ?_
  intro p e s m args below meth c ls hC hU hZ hne hr hlk hnm hsz hP hS hl
  have hx := hC.1
  have hb := hC.2.1
  refine lv_iload_n hx hb dX6_deliver_0 rfl (lv_at hl 1 rfl) ?_
  refine lv_aload_n hx hb dX6_deliver_1 rfl (lv_at hl 0 rfl) ?_
  refine gt_X6_35 hC hP (hxk) (hpo) dX6_deliver_2 ?_
  refine gt_X6_97 hC hP (hpok) dX6_deliver_5 ?_
  rw [hL]
  refine g_callS (As := [.int _, .int _]) (rest := []) hC hU hP hS hl.1 (c_X6_isWithin l N0 D cy _ _ _ _) mL_X6_43 sT_X6_isWithin iN_X6 cD_X6_isWithin ⟨by decide, by decide, rfl⟩ ⟨by decide, by decide⟩ ⟨by decide, by decide⟩ rfl (Nat.le_of_ble_eq_true rfl) dX6_deliver_8 (fun v S1 H locs hw hP hz hS => ?_)
  obtain ⟨rfl, hS1, hz2⟩ := hw
  replace hS1 := hS1.symm
  subst hS1
  replace hsz := hz2.trans hsz
  refine lv_if_ne (tgt := 24) hx hb dX6_deliver_11 (by decide) (fun c_11 => ?_) (fun c_11 => ?_)
  · refine lv_aload_n hx hb dX6_deliver_24 rfl (lv_at hl 0 rfl) ?_
    refine gt_X6_35 hC hP (hxk) (hpo) dX6_deliver_25 ?_
    refine lv_iload_n hx hb dX6_deliver_28 rfl (lv_at hl 1 rfl) ?_
    refine g_callV (As := [.int _]) (rest := []) hC hU hP hS hl.1 (c_X4_at l N0 D cy _ _ po pl (lt k) _ hpok hpl hplk (by rw [hpln]; exact vp_in_nI (by omega) (by decide)) (by rw [nI_clamp (by omega)]; exact hlt k (by omega))) mL_X6_102 iM_X4_at sL_X4_at iN_X4 cD_X4_at ⟨by decide, by decide, rfl⟩ ⟨by decide, by decide⟩ ⟨by decide, by decide⟩ (ci := 4) rfl (by decide) (hpok) rfl (Nat.le_of_ble_eq_true rfl) dX6_deliver_29 (fun v S1 H locs hw hP hz hS => ?_)
    obtain ⟨rfl, hS1, hz2⟩ := hw
    replace hS1 := hS1.symm
    subst hS1
    replace hsz := hz2.trans hsz
    refine lv_astore_n (lv' := [(2, .ref _), (0, .ref _), (1, .int _)]) hx hb dX6_deliver_32 rfl hl (by decide) rfl (fun ls hl => ?_)
    refine lv_aload_n hx hb dX6_deliver_33 rfl (lv_at hl 0 rfl) ?_
    refine g_callV (As := []) (rest := []) hC hU hP hS hl.1 (c_X2_isToNode l N0 D cy _ _ (lt k) (hltk k)) mL_X6_106 iM_X2_isToNode sL_X2_isToNode iN_X2 cD_X2_isToNode ⟨by decide, by decide, rfl⟩ ⟨by decide, by decide⟩ ⟨by decide, by decide⟩ (ci := 2) rfl (by decide) (hltk k) rfl (Nat.le_of_ble_eq_true rfl) dX6_deliver_34 (fun v S1 H locs hw hP hz hS => ?_)
    obtain ⟨rfl, hS1, hz2⟩ := hw
    replace hS1 := hS1.symm
    subst hS1
    replace hsz := hz2.trans hsz
    refine lv_if_eq (tgt := 54) hx hb dX6_deliver_37 (by decide) (fun c_37 => ?_) (fun c_37 => ?_)
    · refine lv_aload_n hx hb dX6_deliver_54 rfl (lv_at hl 1 rfl) ?_
      refine gt_X6_11 hC hP (hxk) (his) dX6_deliver_55 ?_
      refine lv_aload_n hx hb dX6_deliver_58 rfl (lv_at hl 0 rfl) ?_
      refine gt_X6_119 hC hP (hltk k) dX6_deliver_59 ?_
      rw [hi0v]
      refine g_aald hC hP (j := 0) (by decide) (hisk) (by rw [hisn]; exact vp_in_nI hi0 (by decide)) dX6_deliver_62 ?_
      refine g_rf (by rw [nI_clamp (by omega)]; exact hia) ?_
      refine lv_astore_n (lv' := [(3, .ref _), (2, .ref _), (0, .ref _), (1, .int _)]) hx hb dX6_deliver_63 rfl hl (by decide) rfl (fun ls hl => ?_)
      refine lv_aload_n hx hb dX6_deliver_64 rfl (lv_at hl 0 rfl) ?_
      refine lv_aload_n hx hb dX6_deliver_65 rfl (lv_at hl 1 rfl) ?_
      refine g_callV (As := [.ref _]) (rest := []) hC hU hP hS hl.1 (c_X1_isDecidedBy l N0 D cy _ _ a (lt k) ha (hltk k)) mL_X6_122 iM_X1_isDecidedBy sL_X1_isDecidedBy iN_X1 cD_X1_isDecidedBy ⟨by decide, by decide, rfl⟩ ⟨by decide, by decide⟩ ⟨by decide, by decide⟩ (ci := 1) rfl (by decide) (ha) rfl (Nat.le_of_ble_eq_true rfl) dX6_deliver_66 (fun v S1 H locs hw hP hz hS => ?_)
      obtain ⟨⟨r9, rfl, _, hr9⟩, hS1, hz2⟩ := hw
      replace hS1 := hS1.symm
      subst hS1
      replace hsz := hz2.trans hsz
      refine lv_if_eq (tgt := 79) hx hb dX6_deliver_69 (by decide) (fun c_69 => ?_) (fun c_69 => ?_)
      · exact absurd hdc (mt hr9.mpr (not_not_intro c_69))
      · refine lv_aload_n hx hb dX6_deliver_72 rfl (lv_at hl 2 rfl) ?_
        refine lv_aload_n hx hb dX6_deliver_73 rfl (lv_at hl 0 rfl) ?_
        refine lv_iload_n hx hb dX6_deliver_74 rfl (lv_at hl 3 rfl) ?_
        rw [← hsz] at *
        refine g_callVX (As := [.ref _, .int _]) (rest := []) hC hU hZ hP hS hl.1 (c_X6_decide0 l hls N0 D cy _ _ x a po pl L k sa un rl lt f g hxk ha hpo hpok hpl hplk hpln hL hL2 hk hlt hltk hsa hsak hsan hrl hrlk hrln hf hg hh) mL_X6_126 iM_X6_decide sL_X6_decide iN_X6 cD_X6_decide ⟨by decide, by decide, rfl⟩ ⟨by decide, by decide⟩ ⟨by decide, by decide⟩ (ci := 6) rfl (by decide) hxk rfl (Nat.le_of_ble_eq_true rfl) dX6_deliver_75 (fun E S1 ce q9 H locs hw hP hz hS hce hcv hcl => ?_) (fun v S1 H locs hw hP hz hS => ?_)
        · exact g_outX hne hlk hP hS hce hcv hcl ⟨by decide, by decide⟩ hw
        · obtain ⟨r9, rfl⟩ := dcP_v hw
          exact vx_ret (g_iret hC hP hS hr hlk (by decide) (by decide) hw dX6_deliver_78)
    · exact absurd (th1 c_37) hkd
  · exact absurd ⟨nI_pos' (by omega), nI_lt hk (by omega)⟩ (th0 c_11)
set_option maxRecDepth 100000 in
set_option maxHeartbeats 4000000 in
theorem c_X6_deliverD1 (l : Launch) (hls : l.stackTraces = false) (N0 : Nat) (D : va_G) (cy : Nat → ClassId) (S : gS) (sz : Nat) (x : Nat) (hxk : gK S x = 7) (po pl L : Nat) (lt : Nat → Nat) (hpo : gR S x 3 = some po) (hpok : gK S po = 5) (hpl : gR S po 0 = some pl) (hplk : gK S pl = 13) (hpln : gn S pl = 91) (hL : gI S po 1 = nI L) (hL2 : L ≤ 90) (hlt : ∀ k, k < 91 → gR S pl k = some (lt k)) (hltk : ∀ k, gK S (lt k) = 3) (k : Nat) (hk : k < L) (hkd : ¬ (gI S (lt k) 0 = 0 ∨ gI S (lt k) 0 = 2)) (is a i0 sa rl : Nat) (f g : Nat → Nat) (his : gR S x 0 = some is) (hisk : gK S is = 12) (hisn : gn S is = 8) (hi0v : gI S (lt k) 1 = nI i0) (hi0 : i0 < 8) (hia : gR S is i0 = some a) (ha : gK S a = 2) (hsa : gR S a 8 = some sa) (hsak : gK S sa = 15) (hsan : gn S sa = 8) (hrl : gR S (lt k) 7 = some rl) (hrlk : gK S rl = 15) (hrln : gn S rl = 8) (hf : ∀ j, j < 8 → gR S sa j = some (f j) ∧ gK S (f j) = 6) (hg : ∀ j, j < 8 → gR S rl j = some (g j) ∧ gK S (g j) = 6) (un : Nat) (hdc : (gI S (lt k) 0 = 1 ∧ cCounts S a (lt k) 1 ∧ cMaj S a (lt k))) (h rh j0 : Nat) (hh : gR S a 11 = some h) (hhk : gK S h = 1) (hrh : gR S h 2 = some rh) (hrhk : gK S rh = 6) (hst : gI S h 0 = nI j0) (hj : j0 < 8) : gMX l yX6_deliver cX6_deliver 4 (some FieldType.int) { frames := 7, cells := 3, slots := 13, locals := 170 } N0 D cy [.ref x, .int (nI k)] S sz (dcP S a po pl lt L k sz (nu1 S a f g j0) (ok1 S a f g j0 rh)) (dcX S a L sz (ok1 S a f g j0 rh)) := by
  refine bodyX (by decide) rfl (Nat.le_of_ble_eq_true rfl) ?_
  intro p e s m args below meth c ls hC hU hZ hne hr hlk hnm hsz hP hS hl
  have hx := hC.1
  have hb := hC.2.1
  refine lv_iload_n hx hb dX6_deliver_0 rfl (lv_at hl 1 rfl) ?_
  refine lv_aload_n hx hb dX6_deliver_1 rfl (lv_at hl 0 rfl) ?_
  refine gt_X6_35 hC hP (hxk) (hpo) dX6_deliver_2 ?_
  refine gt_X6_97 hC hP (hpok) dX6_deliver_5 ?_
  rw [hL]
  refine g_callS (As := [.int _, .int _]) (rest := []) hC hU hP hS hl.1 (c_X6_isWithin l N0 D cy _ _ _ _) mL_X6_43 sT_X6_isWithin iN_X6 cD_X6_isWithin ⟨by decide, by decide, rfl⟩ ⟨by decide, by decide⟩ ⟨by decide, by decide⟩ rfl (Nat.le_of_ble_eq_true rfl) dX6_deliver_8 (fun v S1 H locs hw hP hz hS => ?_)
  obtain ⟨rfl, hS1, hz2⟩ := hw
  replace hS1 := hS1.symm
  subst hS1
  replace hsz := hz2.trans hsz
  refine lv_if_ne (tgt := 24) hx hb dX6_deliver_11 (by decide) (fun c_11 => ?_) (fun c_11 => ?_)
  · refine lv_aload_n hx hb dX6_deliver_24 rfl (lv_at hl 0 rfl) ?_
    refine gt_X6_35 hC hP (hxk) (hpo) dX6_deliver_25 ?_
    refine lv_iload_n hx hb dX6_deliver_28 rfl (lv_at hl 1 rfl) ?_
    refine g_callV (As := [.int _]) (rest := []) hC hU hP hS hl.1 (c_X4_at l N0 D cy _ _ po pl (lt k) _ hpok hpl hplk (by rw [hpln]; exact vp_in_nI (by omega) (by decide)) (by rw [nI_clamp (by omega)]; exact hlt k (by omega))) mL_X6_102 iM_X4_at sL_X4_at iN_X4 cD_X4_at ⟨by decide, by decide, rfl⟩ ⟨by decide, by decide⟩ ⟨by decide, by decide⟩ (ci := 4) rfl (by decide) (hpok) rfl (Nat.le_of_ble_eq_true rfl) dX6_deliver_29 (fun v S1 H locs hw hP hz hS => ?_)
    obtain ⟨rfl, hS1, hz2⟩ := hw
    replace hS1 := hS1.symm
    subst hS1
    replace hsz := hz2.trans hsz
    refine lv_astore_n (lv' := [(2, .ref _), (0, .ref _), (1, .int _)]) hx hb dX6_deliver_32 rfl hl (by decide) rfl (fun ls hl => ?_)
    refine lv_aload_n hx hb dX6_deliver_33 rfl (lv_at hl 0 rfl) ?_
    refine g_callV (As := []) (rest := []) hC hU hP hS hl.1 (c_X2_isToNode l N0 D cy _ _ (lt k) (hltk k)) mL_X6_106 iM_X2_isToNode sL_X2_isToNode iN_X2 cD_X2_isToNode ⟨by decide, by decide, rfl⟩ ⟨by decide, by decide⟩ ⟨by decide, by decide⟩ (ci := 2) rfl (by decide) (hltk k) rfl (Nat.le_of_ble_eq_true rfl) dX6_deliver_34 (fun v S1 H locs hw hP hz hS => ?_)
    obtain ⟨rfl, hS1, hz2⟩ := hw
    replace hS1 := hS1.symm
    subst hS1
    replace hsz := hz2.trans hsz
    refine lv_if_eq (tgt := 54) hx hb dX6_deliver_37 (by decide) (fun c_37 => ?_) (fun c_37 => ?_)
    · refine lv_aload_n hx hb dX6_deliver_54 rfl (lv_at hl 1 rfl) ?_
      refine gt_X6_11 hC hP (hxk) (his) dX6_deliver_55 ?_
      refine lv_aload_n hx hb dX6_deliver_58 rfl (lv_at hl 0 rfl) ?_
      refine gt_X6_119 hC hP (hltk k) dX6_deliver_59 ?_
      rw [hi0v]
      refine g_aald hC hP (j := 0) (by decide) (hisk) (by rw [hisn]; exact vp_in_nI hi0 (by decide)) dX6_deliver_62 ?_
      refine g_rf (by rw [nI_clamp (by omega)]; exact hia) ?_
      refine lv_astore_n (lv' := [(3, .ref _), (2, .ref _), (0, .ref _), (1, .int _)]) hx hb dX6_deliver_63 rfl hl (by decide) rfl (fun ls hl => ?_)
      refine lv_aload_n hx hb dX6_deliver_64 rfl (lv_at hl 0 rfl) ?_
      refine lv_aload_n hx hb dX6_deliver_65 rfl (lv_at hl 1 rfl) ?_
      refine g_callV (As := [.ref _]) (rest := []) hC hU hP hS hl.1 (c_X1_isDecidedBy l N0 D cy _ _ a (lt k) ha (hltk k)) mL_X6_122 iM_X1_isDecidedBy sL_X1_isDecidedBy iN_X1 cD_X1_isDecidedBy ⟨by decide, by decide, rfl⟩ ⟨by decide, by decide⟩ ⟨by decide, by decide⟩ (ci := 1) rfl (by decide) (ha) rfl (Nat.le_of_ble_eq_true rfl) dX6_deliver_66 (fun v S1 H locs hw hP hz hS => ?_)
      obtain ⟨⟨r9, rfl, _, hr9⟩, hS1, hz2⟩ := hw
      replace hS1 := hS1.symm
      subst hS1
      replace hsz := hz2.trans hsz
      refine lv_if_eq (tgt := 79) hx hb dX6_deliver_69 (by decide) (fun c_69 => ?_) (fun c_69 => ?_)
      · exact absurd hdc (mt hr9.mpr (not_not_intro c_69))
      · refine lv_aload_n hx hb dX6_deliver_72 rfl (lv_at hl 2 rfl) ?_
        refine lv_aload_n hx hb dX6_deliver_73 rfl (lv_at hl 0 rfl) ?_
        refine lv_iload_n hx hb dX6_deliver_74 rfl (lv_at hl 3 rfl) ?_
        rw [← hsz] at *
        refine g_callVX (As := [.ref _, .int _]) (rest := []) hC hU hZ hP hS hl.1 (c_X6_decide1 l hls N0 D cy _ _ x a po pl L k sa un rl lt f g hxk ha hpo hpok hpl hplk hpln hL hL2 hk hlt hltk hsa hsak hsan hrl hrlk hrln hf hg h rh j0 hh hhk hrh hrhk hst hj) mL_X6_126 iM_X6_decide sL_X6_decide iN_X6 cD_X6_decide ⟨by decide, by decide, rfl⟩ ⟨by decide, by decide⟩ ⟨by decide, by decide⟩ (ci := 6) rfl (by decide) hxk rfl (Nat.le_of_ble_eq_true rfl) dX6_deliver_75 (fun E S1 ce q9 H locs hw hP hz hS hce hcv hcl => ?_) (fun v S1 H locs hw hP hz hS => ?_)
        · exact g_outX hne hlk hP hS hce hcv hcl ⟨by decide, by decide⟩ hw
        · obtain ⟨r9, rfl⟩ := dcP_v hw
          exact vx_ret (g_iret hC hP hS hr hlk (by decide) (by decide) hw dX6_deliver_78)
    · exact absurd (th1 c_37) hkd
  · exact absurd ⟨nI_pos' (by omega), nI_lt hk (by omega)⟩ (th0 c_11)
set_option maxRecDepth 100000 in
set_option maxHeartbeats 4000000 in
theorem c_X6_deliverR (l : Launch) (hls : l.stackTraces = false) (N0 : Nat) (D : va_G) (cy : Nat → ClassId) (S : gS) (sz : Nat) (x : Nat) (hxk : gK S x = 7) (po pl L : Nat) (lt : Nat → Nat) (hpo : gR S x 3 = some po) (hpok : gK S po = 5) (hpl : gR S po 0 = some pl) (hplk : gK S pl = 13) (hpln : gn S pl = 91) (hL : gI S po 1 = nI L) (hL2 : L ≤ 90) (hlt : ∀ k, k < 91 → gR S pl k = some (lt k)) (hltk : ∀ k, gK S (lt k) = 3) (k : Nat) (hk : k < L) (hkd : ¬ (gI S (lt k) 0 = 0 ∨ gI S (lt k) 0 = 2)) (is a i0 sa rl : Nat) (f g : Nat → Nat) (his : gR S x 0 = some is) (hisk : gK S is = 12) (hisn : gn S is = 8) (hi0v : gI S (lt k) 1 = nI i0) (hi0 : i0 < 8) (hia : gR S is i0 = some a) (ha : gK S a = 2) (hsa : gR S a 8 = some sa) (hsak : gK S sa = 15) (hsan : gn S sa = 8) (hrl : gR S (lt k) 7 = some rl) (hrlk : gK S rl = 15) (hrln : gn S rl = 8) (hf : ∀ j, j < 8 → gR S sa j = some (f j) ∧ gK S (f j) = 6) (hg : ∀ j, j < 8 → gR S rl j = some (g j) ∧ gK S (g j) = 6) (hdc : ¬ (gI S (lt k) 0 = 1 ∧ cCounts S a (lt k) 1 ∧ cMaj S a (lt k))) (hsr : rl ≠ sa) (w0 : Nat) (hw9 : gI S a 3 = 2 → gR S a 9 = some w0) : gMX l yX6_deliver cX6_deliver 4 (some FieldType.int) { frames := 7, cells := 3, slots := 13, locals := 170 } N0 D cy [.ref x, .int (nI k)] S sz (fun v S1 z => v = some (.int 0) ∧ z = sz ∧ cRecv (cTake S po pl lt k) a sa (lt k) w0 f g S1) (fun E S1 => False) := by
  refine bodyX (by decide) rfl (Nat.le_of_ble_eq_true rfl) ?_
  intro p e s m args below meth c ls hC hU hZ hne hr hlk hnm hsz hP hS hl
  have hx := hC.1
  have hb := hC.2.1
  refine lv_iload_n hx hb dX6_deliver_0 rfl (lv_at hl 1 rfl) ?_
  refine lv_aload_n hx hb dX6_deliver_1 rfl (lv_at hl 0 rfl) ?_
  refine gt_X6_35 hC hP (hxk) (hpo) dX6_deliver_2 ?_
  refine gt_X6_97 hC hP (hpok) dX6_deliver_5 ?_
  rw [hL]
  refine g_callS (As := [.int _, .int _]) (rest := []) hC hU hP hS hl.1 (c_X6_isWithin l N0 D cy _ _ _ _) mL_X6_43 sT_X6_isWithin iN_X6 cD_X6_isWithin ⟨by decide, by decide, rfl⟩ ⟨by decide, by decide⟩ ⟨by decide, by decide⟩ rfl (Nat.le_of_ble_eq_true rfl) dX6_deliver_8 (fun v S1 H locs hw hP hz hS => ?_)
  obtain ⟨rfl, hS1, hz2⟩ := hw
  replace hS1 := hS1.symm
  subst hS1
  replace hsz := hz2.trans hsz
  refine lv_if_ne (tgt := 24) hx hb dX6_deliver_11 (by decide) (fun c_11 => ?_) (fun c_11 => ?_)
  · refine lv_aload_n hx hb dX6_deliver_24 rfl (lv_at hl 0 rfl) ?_
    refine gt_X6_35 hC hP (hxk) (hpo) dX6_deliver_25 ?_
    refine lv_iload_n hx hb dX6_deliver_28 rfl (lv_at hl 1 rfl) ?_
    refine g_callV (As := [.int _]) (rest := []) hC hU hP hS hl.1 (c_X4_at l N0 D cy _ _ po pl (lt k) _ hpok hpl hplk (by rw [hpln]; exact vp_in_nI (by omega) (by decide)) (by rw [nI_clamp (by omega)]; exact hlt k (by omega))) mL_X6_102 iM_X4_at sL_X4_at iN_X4 cD_X4_at ⟨by decide, by decide, rfl⟩ ⟨by decide, by decide⟩ ⟨by decide, by decide⟩ (ci := 4) rfl (by decide) (hpok) rfl (Nat.le_of_ble_eq_true rfl) dX6_deliver_29 (fun v S1 H locs hw hP hz hS => ?_)
    obtain ⟨rfl, hS1, hz2⟩ := hw
    replace hS1 := hS1.symm
    subst hS1
    replace hsz := hz2.trans hsz
    refine lv_astore_n (lv' := [(2, .ref _), (0, .ref _), (1, .int _)]) hx hb dX6_deliver_32 rfl hl (by decide) rfl (fun ls hl => ?_)
    refine lv_aload_n hx hb dX6_deliver_33 rfl (lv_at hl 0 rfl) ?_
    refine g_callV (As := []) (rest := []) hC hU hP hS hl.1 (c_X2_isToNode l N0 D cy _ _ (lt k) (hltk k)) mL_X6_106 iM_X2_isToNode sL_X2_isToNode iN_X2 cD_X2_isToNode ⟨by decide, by decide, rfl⟩ ⟨by decide, by decide⟩ ⟨by decide, by decide⟩ (ci := 2) rfl (by decide) (hltk k) rfl (Nat.le_of_ble_eq_true rfl) dX6_deliver_34 (fun v S1 H locs hw hP hz hS => ?_)
    obtain ⟨rfl, hS1, hz2⟩ := hw
    replace hS1 := hS1.symm
    subst hS1
    replace hsz := hz2.trans hsz
    refine lv_if_eq (tgt := 54) hx hb dX6_deliver_37 (by decide) (fun c_37 => ?_) (fun c_37 => ?_)
    · refine lv_aload_n hx hb dX6_deliver_54 rfl (lv_at hl 1 rfl) ?_
      refine gt_X6_11 hC hP (hxk) (his) dX6_deliver_55 ?_
      refine lv_aload_n hx hb dX6_deliver_58 rfl (lv_at hl 0 rfl) ?_
      refine gt_X6_119 hC hP (hltk k) dX6_deliver_59 ?_
      rw [hi0v]
      refine g_aald hC hP (j := 0) (by decide) (hisk) (by rw [hisn]; exact vp_in_nI hi0 (by decide)) dX6_deliver_62 ?_
      refine g_rf (by rw [nI_clamp (by omega)]; exact hia) ?_
      refine lv_astore_n (lv' := [(3, .ref _), (2, .ref _), (0, .ref _), (1, .int _)]) hx hb dX6_deliver_63 rfl hl (by decide) rfl (fun ls hl => ?_)
      refine lv_aload_n hx hb dX6_deliver_64 rfl (lv_at hl 0 rfl) ?_
      refine lv_aload_n hx hb dX6_deliver_65 rfl (lv_at hl 1 rfl) ?_
      refine g_callV (As := [.ref _]) (rest := []) hC hU hP hS hl.1 (c_X1_isDecidedBy l N0 D cy _ _ a (lt k) ha (hltk k)) mL_X6_122 iM_X1_isDecidedBy sL_X1_isDecidedBy iN_X1 cD_X1_isDecidedBy ⟨by decide, by decide, rfl⟩ ⟨by decide, by decide⟩ ⟨by decide, by decide⟩ (ci := 1) rfl (by decide) (ha) rfl (Nat.le_of_ble_eq_true rfl) dX6_deliver_66 (fun v S1 H locs hw hP hz hS => ?_)
      obtain ⟨⟨r9, rfl, _, hr9⟩, hS1, hz2⟩ := hw
      replace hS1 := hS1.symm
      subst hS1
      replace hsz := hz2.trans hsz
      refine lv_if_eq (tgt := 79) hx hb dX6_deliver_69 (by decide) (fun c_69 => ?_) (fun c_69 => ?_)
      · refine lv_aload_n hx hb dX6_deliver_79 rfl (lv_at hl 2 rfl) ?_
        refine gt_X6_35 hC hP (hxk) (hpo) dX6_deliver_80 ?_
        refine lv_iload_n hx hb dX6_deliver_83 rfl (lv_at hl 3 rfl) ?_
        refine g_callV (As := [.int _]) (rest := []) hC hU hP hS hl.1 (c_X4_take l N0 D cy _ _ po pl k lt hpok hpl hplk hpln (fun j hj => ⟨hlt j hj, hltk j⟩) (by omega)) mL_X6_111 iM_X4_take sL_X4_take iN_X4 cD_X4_take ⟨by decide, by decide, rfl⟩ ⟨by decide, by decide⟩ ⟨by decide, by decide⟩ (ci := 4) rfl (by decide) (hpok) rfl (Nat.le_of_ble_eq_true rfl) dX6_deliver_84 (fun v S1 H locs hw hP hz hS => ?_)
        obtain ⟨rfl, hS1, hz2⟩ := hw
        replace hS1 := hS1.symm
        subst hS1
        replace hsz := hz2.trans hsz
        replace hP : gP N0 D cy (cTake S po pl lt k) H := hP
        refine lv_aload_n hx hb dX6_deliver_87 rfl (lv_at hl 0 rfl) ?_
        refine lv_aload_n hx hb dX6_deliver_88 rfl (lv_at hl 1 rfl) ?_
        refine g_callV (As := [.ref _]) (rest := []) hC hU hP hS hl.1 (c_X1_receive l N0 D cy _ _ a sa (lt k) rl f g (kTk ha) (kTk (hltk k)) (rTk (nek ha hplk (by decide)) hsa) (kTk hsak) (nTk hsan) (rTk (nek (hltk k) hplk (by decide)) hrl) (kTk hrlk) (nTk hrln) (fun j hj => ⟨rTk (nek hsak hplk (by decide)) (hf j hj).1, kTk (hf j hj).2⟩) (fun j hj => ⟨rTk (nek hrlk hplk (by decide)) (hg j hj).1, kTk (hg j hj).2⟩) hsr w0 (fun h => by rw [gI_Tk (nek ha hpok (by decide))] at h; exact rTk (nek ha hplk (by decide)) (hw9 h))) mL_X6_130 iM_X1_receive sL_X1_receive iN_X1 cD_X1_receive ⟨by decide, by decide, rfl⟩ ⟨by decide, by decide⟩ ⟨by decide, by decide⟩ (ci := 1) rfl (by decide) (kTk (ha)) rfl (Nat.le_of_ble_eq_true rfl) dX6_deliver_89 (fun v S1 H locs hw hP hz hS => ?_)
        obtain ⟨rfl, hz2, hw⟩ := hw
        replace hsz := hz2.trans hsz
        refine lv_iconst (v := 0) hx hb dX6_deliver_92 (by decide) ?_
        exact vx_ret (g_iret hC hP hS hr hlk (by decide) (by decide) (⟨rfl, hsz, hw⟩) dX6_deliver_93)
      · exact absurd (hr9.mp c_69) hdc
    · exact absurd (th1 c_37) hkd
  · exact absurd ⟨nI_pos' (by omega), nI_lt hk (by omega)⟩ (th0 c_11)

