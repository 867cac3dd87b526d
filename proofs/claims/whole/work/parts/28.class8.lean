def cPrepA (S : gS) (nd lt po q rq : Nat) (f : Nat → Nat) : gS := (if gI S nd 1 < gI S lt 3 then sRow (cSend (sI S nd 1 (gI S lt 3)) po q 1 (gI S lt 1) (gI S lt 2) (gI S lt 3)) rq 8 (fun j => some (f j)) else sI (cSend S po q 4 (gI S lt 1) (gI S lt 2) (gI S lt 3)) q 5 (gI S nd 1))
def cAccA (S : gS) (nd lt po q ra rw : Nat) : gS := (if gI S lt 3 < gI S nd 1 then sI (cSend S po q 4 (gI S lt 1) (gI S lt 2) (gI S lt 3)) q 5 (gI S nd 1) else cSend (sR (sI S nd 1 (gI S lt 3)) ra (gI S lt 4).toNatClampNeg (some rw)) po q 3 (gI S lt 1) (gI S lt 2) (gI S lt 3))
set_option maxRecDepth 100000 in
set_option maxHeartbeats 4000000 in
theorem c_X6_handToNode (l : Launch) (N0 : Nat) (D : va_G) (cy : Nat → ClassId) (S : gS) (sz : Nat) (x lt ns nd n0 ra rq rw : Nat) (f : Nat → Nat) (hxk : gK S x = 7) (hm : gK S lt = 3) (hns : gR S x 1 = some ns) (hnsk : gK S ns = 14) (hnsn : gn S ns = 5) (hn0 : gI S lt 2 = nI n0) (hn5 : n0 < 5) (hnd : gR S ns n0 = some nd) (hndk : gK S nd = 4) (hra : gR S nd 2 = some ra) (hrak : gK S ra = 15) (hran : gn S ra = 8) (hf : ∀ j, j < 8 → gR S ra j = some (f j) ∧ gK S (f j) = 6) (hrw : gR S lt 6 = some rw) (hrwk : gK S rw = 6) (hin : gI S lt 0 ≠ 0 → vp_in (gI S lt 4) 8) (po pl q : Nat) (hpo : gR S x 3 = some po) (hpok : gK S po = 5) (hp : gR S po 0 = some pl) (hk : gK S pl = 13) (hn : vp_in (gI S po 1) (gn S pl)) (hq : gR S pl (gI S po 1).toNatClampNeg = some q) (hqk : gK S q = 3) (hrq : gR S q 7 = some rq) (hrqk : gK S rq = 15) (hrqn : gn S rq = 8) : gM l yX6_handToNode cX6_handToNode 3 (some FieldType.int) { frames := 3, cells := 0, slots := 0, locals := 110 } N0 D cy [.ref x, .ref lt] S sz (fun v S1 z => z = sz ∧ ((gI S nd 0 = 0 ∧ v = some (.int 0) ∧ S1 = S) ∨ (gI S nd 0 ≠ 0 ∧ gI S lt 0 = 0 ∧ v = some (.int 1) ∧ S1 = cPrepA S nd lt po q rq f) ∨ (gI S nd 0 ≠ 0 ∧ gI S lt 0 ≠ 0 ∧ v = some (.int 1) ∧ S1 = cAccA S nd lt po q ra rw))) := by
  refine g_body (by decide) rfl (Nat.le_of_ble_eq_true rfl) ?_
  intro p e s m args below meth c ls hC hU hr hlk hnm hsz hP hS hl
  have hx := hC.1
  have hb := hC.2.1
  refine lv_aload_n hx hb dX6_handToNode_0 rfl (lv_at hl 0 rfl) ?_
  refine gt_X6_17 hC hP (hxk) (hns) dX6_handToNode_1 ?_
  refine lv_aload_n hx hb dX6_handToNode_4 rfl (lv_at hl 1 rfl) ?_
  refine gt_X6_144 hC hP (hm) dX6_handToNode_5 ?_
  rw [hn0]
  refine g_aald hC hP (j := 2) (by decide) (hnsk) (by rw [hnsn]; exact vp_in_nI hn5 (by decide)) dX6_handToNode_8 ?_
  refine g_rf (by rw [nI_clamp (by omega)]; exact hnd) ?_
  refine lv_astore_n (lv' := [(2, .ref _), (0, .ref _), (1, .ref _)]) hx hb dX6_handToNode_9 rfl hl (by decide) rfl (fun ls hl => ?_)
  refine lv_aload_n hx hb dX6_handToNode_10 rfl (lv_at hl 0 rfl) ?_
  refine gt_X6_93 hC hP (hndk) dX6_handToNode_11 ?_
  refine lv_if_ne (tgt := 19) hx hb dX6_handToNode_14 (by decide) (fun c_14 => ?_) (fun c_14 => ?_)
  · refine lv_aload_n hx hb dX6_handToNode_19 rfl (lv_at hl 2 rfl) ?_
    refine gt_X6_141 hC hP (hm) dX6_handToNode_20 ?_
    refine lv_if_ne (tgt := 38) hx hb dX6_handToNode_23 (by decide) (fun c_23 => ?_) (fun c_23 => ?_)
    · refine lv_aload_n hx hb dX6_handToNode_38 rfl (lv_at hl 0 rfl) ?_
      refine lv_aload_n hx hb dX6_handToNode_39 rfl (lv_at hl 2 rfl) ?_
      refine lv_aload_n hx hb dX6_handToNode_40 rfl (lv_at hl 1 rfl) ?_
      refine gt_X6_35 hC hP (hxk) (hpo) dX6_handToNode_41 ?_
      refine g_callV (As := [.ref _, .ref _]) (rest := []) hC hU hP hS hl.1 (c_X3_answerAccept l N0 D cy _ _ nd lt ra rw hndk hm hra hrak hrw hrwk (by rw [hran]; exact hin c_23) po pl q hpok hp hk hn hq hqk) mL_X6_215 iM_X3_answerAccept sL_X3_answerAccept iN_X3 cD_X3_answerAccept ⟨by decide, by decide, rfl⟩ ⟨by decide, by decide⟩ ⟨by decide, by decide⟩ (ci := 3) rfl (by decide) (hndk) rfl (Nat.le_of_ble_eq_true rfl) dX6_handToNode_44 (fun v S1 H locs hw hP hz hS => ?_)
      obtain ⟨rfl, hS1, hz2⟩ := hw
      replace hS1 := hS1.symm
      subst hS1
      replace hsz := hz2.trans hsz
      refine lv_iconst (v := 1) hx hb dX6_handToNode_47 (by decide) ?_
      exact g_iret hC hP hS hr hlk (by decide) (by decide) (⟨hsz, by first | exact Or.inr (Or.inl ⟨c_14, c_23, rfl, rfl⟩) | exact Or.inr (Or.inr ⟨c_14, c_23, rfl, rfl⟩)⟩) dX6_handToNode_48
    · refine lv_aload_n hx hb dX6_handToNode_26 rfl (lv_at hl 0 rfl) ?_
      refine lv_aload_n hx hb dX6_handToNode_27 rfl (lv_at hl 2 rfl) ?_
      refine lv_aload_n hx hb dX6_handToNode_28 rfl (lv_at hl 1 rfl) ?_
      refine gt_X6_35 hC hP (hxk) (hpo) dX6_handToNode_29 ?_
      refine g_callV (As := [.ref _, .ref _]) (rest := []) hC hU hP hS hl.1 (c_X3_answerPrepare l N0 D cy _ _ nd lt ra rq f hndk hm hra hrak hran hf po pl q hpok hp hk hn hq hqk hrq hrqk hrqn) mL_X6_211 iM_X3_answerPrepare sL_X3_answerPrepare iN_X3 cD_X3_answerPrepare ⟨by decide, by decide, rfl⟩ ⟨by decide, by decide⟩ ⟨by decide, by decide⟩ (ci := 3) rfl (by decide) (hndk) rfl (Nat.le_of_ble_eq_true rfl) dX6_handToNode_32 (fun v S1 H locs hw hP hz hS => ?_)
      obtain ⟨rfl, hS1, hz2⟩ := hw
      replace hS1 := hS1.symm
      subst hS1
      replace hsz := hz2.trans hsz
      refine lv_goto (tgt := 47) hx hb dX6_handToNode_35 (by decide) ?_
      refine lv_iconst (v := 1) hx hb dX6_handToNode_47 (by decide) ?_
      exact g_iret hC hP hS hr hlk (by decide) (by decide) (⟨hsz, by first | exact Or.inr (Or.inl ⟨c_14, c_23, rfl, rfl⟩) | exact Or.inr (Or.inr ⟨c_14, c_23, rfl, rfl⟩)⟩) dX6_handToNode_48
  · refine lv_iconst (v := 0) hx hb dX6_handToNode_17 (by decide) ?_
    exact g_iret hC hP hS hr hlk (by decide) (by decide) (⟨hsz, Or.inl ⟨c_14, rfl, rfl⟩⟩) dX6_handToNode_18

def cUp (S : gS) (nd : Nat → Nat) : Nat → Int32
  | 0 => 0
  | n + 1 => if gI S (nd n) 0 = 0 then cUp S nd n else cUp S nd n + 1
set_option maxRecDepth 100000 in
set_option maxHeartbeats 4000000 in
theorem lp_X6_nodesUp {p : Program} {l : Launch} {e : Env} {R : Room} {s : State} {m : MethodId} {args : Array Value} {below : List Frame} {meth : Method} {c : Code} {cells slots : Nat} {Q : State → Prop} {N0 : Nat} {D : va_G} {cy : Nat → ClassId} {S : gS} {sz : Nat} (hC : gC N0 D cy p s m args c cX6_nodesUp 3 RX6) {x ns : Nat} {nd : Nat → Nat} (hxk : gK S x = 7) (hns : gR S x 1 = some ns) (hnsk : gK S ns = 14) (hnsn : gn S ns = 5) (hnd : ∀ n, n < 5 → gR S ns n = some (nd n) ∧ gK S (nd n) = 4)
    (hexit : ∀ (H : Heap) (locs : List Loc) (ls : Array Slot), gP N0 D cy S H → H.size = sz → va_S (fun q => N0 ≤ q) s.heap H locs → lv_has ls 3 [(2, .int (nI 5)), (1, .int (cUp S nd 5)), (0, .ref x)] → W p l e R s m args below meth c H locs cells slots Q (F0 m 30 ls [])) :
    ∀ (n i : Nat) (H : Heap) (locs : List Loc) (ls : Array Slot), i + n = 5 → gP N0 D cy S H → H.size = sz → va_S (fun q => N0 ≤ q) s.heap H locs → lv_has ls 3 [(2, .int (nI i)), (1, .int (cUp S nd i)), (0, .ref x)] → W p l e R s m args below meth c H locs cells slots Q (F0 m 4 ls []) := by
  have hx := hC.1
  have hb := hC.2.1
  intro n
  induction n with
  | zero =>
    intro i H locs ls hi hP hsz hS hl
    have hi8 : i = 5 := by omega
    subst hi8
    refine lv_iload_n hx hb dX6_nodesUp_4 rfl (lv_at hl 0 rfl) ?_
    refine lv_iconst (v := 5) hx hb dX6_nodesUp_5 (by decide) ?_
    refine lv_icmp_ge (tgt := 30) hx hb dX6_nodesUp_6 (by decide) (fun c_6 => ?_) (fun c_6 => ?_)
    · exact hexit _ _ _ hP hsz hS (lv_sub hl [0, 1, 2] rfl)
    · exact absurd (by decide) c_6
  | succ n ih =>
    intro i H locs ls hi hP hsz hS hl
    have hi8 : i < 5 := by omega
    refine lv_iload_n hx hb dX6_nodesUp_4 rfl (lv_at hl 0 rfl) ?_
    refine lv_iconst (v := 5) hx hb dX6_nodesUp_5 (by decide) ?_
    refine lv_icmp_ge (tgt := 30) hx hb dX6_nodesUp_6 (by decide) (fun c_6 => ?_) (fun c_6 => ?_)
    · exact absurd c_6 (nI_ge (a := i) (b := 5) (by omega) (by decide))
    · refine lv_aload_n hx hb dX6_nodesUp_9 rfl (lv_at hl 2 rfl) ?_
      refine gt_X6_17 hC hP (hxk) (hns) dX6_nodesUp_10 ?_
      refine lv_iload_n hx hb dX6_nodesUp_13 rfl (lv_at hl 0 rfl) ?_
      refine g_aald hC hP (j := 2) (by decide) (hnsk) (by rw [hnsn]; exact vp_in_nI hi8 (by decide)) dX6_nodesUp_14 ?_
      refine g_rf (by rw [nI_clamp (by omega)]; exact (hnd i hi8).1) ?_
      refine gt_X6_93 hC hP ((hnd i hi8).2) dX6_nodesUp_15 ?_
      refine lv_if_eq (tgt := 24) hx hb dX6_nodesUp_18 (by decide) (fun c_18 => ?_) (fun c_18 => ?_)
      · refine lv_iinc (v := _ + 1) (lv' := [(2, .int _), (1, .int _), (0, .ref _)]) hx hb dX6_nodesUp_24 hl (k := 0) rfl rfl (by decide) rfl (fun ls hl => ?_)
        refine lv_goto (tgt := 4) hx hb dX6_nodesUp_27 (by decide) ?_
        exact ih (i + 1) _ _ _ (by omega) hP hsz hS (by rw [nI_succ]; unfold cUp; first | (rw [if_pos c_18]; exact lv_sub hl [0, 1, 2] rfl) | (rw [if_neg c_18]; exact lv_sub hl [0, 1, 2] rfl))
      · refine lv_iinc (v := _ + 1) (lv' := [(1, .int _), (2, .int _), (0, .ref _)]) hx hb dX6_nodesUp_21 hl (k := 1) rfl rfl (by decide) rfl (fun ls hl => ?_)
        refine lv_iinc (v := _ + 1) (lv' := [(2, .int _), (1, .int _), (0, .ref _)]) hx hb dX6_nodesUp_24 hl (k := 1) rfl rfl (by decide) rfl (fun ls hl => ?_)
        refine lv_goto (tgt := 4) hx hb dX6_nodesUp_27 (by decide) ?_
        exact ih (i + 1) _ _ _ (by omega) hP hsz hS (by rw [nI_succ]; unfold cUp; first | (rw [if_pos c_18]; exact lv_sub hl [0, 1, 2] rfl) | (rw [if_neg c_18]; exact lv_sub hl [0, 1, 2] rfl))
set_option maxRecDepth 100000 in
set_option maxHeartbeats 4000000 in
theorem c_X6_nodesUp (l : Launch) (N0 : Nat) (D : va_G) (cy : Nat → ClassId) (S : gS) (sz : Nat) (x ns : Nat) (nd : Nat → Nat) (hxk : gK S x = 7) (hns : gR S x 1 = some ns) (hnsk : gK S ns = 14) (hnsn : gn S ns = 5) (hnd : ∀ n, n < 5 → gR S ns n = some (nd n) ∧ gK S (nd n) = 4) : gM l yX6_nodesUp cX6_nodesUp 3 (some FieldType.int) { frames := 0, cells := 0, slots := 0, locals := 0 } N0 D cy [.ref x] S sz (fun v S1 z => v = some (.int (cUp S nd 5)) ∧ S1 = S ∧ z = sz) := by
  refine g_body (by decide) rfl (Nat.le_of_ble_eq_true rfl) ?_
  intro p e s m args below meth c ls hC hU hr hlk hnm hsz hP hS hl
  have hx := hC.1
  have hb := hC.2.1
  refine lv_iconst (v := 0) hx hb dX6_nodesUp_0 (by decide) ?_
  refine lv_istore_n (lv' := [(1, .int _), (0, .ref _)]) hx hb dX6_nodesUp_1 rfl hl (by decide) rfl (fun ls hl => ?_)
  refine lv_iconst (v := 0) hx hb dX6_nodesUp_2 (by decide) ?_
  refine lv_istore_n (lv' := [(2, .int _), (1, .int _), (0, .ref _)]) hx hb dX6_nodesUp_3 rfl hl (by decide) rfl (fun ls hl => ?_)
  refine lp_X6_nodesUp (sz := sz) (nd := nd) hC hxk hns hnsk hnsn hnd (fun H locs ls hP hsz hS hl => ?_) 5 0 _ _ _ rfl hP hsz hS (lv_sub hl [0, 1, 2] rfl)
  refine lv_iload_n hx hb dX6_nodesUp_30 rfl (lv_at hl 1 rfl) ?_
  exact g_iret hC hP hS hr hlk (by decide) (by decide) (⟨rfl, rfl, hsz⟩) dX6_nodesUp_31
/-- the newest row of a seat among the first n nodes that are up; rr n: that row's address at node n -/
def cNew (S : gS) (un : Nat) (nd rr : Nat → Nat) : Nat → Nat
  | 0 => un
  | n + 1 => if gI S (nd n) 0 = 0 then cNew S un nd rr n else nwr S (cNew S un nd rr n) (rr n)
theorem cNew_k {S : gS} {un : Nat} {nd rr : Nat → Nat} (hu : gK S un = 6) : ∀ n, (∀ i, i < n → gK S (rr i) = 6) → gK S (cNew S un nd rr n) = 6
  | 0, _ => hu
  | n + 1, h => by
    unfold cNew
    split
    · exact cNew_k hu n (fun i hi => h i (by omega))
    · unfold nwr
      split
      · exact h n (by omega)
      · exact cNew_k hu n (fun i hi => h i (by omega))
set_option maxRecDepth 100000 in
set_option maxHeartbeats 4000000 in
theorem lp_X6_newestRow {p : Program} {l : Launch} {e : Env} {R : Room} {s : State} {m : MethodId} {args : Array Value} {below : List Frame} {meth : Method} {c : Code} {cells slots : Nat} {Q : State → Prop} {N0 : Nat} {D : va_G} {cy : Nat → ClassId} {S : gS} {sz : Nat} (hC : gC N0 D cy p s m args c cX6_newestRow 4 RX6) (hU : gU D cy s) {x ns : Nat} {nd : Nat → Nat} (hxk : gK S x = 7) (hns : gR S x 1 = some ns) (hnsk : gK S ns = 14) (hnsn : gn S ns = 5) (hnd : ∀ n, n < 5 → gR S ns n = some (nd n) ∧ gK S (nd n) = 4) {un st0 : Nat} {ra rr : Nat → Nat} (hunk : gK S un = 6) (hst : st0 < 8) (hra : ∀ n, n < 5 → gR S (nd n) 2 = some (ra n) ∧ gK S (ra n) = 15 ∧ gn S (ra n) = 8 ∧ gR S (ra n) st0 = some (rr n) ∧ gK S (rr n) = 6) (hR : 1 ≤ R.frames ∧ 40 ≤ R.locals) (hc0 : cells ≤ R.cells ∧ slots ≤ R.slots)
    (hexit : ∀ (H : Heap) (locs : List Loc) (ls : Array Slot), gP N0 D cy S H → H.size = sz → va_S (fun q => N0 ≤ q) s.heap H locs → lv_has ls 4 [(3, .int (nI 5)), (2, .ref (cNew S un nd rr 5)), (0, .ref x), (1, .int (nI st0))] → W p l e R s m args below meth c H locs cells slots Q (F0 m 46 ls [])) :
    ∀ (n i : Nat) (H : Heap) (locs : List Loc) (ls : Array Slot), i + n = 5 → gP N0 D cy S H → H.size = sz → va_S (fun q => N0 ≤ q) s.heap H locs → lv_has ls 4 [(3, .int (nI i)), (2, .ref (cNew S un nd rr i)), (0, .ref x), (1, .int (nI st0))] → W p l e R s m args below meth c H locs cells slots Q (F0 m 7 ls []) := by
  have hx := hC.1
  have hb := hC.2.1
  intro n
  induction n with
  | zero =>
    intro i H locs ls hi hP hsz hS hl
    have hi8 : i = 5 := by omega
    subst hi8
    refine lv_iload_n hx hb dX6_newestRow_7 rfl (lv_at hl 0 rfl) ?_
    refine lv_iconst (v := 5) hx hb dX6_newestRow_8 (by decide) ?_
    refine lv_icmp_ge (tgt := 46) hx hb dX6_newestRow_9 (by decide) (fun c_9 => ?_) (fun c_9 => ?_)
    · exact hexit _ _ _ hP hsz hS (lv_sub hl [0, 1, 2, 3] rfl)
    · exact absurd (by decide) c_9
  | succ n ih =>
    intro i H locs ls hi hP hsz hS hl
    have hi8 : i < 5 := by omega
    have hnwk : gK S (cNew S un nd rr i) = 6 := cNew_k hunk i (fun j hj => (hra j (by omega)).2.2.2.2)
    refine lv_iload_n hx hb dX6_newestRow_7 rfl (lv_at hl 0 rfl) ?_
    refine lv_iconst (v := 5) hx hb dX6_newestRow_8 (by decide) ?_
    refine lv_icmp_ge (tgt := 46) hx hb dX6_newestRow_9 (by decide) (fun c_9 => ?_) (fun c_9 => ?_)
    · exact absurd c_9 (nI_ge (a := i) (b := 5) (by omega) (by decide))
    · refine lv_aload_n hx hb dX6_newestRow_12 rfl (lv_at hl 2 rfl) ?_
      refine gt_X6_17 hC hP (hxk) (hns) dX6_newestRow_13 ?_
      refine lv_iload_n hx hb dX6_newestRow_16 rfl (lv_at hl 0 rfl) ?_
      refine g_aald hC hP (j := 2) (by decide) (hnsk) (by rw [hnsn]; exact vp_in_nI hi8 (by decide)) dX6_newestRow_17 ?_
      refine g_rf (by rw [nI_clamp (by omega)]; exact (hnd i hi8).1) ?_
      refine gt_X6_93 hC hP ((hnd i hi8).2) dX6_newestRow_18 ?_
      refine lv_if_eq (tgt := 40) hx hb dX6_newestRow_21 (by decide) (fun c_21 => ?_) (fun c_21 => ?_)
      · refine lv_iinc (v := _ + 1) (lv' := [(3, .int _), (2, .ref _), (0, .ref _), (1, .int _)]) hx hb dX6_newestRow_40 hl (k := 0) rfl rfl (by decide) rfl (fun ls hl => ?_)
        refine lv_goto (tgt := 7) hx hb dX6_newestRow_43 (by decide) ?_
        exact ih (i + 1) _ _ _ (by omega) hP hsz hS (by rw [nI_succ]; unfold cNew; first | (rw [if_pos c_21]; exact lv_sub hl [0, 1, 2, 3] rfl) | (rw [if_neg c_21]; exact lv_sub hl [0, 1, 2, 3] rfl))
      · refine lv_aload_n hx hb dX6_newestRow_24 rfl (lv_at hl 1 rfl) ?_
        refine lv_aload_n hx hb dX6_newestRow_25 rfl (lv_at hl 2 rfl) ?_
        refine gt_X6_17 hC hP (hxk) (hns) dX6_newestRow_26 ?_
        refine lv_iload_n hx hb dX6_newestRow_29 rfl (lv_at hl 0 rfl) ?_
        refine g_aald hC hP (j := 2) (by decide) (hnsk) (by rw [hnsn]; exact vp_in_nI hi8 (by decide)) dX6_newestRow_30 ?_
        refine g_rf (by rw [nI_clamp (by omega)]; exact (hnd i hi8).1) ?_
        refine gt_X6_236 hC hP ((hnd i hi8).2) ((hra i hi8).1) dX6_newestRow_31 ?_
        refine lv_iload_n hx hb dX6_newestRow_34 rfl (lv_at hl 3 rfl) ?_
        refine g_aald hC hP (j := 3) (by decide) ((hra i hi8).2.1) (by rw [(hra i hi8).2.2.1]; exact vp_in_nI hst (by decide)) dX6_newestRow_35 ?_
        refine g_rf (by rw [nI_clamp (by omega)]; exact (hra i hi8).2.2.2.1) ?_
        refine g_callV (As := [.ref _]) (rest := []) hC hU hP hS hl.1 (c_X5_orNewer l N0 D cy _ _ (cNew S un nd rr i) (rr i) hnwk (hra i hi8).2.2.2.2) mL_X6_240 iM_X5_orNewer sL_X5_orNewer iN_X5 cD_X5_orNewer ⟨by decide, by decide, rfl⟩ ⟨Nat.le_trans (by decide) hR.1, Nat.le_trans (by decide) hR.2⟩ ⟨hc0.1, hc0.2⟩ (ci := 5) rfl (by decide) (hnwk) rfl (Nat.le_of_ble_eq_true rfl) dX6_newestRow_36 (fun v S1 H locs hw hP hz hS => ?_)
        obtain ⟨hv1, hS1, hz2⟩ := hw
        replace hS1 := hS1.symm
        subst hS1
        replace hv1 : v = some (.ref (nwr S (cNew S un nd rr i) (rr i))) := hv1
        subst hv1
        replace hsz := hz2.trans hsz
        refine lv_astore_n (lv' := [(2, .ref _), (3, .int _), (0, .ref _), (1, .int _)]) hx hb dX6_newestRow_39 rfl hl (by decide) rfl (fun ls hl => ?_)
        refine lv_iinc (v := _ + 1) (lv' := [(3, .int _), (2, .ref _), (0, .ref _), (1, .int _)]) hx hb dX6_newestRow_40 hl (k := 1) rfl rfl (by decide) rfl (fun ls hl => ?_)
        refine lv_goto (tgt := 7) hx hb dX6_newestRow_43 (by decide) ?_
        exact ih (i + 1) _ _ _ (by omega) hP hsz hS (by rw [nI_succ]; unfold cNew; first | (rw [if_pos c_21]; exact lv_sub hl [0, 1, 2, 3] rfl) | (rw [if_neg c_21]; exact lv_sub hl [0, 1, 2, 3] rfl))
set_option maxRecDepth 100000 in
set_option maxHeartbeats 4000000 in
theorem c_X6_newestRow (l : Launch) (N0 : Nat) (D : va_G) (cy : Nat → ClassId) (S : gS) (sz : Nat) (x ns : Nat) (nd : Nat → Nat) (hxk : gK S x = 7) (hns : gR S x 1 = some ns) (hnsk : gK S ns = 14) (hnsn : gn S ns = 5) (hnd : ∀ n, n < 5 → gR S ns n = some (nd n) ∧ gK S (nd n) = 4) (un st0 : Nat) (ra rr : Nat → Nat) (hunk : gK S un = 6) (hst : st0 < 8) (hra : ∀ n, n < 5 → gR S (nd n) 2 = some (ra n) ∧ gK S (ra n) = 15 ∧ gn S (ra n) = 8 ∧ gR S (ra n) st0 = some (rr n) ∧ gK S (rr n) = 6) (hun : gR S x 2 = some un) : gM l yX6_newestRow cX6_newestRow 4 (some (FieldType.object "IssueHouse$Row")) { frames := 1, cells := 0, slots := 0, locals := 40 } N0 D cy [.ref x, .int (nI st0)] S sz (fun v S1 z => v = some (.ref (cNew S un nd rr 5)) ∧ S1 = S ∧ z = sz) := by
  refine g_body (by decide) rfl (Nat.le_of_ble_eq_true rfl) ?_
  intro p e s m args below meth c ls hC hU hr hlk hnm hsz hP hS hl
  have hx := hC.1
  have hb := hC.2.1
  refine lv_aload_n hx hb dX6_newestRow_0 rfl (lv_at hl 0 rfl) ?_
  refine gt_X6_26 hC hP (hxk) (hun) dX6_newestRow_1 ?_
  refine lv_astore_n (lv' := [(2, .ref _), (0, .ref _), (1, .int _)]) hx hb dX6_newestRow_4 rfl hl (by decide) rfl (fun ls hl => ?_)
  refine lv_iconst (v := 0) hx hb dX6_newestRow_5 (by decide) ?_
  refine lv_istore_n (lv' := [(3, .int _), (2, .ref _), (0, .ref _), (1, .int _)]) hx hb dX6_newestRow_6 rfl hl (by decide) rfl (fun ls hl => ?_)
  refine lp_X6_newestRow (sz := sz) (nd := nd) (un := un) (st0 := st0) (ra := ra) (rr := rr) hC hU hxk hns hnsk hnsn hnd hunk hst hra ⟨by decide, by decide⟩ ⟨by decide, by decide⟩ (fun H locs ls hP hsz hS hl => ?_) 5 0 _ _ _ rfl hP hsz hS (lv_sub hl [0, 1, 2, 3] rfl)
  refine lv_aload_n hx hb dX6_newestRow_46 rfl (lv_at hl 1 rfl) ?_
  exact g_aret (v := some _) hC hP hS hr hlk (by decide) (by decide) (⟨rfl, rfl, hsz⟩) dX6_newestRow_47
