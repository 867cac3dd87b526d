set_option linter.constructorNameAsVariable false
def cTake (S : gS) (po pl : Nat) (lt : Nat → Nat) (k : Nat) : gS := sI (sRow S pl 91 (fun j => some (tkf lt k j))) po 1 (gI S po 1 - 1)
theorem kTk {S : gS} {po pl k b c : Nat} {lt : Nat → Nat} (h : gK S b = c) : gK (cTake S po pl lt k) b = c := h
theorem nTk {S : gS} {po pl k b c : Nat} {lt : Nat → Nat} (h : gn S b = c) : gn (cTake S po pl lt k) b = c := h
theorem rTk {S : gS} {po pl k b j : Nat} {lt : Nat → Nat} {r : Option Nat} (hne : b ≠ pl) (h : gR S b j = r) : gR (cTake S po pl lt k) b j = r := rI (rW hne h)
theorem gI_Tk {S : gS} {po pl k b j : Nat} {lt : Nat → Nat} (hne : b ≠ po) : gI (cTake S po pl lt k) b j = gI S b j := by unfold cTake; rw [gI_a hne, gI_sRow]
theorem gR_Tk {S : gS} {po pl k j : Nat} {lt : Nat → Nat} (hj : j < 91) : gR (cTake S po pl lt k) pl j = some (tkf lt k j) := by
  unfold cTake
  rw [gR_sI, gR_sRow, if_pos rfl, if_pos hj]
theorem gI_Tk1 {S : gS} {po pl k L : Nat} {lt : Nat → Nat} (hL : gI S po 1 = nI L) (h0 : 0 < L) : gI (cTake S po pl lt k) po 1 = nI (L - 1) := by
  obtain ⟨q, rfl⟩ : ∃ q, L = q + 1 := ⟨L - 1, by omega⟩
  unfold cTake
  rw [gI_s, hL, nI_pred]
  rfl
theorem kMG {S : gS} {z b c : Nat} {st x1 x2 x3 : Int32} {fi mk : Int64} (hb : b < z) (h : gK S b = c) : gK (mkGrant S z st fi x1 x2 x3 mk) b = c := kR (kJ (kI (kJ (kI (kI (kI (kN (by omega) (kN (by omega) h))))))))
theorem nMG {S : gS} {z b c : Nat} {st x1 x2 x3 : Int32} {fi mk : Int64} (hb : b < z) (h : gn S b = c) : gn (mkGrant S z st fi x1 x2 x3 mk) b = c := nR' (nJ' (nI' (nJ' (nI' (nI' (nI' (nN' (by omega) (nN' (by omega) h))))))))
theorem rMG {S : gS} {z b j : Nat} {r : Option Nat} {st x1 x2 x3 : Int32} {fi mk : Int64} (hb : b < z) (h : gR S b j = r) : gR (mkGrant S z st fi x1 x2 x3 mk) b j = r := rR (Or.inr (by omega)) (rJ (rI (rJ (rI (rI (rI (rN (by omega) (rN (by omega) h))))))))
theorem iMG {S : gS} {z b j : Nat} {st x1 x2 x3 : Int32} {fi mk : Int64} (hb : b < z) : gI (mkGrant S z st fi x1 x2 x3 mk) b j = gI S b j := by
  unfold mkGrant
  rw [gI_sR, gI_sJ, gI_a (by omega), gI_sJ, gI_a (by omega), gI_a (by omega), gI_a (by omega), gI_N (by omega), gI_N (by omega)]
theorem jMG {S : gS} {z b j : Nat} {st x1 x2 x3 : Int32} {fi mk : Int64} (hb : b < z) : gJ (mkGrant S z st fi x1 x2 x3 mk) b j = gJ S b j := by
  unfold mkGrant
  rw [gJ_sR, gJ_a (by omega), gJ_sI, gJ_a (by omega), gJ_sI, gJ_sI, gJ_sI, gJ_N (by omega), gJ_N (by omega)]
theorem kMGz {S : gS} {z : Nat} {st x1 x2 x3 : Int32} {fi mk : Int64} : gK (mkGrant S z st fi x1 x2 x3 mk) z = 1 := kR (kJ (kI (kJ (kI (kI (kI (kN (by omega) kN_s)))))))
theorem kMGr {S : gS} {z : Nat} {st x1 x2 x3 : Int32} {fi mk : Int64} : gK (mkGrant S z st fi x1 x2 x3 mk) (z + 1) = 6 := kR (kJ (kI (kJ (kI (kI (kI kN_s))))))
theorem rMGz {S : gS} {z : Nat} {st x1 x2 x3 : Int32} {fi mk : Int64} : gR (mkGrant S z st fi x1 x2 x3 mk) z 2 = some (z + 1) := gR_s
theorem iMGz {S : gS} {z : Nat} {st x1 x2 x3 : Int32} {fi mk : Int64} : gI (mkGrant S z st fi x1 x2 x3 mk) z 0 = st := by
  unfold mkGrant
  rw [gI_sR, gI_sJ, gI_s]
theorem jMGz {S : gS} {z : Nat} {st x1 x2 x3 : Int32} {fi mk : Int64} : gJ (mkGrant S z st fi x1 x2 x3 mk) z 1 = fi := by
  unfold mkGrant
  rw [gJ_sR, gJ_s]
theorem iMG0 {S : gS} {z : Nat} {st x1 x2 x3 : Int32} {fi mk : Int64} : gI (mkGrant S z st fi x1 x2 x3 mk) (z + 1) 0 = x1 := by
  unfold mkGrant
  rw [gI_sR, gI_sJ, gI_a (by omega), gI_sJ, gI_k (by decide), gI_k (by decide), gI_s]
theorem iMG1 {S : gS} {z : Nat} {st x1 x2 x3 : Int32} {fi mk : Int64} : gI (mkGrant S z st fi x1 x2 x3 mk) (z + 1) 1 = x2 := by
  unfold mkGrant
  rw [gI_sR, gI_sJ, gI_a (by omega), gI_sJ, gI_k (by decide), gI_s]
theorem iMG2 {S : gS} {z : Nat} {st x1 x2 x3 : Int32} {fi mk : Int64} : gI (mkGrant S z st fi x1 x2 x3 mk) (z + 1) 2 = x3 := by
  unfold mkGrant
  rw [gI_sR, gI_sJ, gI_a (by omega), gI_sJ, gI_s]
theorem jMG3 {S : gS} {z : Nat} {st x1 x2 x3 : Int32} {fi mk : Int64} : gJ (mkGrant S z st fi x1 x2 x3 mk) (z + 1) 3 = mk := by
  unfold mkGrant
  rw [gJ_sR, gJ_a (by omega), gJ_sI, gJ_s]
/-- n letters ACCEPT -/
def cAL (S : gS) (po : Nat) (lt : Nat → Nat) (L : Nat) (is bl st : Int32) (rw : Nat) : Nat → gS
  | 0 => S
  | n + 1 => sR (sI (cSend (cAL S po lt L is bl st rw n) po (lt (L + n)) 2 is (nI n) bl) (lt (L + n)) 4 st) (lt (L + n)) 6 (some rw)
theorem kAL {S : gS} {po L b c rw : Nat} {lt : Nat → Nat} {is bl st : Int32} : ∀ n : Nat, gK S b = c → gK (cAL S po lt L is bl st rw n) b = c
  | 0, h => h
  | n + 1, h => kR (kI (kS (kAL n h)))
theorem nAL {S : gS} {po L b c rw : Nat} {lt : Nat → Nat} {is bl st : Int32} : ∀ n : Nat, gn S b = c → gn (cAL S po lt L is bl st rw n) b = c
  | 0, h => h
  | n + 1, h => nR' (nI' (nS' (nAL n h)))
theorem rAL {S : gS} {po L b j rw : Nat} {lt : Nat → Nat} {is bl st : Int32} {r : Option Nat} (hb : ∀ k, b ≠ lt k) : ∀ n : Nat, gR S b j = r → gR (cAL S po lt L is bl st rw n) b j = r
  | 0, h => h
  | n + 1, h => rR (Or.inr (hb _)) (rI (rS (rAL hb n h)))
theorem gI_cAL {S : gS} {po L b j rw : Nat} {lt : Nat → Nat} {is bl st : Int32} (h1 : b ≠ po) (h2 : ∀ k, b ≠ lt k) : ∀ n : Nat, gI (cAL S po lt L is bl st rw n) b j = gI S b j
  | 0 => rfl
  | n + 1 => by unfold cAL; rw [gI_sR, gI_a (h2 _), gI_cSend h1 (h2 _)]; exact gI_cAL h1 h2 n
theorem cAL_1 {S : gS} {po L rw : Nat} {lt : Nat → Nat} {is bl st : Int32} (h : gI S po 1 = nI L) (h2 : ∀ k, lt k ≠ po) : ∀ n : Nat, gI (cAL S po lt L is bl st rw n) po 1 = nI (L + n)
  | 0 => h
  | n + 1 => by unfold cAL; rw [gI_sR, gI_a (Ne.symm (h2 _)), gI_cSend1 (h2 _), cAL_1 h h2 n, ← nI_succ]; rfl
/-- what wishWith leaves: nothing, or a Grant at sz -/
def cWQ (S : gS) (a sz : Nat) (Nu : Prop) (Ok : Nat → Nat → Int32 → Prop) (v : Option Value) (S1 : gS) (z : Nat) : Prop :=
  (Nu ∧ v = some .null ∧ S1 = S ∧ z = sz) ∨ ∃ (j w : Nat) (tm : Int32), Ok j w tm ∧ v = some (.ref sz) ∧ S1 = mkGrant S sz (nI j) (wFirst S a w) (gI S a 6) (gI S a 0) tm (wFirst S a w + 60000 - 1) ∧ z = sz + 2
def wNo (S : gS) (a w : Nat) : Prop := 2199023255551 < wFirst S a w + 60000 - 1
def nu0 (S : gS) (a : Nat) (f g : Nat → Nat) : Prop := chS S f g (gI S a 0) (-1) ∨ ∃ j, j < 8 ∧ chS S f g (gI S a 0) (nI j) ∧ wNo S a (nwS S f g j)
def ok0 (S : gS) (a : Nat) (f g : Nat → Nat) (j w : Nat) (tm : Int32) : Prop := j < 8 ∧ chS S f g (gI S a 0) (nI j) ∧ w = nwS S f g j ∧ tm = gI S w 2 + 1 ∧ ¬ wNo S a w
def nu1 (S : gS) (a : Nat) (f g : Nat → Nat) (j : Nat) : Prop := wNo S a (nwS S f g j)
def ok1 (S : gS) (a : Nat) (f g : Nat → Nat) (j0 rh : Nat) (j w : Nat) (tm : Int32) : Prop := j = j0 ∧ w = nwS S f g j0 ∧ tm = gI S rh 2 ∧ ¬ wNo S a w
theorem cWQ_0 {S S1 : gS} {a sz z : Nat} {f g : Nat → Nat} {v : Option Value} (h : ∃ r : Int32, chS S f g (gI S a 0) r ∧ ((r = -1 ∧ v = some .null ∧ S1 = S ∧ z = sz) ∨ ∃ j, j < 8 ∧ r = nI j ∧ cWish S a sz j (nwS S f g j) (gI S (nwS S f g j) 2 + 1) v S1 z)) : cWQ S a sz (nu0 S a f g) (ok0 S a f g) v S1 z := by
  obtain ⟨r, hr, h | ⟨j, hj, hrj, hw⟩⟩ := h
  · exact Or.inl ⟨Or.inl (by rw [← h.1]; exact hr), h.2⟩
  · subst hrj
    unfold cWish at hw
    split at hw
    · rename_i hq
      exact Or.inl ⟨Or.inr ⟨j, hj, hr, hq⟩, hw⟩
    · rename_i hq
      exact Or.inr ⟨j, nwS S f g j, _, ⟨hj, hr, rfl, rfl, hq⟩, hw⟩
theorem cWQ_1 {S S1 : gS} {a sz z j rh : Nat} {f g : Nat → Nat} {v : Option Value} (hw : cWish S a sz j (nwS S f g j) (gI S rh 2) v S1 z) : cWQ S a sz (nu1 S a f g j) (ok1 S a f g j rh) v S1 z := by
  unfold cWish at hw
  split at hw
  · rename_i hq
    exact Or.inl ⟨hq, hw⟩
  · rename_i hq
    exact Or.inr ⟨j, nwS S f g j, _, ⟨rfl, rfl, rfl, hq⟩, hw⟩
set_option maxRecDepth 100000 in
set_option maxHeartbeats 4000000 in
theorem lp_X6_decide {p : Program} {l : Launch} {e : Env} {R : Room} {s : State} {m : MethodId} {args : Array Value} {below : List Frame} {meth : Method} {c : Code} {cells slots : Nat} {Q : State → Prop} {N0 : Nat} {D : va_G} {cy : Nat → ClassId} {S : gS} {sz : Nat} (hC : gC N0 D cy p s m args c cX6_decide 6 RX6) (hU : gU D cy s) {x a po pl L w rw : Nat} {lt : Nat → Nat} (hxk : gK S x = 7) (ha : gK S a = 2) (hpo : gR S x 3 = some po) (hpok : gK S po = 5) (hpl : gR S po 0 = some pl) (hplk : gK S pl = 13) (hpln : gn S pl = 91) (hL : gI S po 1 = nI L) (hL2 : L + 5 ≤ 90) (hlt : ∀ k, k < 91 → gR S pl k = some (lt k)) (hltk : ∀ k, gK S (lt k) = 3) (hwk : gK S w = 1) (hwr : gR S w 2 = some rw) (hrwk : gK S rw = 6) {is bl st : Int32} (his : gI S a 0 = is) (hbl : gI S a 6 = bl) (hst : gI S w 0 = st) (hR : 1 ≤ R.frames ∧ 40 ≤ R.locals) (hc0 : cells ≤ R.cells ∧ slots ≤ R.slots)
    (hexit : ∀ (H : Heap) (locs : List Loc) (ls : Array Slot), gP N0 D cy (cAL S po lt L is bl st rw 5) H → H.size = sz → va_S (fun q => N0 ≤ q) s.heap H locs → lv_has ls 6 [(4, .int (nI 5)), (0, .ref (x)), (1, .ref (a)), (3, .ref (w))] → W p l e R s m args below meth c H locs cells slots Q (F0 m 114 ls [])) :
    ∀ (n i : Nat) (H : Heap) (locs : List Loc) (ls : Array Slot), i + n = 5 → gP N0 D cy (cAL S po lt L is bl st rw i) H → H.size = sz → va_S (fun q => N0 ≤ q) s.heap H locs → lv_has ls 6 [(4, .int (nI i)), (0, .ref (x)), (1, .ref (a)), (3, .ref (w))] → W p l e R s m args below meth c H locs cells slots Q (F0 m 64 ls []) := by
  have hx := hC.1
  have hb := hC.2.1
  intro n
  induction n with
  | zero =>
    intro i H locs ls hi hP hsz hS hl
    have hi8 : i = 5 := by omega
    subst hi8
    refine lv_iload hx hb dX6_decide_64 (lv_at hl 0 rfl) ?_
    refine lv_iconst (v := 5) hx hb dX6_decide_66 (by decide) ?_
    refine lv_icmp_ge (tgt := 114) hx hb dX6_decide_67 (by decide) (fun c_67 => ?_) (fun c_67 => ?_)
    · exact hexit _ _ _ hP hsz hS (lv_sub hl [0, 1, 2, 3] rfl)
    · exact absurd (by decide) c_67
  | succ n ih =>
    intro i H locs ls hi hP hsz hS hl
    have hi8 : i < 5 := by omega
    have hap : a ≠ po := fun h => by rw [h] at ha; omega
    have hal : ∀ k, a ≠ lt k := fun k h => by have := hltk k; rw [← h] at this; omega
    have hlp : ∀ k, lt k ≠ po := fun k h => by have := hltk k; rw [h] at this; omega
    have hxl : ∀ k, x ≠ lt k := fun k h => by have := hltk k; rw [← h] at this; omega
    have hpol : ∀ k, po ≠ lt k := fun k h => by have := hltk k; rw [← h] at this; omega
    have hpll : ∀ k, pl ≠ lt k := fun k h => by have := hltk k; rw [← h] at this; omega
    have hwl : ∀ k, w ≠ lt k := fun k h => by have := hltk k; rw [← h] at this; omega
    have hwp : w ≠ po := fun h => by rw [h] at hwk; omega
    have hpo9 : gR S x 3 = some po := hpo
    refine lv_iload hx hb dX6_decide_64 (lv_at hl 0 rfl) ?_
    refine lv_iconst (v := 5) hx hb dX6_decide_66 (by decide) ?_
    refine lv_icmp_ge (tgt := 114) hx hb dX6_decide_67 (by decide) (fun c_67 => ?_) (fun c_67 => ?_)
    · exact absurd c_67 (nI_ge (a := i) (b := 5) (by omega) (by decide))
    · refine lv_aload_n hx hb dX6_decide_70 rfl (lv_at hl 1 rfl) ?_
      refine gt_X6_35 hC hP (kAL _ (hxk)) (rAL hxl _ hpo9) dX6_decide_71 ?_
      refine lv_iconst (v := 2) hx hb dX6_decide_74 (by decide) ?_
      refine lv_aload_n hx hb dX6_decide_75 rfl (lv_at hl 2 rfl) ?_
      refine gt_X6_203 hC hP (kAL _ (ha)) dX6_decide_76 ?_
      rw [gI_cAL hap hal, his]
      refine lv_iload hx hb dX6_decide_79 (lv_at hl 0 rfl) ?_
      refine lv_aload_n hx hb dX6_decide_81 rfl (lv_at hl 2 rfl) ?_
      refine gt_X6_206 hC hP (kAL _ (ha)) dX6_decide_82 ?_
      rw [gI_cAL hap hal, hbl]
      refine g_callV (As := [.int _, .int _, .int _, .int _]) (rest := []) hC hU hP hS hl.1 (c_X4_send l N0 D cy _ _ _ _ _ _ po pl (lt (L + i)) (kAL i hpok) (rAL hpol i hpl) (kAL i hplk) (by rw [cAL_1 hL hlp, nAL i hpln]; exact vp_in_nI (by omega) (by decide)) (by rw [cAL_1 hL hlp, nI_clamp (by omega)]; exact rAL hpll i (hlt _ (by omega))) (kAL i (hltk _))) mL_X6_207 iM_X4_send sL_X4_send iN_X4 cD_X4_send ⟨by decide, by decide, rfl⟩ ⟨Nat.le_trans (by decide) hR.1, Nat.le_trans (by decide) hR.2⟩ ⟨hc0.1, hc0.2⟩ (ci := 4) rfl (by decide) (kAL _ (hpok)) rfl (Nat.le_of_ble_eq_true rfl) dX6_decide_85 (fun v S1 H locs hw hP hz hS => ?_)
      obtain ⟨rfl, hS1, hz2⟩ := hw
      replace hS1 := hS1.symm
      subst hS1
      replace hsz := hz2.trans hsz
      refine lv_astore (lv' := [(5, .ref _), (4, .int _), (0, .ref _), (1, .ref _), (3, .ref _)]) hx hb dX6_decide_88 hl (by decide) rfl (fun ls hl => ?_)
      refine lv_aload hx hb dX6_decide_90 (lv_at hl 0 rfl) ?_
      refine lv_aload_n hx hb dX6_decide_92 rfl (lv_at hl 4 rfl) ?_
      refine gt_X6_229 hC hP (kS (kAL _ (hwk))) dX6_decide_93 ?_
      rw [gI_cSend hwp (hwl _), gI_cAL hwp hwl, hst]
      refine pt_X6_150 hC hP hS (kS (kAL _ (hltk (L + i)))) dX6_decide_96 (fun H locs hP hz hS => ?_)
      replace hsz := hz.trans hsz
      refine lv_aload hx hb dX6_decide_99 (lv_at hl 0 rfl) ?_
      refine lv_aload_n hx hb dX6_decide_101 rfl (lv_at hl 4 rfl) ?_
      refine gt_X6_232 hC hP (kI (kS (kAL _ (hwk)))) (rI (rS (rAL hwl i hwr))) dX6_decide_102 ?_
      refine pt_X6_235 (v := some _) hC hP hS (kI (kS (kAL _ (hltk (L + i))))) dX6_decide_105 (fun H locs hP hz hS => ?_)
      replace hsz := hz.trans hsz
      refine lv_iinc (v := _ + 1) (lv' := [(4, .int _), (5, .ref _), (0, .ref _), (1, .ref _), (3, .ref _)]) hx hb dX6_decide_108 hl (k := 1) rfl rfl (by decide) rfl (fun ls hl => ?_)
      refine lv_goto (tgt := 64) hx hb dX6_decide_111 (by decide) ?_
      exact ih (i + 1) _ _ _ (by omega) (by exact hP) hsz hS (by rw [nI_succ]; exact lv_sub hl [0, 2, 3, 4] rfl)

def cDecN (S : gS) (a po pl : Nat) (lt : Nat → Nat) (k : Nat) : gS := sI (sI (cTake S po pl lt k) a 3 0) a 10 (gI S a 10 + 1)
def cDecY (S : gS) (a po pl : Nat) (lt : Nat → Nat) (L k z : Nat) (j : Int32) (w : Nat) (tm : Int32) : gS := cAL (sI (sI (sR (cTake (mkGrant S z j (wFirst S a w) (gI S a 6) (gI S a 0) tm (wFirst S a w + 60000 - 1)) po pl lt k) a 9 (some z)) a 3 2) a 7 0) po (tkf lt k) (L - 1) (gI S a 0) (gI S a 6) j (z + 1) 5
def dcP (S : gS) (a po pl : Nat) (lt : Nat → Nat) (L k sz : Nat) (Nu : Prop) (Ok : Nat → Nat → Int32 → Prop) (v : Option Value) (S1 : gS) (z : Nat) : Prop :=
  (Nu ∧ v = some (.int 0) ∧ S1 = cDecN S a po pl lt k ∧ z = sz) ∨ ∃ (j w : Nat) (tm : Int32), Ok j w tm ∧ L + 4 ≤ 90 ∧ v = some (.int 5) ∧ S1 = cDecY S a po pl lt L k sz (nI j) w tm ∧ z = sz + 2
def dcX (S : gS) (a L sz : Nat) (Ok : Nat → Nat → Int32 → Prop) (E : String) (S1 : gS) : Prop :=
  E = exS ∧ ∃ (j w : Nat) (tm : Int32), Ok j w tm ∧ 90 < L + 4 ∧ S1 = mkGrant S sz (nI j) (wFirst S a w) (gI S a 6) (gI S a 0) tm (wFirst S a w + 60000 - 1)
theorem tkf_k {S : gS} {lt : Nat → Nat} {k c : Nat} (h : ∀ j, gK S (lt j) = c) (j : Nat) : gK S (tkf lt k j) = c := by
  unfold tkf
  split
  · exact h _
  · split
    · exact h _
    · exact h _
theorem tkl {lt : Nat → Nat} {k z : Nat} (h : ∀ j, lt j < z) (j : Nat) : tkf lt k j < z := by
  unfold tkf
  split
  · exact h _
  · split
    · exact h _
    · exact h _
set_option maxRecDepth 100000 in
set_option maxHeartbeats 4000000 in
theorem c_X6_decide0 (l : Launch) (hls : l.stackTraces = false) (N0 : Nat) (D : va_G) (cy : Nat → ClassId) (S : gS) (sz : Nat) (x a po pl L k sa un rl : Nat) (lt f g : Nat → Nat) (hxk : gK S x = 7) (ha : gK S a = 2) (hpo : gR S x 3 = some po) (hpok : gK S po = 5) (hpl : gR S po 0 = some pl) (hplk : gK S pl = 13) (hpln : gn S pl = 91) (hL : gI S po 1 = nI L) (hL2 : L ≤ 90) (hk : k < L) (hlt : ∀ k, k < 91 → gR S pl k = some (lt k)) (hltk : ∀ k, gK S (lt k) = 3) (hsa : gR S a 8 = some sa) (hsak : gK S sa = 15) (hsan : gn S sa = 8) (hrl : gR S (lt k) 7 = some rl) (hrlk : gK S rl = 15) (hrln : gn S rl = 8) (hf : ∀ j, j < 8 → gR S sa j = some (f j) ∧ gK S (f j) = 6) (hg : ∀ j, j < 8 → gR S rl j = some (g j) ∧ gK S (g j) = 6) (hh : gR S a 11 = none) : gMX l yX6_decide cX6_decide 6 (some FieldType.int) { frames := 6, cells := 3, slots := 13, locals := 140 } N0 D cy [.ref x, .ref a, .int (nI k)] S sz (dcP S a po pl lt L k sz (nu0 S a f g) (ok0 S a f g)) (dcX S a L sz (ok0 S a f g)) := by
  refine bodyX (by decide) rfl (Nat.le_of_ble_eq_true rfl) ?_
  intro p e s m args below meth c ls hC hU hZ hne hr hlk hnm hsz hP hS hl
  have hx := hC.1
  have hb := hC.2.1
  have lx : x < sz := by rw [← hsz]; exact hP.lt (by omega)
  have la : a < sz := by rw [← hsz]; exact hP.lt (by omega)
  have lpo : po < sz := by rw [← hsz]; exact hP.lt (by omega)
  have lpl : pl < sz := by rw [← hsz]; exact hP.lt (by omega)
  have llt : ∀ j, lt j < sz := fun j => by rw [← hsz]; exact hP.lt (by rw [hltk j]; decide)
  have hap : a ≠ po := fun h => by rw [h] at ha; omega
  refine lv_aload_n hx hb dX6_decide_0 rfl (lv_at hl 1 rfl) ?_
  refine lv_aload_n hx hb dX6_decide_1 rfl (lv_at hl 0 rfl) ?_
  refine gt_X6_35 hC hP (hxk) (hpo) dX6_decide_2 ?_
  refine lv_iload_n hx hb dX6_decide_5 rfl (lv_at hl 2 rfl) ?_
  refine g_callV (As := [.int _]) (rest := [.ref _]) hC hU hP hS hl.1 (c_X4_at l N0 D cy _ _ po pl (lt k) _ hpok hpl hplk (by rw [hpln]; exact vp_in_nI (by omega) (by decide)) (by rw [nI_clamp (by omega)]; exact hlt k (by omega))) mL_X6_102 iM_X4_at sL_X4_at iN_X4 cD_X4_at ⟨by decide, by decide, rfl⟩ ⟨by decide, by decide⟩ ⟨by decide, by decide⟩ (ci := 4) rfl (by decide) (hpok) rfl (Nat.le_of_ble_eq_true rfl) dX6_decide_6 (fun v S1 H locs hw hP hz hS => ?_)
  obtain ⟨rfl, hS1, hz2⟩ := hw
  replace hS1 := hS1.symm
  subst hS1
  replace hsz := hz2.trans hsz
  refine g_callV (As := [.ref _]) (rest := []) hC hU hP hS hl.1 (c_X1_wishWith0 l N0 D cy _ _ a sa (lt k) rl f g ha (hltk k) hsa hsak hsan hrl hrlk hrln hf hg hh) mL_X6_218 iM_X1_wishWith sL_X1_wishWith iN_X1 cD_X1_wishWith ⟨by decide, by decide, rfl⟩ ⟨by decide, by decide⟩ ⟨by decide, by decide⟩ (ci := 1) rfl (by decide) (ha) rfl (Nat.le_of_ble_eq_true rfl) dX6_decide_9 (fun v S2 H locs hw hP hz hS => ?_)
  rw [hsz] at hw
  replace hw := cWQ_0 hw
  rcases hw with ⟨hNu, hv, hS1, hz2⟩ | ⟨j, w, tm, hOk, hv, hS1, hz2⟩
  · subst hv; replace hS1 := hS1.symm; subst hS1; replace hsz := hz2
    refine lv_astore_nN (lv' := [(3, .null), (0, .ref _), (1, .ref _), (2, .int _)]) hx hb dX6_decide_12 rfl hl (by decide) rfl (fun ls hl => ?_)
    refine lv_aload_nN hx hb dX6_decide_13 rfl (lv_at hl 0 rfl) ?_
    refine lv_ifnullN (tgt := 38) hx hb dX6_decide_14 (by decide) ?_
    refine lv_aload_n hx hb dX6_decide_38 rfl (lv_at hl 1 rfl) ?_
    refine gt_X6_35 hC hP (hxk) (hpo) dX6_decide_39 ?_
    refine lv_iload_n hx hb dX6_decide_42 rfl (lv_at hl 3 rfl) ?_
    refine g_callV (As := [.int _]) (rest := []) hC hU hP hS hl.1 (c_X4_take l N0 D cy _ _ po pl k lt hpok hpl hplk hpln (fun j hj => ⟨hlt j hj, hltk j⟩) (by omega)) mL_X6_111 iM_X4_take sL_X4_take iN_X4 cD_X4_take ⟨by decide, by decide, rfl⟩ ⟨by decide, by decide⟩ ⟨by decide, by decide⟩ (ci := 4) rfl (by decide) (hpok) rfl (Nat.le_of_ble_eq_true rfl) dX6_decide_43 (fun v S1 H locs hw hP hz hS => ?_)
    obtain ⟨rfl, hS1, hz2⟩ := hw
    replace hS1 := hS1.symm
    subst hS1
    replace hsz := hz2.trans hsz
    replace hP : gP N0 D cy (cTake S po pl lt k) H := hP
    refine lv_aload_nN hx hb dX6_decide_46 rfl (lv_at hl 0 rfl) ?_
    refine lv_ifnonnullN hx hb dX6_decide_47 ?_
    refine lv_aload_n hx hb dX6_decide_50 rfl (lv_at hl 2 rfl) ?_
    refine g_callV (As := []) (rest := []) hC hU hP hS hl.1 (c_X1_fail l N0 D cy _ _ a (kTk ha)) mL_X6_222 iM_X1_fail sL_X1_fail iN_X1 cD_X1_fail ⟨by decide, by decide, rfl⟩ ⟨by decide, by decide⟩ ⟨by decide, by decide⟩ (ci := 1) rfl (by decide) (kTk (ha)) rfl (Nat.le_of_ble_eq_true rfl) dX6_decide_51 (fun v S1 H locs hw hP hz hS => ?_)
    obtain ⟨rfl, hS1, hz2⟩ := hw
    replace hS1 := hS1.symm
    subst hS1
    replace hsz := hz2.trans hsz
    refine lv_iconst (v := 0) hx hb dX6_decide_54 (by decide) ?_
    exact vx_ret (g_iret hC hP hS hr hlk (by decide) (by decide) (Or.inl ⟨hNu, rfl, by rw [gI_Tk hap]; rfl, hsz⟩) dX6_decide_55)
  · subst hv; replace hS1 := hS1.symm; subst hS1; replace hsz := hz2
    refine lv_astore_n (lv' := [(3, .ref _), (0, .ref _), (1, .ref _), (2, .int _)]) hx hb dX6_decide_12 rfl hl (by decide) rfl (fun ls hl => ?_)
    refine lv_aload_n hx hb dX6_decide_13 rfl (lv_at hl 0 rfl) ?_
    refine lv_ifnull hx hb dX6_decide_14 ?_
    refine lv_aload_n hx hb dX6_decide_17 rfl (lv_at hl 1 rfl) ?_
    refine gt_X6_35 hC hP (kMG lx hxk) (rMG lx hpo) dX6_decide_18 ?_
    refine lv_iconst (v := 4) hx hb dX6_decide_21 (by decide) ?_
    refine g_callV (As := [.int _]) (rest := []) hC hU hP hS hl.1 (c_X4_hasRoomFor l N0 D cy _ _ po _ (kMG lpo hpok)) mL_X6_73 iM_X4_hasRoomFor sL_X4_hasRoomFor iN_X4 cD_X4_hasRoomFor ⟨by decide, by decide, rfl⟩ ⟨by decide, by decide⟩ ⟨by decide, by decide⟩ (ci := 4) rfl (by decide) (kMG lpo hpok) rfl (Nat.le_of_ble_eq_true rfl) dX6_decide_22 (fun v S1 H locs hw hP hz hS => ?_)
    obtain ⟨rfl, hS1, hz2⟩ := hw
    replace hS1 := hS1.symm
    subst hS1
    replace hsz := hz2.trans hsz
    rw [iMG lpo, hL]
    refine lv_if_ne (tgt := 38) hx hb dX6_decide_25 (by decide) (fun c_25 => ?_) (fun c_25 => ?_)
    · refine lv_aload_n hx hb dX6_decide_38 rfl (lv_at hl 1 rfl) ?_
      refine gt_X6_35 hC hP (kMG lx hxk) (rMG lx hpo) dX6_decide_39 ?_
      refine lv_iload_n hx hb dX6_decide_42 rfl (lv_at hl 3 rfl) ?_
      refine g_callV (As := [.int _]) (rest := []) hC hU hP hS hl.1 (c_X4_take l N0 D cy _ _ po pl k lt (kMG lpo hpok) (rMG lpo hpl) (kMG lpl hplk) (nMG lpl hpln) (fun j hj => ⟨rMG lpl (hlt j hj), kMG (llt j) (hltk j)⟩) (by omega)) mL_X6_111 iM_X4_take sL_X4_take iN_X4 cD_X4_take ⟨by decide, by decide, rfl⟩ ⟨by decide, by decide⟩ ⟨by decide, by decide⟩ (ci := 4) rfl (by decide) (kMG lpo hpok) rfl (Nat.le_of_ble_eq_true rfl) dX6_decide_43 (fun v S1 H locs hw hP hz hS => ?_)
      obtain ⟨rfl, hS1, hz2⟩ := hw
      replace hS1 := hS1.symm
      subst hS1
      replace hsz := hz2.trans hsz
      replace hP : gP N0 D cy (cTake (mkGrant S sz (nI j) (wFirst S a w) (gI S a 6) (gI S a 0) tm (wFirst S a w + 60000 - 1)) po pl lt k) H := hP
      refine lv_aload_n hx hb dX6_decide_46 rfl (lv_at hl 0 rfl) ?_
      refine lv_ifnonnull (tgt := 56) hx hb dX6_decide_47 (by decide) ?_
      refine lv_aload_n hx hb dX6_decide_56 rfl (lv_at hl 2 rfl) ?_
      refine lv_aload_n hx hb dX6_decide_57 rfl (lv_at hl 0 rfl) ?_
      refine g_callV (As := [.ref _]) (rest := []) hC hU hP hS hl.1 (c_X1_accept l N0 D cy _ _ a sz (kTk (kMG la ha))) mL_X6_225 iM_X1_accept sL_X1_accept iN_X1 cD_X1_accept ⟨by decide, by decide, rfl⟩ ⟨by decide, by decide⟩ ⟨by decide, by decide⟩ (ci := 1) rfl (by decide) (kTk (kMG la ha)) rfl (Nat.le_of_ble_eq_true rfl) dX6_decide_58 (fun v S1 H locs hw hP hz hS => ?_)
      obtain ⟨rfl, hS1, hz2⟩ := hw
      replace hS1 := hS1.symm
      subst hS1
      replace hsz := hz2.trans hsz
      refine lv_iconst (v := 0) hx hb dX6_decide_61 (by decide) ?_
      refine lv_istore (lv' := [(4, .int _), (3, .ref _), (0, .ref _), (1, .ref _), (2, .int _)]) hx hb dX6_decide_62 hl (by decide) rfl (fun ls hl => ?_)
      have hL4 := (rm5 (q := 4) (n := 4) rfl (by decide) hL2).mp (th1 c_25)
      have hxp : x ≠ pl := fun h => by rw [h] at hxk; omega
      have hxa : x ≠ a := fun h => by rw [h] at hxk; omega
      have hpp : po ≠ pl := fun h => by rw [h] at hpok; omega
      have hpa : po ≠ a := Ne.symm hap
      have hla : pl ≠ a := fun h => by rw [h] at hplk; omega
      have hza : sz ≠ a := by omega
      have hzp : sz ≠ po := by omega
      have hzl : sz ≠ pl := by omega
      refine W.widen (k := 3) (n := 13) (by decide) (by decide) ?_
      refine lp_X6_decide (S := sI (sI (sR (cTake (mkGrant S sz (nI j) (wFirst S a w) (gI S a 6) (gI S a 0) tm (wFirst S a w + 60000 - 1)) po pl lt k) a 9 (some sz)) a 3 2) a 7 0) (sz := sz + 2) (x := x) (a := a) (po := po) (pl := pl) (L := L - 1) (w := sz) (rw := sz + 1) (lt := tkf lt k) (is := gI S a 0) (bl := gI S a 6) (st := nI j) hC hU (kI (kI (kR (kTk (kMG lx hxk))))) (kI (kI (kR (kTk (kMG la ha))))) (rI (rI (rR (Or.inr hxa) (rTk hxp (rMG lx hpo))))) (kI (kI (kR (kTk (kMG lpo hpok))))) (rI (rI (rR (Or.inr hpa) (rTk hpp (rMG lpo hpl))))) (kI (kI (kR (kTk (kMG lpl hplk))))) (nI' (nI' (nR' (nTk (nMG lpl hpln))))) (by rw [gI_a hpa, gI_a hpa, gI_sR, gI_Tk1 (L := L) (by rw [iMG lpo]; exact hL) (by omega)]) (by omega) (fun q hq => rI (rI (rR (Or.inr hla) (gR_Tk hq)))) (fun q => kI (kI (kR (kTk (kMG (tkl llt q) (tkf_k hltk q)))))) (kI (kI (kR (kTk kMGz)))) (rI (rI (rR (Or.inr hza) (rTk hzl rMGz)))) (kI (kI (kR (kTk kMGr)))) (by rw [gI_k (by decide), gI_k (by decide), gI_sR, gI_Tk hap, iMG la]) (by rw [gI_k (by decide), gI_k (by decide), gI_sR, gI_Tk hap, iMG la]) (by rw [gI_a hza, gI_a hza, gI_sR, gI_Tk hzp, iMGz]) ⟨by decide, by decide⟩ ⟨by decide, by decide⟩ (fun H locs ls hP hsz hS hl => ?_) 5 0 _ _ _ rfl hP hsz hS (lv_sub hl [0, 2, 3, 1] rfl)
      refine lv_iconst (v := 5) hx hb dX6_decide_114 (by decide) ?_
      exact vx_ret (g_iret hC hP hS hr hlk (by decide) (by decide) (Or.inr ⟨j, w, tm, hOk, hL4, rfl, rfl, hsz⟩) dX6_decide_115)
    · exact g_thrS (is := 134) (text := "too many letters") hC hls hZ hne hlk hP hS hl.1 (by decide) dX6_decide_28 dX6_decide_31 dX6_decide_32 dX6_decide_34 dX6_decide_37 ⟨by decide, by decide⟩ ⟨by decide, by decide⟩ ⟨by decide, by decide⟩ (⟨rfl, j, w, tm, hOk, by have := mt (rm5 (q := 4) (n := 4) rfl (by decide) hL2).mpr (th0 c_25); omega, rfl⟩)
set_option maxRecDepth 100000 in
set_option maxHeartbeats 4000000 in
theorem c_X6_decide1 (l : Launch) (hls : l.stackTraces = false) (N0 : Nat) (D : va_G) (cy : Nat → ClassId) (S : gS) (sz : Nat) (x a po pl L k sa un rl : Nat) (lt f g : Nat → Nat) (hxk : gK S x = 7) (ha : gK S a = 2) (hpo : gR S x 3 = some po) (hpok : gK S po = 5) (hpl : gR S po 0 = some pl) (hplk : gK S pl = 13) (hpln : gn S pl = 91) (hL : gI S po 1 = nI L) (hL2 : L ≤ 90) (hk : k < L) (hlt : ∀ k, k < 91 → gR S pl k = some (lt k)) (hltk : ∀ k, gK S (lt k) = 3) (hsa : gR S a 8 = some sa) (hsak : gK S sa = 15) (hsan : gn S sa = 8) (hrl : gR S (lt k) 7 = some rl) (hrlk : gK S rl = 15) (hrln : gn S rl = 8) (hf : ∀ j, j < 8 → gR S sa j = some (f j) ∧ gK S (f j) = 6) (hg : ∀ j, j < 8 → gR S rl j = some (g j) ∧ gK S (g j) = 6) (h rh j0 : Nat) (hh : gR S a 11 = some h) (hhk : gK S h = 1) (hrh : gR S h 2 = some rh) (hrhk : gK S rh = 6) (hst : gI S h 0 = nI j0) (hj : j0 < 8) : gMX l yX6_decide cX6_decide 6 (some FieldType.int) { frames := 6, cells := 3, slots := 13, locals := 140 } N0 D cy [.ref x, .ref a, .int (nI k)] S sz (dcP S a po pl lt L k sz (nu1 S a f g j0) (ok1 S a f g j0 rh)) (dcX S a L sz (ok1 S a f g j0 rh)) := by
  refine bodyX (by decide) rfl (Nat.le_of_ble_eq_true rfl) ?_
  intro p e s m args below meth c ls hC hU hZ hne hr hlk hnm hsz hP hS hl
  have hx := hC.1
  have hb := hC.2.1
  have lx : x < sz := by rw [← hsz]; exact hP.lt (by omega)
  have la : a < sz := by rw [← hsz]; exact hP.lt (by omega)
  have lpo : po < sz := by rw [← hsz]; exact hP.lt (by omega)
  have lpl : pl < sz := by rw [← hsz]; exact hP.lt (by omega)
  have llt : ∀ j, lt j < sz := fun j => by rw [← hsz]; exact hP.lt (by rw [hltk j]; decide)
  have hap : a ≠ po := fun h => by rw [h] at ha; omega
  refine lv_aload_n hx hb dX6_decide_0 rfl (lv_at hl 1 rfl) ?_
  refine lv_aload_n hx hb dX6_decide_1 rfl (lv_at hl 0 rfl) ?_
  refine gt_X6_35 hC hP (hxk) (hpo) dX6_decide_2 ?_
  refine lv_iload_n hx hb dX6_decide_5 rfl (lv_at hl 2 rfl) ?_
  refine g_callV (As := [.int _]) (rest := [.ref _]) hC hU hP hS hl.1 (c_X4_at l N0 D cy _ _ po pl (lt k) _ hpok hpl hplk (by rw [hpln]; exact vp_in_nI (by omega) (by decide)) (by rw [nI_clamp (by omega)]; exact hlt k (by omega))) mL_X6_102 iM_X4_at sL_X4_at iN_X4 cD_X4_at ⟨by decide, by decide, rfl⟩ ⟨by decide, by decide⟩ ⟨by decide, by decide⟩ (ci := 4) rfl (by decide) (hpok) rfl (Nat.le_of_ble_eq_true rfl) dX6_decide_6 (fun v S1 H locs hw hP hz hS => ?_)
  obtain ⟨rfl, hS1, hz2⟩ := hw
  replace hS1 := hS1.symm
  subst hS1
  replace hsz := hz2.trans hsz
  refine g_callV (As := [.ref _]) (rest := []) hC hU hP hS hl.1 (c_X1_wishWith1 l N0 D cy _ _ a sa (lt k) rl f g ha (hltk k) hsa hsak hsan hrl hrlk hrln hf hg h rh j0 hh hhk hrh hrhk hst hj) mL_X6_218 iM_X1_wishWith sL_X1_wishWith iN_X1 cD_X1_wishWith ⟨by decide, by decide, rfl⟩ ⟨by decide, by decide⟩ ⟨by decide, by decide⟩ (ci := 1) rfl (by decide) (ha) rfl (Nat.le_of_ble_eq_true rfl) dX6_decide_9 (fun v S2 H locs hw hP hz hS => ?_)
  rw [hsz] at hw
  replace hw := cWQ_1 hw
  rcases hw with ⟨hNu, hv, hS1, hz2⟩ | ⟨j, w, tm, hOk, hv, hS1, hz2⟩
  · subst hv; replace hS1 := hS1.symm; subst hS1; replace hsz := hz2
    refine lv_astore_nN (lv' := [(3, .null), (0, .ref _), (1, .ref _), (2, .int _)]) hx hb dX6_decide_12 rfl hl (by decide) rfl (fun ls hl => ?_)
    refine lv_aload_nN hx hb dX6_decide_13 rfl (lv_at hl 0 rfl) ?_
    refine lv_ifnullN (tgt := 38) hx hb dX6_decide_14 (by decide) ?_
    refine lv_aload_n hx hb dX6_decide_38 rfl (lv_at hl 1 rfl) ?_
    refine gt_X6_35 hC hP (hxk) (hpo) dX6_decide_39 ?_
    refine lv_iload_n hx hb dX6_decide_42 rfl (lv_at hl 3 rfl) ?_
    refine g_callV (As := [.int _]) (rest := []) hC hU hP hS hl.1 (c_X4_take l N0 D cy _ _ po pl k lt hpok hpl hplk hpln (fun j hj => ⟨hlt j hj, hltk j⟩) (by omega)) mL_X6_111 iM_X4_take sL_X4_take iN_X4 cD_X4_take ⟨by decide, by decide, rfl⟩ ⟨by decide, by decide⟩ ⟨by decide, by decide⟩ (ci := 4) rfl (by decide) (hpok) rfl (Nat.le_of_ble_eq_true rfl) dX6_decide_43 (fun v S1 H locs hw hP hz hS => ?_)
    obtain ⟨rfl, hS1, hz2⟩ := hw
    replace hS1 := hS1.symm
    subst hS1
    replace hsz := hz2.trans hsz
    replace hP : gP N0 D cy (cTake S po pl lt k) H := hP
    refine lv_aload_nN hx hb dX6_decide_46 rfl (lv_at hl 0 rfl) ?_
    refine lv_ifnonnullN hx hb dX6_decide_47 ?_
    refine lv_aload_n hx hb dX6_decide_50 rfl (lv_at hl 2 rfl) ?_
    refine g_callV (As := []) (rest := []) hC hU hP hS hl.1 (c_X1_fail l N0 D cy _ _ a (kTk ha)) mL_X6_222 iM_X1_fail sL_X1_fail iN_X1 cD_X1_fail ⟨by decide, by decide, rfl⟩ ⟨by decide, by decide⟩ ⟨by decide, by decide⟩ (ci := 1) rfl (by decide) (kTk (ha)) rfl (Nat.le_of_ble_eq_true rfl) dX6_decide_51 (fun v S1 H locs hw hP hz hS => ?_)
    obtain ⟨rfl, hS1, hz2⟩ := hw
    replace hS1 := hS1.symm
    subst hS1
    replace hsz := hz2.trans hsz
    refine lv_iconst (v := 0) hx hb dX6_decide_54 (by decide) ?_
    exact vx_ret (g_iret hC hP hS hr hlk (by decide) (by decide) (Or.inl ⟨hNu, rfl, by rw [gI_Tk hap]; rfl, hsz⟩) dX6_decide_55)
  · subst hv; replace hS1 := hS1.symm; subst hS1; replace hsz := hz2
    refine lv_astore_n (lv' := [(3, .ref _), (0, .ref _), (1, .ref _), (2, .int _)]) hx hb dX6_decide_12 rfl hl (by decide) rfl (fun ls hl => ?_)
    refine lv_aload_n hx hb dX6_decide_13 rfl (lv_at hl 0 rfl) ?_
    refine lv_ifnull hx hb dX6_decide_14 ?_
    refine lv_aload_n hx hb dX6_decide_17 rfl (lv_at hl 1 rfl) ?_
    refine gt_X6_35 hC hP (kMG lx hxk) (rMG lx hpo) dX6_decide_18 ?_
    refine lv_iconst (v := 4) hx hb dX6_decide_21 (by decide) ?_
    refine g_callV (As := [.int _]) (rest := []) hC hU hP hS hl.1 (c_X4_hasRoomFor l N0 D cy _ _ po _ (kMG lpo hpok)) mL_X6_73 iM_X4_hasRoomFor sL_X4_hasRoomFor iN_X4 cD_X4_hasRoomFor ⟨by decide, by decide, rfl⟩ ⟨by decide, by decide⟩ ⟨by decide, by decide⟩ (ci := 4) rfl (by decide) (kMG lpo hpok) rfl (Nat.le_of_ble_eq_true rfl) dX6_decide_22 (fun v S1 H locs hw hP hz hS => ?_)
    obtain ⟨rfl, hS1, hz2⟩ := hw
    replace hS1 := hS1.symm
    subst hS1
    replace hsz := hz2.trans hsz
    rw [iMG lpo, hL]
    refine lv_if_ne (tgt := 38) hx hb dX6_decide_25 (by decide) (fun c_25 => ?_) (fun c_25 => ?_)
    · refine lv_aload_n hx hb dX6_decide_38 rfl (lv_at hl 1 rfl) ?_
      refine gt_X6_35 hC hP (kMG lx hxk) (rMG lx hpo) dX6_decide_39 ?_
      refine lv_iload_n hx hb dX6_decide_42 rfl (lv_at hl 3 rfl) ?_
      refine g_callV (As := [.int _]) (rest := []) hC hU hP hS hl.1 (c_X4_take l N0 D cy _ _ po pl k lt (kMG lpo hpok) (rMG lpo hpl) (kMG lpl hplk) (nMG lpl hpln) (fun j hj => ⟨rMG lpl (hlt j hj), kMG (llt j) (hltk j)⟩) (by omega)) mL_X6_111 iM_X4_take sL_X4_take iN_X4 cD_X4_take ⟨by decide, by decide, rfl⟩ ⟨by decide, by decide⟩ ⟨by decide, by decide⟩ (ci := 4) rfl (by decide) (kMG lpo hpok) rfl (Nat.le_of_ble_eq_true rfl) dX6_decide_43 (fun v S1 H locs hw hP hz hS => ?_)
      obtain ⟨rfl, hS1, hz2⟩ := hw
      replace hS1 := hS1.symm
      subst hS1
      replace hsz := hz2.trans hsz
      replace hP : gP N0 D cy (cTake (mkGrant S sz (nI j) (wFirst S a w) (gI S a 6) (gI S a 0) tm (wFirst S a w + 60000 - 1)) po pl lt k) H := hP
      refine lv_aload_n hx hb dX6_decide_46 rfl (lv_at hl 0 rfl) ?_
      refine lv_ifnonnull (tgt := 56) hx hb dX6_decide_47 (by decide) ?_
      refine lv_aload_n hx hb dX6_decide_56 rfl (lv_at hl 2 rfl) ?_
      refine lv_aload_n hx hb dX6_decide_57 rfl (lv_at hl 0 rfl) ?_
      refine g_callV (As := [.ref _]) (rest := []) hC hU hP hS hl.1 (c_X1_accept l N0 D cy _ _ a sz (kTk (kMG la ha))) mL_X6_225 iM_X1_accept sL_X1_accept iN_X1 cD_X1_accept ⟨by decide, by decide, rfl⟩ ⟨by decide, by decide⟩ ⟨by decide, by decide⟩ (ci := 1) rfl (by decide) (kTk (kMG la ha)) rfl (Nat.le_of_ble_eq_true rfl) dX6_decide_58 (fun v S1 H locs hw hP hz hS => ?_)
      obtain ⟨rfl, hS1, hz2⟩ := hw
      replace hS1 := hS1.symm
      subst hS1
      replace hsz := hz2.trans hsz
      refine lv_iconst (v := 0) hx hb dX6_decide_61 (by decide) ?_
      refine lv_istore (lv' := [(4, .int _), (3, .ref _), (0, .ref _), (1, .ref _), (2, .int _)]) hx hb dX6_decide_62 hl (by decide) rfl (fun ls hl => ?_)
      have hL4 := (rm5 (q := 4) (n := 4) rfl (by decide) hL2).mp (th1 c_25)
      have hxp : x ≠ pl := fun h => by rw [h] at hxk; omega
      have hxa : x ≠ a := fun h => by rw [h] at hxk; omega
      have hpp : po ≠ pl := fun h => by rw [h] at hpok; omega
      have hpa : po ≠ a := Ne.symm hap
      have hla : pl ≠ a := fun h => by rw [h] at hplk; omega
      have hza : sz ≠ a := by omega
      have hzp : sz ≠ po := by omega
      have hzl : sz ≠ pl := by omega
      refine W.widen (k := 3) (n := 13) (by decide) (by decide) ?_
      refine lp_X6_decide (S := sI (sI (sR (cTake (mkGrant S sz (nI j) (wFirst S a w) (gI S a 6) (gI S a 0) tm (wFirst S a w + 60000 - 1)) po pl lt k) a 9 (some sz)) a 3 2) a 7 0) (sz := sz + 2) (x := x) (a := a) (po := po) (pl := pl) (L := L - 1) (w := sz) (rw := sz + 1) (lt := tkf lt k) (is := gI S a 0) (bl := gI S a 6) (st := nI j) hC hU (kI (kI (kR (kTk (kMG lx hxk))))) (kI (kI (kR (kTk (kMG la ha))))) (rI (rI (rR (Or.inr hxa) (rTk hxp (rMG lx hpo))))) (kI (kI (kR (kTk (kMG lpo hpok))))) (rI (rI (rR (Or.inr hpa) (rTk hpp (rMG lpo hpl))))) (kI (kI (kR (kTk (kMG lpl hplk))))) (nI' (nI' (nR' (nTk (nMG lpl hpln))))) (by rw [gI_a hpa, gI_a hpa, gI_sR, gI_Tk1 (L := L) (by rw [iMG lpo]; exact hL) (by omega)]) (by omega) (fun q hq => rI (rI (rR (Or.inr hla) (gR_Tk hq)))) (fun q => kI (kI (kR (kTk (kMG (tkl llt q) (tkf_k hltk q)))))) (kI (kI (kR (kTk kMGz)))) (rI (rI (rR (Or.inr hza) (rTk hzl rMGz)))) (kI (kI (kR (kTk kMGr)))) (by rw [gI_k (by decide), gI_k (by decide), gI_sR, gI_Tk hap, iMG la]) (by rw [gI_k (by decide), gI_k (by decide), gI_sR, gI_Tk hap, iMG la]) (by rw [gI_a hza, gI_a hza, gI_sR, gI_Tk hzp, iMGz]) ⟨by decide, by decide⟩ ⟨by decide, by decide⟩ (fun H locs ls hP hsz hS hl => ?_) 5 0 _ _ _ rfl hP hsz hS (lv_sub hl [0, 2, 3, 1] rfl)
      refine lv_iconst (v := 5) hx hb dX6_decide_114 (by decide) ?_
      exact vx_ret (g_iret hC hP hS hr hlk (by decide) (by decide) (Or.inr ⟨j, w, tm, hOk, hL4, rfl, rfl, hsz⟩) dX6_decide_115)
    · exact g_thrS (is := 134) (text := "too many letters") hC hls hZ hne hlk hP hS hl.1 (by decide) dX6_decide_28 dX6_decide_31 dX6_decide_32 dX6_decide_34 dX6_decide_37 ⟨by decide, by decide⟩ ⟨by decide, by decide⟩ ⟨by decide, by decide⟩ (⟨rfl, j, w, tm, hOk, by have := mt (rm5 (q := 4) (n := 4) rfl (by decide) hL2).mpr (th0 c_25); omega, rfl⟩)
