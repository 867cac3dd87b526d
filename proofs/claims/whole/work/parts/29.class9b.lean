theorem kLt {S : gS} {a z un b c : Nat} (hne : b ≠ z) (h : gK S b = c) : gK (mkLetter S a z un) b = c := kW (kR (kR (kN hne h)))
theorem nLt {S : gS} {a z un b c : Nat} (hne : b ≠ z) (h : gn S b = c) : gn (mkLetter S a z un) b = c := nW' (nR' (nR' (nN' hne h)))
theorem rLt {S : gS} {a z un b j : Nat} {r : Option Nat} (hz : b ≠ z) (ha : b ≠ a) (h : gR S b j = r) : gR (mkLetter S a z un) b j = r := rW hz (rR (Or.inr ha) (rR (Or.inr ha) (rN hz h)))
/-- the post while its letters are made -/
def pIni (S : gS) (a sz un : Nat) : Nat → gS
  | 0 => sR (sN S sz 13 91) a 0 (some sz)
  | k + 1 => sR (mkLetter (sN (pIni S a sz un k) (sz + 1 + 2 * k) 3 0) (sz + 1 + 2 * k) (sz + 1 + 2 * k + 1) un) sz k (some (sz + 1 + 2 * k))
theorem pIni_K {S : gS} {a sz un b c : Nat} (hb : b < sz) (h : gK S b = c) : ∀ k, gK (pIni S a sz un k) b = c
  | 0 => kR (kN (by omega) h)
  | k + 1 => kR (kLt (by omega) (kN (by omega) (pIni_K hb h k)))
theorem pIni_pK {S : gS} {a sz un : Nat} : ∀ k, gK (pIni S a sz un k) sz = 13
  | 0 => kR kN_s
  | k + 1 => kR (kLt (by omega) (kN (by omega) (pIni_pK k)))
theorem pIni_pn {S : gS} {a sz un : Nat} : ∀ k, gn (pIni S a sz un k) sz = 91
  | 0 => nR' nN_s
  | k + 1 => nR' (nLt (by omega) (nN' (by omega) (pIni_pn k)))
theorem pIni_pR {S : gS} {a sz un : Nat} (ha : a < sz) : ∀ k, gR (pIni S a sz un k) a 0 = some sz
  | 0 => gR_s
  | k + 1 => rR (Or.inr (by omega)) (rLt (by omega) (by omega) (rN (by omega) (pIni_pR ha k)))
set_option maxRecDepth 100000 in
set_option maxHeartbeats 4000000 in
theorem lp_X4_init {p : Program} {l : Launch} {e : Env} {R : Room} {s : State} {m : MethodId} {args : Array Value} {below : List Frame} {meth : Method} {c : Code} {Q : State → Prop} {N0 : Nat} {D : va_G} {cy : Nat → ClassId} {S : gS} {sz : Nat} (hC : gC N0 D cy p s m args c cX4_init 3 RX4) (hU : gU D cy s) {a un c0 s0 : Nat} (ha : gK S a = 5) (hunk : gK S un = 6) (alt : a < sz) (ult : un < sz) (hR : 3 ≤ R.frames ∧ 60 ≤ R.locals) (hc0 : c0 + 182 ≤ R.cells ∧ s0 + 1456 ≤ R.slots)
    (hexit : ∀ (H : Heap) (locs : List Loc) (ls : Array Slot), gP N0 D cy (pIni S a sz un 91) H → H.size = sz + 183 → va_S (fun q => N0 ≤ q) s.heap H locs → lv_has ls 3 [(2, .int (nI 91)), (0, .ref a), (1, .ref un)] → W p l e R s m args below meth c H locs (c0 + 182) (s0 + 1456) Q (F0 m 44 ls [])) :
    ∀ (n i : Nat) (H : Heap) (locs : List Loc) (ls : Array Slot), i + n = 91 → gP N0 D cy (pIni S a sz un i) H → H.size = sz + 1 + 2 * i → va_S (fun q => N0 ≤ q) s.heap H locs → lv_has ls 3 [(2, .int (nI i)), (0, .ref a), (1, .ref un)] → W p l e R s m args below meth c H locs (c0 + 2 * i) (s0 + 16 * i) Q (F0 m 15 ls []) := by
  have hx := hC.1
  have hb := hC.2.1
  intro n
  induction n with
  | zero =>
    intro i H locs ls hi hP hsz hS hl
    have hi9 : i = 91 := by omega
    subst hi9
    refine lv_iload_n hx hb dX4_init_15 rfl (lv_at hl 0 rfl) ?_
    refine lv_aload_n hx hb dX4_init_16 rfl (lv_at hl 1 rfl) ?_
    refine gt_X4_11 hC hP (pIni_K alt ha 91) (pIni_pR alt 91) dX4_init_17 ?_
    refine g_alen hC hP (j := 4) (by decide) (pIni_pK 91) dX4_init_20 ?_
    rw [pIni_pn 91]
    refine lv_icmp_ge (tgt := 44) hx hb dX4_init_21 (by decide) (fun c_21 => ?_) (fun c_21 => ?_)
    · exact hexit _ _ _ hP hsz hS hl
    · exact absurd (Int32.le_refl _) c_21
  | succ n ih =>
    intro i H locs ls hi hP hsz hS hl
    have hi9 : i < 91 := by omega
    refine lv_iload_n hx hb dX4_init_15 rfl (lv_at hl 0 rfl) ?_
    refine lv_aload_n hx hb dX4_init_16 rfl (lv_at hl 1 rfl) ?_
    refine gt_X4_11 hC hP (pIni_K alt ha i) (pIni_pR alt i) dX4_init_17 ?_
    refine g_alen hC hP (j := 4) (by decide) (pIni_pK i) dX4_init_20 ?_
    rw [pIni_pn i]
    refine lv_icmp_ge (tgt := 44) hx hb dX4_init_21 (by decide) (fun c_21 => ?_) (fun c_21 => ?_)
    · exact absurd c_21 (nI_ge (a := i) (b := 91) (by omega) (by decide))
    · refine lv_aload_n hx hb dX4_init_24 rfl (lv_at hl 1 rfl) ?_
      refine gt_X4_11 hC hP (pIni_K alt ha i) (pIni_pR alt i) dX4_init_25 ?_
      refine lv_iload_n hx hb dX4_init_28 rfl (lv_at hl 0 rfl) ?_
      refine g_new hC hP hS (ci := 2) rfl (by decide) uW_X2 tyX2_ok (by decide) kL_X4_9 iB_X2 iN_X2 (by omega) (by show s0 + 16 * i + 8 ≤ R.slots; omega) dX4_init_29 (fun H hP1 hz1 hS => ?_)
      rw [hsz] at hP1 hz1 ⊢
      replace hsz := hz1
      clear hz1
      refine lv_dup hx hb dX4_init_32 rfl ?_
      refine lv_aload_n hx hb dX4_init_33 rfl (lv_at hl 2 rfl) ?_
      refine g_callI (As := [.ref _]) (rest := [.ref _, .int _, .ref _]) hC hU hP1 hS hl.1 (c_X2_init l N0 D cy _ _ (sz + 1 + 2 * i) un kN_s (kN (by omega) (pIni_K ult hunk i))) mL_X4_17 iM_X2_init iN_X2 cD_X2_init rfl ⟨by decide, by decide, rfl⟩ ⟨Nat.le_trans (by decide) hR.1, Nat.le_trans (by decide) hR.2⟩ ⟨by show c0 + 2 * i + 1 + 1 ≤ R.cells; omega, by show s0 + 16 * i + 8 + 8 ≤ R.slots; omega⟩ rfl (Nat.le_of_ble_eq_true rfl) dX4_init_34 (fun v S1 H locs hw hP hz hS => ?_)
      obtain ⟨rfl, hS1, hz2⟩ := hw
      rw [hsz] at hS1 hz2
      replace hS1 := hS1.symm
      subst hS1
      replace hsz : H.size = sz + 1 + 2 * (i + 1) := hz2
      refine g_aast hC hP hS (kd := 13) (ci := 2) (t0 := 4) (by decide) rfl rfl (by decide) (kLt (by omega) (kN (by omega) (pIni_pK i))) (kLt (by omega) kN_s) (by rw [nLt (by omega) (nN' (by omega) (pIni_pn i))]; exact vp_in_nI hi9 (by decide)) dX4_init_37 (fun H locs hP hz hS => ?_)
      replace hsz := hz.trans hsz
      rw [nI_clamp (by omega)] at hP
      refine lv_iinc (v := _ + 1) (lv' := [(2, .int _), (0, .ref _), (1, .ref _)]) hx hb dX4_init_38 hl (k := 0) rfl rfl (by decide) rfl (fun ls hl => ?_)
      refine lv_goto (tgt := 15) hx hb dX4_init_41 (by decide) ?_
      refine W.widen (k := c0 + 2 * (i + 1)) (n := s0 + 16 * (i + 1)) (by show c0 + 2 * i + 1 + 1 ≤ _; omega) (by show s0 + 16 * i + 8 + 8 ≤ _; omega) ?_
      exact ih (i + 1) _ _ _ (by omega) hP hsz hS (by rw [nI_succ]; exact hl)

set_option maxRecDepth 100000 in
set_option maxHeartbeats 4000000 in
theorem c_X4_init (l : Launch) (N0 : Nat) (D : va_G) (cy : Nat → ClassId) (S : gS) (sz : Nat) (a un : Nat) (ha : gK S a = 5) (hunk : gK S un = 6) : gM l yX4_init cX4_init 3 (none : Option FieldType) { frames := 3, cells := 183, slots := 1547, locals := 60 } N0 D cy [.ref a, .ref un] S sz (fun v S1 z => v = none ∧ S1 = pIni S a sz un 91 ∧ z = sz + 183) := by
  refine g_body (by decide) rfl (Nat.le_of_ble_eq_true rfl) ?_
  intro p e s m args below meth c ls hC hU hr hlk hnm hsz hP hS hl
  have hx := hC.1
  have hb := hC.2.1
  have alt : a < sz := by rw [← hsz]; exact hP.lt (by omega)
  have ult : un < sz := by rw [← hsz]; exact hP.lt (by omega)
  refine lv_aload_n hx hb dX4_init_0 rfl (lv_at hl 0 rfl) ?_
  refine g_obj hC hl.1 mL_X4_3 (by decide) (by decide) dX4_init_1 ?_
  refine lv_aload_n hx hb dX4_init_4 rfl (lv_at hl 0 rfl) ?_
  refine lv_bipush (v := 91) hx hb dX4_init_5 (by decide) ?_
  refine g_newq hC hP hS (kd := 13) (t0 := 4) (by decide) rfl kL_X4_9 hU.2.2.1 (N' := 91) (by decide) (by decide) (by decide) (by decide) (by decide) dX4_init_7 (fun H hP1 hz1 hS => ?_)
  rw [hsz] at hP1 hz1 ⊢
  replace hsz := hz1
  refine pt_X4_11 (v := some _) hC hP1 hS (kN (by omega) ha) hnm dX4_init_10 (fun H locs hP hz hS => ?_)
  replace hsz := hz.trans hsz
  refine lv_iconst (v := 0) hx hb dX4_init_13 (by decide) ?_
  refine lv_istore_n (lv' := [(2, .int _), (0, .ref _), (1, .ref _)]) hx hb dX4_init_14 rfl hl (by decide) rfl (fun ls hl => ?_)
  refine lp_X4_init (S := S) (sz := sz) (a := a) (un := un) (c0 := 1) (s0 := 91) hC hU ha hunk alt ult ⟨by decide, by decide⟩ ⟨by decide, by decide⟩ (fun H locs ls hP hsz hS hl => ?_) 91 0 _ _ _ rfl hP hsz hS hl
  exact g_vret hC hP hS hr hlk (by decide) (by decide) (⟨rfl, rfl, hsz⟩) dX4_init_44
