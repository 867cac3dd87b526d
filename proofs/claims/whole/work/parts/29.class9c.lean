theorem pIni_Rb {S : gS} {a sz un b j : Nat} {r : Option Nat} (hb : b < sz) (hne : b ≠ a) (h : gR S b j = r) : ∀ k, gR (pIni S a sz un k) b j = r
  | 0 => rR (Or.inr hne) (rN (by omega) h)
  | k + 1 => rR (Or.inr (by omega)) (rLt (by omega) (by omega) (rN (by omega) (pIni_Rb hb hne h k)))
theorem pIni_nb {S : gS} {a sz un b c : Nat} (hb : b < sz) (h : gn S b = c) : ∀ k, gn (pIni S a sz un k) b = c
  | 0 => nR' (nN' (by omega) h)
  | k + 1 => nR' (nLt (by omega) (nN' (by omega) (pIni_nb hb h k)))
/-- the house's own cells -/
def hLay (S : gS) (x : Nat) : Prop := gK S x = 7 ∧ gR S x 0 = some (x + 1) ∧ gR S x 1 = some (x + 2) ∧ gR S x 2 = some (x + 3) ∧ gK S (x + 1) = 12 ∧ gn S (x + 1) = 8 ∧ gK S (x + 2) = 14 ∧ gn S (x + 2) = 5 ∧ gK S (x + 3) = 6
def h0S (S : gS) (x : Nat) : gS := sR (sN S (x + 1) 12 8) x 0 (some (x + 1))
def h1S (S : gS) (x : Nat) : gS := sR (sN (h0S S x) (x + 2) 14 5) x 1 (some (x + 2))
def h2S (S : gS) (x : Nat) : gS := sR (sJ (sI (sI (sI (sN (h1S S x) (x + 3) 6 0) (x + 3) 0 0) (x + 3) 1 (-1)) (x + 3) 2 0) (x + 3) 3 0) x 2 (some (x + 3))
def h3S (S : gS) (x : Nat) : gS := sR (pIni (sN (h2S S x) (x + 4) 5 0) (x + 4) (x + 5) (x + 3) 91) x 3 (some (x + 4))
def iIni (S : gS) (x : Nat) : Nat → gS
  | 0 => h3S S x
  | i + 1 => sR (mkIssuer (sN (iIni S x i) (x + 188 + 2 * i) 2 0) (x + 188 + 2 * i) (x + 188 + 2 * i + 1) (x + 3) (nI i)) (x + 1) i (some (x + 188 + 2 * i))
def nIni (S : gS) (x : Nat) : Nat → gS
  | 0 => iIni S x 8
  | n + 1 => sR (mkNode (sN (nIni S x n) (x + 204 + 2 * n) 4 0) (x + 204 + 2 * n) (x + 204 + 2 * n + 1) (x + 3)) (x + 2) n (some (x + 204 + 2 * n))
theorem kIs {S : gS} {a z un b c : Nat} {v : Int32} (hne : b ≠ z) (h : gK S b = c) : gK (mkIssuer S a z un v) b = c := kW (kR (kI (kJ (kR (kN hne (kI h))))))
theorem nIs {S : gS} {a z un b c : Nat} {v : Int32} (hne : b ≠ z) (h : gn S b = c) : gn (mkIssuer S a z un v) b = c := nW' (nR' (nI' (nJ' (nR' (nN' hne (nI' h))))))
theorem rIs {S : gS} {a z un b j : Nat} {v : Int32} {r : Option Nat} (hz : b ≠ z) (ha : b ≠ a) (h : gR S b j = r) : gR (mkIssuer S a z un v) b j = r := rW hz (rR (Or.inr ha) (rI (rJ (rR (Or.inr ha) (rN hz (rI h))))))
theorem kNo {S : gS} {a z un b c : Nat} (hne : b ≠ z) (h : gK S b = c) : gK (mkNode S a z un) b = c := kW (kR (kN hne (kI h)))
theorem nNo {S : gS} {a z un b c : Nat} (hne : b ≠ z) (h : gn S b = c) : gn (mkNode S a z un) b = c := nW' (nR' (nN' hne (nI' h)))
theorem rNo {S : gS} {a z un b j : Nat} {r : Option Nat} (hz : b ≠ z) (ha : b ≠ a) (h : gR S b j = r) : gR (mkNode S a z un) b j = r := rW hz (rR (Or.inr ha) (rN hz (rI h)))
theorem hLay_2 {S : gS} {x : Nat} (h : gK S x = 7) : hLay (h2S S x) x := by
  refine ⟨kR (kJ (kI (kI (kI (kN (by omega) (kR (kN (by omega) (kR (kN (by omega) h))))))))), rR (Or.inl (by decide)) (rJ (rI (rI (rI (rN (by omega) (rR (Or.inl (by decide)) (rN (by omega) gR_s))))))), rR (Or.inl (by decide)) (rJ (rI (rI (rI (rN (by omega) gR_s))))), gR_s, kR (kJ (kI (kI (kI (kN (by omega) (kR (kN (by omega) (kR kN_s)))))))), nR' (nJ' (nI' (nI' (nI' (nN' (by omega) (nR' (nN' (by omega) (nR' nN_s)))))))), kR (kJ (kI (kI (kI (kN (by omega) (kR kN_s)))))), nR' (nJ' (nI' (nI' (nI' (nN' (by omega) (nR' nN_s)))))), kR (kJ (kI (kI (kI kN_s))))⟩
theorem hLay_3 {S : gS} {x : Nat} (h : gK S x = 7) : hLay (h3S S x) x := by
  obtain ⟨a1, a2, a3, a4, a5, a6, a7, a8, a9⟩ := hLay_2 h
  exact ⟨kR (pIni_K (by omega) (kN (by omega) a1) 91), rR (Or.inl (by decide)) (pIni_Rb (by omega) (by omega) (rN (by omega) a2) 91), rR (Or.inl (by decide)) (pIni_Rb (by omega) (by omega) (rN (by omega) a3) 91), rR (Or.inl (by decide)) (pIni_Rb (by omega) (by omega) (rN (by omega) a4) 91), kR (pIni_K (by omega) (kN (by omega) a5) 91), nR' (pIni_nb (by omega) (nN' (by omega) a6) 91), kR (pIni_K (by omega) (kN (by omega) a7) 91), nR' (pIni_nb (by omega) (nN' (by omega) a8) 91), kR (pIni_K (by omega) (kN (by omega) a9) 91)⟩
theorem hLay_i {S : gS} {x : Nat} (h : gK S x = 7) : ∀ i, hLay (iIni S x i) x
  | 0 => hLay_3 h
  | i + 1 => by
    obtain ⟨a1, a2, a3, a4, a5, a6, a7, a8, a9⟩ := hLay_i h i
    exact ⟨kR (kIs (by omega) (kN (by omega) a1)), rR (Or.inr (by omega)) (rIs (by omega) (by omega) (rN (by omega) a2)), rR (Or.inr (by omega)) (rIs (by omega) (by omega) (rN (by omega) a3)), rR (Or.inr (by omega)) (rIs (by omega) (by omega) (rN (by omega) a4)), kR (kIs (by omega) (kN (by omega) a5)), nR' (nIs (by omega) (nN' (by omega) a6)), kR (kIs (by omega) (kN (by omega) a7)), nR' (nIs (by omega) (nN' (by omega) a8)), kR (kIs (by omega) (kN (by omega) a9))⟩
theorem hLay_n {S : gS} {x : Nat} (h : gK S x = 7) : ∀ n, hLay (nIni S x n) x
  | 0 => hLay_i h 8
  | n + 1 => by
    obtain ⟨a1, a2, a3, a4, a5, a6, a7, a8, a9⟩ := hLay_n h n
    exact ⟨kR (kNo (by omega) (kN (by omega) a1)), rR (Or.inr (by omega)) (rNo (by omega) (by omega) (rN (by omega) a2)), rR (Or.inr (by omega)) (rNo (by omega) (by omega) (rN (by omega) a3)), rR (Or.inr (by omega)) (rNo (by omega) (by omega) (rN (by omega) a4)), kR (kNo (by omega) (kN (by omega) a5)), nR' (nNo (by omega) (nN' (by omega) a6)), kR (kNo (by omega) (kN (by omega) a7)), nR' (nNo (by omega) (nN' (by omega) a8)), kR (kNo (by omega) (kN (by omega) a9))⟩
set_option maxRecDepth 100000 in
set_option maxHeartbeats 4000000 in
theorem lp_X6_initI {p : Program} {l : Launch} {e : Env} {R : Room} {s : State} {m : MethodId} {args : Array Value} {below : List Frame} {meth : Method} {c : Code} {Q : State → Prop} {N0 : Nat} {D : va_G} {cy : Nat → ClassId} {S : gS} (hC : gC N0 D cy p s m args c cX6_init 2 RX6) (hU : gU D cy s) {x c0 s0 : Nat} (hxk : gK S x = 7) (hR : 4 ≤ R.frames ∧ 90 ≤ R.locals) (hc0 : c0 + 16 ≤ R.cells ∧ s0 + 184 ≤ R.slots)
    (hexit : ∀ (H : Heap) (locs : List Loc) (ls : Array Slot), gP N0 D cy (iIni S x 8) H → H.size = x + 204 → va_S (fun q => N0 ≤ q) s.heap H locs → lv_has ls 2 [(1, .int (nI 8)), (0, .ref x)] → W p l e R s m args below meth c H locs (c0 + 16) (s0 + 184) Q (F0 m 83 ls [])) :
    ∀ (n i : Nat) (H : Heap) (locs : List Loc) (ls : Array Slot), i + n = 8 → gP N0 D cy (iIni S x i) H → H.size = x + 188 + 2 * i → va_S (fun q => N0 ≤ q) s.heap H locs → lv_has ls 2 [(1, .int (nI i)), (0, .ref x)] → W p l e R s m args below meth c H locs (c0 + 2 * i) (s0 + 23 * i) Q (F0 m 53 ls []) := by
  have hx := hC.1
  have hb := hC.2.1
  intro n
  induction n with
  | zero =>
    intro i H locs ls hi hP hsz hS hl
    have hi9 : i = 8 := by omega
    subst hi9
    refine lv_iload_n hx hb dX6_init_53 rfl (lv_at hl 0 rfl) ?_
    refine lv_bipush (v := 8) hx hb dX6_init_54 (by decide) ?_
    refine lv_icmp_ge (tgt := 83) hx hb dX6_init_56 (by decide) (fun c_9 => ?_) (fun c_9 => ?_)
    · exact hexit _ _ _ hP hsz hS hl
    · exact absurd (by decide) c_9
  | succ n ih =>
    intro i H locs ls hi hP hsz hS hl
    have hi9 : i < 8 := by omega
    obtain ⟨a1, a2, a3, a4, a5, a6, a7, a8, a9⟩ := hLay_i hxk i
    refine lv_iload_n hx hb dX6_init_53 rfl (lv_at hl 0 rfl) ?_
    refine lv_bipush (v := 8) hx hb dX6_init_54 (by decide) ?_
    refine lv_icmp_ge (tgt := 83) hx hb dX6_init_56 (by decide) (fun c_9 => ?_) (fun c_9 => ?_)
    · exact absurd c_9 (nI_ge (a := i) (b := 8) (by omega) (by decide))
    · refine lv_aload_n hx hb dX6_init_59 rfl (lv_at hl 1 rfl) ?_
      refine gt_X6_11 hC hP a1 a2 dX6_init_60 ?_
      refine lv_iload_n hx hb dX6_init_63 rfl (lv_at hl 0 rfl) ?_
      refine g_new hC hP hS (ci := 1) rfl (by decide) uW_X1 tyX1_ok (by decide) kL_X6_9 iB_X1 iN_X1 (by omega) (by show s0 + 23 * i + 15 ≤ R.slots; omega) dX6_init_64 (fun H hP1 hz1 hS => ?_)
      rw [hsz] at hP1 hz1 ⊢
      replace hsz := hz1
      clear hz1
      refine lv_dup hx hb dX6_init_67 rfl ?_
      refine lv_iload_n hx hb dX6_init_68 rfl (lv_at hl 0 rfl) ?_
      refine lv_aload_n hx hb dX6_init_69 rfl (lv_at hl 1 rfl) ?_
      refine gt_X6_26 hC hP1 (kN (by omega) a1) (rN (by omega) a4) dX6_init_70 ?_
      refine g_callI (As := [.int _, .ref _]) (rest := [.ref _, .int _, .ref _]) hC hU hP1 hS hl.1 (c_X1_init l N0 D cy _ _ (x + 188 + 2 * i) (x + 3) (nI i) kN_s (kN (by omega) a9)) mL_X6_39 iM_X1_init iN_X1 cD_X1_init rfl ⟨by decide, by decide, rfl⟩ ⟨Nat.le_trans (by decide) hR.1, Nat.le_trans (by decide) hR.2⟩ ⟨by show c0 + 2 * i + 1 + 1 ≤ R.cells; omega, by show s0 + 23 * i + 15 + 8 ≤ R.slots; omega⟩ rfl (Nat.le_of_ble_eq_true rfl) dX6_init_73 (fun v S1 H locs hw hP hz hS => ?_)
      obtain ⟨rfl, hS1, hz2⟩ := hw
      rw [hsz] at hS1 hz2
      replace hS1 := hS1.symm
      subst hS1
      replace hsz : H.size = x + 188 + 2 * (i + 1) := hz2
      refine g_aast hC hP hS (kd := 12) (ci := 1) (t0 := 3) (by decide) rfl rfl (by decide) (kIs (by omega) (kN (by omega) a5)) (kIs (by omega) kN_s) (by rw [nIs (by omega) (nN' (by omega) a6)]; exact vp_in_nI hi9 (by decide)) dX6_init_76 (fun H locs hP hz hS => ?_)
      replace hsz := hz.trans hsz
      rw [nI_clamp (by omega)] at hP
      refine lv_iinc (v := _ + 1) (lv' := [(1, .int _), (0, .ref _)]) hx hb dX6_init_77 hl (k := 0) rfl rfl (by decide) rfl (fun ls hl => ?_)
      refine lv_goto (tgt := 53) hx hb dX6_init_80 (by decide) ?_
      refine W.widen (k := c0 + 2 * (i + 1)) (n := s0 + 23 * (i + 1)) (by show c0 + 2 * i + 1 + 1 ≤ _; omega) (by show s0 + 23 * i + 15 + 8 ≤ _; omega) ?_
      exact ih (i + 1) _ _ _ (by omega) hP hsz hS (by rw [nI_succ]; exact hl)

set_option maxRecDepth 100000 in
set_option maxHeartbeats 4000000 in
theorem lp_X6_initN {p : Program} {l : Launch} {e : Env} {R : Room} {s : State} {m : MethodId} {args : Array Value} {below : List Frame} {meth : Method} {c : Code} {Q : State → Prop} {N0 : Nat} {D : va_G} {cy : Nat → ClassId} {S : gS} (hC : gC N0 D cy p s m args c cX6_init 2 RX6) (hU : gU D cy s) {x c0 s0 : Nat} (hxk : gK S x = 7) (hR : 4 ≤ R.frames ∧ 90 ≤ R.locals) (hc0 : c0 + 10 ≤ R.cells ∧ s0 + 55 ≤ R.slots)
    (hexit : ∀ (H : Heap) (locs : List Loc) (ls : Array Slot), gP N0 D cy (nIni S x 5) H → H.size = x + 214 → va_S (fun q => N0 ≤ q) s.heap H locs → lv_has ls 2 [(1, .int (nI 5)), (0, .ref x)] → W p l e R s m args below meth c H locs (c0 + 10) (s0 + 55) Q (F0 m 113 ls [])) :
    ∀ (n i : Nat) (H : Heap) (locs : List Loc) (ls : Array Slot), i + n = 5 → gP N0 D cy (nIni S x i) H → H.size = x + 204 + 2 * i → va_S (fun q => N0 ≤ q) s.heap H locs → lv_has ls 2 [(1, .int (nI i)), (0, .ref x)] → W p l e R s m args below meth c H locs (c0 + 2 * i) (s0 + 11 * i) Q (F0 m 85 ls []) := by
  have hx := hC.1
  have hb := hC.2.1
  intro n
  induction n with
  | zero =>
    intro i H locs ls hi hP hsz hS hl
    have hi9 : i = 5 := by omega
    subst hi9
    refine lv_iload_n hx hb dX6_init_85 rfl (lv_at hl 0 rfl) ?_
    refine lv_iconst (v := 5) hx hb dX6_init_86 (by decide) ?_
    refine lv_icmp_ge (tgt := 113) hx hb dX6_init_87 (by decide) (fun c_9 => ?_) (fun c_9 => ?_)
    · exact hexit _ _ _ hP hsz hS hl
    · exact absurd (by decide) c_9
  | succ n ih =>
    intro i H locs ls hi hP hsz hS hl
    have hi9 : i < 5 := by omega
    obtain ⟨a1, a2, a3, a4, a5, a6, a7, a8, a9⟩ := hLay_n hxk i
    refine lv_iload_n hx hb dX6_init_85 rfl (lv_at hl 0 rfl) ?_
    refine lv_iconst (v := 5) hx hb dX6_init_86 (by decide) ?_
    refine lv_icmp_ge (tgt := 113) hx hb dX6_init_87 (by decide) (fun c_9 => ?_) (fun c_9 => ?_)
    · exact absurd c_9 (nI_ge (a := i) (b := 5) (by omega) (by decide))
    · refine lv_aload_n hx hb dX6_init_90 rfl (lv_at hl 1 rfl) ?_
      refine gt_X6_17 hC hP a1 a3 dX6_init_91 ?_
      refine lv_iload_n hx hb dX6_init_94 rfl (lv_at hl 0 rfl) ?_
      refine g_new hC hP hS (ci := 3) rfl (by decide) uW_X3 tyX3_ok (by decide) kL_X6_15 iB_X3 iN_X3 (by omega) (by show s0 + 11 * i + 3 ≤ R.slots; omega) dX6_init_95 (fun H hP1 hz1 hS => ?_)
      rw [hsz] at hP1 hz1 ⊢
      replace hsz := hz1
      clear hz1
      refine lv_dup hx hb dX6_init_98 rfl ?_
      refine lv_aload_n hx hb dX6_init_99 rfl (lv_at hl 1 rfl) ?_
      refine gt_X6_26 hC hP1 (kN (by omega) a1) (rN (by omega) a4) dX6_init_100 ?_
      refine g_callI (As := [.ref _]) (rest := [.ref _, .int _, .ref _]) hC hU hP1 hS hl.1 (c_X3_init l N0 D cy _ _ (x + 204 + 2 * i) (x + 3) kN_s (kN (by omega) a9)) mL_X6_42 iM_X3_init iN_X3 cD_X3_init rfl ⟨by decide, by decide, rfl⟩ ⟨Nat.le_trans (by decide) hR.1, Nat.le_trans (by decide) hR.2⟩ ⟨by show c0 + 2 * i + 1 + 1 ≤ R.cells; omega, by show s0 + 11 * i + 3 + 8 ≤ R.slots; omega⟩ rfl (Nat.le_of_ble_eq_true rfl) dX6_init_103 (fun v S1 H locs hw hP hz hS => ?_)
      obtain ⟨rfl, hS1, hz2⟩ := hw
      rw [hsz] at hS1 hz2
      replace hS1 := hS1.symm
      subst hS1
      replace hsz : H.size = x + 204 + 2 * (i + 1) := hz2
      refine g_aast hC hP hS (kd := 14) (ci := 3) (t0 := 5) (by decide) rfl rfl (by decide) (kNo (by omega) (kN (by omega) a7)) (kNo (by omega) kN_s) (by rw [nNo (by omega) (nN' (by omega) a8)]; exact vp_in_nI hi9 (by decide)) dX6_init_106 (fun H locs hP hz hS => ?_)
      replace hsz := hz.trans hsz
      rw [nI_clamp (by omega)] at hP
      refine lv_iinc (v := _ + 1) (lv' := [(1, .int _), (0, .ref _)]) hx hb dX6_init_107 hl (k := 0) rfl rfl (by decide) rfl (fun ls hl => ?_)
      refine lv_goto (tgt := 85) hx hb dX6_init_110 (by decide) ?_
      refine W.widen (k := c0 + 2 * (i + 1)) (n := s0 + 11 * (i + 1)) (by show c0 + 2 * i + 1 + 1 ≤ _; omega) (by show s0 + 11 * i + 3 + 8 ≤ _; omega) ?_
      exact ih (i + 1) _ _ _ (by omega) hP hsz hS (by rw [nI_succ]; exact hl)

set_option maxRecDepth 100000 in
set_option maxHeartbeats 4000000 in
theorem c_X6_init (l : Launch) (N0 : Nat) (D : va_G) (cy : Nat → ClassId) (S : gS) (sz : Nat) (x : Nat) (hxk : gK S x = 7) (hso : sz = x + 1) : gM l yX6_init cX6_init 2 (none : Option FieldType) { frames := 4, cells := 213, slots := 1805, locals := 90 } N0 D cy [.ref x] S sz (fun v S1 z => v = none ∧ S1 = nIni S x 5 ∧ z = x + 214) := by
  refine g_body (by decide) rfl (Nat.le_of_ble_eq_true rfl) ?_
  intro p e s m args below meth c ls hC hU hr hlk hnm hsz hP hS hl
  have hx := hC.1
  have hb := hC.2.1
  subst hso
  have h1 : hLay (h2S S x) x := hLay_2 hxk
  refine lv_aload_n hx hb dX6_init_0 rfl (lv_at hl 0 rfl) ?_
  refine g_obj hC hl.1 mL_X6_3 (by decide) (by decide) dX6_init_1 ?_
  refine lv_aload_n hx hb dX6_init_4 rfl (lv_at hl 0 rfl) ?_
  refine lv_bipush (v := 8) hx hb dX6_init_5 (by decide) ?_
  refine g_newq hC hP hS (kd := 12) (t0 := 3) (by decide) rfl kL_X6_9 hU.2.1 (N' := 8) (by decide) (by decide) (by decide) (by decide) (by decide) dX6_init_7 (fun H hP1 hz1 hS => ?_)
  rw [hsz] at hP1 hz1 ⊢
  replace hsz : H.size = x + 2 := hz1
  refine pt_X6_11 (v := some _) hC hP1 hS (kN (by omega) hxk) hnm dX6_init_10 (fun H locs hP hz hS => ?_)
  replace hsz := hz.trans hsz
  replace hP : gP N0 D cy (h0S S x) H := hP
  have k0 : gK (h0S S x) x = 7 := kR (kN (by omega) hxk)
  refine lv_aload_n hx hb dX6_init_13 rfl (lv_at hl 0 rfl) ?_
  refine lv_iconst (v := 5) hx hb dX6_init_14 (by decide) ?_
  refine g_newq hC hP hS (kd := 14) (t0 := 5) (by decide) rfl kL_X6_15 hU.2.2.2.1 (N' := 5) (by decide) (by decide) (by decide) (by decide) (by decide) dX6_init_15 (fun H hP1 hz1 hS => ?_)
  rw [hsz] at hP1 hz1 ⊢
  replace hsz : H.size = x + 3 := hz1
  refine pt_X6_17 (v := some _) hC hP1 hS (kN (by omega) k0) hnm dX6_init_18 (fun H locs hP hz hS => ?_)
  replace hsz := hz.trans hsz
  replace hP : gP N0 D cy (h1S S x) H := hP
  have k1 : gK (h1S S x) x = 7 := kR (kN (by omega) k0)
  refine lv_aload_n hx hb dX6_init_21 rfl (lv_at hl 0 rfl) ?_
  refine g_new hC hP hS (ci := 5) rfl (by decide) uW_X5 tyX5_ok (by decide) kL_X6_21 iB_X5 iN_X5 (by decide) (by decide) dX6_init_22 (fun H hP1 hz1 hS => ?_)
  rw [hsz] at hP1 hz1 ⊢
  replace hsz : H.size = x + 4 := hz1
  refine lv_dup hx hb dX6_init_25 rfl ?_
  refine lv_iconst (v := 0) hx hb dX6_init_26 (by decide) ?_
  refine lv_iconst (v := (-1)) hx hb dX6_init_27 (by decide) ?_
  refine lv_iconst (v := 0) hx hb dX6_init_28 (by decide) ?_
  refine lv_lconst (v := 0) hx hb dX6_init_29 rfl ?_
  refine g_callI (As := [.int _, .int _, .int _, .long _]) (rest := [.ref _, .ref _]) hC hU hP1 hS hl.1 (c_X5_init l N0 D cy _ _ (x + 3) _ _ _ _ kN_s) mL_X6_23 iM_X5_init iN_X5 cD_X5_init rfl ⟨by decide, by decide, rfl⟩ ⟨by decide, by decide⟩ ⟨by decide, by decide⟩ rfl (Nat.le_of_ble_eq_true rfl) dX6_init_30 (fun v S1 H locs hw hP hz hS => ?_)
  obtain ⟨rfl, hS1, hz2⟩ := hw
  replace hS1 := hS1.symm
  subst hS1
  replace hsz := hz2.trans hsz
  refine pt_X6_26 (v := some _) hC hP hS (kJ (kI (kI (kI (kN (by omega) k1))))) hnm dX6_init_33 (fun H locs hP hz hS => ?_)
  replace hsz := hz.trans hsz
  replace hP : gP N0 D cy (h2S S x) H := hP
  obtain ⟨a1, a2, a3, a4, a5, a6, a7, a8, a9⟩ := h1
  refine lv_aload_n hx hb dX6_init_36 rfl (lv_at hl 0 rfl) ?_
  refine g_new hC hP hS (ci := 4) rfl (by decide) uW_X4 tyX4_ok (by decide) kL_X6_30 iB_X4 iN_X4 (by decide) (by decide) dX6_init_37 (fun H hP1 hz1 hS => ?_)
  rw [hsz] at hP1 hz1 ⊢
  replace hsz : H.size = x + 5 := hz1
  refine lv_dup hx hb dX6_init_40 rfl ?_
  refine lv_aload_n hx hb dX6_init_41 rfl (lv_at hl 0 rfl) ?_
  refine gt_X6_26 hC hP1 (kN (by omega) a1) (rN (by omega) a4) dX6_init_42 ?_
  refine g_callI (As := [.ref _]) (rest := [.ref _, .ref _]) hC hU hP1 hS hl.1 (c_X4_init l N0 D cy _ _ (x + 4) (x + 3) kN_s (kN (by omega) a9)) mL_X6_32 iM_X4_init iN_X4 cD_X4_init rfl ⟨by decide, by decide, rfl⟩ ⟨by decide, by decide⟩ ⟨by decide, by decide⟩ rfl (Nat.le_of_ble_eq_true rfl) dX6_init_45 (fun v S1 H locs hw hP hz hS => ?_)
  obtain ⟨rfl, hS1, hz2⟩ := hw
  rw [hsz] at hS1 hz2
  replace hS1 := hS1.symm
  subst hS1
  replace hsz : H.size = x + 188 := hz2
  refine pt_X6_35 (v := some _) hC hP hS (pIni_K (by omega) (kN (by omega) a1) 91) hnm dX6_init_48 (fun H locs hP hz hS => ?_)
  replace hsz := hz.trans hsz
  replace hP : gP N0 D cy (iIni S x 0) H := hP
  refine lv_iconst (v := 0) hx hb dX6_init_51 (by decide) ?_
  refine lv_istore_n (lv' := [(1, .int _), (0, .ref _)]) hx hb dX6_init_52 rfl hl (by decide) rfl (fun ls hl => ?_)
  refine W.widen (k := 187) (n := 1566) (by decide) (by decide) ?_
  refine lp_X6_initI (S := S) (x := x) (c0 := 187) (s0 := 1566) hC hU hxk ⟨by decide, by decide⟩ ⟨by decide, by decide⟩ (fun H locs ls hP hsz hS hl => ?_) 8 0 _ _ _ rfl hP hsz hS hl
  refine lv_iconst (v := 0) hx hb dX6_init_83 (by decide) ?_
  refine lv_istore_n (lv' := [(1, .int _), (0, .ref _)]) hx hb dX6_init_84 rfl hl (by decide) rfl (fun ls hl => ?_)
  refine lp_X6_initN (S := S) (x := x) (c0 := 203) (s0 := 1750) hC hU hxk ⟨by decide, by decide⟩ ⟨by decide, by decide⟩ (fun H locs ls hP hsz hS hl => ?_) 5 0 _ _ _ rfl hP hsz hS hl
  exact g_vret hC hP hS hr hlk (by decide) (by decide) (⟨rfl, rfl, hsz⟩) dX6_init_113
