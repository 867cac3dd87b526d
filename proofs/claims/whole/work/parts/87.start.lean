set_option linter.constructorNameAsVariable false
theorem wsB_in : ∀ w ∈ wsB, w ∈ lw_tbl := by decide +kernel
theorem gStr_in : ∀ q ∈ gStr, Cond.stringRef RX6 q.1 q.2 ∈ lw_tbl := by decide +kernel
theorem gStr_ex : ∀ q ∈ gStr, Cond.exactly (.string RX6 q.1) "java/lang/String" ∈ flatC (Jvm.Cond.and given_1 narrow_1) := by decide +kernel
theorem aO_1 : Cond.arrayOver (.object RX1) ∈ lw_tbl := by decide +kernel
theorem aO_2 : Cond.arrayOver (.object RX2) ∈ lw_tbl := by decide +kernel
theorem aO_3 : Cond.arrayOver (.object RX3) ∈ lw_tbl := by decide +kernel
theorem aO_5 : Cond.arrayOver (.object RX5) ∈ lw_tbl := by decide +kernel
/-- what is known of the classes at the law's entry -/
theorem start_K {s : State} {b : Nat} (hts : ∀ w ∈ lw_tbl, w.before #[Value.ref b] s = true) : ∃ (D : va_G) (cy : Nat → ClassId), gU D cy s := by
  have htw : ∀ w ∈ wsAll, w.before #[Value.ref b] s = true := fun w h => hts w (List.mem_filter.mp h).1
  obtain ⟨c0, i0, hK0⟩ := u_known (C := RX0) (T := TX0) (N := 3) (n := 3) htw uW_X0 (htw _ iB_X0)
  obtain ⟨c1, i1, hK1⟩ := u_known (C := RX1) (T := TX1) (N := 15) (n := 15) htw uW_X1 (htw _ iB_X1)
  obtain ⟨c2, i2, hK2⟩ := u_known (C := RX2) (T := TX2) (N := 8) (n := 8) htw uW_X2 (htw _ iB_X2)
  obtain ⟨c3, i3, hK3⟩ := u_known (C := RX3) (T := TX3) (N := 3) (n := 3) htw uW_X3 (htw _ iB_X3)
  obtain ⟨c4, i4, hK4⟩ := u_known (C := RX4) (T := TX4) (N := 2) (n := 2) htw uW_X4 (htw _ iB_X4)
  obtain ⟨c5, i5, hK5⟩ := u_known (C := RX5) (T := TX5) (N := 4) (n := 4) htw uW_X5 (htw _ iB_X5)
  obtain ⟨c6, i6, hK6⟩ := u_known (C := RX6) (T := TX6) (N := 4) (n := 4) htw uW_X6 (htw _ iB_X6)
  obtain ⟨c7, i7, hK7⟩ := u_known (C := RX7) (T := TX7) (N := 37) (n := 37) htw uW_X7 (htw _ iB_X7)
  obtain ⟨a9, k9, p9, e9, f9, g9⟩ := Cond.arrayClass_spec (htw _ aC_int)
  obtain ⟨a10, k10, p10, e10, f10, g10⟩ := Cond.arrayClass_spec (htw _ aC_long)
  obtain ⟨a11, k11, p11, e11, f11, g11⟩ := Cond.arrayClass_spec (htw _ aC_boolean)
  obtain ⟨p12, a12, k12, d12, -, f12, g12, e12⟩ := Cond.arrayOver_spec (hts _ aO_1)
  obtain ⟨p13, a13, k13, d13, -, f13, g13, e13⟩ := Cond.arrayOver_spec (hts _ aO_2)
  obtain ⟨p14, a14, k14, d14, -, f14, g14, e14⟩ := Cond.arrayOver_spec (hts _ aO_3)
  obtain ⟨p15, a15, k15, d15, -, f15, g15, e15⟩ := Cond.arrayOver_spec (hts _ aO_5)
  refine ⟨(fun k => match k with | 0 => c0 | 1 => c1 | 2 => c2 | 3 => c3 | 4 => c4 | 5 => c5 | 6 => c6 | _ => c7, fun k => match k with | 0 => i0 | 1 => i1 | 2 => i2 | 3 => i3 | 4 => i4 | 5 => i5 | 6 => i6 | _ => i7), fun k => match k with | 9 => a9 | 10 => a10 | 11 => a11 | 12 => a12 | 13 => a13 | 14 => a14 | _ => a15, ⟨?_, ?_⟩, va_AO.of (hts _ aO_1), va_AO.of (hts _ aO_2), va_AO.of (hts _ aO_3), va_AO.of (hts _ aO_5)⟩
  · intro k q hq
    match k, hq with
    | 0, hq => cases hq; exact hK0
    | 1, hq => cases hq; exact hK1
    | 2, hq => cases hq; exact hK2
    | 3, hq => cases hq; exact hK3
    | 4, hq => cases hq; exact hK4
    | 5, hq => cases hq; exact hK5
    | 6, hq => cases hq; exact hK6
    | 7, hq => cases hq; exact hK7
    | k + 8, hq => exact absurd hq (by simp [vwCl])
  · intro k q hq
    match k, hq with
    | 0, hq => cases hq; exact ⟨fun n z => ⟨fun k h => (by cases h), k9, f9, p9, g9⟩, e9⟩
    | 1, hq => cases hq; exact ⟨fun n z => ⟨fun k h => (by cases h), k10, f10, p10, g10⟩, e10⟩
    | 2, hq => cases hq; exact ⟨fun n z => ⟨fun k h => (by cases h), k11, f11, p11, g11⟩, e11⟩
    | 3, hq => cases hq; exact ⟨fun n z => ⟨fun k h => (by cases h), k12, f12, p12, g12⟩, k12, p12, f12, g12, d12, e12⟩
    | 4, hq => cases hq; exact ⟨fun n z => ⟨fun k h => (by cases h), k13, f13, p13, g13⟩, k13, p13, f13, g13, d13, e13⟩
    | 5, hq => cases hq; exact ⟨fun n z => ⟨fun k h => (by cases h), k14, f14, p14, g14⟩, k14, p14, f14, g14, d14, e14⟩
    | 6, hq => cases hq; exact ⟨fun n z => ⟨fun k h => (by cases h), k15, f15, p15, g15⟩, k15, p15, f15, g15, d15, e15⟩
    | k + 7, hq => exact absurd hq (by simp [gY])
theorem start_Z {s : State} {b : Nat} (hts : ∀ w ∈ lw_tbl, w.before #[Value.ref b] s = true) (hgv : (Jvm.Cond.and given_1 narrow_1).before #[Value.ref b] s = true) : gZL s.heap.size s := by
  have hs := flat_of_before _ hgv
  refine ⟨⟨vx_Zqof (hts (.laysStatic Bundle.tN "UNASSIGNED_STACK" Bundle.steD) (by decide +kernel)) (hts (.initialized Bundle.tN) (by decide +kernel)) (hs (.isRef (.static Bundle.tN "UNASSIGNED_STACK" Bundle.steD)) (by decide +kernel)) (fun a h => Nat.not_le.mpr h), vx_Zqof (hts (.laysStatic Bundle.tN "SUPPRESSED_SENTINEL" Bundle.listD) (by decide +kernel)) (hts (.initialized Bundle.tN) (by decide +kernel)) (hs (.isRef (.static Bundle.tN "SUPPRESSED_SENTINEL" Bundle.listD)) (by decide +kernel)) (fun a h => Nat.not_le.mpr h), fun w hw => ?_, fun q hq => ?_⟩, va_Nc.of (hs (.not (.castable exA exO)) (by decide +kernel)), va_Nc.of (hs (.not (.castable exS exO)) (by decide +kernel))⟩
  · have h1 := List.all_eq_true.mp wsB_warm w hw
    simp only [Bool.and_eq_true] at h1
    exact vx_ot_at (State.WarmedH.refl s) rfl (by unfold vx_ot; rw [h1.2]; rfl) (hts w (wsB_in w hw))
  · obtain ⟨a, c, cell, k, he, -⟩ := Cond.exactly_spec (hs _ (gStr_ex q hq))
    exact ⟨a, vk_R.of (hts _ (gStr_in q hq)) he⟩
theorem start_P {D : va_G} {cy : Nat → ClassId} {H : Heap} {x : Nat} (h : x ≤ H.size) : gP x D cy gS0 H := by
  refine ⟨⟨[], fun k q h => by simp [va_pl] at h, ⟨fun i j p q h => by simp [va_pl] at h, fun k q h => by simp [va_pl] at h⟩, fun a => ⟨fun h => absurd h List.not_mem_nil, fun h => absurd rfl h⟩⟩, h⟩
set_option maxRecDepth 100000 in
set_option maxHeartbeats 4000000 in
theorem whole_start {p : Program} {e : Env} {s : State} {m : MethodId} {below : List Frame} {meth : Method} {c : Code} (l : Launch) (hls : l.stackTraces = false) {b L : Nat} {xs : Nat → Int32} (hL : L ≤ 2048) (C0 : lw_At p s m meth c b L xs) : W p l e room_1 s m #[Value.ref b] below meth c s.heap [] 0 0 (lw_Z below #[Value.ref b] s) (entryFrame m ([Value.ref b] : List Value).toArray 8) := by
  obtain ⟨hx, hb, hr, hml, hown, hts, hX, hbl, hlocks, hgv⟩ := id C0
  obtain ⟨D, cy, hU⟩ := start_K hts
  have hZ := start_Z hts hgv
  obtain ⟨x, hsz⟩ : ∃ x, s.heap.size = x := ⟨_, rfl⟩
  rw [hsz] at hZ
  have hbA : ¬ x ≤ b := by omega
  have hC : gC x D cy p s m #[Value.ref b] c cL_law 8 RL := ⟨hx, hb, hml, hown, fun w h => hts w (List.mem_filter.mp h).1, hU.1, by omega⟩
  have hS : va_S (fun q => x ≤ q) s.heap s.heap [] := va_S.rf
  have hP : gP x D cy gS0 s.heap := start_P (by omega)
  have hexit : ∀ (H : Heap) (locs : List Loc) (ls : Array Slot) (k n : Nat), va_S (fun q => x ≤ q) s.heap H locs → k ≤ 601024 → n ≤ 7293034 → W p l e room_1 s m #[Value.ref b] below meth c H locs k n (lw_Z below #[Value.ref b] s) (F0 m 934 ls []) := by
    intro H locs ls k n hS h1 h2
    refine lv_iconst (v := 1) hx hb dL_law_934 (by decide) ?_
    exact W.widen h1 h2 (va_forget (fun q hq => by rw [hsz]; exact hS.2.2 q hq) (lw_ret hx hb hr hlocks dL_law_935))
  have hl := lv_entry ([.ref b]) (n := 8) (Nat.le_of_ble_eq_true rfl)
  rw [lg_entry_eq]
  generalize (lg_sl ([.ref b]) ++ List.replicate (8 - (lg_sl ([.ref b])).length) Slot.unset).toArray = ls at hl ⊢
  have hl : lv_has ls 8 [(0, .ref b)] := hl
  refine g_new hC hP hS (ci := 6) rfl (by decide) uW_X6 tyX6_ok (by decide) kL_L_8 iB_X6 iN_X6 (by decide) (by decide) dL_law_0 (fun H1 hP1 hz1 hS1 => ?_)
  rw [hsz] at hP1 hz1 ⊢
  replace hsz := hz1
  clear hz1
  have hP := hP1
  have hS := hS1
  clear hP1 hS1
  refine lv_dup hx hb dL_law_3 rfl ?_
  refine g_callI (As := []) (rest := [.ref _]) hC hU hP hS hl.1 (c_X6_init l x D cy _ _ x kN_s (by rw [hsz])) mL_L_65 iM_X6_init iN_X6 cD_X6_init rfl ⟨by decide, by decide, rfl⟩ ⟨by decide, by decide⟩ ⟨by decide, by decide⟩ rfl (Nat.le_of_ble_eq_true rfl) dL_law_4 (fun v S1 H locs hw hP hz hS => ?_)
  obtain ⟨rfl, hS9, hz2⟩ := hw
  subst hS9
  replace hsz := hz2
  refine lv_astore_n (lv' := [(1, .ref _), (0, .ref _)]) hx hb dL_law_7 rfl hl (by decide) rfl (fun ls hl => ?_)
  refine g_new hC hP hS (ci := 7) rfl (by decide) uW_X7 tyX7_ok (by decide) kL_L_66 iB_X7 iN_X7 (by decide) (by decide) dL_law_8 (fun H1 hP1 hz1 hS1 => ?_)
  rw [hsz] at hP1 hz1 ⊢
  replace hsz := hz1
  clear hz1
  have hP := hP1
  have hS := hS1
  clear hP1 hS1
  refine lv_dup hx hb dL_law_11 rfl ?_
  refine g_callI (As := []) (rest := [.ref _]) hC hU hP hS hl.1 (c_X7_init l x D cy _ _ (x + 214) kN_s (by rw [hsz])) mL_L_68 iM_X7_init iN_X7 cD_X7_init rfl ⟨by decide, by decide, rfl⟩ ⟨by decide, by decide⟩ ⟨by decide, by decide⟩ rfl (Nat.le_of_ble_eq_true rfl) dL_law_12 (fun v S1 H locs hw hP hz hS => ?_)
  obtain ⟨rfl, hS9, hz2⟩ := hw
  subst hS9
  replace hsz := hz2
  refine lv_astore_n (lv' := [(2, .ref _), (1, .ref _), (0, .ref _)]) hx hb dL_law_15 rfl hl (by decide) rfl (fun ls hl => ?_)
  refine lv_iconst (v := 1) hx hb dL_law_16 (by decide) ?_
  refine g_newa hC hP hS (kd := 10) (t0 := 1) (ty := .long) rfl rfl (by decide) aC_long (N' := 1) (by decide) (by decide) (by decide) (by decide) (by decide) dL_law_17 (fun H1 hP1 hz1 hS1 => ?_)
  rw [hsz] at hP1 hz1 ⊢
  replace hsz := hz1
  clear hz1
  have hP := hP1
  have hS := hS1
  clear hP1 hS1
  refine lv_astore_n (lv' := [(3, .ref _), (2, .ref _), (1, .ref _), (0, .ref _)]) hx hb dL_law_19 rfl hl (by decide) rfl (fun ls hl => ?_)
  refine lv_iconst (v := 0) hx hb dL_law_20 (by decide) ?_
  refine lv_istore (lv' := [(4, .int _), (3, .ref _), (2, .ref _), (1, .ref _), (0, .ref _)]) hx hb dL_law_21 hl (by decide) rfl (fun ls hl => ?_)
  have hP : gP x D cy (iniF x) _ := hP
  exact lw_loop hls hC hU hZ hX hbl hbA hL hexit 513 0 (iniF x) _ _ _ _ _ rfl li_0 hP hS (by rw [show nI (4 * 0) = 0 from rfl]; exact lv_sub hl [4, 3, 2, 1, 0] rfl) (by decide) (by decide)
