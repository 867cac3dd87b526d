def mIni1 (S : gS) (o : Nat) (t : Nat × Nat × Nat × Nat) : gS := sR (sN S (o + t.2.1) t.2.2.1 t.2.2.2) o t.1 (some (o + t.2.1))
/-- the store when k arrays have been made -/
def mIniN (S : gS) (o : Nat) : Nat → gS
  | 0 => S
  | k + 1 => mIni1 (mIniN S o k) o (mTab.getD k (0, 0, 0, 0))
theorem mTab_off : ∀ k, k < 34 → (mTab.getD k (0, 0, 0, 0)).2.1 = k + 1 := by decide
theorem mIniK {S : gS} {o b c : Nat} (h : gK S b = c) (hb : b ≤ o) : ∀ k, k ≤ 34 → gK (mIniN S o k) b = c
  | 0, _ => h
  | k + 1, hk => by
    unfold mIniN mIni1
    exact kR (kN (by rw [mTab_off k (by omega)]; omega) (mIniK h hb k (by omega)))
theorem mTab_inj : ∀ a, a < 34 → ∀ b, b < 34 → a ≠ b → (mTab.getD a (0, 0, 0, 0)).1 ≠ (mTab.getD b (0, 0, 0, 0)).1 := by decide +kernel
theorem mTab_ix : ∀ t ∈ mTab, ∃ q, q < 34 ∧ mTab.getD q (0, 0, 0, 0) = t := by
  intro t ht
  obtain ⟨q, hq⟩ := List.getElem?_of_mem ht
  have hl : q < 34 := (List.getElem?_eq_some_iff.mp hq).1
  exact ⟨q, hl, by rw [List.getD_eq_getElem?_getD, hq]; rfl⟩
/-- what was there stays; the new cells are empty -/
theorem mIni_I {S : gS} {o b j : Nat} (hb : b ≤ o) : ∀ k, k ≤ 34 → gI (mIniN S o k) b j = gI S b j
  | 0, _ => rfl
  | k + 1, hk => by
    unfold mIniN mIni1
    rw [gI_sR, gI_N (by rw [mTab_off k (by omega)]; omega)]
    exact mIni_I hb k (by omega)
theorem mIni_J {S : gS} {o b j : Nat} (hb : b ≤ o) : ∀ k, k ≤ 34 → gJ (mIniN S o k) b j = gJ S b j
  | 0, _ => rfl
  | k + 1, hk => by
    unfold mIniN mIni1
    rw [gJ_sR, gJ_N (by rw [mTab_off k (by omega)]; omega)]
    exact mIni_J hb k (by omega)
theorem mIni_Rb {S : gS} {o b j : Nat} (hb : b < o) : ∀ k, k ≤ 34 → gR (mIniN S o k) b j = gR S b j
  | 0, _ => rfl
  | k + 1, hk => by
    unfold mIniN mIni1
    exact (rR (Or.inr (by omega)) (rN (by rw [mTab_off k (by omega)]; omega) rfl)).trans (mIni_Rb hb k (by omega))
theorem mIni_n {S : gS} {o b : Nat} (hb : b ≤ o) : ∀ k, k ≤ 34 → gn (mIniN S o k) b = gn S b
  | 0, _ => rfl
  | k + 1, hk => by
    unfold mIniN mIni1
    exact (nR' (nN' (by rw [mTab_off k (by omega)]; omega) rfl)).trans (mIni_n hb k (by omega))
theorem mIni_0 {S : gS} {o q j : Nat} (hq : q < 34) : ∀ d, q + 1 + d ≤ 34 → gI (mIniN S o (q + 1 + d)) (o + (q + 1)) j = 0 ∧ gJ (mIniN S o (q + 1 + d)) (o + (q + 1)) j = 0
  | 0, _ => by
    unfold mIniN mIni1
    rw [mTab_off q hq, gI_sR, gJ_sR]
    refine ⟨?_, ?_⟩
    · show va_up (gI _) (o + (q + 1)) (fun _ => 0) (o + (q + 1)) j = 0
      simp [va_up]
    · show va_up (gJ _) (o + (q + 1)) (fun _ => 0) (o + (q + 1)) j = 0
      simp [va_up]
  | d + 1, hd => by
    obtain ⟨h1, h2⟩ := mIni_0 (S := S) (o := o) (j := j) hq d (by omega)
    show gI (mIniN S o ((q + 1 + d) + 1)) _ j = 0 ∧ gJ (mIniN S o ((q + 1 + d) + 1)) _ j = 0
    unfold mIniN mIni1
    rw [mTab_off (q + 1 + d) (by omega), gI_sR, gJ_sR, gI_N (by omega), gJ_N (by omega)]
    exact ⟨h1, h2⟩
set_option maxRecDepth 100000 in
set_option maxHeartbeats 4000000 in
theorem c_X7_init (l : Launch) (N0 : Nat) (D : va_G) (cy : Nat → ClassId) (S : gS) (sz : Nat) (o : Nat) (hK : gK S o = 8) (hso : sz = o + 1) : gM l yX7_init cX7_init 1 (none : Option FieldType) { frames := 1, cells := 34, slots := 4618, locals := 12 } N0 D cy [.ref o] S sz (fun v S1 z => v = none ∧ S1 = mIniN S o 34 ∧ z = o + 35) := by
  refine g_body (by decide) rfl (Nat.le_of_ble_eq_true rfl) ?_
  intro p e s m args below meth c ls hC hU hr hlk hnm hsz hP hS hl
  have hx := hC.1
  have hb := hC.2.1
  subst hso
  refine lv_aload_n hx hb dX7_init_0 rfl (lv_at hl 0 rfl) ?_
  refine g_obj hC hl.1 mL_X7_1 (by decide) (by decide) dX7_init_1 ?_
  replace hP : gP N0 D cy (mIniN S o 0) s.heap := hP
  refine lv_aload_n hx hb dX7_init_4 rfl (lv_at hl 0 rfl) ?_
  refine lv_bipush (v := 100) hx hb dX7_init_5 (by decide) ?_
  refine g_newa hC hP hS (kd := 9) (t0 := 0) (ty := .int) rfl rfl (by decide) aC_int (N' := 100) (by decide) (by decide) (by decide) (by decide) (by decide) dX7_init_7 (fun H hP1 hz1 hS => ?_)
  rw [hsz] at hP1 hz1 ⊢
  replace hsz : H.size = o + 2 := hz1
  clear hz1
  refine pt_X7_7 (v := some _) hC hP1 hS (kN (by omega) (mIniK hK (Nat.le_refl o) 0 (by decide))) hnm dX7_init_9 (fun H locs hP hz hS => ?_)
  replace hsz := hz.trans hsz
  replace hP : gP N0 D cy (mIniN S o 1) H := hP
  refine lv_aload_n hx hb dX7_init_12 rfl (lv_at hl 0 rfl) ?_
  refine lv_bipush (v := 100) hx hb dX7_init_13 (by decide) ?_
  refine g_newa hC hP hS (kd := 9) (t0 := 0) (ty := .int) rfl rfl (by decide) aC_int (N' := 100) (by decide) (by decide) (by decide) (by decide) (by decide) dX7_init_15 (fun H hP1 hz1 hS => ?_)
  rw [hsz] at hP1 hz1 ⊢
  replace hsz : H.size = o + 3 := hz1
  clear hz1
  refine pt_X7_13 (v := some _) hC hP1 hS (kN (by omega) (mIniK hK (Nat.le_refl o) 1 (by decide))) hnm dX7_init_17 (fun H locs hP hz hS => ?_)
  replace hsz := hz.trans hsz
  replace hP : gP N0 D cy (mIniN S o 2) H := hP
  refine lv_aload_n hx hb dX7_init_20 rfl (lv_at hl 0 rfl) ?_
  refine lv_bipush (v := 100) hx hb dX7_init_21 (by decide) ?_
  refine g_newa hC hP hS (kd := 9) (t0 := 0) (ty := .int) rfl rfl (by decide) aC_int (N' := 100) (by decide) (by decide) (by decide) (by decide) (by decide) dX7_init_23 (fun H hP1 hz1 hS => ?_)
  rw [hsz] at hP1 hz1 ⊢
  replace hsz : H.size = o + 4 := hz1
  clear hz1
  refine pt_X7_16 (v := some _) hC hP1 hS (kN (by omega) (mIniK hK (Nat.le_refl o) 2 (by decide))) hnm dX7_init_25 (fun H locs hP hz hS => ?_)
  replace hsz := hz.trans hsz
  replace hP : gP N0 D cy (mIniN S o 3) H := hP
  refine lv_aload_n hx hb dX7_init_28 rfl (lv_at hl 0 rfl) ?_
  refine lv_bipush (v := 100) hx hb dX7_init_29 (by decide) ?_
  refine g_newa hC hP hS (kd := 9) (t0 := 0) (ty := .int) rfl rfl (by decide) aC_int (N' := 100) (by decide) (by decide) (by decide) (by decide) (by decide) dX7_init_31 (fun H hP1 hz1 hS => ?_)
  rw [hsz] at hP1 hz1 ⊢
  replace hsz : H.size = o + 5 := hz1
  clear hz1
  refine pt_X7_19 (v := some _) hC hP1 hS (kN (by omega) (mIniK hK (Nat.le_refl o) 3 (by decide))) hnm dX7_init_33 (fun H locs hP hz hS => ?_)
  replace hsz := hz.trans hsz
  replace hP : gP N0 D cy (mIniN S o 4) H := hP
  refine lv_aload_n hx hb dX7_init_36 rfl (lv_at hl 0 rfl) ?_
  refine lv_bipush (v := 100) hx hb dX7_init_37 (by decide) ?_
  refine g_newa hC hP hS (kd := 9) (t0 := 0) (ty := .int) rfl rfl (by decide) aC_int (N' := 100) (by decide) (by decide) (by decide) (by decide) (by decide) dX7_init_39 (fun H hP1 hz1 hS => ?_)
  rw [hsz] at hP1 hz1 ⊢
  replace hsz : H.size = o + 6 := hz1
  clear hz1
  refine pt_X7_22 (v := some _) hC hP1 hS (kN (by omega) (mIniK hK (Nat.le_refl o) 4 (by decide))) hnm dX7_init_41 (fun H locs hP hz hS => ?_)
  replace hsz := hz.trans hsz
  replace hP : gP N0 D cy (mIniN S o 5) H := hP
  refine lv_aload_n hx hb dX7_init_44 rfl (lv_at hl 0 rfl) ?_
  refine lv_bipush (v := 100) hx hb dX7_init_45 (by decide) ?_
  refine g_newa hC hP hS (kd := 9) (t0 := 0) (ty := .int) rfl rfl (by decide) aC_int (N' := 100) (by decide) (by decide) (by decide) (by decide) (by decide) dX7_init_47 (fun H hP1 hz1 hS => ?_)
  rw [hsz] at hP1 hz1 ⊢
  replace hsz : H.size = o + 7 := hz1
  clear hz1
  refine pt_X7_25 (v := some _) hC hP1 hS (kN (by omega) (mIniK hK (Nat.le_refl o) 5 (by decide))) hnm dX7_init_49 (fun H locs hP hz hS => ?_)
  replace hsz := hz.trans hsz
  replace hP : gP N0 D cy (mIniN S o 6) H := hP
  refine lv_aload_n hx hb dX7_init_52 rfl (lv_at hl 0 rfl) ?_
  refine lv_bipush (v := 100) hx hb dX7_init_53 (by decide) ?_
  refine g_newa hC hP hS (kd := 10) (t0 := 1) (ty := .long) rfl rfl (by decide) aC_long (N' := 100) (by decide) (by decide) (by decide) (by decide) (by decide) dX7_init_55 (fun H hP1 hz1 hS => ?_)
  rw [hsz] at hP1 hz1 ⊢
  replace hsz : H.size = o + 8 := hz1
  clear hz1
  refine pt_X7_28 (v := some _) hC hP1 hS (kN (by omega) (mIniK hK (Nat.le_refl o) 6 (by decide))) hnm dX7_init_57 (fun H locs hP hz hS => ?_)
  replace hsz := hz.trans hsz
  replace hP : gP N0 D cy (mIniN S o 7) H := hP
  refine lv_aload_n hx hb dX7_init_60 rfl (lv_at hl 0 rfl) ?_
  refine lv_bipush (v := 100) hx hb dX7_init_61 (by decide) ?_
  refine g_newa hC hP hS (kd := 9) (t0 := 0) (ty := .int) rfl rfl (by decide) aC_int (N' := 100) (by decide) (by decide) (by decide) (by decide) (by decide) dX7_init_63 (fun H hP1 hz1 hS => ?_)
  rw [hsz] at hP1 hz1 ⊢
  replace hsz : H.size = o + 9 := hz1
  clear hz1
  refine pt_X7_32 (v := some _) hC hP1 hS (kN (by omega) (mIniK hK (Nat.le_refl o) 7 (by decide))) hnm dX7_init_65 (fun H locs hP hz hS => ?_)
  replace hsz := hz.trans hsz
  replace hP : gP N0 D cy (mIniN S o 8) H := hP
  refine lv_aload_n hx hb dX7_init_68 rfl (lv_at hl 0 rfl) ?_
  refine lv_sipush (v := 600) hx hb dX7_init_69 (by decide) ?_
  refine g_newa hC hP hS (kd := 9) (t0 := 0) (ty := .int) rfl rfl (by decide) aC_int (N' := 600) (by decide) (by decide) (by decide) (by decide) (by decide) dX7_init_72 (fun H hP1 hz1 hS => ?_)
  rw [hsz] at hP1 hz1 ⊢
  replace hsz : H.size = o + 10 := hz1
  clear hz1
  refine pt_X7_35 (v := some _) hC hP1 hS (kN (by omega) (mIniK hK (Nat.le_refl o) 8 (by decide))) hnm dX7_init_74 (fun H locs hP hz hS => ?_)
  replace hsz := hz.trans hsz
  replace hP : gP N0 D cy (mIniN S o 9) H := hP
  refine lv_aload_n hx hb dX7_init_77 rfl (lv_at hl 0 rfl) ?_
  refine lv_sipush (v := 600) hx hb dX7_init_78 (by decide) ?_
  refine g_newa hC hP hS (kd := 9) (t0 := 0) (ty := .int) rfl rfl (by decide) aC_int (N' := 600) (by decide) (by decide) (by decide) (by decide) (by decide) dX7_init_81 (fun H hP1 hz1 hS => ?_)
  rw [hsz] at hP1 hz1 ⊢
  replace hsz : H.size = o + 11 := hz1
  clear hz1
  refine pt_X7_38 (v := some _) hC hP1 hS (kN (by omega) (mIniK hK (Nat.le_refl o) 9 (by decide))) hnm dX7_init_83 (fun H locs hP hz hS => ?_)
  replace hsz := hz.trans hsz
  replace hP : gP N0 D cy (mIniN S o 10) H := hP
  refine lv_aload_n hx hb dX7_init_86 rfl (lv_at hl 0 rfl) ?_
  refine lv_sipush (v := 600) hx hb dX7_init_87 (by decide) ?_
  refine g_newa hC hP hS (kd := 9) (t0 := 0) (ty := .int) rfl rfl (by decide) aC_int (N' := 600) (by decide) (by decide) (by decide) (by decide) (by decide) dX7_init_90 (fun H hP1 hz1 hS => ?_)
  rw [hsz] at hP1 hz1 ⊢
  replace hsz : H.size = o + 12 := hz1
  clear hz1
  refine pt_X7_41 (v := some _) hC hP1 hS (kN (by omega) (mIniK hK (Nat.le_refl o) 10 (by decide))) hnm dX7_init_92 (fun H locs hP hz hS => ?_)
  replace hsz := hz.trans hsz
  replace hP : gP N0 D cy (mIniN S o 11) H := hP
  refine lv_aload_n hx hb dX7_init_95 rfl (lv_at hl 0 rfl) ?_
  refine lv_sipush (v := 600) hx hb dX7_init_96 (by decide) ?_
  refine g_newa hC hP hS (kd := 9) (t0 := 0) (ty := .int) rfl rfl (by decide) aC_int (N' := 600) (by decide) (by decide) (by decide) (by decide) (by decide) dX7_init_99 (fun H hP1 hz1 hS => ?_)
  rw [hsz] at hP1 hz1 ⊢
  replace hsz : H.size = o + 13 := hz1
  clear hz1
  refine pt_X7_44 (v := some _) hC hP1 hS (kN (by omega) (mIniK hK (Nat.le_refl o) 11 (by decide))) hnm dX7_init_101 (fun H locs hP hz hS => ?_)
  replace hsz := hz.trans hsz
  replace hP : gP N0 D cy (mIniN S o 12) H := hP
  refine lv_aload_n hx hb dX7_init_104 rfl (lv_at hl 0 rfl) ?_
  refine lv_sipush (v := 600) hx hb dX7_init_105 (by decide) ?_
  refine g_newa hC hP hS (kd := 9) (t0 := 0) (ty := .int) rfl rfl (by decide) aC_int (N' := 600) (by decide) (by decide) (by decide) (by decide) (by decide) dX7_init_108 (fun H hP1 hz1 hS => ?_)
  rw [hsz] at hP1 hz1 ⊢
  replace hsz : H.size = o + 14 := hz1
  clear hz1
  refine pt_X7_47 (v := some _) hC hP1 hS (kN (by omega) (mIniK hK (Nat.le_refl o) 12 (by decide))) hnm dX7_init_110 (fun H locs hP hz hS => ?_)
  replace hsz := hz.trans hsz
  replace hP : gP N0 D cy (mIniN S o 13) H := hP
  refine lv_aload_n hx hb dX7_init_113 rfl (lv_at hl 0 rfl) ?_
  refine lv_sipush (v := 600) hx hb dX7_init_114 (by decide) ?_
  refine g_newa hC hP hS (kd := 10) (t0 := 1) (ty := .long) rfl rfl (by decide) aC_long (N' := 600) (by decide) (by decide) (by decide) (by decide) (by decide) dX7_init_117 (fun H hP1 hz1 hS => ?_)
  rw [hsz] at hP1 hz1 ⊢
  replace hsz : H.size = o + 15 := hz1
  clear hz1
  refine pt_X7_50 (v := some _) hC hP1 hS (kN (by omega) (mIniK hK (Nat.le_refl o) 13 (by decide))) hnm dX7_init_119 (fun H locs hP hz hS => ?_)
  replace hsz := hz.trans hsz
  replace hP : gP N0 D cy (mIniN S o 14) H := hP
  refine lv_aload_n hx hb dX7_init_122 rfl (lv_at hl 0 rfl) ?_
  refine lv_iconst (v := 5) hx hb dX7_init_123 (by decide) ?_
  refine g_newa hC hP hS (kd := 11) (t0 := 2) (ty := .boolean) rfl rfl (by decide) aC_boolean (N' := 5) (by decide) (by decide) (by decide) (by decide) (by decide) dX7_init_124 (fun H hP1 hz1 hS => ?_)
  rw [hsz] at hP1 hz1 ⊢
  replace hsz : H.size = o + 16 := hz1
  clear hz1
  refine pt_X7_53 (v := some _) hC hP1 hS (kN (by omega) (mIniK hK (Nat.le_refl o) 14 (by decide))) hnm dX7_init_126 (fun H locs hP hz hS => ?_)
  replace hsz := hz.trans hsz
  replace hP : gP N0 D cy (mIniN S o 15) H := hP
  refine lv_aload_n hx hb dX7_init_129 rfl (lv_at hl 0 rfl) ?_
  refine lv_iconst (v := 5) hx hb dX7_init_130 (by decide) ?_
  refine g_newa hC hP hS (kd := 9) (t0 := 0) (ty := .int) rfl rfl (by decide) aC_int (N' := 5) (by decide) (by decide) (by decide) (by decide) (by decide) dX7_init_131 (fun H hP1 hz1 hS => ?_)
  rw [hsz] at hP1 hz1 ⊢
  replace hsz : H.size = o + 17 := hz1
  clear hz1
  refine pt_X7_57 (v := some _) hC hP1 hS (kN (by omega) (mIniK hK (Nat.le_refl o) 15 (by decide))) hnm dX7_init_133 (fun H locs hP hz hS => ?_)
  replace hsz := hz.trans hsz
  replace hP : gP N0 D cy (mIniN S o 16) H := hP
  refine lv_aload_n hx hb dX7_init_136 rfl (lv_at hl 0 rfl) ?_
  refine lv_bipush (v := 8) hx hb dX7_init_137 (by decide) ?_
  refine g_newa hC hP hS (kd := 10) (t0 := 1) (ty := .long) rfl rfl (by decide) aC_long (N' := 8) (by decide) (by decide) (by decide) (by decide) (by decide) dX7_init_139 (fun H hP1 hz1 hS => ?_)
  rw [hsz] at hP1 hz1 ⊢
  replace hsz : H.size = o + 18 := hz1
  clear hz1
  refine pt_X7_60 (v := some _) hC hP1 hS (kN (by omega) (mIniK hK (Nat.le_refl o) 16 (by decide))) hnm dX7_init_141 (fun H locs hP hz hS => ?_)
  replace hsz := hz.trans hsz
  replace hP : gP N0 D cy (mIniN S o 17) H := hP
  refine lv_aload_n hx hb dX7_init_144 rfl (lv_at hl 0 rfl) ?_
  refine lv_bipush (v := 8) hx hb dX7_init_145 (by decide) ?_
  refine g_newa hC hP hS (kd := 9) (t0 := 0) (ty := .int) rfl rfl (by decide) aC_int (N' := 8) (by decide) (by decide) (by decide) (by decide) (by decide) dX7_init_147 (fun H hP1 hz1 hS => ?_)
  rw [hsz] at hP1 hz1 ⊢
  replace hsz : H.size = o + 19 := hz1
  clear hz1
  refine pt_X7_63 (v := some _) hC hP1 hS (kN (by omega) (mIniK hK (Nat.le_refl o) 17 (by decide))) hnm dX7_init_149 (fun H locs hP hz hS => ?_)
  replace hsz := hz.trans hsz
  replace hP : gP N0 D cy (mIniN S o 18) H := hP
  refine lv_aload_n hx hb dX7_init_152 rfl (lv_at hl 0 rfl) ?_
  refine lv_bipush (v := 8) hx hb dX7_init_153 (by decide) ?_
  refine g_newa hC hP hS (kd := 11) (t0 := 2) (ty := .boolean) rfl rfl (by decide) aC_boolean (N' := 8) (by decide) (by decide) (by decide) (by decide) (by decide) dX7_init_155 (fun H hP1 hz1 hS => ?_)
  rw [hsz] at hP1 hz1 ⊢
  replace hsz : H.size = o + 20 := hz1
  clear hz1
  refine pt_X7_66 (v := some _) hC hP1 hS (kN (by omega) (mIniK hK (Nat.le_refl o) 18 (by decide))) hnm dX7_init_157 (fun H locs hP hz hS => ?_)
  replace hsz := hz.trans hsz
  replace hP : gP N0 D cy (mIniN S o 19) H := hP
  refine lv_aload_n hx hb dX7_init_160 rfl (lv_at hl 0 rfl) ?_
  refine lv_bipush (v := 8) hx hb dX7_init_161 (by decide) ?_
  refine g_newa hC hP hS (kd := 9) (t0 := 0) (ty := .int) rfl rfl (by decide) aC_int (N' := 8) (by decide) (by decide) (by decide) (by decide) (by decide) dX7_init_163 (fun H hP1 hz1 hS => ?_)
  rw [hsz] at hP1 hz1 ⊢
  replace hsz : H.size = o + 21 := hz1
  clear hz1
  refine pt_X7_69 (v := some _) hC hP1 hS (kN (by omega) (mIniK hK (Nat.le_refl o) 19 (by decide))) hnm dX7_init_165 (fun H locs hP hz hS => ?_)
  replace hsz := hz.trans hsz
  replace hP : gP N0 D cy (mIniN S o 20) H := hP
  refine lv_aload_n hx hb dX7_init_168 rfl (lv_at hl 0 rfl) ?_
  refine lv_bipush (v := 8) hx hb dX7_init_169 (by decide) ?_
  refine g_newa hC hP hS (kd := 9) (t0 := 0) (ty := .int) rfl rfl (by decide) aC_int (N' := 8) (by decide) (by decide) (by decide) (by decide) (by decide) dX7_init_171 (fun H hP1 hz1 hS => ?_)
  rw [hsz] at hP1 hz1 ⊢
  replace hsz : H.size = o + 22 := hz1
  clear hz1
  refine pt_X7_72 (v := some _) hC hP1 hS (kN (by omega) (mIniK hK (Nat.le_refl o) 20 (by decide))) hnm dX7_init_173 (fun H locs hP hz hS => ?_)
  replace hsz := hz.trans hsz
  replace hP : gP N0 D cy (mIniN S o 21) H := hP
  refine lv_aload_n hx hb dX7_init_176 rfl (lv_at hl 0 rfl) ?_
  refine lv_bipush (v := 40) hx hb dX7_init_177 (by decide) ?_
  refine g_newa hC hP hS (kd := 11) (t0 := 2) (ty := .boolean) rfl rfl (by decide) aC_boolean (N' := 40) (by decide) (by decide) (by decide) (by decide) (by decide) dX7_init_179 (fun H hP1 hz1 hS => ?_)
  rw [hsz] at hP1 hz1 ⊢
  replace hsz : H.size = o + 23 := hz1
  clear hz1
  refine pt_X7_75 (v := some _) hC hP1 hS (kN (by omega) (mIniK hK (Nat.le_refl o) 21 (by decide))) hnm dX7_init_181 (fun H locs hP hz hS => ?_)
  replace hsz := hz.trans hsz
  replace hP : gP N0 D cy (mIniN S o 22) H := hP
  refine lv_aload_n hx hb dX7_init_184 rfl (lv_at hl 0 rfl) ?_
  refine lv_bipush (v := 40) hx hb dX7_init_185 (by decide) ?_
  refine g_newa hC hP hS (kd := 9) (t0 := 0) (ty := .int) rfl rfl (by decide) aC_int (N' := 40) (by decide) (by decide) (by decide) (by decide) (by decide) dX7_init_187 (fun H hP1 hz1 hS => ?_)
  rw [hsz] at hP1 hz1 ⊢
  replace hsz : H.size = o + 24 := hz1
  clear hz1
  refine pt_X7_78 (v := some _) hC hP1 hS (kN (by omega) (mIniK hK (Nat.le_refl o) 22 (by decide))) hnm dX7_init_189 (fun H locs hP hz hS => ?_)
  replace hsz := hz.trans hsz
  replace hP : gP N0 D cy (mIniN S o 23) H := hP
  refine lv_aload_n hx hb dX7_init_192 rfl (lv_at hl 0 rfl) ?_
  refine lv_bipush (v := 8) hx hb dX7_init_193 (by decide) ?_
  refine g_newa hC hP hS (kd := 9) (t0 := 0) (ty := .int) rfl rfl (by decide) aC_int (N' := 8) (by decide) (by decide) (by decide) (by decide) (by decide) dX7_init_195 (fun H hP1 hz1 hS => ?_)
  rw [hsz] at hP1 hz1 ⊢
  replace hsz : H.size = o + 25 := hz1
  clear hz1
  refine pt_X7_81 (v := some _) hC hP1 hS (kN (by omega) (mIniK hK (Nat.le_refl o) 23 (by decide))) hnm dX7_init_197 (fun H locs hP hz hS => ?_)
  replace hsz := hz.trans hsz
  replace hP : gP N0 D cy (mIniN S o 24) H := hP
  refine lv_aload_n hx hb dX7_init_200 rfl (lv_at hl 0 rfl) ?_
  refine lv_bipush (v := 8) hx hb dX7_init_201 (by decide) ?_
  refine g_newa hC hP hS (kd := 9) (t0 := 0) (ty := .int) rfl rfl (by decide) aC_int (N' := 8) (by decide) (by decide) (by decide) (by decide) (by decide) dX7_init_203 (fun H hP1 hz1 hS => ?_)
  rw [hsz] at hP1 hz1 ⊢
  replace hsz : H.size = o + 26 := hz1
  clear hz1
  refine pt_X7_84 (v := some _) hC hP1 hS (kN (by omega) (mIniK hK (Nat.le_refl o) 24 (by decide))) hnm dX7_init_205 (fun H locs hP hz hS => ?_)
  replace hsz := hz.trans hsz
  replace hP : gP N0 D cy (mIniN S o 25) H := hP
  refine lv_aload_n hx hb dX7_init_208 rfl (lv_at hl 0 rfl) ?_
  refine lv_bipush (v := 8) hx hb dX7_init_209 (by decide) ?_
  refine g_newa hC hP hS (kd := 10) (t0 := 1) (ty := .long) rfl rfl (by decide) aC_long (N' := 8) (by decide) (by decide) (by decide) (by decide) (by decide) dX7_init_211 (fun H hP1 hz1 hS => ?_)
  rw [hsz] at hP1 hz1 ⊢
  replace hsz : H.size = o + 27 := hz1
  clear hz1
  refine pt_X7_87 (v := some _) hC hP1 hS (kN (by omega) (mIniK hK (Nat.le_refl o) 25 (by decide))) hnm dX7_init_213 (fun H locs hP hz hS => ?_)
  replace hsz := hz.trans hsz
  replace hP : gP N0 D cy (mIniN S o 26) H := hP
  refine lv_aload_n hx hb dX7_init_216 rfl (lv_at hl 0 rfl) ?_
  refine lv_bipush (v := 8) hx hb dX7_init_217 (by decide) ?_
  refine g_newa hC hP hS (kd := 11) (t0 := 2) (ty := .boolean) rfl rfl (by decide) aC_boolean (N' := 8) (by decide) (by decide) (by decide) (by decide) (by decide) dX7_init_219 (fun H hP1 hz1 hS => ?_)
  rw [hsz] at hP1 hz1 ⊢
  replace hsz : H.size = o + 28 := hz1
  clear hz1
  refine pt_X7_90 (v := some _) hC hP1 hS (kN (by omega) (mIniK hK (Nat.le_refl o) 26 (by decide))) hnm dX7_init_221 (fun H locs hP hz hS => ?_)
  replace hsz := hz.trans hsz
  replace hP : gP N0 D cy (mIniN S o 27) H := hP
  refine lv_aload_n hx hb dX7_init_224 rfl (lv_at hl 0 rfl) ?_
  refine lv_bipush (v := 8) hx hb dX7_init_225 (by decide) ?_
  refine g_newa hC hP hS (kd := 9) (t0 := 0) (ty := .int) rfl rfl (by decide) aC_int (N' := 8) (by decide) (by decide) (by decide) (by decide) (by decide) dX7_init_227 (fun H hP1 hz1 hS => ?_)
  rw [hsz] at hP1 hz1 ⊢
  replace hsz : H.size = o + 29 := hz1
  clear hz1
  refine pt_X7_93 (v := some _) hC hP1 hS (kN (by omega) (mIniK hK (Nat.le_refl o) 27 (by decide))) hnm dX7_init_229 (fun H locs hP hz hS => ?_)
  replace hsz := hz.trans hsz
  replace hP : gP N0 D cy (mIniN S o 28) H := hP
  refine lv_aload_n hx hb dX7_init_232 rfl (lv_at hl 0 rfl) ?_
  refine lv_bipush (v := 8) hx hb dX7_init_233 (by decide) ?_
  refine g_newa hC hP hS (kd := 9) (t0 := 0) (ty := .int) rfl rfl (by decide) aC_int (N' := 8) (by decide) (by decide) (by decide) (by decide) (by decide) dX7_init_235 (fun H hP1 hz1 hS => ?_)
  rw [hsz] at hP1 hz1 ⊢
  replace hsz : H.size = o + 30 := hz1
  clear hz1
  refine pt_X7_96 (v := some _) hC hP1 hS (kN (by omega) (mIniK hK (Nat.le_refl o) 28 (by decide))) hnm dX7_init_237 (fun H locs hP hz hS => ?_)
  replace hsz := hz.trans hsz
  replace hP : gP N0 D cy (mIniN S o 29) H := hP
  refine lv_aload_n hx hb dX7_init_240 rfl (lv_at hl 0 rfl) ?_
  refine lv_bipush (v := 8) hx hb dX7_init_241 (by decide) ?_
  refine g_newa hC hP hS (kd := 10) (t0 := 1) (ty := .long) rfl rfl (by decide) aC_long (N' := 8) (by decide) (by decide) (by decide) (by decide) (by decide) dX7_init_243 (fun H hP1 hz1 hS => ?_)
  rw [hsz] at hP1 hz1 ⊢
  replace hsz : H.size = o + 31 := hz1
  clear hz1
  refine pt_X7_99 (v := some _) hC hP1 hS (kN (by omega) (mIniK hK (Nat.le_refl o) 29 (by decide))) hnm dX7_init_245 (fun H locs hP hz hS => ?_)
  replace hsz := hz.trans hsz
  replace hP : gP N0 D cy (mIniN S o 30) H := hP
  refine lv_aload_n hx hb dX7_init_248 rfl (lv_at hl 0 rfl) ?_
  refine lv_bipush (v := 8) hx hb dX7_init_249 (by decide) ?_
  refine g_newa hC hP hS (kd := 10) (t0 := 1) (ty := .long) rfl rfl (by decide) aC_long (N' := 8) (by decide) (by decide) (by decide) (by decide) (by decide) dX7_init_251 (fun H hP1 hz1 hS => ?_)
  rw [hsz] at hP1 hz1 ⊢
  replace hsz : H.size = o + 32 := hz1
  clear hz1
  refine pt_X7_102 (v := some _) hC hP1 hS (kN (by omega) (mIniK hK (Nat.le_refl o) 30 (by decide))) hnm dX7_init_253 (fun H locs hP hz hS => ?_)
  replace hsz := hz.trans hsz
  replace hP : gP N0 D cy (mIniN S o 31) H := hP
  refine lv_aload_n hx hb dX7_init_256 rfl (lv_at hl 0 rfl) ?_
  refine lv_bipush (v := 8) hx hb dX7_init_257 (by decide) ?_
  refine g_newa hC hP hS (kd := 9) (t0 := 0) (ty := .int) rfl rfl (by decide) aC_int (N' := 8) (by decide) (by decide) (by decide) (by decide) (by decide) dX7_init_259 (fun H hP1 hz1 hS => ?_)
  rw [hsz] at hP1 hz1 ⊢
  replace hsz : H.size = o + 33 := hz1
  clear hz1
  refine pt_X7_105 (v := some _) hC hP1 hS (kN (by omega) (mIniK hK (Nat.le_refl o) 31 (by decide))) hnm dX7_init_261 (fun H locs hP hz hS => ?_)
  replace hsz := hz.trans hsz
  replace hP : gP N0 D cy (mIniN S o 32) H := hP
  refine lv_aload_n hx hb dX7_init_264 rfl (lv_at hl 0 rfl) ?_
  refine lv_bipush (v := 8) hx hb dX7_init_265 (by decide) ?_
  refine g_newa hC hP hS (kd := 9) (t0 := 0) (ty := .int) rfl rfl (by decide) aC_int (N' := 8) (by decide) (by decide) (by decide) (by decide) (by decide) dX7_init_267 (fun H hP1 hz1 hS => ?_)
  rw [hsz] at hP1 hz1 ⊢
  replace hsz : H.size = o + 34 := hz1
  clear hz1
  refine pt_X7_108 (v := some _) hC hP1 hS (kN (by omega) (mIniK hK (Nat.le_refl o) 32 (by decide))) hnm dX7_init_269 (fun H locs hP hz hS => ?_)
  replace hsz := hz.trans hsz
  replace hP : gP N0 D cy (mIniN S o 33) H := hP
  refine lv_aload_n hx hb dX7_init_272 rfl (lv_at hl 0 rfl) ?_
  refine lv_bipush (v := 8) hx hb dX7_init_273 (by decide) ?_
  refine g_newa hC hP hS (kd := 10) (t0 := 1) (ty := .long) rfl rfl (by decide) aC_long (N' := 8) (by decide) (by decide) (by decide) (by decide) (by decide) dX7_init_275 (fun H hP1 hz1 hS => ?_)
  rw [hsz] at hP1 hz1 ⊢
  replace hsz : H.size = o + 35 := hz1
  clear hz1
  refine pt_X7_111 (v := some _) hC hP1 hS (kN (by omega) (mIniK hK (Nat.le_refl o) 33 (by decide))) hnm dX7_init_277 (fun H locs hP hz hS => ?_)
  replace hsz := hz.trans hsz
  replace hP : gP N0 D cy (mIniN S o 34) H := hP
  exact g_vret hC hP hS hr hlk (by decide) (by decide) (⟨rfl, rfl, hsz⟩) dX7_init_280
theorem mIni_R {S : gS} {o f : Nat} {r : Option Nat} : ∀ k, k ≤ 34 → (∀ q, q < k → (mTab.getD q (0, 0, 0, 0)).1 ≠ f) → gR S o f = r → gR (mIniN S o k) o f = r
  | 0, _, _, h => h
  | k + 1, hk, hf, h => by
    unfold mIniN mIni1
    exact rR (Or.inl (Ne.symm (hf k (by omega)))) (rN (by rw [mTab_off k (by omega)]; omega) (mIni_R k (by omega) (fun q hq => hf q (by omega)) h))
theorem mIni_ge {S : gS} {o q : Nat} (hq : q < 34) : ∀ d, q + 1 + d ≤ 34 → gR (mIniN S o (q + 1 + d)) o (mTab.getD q (0, 0, 0, 0)).1 = some (o + (q + 1)) ∧ gK (mIniN S o (q + 1 + d)) (o + (q + 1)) = (mTab.getD q (0, 0, 0, 0)).2.2.1 ∧ gn (mIniN S o (q + 1 + d)) (o + (q + 1)) = (mTab.getD q (0, 0, 0, 0)).2.2.2
  | 0, _ => by
    unfold mIniN mIni1
    rw [mTab_off q hq]
    refine ⟨?_, kR kN_s, nR' nN_s⟩
    show up2 _ o _ (some (o + (q + 1))) o _ = _
    exact up2_s
  | d + 1, hd => by
    obtain ⟨h1, h2, h3⟩ := mIni_ge (S := S) (o := o) hq d (by omega)
    have hne : (mTab.getD (q + 1 + d) (0, 0, 0, 0)).1 ≠ (mTab.getD q (0, 0, 0, 0)).1 := mTab_inj (q + 1 + d) (by omega) q hq (by omega)
    show gR (mIniN S o ((q + 1 + d) + 1)) o _ = _ ∧ gK (mIniN S o ((q + 1 + d) + 1)) _ = _ ∧ gn (mIniN S o ((q + 1 + d) + 1)) _ = _
    unfold mIniN mIni1
    rw [mTab_off (q + 1 + d) (by omega)]
    exact ⟨rR (Or.inl (Ne.symm hne)) (rN (by omega) h1), kR (kN (by omega) h2), nR' (nN' (by omega) h3)⟩
theorem mIni_ok {S : gS} {o : Nat} (hK : gK S o = 8) : mOK (mIniN S o 34) o := by
  refine ⟨mIniK hK (Nat.le_refl o) 34 (by decide), fun t ht => ?_⟩
  obtain ⟨q, hq, e⟩ := mTab_ix t ht
  have h := mIni_ge (S := S) (o := o) hq (33 - q) (by omega)
  rw [show q + 1 + (33 - q) = 34 from by omega, e] at h
  have h2 := mTab_off q hq
  rw [e] at h2
  rw [h2]
  exact h
