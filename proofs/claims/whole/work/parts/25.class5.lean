theorem cnt1 {P : Prop} {_ : Decidable P} (h : ¬ (if P then (1 : Int32) else 0) = 0) : P := by
  by_cases hp : P
  · exact hp
  · exact absurd (if_neg hp) h
theorem cnt0 {P : Prop} {_ : Decidable P} (h : (if P then (1 : Int32) else 0) = 0) : ¬ P := fun hp => by rw [if_pos hp] at h; exact absurd h (by decide)
/-- what receive does -/
def cRecv (S : gS) (a sa lt w0 : Nat) (f g : Nat → Nat) (S1 : gS) : Prop :=
  (gI S lt 0 = 1 ∧ cCounts S a lt 1 ∧ S1 = cCntP S a sa lt f g) ∨
  (gI S lt 0 = 3 ∧ cCounts S a lt 2 ∧ cMaj S a lt ∧ S1 = sI (sJ (sR (sI S a 3 0) a 11 (some w0)) a 12 (-1)) a 13 0) ∨
  (gI S lt 0 = 3 ∧ cCounts S a lt 2 ∧ ¬ cMaj S a lt ∧ S1 = sI S a 7 (gI S a 7 ||| (1 <<< (gI S lt 2 &&& 31)))) ∨
  (gI S lt 0 = 4 ∧ gI S a 3 ≠ 0 ∧ gI S lt 3 = gI S a 6 ∧ S1 = sI (sI (sI S a 5 (gI S lt 5 / 8 + 1)) a 3 0) a 10 (gI S a 10 + 1)) ∨
  (¬ (gI S lt 0 = 1 ∧ cCounts S a lt 1) ∧ ¬ (gI S lt 0 = 3 ∧ cCounts S a lt 2) ∧ ¬ (gI S lt 0 = 4 ∧ gI S a 3 ≠ 0 ∧ gI S lt 3 = gI S a 6) ∧ S1 = S)
set_option maxRecDepth 100000 in
set_option maxHeartbeats 4000000 in
theorem c_X1_receive (l : Launch) (N0 : Nat) (D : va_G) (cy : Nat → ClassId) (S : gS) (sz : Nat) (a sa lt rl : Nat) (f g : Nat → Nat) (ha : gK S a = 2) (hm : gK S lt = 3) (hsa : gR S a 8 = some sa) (hsak : gK S sa = 15) (hsan : gn S sa = 8) (hrl : gR S lt 7 = some rl) (hrlk : gK S rl = 15) (hrln : gn S rl = 8) (hf : ∀ j, j < 8 → gR S sa j = some (f j) ∧ gK S (f j) = 6) (hg : ∀ j, j < 8 → gR S rl j = some (g j) ∧ gK S (g j) = 6) (hsr : rl ≠ sa) (w0 : Nat) (hw9 : gI S a 3 = 2 → gR S a 9 = some w0) : gM l yX1_receive cX1_receive 2 (none : Option FieldType) { frames := 3, cells := 0, slots := 0, locals := 90 } N0 D cy [.ref a, .ref lt] S sz (fun v S1 z => v = none ∧ z = sz ∧ cRecv S a sa lt w0 f g S1) := by
  refine g_body (by decide) rfl (Nat.le_of_ble_eq_true rfl) ?_
  intro p e s m args below meth c ls hC hU hr hlk hnm hsz hP hS hl
  have hx := hC.1
  have hb := hC.2.1
  refine lv_aload_n hx hb dX1_receive_0 rfl (lv_at hl 1 rfl) ?_
  refine gt_X1_69 hC hP (hm) dX1_receive_1 ?_
  refine lv_iconst (v := 1) hx hb dX1_receive_4 (by decide) ?_
  refine lv_icmp_ne (tgt := 25) hx hb dX1_receive_5 (by decide) (fun c_5 => ?_) (fun c_5 => ?_)
  · refine lv_aload_n hx hb dX1_receive_25 rfl (lv_at hl 1 rfl) ?_
    refine gt_X1_69 hC hP (hm) dX1_receive_26 ?_
    refine lv_iconst (v := 3) hx hb dX1_receive_29 (by decide) ?_
    refine lv_icmp_ne (tgt := 50) hx hb dX1_receive_30 (by decide) (fun c_30 => ?_) (fun c_30 => ?_)
    · refine lv_aload_n hx hb dX1_receive_50 rfl (lv_at hl 1 rfl) ?_
      refine gt_X1_69 hC hP (hm) dX1_receive_51 ?_
      refine lv_iconst (v := 4) hx hb dX1_receive_54 (by decide) ?_
      refine lv_icmp_ne (tgt := 93) hx hb dX1_receive_55 (by decide) (fun c_55 => ?_) (fun c_55 => ?_)
      · exact g_vret hC hP hS hr hlk (by decide) (by decide) (⟨rfl, hsz, by first | exact Or.inl ⟨c_5, cnt1 c_14, rfl⟩ | exact Or.inr (Or.inr (Or.inr (Or.inl ⟨c_55, c_62, c_73, rfl⟩))) | (rcases hcy with ⟨h1, h2⟩ | ⟨h1, h2⟩; exact Or.inr (Or.inl ⟨c_30, cnt1 c_39, h1, h2⟩); exact Or.inr (Or.inr (Or.inl ⟨c_30, cnt1 c_39, h1, h2⟩))) | exact Or.inr (Or.inr (Or.inr (Or.inr ⟨by first | exact fun h => c_5 h.1 | exact fun h => cnt0 c_14 h.2, by first | exact fun h => c_30 h.1 | exact fun h => cnt0 c_39 h.2, by first | exact fun h => c_55 h.1 | exact fun h => h.2.1 c_62 | exact fun h => c_73 h.2.2, rfl⟩)))⟩) dX1_receive_93
      · refine lv_aload_n hx hb dX1_receive_58 rfl (lv_at hl 0 rfl) ?_
        refine gt_X1_9 hC hP (ha) dX1_receive_59 ?_
        refine lv_if_eq (tgt := 93) hx hb dX1_receive_62 (by decide) (fun c_62 => ?_) (fun c_62 => ?_)
        · exact g_vret hC hP hS hr hlk (by decide) (by decide) (⟨rfl, hsz, by first | exact Or.inl ⟨c_5, cnt1 c_14, rfl⟩ | exact Or.inr (Or.inr (Or.inr (Or.inl ⟨c_55, c_62, c_73, rfl⟩))) | (rcases hcy with ⟨h1, h2⟩ | ⟨h1, h2⟩; exact Or.inr (Or.inl ⟨c_30, cnt1 c_39, h1, h2⟩); exact Or.inr (Or.inr (Or.inl ⟨c_30, cnt1 c_39, h1, h2⟩))) | exact Or.inr (Or.inr (Or.inr (Or.inr ⟨by first | exact fun h => c_5 h.1 | exact fun h => cnt0 c_14 h.2, by first | exact fun h => c_30 h.1 | exact fun h => cnt0 c_39 h.2, by first | exact fun h => c_55 h.1 | exact fun h => h.2.1 c_62 | exact fun h => c_73 h.2.2, rfl⟩)))⟩) dX1_receive_93
        · refine lv_aload_n hx hb dX1_receive_65 rfl (lv_at hl 1 rfl) ?_
          refine gt_X1_89 hC hP (hm) dX1_receive_66 ?_
          refine lv_aload_n hx hb dX1_receive_69 rfl (lv_at hl 0 rfl) ?_
          refine gt_X1_50 hC hP (ha) dX1_receive_70 ?_
          refine lv_icmp_ne (tgt := 93) hx hb dX1_receive_73 (by decide) (fun c_73 => ?_) (fun c_73 => ?_)
          · exact g_vret hC hP hS hr hlk (by decide) (by decide) (⟨rfl, hsz, by first | exact Or.inl ⟨c_5, cnt1 c_14, rfl⟩ | exact Or.inr (Or.inr (Or.inr (Or.inl ⟨c_55, c_62, c_73, rfl⟩))) | (rcases hcy with ⟨h1, h2⟩ | ⟨h1, h2⟩; exact Or.inr (Or.inl ⟨c_30, cnt1 c_39, h1, h2⟩); exact Or.inr (Or.inr (Or.inl ⟨c_30, cnt1 c_39, h1, h2⟩))) | exact Or.inr (Or.inr (Or.inr (Or.inr ⟨by first | exact fun h => c_5 h.1 | exact fun h => cnt0 c_14 h.2, by first | exact fun h => c_30 h.1 | exact fun h => cnt0 c_39 h.2, by first | exact fun h => c_55 h.1 | exact fun h => h.2.1 c_62 | exact fun h => c_73 h.2.2, rfl⟩)))⟩) dX1_receive_93
          · refine lv_aload_n hx hb dX1_receive_76 rfl (lv_at hl 0 rfl) ?_
            refine lv_aload_n hx hb dX1_receive_77 rfl (lv_at hl 1 rfl) ?_
            refine gt_X1_90 hC hP (hm) dX1_receive_78 ?_
            refine lv_bipush (v := 8) hx hb dX1_receive_81 (by decide) ?_
            refine lv_idiv hx hb dX1_receive_83 (by decide) ?_
            refine lv_iconst (v := 1) hx hb dX1_receive_84 (by decide) ?_
            refine lv_iadd hx hb dX1_receive_85 ?_
            refine pt_X1_41 hC hP hS (ha) dX1_receive_86 (fun H locs hP hz hS => ?_)
            replace hsz := hz.trans hsz
            refine lv_aload_n hx hb dX1_receive_89 rfl (lv_at hl 0 rfl) ?_
            refine g_callV (As := []) (rest := []) hC hU hP hS hl.1 (c_X1_fail l N0 D cy _ _ _ (kI ha)) mL_X1_93 iM_X1_fail sL_X1_fail iN_X1 cD_X1_fail ⟨by decide, by decide, rfl⟩ ⟨by decide, by decide⟩ ⟨by decide, by decide⟩ (ci := 1) rfl (by decide) (kI (ha)) rfl (Nat.le_of_ble_eq_true rfl) dX1_receive_90 (fun v S1 H locs hw hP hz hS => ?_)
            obtain ⟨rfl, hS1, hz2⟩ := hw
            replace hS1 := hS1.symm
            subst hS1
            replace hsz := hz2.trans hsz
            exact g_vret hC hP hS hr hlk (by decide) (by decide) (⟨rfl, hsz, by first | exact Or.inl ⟨c_5, cnt1 c_14, rfl⟩ | exact Or.inr (Or.inr (Or.inr (Or.inl ⟨c_55, c_62, c_73, rfl⟩))) | (rcases hcy with ⟨h1, h2⟩ | ⟨h1, h2⟩; exact Or.inr (Or.inl ⟨c_30, cnt1 c_39, h1, h2⟩); exact Or.inr (Or.inr (Or.inl ⟨c_30, cnt1 c_39, h1, h2⟩))) | exact Or.inr (Or.inr (Or.inr (Or.inr ⟨by first | exact fun h => c_5 h.1 | exact fun h => cnt0 c_14 h.2, by first | exact fun h => c_30 h.1 | exact fun h => cnt0 c_39 h.2, by first | exact fun h => c_55 h.1 | exact fun h => h.2.1 c_62 | exact fun h => c_73 h.2.2, rfl⟩)))⟩) dX1_receive_93
    · refine lv_aload_n hx hb dX1_receive_33 rfl (lv_at hl 0 rfl) ?_
      refine lv_aload_n hx hb dX1_receive_34 rfl (lv_at hl 1 rfl) ?_
      refine lv_iconst (v := 2) hx hb dX1_receive_35 (by decide) ?_
      refine g_callV (As := [.ref _, .int _]) (rest := []) hC hU hP hS hl.1 (c_X1_counts l N0 D cy _ _ _ _ _ ha hm) mL_X1_74 iM_X1_counts sL_X1_counts iN_X1 cD_X1_counts ⟨by decide, by decide, rfl⟩ ⟨by decide, by decide⟩ ⟨by decide, by decide⟩ (ci := 1) rfl (by decide) (ha) rfl (Nat.le_of_ble_eq_true rfl) dX1_receive_36 (fun v S1 H locs hw hP hz hS => ?_)
      obtain ⟨rfl, hS1, hz2⟩ := hw
      replace hS1 := hS1.symm
      subst hS1
      replace hsz := hz2.trans hsz
      refine lv_if_eq (tgt := 50) hx hb dX1_receive_39 (by decide) (fun c_39 => ?_) (fun c_39 => ?_)
      · refine lv_aload_n hx hb dX1_receive_50 rfl (lv_at hl 1 rfl) ?_
        refine gt_X1_69 hC hP (hm) dX1_receive_51 ?_
        refine lv_iconst (v := 4) hx hb dX1_receive_54 (by decide) ?_
        refine lv_icmp_ne (tgt := 93) hx hb dX1_receive_55 (by decide) (fun c_55 => ?_) (fun c_55 => ?_)
        · exact g_vret hC hP hS hr hlk (by decide) (by decide) (⟨rfl, hsz, by first | exact Or.inl ⟨c_5, cnt1 c_14, rfl⟩ | exact Or.inr (Or.inr (Or.inr (Or.inl ⟨c_55, c_62, c_73, rfl⟩))) | (rcases hcy with ⟨h1, h2⟩ | ⟨h1, h2⟩; exact Or.inr (Or.inl ⟨c_30, cnt1 c_39, h1, h2⟩); exact Or.inr (Or.inr (Or.inl ⟨c_30, cnt1 c_39, h1, h2⟩))) | exact Or.inr (Or.inr (Or.inr (Or.inr ⟨by first | exact fun h => c_5 h.1 | exact fun h => cnt0 c_14 h.2, by first | exact fun h => c_30 h.1 | exact fun h => cnt0 c_39 h.2, by first | exact fun h => c_55 h.1 | exact fun h => h.2.1 c_62 | exact fun h => c_73 h.2.2, rfl⟩)))⟩) dX1_receive_93
        · refine lv_aload_n hx hb dX1_receive_58 rfl (lv_at hl 0 rfl) ?_
          refine gt_X1_9 hC hP (ha) dX1_receive_59 ?_
          refine lv_if_eq (tgt := 93) hx hb dX1_receive_62 (by decide) (fun c_62 => ?_) (fun c_62 => ?_)
          · exact g_vret hC hP hS hr hlk (by decide) (by decide) (⟨rfl, hsz, by first | exact Or.inl ⟨c_5, cnt1 c_14, rfl⟩ | exact Or.inr (Or.inr (Or.inr (Or.inl ⟨c_55, c_62, c_73, rfl⟩))) | (rcases hcy with ⟨h1, h2⟩ | ⟨h1, h2⟩; exact Or.inr (Or.inl ⟨c_30, cnt1 c_39, h1, h2⟩); exact Or.inr (Or.inr (Or.inl ⟨c_30, cnt1 c_39, h1, h2⟩))) | exact Or.inr (Or.inr (Or.inr (Or.inr ⟨by first | exact fun h => c_5 h.1 | exact fun h => cnt0 c_14 h.2, by first | exact fun h => c_30 h.1 | exact fun h => cnt0 c_39 h.2, by first | exact fun h => c_55 h.1 | exact fun h => h.2.1 c_62 | exact fun h => c_73 h.2.2, rfl⟩)))⟩) dX1_receive_93
          · refine lv_aload_n hx hb dX1_receive_65 rfl (lv_at hl 1 rfl) ?_
            refine gt_X1_89 hC hP (hm) dX1_receive_66 ?_
            refine lv_aload_n hx hb dX1_receive_69 rfl (lv_at hl 0 rfl) ?_
            refine gt_X1_50 hC hP (ha) dX1_receive_70 ?_
            refine lv_icmp_ne (tgt := 93) hx hb dX1_receive_73 (by decide) (fun c_73 => ?_) (fun c_73 => ?_)
            · exact g_vret hC hP hS hr hlk (by decide) (by decide) (⟨rfl, hsz, by first | exact Or.inl ⟨c_5, cnt1 c_14, rfl⟩ | exact Or.inr (Or.inr (Or.inr (Or.inl ⟨c_55, c_62, c_73, rfl⟩))) | (rcases hcy with ⟨h1, h2⟩ | ⟨h1, h2⟩; exact Or.inr (Or.inl ⟨c_30, cnt1 c_39, h1, h2⟩); exact Or.inr (Or.inr (Or.inl ⟨c_30, cnt1 c_39, h1, h2⟩))) | exact Or.inr (Or.inr (Or.inr (Or.inr ⟨by first | exact fun h => c_5 h.1 | exact fun h => cnt0 c_14 h.2, by first | exact fun h => c_30 h.1 | exact fun h => cnt0 c_39 h.2, by first | exact fun h => c_55 h.1 | exact fun h => h.2.1 c_62 | exact fun h => c_73 h.2.2, rfl⟩)))⟩) dX1_receive_93
            · refine lv_aload_n hx hb dX1_receive_76 rfl (lv_at hl 0 rfl) ?_
              refine lv_aload_n hx hb dX1_receive_77 rfl (lv_at hl 1 rfl) ?_
              refine gt_X1_90 hC hP (hm) dX1_receive_78 ?_
              refine lv_bipush (v := 8) hx hb dX1_receive_81 (by decide) ?_
              refine lv_idiv hx hb dX1_receive_83 (by decide) ?_
              refine lv_iconst (v := 1) hx hb dX1_receive_84 (by decide) ?_
              refine lv_iadd hx hb dX1_receive_85 ?_
              refine pt_X1_41 hC hP hS (ha) dX1_receive_86 (fun H locs hP hz hS => ?_)
              replace hsz := hz.trans hsz
              refine lv_aload_n hx hb dX1_receive_89 rfl (lv_at hl 0 rfl) ?_
              refine g_callV (As := []) (rest := []) hC hU hP hS hl.1 (c_X1_fail l N0 D cy _ _ _ (kI ha)) mL_X1_93 iM_X1_fail sL_X1_fail iN_X1 cD_X1_fail ⟨by decide, by decide, rfl⟩ ⟨by decide, by decide⟩ ⟨by decide, by decide⟩ (ci := 1) rfl (by decide) (kI (ha)) rfl (Nat.le_of_ble_eq_true rfl) dX1_receive_90 (fun v S1 H locs hw hP hz hS => ?_)
              obtain ⟨rfl, hS1, hz2⟩ := hw
              replace hS1 := hS1.symm
              subst hS1
              replace hsz := hz2.trans hsz
              exact g_vret hC hP hS hr hlk (by decide) (by decide) (⟨rfl, hsz, by first | exact Or.inl ⟨c_5, cnt1 c_14, rfl⟩ | exact Or.inr (Or.inr (Or.inr (Or.inl ⟨c_55, c_62, c_73, rfl⟩))) | (rcases hcy with ⟨h1, h2⟩ | ⟨h1, h2⟩; exact Or.inr (Or.inl ⟨c_30, cnt1 c_39, h1, h2⟩); exact Or.inr (Or.inr (Or.inl ⟨c_30, cnt1 c_39, h1, h2⟩))) | exact Or.inr (Or.inr (Or.inr (Or.inr ⟨by first | exact fun h => c_5 h.1 | exact fun h => cnt0 c_14 h.2, by first | exact fun h => c_30 h.1 | exact fun h => cnt0 c_39 h.2, by first | exact fun h => c_55 h.1 | exact fun h => h.2.1 c_62 | exact fun h => c_73 h.2.2, rfl⟩)))⟩) dX1_receive_93
      · refine lv_aload_n hx hb dX1_receive_42 rfl (lv_at hl 0 rfl) ?_
        refine lv_aload_n hx hb dX1_receive_43 rfl (lv_at hl 1 rfl) ?_
        refine g_callV (As := [.ref _]) (rest := []) hC hU hP hS hl.1 (c_X1_countYes l N0 D cy _ _ a lt w0 ha hm (hw9 (cnt1 c_39).1)) mL_X1_86 iM_X1_countYes sL_X1_countYes iN_X1 cD_X1_countYes ⟨by decide, by decide, rfl⟩ ⟨by decide, by decide⟩ ⟨by decide, by decide⟩ (ci := 1) rfl (by decide) (ha) rfl (Nat.le_of_ble_eq_true rfl) dX1_receive_44 (fun v S1 H locs hw hP hz hS => ?_)
        obtain ⟨rfl, hz2, hcy⟩ := hw
        replace hsz := hz2.trans hsz
        refine lv_goto (tgt := 93) hx hb dX1_receive_47 (by decide) ?_
        exact g_vret hC hP hS hr hlk (by decide) (by decide) (⟨rfl, hsz, by first | exact Or.inl ⟨c_5, cnt1 c_14, rfl⟩ | exact Or.inr (Or.inr (Or.inr (Or.inl ⟨c_55, c_62, c_73, rfl⟩))) | (rcases hcy with ⟨h1, h2⟩ | ⟨h1, h2⟩; exact Or.inr (Or.inl ⟨c_30, cnt1 c_39, h1, h2⟩); exact Or.inr (Or.inr (Or.inl ⟨c_30, cnt1 c_39, h1, h2⟩))) | exact Or.inr (Or.inr (Or.inr (Or.inr ⟨by first | exact fun h => c_5 h.1 | exact fun h => cnt0 c_14 h.2, by first | exact fun h => c_30 h.1 | exact fun h => cnt0 c_39 h.2, by first | exact fun h => c_55 h.1 | exact fun h => h.2.1 c_62 | exact fun h => c_73 h.2.2, rfl⟩)))⟩) dX1_receive_93
  · refine lv_aload_n hx hb dX1_receive_8 rfl (lv_at hl 0 rfl) ?_
    refine lv_aload_n hx hb dX1_receive_9 rfl (lv_at hl 1 rfl) ?_
    refine lv_iconst (v := 1) hx hb dX1_receive_10 (by decide) ?_
    refine g_callV (As := [.ref _, .int _]) (rest := []) hC hU hP hS hl.1 (c_X1_counts l N0 D cy _ _ _ _ _ ha hm) mL_X1_74 iM_X1_counts sL_X1_counts iN_X1 cD_X1_counts ⟨by decide, by decide, rfl⟩ ⟨by decide, by decide⟩ ⟨by decide, by decide⟩ (ci := 1) rfl (by decide) (ha) rfl (Nat.le_of_ble_eq_true rfl) dX1_receive_11 (fun v S1 H locs hw hP hz hS => ?_)
    obtain ⟨rfl, hS1, hz2⟩ := hw
    replace hS1 := hS1.symm
    subst hS1
    replace hsz := hz2.trans hsz
    refine lv_if_eq (tgt := 25) hx hb dX1_receive_14 (by decide) (fun c_14 => ?_) (fun c_14 => ?_)
    · refine lv_aload_n hx hb dX1_receive_25 rfl (lv_at hl 1 rfl) ?_
      refine gt_X1_69 hC hP (hm) dX1_receive_26 ?_
      refine lv_iconst (v := 3) hx hb dX1_receive_29 (by decide) ?_
      refine lv_icmp_ne (tgt := 50) hx hb dX1_receive_30 (by decide) (fun c_30 => ?_) (fun c_30 => ?_)
      · refine lv_aload_n hx hb dX1_receive_50 rfl (lv_at hl 1 rfl) ?_
        refine gt_X1_69 hC hP (hm) dX1_receive_51 ?_
        refine lv_iconst (v := 4) hx hb dX1_receive_54 (by decide) ?_
        refine lv_icmp_ne (tgt := 93) hx hb dX1_receive_55 (by decide) (fun c_55 => ?_) (fun c_55 => ?_)
        · exact g_vret hC hP hS hr hlk (by decide) (by decide) (⟨rfl, hsz, by first | exact Or.inl ⟨c_5, cnt1 c_14, rfl⟩ | exact Or.inr (Or.inr (Or.inr (Or.inl ⟨c_55, c_62, c_73, rfl⟩))) | (rcases hcy with ⟨h1, h2⟩ | ⟨h1, h2⟩; exact Or.inr (Or.inl ⟨c_30, cnt1 c_39, h1, h2⟩); exact Or.inr (Or.inr (Or.inl ⟨c_30, cnt1 c_39, h1, h2⟩))) | exact Or.inr (Or.inr (Or.inr (Or.inr ⟨by first | exact fun h => c_5 h.1 | exact fun h => cnt0 c_14 h.2, by first | exact fun h => c_30 h.1 | exact fun h => cnt0 c_39 h.2, by first | exact fun h => c_55 h.1 | exact fun h => h.2.1 c_62 | exact fun h => c_73 h.2.2, rfl⟩)))⟩) dX1_receive_93
        · refine lv_aload_n hx hb dX1_receive_58 rfl (lv_at hl 0 rfl) ?_
          refine gt_X1_9 hC hP (ha) dX1_receive_59 ?_
          refine lv_if_eq (tgt := 93) hx hb dX1_receive_62 (by decide) (fun c_62 => ?_) (fun c_62 => ?_)
          · exact g_vret hC hP hS hr hlk (by decide) (by decide) (⟨rfl, hsz, by first | exact Or.inl ⟨c_5, cnt1 c_14, rfl⟩ | exact Or.inr (Or.inr (Or.inr (Or.inl ⟨c_55, c_62, c_73, rfl⟩))) | (rcases hcy with ⟨h1, h2⟩ | ⟨h1, h2⟩; exact Or.inr (Or.inl ⟨c_30, cnt1 c_39, h1, h2⟩); exact Or.inr (Or.inr (Or.inl ⟨c_30, cnt1 c_39, h1, h2⟩))) | exact Or.inr (Or.inr (Or.inr (Or.inr ⟨by first | exact fun h => c_5 h.1 | exact fun h => cnt0 c_14 h.2, by first | exact fun h => c_30 h.1 | exact fun h => cnt0 c_39 h.2, by first | exact fun h => c_55 h.1 | exact fun h => h.2.1 c_62 | exact fun h => c_73 h.2.2, rfl⟩)))⟩) dX1_receive_93
          · refine lv_aload_n hx hb dX1_receive_65 rfl (lv_at hl 1 rfl) ?_
            refine gt_X1_89 hC hP (hm) dX1_receive_66 ?_
            refine lv_aload_n hx hb dX1_receive_69 rfl (lv_at hl 0 rfl) ?_
            refine gt_X1_50 hC hP (ha) dX1_receive_70 ?_
            refine lv_icmp_ne (tgt := 93) hx hb dX1_receive_73 (by decide) (fun c_73 => ?_) (fun c_73 => ?_)
            · exact g_vret hC hP hS hr hlk (by decide) (by decide) (⟨rfl, hsz, by first | exact Or.inl ⟨c_5, cnt1 c_14, rfl⟩ | exact Or.inr (Or.inr (Or.inr (Or.inl ⟨c_55, c_62, c_73, rfl⟩))) | (rcases hcy with ⟨h1, h2⟩ | ⟨h1, h2⟩; exact Or.inr (Or.inl ⟨c_30, cnt1 c_39, h1, h2⟩); exact Or.inr (Or.inr (Or.inl ⟨c_30, cnt1 c_39, h1, h2⟩))) | exact Or.inr (Or.inr (Or.inr (Or.inr ⟨by first | exact fun h => c_5 h.1 | exact fun h => cnt0 c_14 h.2, by first | exact fun h => c_30 h.1 | exact fun h => cnt0 c_39 h.2, by first | exact fun h => c_55 h.1 | exact fun h => h.2.1 c_62 | exact fun h => c_73 h.2.2, rfl⟩)))⟩) dX1_receive_93
            · refine lv_aload_n hx hb dX1_receive_76 rfl (lv_at hl 0 rfl) ?_
              refine lv_aload_n hx hb dX1_receive_77 rfl (lv_at hl 1 rfl) ?_
              refine gt_X1_90 hC hP (hm) dX1_receive_78 ?_
              refine lv_bipush (v := 8) hx hb dX1_receive_81 (by decide) ?_
              refine lv_idiv hx hb dX1_receive_83 (by decide) ?_
              refine lv_iconst (v := 1) hx hb dX1_receive_84 (by decide) ?_
              refine lv_iadd hx hb dX1_receive_85 ?_
              refine pt_X1_41 hC hP hS (ha) dX1_receive_86 (fun H locs hP hz hS => ?_)
              replace hsz := hz.trans hsz
              refine lv_aload_n hx hb dX1_receive_89 rfl (lv_at hl 0 rfl) ?_
              refine g_callV (As := []) (rest := []) hC hU hP hS hl.1 (c_X1_fail l N0 D cy _ _ _ (kI ha)) mL_X1_93 iM_X1_fail sL_X1_fail iN_X1 cD_X1_fail ⟨by decide, by decide, rfl⟩ ⟨by decide, by decide⟩ ⟨by decide, by decide⟩ (ci := 1) rfl (by decide) (kI (ha)) rfl (Nat.le_of_ble_eq_true rfl) dX1_receive_90 (fun v S1 H locs hw hP hz hS => ?_)
              obtain ⟨rfl, hS1, hz2⟩ := hw
              replace hS1 := hS1.symm
              subst hS1
              replace hsz := hz2.trans hsz
              exact g_vret hC hP hS hr hlk (by decide) (by decide) (⟨rfl, hsz, by first | exact Or.inl ⟨c_5, cnt1 c_14, rfl⟩ | exact Or.inr (Or.inr (Or.inr (Or.inl ⟨c_55, c_62, c_73, rfl⟩))) | (rcases hcy with ⟨h1, h2⟩ | ⟨h1, h2⟩; exact Or.inr (Or.inl ⟨c_30, cnt1 c_39, h1, h2⟩); exact Or.inr (Or.inr (Or.inl ⟨c_30, cnt1 c_39, h1, h2⟩))) | exact Or.inr (Or.inr (Or.inr (Or.inr ⟨by first | exact fun h => c_5 h.1 | exact fun h => cnt0 c_14 h.2, by first | exact fun h => c_30 h.1 | exact fun h => cnt0 c_39 h.2, by first | exact fun h => c_55 h.1 | exact fun h => h.2.1 c_62 | exact fun h => c_73 h.2.2, rfl⟩)))⟩) dX1_receive_93
      · refine lv_aload_n hx hb dX1_receive_33 rfl (lv_at hl 0 rfl) ?_
        refine lv_aload_n hx hb dX1_receive_34 rfl (lv_at hl 1 rfl) ?_
        refine lv_iconst (v := 2) hx hb dX1_receive_35 (by decide) ?_
        refine g_callV (As := [.ref _, .int _]) (rest := []) hC hU hP hS hl.1 (c_X1_counts l N0 D cy _ _ _ _ _ ha hm) mL_X1_74 iM_X1_counts sL_X1_counts iN_X1 cD_X1_counts ⟨by decide, by decide, rfl⟩ ⟨by decide, by decide⟩ ⟨by decide, by decide⟩ (ci := 1) rfl (by decide) (ha) rfl (Nat.le_of_ble_eq_true rfl) dX1_receive_36 (fun v S1 H locs hw hP hz hS => ?_)
        obtain ⟨rfl, hS1, hz2⟩ := hw
        replace hS1 := hS1.symm
        subst hS1
        replace hsz := hz2.trans hsz
        refine lv_if_eq (tgt := 50) hx hb dX1_receive_39 (by decide) (fun c_39 => ?_) (fun c_39 => ?_)
        · refine lv_aload_n hx hb dX1_receive_50 rfl (lv_at hl 1 rfl) ?_
          refine gt_X1_69 hC hP (hm) dX1_receive_51 ?_
          refine lv_iconst (v := 4) hx hb dX1_receive_54 (by decide) ?_
          refine lv_icmp_ne (tgt := 93) hx hb dX1_receive_55 (by decide) (fun c_55 => ?_) (fun c_55 => ?_)
          · exact g_vret hC hP hS hr hlk (by decide) (by decide) (⟨rfl, hsz, by first | exact Or.inl ⟨c_5, cnt1 c_14, rfl⟩ | exact Or.inr (Or.inr (Or.inr (Or.inl ⟨c_55, c_62, c_73, rfl⟩))) | (rcases hcy with ⟨h1, h2⟩ | ⟨h1, h2⟩; exact Or.inr (Or.inl ⟨c_30, cnt1 c_39, h1, h2⟩); exact Or.inr (Or.inr (Or.inl ⟨c_30, cnt1 c_39, h1, h2⟩))) | exact Or.inr (Or.inr (Or.inr (Or.inr ⟨by first | exact fun h => c_5 h.1 | exact fun h => cnt0 c_14 h.2, by first | exact fun h => c_30 h.1 | exact fun h => cnt0 c_39 h.2, by first | exact fun h => c_55 h.1 | exact fun h => h.2.1 c_62 | exact fun h => c_73 h.2.2, rfl⟩)))⟩) dX1_receive_93
          · refine lv_aload_n hx hb dX1_receive_58 rfl (lv_at hl 0 rfl) ?_
            refine gt_X1_9 hC hP (ha) dX1_receive_59 ?_
            refine lv_if_eq (tgt := 93) hx hb dX1_receive_62 (by decide) (fun c_62 => ?_) (fun c_62 => ?_)
            · exact g_vret hC hP hS hr hlk (by decide) (by decide) (⟨rfl, hsz, by first | exact Or.inl ⟨c_5, cnt1 c_14, rfl⟩ | exact Or.inr (Or.inr (Or.inr (Or.inl ⟨c_55, c_62, c_73, rfl⟩))) | (rcases hcy with ⟨h1, h2⟩ | ⟨h1, h2⟩; exact Or.inr (Or.inl ⟨c_30, cnt1 c_39, h1, h2⟩); exact Or.inr (Or.inr (Or.inl ⟨c_30, cnt1 c_39, h1, h2⟩))) | exact Or.inr (Or.inr (Or.inr (Or.inr ⟨by first | exact fun h => c_5 h.1 | exact fun h => cnt0 c_14 h.2, by first | exact fun h => c_30 h.1 | exact fun h => cnt0 c_39 h.2, by first | exact fun h => c_55 h.1 | exact fun h => h.2.1 c_62 | exact fun h => c_73 h.2.2, rfl⟩)))⟩) dX1_receive_93
            · refine lv_aload_n hx hb dX1_receive_65 rfl (lv_at hl 1 rfl) ?_
              refine gt_X1_89 hC hP (hm) dX1_receive_66 ?_
              refine lv_aload_n hx hb dX1_receive_69 rfl (lv_at hl 0 rfl) ?_
              refine gt_X1_50 hC hP (ha) dX1_receive_70 ?_
              refine lv_icmp_ne (tgt := 93) hx hb dX1_receive_73 (by decide) (fun c_73 => ?_) (fun c_73 => ?_)
              · exact g_vret hC hP hS hr hlk (by decide) (by decide) (⟨rfl, hsz, by first | exact Or.inl ⟨c_5, cnt1 c_14, rfl⟩ | exact Or.inr (Or.inr (Or.inr (Or.inl ⟨c_55, c_62, c_73, rfl⟩))) | (rcases hcy with ⟨h1, h2⟩ | ⟨h1, h2⟩; exact Or.inr (Or.inl ⟨c_30, cnt1 c_39, h1, h2⟩); exact Or.inr (Or.inr (Or.inl ⟨c_30, cnt1 c_39, h1, h2⟩))) | exact Or.inr (Or.inr (Or.inr (Or.inr ⟨by first | exact fun h => c_5 h.1 | exact fun h => cnt0 c_14 h.2, by first | exact fun h => c_30 h.1 | exact fun h => cnt0 c_39 h.2, by first | exact fun h => c_55 h.1 | exact fun h => h.2.1 c_62 | exact fun h => c_73 h.2.2, rfl⟩)))⟩) dX1_receive_93
              · refine lv_aload_n hx hb dX1_receive_76 rfl (lv_at hl 0 rfl) ?_
                refine lv_aload_n hx hb dX1_receive_77 rfl (lv_at hl 1 rfl) ?_
                refine gt_X1_90 hC hP (hm) dX1_receive_78 ?_
                refine lv_bipush (v := 8) hx hb dX1_receive_81 (by decide) ?_
                refine lv_idiv hx hb dX1_receive_83 (by decide) ?_
                refine lv_iconst (v := 1) hx hb dX1_receive_84 (by decide) ?_
                refine lv_iadd hx hb dX1_receive_85 ?_
                refine pt_X1_41 hC hP hS (ha) dX1_receive_86 (fun H locs hP hz hS => ?_)
                replace hsz := hz.trans hsz
                refine lv_aload_n hx hb dX1_receive_89 rfl (lv_at hl 0 rfl) ?_
                refine g_callV (As := []) (rest := []) hC hU hP hS hl.1 (c_X1_fail l N0 D cy _ _ _ (kI ha)) mL_X1_93 iM_X1_fail sL_X1_fail iN_X1 cD_X1_fail ⟨by decide, by decide, rfl⟩ ⟨by decide, by decide⟩ ⟨by decide, by decide⟩ (ci := 1) rfl (by decide) (kI (ha)) rfl (Nat.le_of_ble_eq_true rfl) dX1_receive_90 (fun v S1 H locs hw hP hz hS => ?_)
                obtain ⟨rfl, hS1, hz2⟩ := hw
                replace hS1 := hS1.symm
                subst hS1
                replace hsz := hz2.trans hsz
                exact g_vret hC hP hS hr hlk (by decide) (by decide) (⟨rfl, hsz, by first | exact Or.inl ⟨c_5, cnt1 c_14, rfl⟩ | exact Or.inr (Or.inr (Or.inr (Or.inl ⟨c_55, c_62, c_73, rfl⟩))) | (rcases hcy with ⟨h1, h2⟩ | ⟨h1, h2⟩; exact Or.inr (Or.inl ⟨c_30, cnt1 c_39, h1, h2⟩); exact Or.inr (Or.inr (Or.inl ⟨c_30, cnt1 c_39, h1, h2⟩))) | exact Or.inr (Or.inr (Or.inr (Or.inr ⟨by first | exact fun h => c_5 h.1 | exact fun h => cnt0 c_14 h.2, by first | exact fun h => c_30 h.1 | exact fun h => cnt0 c_39 h.2, by first | exact fun h => c_55 h.1 | exact fun h => h.2.1 c_62 | exact fun h => c_73 h.2.2, rfl⟩)))⟩) dX1_receive_93
        · refine lv_aload_n hx hb dX1_receive_42 rfl (lv_at hl 0 rfl) ?_
          refine lv_aload_n hx hb dX1_receive_43 rfl (lv_at hl 1 rfl) ?_
          refine g_callV (As := [.ref _]) (rest := []) hC hU hP hS hl.1 (c_X1_countYes l N0 D cy _ _ a lt w0 ha hm (hw9 (cnt1 c_39).1)) mL_X1_86 iM_X1_countYes sL_X1_countYes iN_X1 cD_X1_countYes ⟨by decide, by decide, rfl⟩ ⟨by decide, by decide⟩ ⟨by decide, by decide⟩ (ci := 1) rfl (by decide) (ha) rfl (Nat.le_of_ble_eq_true rfl) dX1_receive_44 (fun v S1 H locs hw hP hz hS => ?_)
          obtain ⟨rfl, hz2, hcy⟩ := hw
          replace hsz := hz2.trans hsz
          refine lv_goto (tgt := 93) hx hb dX1_receive_47 (by decide) ?_
          exact g_vret hC hP hS hr hlk (by decide) (by decide) (⟨rfl, hsz, by first | exact Or.inl ⟨c_5, cnt1 c_14, rfl⟩ | exact Or.inr (Or.inr (Or.inr (Or.inl ⟨c_55, c_62, c_73, rfl⟩))) | (rcases hcy with ⟨h1, h2⟩ | ⟨h1, h2⟩; exact Or.inr (Or.inl ⟨c_30, cnt1 c_39, h1, h2⟩); exact Or.inr (Or.inr (Or.inl ⟨c_30, cnt1 c_39, h1, h2⟩))) | exact Or.inr (Or.inr (Or.inr (Or.inr ⟨by first | exact fun h => c_5 h.1 | exact fun h => cnt0 c_14 h.2, by first | exact fun h => c_30 h.1 | exact fun h => cnt0 c_39 h.2, by first | exact fun h => c_55 h.1 | exact fun h => h.2.1 c_62 | exact fun h => c_73 h.2.2, rfl⟩)))⟩) dX1_receive_93
    · refine lv_aload_n hx hb dX1_receive_17 rfl (lv_at hl 0 rfl) ?_
      refine lv_aload_n hx hb dX1_receive_18 rfl (lv_at hl 1 rfl) ?_
      refine g_callV (As := [.ref _]) (rest := []) hC hU hP hS hl.1 (c_X1_countPromise l N0 D cy _ _ a sa lt rl f g ha hm hsa hsak hsan hrl hrlk hrln hf hg hsr) mL_X1_82 iM_X1_countPromise sL_X1_countPromise iN_X1 cD_X1_countPromise ⟨by decide, by decide, rfl⟩ ⟨by decide, by decide⟩ ⟨by decide, by decide⟩ (ci := 1) rfl (by decide) (ha) rfl (Nat.le_of_ble_eq_true rfl) dX1_receive_19 (fun v S1 H locs hw hP hz hS => ?_)
      obtain ⟨rfl, hS1, hz2⟩ := hw
      replace hS1 := hS1.symm
      subst hS1
      replace hsz := hz2.trans hsz
      refine lv_goto (tgt := 93) hx hb dX1_receive_22 (by decide) ?_
      exact g_vret hC hP hS hr hlk (by decide) (by decide) (⟨rfl, hsz, by first | exact Or.inl ⟨c_5, cnt1 c_14, rfl⟩ | exact Or.inr (Or.inr (Or.inr (Or.inl ⟨c_55, c_62, c_73, rfl⟩))) | (rcases hcy with ⟨h1, h2⟩ | ⟨h1, h2⟩; exact Or.inr (Or.inl ⟨c_30, cnt1 c_39, h1, h2⟩); exact Or.inr (Or.inr (Or.inl ⟨c_30, cnt1 c_39, h1, h2⟩))) | exact Or.inr (Or.inr (Or.inr (Or.inr ⟨by first | exact fun h => c_5 h.1 | exact fun h => cnt0 c_14 h.2, by first | exact fun h => c_30 h.1 | exact fun h => cnt0 c_39 h.2, by first | exact fun h => c_55 h.1 | exact fun h => h.2.1 c_62 | exact fun h => c_73 h.2.2, rfl⟩)))⟩) dX1_receive_93

def mxl (x y : Int64) : Int64 := if y < x then x else y
/-- time and counter of the next n numbers -/
def gvA (S : gS) (a h : Nat) (n : Int32) : Int64 × Int32 :=
  let t := mxl (mxl (gJ S a 2) (gJ S h 1)) (gJ S a 12)
  let c := if t = gJ S a 12 then gI S a 13 + 1 else 0
  if c + n ≤ 1024 then (t, c) else (t + 1, 0)
def gvN (S : gS) (h : Nat) (q : Int64 × Int32) : Int64 := (q.1 <<< ((23 : Int32).toInt64 &&& 63)) + ((gI S h 0).toInt64 <<< ((10 : Int32).toInt64 &&& 63)) + q.2.toInt64
def cGive (S : gS) (a h r0 : Nat) (n : Int32) (v : Option Value) (S1 : gS) : Prop := if gJ S r0 3 < (gvA S a h n).1 ∨ gJ S a 2 + 5000 < (gvA S a h n).1 then v = some (.long 0) ∧ S1 = S else v = some (.long (gvN S h (gvA S a h n))) ∧ S1 = sJ (sI (sJ S a 12 (gvA S a h n).1) a 13 ((gvA S a h n).2 + n - 1)) a 14 (gJ S a 14 + n.toInt64)
theorem gvA_1 {S : gS} {a h : Nat} {n : Int32} (h1 : mxl (mxl (gJ S a 2) (gJ S h 1)) (gJ S a 12) = gJ S a 12) (h2 : gI S a 13 + 1 + n ≤ 1024) : gvA S a h n = (mxl (mxl (gJ S a 2) (gJ S h 1)) (gJ S a 12), gI S a 13 + 1) := by
  unfold gvA; simp only [if_pos h1, if_pos h2]
theorem gvA_2 {S : gS} {a h : Nat} {n : Int32} (h1 : mxl (mxl (gJ S a 2) (gJ S h 1)) (gJ S a 12) = gJ S a 12) (h2 : ¬ gI S a 13 + 1 + n ≤ 1024) : gvA S a h n = (mxl (mxl (gJ S a 2) (gJ S h 1)) (gJ S a 12) + 1, 0) := by
  unfold gvA; simp only [if_pos h1, if_neg h2]
theorem gvA_3 {S : gS} {a h : Nat} {n : Int32} (h1 : ¬ mxl (mxl (gJ S a 2) (gJ S h 1)) (gJ S a 12) = gJ S a 12) (h2 : 0 + n ≤ 1024) : gvA S a h n = (mxl (mxl (gJ S a 2) (gJ S h 1)) (gJ S a 12), 0) := by
  unfold gvA; simp only [if_neg h1, if_pos h2]
theorem gvA_4 {S : gS} {a h : Nat} {n : Int32} (h1 : ¬ mxl (mxl (gJ S a 2) (gJ S h 1)) (gJ S a 12) = gJ S a 12) (h2 : ¬ 0 + n ≤ 1024) : gvA S a h n = (mxl (mxl (gJ S a 2) (gJ S h 1)) (gJ S a 12) + 1, 0) := by
  unfold gvA; simp only [if_neg h1, if_neg h2]
set_option maxRecDepth 100000 in
set_option maxHeartbeats 4000000 in
theorem c_X1_give0 (l : Launch) (N0 : Nat) (D : va_G) (cy : Nat → ClassId) (S : gS) (sz : Nat) (a : Nat) (n : Int32) (ha : gK S a = 2) (hh : gR S a 11 = none) : gM l yX1_give cX1_give 5 (some FieldType.long) { frames := 1, cells := 0, slots := 0, locals := 20 } N0 D cy [.ref a, .int n] S sz (fun v S1 z => v = some (.long 0) ∧ S1 = S ∧ z = sz) := by
  refine g_body (by decide) rfl (Nat.le_of_ble_eq_true rfl) ?_
  intro p e s m args below meth c ls hC hU hr hlk hnm hsz hP hS hl
  have hx := hC.1
  have hb := hC.2.1
  refine lv_aload_n hx hb dX1_give_0 rfl (lv_at hl 0 rfl) ?_
  refine gq_X1_34 hC hP (ha) dX1_give_1 (fun q_1 => ?_) (fun b_1 q_1 => ?_)
  · refine lv_ifnonnullN hx hb dX1_give_4 ?_
    refine lv_lconst (v := 0) hx hb dX1_give_7 rfl ?_
    exact g_lret hC hP hS hr hlk (by decide) (by decide) (⟨rfl, rfl, hsz⟩) dX1_give_8
  · refine lv_ifnonnull (tgt := 9) hx hb dX1_give_4 (by decide) ?_
    rw [hh] at q_1; cases q_1

set_option maxRecDepth 100000 in
set_option maxHeartbeats 4000000 in
theorem c_X1_give1 (l : Launch) (N0 : Nat) (D : va_G) (cy : Nat → ClassId) (S : gS) (sz : Nat) (a h r0 : Nat) (n : Int32) (ha : gK S a = 2) (hh : gR S a 11 = some h) (hhk : gK S h = 1) (hr0 : gR S h 2 = some r0) (hr0k : gK S r0 = 6) : gM l yX1_give cX1_give 5 (some FieldType.long) { frames := 1, cells := 0, slots := 0, locals := 20 } N0 D cy [.ref a, .int n] S sz (fun v S1 z => z = sz ∧ cGive S a h r0 n v S1) := by
  refine g_body (by decide) rfl (Nat.le_of_ble_eq_true rfl) ?_
  intro p e s m args below meth c ls hC hU hr hlk hnm hsz hP hS hl
  have hx := hC.1
  have hb := hC.2.1
  refine lv_aload_n hx hb dX1_give_0 rfl (lv_at hl 0 rfl) ?_
  refine gt_X1_34 hC hP (ha) (hh) dX1_give_1 ?_
  refine lv_ifnonnull (tgt := 9) hx hb dX1_give_4 (by decide) ?_
  refine lv_aload_n hx hb dX1_give_9 rfl (lv_at hl 0 rfl) ?_
  refine gt_X1_121 hC hP (ha) dX1_give_10 ?_
  refine lv_aload_n hx hb dX1_give_13 rfl (lv_at hl 0 rfl) ?_
  refine gt_X1_34 hC hP (ha) (hh) dX1_give_14 ?_
  refine gt_X1_153 hC hP (hhk) dX1_give_17 ?_
  refine g_maxl hC hl.1 mL_X1_127 (by decide) (Nat.le_of_ble_eq_true rfl) (by decide) (by decide) dX1_give_20 ?_
  refine lv_aload_n hx hb dX1_give_23 rfl (lv_at hl 0 rfl) ?_
  refine gt_X1_23 hC hP (ha) dX1_give_24 ?_
  refine g_maxl hC hl.1 mL_X1_127 (by decide) (Nat.le_of_ble_eq_true rfl) (by decide) (by decide) dX1_give_27 ?_
  refine lv_lstore_n (lv' := [(2, .long _), (0, .ref _), (1, .int _)]) hx hb dX1_give_30 rfl hl (by decide) rfl (fun ls hl => ?_)
  refine lv_lload_n hx hb dX1_give_31 rfl (lv_at hl 0 rfl) ?_
  refine lv_aload_n hx hb dX1_give_32 rfl (lv_at hl 1 rfl) ?_
  refine gt_X1_23 hC hP (ha) dX1_give_33 ?_
  refine W.lcmp hx hb dX1_give_36 ?_
  refine lv_if_ne (tgt := 49) hx hb dX1_give_37 (by decide) (fun c_37 => ?_) (fun c_37 => ?_)
  · replace c_37 := fun h => c_37 (lc_eq.mpr h)
    refine lv_iconst (v := 0) hx hb dX1_give_49 (by decide) ?_
    refine lv_istore (lv' := [(4, .int _), (2, .long _), (0, .ref _), (1, .int _)]) hx hb dX1_give_50 hl (by decide) rfl (fun ls hl => ?_)
    refine lv_iload hx hb dX1_give_52 (lv_at hl 0 rfl) ?_
    refine lv_iload_n hx hb dX1_give_54 rfl (lv_at hl 3 rfl) ?_
    refine lv_iadd hx hb dX1_give_55 ?_
    refine lv_sipush (v := 1024) hx hb dX1_give_56 (by decide) ?_
    refine lv_icmp_le (tgt := 69) hx hb dX1_give_59 (by decide) (fun c_59 => ?_) (fun c_59 => ?_)
    · refine lv_lload_n hx hb dX1_give_69 rfl (lv_at hl 1 rfl) ?_
      refine lv_aload_n hx hb dX1_give_70 rfl (lv_at hl 2 rfl) ?_
      refine gt_X1_34 hC hP (ha) (hh) dX1_give_71 ?_
      refine gt_X1_134 hC hP (hhk) (hr0) dX1_give_74 ?_
      refine gt_X1_124 hC hP (hr0k) dX1_give_77 ?_
      refine W.lcmp hx hb dX1_give_80 ?_
      refine lv_if_gt (tgt := 97) hx hb dX1_give_81 (by decide) (fun c_81 => ?_) (fun c_81 => ?_)
      · replace c_81 := lc_gt.mp c_81
        refine lv_lconst (v := 0) hx hb dX1_give_97 rfl ?_
        exact g_lret hC hP hS hr hlk (by decide) (by decide) (⟨hsz, by unfold cGive; (first | rw [gvA_1 c_37 c_59] | rw [gvA_2 c_37 c_59] | rw [gvA_3 c_37 c_59] | rw [gvA_4 c_37 c_59]); rw [if_pos (by first | exact Or.inl c_81 | exact Or.inr (Int64.not_le.mp c_94))]; exact ⟨rfl, rfl⟩⟩) dX1_give_98
      · replace c_81 := fun h => c_81 (lc_gt.mpr h)
        refine lv_lload_n hx hb dX1_give_84 rfl (lv_at hl 1 rfl) ?_
        refine lv_aload_n hx hb dX1_give_85 rfl (lv_at hl 2 rfl) ?_
        refine gt_X1_121 hC hP (ha) dX1_give_86 ?_
        refine lv_ldc2 hx hb hC.2.2.2.1 (hC.2.2.2.2.1 _ kJ_X1_156) dX1_give_89 ?_
        refine lv_ladd hx hb dX1_give_92 ?_
        refine W.lcmp hx hb dX1_give_93 ?_
        refine lv_if_le (tgt := 99) hx hb dX1_give_94 (by decide) (fun c_94 => ?_) (fun c_94 => ?_)
        · replace c_94 := lc_le.mp c_94
          refine lv_aload_n hx hb dX1_give_99 rfl (lv_at hl 2 rfl) ?_
          refine lv_lload_n hx hb dX1_give_100 rfl (lv_at hl 1 rfl) ?_
          refine pt_X1_23 hC hP hS (ha) dX1_give_101 (fun H locs hP hz hS => ?_)
          replace hsz := hz.trans hsz
          refine lv_aload_n hx hb dX1_give_104 rfl (lv_at hl 2 rfl) ?_
          refine lv_iload hx hb dX1_give_105 (lv_at hl 0 rfl) ?_
          refine lv_iload_n hx hb dX1_give_107 rfl (lv_at hl 3 rfl) ?_
          refine lv_iadd hx hb dX1_give_108 ?_
          refine lv_iconst (v := 1) hx hb dX1_give_109 (by decide) ?_
          refine lv_isub hx hb dX1_give_110 ?_
          refine pt_X1_66 hC hP hS (kJ (ha)) dX1_give_111 (fun H locs hP hz hS => ?_)
          replace hsz := hz.trans hsz
          refine lv_aload_n hx hb dX1_give_114 rfl (lv_at hl 2 rfl) ?_
          refine lv_dup hx hb dX1_give_115 rfl ?_
          refine gt_X1_158 hC hP (kI (kJ (ha))) dX1_give_116 ?_
          refine lv_iload_n hx hb dX1_give_119 rfl (lv_at hl 3 rfl) ?_
          refine lv_i2l hx hb dX1_give_120 rfl ?_
          refine lv_ladd hx hb dX1_give_121 ?_
          refine pt_X1_158 hC hP hS (kI (kJ (ha))) dX1_give_122 (fun H locs hP hz hS => ?_)
          replace hsz := hz.trans hsz
          rw [gJ_sI, gJ_k (k := 12) (j := 14) (by decide)] at hP
          refine lv_lload_n hx hb dX1_give_125 rfl (lv_at hl 1 rfl) ?_
          refine lv_bipush (v := 23) hx hb dX1_give_126 (by decide) ?_
          refine lv_lshl hx hb dX1_give_128 rfl ?_
          refine lv_aload_n hx hb dX1_give_129 rfl (lv_at hl 2 rfl) ?_
          refine gt_X1_34 hC hP (kJ (kI (kJ (ha)))) (rJ (rI (rJ (hh)))) dX1_give_130 ?_
          refine gt_X1_112 hC hP (kJ (kI (kJ (hhk)))) dX1_give_133 ?_
          refine lv_i2l hx hb dX1_give_136 rfl ?_
          refine lv_bipush (v := 10) hx hb dX1_give_137 (by decide) ?_
          refine lv_lshl hx hb dX1_give_139 rfl ?_
          refine lv_ladd hx hb dX1_give_140 ?_
          refine lv_iload hx hb dX1_give_141 (lv_at hl 0 rfl) ?_
          refine lv_i2l hx hb dX1_give_143 rfl ?_
          refine lv_ladd hx hb dX1_give_144 ?_
          exact g_lret hC hP hS hr hlk (by decide) (by decide) (⟨hsz, by unfold cGive; (first | rw [gvA_1 c_37 c_59] | rw [gvA_2 c_37 c_59] | rw [gvA_3 c_37 c_59] | rw [gvA_4 c_37 c_59]); rw [if_neg (by rintro (h9 | h9); exact c_81 h9; exact absurd c_94 (Int64.not_le.mpr h9))]; exact ⟨rfl, rfl⟩⟩) dX1_give_145
        · replace c_94 := fun h => c_94 (lc_le.mpr h)
          refine lv_lconst (v := 0) hx hb dX1_give_97 rfl ?_
          exact g_lret hC hP hS hr hlk (by decide) (by decide) (⟨hsz, by unfold cGive; (first | rw [gvA_1 c_37 c_59] | rw [gvA_2 c_37 c_59] | rw [gvA_3 c_37 c_59] | rw [gvA_4 c_37 c_59]); rw [if_pos (by first | exact Or.inl c_81 | exact Or.inr (Int64.not_le.mp c_94))]; exact ⟨rfl, rfl⟩⟩) dX1_give_98
    · refine lv_lload_n hx hb dX1_give_62 rfl (lv_at hl 1 rfl) ?_
      refine lv_lconst (v := 1) hx hb dX1_give_63 rfl ?_
      refine lv_ladd hx hb dX1_give_64 ?_
      refine lv_lstore_n (lv' := [(2, .long _), (4, .int _), (0, .ref _), (1, .int _)]) hx hb dX1_give_65 rfl hl (by decide) rfl (fun ls hl => ?_)
      refine lv_iconst (v := 0) hx hb dX1_give_66 (by decide) ?_
      refine lv_istore (lv' := [(4, .int _), (2, .long _), (0, .ref _), (1, .int _)]) hx hb dX1_give_67 hl (by decide) rfl (fun ls hl => ?_)
      refine lv_lload_n hx hb dX1_give_69 rfl (lv_at hl 1 rfl) ?_
      refine lv_aload_n hx hb dX1_give_70 rfl (lv_at hl 2 rfl) ?_
      refine gt_X1_34 hC hP (ha) (hh) dX1_give_71 ?_
      refine gt_X1_134 hC hP (hhk) (hr0) dX1_give_74 ?_
      refine gt_X1_124 hC hP (hr0k) dX1_give_77 ?_
      refine W.lcmp hx hb dX1_give_80 ?_
      refine lv_if_gt (tgt := 97) hx hb dX1_give_81 (by decide) (fun c_81 => ?_) (fun c_81 => ?_)
      · replace c_81 := lc_gt.mp c_81
        refine lv_lconst (v := 0) hx hb dX1_give_97 rfl ?_
        exact g_lret hC hP hS hr hlk (by decide) (by decide) (⟨hsz, by unfold cGive; (first | rw [gvA_1 c_37 c_59] | rw [gvA_2 c_37 c_59] | rw [gvA_3 c_37 c_59] | rw [gvA_4 c_37 c_59]); rw [if_pos (by first | exact Or.inl c_81 | exact Or.inr (Int64.not_le.mp c_94))]; exact ⟨rfl, rfl⟩⟩) dX1_give_98
      · replace c_81 := fun h => c_81 (lc_gt.mpr h)
        refine lv_lload_n hx hb dX1_give_84 rfl (lv_at hl 1 rfl) ?_
        refine lv_aload_n hx hb dX1_give_85 rfl (lv_at hl 2 rfl) ?_
        refine gt_X1_121 hC hP (ha) dX1_give_86 ?_
        refine lv_ldc2 hx hb hC.2.2.2.1 (hC.2.2.2.2.1 _ kJ_X1_156) dX1_give_89 ?_
        refine lv_ladd hx hb dX1_give_92 ?_
        refine W.lcmp hx hb dX1_give_93 ?_
        refine lv_if_le (tgt := 99) hx hb dX1_give_94 (by decide) (fun c_94 => ?_) (fun c_94 => ?_)
        · replace c_94 := lc_le.mp c_94
          refine lv_aload_n hx hb dX1_give_99 rfl (lv_at hl 2 rfl) ?_
          refine lv_lload_n hx hb dX1_give_100 rfl (lv_at hl 1 rfl) ?_
          refine pt_X1_23 hC hP hS (ha) dX1_give_101 (fun H locs hP hz hS => ?_)
          replace hsz := hz.trans hsz
          refine lv_aload_n hx hb dX1_give_104 rfl (lv_at hl 2 rfl) ?_
          refine lv_iload hx hb dX1_give_105 (lv_at hl 0 rfl) ?_
          refine lv_iload_n hx hb dX1_give_107 rfl (lv_at hl 3 rfl) ?_
          refine lv_iadd hx hb dX1_give_108 ?_
          refine lv_iconst (v := 1) hx hb dX1_give_109 (by decide) ?_
          refine lv_isub hx hb dX1_give_110 ?_
          refine pt_X1_66 hC hP hS (kJ (ha)) dX1_give_111 (fun H locs hP hz hS => ?_)
          replace hsz := hz.trans hsz
          refine lv_aload_n hx hb dX1_give_114 rfl (lv_at hl 2 rfl) ?_
          refine lv_dup hx hb dX1_give_115 rfl ?_
          refine gt_X1_158 hC hP (kI (kJ (ha))) dX1_give_116 ?_
          refine lv_iload_n hx hb dX1_give_119 rfl (lv_at hl 3 rfl) ?_
          refine lv_i2l hx hb dX1_give_120 rfl ?_
          refine lv_ladd hx hb dX1_give_121 ?_
          refine pt_X1_158 hC hP hS (kI (kJ (ha))) dX1_give_122 (fun H locs hP hz hS => ?_)
          replace hsz := hz.trans hsz
          rw [gJ_sI, gJ_k (k := 12) (j := 14) (by decide)] at hP
          refine lv_lload_n hx hb dX1_give_125 rfl (lv_at hl 1 rfl) ?_
          refine lv_bipush (v := 23) hx hb dX1_give_126 (by decide) ?_
          refine lv_lshl hx hb dX1_give_128 rfl ?_
          refine lv_aload_n hx hb dX1_give_129 rfl (lv_at hl 2 rfl) ?_
          refine gt_X1_34 hC hP (kJ (kI (kJ (ha)))) (rJ (rI (rJ (hh)))) dX1_give_130 ?_
          refine gt_X1_112 hC hP (kJ (kI (kJ (hhk)))) dX1_give_133 ?_
          refine lv_i2l hx hb dX1_give_136 rfl ?_
          refine lv_bipush (v := 10) hx hb dX1_give_137 (by decide) ?_
          refine lv_lshl hx hb dX1_give_139 rfl ?_
          refine lv_ladd hx hb dX1_give_140 ?_
          refine lv_iload hx hb dX1_give_141 (lv_at hl 0 rfl) ?_
          refine lv_i2l hx hb dX1_give_143 rfl ?_
          refine lv_ladd hx hb dX1_give_144 ?_
          exact g_lret hC hP hS hr hlk (by decide) (by decide) (⟨hsz, by unfold cGive; (first | rw [gvA_1 c_37 c_59] | rw [gvA_2 c_37 c_59] | rw [gvA_3 c_37 c_59] | rw [gvA_4 c_37 c_59]); rw [if_neg (by rintro (h9 | h9); exact c_81 h9; exact absurd c_94 (Int64.not_le.mpr h9))]; exact ⟨rfl, rfl⟩⟩) dX1_give_145
        · replace c_94 := fun h => c_94 (lc_le.mpr h)
          refine lv_lconst (v := 0) hx hb dX1_give_97 rfl ?_
          exact g_lret hC hP hS hr hlk (by decide) (by decide) (⟨hsz, by unfold cGive; (first | rw [gvA_1 c_37 c_59] | rw [gvA_2 c_37 c_59] | rw [gvA_3 c_37 c_59] | rw [gvA_4 c_37 c_59]); rw [if_pos (by first | exact Or.inl c_81 | exact Or.inr (Int64.not_le.mp c_94))]; exact ⟨rfl, rfl⟩⟩) dX1_give_98
  · replace c_37 := lc_eq.mp c_37
    refine lv_aload_n hx hb dX1_give_40 rfl (lv_at hl 1 rfl) ?_
    refine gt_X1_66 hC hP (ha) dX1_give_41 ?_
    refine lv_iconst (v := 1) hx hb dX1_give_44 (by decide) ?_
    refine lv_iadd hx hb dX1_give_45 ?_
    refine lv_goto (tgt := 50) hx hb dX1_give_46 (by decide) ?_
    refine lv_istore (lv' := [(4, .int _), (2, .long _), (0, .ref _), (1, .int _)]) hx hb dX1_give_50 hl (by decide) rfl (fun ls hl => ?_)
    refine lv_iload hx hb dX1_give_52 (lv_at hl 0 rfl) ?_
    refine lv_iload_n hx hb dX1_give_54 rfl (lv_at hl 3 rfl) ?_
    refine lv_iadd hx hb dX1_give_55 ?_
    refine lv_sipush (v := 1024) hx hb dX1_give_56 (by decide) ?_
    refine lv_icmp_le (tgt := 69) hx hb dX1_give_59 (by decide) (fun c_59 => ?_) (fun c_59 => ?_)
    · refine lv_lload_n hx hb dX1_give_69 rfl (lv_at hl 1 rfl) ?_
      refine lv_aload_n hx hb dX1_give_70 rfl (lv_at hl 2 rfl) ?_
      refine gt_X1_34 hC hP (ha) (hh) dX1_give_71 ?_
      refine gt_X1_134 hC hP (hhk) (hr0) dX1_give_74 ?_
      refine gt_X1_124 hC hP (hr0k) dX1_give_77 ?_
      refine W.lcmp hx hb dX1_give_80 ?_
      refine lv_if_gt (tgt := 97) hx hb dX1_give_81 (by decide) (fun c_81 => ?_) (fun c_81 => ?_)
      · replace c_81 := lc_gt.mp c_81
        refine lv_lconst (v := 0) hx hb dX1_give_97 rfl ?_
        exact g_lret hC hP hS hr hlk (by decide) (by decide) (⟨hsz, by unfold cGive; (first | rw [gvA_1 c_37 c_59] | rw [gvA_2 c_37 c_59] | rw [gvA_3 c_37 c_59] | rw [gvA_4 c_37 c_59]); rw [if_pos (by first | exact Or.inl c_81 | exact Or.inr (Int64.not_le.mp c_94))]; exact ⟨rfl, rfl⟩⟩) dX1_give_98
      · replace c_81 := fun h => c_81 (lc_gt.mpr h)
        refine lv_lload_n hx hb dX1_give_84 rfl (lv_at hl 1 rfl) ?_
        refine lv_aload_n hx hb dX1_give_85 rfl (lv_at hl 2 rfl) ?_
        refine gt_X1_121 hC hP (ha) dX1_give_86 ?_
        refine lv_ldc2 hx hb hC.2.2.2.1 (hC.2.2.2.2.1 _ kJ_X1_156) dX1_give_89 ?_
        refine lv_ladd hx hb dX1_give_92 ?_
        refine W.lcmp hx hb dX1_give_93 ?_
        refine lv_if_le (tgt := 99) hx hb dX1_give_94 (by decide) (fun c_94 => ?_) (fun c_94 => ?_)
        · replace c_94 := lc_le.mp c_94
          refine lv_aload_n hx hb dX1_give_99 rfl (lv_at hl 2 rfl) ?_
          refine lv_lload_n hx hb dX1_give_100 rfl (lv_at hl 1 rfl) ?_
          refine pt_X1_23 hC hP hS (ha) dX1_give_101 (fun H locs hP hz hS => ?_)
          replace hsz := hz.trans hsz
          refine lv_aload_n hx hb dX1_give_104 rfl (lv_at hl 2 rfl) ?_
          refine lv_iload hx hb dX1_give_105 (lv_at hl 0 rfl) ?_
          refine lv_iload_n hx hb dX1_give_107 rfl (lv_at hl 3 rfl) ?_
          refine lv_iadd hx hb dX1_give_108 ?_
          refine lv_iconst (v := 1) hx hb dX1_give_109 (by decide) ?_
          refine lv_isub hx hb dX1_give_110 ?_
          refine pt_X1_66 hC hP hS (kJ (ha)) dX1_give_111 (fun H locs hP hz hS => ?_)
          replace hsz := hz.trans hsz
          refine lv_aload_n hx hb dX1_give_114 rfl (lv_at hl 2 rfl) ?_
          refine lv_dup hx hb dX1_give_115 rfl ?_
          refine gt_X1_158 hC hP (kI (kJ (ha))) dX1_give_116 ?_
          refine lv_iload_n hx hb dX1_give_119 rfl (lv_at hl 3 rfl) ?_
          refine lv_i2l hx hb dX1_give_120 rfl ?_
          refine lv_ladd hx hb dX1_give_121 ?_
          refine pt_X1_158 hC hP hS (kI (kJ (ha))) dX1_give_122 (fun H locs hP hz hS => ?_)
          replace hsz := hz.trans hsz
          rw [gJ_sI, gJ_k (k := 12) (j := 14) (by decide)] at hP
          refine lv_lload_n hx hb dX1_give_125 rfl (lv_at hl 1 rfl) ?_
          refine lv_bipush (v := 23) hx hb dX1_give_126 (by decide) ?_
          refine lv_lshl hx hb dX1_give_128 rfl ?_
          refine lv_aload_n hx hb dX1_give_129 rfl (lv_at hl 2 rfl) ?_
          refine gt_X1_34 hC hP (kJ (kI (kJ (ha)))) (rJ (rI (rJ (hh)))) dX1_give_130 ?_
          refine gt_X1_112 hC hP (kJ (kI (kJ (hhk)))) dX1_give_133 ?_
          refine lv_i2l hx hb dX1_give_136 rfl ?_
          refine lv_bipush (v := 10) hx hb dX1_give_137 (by decide) ?_
          refine lv_lshl hx hb dX1_give_139 rfl ?_
          refine lv_ladd hx hb dX1_give_140 ?_
          refine lv_iload hx hb dX1_give_141 (lv_at hl 0 rfl) ?_
          refine lv_i2l hx hb dX1_give_143 rfl ?_
          refine lv_ladd hx hb dX1_give_144 ?_
          exact g_lret hC hP hS hr hlk (by decide) (by decide) (⟨hsz, by unfold cGive; (first | rw [gvA_1 c_37 c_59] | rw [gvA_2 c_37 c_59] | rw [gvA_3 c_37 c_59] | rw [gvA_4 c_37 c_59]); rw [if_neg (by rintro (h9 | h9); exact c_81 h9; exact absurd c_94 (Int64.not_le.mpr h9))]; exact ⟨rfl, rfl⟩⟩) dX1_give_145
        · replace c_94 := fun h => c_94 (lc_le.mpr h)
          refine lv_lconst (v := 0) hx hb dX1_give_97 rfl ?_
          exact g_lret hC hP hS hr hlk (by decide) (by decide) (⟨hsz, by unfold cGive; (first | rw [gvA_1 c_37 c_59] | rw [gvA_2 c_37 c_59] | rw [gvA_3 c_37 c_59] | rw [gvA_4 c_37 c_59]); rw [if_pos (by first | exact Or.inl c_81 | exact Or.inr (Int64.not_le.mp c_94))]; exact ⟨rfl, rfl⟩⟩) dX1_give_98
    · refine lv_lload_n hx hb dX1_give_62 rfl (lv_at hl 1 rfl) ?_
      refine lv_lconst (v := 1) hx hb dX1_give_63 rfl ?_
      refine lv_ladd hx hb dX1_give_64 ?_
      refine lv_lstore_n (lv' := [(2, .long _), (4, .int _), (0, .ref _), (1, .int _)]) hx hb dX1_give_65 rfl hl (by decide) rfl (fun ls hl => ?_)
      refine lv_iconst (v := 0) hx hb dX1_give_66 (by decide) ?_
      refine lv_istore (lv' := [(4, .int _), (2, .long _), (0, .ref _), (1, .int _)]) hx hb dX1_give_67 hl (by decide) rfl (fun ls hl => ?_)
      refine lv_lload_n hx hb dX1_give_69 rfl (lv_at hl 1 rfl) ?_
      refine lv_aload_n hx hb dX1_give_70 rfl (lv_at hl 2 rfl) ?_
      refine gt_X1_34 hC hP (ha) (hh) dX1_give_71 ?_
      refine gt_X1_134 hC hP (hhk) (hr0) dX1_give_74 ?_
      refine gt_X1_124 hC hP (hr0k) dX1_give_77 ?_
      refine W.lcmp hx hb dX1_give_80 ?_
      refine lv_if_gt (tgt := 97) hx hb dX1_give_81 (by decide) (fun c_81 => ?_) (fun c_81 => ?_)
      · replace c_81 := lc_gt.mp c_81
        refine lv_lconst (v := 0) hx hb dX1_give_97 rfl ?_
        exact g_lret hC hP hS hr hlk (by decide) (by decide) (⟨hsz, by unfold cGive; (first | rw [gvA_1 c_37 c_59] | rw [gvA_2 c_37 c_59] | rw [gvA_3 c_37 c_59] | rw [gvA_4 c_37 c_59]); rw [if_pos (by first | exact Or.inl c_81 | exact Or.inr (Int64.not_le.mp c_94))]; exact ⟨rfl, rfl⟩⟩) dX1_give_98
      · replace c_81 := fun h => c_81 (lc_gt.mpr h)
        refine lv_lload_n hx hb dX1_give_84 rfl (lv_at hl 1 rfl) ?_
        refine lv_aload_n hx hb dX1_give_85 rfl (lv_at hl 2 rfl) ?_
        refine gt_X1_121 hC hP (ha) dX1_give_86 ?_
        refine lv_ldc2 hx hb hC.2.2.2.1 (hC.2.2.2.2.1 _ kJ_X1_156) dX1_give_89 ?_
        refine lv_ladd hx hb dX1_give_92 ?_
        refine W.lcmp hx hb dX1_give_93 ?_
        refine lv_if_le (tgt := 99) hx hb dX1_give_94 (by decide) (fun c_94 => ?_) (fun c_94 => ?_)
        · replace c_94 := lc_le.mp c_94
          refine lv_aload_n hx hb dX1_give_99 rfl (lv_at hl 2 rfl) ?_
          refine lv_lload_n hx hb dX1_give_100 rfl (lv_at hl 1 rfl) ?_
          refine pt_X1_23 hC hP hS (ha) dX1_give_101 (fun H locs hP hz hS => ?_)
          replace hsz := hz.trans hsz
          refine lv_aload_n hx hb dX1_give_104 rfl (lv_at hl 2 rfl) ?_
          refine lv_iload hx hb dX1_give_105 (lv_at hl 0 rfl) ?_
          refine lv_iload_n hx hb dX1_give_107 rfl (lv_at hl 3 rfl) ?_
          refine lv_iadd hx hb dX1_give_108 ?_
          refine lv_iconst (v := 1) hx hb dX1_give_109 (by decide) ?_
          refine lv_isub hx hb dX1_give_110 ?_
          refine pt_X1_66 hC hP hS (kJ (ha)) dX1_give_111 (fun H locs hP hz hS => ?_)
          replace hsz := hz.trans hsz
          refine lv_aload_n hx hb dX1_give_114 rfl (lv_at hl 2 rfl) ?_
          refine lv_dup hx hb dX1_give_115 rfl ?_
          refine gt_X1_158 hC hP (kI (kJ (ha))) dX1_give_116 ?_
          refine lv_iload_n hx hb dX1_give_119 rfl (lv_at hl 3 rfl) ?_
          refine lv_i2l hx hb dX1_give_120 rfl ?_
          refine lv_ladd hx hb dX1_give_121 ?_
          refine pt_X1_158 hC hP hS (kI (kJ (ha))) dX1_give_122 (fun H locs hP hz hS => ?_)
          replace hsz := hz.trans hsz
          rw [gJ_sI, gJ_k (k := 12) (j := 14) (by decide)] at hP
          refine lv_lload_n hx hb dX1_give_125 rfl (lv_at hl 1 rfl) ?_
          refine lv_bipush (v := 23) hx hb dX1_give_126 (by decide) ?_
          refine lv_lshl hx hb dX1_give_128 rfl ?_
          refine lv_aload_n hx hb dX1_give_129 rfl (lv_at hl 2 rfl) ?_
          refine gt_X1_34 hC hP (kJ (kI (kJ (ha)))) (rJ (rI (rJ (hh)))) dX1_give_130 ?_
          refine gt_X1_112 hC hP (kJ (kI (kJ (hhk)))) dX1_give_133 ?_
          refine lv_i2l hx hb dX1_give_136 rfl ?_
          refine lv_bipush (v := 10) hx hb dX1_give_137 (by decide) ?_
          refine lv_lshl hx hb dX1_give_139 rfl ?_
          refine lv_ladd hx hb dX1_give_140 ?_
          refine lv_iload hx hb dX1_give_141 (lv_at hl 0 rfl) ?_
          refine lv_i2l hx hb dX1_give_143 rfl ?_
          refine lv_ladd hx hb dX1_give_144 ?_
          exact g_lret hC hP hS hr hlk (by decide) (by decide) (⟨hsz, by unfold cGive; (first | rw [gvA_1 c_37 c_59] | rw [gvA_2 c_37 c_59] | rw [gvA_3 c_37 c_59] | rw [gvA_4 c_37 c_59]); rw [if_neg (by rintro (h9 | h9); exact c_81 h9; exact absurd c_94 (Int64.not_le.mpr h9))]; exact ⟨rfl, rfl⟩⟩) dX1_give_145
        · replace c_94 := fun h => c_94 (lc_le.mpr h)
          refine lv_lconst (v := 0) hx hb dX1_give_97 rfl ?_
          exact g_lret hC hP hS hr hlk (by decide) (by decide) (⟨hsz, by unfold cGive; (first | rw [gvA_1 c_37 c_59] | rw [gvA_2 c_37 c_59] | rw [gvA_3 c_37 c_59] | rw [gvA_4 c_37 c_59]); rw [if_pos (by first | exact Or.inl c_81 | exact Or.inr (Int64.not_le.mp c_94))]; exact ⟨rfl, rfl⟩⟩) dX1_give_98

