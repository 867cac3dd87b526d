set_option linter.constructorNameAsVariable false
/-! The operations that tell and give. -/
theorem li_ot {S : gS} {x J : Nat} (h : LI x J S) : gK S (x + 249) = 10 ∧ gn S (x + 249) = 1 := by
  obtain ⟨pm, L, t, G, hR, hk, hn⟩ := h
  exact ⟨hk, hn⟩
section OPV
variable {S : gS} {x J : Nat} (l : Launch) (N0 : Nat) (D : va_G) (cy : Nat → ClassId) (sz : Nat)
theorem op_letter (hls : l.stackTraces = false) (h : LI x J S) (hJ : J + 1 ≤ 512) (p0 w : Int32) : ∃ PW : Option Value → gS → Nat → Prop, gMW l yL_letter cL_letter 5 (some FieldType.int) [(0, 10, 13, 13)] { frames := 7, cells := 1, slots := 6, locals := 113 } N0 D cy [.ref x, .int p0, .int w, .ref (x + 249)] S sz PW ∧ ∀ v S1 z, PW v S1 z → ∃ (c : Int32) (PM : Option Value → gS → Nat → Prop), v = some (.int c) ∧ mOK S1 (x + 214) ∧ gM l yX7_letter cX7_letter 3 (some FieldType.int) { frames := 1, cells := 0, slots := 0, locals := 30 } N0 D cy [.ref (x + 214), .int p0, .int w] S1 z PM ∧ ∀ v2 S2 z2, PM v2 S2 z2 → ∃ r2 : Int32, v2 = some (.int r2) ∧ mOK S2 (x + 214) ∧ LI x (J + 1) S2 ∧ gI S2 (x + 214) 0 = c ∧ gK S2 (x + 249) = 10 ∧ gn S2 (x + 249) = 1 ∧ (c = 0 → gJ S2 (x + 249) 0 = r2.toInt64) := by
  obtain ⟨pm, L, t, G, hR, hk, hn⟩ := h
  have hR1 := hR.mono (Nat.le_succ J) hJ
  have hlay := hR.base.1
  have hpm := hR.cpm
  have hL := hR.bd.1
  refine ⟨_, w_letter l N0 D cy S sz x (x + 249) p0 w _ _ hlay.1 (c_X6_letter l hls N0 D cy S sz x hlay.1 (x + 4) (x + 5) L (fun k => x + 6 + 2 * pm k) hR.base.2.2.1 hR.base.2.2.2.1 hR.base.2.2.2.2.1 hR.base.2.2.2.2.2.1 hR.base.2.2.2.2.2.2 hR.2.1 hL hpm.2.2 (fun k => (hR.clt (hpm.1 k)).1) p0 w) (fun E S1 q => q.2.1) (fun v S1 z q => ?_), fun v S1 z hw => ?_⟩
  · obtain ⟨_, rfl, k, _, _, _, hv⟩ := q
    exact ⟨⟨_, hv⟩, hk, hn⟩
  rcases hw with ⟨r, S9, rfl, ⟨hz, rfl, k, hk8, e, hw6, hv⟩, hS⟩ | ⟨rfl, hS, -, hX⟩
  · have hc : CT x S9 S1 := by rw [hS]; exact CT.out CT.refl
    have hRc := hR1.cc hc
    have hr : r = clV S9 (x + 6 + 2 * pm k) w := Value.int.inj (Option.some.inj hv)
    refine ⟨0, _, rfl, hRc.2.2.1, c_X7_letter l N0 D cy S1 z (x + 214) L p0 w hRc.2.2.1 hRc.2.2.2.1 (by omega), fun v2 S2 z2 hm => ?_⟩
    obtain ⟨hz2, hm⟩ := hm
    rcases hm with ⟨hb, -⟩ | ⟨j, hj, e2, hb, -⟩ | ⟨j, hj, e2, hb, hv2, hS2⟩
    · exact (nL_ (by unfold isL at hb; rw [hRc.2.2.2.1] at hb; exact hb) hL hk8 e).elim
    · exact ((rgX 6 5 rfl).mp hw6 hb).elim
    · obtain rfl := nK (by omega) (by omega) e e2
      have hs := ((hRc.thr (v := 0)).thr (v := 0)).out (r := r.toInt64) hk
      rw [← hS, ← hS2] at hs
      have hli := LI.go hR hk hn hc (by rw [hS2]; exact MT.wO (MT.wO MT.refl)) hs
      refine ⟨_, hv2, hs.2.2.1, hli, by rw [hS2, gI_s], (li_ot hli).1, (li_ot hli).2, fun _ => ?_⟩
      rw [ltV_eq hRc hj, hS2, gJ_sI, gJ_sI, hS, gJ_s, hr]
  · obtain rfl : S1 = S := hS
    refine ⟨1, _, rfl, hR.2.2.1, c_X7_letter l N0 D cy S1 z (x + 214) L p0 w hR.2.2.1 hR.2.2.2.1 (by omega), fun v2 S2 z2 hm => ?_⟩
    obtain ⟨hz2, hm⟩ := hm
    rcases hm with ⟨hb, hv2, rfl⟩ | ⟨j, hj, e2, hb, hv2, rfl⟩ | ⟨j, hj, e2, hb, hv2, hS2⟩
    · have hli := LI.go hR hk hn CT.refl (MT.wO MT.refl) (hR1.thr (v := 1))
      exact ⟨_, hv2, hR1.thr.2.2.1, hli, gI_s, (li_ot hli).1, (li_ot hli).2, fun q => absurd q (by decide)⟩
    · have hli := LI.go hR hk hn CT.refl (MT.wO (MT.wO MT.refl)) ((hR1.thr (v := 0)).thr (v := 1))
      exact ⟨_, hv2, hR1.thr.thr.2.2.1, hli, gI_s, (li_ot hli).1, (li_ot hli).2, fun q => absurd q (by decide)⟩
    · rcases hX with hX | hX
      · exact (nL_ hX hL hj e2).elim
      · exact (hX ((rgX 6 5 rfl).mpr hb)).elim
theorem op_issuer (hls : l.stackTraces = false) (h : LI x J S) (hJ : J + 1 ≤ 512) (p0 w : Int32) : ∃ PW : Option Value → gS → Nat → Prop, gMW l yL_issuer cL_issuer 5 (some FieldType.int) [(0, 9, 12, 13)] { frames := 7, cells := 1, slots := 6, locals := 113 } N0 D cy [.ref x, .int p0, .int w, .ref (x + 249)] S sz PW ∧ ∀ v S1 z, PW v S1 z → ∃ (c : Int32) (PM : Option Value → gS → Nat → Prop), v = some (.int c) ∧ mOK S1 (x + 214) ∧ gM l yX7_issuer cX7_issuer 3 (some FieldType.long) { frames := 1, cells := 0, slots := 0, locals := 30 } N0 D cy [.ref (x + 214), .int p0, .int w] S1 z PM ∧ ∀ v2 S2 z2, PM v2 S2 z2 → ∃ r2 : Int64, v2 = some (.long r2) ∧ mOK S2 (x + 214) ∧ LI x (J + 1) S2 ∧ gI S2 (x + 214) 0 = c ∧ gK S2 (x + 249) = 10 ∧ gn S2 (x + 249) = 1 ∧ (c = 0 → gJ S2 (x + 249) 0 = r2) := by
  obtain ⟨pm, L, t, G, hR, hk, hn⟩ := h
  have hR1 := hR.mono (Nat.le_succ J) hJ
  have hlay := hR.base.1
  have hpm := hR.cpm
  have hL := hR.bd.1
  have hheld : (∀ k, k < 8 → p0 = nI k → gR S (x + 188 + 2 * k) 11 = none) ∨ ∃ h0, (∀ k, k < 8 → p0 = nI k → gR S (x + 188 + 2 * k) 11 = some h0) ∧ gK S h0 = 1 ∧ gR S h0 2 = some (cr S h0 2) ∧ gK S (cr S h0 2) = 6 := by
    by_cases hp : 0 ≤ p0 ∧ p0 < 8
    · obtain ⟨k0, hk0, e0⟩ : ∃ k, k < 8 ∧ p0 = nI k := by
        obtain ⟨j, hj, e⟩ := nI_of (Int32.not_lt.mpr hp.1)
        subst e
        exact ⟨j, (nI_ltI (b := 8) hj (by decide)).mp hp.2, rfl⟩
      rcases (hR.cis hk0).2.2.2.2.2.2.2.2 with hg | ⟨g1, g2, g3⟩
      · refine Or.inl (fun k hk e => ?_)
        obtain rfl := nK (by omega) (by omega) e0 e
        exact hg
      · refine Or.inr ⟨_, fun k hk e => ?_, g2, g3.1, g3.2⟩
        obtain rfl := nK (by omega) (by omega) e0 e
        exact g1
    · exact Or.inl (fun k hk e => (n8 hp hk e).elim)
  have hM : gMX l yX6_issuer cX6_issuer 4 (some FieldType.long) { frames := 6, cells := 1, slots := 6, locals := 90 } N0 D cy [.ref x, .int p0, .int w] S sz (fun v S1 z => z = sz ∧ S1 = S ∧ ∃ k, k < 8 ∧ p0 = nI k ∧ (0 ≤ w ∧ w < 8) ∧ v = some (.long (icV S (x + 188 + 2 * k) w))) (fun E S1 => S1 = S ∧ ((E = exO ∧ (¬ (0 ≤ p0 ∧ p0 < 8) ∨ ¬ (0 ≤ w ∧ w < 8))))) := by
    rcases hheld with hh | ⟨h0, hh, g1, g2, g3⟩
    · exact c_X6_issuer0 l hls N0 D cy S sz x (x + 1) (fun k => x + 188 + 2 * k) hlay.1 hlay.2.1 hlay.2.2.2.2.1 hlay.2.2.2.2.2.1 (fun k hk => ⟨(hR.cis hk).1, (hR.cis hk).2.1⟩) p0 w hh
    · exact c_X6_issuer1 l hls N0 D cy S sz x (x + 1) (fun k => x + 188 + 2 * k) hlay.1 hlay.2.1 hlay.2.2.2.2.1 hlay.2.2.2.2.2.1 (fun k hk => ⟨(hR.cis hk).1, (hR.cis hk).2.1⟩) p0 w h0 _ hh (fun _ => ⟨g1, g2, g3⟩)
  refine ⟨_, w_issuer l N0 D cy S sz x (x + 249) p0 w _ _ hlay.1 hM (fun E S1 q => q.2.1) (fun v S1 z q => ?_), fun v S1 z hw => ?_⟩
  · obtain ⟨_, rfl, k, _, _, _, hv⟩ := q
    exact ⟨⟨_, hv⟩, hk, hn⟩
  rcases hw with ⟨r, S9, rfl, ⟨hz, rfl, k, hk8, e, hw6, hv⟩, hS⟩ | ⟨rfl, hS, -, hX⟩
  · have hc : CT x S9 S1 := by rw [hS]; exact CT.out CT.refl
    have hRc := hR1.cc hc
    have hr : r = icV S9 (x + 188 + 2 * k) w := Value.long.inj (Option.some.inj hv)
    refine ⟨0, _, rfl, hRc.2.2.1, c_X7_issuer l N0 D cy S1 z (x + 214) p0 w hRc.2.2.1, fun v2 S2 z2 hm => ?_⟩
    obtain ⟨hz2, hm⟩ := hm
    rcases hm with ⟨hb, -⟩ | ⟨j, hj, e2, hb, -⟩ | ⟨j, hj, e2, hb, hv2, hS2⟩
    · exact (n8 hb hk8 e).elim
    · exact ((rgX 8 7 rfl).mp hw6 hb).elim
    · obtain rfl := nK (by omega) (by omega) e e2
      have hs := ((hRc.thr (v := 0)).thr (v := 0)).out (r := r) hk
      rw [← hS, ← hS2] at hs
      have hli := LI.go hR hk hn hc (by rw [hS2]; exact MT.wO (MT.wO MT.refl)) hs
      refine ⟨_, hv2, hs.2.2.1, hli, by rw [hS2, gI_s], (li_ot hli).1, (li_ot hli).2, fun _ => ?_⟩
      rw [isV_eq hRc hj, hS2, gJ_sI, gJ_sI, hS, gJ_s, hr]
  · obtain rfl : S1 = S := hS
    refine ⟨1, _, rfl, hR.2.2.1, c_X7_issuer l N0 D cy S1 z (x + 214) p0 w hR.2.2.1, fun v2 S2 z2 hm => ?_⟩
    obtain ⟨hz2, hm⟩ := hm
    rcases hm with ⟨hb, hv2, rfl⟩ | ⟨j, hj, e2, hb, hv2, rfl⟩ | ⟨j, hj, e2, hb, hv2, hS2⟩
    · have hli := LI.go hR hk hn CT.refl (MT.wO MT.refl) (hR1.thr (v := 1))
      exact ⟨_, hv2, hR1.thr.2.2.1, hli, gI_s, (li_ot hli).1, (li_ot hli).2, fun q => absurd q (by decide)⟩
    · have hli := LI.go hR hk hn CT.refl (MT.wO (MT.wO MT.refl)) ((hR1.thr (v := 0)).thr (v := 1))
      exact ⟨_, hv2, hR1.thr.thr.2.2.1, hli, gI_s, (li_ot hli).1, (li_ot hli).2, fun q => absurd q (by decide)⟩
    · rcases hX with hX | hX
      · exact (n8 hX hj e2).elim
      · exact (hX ((rgX 8 7 rfl).mpr hb)).elim
theorem op_next (hls : l.stackTraces = false) (h : LI x J S) (hJ : J + 1 ≤ 512) (p0 : Int32) : ∃ PW : Option Value → gS → Nat → Prop, gMW l yL_next cL_next 4 (some FieldType.int) [(0, 8, 11, 13)] { frames := 7, cells := 1, slots := 6, locals := 111 } N0 D cy [.ref x, .int p0, .ref (x + 249)] S sz PW ∧ ∀ v S1 z, PW v S1 z → ∃ (c : Int32) (PM : Option Value → gS → Nat → Prop), v = some (.int c) ∧ mOK S1 (x + 214) ∧ gM l yX7_next cX7_next 2 (some FieldType.long) { frames := 1, cells := 0, slots := 0, locals := 40 } N0 D cy [.ref (x + 214), .int p0] S1 z PM ∧ ∀ v2 S2 z2, PM v2 S2 z2 → ∃ r2 : Int64, v2 = some (.long r2) ∧ mOK S2 (x + 214) ∧ LI x (J + 1) S2 ∧ gI S2 (x + 214) 0 = c ∧ gK S2 (x + 249) = 10 ∧ gn S2 (x + 249) = 1 ∧ (c = 0 → gJ S2 (x + 249) 0 = r2) := by
  obtain ⟨pm, L, t, G, hR, hk, hn⟩ := h
  have hR1 := hR.mono (Nat.le_succ J) hJ
  have hlay := hR.base.1
  have hpm := hR.cpm
  have hL := hR.bd.1
  have hheld : (∀ k, k < 8 → p0 = nI k → gR S (x + 188 + 2 * k) 11 = none) ∨ ∃ h0, (∀ k, k < 8 → p0 = nI k → gR S (x + 188 + 2 * k) 11 = some h0) ∧ gK S h0 = 1 ∧ gR S h0 2 = some (cr S h0 2) ∧ gK S (cr S h0 2) = 6 := by
    by_cases hp : 0 ≤ p0 ∧ p0 < 8
    · obtain ⟨k0, hk0, e0⟩ : ∃ k, k < 8 ∧ p0 = nI k := by
        obtain ⟨j, hj, e⟩ := nI_of (Int32.not_lt.mpr hp.1)
        subst e
        exact ⟨j, (nI_ltI (b := 8) hj (by decide)).mp hp.2, rfl⟩
      rcases (hR.cis hk0).2.2.2.2.2.2.2.2 with hg | ⟨g1, g2, g3⟩
      · refine Or.inl (fun k hk e => ?_)
        obtain rfl := nK (by omega) (by omega) e0 e
        exact hg
      · refine Or.inr ⟨_, fun k hk e => ?_, g2, g3.1, g3.2⟩
        obtain rfl := nK (by omega) (by omega) e0 e
        exact g1
    · exact Or.inl (fun k hk e => (n8 hp hk e).elim)
  rcases hheld with hh | ⟨h0, hh, g1, g2, g3⟩
  · refine ⟨_, w_next l N0 D cy S sz x (x + 249) p0 _ _ hlay.1 (c_X6_next0 l hls N0 D cy S sz x (x + 1) (fun k => x + 188 + 2 * k) hlay.1 hlay.2.1 hlay.2.2.2.2.1 hlay.2.2.2.2.2.1 (fun k hk => ⟨(hR.cis hk).1, (hR.cis hk).2.1⟩) p0 1 rfl hh) (fun E S1 q => q.2.1) (fun v S1 z q => ?_), fun v S1 z hw => ?_⟩
    · obtain ⟨_, k, _, _, hv, rfl⟩ := q
      exact ⟨⟨_, hv⟩, hk, hn⟩
    rcases hw with ⟨r, S9, rfl, ⟨hz, k, hk8, e, hv, rfl⟩, hS⟩ | ⟨rfl, hS, hX⟩
    · have hc : CT x S9 S1 := by rw [hS]; exact CT.out CT.refl
      have hRc := hR1.cc hc
      have hr : r = 0 := Value.long.inj (Option.some.inj hv)
      refine ⟨0, _, rfl, hRc.2.2.1, c_X7_next l N0 D cy S1 z (x + 214) p0 hRc.2.2.1, fun v2 S2 z2 hm => ?_⟩
      obtain ⟨hz2, hm⟩ := hm
      rcases hm with ⟨hb, -⟩ | ⟨j, hj, e2, hg⟩
      · exact (n8 hb hk8 e).elim
      · obtain rfl := nK (by omega) (by omega) e e2
        have hs := (hRc.thr (v := 0)).out (r := r) hk
        rw [← hS] at hs
        have h27 : gI (sI S1 (x + 214) 0 0) (x + 214 + 27) j = 0 := ((hRc.thr (v := 0)).rdy hj).1.mp (hh j hj e)
        rcases hg with ⟨-, hv2, hS2⟩ | ⟨hq, -⟩ | ⟨hq, -⟩
        · rw [← hS2] at hs
          have hli := LI.go hR hk hn hc (by rw [hS2]; exact MT.wO MT.refl) hs
          refine ⟨_, hv2, hs.2.2.1, hli, by rw [hS2, gI_s], (li_ot hli).1, (li_ot hli).2, fun _ => ?_⟩
          rw [hS2, gJ_sI, hS, gJ_s, hr]
        · exact (hq h27).elim
        · exact (hq h27).elim
    · obtain rfl : S1 = S := hS
      have hX : ¬ (0 ≤ p0 ∧ p0 < 8) := hX.2
      refine ⟨1, _, rfl, hR.2.2.1, c_X7_next l N0 D cy S1 z (x + 214) p0 hR.2.2.1, fun v2 S2 z2 hm => ?_⟩
      obtain ⟨hz2, hm⟩ := hm
      rcases hm with ⟨hb, hv2, rfl⟩ | ⟨j, hj, e2, -⟩
      · have hli := LI.go hR hk hn CT.refl (MT.wO MT.refl) (hR1.thr (v := 1))
        exact ⟨_, hv2, hR1.thr.2.2.1, hli, gI_s, (li_ot hli).1, (li_ot hli).2, fun q => absurd q (by decide)⟩
      · exact (n8 hX hj e2).elim
  · refine ⟨_, w_next l N0 D cy S sz x (x + 249) p0 _ _ hlay.1 (c_X6_next1 l hls N0 D cy S sz x (x + 1) (fun k => x + 188 + 2 * k) hlay.1 hlay.2.1 hlay.2.2.2.2.1 hlay.2.2.2.2.2.1 (fun k hk => ⟨(hR.cis hk).1, (hR.cis hk).2.1⟩) p0 1 rfl h0 (cr S h0 2) hh (fun _ => ⟨g1, g2, g3⟩)) (fun E S1 q => q.2.1) (fun v S1 z q => ?_), fun v S1 z hw => ?_⟩
    · obtain ⟨_, k, hk8, _, hv⟩ := q
      unfold cGive at hv
      split at hv
      · obtain ⟨hv, rfl⟩ := hv
        exact ⟨⟨_, hv⟩, hk, hn⟩
      · obtain ⟨hv, rfl⟩ := hv
        exact ⟨⟨_, hv⟩, hk, hn⟩
    rcases hw with ⟨r, S9, rfl, ⟨hz, k, hk8, e, hv⟩, hS⟩ | ⟨rfl, hS, hX⟩
    · have hc9 : CT x S S9 := by
        unfold cGive at hv
        split at hv
        · rw [hv.2]; exact CT.refl
        · rw [hv.2]; exact CT.wJ (CT.wI (CT.wJ CT.refl ⟨by show x ≤ x + 188 + 2 * k; omega, by show x + 188 + 2 * k < x + 214; omega⟩) ⟨by show x ≤ x + 188 + 2 * k; omega, by show x + 188 + 2 * k < x + 214; omega⟩) ⟨by show x ≤ x + 188 + 2 * k; omega, by show x + 188 + 2 * k < x + 214; omega⟩
      have hc : CT x S S1 := by rw [hS]; exact CT.out hc9
      have hk9 := (ct_ot hk hn hc9).1
      have hRc := hR1.cc hc
      refine ⟨0, _, rfl, hRc.2.2.1, c_X7_next l N0 D cy S1 z (x + 214) p0 hRc.2.2.1, fun v2 S2 z2 hm => ?_⟩
      obtain ⟨hz2, hm⟩ := hm
      rcases hm with ⟨hb, -⟩ | ⟨j, hj, e2, hg⟩
      · exact (n8 hb hk8 e).elim
      · obtain rfl := nK (by omega) (by omega) e e2
        have hT := hRc.thr (v := 0)
        obtain ⟨b1, b2, b3, b4, b5, b6⟩ := gv_eq hT hj (hh j hj e) 1
        unfold cGive at hv
        unfold mGive at hg
        rw [b2] at hg
        rcases hg with ⟨hq, -⟩ | ⟨hq, hx9, hv2, hS2⟩ | ⟨hq, hx9, hv2, hS2⟩
        · rw [b1] at hq; exact absurd hq (by decide)
        · rw [if_pos (b3.mp hx9)] at hv
          have hr : r = 0 := Value.long.inj (Option.some.inj hv.1)
          have hs := hT.out (r := r) hk
          rw [← hv.2, ← hS, ← hS2] at hs
          have hli := LI.go hR hk hn hc (by rw [hS2]; exact MT.wO MT.refl) hs
          refine ⟨_, hv2, hs.2.2.1, hli, by rw [hS2, gI_s], (li_ot hli).1, (li_ot hli).2, fun _ => ?_⟩
          rw [hS2, gJ_sI, hS, gJ_s, hr]
        · rw [if_neg (fun q => hx9 (b3.mpr q))] at hv
          have hr : r = gvN S h0 (gvA S (x + 188 + 2 * j) h0 1) := Value.long.inj (Option.some.inj hv.1)
          have hs := sim_give hT hj (tt := (gvA S (x + 188 + 2 * j) h0 1).1) (cc := (gvA S (x + 188 + 2 * j) h0 1).2 + 1 - 1) (gg := gJ S (x + 188 + 2 * j) 14 + (1 : Int32).toInt64) (b5 hx9) b1
          unfold gmS at hS2
          rw [b6] at hS2
          rw [← hv.2, ← hS2] at hs
          have hs := hs.out (r := r) hk9
          rw [← hS] at hs
          have hli := LI.go hR hk hn hc (by rw [hS2]; exact MT.wJ (MT.wI (MT.wJ (MT.wO MT.refl)))) hs
          refine ⟨_, hv2, hs.2.2.1, hli, by rw [hS2, gI_sJ, gI_a (by omega), gI_sJ, gI_s], (li_ot hli).1, (li_ot hli).2, fun _ => ?_⟩
          rw [hS2, gJ_a (by omega), gJ_sI, gJ_a (by omega), gJ_sI, b4, hS, gJ_s, hr]
    · obtain rfl : S1 = S := hS
      have hX : ¬ (0 ≤ p0 ∧ p0 < 8) := hX.2
      refine ⟨1, _, rfl, hR.2.2.1, c_X7_next l N0 D cy S1 z (x + 214) p0 hR.2.2.1, fun v2 S2 z2 hm => ?_⟩
      obtain ⟨hz2, hm⟩ := hm
      rcases hm with ⟨hb, hv2, rfl⟩ | ⟨j, hj, e2, -⟩
      · have hli := LI.go hR hk hn CT.refl (MT.wO MT.refl) (hR1.thr (v := 1))
        exact ⟨_, hv2, hR1.thr.2.2.1, hli, gI_s, (li_ot hli).1, (li_ot hli).2, fun q => absurd q (by decide)⟩
      · exact (n8 hX hj e2).elim
theorem op_batch (hls : l.stackTraces = false) (h : LI x J S) (hJ : J + 1 ≤ 512) (p0 n : Int32) : ∃ PW : Option Value → gS → Nat → Prop, gMW l yL_batch cL_batch 5 (some FieldType.int) [(0, 9, 12, 13), (0, 9, 16, 15)] { frames := 7, cells := 1, slots := 6, locals := 112 } N0 D cy [.ref x, .int p0, .int n, .ref (x + 249)] S sz PW ∧ ∀ v S1 z, PW v S1 z → ∃ (c : Int32) (PM : Option Value → gS → Nat → Prop), v = some (.int c) ∧ mOK S1 (x + 214) ∧ gM l yX7_batch cX7_batch 3 (some FieldType.long) { frames := 1, cells := 0, slots := 0, locals := 40 } N0 D cy [.ref (x + 214), .int p0, .int n] S1 z PM ∧ ∀ v2 S2 z2, PM v2 S2 z2 → ∃ r2 : Int64, v2 = some (.long r2) ∧ mOK S2 (x + 214) ∧ LI x (J + 1) S2 ∧ gI S2 (x + 214) 0 = c ∧ gK S2 (x + 249) = 10 ∧ gn S2 (x + 249) = 1 ∧ (c = 0 → gJ S2 (x + 249) 0 = r2) := by
  obtain ⟨pm, L, t, G, hR, hk, hn⟩ := h
  have hR1 := hR.mono (Nat.le_succ J) hJ
  have hlay := hR.base.1
  have hpm := hR.cpm
  have hL := hR.bd.1
  have hheld : (∀ k, k < 8 → p0 = nI k → gR S (x + 188 + 2 * k) 11 = none) ∨ ∃ h0, (∀ k, k < 8 → p0 = nI k → gR S (x + 188 + 2 * k) 11 = some h0) ∧ gK S h0 = 1 ∧ gR S h0 2 = some (cr S h0 2) ∧ gK S (cr S h0 2) = 6 := by
    by_cases hp : 0 ≤ p0 ∧ p0 < 8
    · obtain ⟨k0, hk0, e0⟩ : ∃ k, k < 8 ∧ p0 = nI k := by
        obtain ⟨j, hj, e⟩ := nI_of (Int32.not_lt.mpr hp.1)
        subst e
        exact ⟨j, (nI_ltI (b := 8) hj (by decide)).mp hp.2, rfl⟩
      rcases (hR.cis hk0).2.2.2.2.2.2.2.2 with hg | ⟨g1, g2, g3⟩
      · refine Or.inl (fun k hk e => ?_)
        obtain rfl := nK (by omega) (by omega) e0 e
        exact hg
      · refine Or.inr ⟨_, fun k hk e => ?_, g2, g3.1, g3.2⟩
        obtain rfl := nK (by omega) (by omega) e0 e
        exact g1
    · exact Or.inl (fun k hk e => (n8 hp hk e).elim)
  rcases hheld with hh | ⟨h0, hh, g1, g2, g3⟩
  · refine ⟨_, w_batch l N0 D cy S sz x (x + 249) p0 n _ _ hlay.1 (c_X6_batch0 l hls N0 D cy S sz x (x + 1) (fun k => x + 188 + 2 * k) hlay.1 hlay.2.1 hlay.2.2.2.2.1 hlay.2.2.2.2.2.1 (fun k hk => ⟨(hR.cis hk).1, (hR.cis hk).2.1⟩) p0 n hh) (fun E S1 q => by rcases q.2 with ⟨e, _⟩ | ⟨e, _⟩; exact Or.inl e; exact Or.inr e) (fun v S1 z q => ?_), fun v S1 z hw => ?_⟩
    · obtain ⟨_, k, _, _, _, hv, rfl⟩ := q
      exact ⟨⟨_, hv⟩, hk, hn⟩
    rcases hw with ⟨r, S9, rfl, ⟨hz, k, hk8, e, hb1, hv, rfl⟩, hS⟩ | ⟨rfl, hS, hX⟩ | ⟨rfl, hS, hX⟩
    · have hc : CT x S9 S1 := by rw [hS]; exact CT.out CT.refl
      have hRc := hR1.cc hc
      have hr : r = 0 := Value.long.inj (Option.some.inj hv)
      refine ⟨0, _, rfl, hRc.2.2.1, c_X7_batch l N0 D cy S1 z (x + 214) p0 n hRc.2.2.1, fun v2 S2 z2 hm => ?_⟩
      obtain ⟨hz2, hm⟩ := hm
      rcases hm with ⟨hb, -⟩ | ⟨j, hj, e2, hb, -⟩ | ⟨j, hj, e2, hb, hg⟩
      · exact (n8 hb hk8 e).elim
      · exact (hb1 hb).elim
      · obtain rfl := nK (by omega) (by omega) e e2
        have hs := ((hRc.thr (v := 0)).thr (v := 0)).out (r := r) hk
        rw [← hS] at hs
        have h27 : gI (sI (sI S1 (x + 214) 0 0) (x + 214) 0 0) (x + 214 + 27) j = 0 := (((hRc.thr (v := 0)).thr (v := 0)).rdy hj).1.mp (hh j hj e)
        rcases hg with ⟨-, hv2, hS2⟩ | ⟨hq, -⟩ | ⟨hq, -⟩
        · rw [← hS2] at hs
          have hli := LI.go hR hk hn hc (by rw [hS2]; exact MT.wO (MT.wO MT.refl)) hs
          refine ⟨_, hv2, hs.2.2.1, hli, by rw [hS2, gI_s], (li_ot hli).1, (li_ot hli).2, fun _ => ?_⟩
          rw [hS2, gJ_sI, gJ_sI, hS, gJ_s, hr]
        · exact (hq h27).elim
        · exact (hq h27).elim
    · obtain rfl : S1 = S := hS
      have hX : ¬ (0 ≤ p0 ∧ p0 < 8) := by
        rcases hX with ⟨_, h⟩ | ⟨h, _⟩
        · exact h
        · exact absurd h exOA
      refine ⟨1, _, rfl, hR.2.2.1, c_X7_batch l N0 D cy S1 z (x + 214) p0 n hR.2.2.1, fun v2 S2 z2 hm => ?_⟩
      obtain ⟨hz2, hm⟩ := hm
      rcases hm with ⟨hb, hv2, rfl⟩ | ⟨j, hj, e2, hb, hv2, -⟩ | ⟨j, hj, e2, -⟩
      · have hli := LI.go hR hk hn CT.refl (MT.wO MT.refl) (hR1.thr (v := 1))
        exact ⟨_, hv2, hR1.thr.2.2.1, hli, gI_s, (li_ot hli).1, (li_ot hli).2, fun q => absurd q (by decide)⟩
      · exact (n8 hX hj e2).elim
      · exact (n8 hX hj e2).elim
    · obtain rfl : S1 = S := hS
      obtain ⟨k, hk8, e, hb1⟩ : ∃ k, k < 8 ∧ p0 = nI k ∧ (n < 1 ∨ 1024 < n) := by
        rcases hX with ⟨h, _⟩ | ⟨_, h⟩
        · exact absurd h.symm exOA
        · exact h
      refine ⟨2, _, rfl, hR.2.2.1, c_X7_batch l N0 D cy S1 z (x + 214) p0 n hR.2.2.1, fun v2 S2 z2 hm => ?_⟩
      obtain ⟨hz2, hm⟩ := hm
      rcases hm with ⟨hb, hv2, -⟩ | ⟨j, hj, e2, hb, hv2, rfl⟩ | ⟨j, hj, e2, hb, -⟩
      · exact (n8 hb hk8 e).elim
      · have hli := LI.go hR hk hn CT.refl (MT.wO (MT.wO MT.refl)) ((hR1.thr (v := 0)).thr (v := 2))
        exact ⟨_, hv2, hR1.thr.thr.2.2.1, hli, gI_s, (li_ot hli).1, (li_ot hli).2, fun q => absurd q (by decide)⟩
      · exact (hb hb1).elim
  · refine ⟨_, w_batch l N0 D cy S sz x (x + 249) p0 n _ _ hlay.1 (c_X6_batch1 l hls N0 D cy S sz x (x + 1) (fun k => x + 188 + 2 * k) hlay.1 hlay.2.1 hlay.2.2.2.2.1 hlay.2.2.2.2.2.1 (fun k hk => ⟨(hR.cis hk).1, (hR.cis hk).2.1⟩) p0 n h0 (cr S h0 2) hh (fun _ => ⟨g1, g2, g3⟩)) (fun E S1 q => by rcases q.2 with ⟨e, _⟩ | ⟨e, _⟩; exact Or.inl e; exact Or.inr e) (fun v S1 z q => ?_), fun v S1 z hw => ?_⟩
    · obtain ⟨_, k, hk8, _, _, hv⟩ := q
      unfold cGive at hv
      split at hv
      · obtain ⟨hv, rfl⟩ := hv
        exact ⟨⟨_, hv⟩, hk, hn⟩
      · obtain ⟨hv, rfl⟩ := hv
        exact ⟨⟨_, hv⟩, hk, hn⟩
    rcases hw with ⟨r, S9, rfl, ⟨hz, k, hk8, e, hb1, hv⟩, hS⟩ | ⟨rfl, hS, hX⟩ | ⟨rfl, hS, hX⟩
    · have hc9 : CT x S S9 := by
        unfold cGive at hv
        split at hv
        · rw [hv.2]; exact CT.refl
        · rw [hv.2]; exact CT.wJ (CT.wI (CT.wJ CT.refl ⟨by show x ≤ x + 188 + 2 * k; omega, by show x + 188 + 2 * k < x + 214; omega⟩) ⟨by show x ≤ x + 188 + 2 * k; omega, by show x + 188 + 2 * k < x + 214; omega⟩) ⟨by show x ≤ x + 188 + 2 * k; omega, by show x + 188 + 2 * k < x + 214; omega⟩
      have hc : CT x S S1 := by rw [hS]; exact CT.out hc9
      have hk9 := (ct_ot hk hn hc9).1
      have hRc := hR1.cc hc
      refine ⟨0, _, rfl, hRc.2.2.1, c_X7_batch l N0 D cy S1 z (x + 214) p0 n hRc.2.2.1, fun v2 S2 z2 hm => ?_⟩
      obtain ⟨hz2, hm⟩ := hm
      rcases hm with ⟨hb, -⟩ | ⟨j, hj, e2, hb, -⟩ | ⟨j, hj, e2, hb, hg⟩
      · exact (n8 hb hk8 e).elim
      · exact (hb1 hb).elim
      · obtain rfl := nK (by omega) (by omega) e e2
        have hT := (hRc.thr (v := 0)).thr (v := 0)
        obtain ⟨b1, b2, b3, b4, b5, b6⟩ := gv_eq hT hj (hh j hj e) n
        unfold cGive at hv
        unfold mGive at hg
        rw [b2] at hg
        rcases hg with ⟨hq, -⟩ | ⟨hq, hx9, hv2, hS2⟩ | ⟨hq, hx9, hv2, hS2⟩
        · rw [b1] at hq; exact absurd hq (by decide)
        · rw [if_pos (b3.mp hx9)] at hv
          have hr : r = 0 := Value.long.inj (Option.some.inj hv.1)
          have hs := hT.out (r := r) hk
          rw [← hv.2, ← hS, ← hS2] at hs
          have hli := LI.go hR hk hn hc (by rw [hS2]; exact MT.wO (MT.wO MT.refl)) hs
          refine ⟨_, hv2, hs.2.2.1, hli, by rw [hS2, gI_s], (li_ot hli).1, (li_ot hli).2, fun _ => ?_⟩
          rw [hS2, gJ_sI, gJ_sI, hS, gJ_s, hr]
        · rw [if_neg (fun q => hx9 (b3.mpr q))] at hv
          have hr : r = gvN S h0 (gvA S (x + 188 + 2 * j) h0 n) := Value.long.inj (Option.some.inj hv.1)
          have hs := sim_give hT hj (tt := (gvA S (x + 188 + 2 * j) h0 n).1) (cc := (gvA S (x + 188 + 2 * j) h0 n).2 + n - 1) (gg := gJ S (x + 188 + 2 * j) 14 + (n : Int32).toInt64) (b5 hx9) b1
          unfold gmS at hS2
          rw [b6] at hS2
          rw [← hv.2, ← hS2] at hs
          have hs := hs.out (r := r) hk9
          rw [← hS] at hs
          have hli := LI.go hR hk hn hc (by rw [hS2]; exact MT.wJ (MT.wI (MT.wJ (MT.wO (MT.wO MT.refl))))) hs
          refine ⟨_, hv2, hs.2.2.1, hli, by rw [hS2, gI_sJ, gI_a (by omega), gI_sJ, gI_s], (li_ot hli).1, (li_ot hli).2, fun _ => ?_⟩
          rw [hS2, gJ_a (by omega), gJ_sI, gJ_a (by omega), gJ_sI, gJ_sI, b4, hS, gJ_s, hr]
    · obtain rfl : S1 = S := hS
      have hX : ¬ (0 ≤ p0 ∧ p0 < 8) := by
        rcases hX with ⟨_, h⟩ | ⟨h, _⟩
        · exact h
        · exact absurd h exOA
      refine ⟨1, _, rfl, hR.2.2.1, c_X7_batch l N0 D cy S1 z (x + 214) p0 n hR.2.2.1, fun v2 S2 z2 hm => ?_⟩
      obtain ⟨hz2, hm⟩ := hm
      rcases hm with ⟨hb, hv2, rfl⟩ | ⟨j, hj, e2, hb, hv2, -⟩ | ⟨j, hj, e2, -⟩
      · have hli := LI.go hR hk hn CT.refl (MT.wO MT.refl) (hR1.thr (v := 1))
        exact ⟨_, hv2, hR1.thr.2.2.1, hli, gI_s, (li_ot hli).1, (li_ot hli).2, fun q => absurd q (by decide)⟩
      · exact (n8 hX hj e2).elim
      · exact (n8 hX hj e2).elim
    · obtain rfl : S1 = S := hS
      obtain ⟨k, hk8, e, hb1⟩ : ∃ k, k < 8 ∧ p0 = nI k ∧ (n < 1 ∨ 1024 < n) := by
        rcases hX with ⟨h, _⟩ | ⟨_, h⟩
        · exact absurd h.symm exOA
        · exact h
      refine ⟨2, _, rfl, hR.2.2.1, c_X7_batch l N0 D cy S1 z (x + 214) p0 n hR.2.2.1, fun v2 S2 z2 hm => ?_⟩
      obtain ⟨hz2, hm⟩ := hm
      rcases hm with ⟨hb, hv2, -⟩ | ⟨j, hj, e2, hb, hv2, rfl⟩ | ⟨j, hj, e2, hb, -⟩
      · exact (n8 hb hk8 e).elim
      · have hli := LI.go hR hk hn CT.refl (MT.wO (MT.wO MT.refl)) ((hR1.thr (v := 0)).thr (v := 2))
        exact ⟨_, hv2, hR1.thr.thr.2.2.1, hli, gI_s, (li_ot hli).1, (li_ot hli).2, fun q => absurd q (by decide)⟩
      · exact (hb hb1).elim
theorem op_seat (hls : l.stackTraces = false) (h : LI x J S) (hJ : J + 1 ≤ 512) (p0 w : Int32) : ∃ PW : Option Value → gS → Nat → Prop, gMW l yL_seat cL_seat 5 (some FieldType.int) [(0, 9, 12, 13)] { frames := 7, cells := 1, slots := 6, locals := 113 } N0 D cy [.ref x, .int p0, .int w, .ref (x + 249)] S sz PW ∧ ∀ v S1 z, PW v S1 z → ∃ (c : Int32) (PM : Option Value → gS → Nat → Prop), v = some (.int c) ∧ mOK S1 (x + 214) ∧ gM l yX7_seat cX7_seat 7 (some FieldType.long) { frames := 1, cells := 0, slots := 0, locals := 40 } N0 D cy [.ref (x + 214), .int p0, .int w] S1 z PM ∧ ∀ v2 S2 z2, PM v2 S2 z2 → ∃ r2 : Int64, v2 = some (.long r2) ∧ mOK S2 (x + 214) ∧ LI x (J + 1) S2 ∧ gI S2 (x + 214) 0 = c ∧ gK S2 (x + 249) = 10 ∧ gn S2 (x + 249) = 1 ∧ (c = 0 → gJ S2 (x + 249) 0 = r2) := by
  obtain ⟨pm, L, t, G, hR, hk, hn⟩ := h
  have hR1 := hR.mono (Nat.le_succ J) hJ
  have hlay := hR.base.1
  have hpm := hR.cpm
  have hL := hR.bd.1
  have hb := hR.bd
  refine ⟨_, w_seat l N0 D cy S sz x (x + 249) p0 w _ _ hlay.1 (c_X6_seat l hls N0 D cy S sz x (x + 2) (fun n => x + 204 + 2 * n) hlay.1 hlay.2.2.1 hlay.2.2.2.2.2.2.1 hlay.2.2.2.2.2.2.2.1 (fun n hn => ⟨(hR.cnd hn).1, (hR.cnd hn).2.1⟩) (x + 3) (fun n => x + 204 + 2 * n + 1) (fun j n => cr S (x + 204 + 2 * n + 1) j) hlay.2.2.2.1 hlay.2.2.2.2.2.2.2.2 (fun n hn => ⟨(hR.cnd hn).2.2.1, (hR.cnd hn).2.2.2.1, (hR.cnd hn).2.2.2.2.1, (hR.cnd hn).2.2.2.2.2⟩) p0 w) (fun E S1 q => q.2.1) (fun v S1 z q => ?_), fun v S1 z hw => ?_⟩
  · obtain ⟨_, rfl, k, _, _, _, hv⟩ := q
    exact ⟨⟨_, hv⟩, hk, hn⟩
  have hse : ∀ k, k < 8 → p0 = nI k → (seX p0 w ↔ (w < 0 ∨ 2 < w)) := fun k hk8 e => by
    unfold seX
    have h8 : ¬ (p0 < 0 ∨ 7 < p0) := (rgX 8 7 rfl).mp (by rw [e]; exact ⟨nI_pos' (by omega), (nI_ltI (b := 8) (by omega) (by decide)).mpr hk8⟩)
    exact ⟨fun q => q.elim (fun q => (h8 (Or.inl q)).elim) (fun q => q.elim (fun q => (h8 (Or.inr q)).elim) id), fun q => Or.inr (Or.inr q)⟩
  rcases hw with ⟨r, S9, rfl, ⟨hz, rfl, k, hk8, e, hw6, hv⟩, hS⟩ | ⟨rfl, hS, -, hX⟩
  · have hc : CT x S9 S1 := by rw [hS]; exact CT.out CT.refl
    have hRc := hR1.cc hc
    refine ⟨0, _, rfl, hRc.2.2.1, c_X7_seat l N0 D cy S1 z (x + 214) t p0 w hRc.2.2.1 hRc.2.2.2.2.1 (by omega), fun v2 S2 z2 hm => ?_⟩
    obtain ⟨hz2, hm⟩ := hm
    rcases hm with ⟨hb, -⟩ | ⟨hb, hv2, hS2⟩
    · exact ((rgX 3 2 rfl).mp hw6 ((hse k hk8 e).mp hb)).elim
    · have hr : r = csV S9 (fun n => x + 204 + 2 * n) (cNew S9 (x + 3) (fun n => x + 204 + 2 * n) (fun n => cr S9 (x + 204 + 2 * n + 1) k) 5) w := Value.long.inj (Option.some.inj hv)
      have hT := hRc.thr (v := 0)
      have hs := hT.out (r := r) hk
      rw [← hS, ← hS2] at hs
      have hli := LI.go hR hk hn hc (by rw [hS2]; exact MT.wO MT.refl) hs
      refine ⟨_, hv2, hs.2.2.1, hli, by rw [hS2, gI_s], (li_ot hli).1, (li_ot hli).2, fun _ => ?_⟩
      rw [e, seV_eq hT hk8, ← hr, hS2, gJ_sI, hS, gJ_s]
  · obtain rfl : S1 = S := hS
    refine ⟨1, _, rfl, hR.2.2.1, c_X7_seat l N0 D cy S1 z (x + 214) t p0 w hR.2.2.1 hR.2.2.2.2.1 (by omega), fun v2 S2 z2 hm => ?_⟩
    obtain ⟨hz2, hm⟩ := hm
    rcases hm with ⟨hb, hv2, rfl⟩ | ⟨hb, -⟩
    · have hli := LI.go hR hk hn CT.refl (MT.wO MT.refl) (hR1.thr (v := 1))
      exact ⟨_, hv2, hR1.thr.2.2.1, hli, gI_s, (li_ot hli).1, (li_ot hli).2, fun q => absurd q (by decide)⟩
    · unfold seX at hb
      rcases hX with hX | hX
      · exact (hX ((rgX 8 7 rfl).mpr (fun q => hb (q.elim Or.inl (fun q => Or.inr (Or.inl q)))))).elim
      · exact (hX ((rgX 3 2 rfl).mpr (fun q => hb (Or.inr (Or.inr q))))).elim
theorem op_part (hls : l.stackTraces = false) (h : LI x J S) (hJ : J + 1 ≤ 512) (p0 : Int64) (w : Int32) : ∃ PW : Option Value → gS → Nat → Prop, gMW l yL_part cL_part 6 (some FieldType.int) [(0, 10, 13, 15)] { frames := 7, cells := 1, slots := 6, locals := 113 } N0 D cy [.ref x, .long p0, .int w, .ref (x + 249)] S sz PW ∧ ∀ v S1 z, PW v S1 z → ∃ (c : Int32) (PM : Option Value → gS → Nat → Prop), v = some (.int c) ∧ mOK S1 (x + 214) ∧ gM l yX7_part cX7_part 6 (some FieldType.long) { frames := 0, cells := 0, slots := 0, locals := 0 } N0 D cy [.ref (x + 214), .long p0, .int w] S1 z PM ∧ ∀ v2 S2 z2, PM v2 S2 z2 → ∃ r2 : Int64, v2 = some (.long r2) ∧ mOK S2 (x + 214) ∧ LI x (J + 1) S2 ∧ gI S2 (x + 214) 0 = c ∧ gK S2 (x + 249) = 10 ∧ gn S2 (x + 249) = 1 ∧ (c = 0 → gJ S2 (x + 249) 0 = r2) := by
  obtain ⟨pm, L, t, G, hR, hk, hn⟩ := h
  have hR1 := hR.mono (Nat.le_succ J) hJ
  have hlay := hR.base.1
  have hpm := hR.cpm
  have hL := hR.bd.1
  refine ⟨_, w_part l N0 D cy S sz x (x + 249) p0 w _ _ hlay.1 (c_X6_part l hls N0 D cy S sz x p0 w) (fun E S1 q => q.2.1) (fun v S1 z q => ?_), fun v S1 z hw => ?_⟩
  · obtain ⟨_, rfl, _, _, hv⟩ := q
    exact ⟨⟨_, hv⟩, hk, hn⟩
  rcases hw with ⟨r, S9, rfl, ⟨hz, rfl, hp, hw6, hv⟩, hS⟩ | ⟨rfl, hS, -, hX⟩
  · have hc : CT x S9 S1 := by rw [hS]; exact CT.out CT.refl
    have hRc := hR1.cc hc
    have hr : r = cpV p0 w := Value.long.inj (Option.some.inj hv)
    refine ⟨0, _, rfl, hRc.2.2.1, c_X7_part l N0 D cy S1 z (x + 214) p0 w hRc.2.2.1, fun v2 S2 z2 hm => ?_⟩
    obtain ⟨hz2, hm⟩ := hm
    rcases hm with ⟨hb, -⟩ | ⟨hb, hv2, hS2⟩
    · exact (hb.elim hp ((rgX 3 2 rfl).mp hw6)).elim
    · have hs := (hRc.thr (v := 0)).out (r := r) hk
      rw [← hS, ← hS2] at hs
      have hli := LI.go hR hk hn hc (by rw [hS2]; exact MT.wO MT.refl) hs
      refine ⟨_, hv2, hs.2.2.1, hli, by rw [hS2, gI_s], (li_ot hli).1, (li_ot hli).2, fun _ => ?_⟩
      rw [hS2, gJ_sI, hS, gJ_s, hr, ptV_eq hp]
  · obtain rfl : S1 = S := hS
    refine ⟨1, _, rfl, hR.2.2.1, c_X7_part l N0 D cy S1 z (x + 214) p0 w hR.2.2.1, fun v2 S2 z2 hm => ?_⟩
    obtain ⟨hz2, hm⟩ := hm
    rcases hm with ⟨hb, hv2, rfl⟩ | ⟨hb, -⟩
    · have hli := LI.go hR hk hn CT.refl (MT.wO MT.refl) (hR1.thr (v := 1))
      exact ⟨_, hv2, hR1.thr.2.2.1, hli, gI_s, (li_ot hli).1, (li_ot hli).2, fun q => absurd q (by decide)⟩
    · rcases hX with hX | hX
      · exact (hb (Or.inl hX)).elim
      · exact (hX ((rgX 3 2 rfl).mpr (fun q => hb (Or.inr q)))).elim
end OPV
