set_option linter.constructorNameAsVariable false
/-! The operations that give no answer. -/
theorem nI8 {Q i : Nat} : 8 * nI Q + nI i = nI (8 * Q + i) := by
  rw [← nI_add]
  congr 1
  exact (Int32.ofNat_mul 8 Q).symm
section OPS
variable {S T S1 : gS} {x o : Nat} {pm : Nat → Nat} {L t J i : Nat} {G : Nat → R3}
theorem RS.rdy (h : RS S T x o pm L t J G) (hi : i < 8) : (gR S (x + 188 + 2 * i) 11 = none ↔ gI T (o + 27) i = 0) ∧ gI T (o + 18) i = gI S (x + 188 + 2 * i) 3 ∧ (gI T (o + 27) i = 0 ∨ gI T (o + 27) i = 1) ∧ gI S (x + 188 + 2 * i) 0 = nI i := by
  obtain ⟨clk, lt, gv, ph, ls, bl, cn, fl, lc, q, tl, sn, ws, hd, prl, cnt, rch, wS, wT, wF, rdy, hS, hT, fi, gT, gC, hc, hm, a1, a2, a3, a4, a5, a6, a7, a8, a9, a10⟩ := h.iq hi
  obtain ⟨c0, c1, c2, c3, c4, c5, c6, c7, c8, c9, c10, c11, c12, c13⟩ := ci_inv hc
  obtain ⟨m0, m1, m2, m3, m4, m5, m6, m7, m8, m9, m10, m11, m12, m13, m14, m15, m16, m17⟩ := mi_inv hm
  refine ⟨?_, m1.trans c2.symm, ?_, c0⟩
  · rw [m10]
    rcases a6 with ⟨e, e2⟩ | ⟨e, g, e2, _⟩
    · rw [e]
      exact ⟨fun _ => rfl, fun _ => Option.map_eq_none_iff.mp (c10.trans e2)⟩
    · rw [e2] at c10
      constructor
      · intro q; rw [q] at c10; cases c10
      · intro q; rw [e] at q; exact absurd q (by decide)
  · rw [m10]
    rcases a6 with ⟨e, _⟩ | ⟨e, _⟩
    · exact Or.inl e
    · exact Or.inr e
theorem sim_pl {q : Nat} (h : RS S T x o pm L t J G) (hi : i < 8) (hq1 : 1 ≤ q) (hqa : q ≤ attF (mi T o) i) : ∀ n, n ≤ 5 → L + n ≤ 90 → RS (cPL S (x + 4) (fun k => x + 6 + 2 * pm k) L (nI i) (nI (8 * q + i)) n) (mPL T o L i (nI (8 * q + i)) n) x o pm (L + n) t J G ∧ mi (mPL T o L i (nI (8 * q + i)) n) o = mi T o
  | 0, _, _ => ⟨h, rfl⟩
  | n + 1, h5, hL => by
    obtain ⟨h1, h2⟩ := sim_pl h hi hq1 hqa n (by omega) (by omega)
    refine ⟨sim_send h1 (Or.inl rfl) (by omega) hi (by omega) hq1 (by rw [h2]; exact hqa), ?_⟩
    show mi (mSend (mPL T o L i (nI (8 * q + i)) n) o (L + n) 0 (nI i) (nI n) (nI (8 * q + i)) 0) o = mi T o
    rw [mi_S, h2]
theorem sim_att {pv : Int32} (h : RS S T x o pm L t J G) (hJ : J + 1 ≤ 512) (hi : i < 8) (hL : L + 5 ≤ 90) (hp : gI T (o + 27) i = pv) : RS (cPL (cPrep S (x + 188 + 2 * i) (x + 188 + 2 * i + 1) (x + 3)) (x + 4) (fun k => x + 6 + 2 * pm k) L (gI S (x + 188 + 2 * i) 0) (8 * cRound S (x + 188 + 2 * i) + gI S (x + 188 + 2 * i) 0) 5) (mAtt T o L i pv) x o pm (L + 5) t (J + 1) G := by
  obtain ⟨clk, lt, gv, ph, ls, bl, cn, fl, lc, q, tl, sn, ws, hd, prl, cnt, rch, wS, wT, wF, rdy, hS, hT, fi, gT, gC, hc, hm, a1, a2, a3, a4, a5, a6, a7, a8, a9, a10⟩ := h.iq hi
  obtain ⟨c0, c1, c2, c3, c4, c5, c6, c7, c8, c9, c10, c11, c12, c13⟩ := ci_inv hc
  obtain ⟨m0, m1, m2, m3, m4, m5, m6, m7, m8, m9, m10, m11, m12, m13, m14, m15, m16, m17⟩ := mi_inv hm
  obtain ⟨Q, hQ, e1, e2, hqQ⟩ : ∃ Q, Q ≤ J + 1 ∧ cRound S (x + 188 + 2 * i) = nI Q ∧ attA T o i = nI Q ∧ q < Q := by
    unfold cRound attA
    rw [c3, c4, m3, m4]
    rcases a4 with e | ⟨e, e9⟩
    · rw [e]
      by_cases hlt : q + 1 ≤ tl
      · refine ⟨tl + 1, by omega, ?_, ?_, by omega⟩
        · rw [← nI_succ, if_pos ((nI_ltI (by omega) (by omega)).mpr (by omega))]
        · rw [← nI_succ, ← nI_succ, if_pos ((nI_leI (by omega) (by omega)).mpr hlt)]
      · refine ⟨q + 1, by omega, ?_, ?_, by omega⟩
        · rw [← nI_succ, if_neg (fun h9 => hlt (by have := (nI_ltI (by omega) (by omega)).mp h9; omega))]
        · rw [← nI_succ, if_neg (fun h9 => hlt ((nI_leI (by omega) (by omega)).mp h9))]
    · rw [e, e9]
      refine ⟨q + 1, by omega, ?_, ?_, by omega⟩
      · rw [← nI_succ, if_neg (Int32.not_lt.mpr (nI_pos' (by omega)))]
      · rw [← nI_succ, if_neg (fun h9 => by have := (nI_leI (a := q + 1) (b := 0) (by omega) (by decide)).mp h9; omega)]
  have hat : attF (mi T o) i = q := by rw [attF_mi, m3, nI_clamp (by omega)]
  have hb6 : 8 * cRound S (x + 188 + 2 * i) + gI S (x + 188 + 2 * i) 0 = nI (8 * Q + i) := by rw [e1, c0, nI8]
  have hb7 : 8 * attA T o i + nI i = nI (8 * Q + i) := by rw [e2, nI8]
  have h1 := sim_prep (h.mono (Nat.le_succ J) hJ) hi e1 e2 hb6 hQ (by rw [hat]; exact hqQ) hp
  unfold mAtt cPrep
  rw [hb7]
  have h2 : RS (sRow (sI (sI (sI (sI S (x + 188 + 2 * i) 4 (cRound S (x + 188 + 2 * i))) (x + 188 + 2 * i) 6 (8 * cRound S (x + 188 + 2 * i) + gI S (x + 188 + 2 * i) 0)) (x + 188 + 2 * i) 3 1) (x + 188 + 2 * i) 7 0) (x + 188 + 2 * i + 1) 8 (fun _ => some (x + 3))) (mAtt0 T o i pv) x o pm L t (J + 1) G := h1
  have hat2 : attF (mi (mAtt0 T o i pv) o) i = Q := by
    unfold mAtt0
    rw [attF_mi, gI_mFg, if_neg (by omega), gI_a (by omega), gI_a (by omega), gI_s, e2, nI_clamp (by omega)]
  have h3 := (sim_pl h2 hi (q := Q) (by omega) (by rw [hat2]; exact Nat.le_refl _) 5 (Nat.le_refl _) hL).1
  rw [c0] at h3 ⊢
  rw [show 8 * cRound S (x + 188 + 2 * i) + nI i = nI (8 * Q + i) from by rw [e1, nI8]] at h3 ⊢
  exact h3
end OPS
theorem at_pl {T : gS} {o L i : Nat} {bl : Int32} {f : Nat} (hf : f ≠ 1) : ∀ n, gI (mPL T o L i bl n) o f = gI T o f
  | 0 => rfl
  | n + 1 => by
    show gI (mSend (mPL T o L i bl n) o (L + n) 0 (nI i) (nI n) bl 0) o f = gI T o f
    rw [so_S hf, at_pl hf n]
theorem at_thr {T : gS} {o L i : Nat} {pv : Int32} : gI (mAtt T o L i pv) o 0 = gI T o 0 := by
  unfold mAtt mAtt0
  rw [at_pl (by decide), gI_mFg, if_neg (by omega), gI_a (by omega), gI_a (by omega), gI_a (by omega)]
theorem n5 {p0 : Int32} {k : Nat} (h : ¬ (0 ≤ p0 ∧ p0 < 5)) (hk : k < 5) (e : p0 = nI k) : False := h (by rw [e]; exact ⟨nI_pos' (by omega), (nI_ltI (b := 5) (by omega) (by decide)).mpr hk⟩)
theorem n5x {p0 : Int32} {k : Nat} (h : p0 < 0 ∨ 4 < p0) (hk : k < 5) (e : p0 = nI k) : False := by
  rw [e] at h
  rcases h with h | h
  · exact absurd h (Int32.not_lt.mpr (nI_pos' (by omega)))
  · have := (nI_ltI (a := 4) (by decide) (by omega)).mp h
    omega
theorem ct_take {S : gS} {x k : Nat} {lt : Nat → Nat} : CT x S (cTake S (x + 4) (x + 5) lt k) := CT.wI (CT.wW CT.refl ⟨by omega, by omega⟩) ⟨by omega, by omega⟩
section OPL
variable {S : gS} {x J : Nat} (l : Launch) (N0 : Nat) (D : va_G) (cy : Nat → ClassId) (sz : Nat)
theorem op_clock (hls : l.stackTraces = false) (h : LI x J S) (hJ : J + 1 ≤ 512) (p0 : Int32) (p1 : Int64) : ∃ PW : Option Value → gS → Nat → Prop, gMW l yL_clock cL_clock 5 (some FieldType.int) [(0, 6, 9, 13), (0, 6, 13, 15)] { frames := 7, cells := 1, slots := 6, locals := 113 } N0 D cy [.ref x, .int p0, .long p1] S sz PW ∧ ∀ v S1 z, PW v S1 z → ∃ (c : Int32) (PM : Option Value → gS → Nat → Prop), v = some (.int c) ∧ mOK S1 (x + 214) ∧ gM l yX7_clock cX7_clock 4 (none : Option FieldType) { frames := 1, cells := 0, slots := 0, locals := 30 } N0 D cy [.ref (x + 214), .int p0, .long p1] S1 z PM ∧ ∀ v2 S2 z2, PM v2 S2 z2 → v2 = none ∧ mOK S2 (x + 214) ∧ LI x (J + 1) S2 ∧ gI S2 (x + 214) 0 = c := by
  obtain ⟨pm, L, t, G, hR, hk, hn⟩ := h
  have hR1 := hR.mono (Nat.le_succ J) hJ
  have hlay := hR.base.1
  have hpm := hR.cpm
  have hL := hR.bd.1
  refine ⟨_, w_clock l N0 D cy S sz x p0 p1 _ _ hlay.1 (c_X6_clock l hls N0 D cy S sz x (x + 1) (fun k => x + 188 + 2 * k) hlay.1 hlay.2.1 hlay.2.2.2.2.1 hlay.2.2.2.2.2.1 (fun k hk => ⟨(hR.cis hk).1, (hR.cis hk).2.1⟩) p0 p1) (fun E S1 q => ?_) (fun v S1 z q => q.1), fun v S1 z hw => ?_⟩
  · rcases q.2 with ⟨e, _⟩ | ⟨e, _⟩
    · exact Or.inl e
    · exact Or.inr e
  rcases hw with ⟨rfl, -, hz, k, hk8, e, hu, hS⟩ | ⟨rfl, hS, hX⟩ | ⟨rfl, hS, hX⟩
  · have hS : S1 = sJ S (x + 188 + 2 * k) 2 p1 := hS
    have hc : CT x S S1 := by rw [hS]; exact CT.wJ CT.refl ⟨by omega, by omega⟩
    have hRc := hR1.cc hc
    refine ⟨0, _, rfl, hRc.2.2.1, c_X7_clock l N0 D cy S1 z (x + 214) p0 p1 hRc.2.2.1, fun v2 S2 z2 hm => ?_⟩
    obtain ⟨rfl, hz2, hm⟩ := hm
    rcases hm with ⟨hb, -⟩ | ⟨j, hj, e2, hb, -⟩ | ⟨j, hj, e2, hb, hS2⟩
    · exact (n8 hb hk8 e).elim
    · exact (hu hb).elim
    · obtain rfl := nK (by omega) (by omega) e e2
      have hs := sim_clock (hRc.thr (v := 0)) hj hu
      rw [← hS, ← hS2] at hs
      exact ⟨rfl, hs.2.2.1, LI.go hR hk hn hc (by rw [hS2]; exact MT.wJ (MT.wO MT.refl)) hs, by rw [hS2, gI_sJ, gI_s]⟩
  · obtain rfl : S1 = S := hS
    have hX : ¬ (0 ≤ p0 ∧ p0 < 8) := by
      rcases hX with ⟨_, h⟩ | ⟨h, _⟩
      · exact h
      · exact absurd h exOA
    refine ⟨1, _, rfl, hR.2.2.1, c_X7_clock l N0 D cy S1 z (x + 214) p0 p1 hR.2.2.1, fun v2 S2 z2 hm => ?_⟩
    obtain ⟨rfl, hz2, hm⟩ := hm
    rcases hm with ⟨hb, rfl⟩ | ⟨j, hj, e2, hb, -⟩ | ⟨j, hj, e2, hb, hS2⟩
    · exact ⟨rfl, hR1.thr.2.2.1, LI.go hR hk hn CT.refl (MT.wO MT.refl) hR1.thr, gI_s⟩
    · exact (n8 hX hj e2).elim
    · exact (n8 hX hj e2).elim
  · obtain rfl : S1 = S := hS
    obtain ⟨k, hk8, e, hu⟩ : ∃ k, k < 8 ∧ p0 = nI k ∧ (p1 < 0 ∨ 2199023255551 < p1) := by
      rcases hX with ⟨h, _⟩ | ⟨_, h⟩
      · exact absurd h.symm exOA
      · exact h
    refine ⟨2, _, rfl, hR.2.2.1, c_X7_clock l N0 D cy S1 z (x + 214) p0 p1 hR.2.2.1, fun v2 S2 z2 hm => ?_⟩
    obtain ⟨rfl, hz2, hm⟩ := hm
    rcases hm with ⟨hb, -⟩ | ⟨j, hj, e2, hb, rfl⟩ | ⟨j, hj, e2, hb, hS2⟩
    · exact (n8 hb hk8 e).elim
    · exact ⟨rfl, hR1.thr.thr.2.2.1, LI.go hR hk hn CT.refl (MT.wO (MT.wO MT.refl)) hR1.thr.thr, gI_s⟩
    · exact (hb hu).elim
theorem op_start (hls : l.stackTraces = false) (h : LI x J S) (hJ : J + 1 ≤ 512) (p0 : Int32) : ∃ PW : Option Value → gS → Nat → Prop, gMW l yL_start cL_start 3 (some FieldType.int) [(0, 5, 8, 13), (0, 5, 11, 21)] { frames := 7, cells := 1, slots := 6, locals := 132 } N0 D cy [.ref x, .int p0] S sz PW ∧ ∀ v S1 z, PW v S1 z → ∃ (c : Int32) (PM : Option Value → gS → Nat → Prop), v = some (.int c) ∧ mOK S1 (x + 214) ∧ gM l yX7_start cX7_start 2 (none : Option FieldType) { frames := 3, cells := 0, slots := 0, locals := 120 } N0 D cy [.ref (x + 214), .int p0] S1 z PM ∧ ∀ v2 S2 z2, PM v2 S2 z2 → v2 = none ∧ mOK S2 (x + 214) ∧ LI x (J + 1) S2 ∧ gI S2 (x + 214) 0 = c := by
  obtain ⟨pm, L, t, G, hR, hk, hn⟩ := h
  have hR1 := hR.mono (Nat.le_succ J) hJ
  have hlay := hR.base.1
  have hpm := hR.cpm
  have hL := hR.bd.1
  refine ⟨_, w_start l N0 D cy S sz x p0 _ _ hlay.1 (c_X6_start l hls N0 D cy S sz x (x + 1) (fun k => x + 188 + 2 * k) hlay.1 hlay.2.1 hlay.2.2.2.2.1 hlay.2.2.2.2.2.1 (fun k hk => ⟨(hR.cis hk).1, (hR.cis hk).2.1⟩) (x + 4) (x + 5) L (fun k => x + 6 + 2 * pm k) hR.base.2.2.1 hR.base.2.2.2.1 hR.base.2.2.2.2.1 hR.base.2.2.2.2.2.1 hR.base.2.2.2.2.2.2 hR.2.1 hL hpm.2.2 (fun k => (hR.clt (hpm.1 k)).1) (x + 3) (fun k => x + 188 + 2 * k + 1) (fun k hk => (hR.cis hk).2.2.1) hlay.2.2.2.2.2.2.2.2 (fun k hk => ⟨(hR.cis hk).2.2.2.1, (hR.cis hk).2.2.2.2.1, (hR.cis hk).2.2.2.2.2.1⟩) p0) (fun E S1 q => ?_) (fun v S1 z q => q.1), fun v S1 z hw => ?_⟩
  · rcases q.2 with ⟨e, _⟩ | ⟨e, _⟩
    · exact Or.inl e
    · exact Or.inr e
  rcases hw with ⟨rfl, -, hz, k, hk8, e, hu, hS⟩ | ⟨rfl, hS, hX⟩ | ⟨rfl, hS, hX⟩
  · have hS : S1 = cPL (cPrep S (x + 188 + 2 * k) (x + 188 + 2 * k + 1) (x + 3)) (x + 4) (fun k => x + 6 + 2 * pm k) L (gI S (x + 188 + 2 * k) 0) (8 * cRound S (x + 188 + 2 * k) + gI S (x + 188 + 2 * k) 0) 5 := hS
    have hc : CT x S S1 := by
      rw [hS]
      exact CT.pl (CT.wW (CT.wI (CT.wI (CT.wI (CT.wI CT.refl ⟨by omega, by omega⟩) ⟨by omega, by omega⟩) ⟨by omega, by omega⟩) ⟨by omega, by omega⟩) ⟨by omega, by omega⟩) ⟨by omega, by omega⟩ (fun k => ⟨by have := hpm.1 k; omega, by have := hpm.1 k; omega⟩) 5
    have hRc := hR.cc hc
    have heq : ∀ k, k < 8 → ((gR S (x + 188 + 2 * k) 11 ≠ none ∨ gI S (x + 188 + 2 * k) 3 ≠ 0 ∨ 90 < L + 5) ↔ (gI S1 (x + 214 + 27) k ≠ 0 ∨ gI S1 (x + 214 + 18) k ≠ 0 ∨ 90 < L + 5)) := fun k hk => by
      obtain ⟨b1, b2, b3, b4⟩ := hRc.rdy hk
      rw [b2, ne_eq, ne_eq, b1]
    refine ⟨0, _, rfl, hRc.2.2.1, c_X7_start l N0 D cy S1 z (x + 214) L p0 hRc.2.2.1 hRc.2.2.2.1 hL, fun v2 S2 z2 hm => ?_⟩
    obtain ⟨rfl, hz2, hm⟩ := hm
    rcases hm with ⟨hb, -⟩ | ⟨j, hj, e2, hb, -⟩ | ⟨j, hj, e2, hb, hS2⟩
    · exact (n8 hb hk8 e).elim
    · obtain rfl := nK (by omega) (by omega) e e2
      exact (hu ((heq _ hj).mpr hb)).elim
    · obtain rfl := nK (by omega) (by omega) e e2
      have h27 : gI S1 (x + 214 + 27) j = 0 := by
        rcases (hRc.rdy hj).2.2.1 with q | q
        · exact q
        · exact absurd (Or.inl (by rw [q]; decide)) hb
      have hs := sim_att (pv := 0) (hRc.thr (v := 0)) hJ hj (by have : ¬ 90 < L + 5 := fun q => hb (Or.inr (Or.inr q)); omega) (by rw [gI_a (by omega)]; exact h27)
      rw [← hS, ← hS2] at hs
      refine ⟨rfl, hs.2.2.1, LI.go hR hk hn hc (by rw [hS2]; exact MT.att (MT.wO MT.refl)) hs, ?_⟩
      rw [hS2, at_thr, gI_s]
  · obtain rfl : S1 = S := hS
    have hX : ¬ (0 ≤ p0 ∧ p0 < 8) := by
      rcases hX with ⟨_, h⟩ | ⟨h, _⟩
      · exact h
      · exact absurd h exOS
    refine ⟨1, _, rfl, hR.2.2.1, c_X7_start l N0 D cy S1 z (x + 214) L p0 hR.2.2.1 hR.2.2.2.1 hL, fun v2 S2 z2 hm => ?_⟩
    obtain ⟨rfl, hz2, hm⟩ := hm
    rcases hm with ⟨hb, rfl⟩ | ⟨j, hj, e2, hb, -⟩ | ⟨j, hj, e2, hb, hS2⟩
    · exact ⟨rfl, hR1.thr.2.2.1, LI.go hR hk hn CT.refl (MT.wO MT.refl) hR1.thr, gI_s⟩
    · exact (n8 hX hj e2).elim
    · exact (n8 hX hj e2).elim
  · obtain rfl : S1 = S := hS
    have hRc := hR
    obtain ⟨k, hk8, e, hu⟩ : ∃ k, k < 8 ∧ p0 = nI k ∧ (gR S1 (x + 188 + 2 * k) 11 ≠ none ∨ gI S1 (x + 188 + 2 * k) 3 ≠ 0 ∨ 90 < L + 5) := by
      rcases hX with ⟨h, _⟩ | ⟨_, h⟩
      · exact absurd h.symm exOS
      · exact h
    have heq : ∀ k, k < 8 → ((gR S1 (x + 188 + 2 * k) 11 ≠ none ∨ gI S1 (x + 188 + 2 * k) 3 ≠ 0 ∨ 90 < L + 5) ↔ (gI S1 (x + 214 + 27) k ≠ 0 ∨ gI S1 (x + 214 + 18) k ≠ 0 ∨ 90 < L + 5)) := fun k hk => by
      obtain ⟨b1, b2, b3, b4⟩ := hRc.rdy hk
      rw [b2, ne_eq, ne_eq, b1]
    refine ⟨2, _, rfl, hR.2.2.1, c_X7_start l N0 D cy S1 z (x + 214) L p0 hR.2.2.1 hR.2.2.2.1 hL, fun v2 S2 z2 hm => ?_⟩
    obtain ⟨rfl, hz2, hm⟩ := hm
    rcases hm with ⟨hb, -⟩ | ⟨j, hj, e2, hb, rfl⟩ | ⟨j, hj, e2, hb, hS2⟩
    · exact (n8 hb hk8 e).elim
    · exact ⟨rfl, hR1.thr.thr.2.2.1, LI.go hR hk hn CT.refl (MT.wO (MT.wO MT.refl)) hR1.thr.thr, gI_s⟩
    · obtain rfl := nK (by omega) (by omega) e e2
      exact (hb ((heq _ hj).mp hu)).elim
theorem op_prolong (hls : l.stackTraces = false) (h : LI x J S) (hJ : J + 1 ≤ 512) (p0 : Int32) : ∃ PW : Option Value → gS → Nat → Prop, gMW l yL_prolong cL_prolong 3 (some FieldType.int) [(0, 5, 8, 13), (0, 5, 11, 21)] { frames := 7, cells := 1, slots := 6, locals := 132 } N0 D cy [.ref x, .int p0] S sz PW ∧ ∀ v S1 z, PW v S1 z → ∃ (c : Int32) (PM : Option Value → gS → Nat → Prop), v = some (.int c) ∧ mOK S1 (x + 214) ∧ gM l yX7_prolong cX7_prolong 2 (none : Option FieldType) { frames := 3, cells := 0, slots := 0, locals := 120 } N0 D cy [.ref (x + 214), .int p0] S1 z PM ∧ ∀ v2 S2 z2, PM v2 S2 z2 → v2 = none ∧ mOK S2 (x + 214) ∧ LI x (J + 1) S2 ∧ gI S2 (x + 214) 0 = c := by
  obtain ⟨pm, L, t, G, hR, hk, hn⟩ := h
  have hR1 := hR.mono (Nat.le_succ J) hJ
  have hlay := hR.base.1
  have hpm := hR.cpm
  have hL := hR.bd.1
  refine ⟨_, w_prolong l N0 D cy S sz x p0 _ _ hlay.1 (c_X6_prolong l hls N0 D cy S sz x (x + 1) (fun k => x + 188 + 2 * k) hlay.1 hlay.2.1 hlay.2.2.2.2.1 hlay.2.2.2.2.2.1 (fun k hk => ⟨(hR.cis hk).1, (hR.cis hk).2.1⟩) (x + 4) (x + 5) L (fun k => x + 6 + 2 * pm k) hR.base.2.2.1 hR.base.2.2.2.1 hR.base.2.2.2.2.1 hR.base.2.2.2.2.2.1 hR.base.2.2.2.2.2.2 hR.2.1 hL hpm.2.2 (fun k => (hR.clt (hpm.1 k)).1) (x + 3) (fun k => x + 188 + 2 * k + 1) (fun k hk => (hR.cis hk).2.2.1) hlay.2.2.2.2.2.2.2.2 (fun k hk => ⟨(hR.cis hk).2.2.2.1, (hR.cis hk).2.2.2.2.1, (hR.cis hk).2.2.2.2.2.1⟩) p0) (fun E S1 q => ?_) (fun v S1 z q => q.1), fun v S1 z hw => ?_⟩
  · rcases q.2 with ⟨e, _⟩ | ⟨e, _⟩
    · exact Or.inl e
    · exact Or.inr e
  rcases hw with ⟨rfl, -, hz, k, hk8, e, hu, hS⟩ | ⟨rfl, hS, hX⟩ | ⟨rfl, hS, hX⟩
  · have hS : S1 = cPL (cPrep S (x + 188 + 2 * k) (x + 188 + 2 * k + 1) (x + 3)) (x + 4) (fun k => x + 6 + 2 * pm k) L (gI S (x + 188 + 2 * k) 0) (8 * cRound S (x + 188 + 2 * k) + gI S (x + 188 + 2 * k) 0) 5 := hS
    have hc : CT x S S1 := by
      rw [hS]
      exact CT.pl (CT.wW (CT.wI (CT.wI (CT.wI (CT.wI CT.refl ⟨by omega, by omega⟩) ⟨by omega, by omega⟩) ⟨by omega, by omega⟩) ⟨by omega, by omega⟩) ⟨by omega, by omega⟩) ⟨by omega, by omega⟩ (fun k => ⟨by have := hpm.1 k; omega, by have := hpm.1 k; omega⟩) 5
    have hRc := hR.cc hc
    have heq : ∀ k, k < 8 → ((gR S (x + 188 + 2 * k) 11 = none ∨ gI S (x + 188 + 2 * k) 3 ≠ 0 ∨ 90 < L + 5) ↔ (gI S1 (x + 214 + 27) k = 0 ∨ gI S1 (x + 214 + 18) k ≠ 0 ∨ 90 < L + 5)) := fun k hk => by
      obtain ⟨b1, b2, b3, b4⟩ := hRc.rdy hk
      rw [b2, b1]
    refine ⟨0, _, rfl, hRc.2.2.1, c_X7_prolong l N0 D cy S1 z (x + 214) L p0 hRc.2.2.1 hRc.2.2.2.1 hL, fun v2 S2 z2 hm => ?_⟩
    obtain ⟨rfl, hz2, hm⟩ := hm
    rcases hm with ⟨hb, -⟩ | ⟨j, hj, e2, hb, -⟩ | ⟨j, hj, e2, hb, hS2⟩
    · exact (n8 hb hk8 e).elim
    · obtain rfl := nK (by omega) (by omega) e e2
      exact (hu ((heq _ hj).mpr hb)).elim
    · obtain rfl := nK (by omega) (by omega) e e2
      have h27 : gI S1 (x + 214 + 27) j = 1 := by
        rcases (hRc.rdy hj).2.2.1 with q | q
        · exact absurd (Or.inl q) hb
        · exact q
      have hs := sim_att (pv := 1) (hRc.thr (v := 0)) hJ hj (by have : ¬ 90 < L + 5 := fun q => hb (Or.inr (Or.inr q)); omega) (by rw [gI_a (by omega)]; exact h27)
      rw [← hS, ← hS2] at hs
      refine ⟨rfl, hs.2.2.1, LI.go hR hk hn hc (by rw [hS2]; exact MT.att (MT.wO MT.refl)) hs, ?_⟩
      rw [hS2, at_thr, gI_s]
  · obtain rfl : S1 = S := hS
    have hX : ¬ (0 ≤ p0 ∧ p0 < 8) := by
      rcases hX with ⟨_, h⟩ | ⟨h, _⟩
      · exact h
      · exact absurd h exOS
    refine ⟨1, _, rfl, hR.2.2.1, c_X7_prolong l N0 D cy S1 z (x + 214) L p0 hR.2.2.1 hR.2.2.2.1 hL, fun v2 S2 z2 hm => ?_⟩
    obtain ⟨rfl, hz2, hm⟩ := hm
    rcases hm with ⟨hb, rfl⟩ | ⟨j, hj, e2, hb, -⟩ | ⟨j, hj, e2, hb, hS2⟩
    · exact ⟨rfl, hR1.thr.2.2.1, LI.go hR hk hn CT.refl (MT.wO MT.refl) hR1.thr, gI_s⟩
    · exact (n8 hX hj e2).elim
    · exact (n8 hX hj e2).elim
  · obtain rfl : S1 = S := hS
    have hRc := hR
    obtain ⟨k, hk8, e, hu⟩ : ∃ k, k < 8 ∧ p0 = nI k ∧ (gR S1 (x + 188 + 2 * k) 11 = none ∨ gI S1 (x + 188 + 2 * k) 3 ≠ 0 ∨ 90 < L + 5) := by
      rcases hX with ⟨h, _⟩ | ⟨_, h⟩
      · exact absurd h.symm exOS
      · exact h
    have heq : ∀ k, k < 8 → ((gR S1 (x + 188 + 2 * k) 11 = none ∨ gI S1 (x + 188 + 2 * k) 3 ≠ 0 ∨ 90 < L + 5) ↔ (gI S1 (x + 214 + 27) k = 0 ∨ gI S1 (x + 214 + 18) k ≠ 0 ∨ 90 < L + 5)) := fun k hk => by
      obtain ⟨b1, b2, b3, b4⟩ := hRc.rdy hk
      rw [b2, b1]
    refine ⟨2, _, rfl, hR.2.2.1, c_X7_prolong l N0 D cy S1 z (x + 214) L p0 hR.2.2.1 hR.2.2.2.1 hL, fun v2 S2 z2 hm => ?_⟩
    obtain ⟨rfl, hz2, hm⟩ := hm
    rcases hm with ⟨hb, -⟩ | ⟨j, hj, e2, hb, rfl⟩ | ⟨j, hj, e2, hb, hS2⟩
    · exact (n8 hb hk8 e).elim
    · exact ⟨rfl, hR1.thr.thr.2.2.1, LI.go hR hk hn CT.refl (MT.wO (MT.wO MT.refl)) hR1.thr.thr, gI_s⟩
    · obtain rfl := nK (by omega) (by omega) e e2
      exact (hb ((heq _ hj).mp hu)).elim
theorem op_crash (hls : l.stackTraces = false) (h : LI x J S) (hJ : J + 1 ≤ 512) (p0 : Int32) : ∃ PW : Option Value → gS → Nat → Prop, gMW l yL_crash cL_crash 3 (some FieldType.int) [(0, 5, 8, 13)] { frames := 7, cells := 1, slots := 6, locals := 111 } N0 D cy [.ref x, .int p0] S sz PW ∧ ∀ v S1 z, PW v S1 z → ∃ (c : Int32) (PM : Option Value → gS → Nat → Prop), v = some (.int c) ∧ mOK S1 (x + 214) ∧ gM l yX7_crash cX7_crash 2 (none : Option FieldType) { frames := 1, cells := 0, slots := 0, locals := 30 } N0 D cy [.ref (x + 214), .int p0] S1 z PM ∧ ∀ v2 S2 z2, PM v2 S2 z2 → v2 = none ∧ mOK S2 (x + 214) ∧ LI x (J + 1) S2 ∧ gI S2 (x + 214) 0 = c := by
  obtain ⟨pm, L, t, G, hR, hk, hn⟩ := h
  have hR1 := hR.mono (Nat.le_succ J) hJ
  have hlay := hR.base.1
  have hpm := hR.cpm
  have hL := hR.bd.1
  refine ⟨_, w_crash l N0 D cy S sz x p0 _ _ hlay.1 (c_X6_crash l hls N0 D cy S sz x (x + 1) (fun k => x + 188 + 2 * k) hlay.1 hlay.2.1 hlay.2.2.2.2.1 hlay.2.2.2.2.2.1 (fun k hk => ⟨(hR.cis hk).1, (hR.cis hk).2.1⟩) p0) (fun E S1 q => q.2.1) (fun v S1 z q => q.1), fun v S1 z hw => ?_⟩
  rcases hw with ⟨rfl, -, hz, k, hk8, e, hS⟩ | ⟨rfl, hS, -, hX⟩
  · have hS : S1 = sI (sJ (sR (sI (sI S (x + 188 + 2 * k) 3 0) (x + 188 + 2 * k) 5 0) (x + 188 + 2 * k) 11 none) (x + 188 + 2 * k) 12 (-1)) (x + 188 + 2 * k) 13 0 := hS
    have hc : CT x S S1 := by rw [hS]; exact CT.wI (CT.wJ (CT.wR (CT.wI (CT.wI CT.refl ⟨by omega, by omega⟩) ⟨by omega, by omega⟩) ⟨by omega, by omega⟩) ⟨by omega, by omega⟩) ⟨by omega, by omega⟩
    have hRc := hR1.cc hc
    refine ⟨0, _, rfl, hRc.2.2.1, c_X7_crash l N0 D cy S1 z (x + 214) p0 hRc.2.2.1, fun v2 S2 z2 hm => ?_⟩
    obtain ⟨rfl, hz2, hm⟩ := hm
    rcases hm with ⟨hb, -⟩ | ⟨j, hj, e2, hS2⟩
    · exact (n8 hb hk8 e).elim
    · obtain rfl := nK (by omega) (by omega) e e2
      have hs := sim_crash (hRc.thr (v := 0)) hj
      rw [← hS, ← hS2] at hs
      exact ⟨rfl, hs.2.2.1, LI.go hR hk hn hc (by rw [hS2]; exact MT.wI (MT.wI (MT.wI (MT.wO MT.refl)))) hs, by rw [hS2, gI_a (by omega), gI_a (by omega), gI_a (by omega), gI_s]⟩
  · obtain rfl : S1 = S := hS
    refine ⟨1, _, rfl, hR.2.2.1, c_X7_crash l N0 D cy S1 z (x + 214) p0 hR.2.2.1, fun v2 S2 z2 hm => ?_⟩
    obtain ⟨rfl, hz2, hm⟩ := hm
    rcases hm with ⟨hb, rfl⟩ | ⟨j, hj, e2, hS2⟩
    · exact ⟨rfl, hR1.thr.2.2.1, LI.go hR hk hn CT.refl (MT.wO MT.refl) hR1.thr, gI_s⟩
    · exact (n8 hX hj e2).elim
theorem op_node (hls : l.stackTraces = false) (h : LI x J S) (hJ : J + 1 ≤ 512) (p0 u : Int32) (hu : u = 0 ∨ u = 1) : ∃ PW : Option Value → gS → Nat → Prop, gMW l yL_node cL_node 4 (some FieldType.int) [(0, 6, 9, 13)] { frames := 7, cells := 1, slots := 6, locals := 112 } N0 D cy [.ref x, .int p0, .int u] S sz PW ∧ ∀ v S1 z, PW v S1 z → ∃ (c : Int32) (PM : Option Value → gS → Nat → Prop), v = some (.int c) ∧ mOK S1 (x + 214) ∧ gM l yX7_node cX7_node 3 (none : Option FieldType) { frames := 0, cells := 0, slots := 0, locals := 0 } N0 D cy [.ref (x + 214), .int p0, .int u] S1 z PM ∧ ∀ v2 S2 z2, PM v2 S2 z2 → v2 = none ∧ mOK S2 (x + 214) ∧ LI x (J + 1) S2 ∧ gI S2 (x + 214) 0 = c := by
  obtain ⟨pm, L, t, G, hR, hk, hn⟩ := h
  have hR1 := hR.mono (Nat.le_succ J) hJ
  have hlay := hR.base.1
  have hpm := hR.cpm
  have hL := hR.bd.1
  refine ⟨_, w_node l N0 D cy S sz x p0 u _ _ hlay.1 (c_X6_node l hls N0 D cy S sz x (x + 2) (fun n => x + 204 + 2 * n) hlay.1 hlay.2.2.1 hlay.2.2.2.2.2.2.1 hlay.2.2.2.2.2.2.2.1 (fun n hn => ⟨(hR.cnd hn).1, (hR.cnd hn).2.1⟩) p0 u hu) (fun E S1 q => q.2.1) (fun v S1 z q => q.1), fun v S1 z hw => ?_⟩
  rcases hw with ⟨rfl, -, hz, k, hk8, e, hS⟩ | ⟨rfl, hS, -, hX⟩
  · have hS : S1 = sI S (x + 204 + 2 * k) 0 u := hS
    have hc : CT x S S1 := by rw [hS]; exact CT.wI CT.refl ⟨by omega, by omega⟩
    have hRc := hR1.cc hc
    refine ⟨0, _, rfl, hRc.2.2.1, c_X7_node l N0 D cy S1 z (x + 214) p0 u hRc.2.2.1, fun v2 S2 z2 hm => ?_⟩
    obtain ⟨rfl, hz2, hm⟩ := hm
    rcases hm with ⟨hb, -⟩ | ⟨j, hj, e2, hS2⟩
    · exact (n5x hb hk8 e).elim
    · obtain rfl := nK (by omega) (by omega) e e2
      have hs := sim_node (hRc.thr (v := 0)) hj hu
      rw [← hS, ← hS2] at hs
      exact ⟨rfl, hs.2.2.1, LI.go hR hk hn hc (by rw [hS2]; exact MT.wI (MT.wO MT.refl)) hs, by rw [hS2, gI_a (by omega), gI_s]⟩
  · obtain rfl : S1 = S := hS
    refine ⟨1, _, rfl, hR.2.2.1, c_X7_node l N0 D cy S1 z (x + 214) p0 u hR.2.2.1, fun v2 S2 z2 hm => ?_⟩
    obtain ⟨rfl, hz2, hm⟩ := hm
    rcases hm with ⟨hb, rfl⟩ | ⟨j, hj, e2, hS2⟩
    · exact ⟨rfl, hR1.thr.2.2.1, LI.go hR hk hn CT.refl (MT.wO MT.refl) hR1.thr, gI_s⟩
    · exact (n5 hX hj e2).elim
theorem op_lose (hls : l.stackTraces = false) (h : LI x J S) (hJ : J + 1 ≤ 512) (p0 : Int32) : ∃ PW : Option Value → gS → Nat → Prop, gMW l yL_lose cL_lose 3 (some FieldType.int) [(0, 5, 8, 13)] { frames := 7, cells := 1, slots := 6, locals := 111 } N0 D cy [.ref x, .int p0] S sz PW ∧ ∀ v S1 z, PW v S1 z → ∃ (c : Int32) (PM : Option Value → gS → Nat → Prop), v = some (.int c) ∧ mOK S1 (x + 214) ∧ gM l yX7_lose cX7_lose 2 (none : Option FieldType) { frames := 2, cells := 0, slots := 0, locals := 80 } N0 D cy [.ref (x + 214), .int p0] S1 z PM ∧ ∀ v2 S2 z2, PM v2 S2 z2 → v2 = none ∧ mOK S2 (x + 214) ∧ LI x (J + 1) S2 ∧ gI S2 (x + 214) 0 = c := by
  obtain ⟨pm, L, t, G, hR, hk, hn⟩ := h
  have hR1 := hR.mono (Nat.le_succ J) hJ
  have hlay := hR.base.1
  have hpm := hR.cpm
  have hL := hR.bd.1
  refine ⟨_, w_lose l N0 D cy S sz x p0 _ _ hlay.1 (c_X6_lose l hls N0 D cy S sz x hlay.1 (x + 4) (x + 5) L (fun k => x + 6 + 2 * pm k) hR.base.2.2.1 hR.base.2.2.2.1 hR.base.2.2.2.2.1 hR.base.2.2.2.2.2.1 hR.base.2.2.2.2.2.2 hR.2.1 hL hpm.2.2 (fun k => (hR.clt (hpm.1 k)).1) p0) (fun E S1 q => q.2.1) (fun v S1 z q => q.1), fun v S1 z hw => ?_⟩
  rcases hw with ⟨rfl, -, hz, k, hk8, e, hS⟩ | ⟨rfl, hS, -, hX⟩
  · have hS : S1 = cTake S (x + 4) (x + 5) (fun k => x + 6 + 2 * pm k) k := hS
    have hc : CT x S S1 := by rw [hS]; exact ct_take
    have hRc := hR1.cc hc
    refine ⟨0, _, rfl, hRc.2.2.1, c_X7_lose l N0 D cy S1 z (x + 214) L p0 hRc.2.2.1 hRc.2.2.2.1 (by omega), fun v2 S2 z2 hm => ?_⟩
    obtain ⟨rfl, hz2, hm⟩ := hm
    rcases hm with ⟨hb, -⟩ | ⟨j, hj, e2, hS2⟩
    · exact (nL_ (by unfold isL at hb; rw [hRc.2.2.2.1] at hb; exact hb) hL hk8 e).elim
    · obtain rfl := nK (by omega) (by omega) e e2
      have hs := (hRc.thr (v := 0)).take hj
      rw [← hS, ← hS2] at hs
      exact ⟨rfl, hs.2.2.1, LI.go hR hk hn hc (by rw [hS2]; exact MT.rem (MT.wO MT.refl)) hs, by rw [hS2, so_mRem (by decide), gI_s]⟩
  · obtain rfl : S1 = S := hS
    refine ⟨1, _, rfl, hR.2.2.1, c_X7_lose l N0 D cy S1 z (x + 214) L p0 hR.2.2.1 hR.2.2.2.1 (by omega), fun v2 S2 z2 hm => ?_⟩
    obtain ⟨rfl, hz2, hm⟩ := hm
    rcases hm with ⟨hb, rfl⟩ | ⟨j, hj, e2, hS2⟩
    · exact ⟨rfl, hR1.thr.2.2.1, LI.go hR hk hn CT.refl (MT.wO MT.refl) hR1.thr, gI_s⟩
    · exact (nL_ hX hL hj e2).elim
theorem op_twin (hls : l.stackTraces = false) (h : LI x J S) (hJ : J + 1 ≤ 512) (p0 : Int32) : ∃ PW : Option Value → gS → Nat → Prop, gMW l yL_twin cL_twin 3 (some FieldType.int) [(0, 5, 8, 13), (0, 5, 11, 21)] { frames := 7, cells := 1, slots := 6, locals := 111 } N0 D cy [.ref x, .int p0] S sz PW ∧ ∀ v S1 z, PW v S1 z → ∃ (c : Int32) (PM : Option Value → gS → Nat → Prop), v = some (.int c) ∧ mOK S1 (x + 214) ∧ gM l yX7_twin cX7_twin 2 (none : Option FieldType) { frames := 2, cells := 0, slots := 0, locals := 80 } N0 D cy [.ref (x + 214), .int p0] S1 z PM ∧ ∀ v2 S2 z2, PM v2 S2 z2 → v2 = none ∧ mOK S2 (x + 214) ∧ LI x (J + 1) S2 ∧ gI S2 (x + 214) 0 = c := by
  obtain ⟨pm, L, t, G, hR, hk, hn⟩ := h
  have hR1 := hR.mono (Nat.le_succ J) hJ
  have hlay := hR.base.1
  have hpm := hR.cpm
  have hL := hR.bd.1
  refine ⟨_, w_twin l N0 D cy S sz x p0 _ _ hlay.1 (c_X6_twin l hls N0 D cy S sz x hlay.1 (x + 4) (x + 5) L (fun k => x + 6 + 2 * pm k) hR.base.2.2.1 hR.base.2.2.2.1 hR.base.2.2.2.2.1 hR.base.2.2.2.2.2.1 hR.base.2.2.2.2.2.2 hR.2.1 hL hpm.2.2 (fun k => (hR.clt (hpm.1 k)).1) (fun k => x + 6 + 2 * pm k + 1) (fun k => cr S (x + 6 + 2 * pm k) 6) (fun k j => cr S (x + 6 + 2 * pm k + 1) j) (fun i j hi hj e => hpm.2.1 i j hi hj (by have e : x + 6 + 2 * pm i = x + 6 + 2 * pm j := e; omega)) (fun k => ⟨(hR.clt (hpm.1 k)).2.1, (hR.clt (hpm.1 k)).2.2.1, (hR.clt (hpm.1 k)).2.2.2.1⟩) (fun k _ => (hR.clt (hpm.1 k)).2.2.2.2.1.1) (fun k _ j hj => (hR.clt (hpm.1 k)).2.2.2.2.2 j hj) p0) (fun E S1 q => ?_) (fun v S1 z q => q.1), fun v S1 z hw => ?_⟩
  · rcases q.2 with ⟨e, _⟩ | ⟨e, _⟩
    · exact Or.inl e
    · exact Or.inr e
  rcases hw with ⟨rfl, -, hz, k, hk8, e, hu, hS⟩ | ⟨rfl, hS, hX⟩ | ⟨rfl, hS, hX⟩
  · have hS : S1 = cTwin S (x + 4) (x + 6 + 2 * pm L) (x + 6 + 2 * pm k) (x + 6 + 2 * pm L + 1) (cr S (x + 6 + 2 * pm k) 6) (fun j => cr S (x + 6 + 2 * pm k + 1) j) := hS
    have hp := hpm.1 L
    have hc : CT x S S1 := by rw [hS]; exact CT.wW (CT.wR (CT.wI (CT.wI (CT.snd CT.refl ⟨by omega, by omega⟩ ⟨by omega, by omega⟩) ⟨by omega, by omega⟩) ⟨by omega, by omega⟩) ⟨by omega, by omega⟩) ⟨by omega, by omega⟩
    have hRc := hR1.cc hc
    refine ⟨0, _, rfl, hRc.2.2.1, c_X7_twin l N0 D cy S1 z (x + 214) L p0 hRc.2.2.1 hRc.2.2.2.1 (by omega), fun v2 S2 z2 hm => ?_⟩
    obtain ⟨rfl, hz2, hm⟩ := hm
    rcases hm with ⟨hb, -⟩ | ⟨j, hj, e2, hb, -⟩ | ⟨j, hj, e2, hb, hS2⟩
    · exact (nL_ (by unfold isL at hb; rw [hRc.2.2.2.1] at hb; exact hb) hL hk8 e).elim
    · omega
    · obtain rfl := nK (by omega) (by omega) e e2
      have hs := sim_twin (hRc.thr (v := 0)) hj hu
      rw [← hS, ← hS2] at hs
      refine ⟨rfl, hs.2.2.1, LI.go hR hk hn hc (by rw [hS2]; exact MT.wO (MT.cpy (MT.wO MT.refl))) hs, ?_⟩
      rw [hS2, gI_k (by decide)]
      unfold mCopy
      rw [gI_a (by omega), gI_sJ, gI_a (by omega), gI_a (by omega), gI_a (by omega), gI_a (by omega), gI_a (by omega), gI_a (by omega), gI_s]
  · obtain rfl : S1 = S := hS
    have hX : ¬ (0 ≤ p0 ∧ p0 < nI L) := by
      rcases hX with ⟨_, h⟩ | ⟨h, _⟩
      · exact h
      · exact absurd h exOS
    refine ⟨1, _, rfl, hR.2.2.1, c_X7_twin l N0 D cy S1 z (x + 214) L p0 hR.2.2.1 hR.2.2.2.1 (by omega), fun v2 S2 z2 hm => ?_⟩
    obtain ⟨rfl, hz2, hm⟩ := hm
    rcases hm with ⟨hb, rfl⟩ | ⟨j, hj, e2, hb, -⟩ | ⟨j, hj, e2, hb, hS2⟩
    · exact ⟨rfl, hR1.thr.2.2.1, LI.go hR hk hn CT.refl (MT.wO MT.refl) hR1.thr, gI_s⟩
    · exact (nL_ hX hL hj e2).elim
    · exact (nL_ hX hL hj e2).elim
  · obtain rfl : S1 = S := hS
    obtain ⟨k, hk8, e, hu⟩ : ∃ k, k < L ∧ p0 = nI k ∧ 90 < L + 1 := by
      rcases hX with ⟨h, _⟩ | ⟨_, h⟩
      · exact absurd h.symm exOS
      · exact h
    refine ⟨2, _, rfl, hR.2.2.1, c_X7_twin l N0 D cy S1 z (x + 214) L p0 hR.2.2.1 hR.2.2.2.1 (by omega), fun v2 S2 z2 hm => ?_⟩
    obtain ⟨rfl, hz2, hm⟩ := hm
    rcases hm with ⟨hb, -⟩ | ⟨j, hj, e2, hb, rfl⟩ | ⟨j, hj, e2, hb, hS2⟩
    · exact (nL_ (by unfold isL at hb; rw [hR.2.2.2.1] at hb; exact hb) hL hk8 e).elim
    · exact ⟨rfl, hR1.thr.thr.2.2.1, LI.go hR hk hn CT.refl (MT.wO (MT.wO MT.refl)) hR1.thr.thr, gI_s⟩
    · omega
theorem op_letters (h : LI x J S) (hJ : J + 1 ≤ 512) : gK S x = 7 ∧ gR S x 3 = some (x + 4) ∧ gK S (x + 4) = 5 ∧ mOK S (x + 214) ∧ gI S (x + 4) 1 = gI S (x + 214) 1 ∧ LI x (J + 1) (sI S (x + 214) 0 0) := by
  obtain ⟨pm, L, t, G, hR, hk, hn⟩ := h
  have hR1 := hR.mono (Nat.le_succ J) hJ
  exact ⟨hR.base.1.1, hR.base.2.2.1, hR.base.2.2.2.1, hR.2.2.1, hR.2.1.trans hR.2.2.2.1.symm, LI.go hR hk hn CT.refl (MT.wO MT.refl) hR1.thr⟩
end OPL
