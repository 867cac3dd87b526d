set_option linter.constructorNameAsVariable false
section DLC
variable {S : gS} {x J : Nat} (l : Launch) (N0 : Nat) (D : va_G) (cy : Nat → ClassId) (sz : Nat)
theorem ct_hand {pm : Nat → Nat} {k n L : Nat} {rw : Nat} {f : Nat → Nat} {v : Option Value} {S1 : gS} (hn : n < 5) (hp : pm L < 91) (h : cHand (cTake S (x + 4) (x + 5) (fun k => x + 6 + 2 * pm k) k) (x + 204 + 2 * n) (x + 6 + 2 * pm k) (x + 4) (x + 6 + 2 * pm L) (x + 6 + 2 * pm L + 1) (x + 204 + 2 * n + 1) rw f v S1) : (∃ r : Int32, v = some (.int r)) ∧ CT x S S1 := by
  unfold cHand at h
  rcases h with ⟨-, hv, rfl⟩ | ⟨-, -, hv, rfl⟩ | ⟨-, -, hv, rfl⟩
  · exact ⟨⟨_, hv⟩, ct_take⟩
  · refine ⟨⟨_, hv⟩, ?_⟩
    unfold cPrepA
    split
    · exact CT.wW (CT.snd (CT.wI ct_take ⟨by omega, by omega⟩) ⟨by omega, by omega⟩ ⟨by omega, by omega⟩) ⟨by omega, by omega⟩
    · exact CT.wI (CT.snd ct_take ⟨by omega, by omega⟩ ⟨by omega, by omega⟩) ⟨by omega, by omega⟩
  · refine ⟨⟨_, hv⟩, ?_⟩
    unfold cAccA
    split
    · exact CT.wI (CT.snd ct_take ⟨by omega, by omega⟩ ⟨by omega, by omega⟩) ⟨by omega, by omega⟩
    · exact CT.snd (CT.wR (CT.wI ct_take ⟨by omega, by omega⟩) ⟨by omega, by omega⟩) ⟨by omega, by omega⟩ ⟨by omega, by omega⟩
theorem ct_recv {pm : Nat → Nat} {k i w0 : Nat} {f g : Nat → Nat} {S1 : gS} (hi : i < 8) (h : cRecv (cTake S (x + 4) (x + 5) (fun k => x + 6 + 2 * pm k) k) (x + 188 + 2 * i) (x + 188 + 2 * i + 1) (x + 6 + 2 * pm k) w0 f g S1) : CT x S S1 := by
  unfold cRecv at h
  rcases h with ⟨-, -, rfl⟩ | ⟨-, -, -, rfl⟩ | ⟨-, -, -, rfl⟩ | ⟨-, -, -, rfl⟩ | ⟨-, -, -, rfl⟩
  · unfold cCntP
    exact CT.wW (CT.wI ct_take ⟨by omega, by omega⟩) ⟨by omega, by omega⟩
  · exact CT.wI (CT.wJ (CT.wR (CT.wI ct_take ⟨by omega, by omega⟩) ⟨by omega, by omega⟩) ⟨by omega, by omega⟩) ⟨by omega, by omega⟩
  · exact CT.wI ct_take ⟨by omega, by omega⟩
  · exact CT.wI (CT.wI (CT.wI ct_take ⟨by omega, by omega⟩) ⟨by omega, by omega⟩) ⟨by omega, by omega⟩
  · exact ct_take
theorem fr_agr {T T2 : gS} {o i n : Nat} {b : Int32} (h : mAgr T o i n b T2) : gI T2 o 0 = gI T o 0 ∧ MT o T T2 := by
  unfold mAgr at h
  rcases h with ⟨-, rfl⟩ | ⟨-, -, rfl⟩ | ⟨-, -, rfl⟩
  · exact ⟨rfl, MT.refl⟩
  · exact ⟨gI_a (by omega), MT.wI MT.refl⟩
  · refine ⟨?_, MT.rdy MT.refl⟩
    unfold mRdy
    rw [gI_sJ, gI_sJ, gI_a (by omega), gI_a (by omega), gI_a (by omega), gI_a (by omega), gI_a (by omega)]
theorem dl_0 (hls : l.stackTraces = false) {pm : Nat → Nat} {L t k i n q : Nat} {G : Nat → R3} (hR : RS S S x (x + 214) pm L t J G) (hJ : J + 1 ≤ 512) (hk10 : gK S (x + 249) = 10) (hn1 : gn S (x + 249) = 1) (hk : k < L) (hl : lqA S S x (x + 214) k pm t J G i n q) (c0 : gI S (x + 6 + 2 * pm k) 0 = 0) : DLV l N0 D cy sz S x J (nI k) := by
  have hlay := hR.base.1
  have hpm := hR.cpm
  have hbd := hR.bd
  have hL := hbd.1
  obtain ⟨hi, hn, hq, hqa, c1, c2, c3, m0, m1, m2, m3, h9⟩ := hl
  refine dl_core l N0 D cy sz hR hJ hk10 hn1 hk (c_X6_deliverN l hls N0 D cy S sz x hlay.1 (x + 4) (x + 5) L (fun k => x + 6 + 2 * pm k) hR.base.2.2.1 hR.base.2.2.2.1 hR.base.2.2.2.2.1 hR.base.2.2.2.2.2.1 hR.base.2.2.2.2.2.2 hR.2.1 hL hpm.2.2 (fun k => (hR.clt (hpm.1 k)).1) k hk (Or.inl c0) (x + 2) (x + 204 + 2 * n) n (x + 204 + 2 * n + 1) (x + 6 + 2 * pm L + 1) (cr S (x + 6 + 2 * pm k) 6) (fun j => cr S (x + 204 + 2 * n + 1) j) hlay.2.2.1 hlay.2.2.2.2.2.2.1 hlay.2.2.2.2.2.2.2.1 c2 hn (hR.cnd hn).1 (hR.cnd hn).2.1 (hR.cnd hn).2.2.1 (hR.cnd hn).2.2.2.1 (hR.cnd hn).2.2.2.2.1 (hR.cnd hn).2.2.2.2.2 (hR.clt (hpm.1 k)).2.2.2.2.1.1 (hR.clt (hpm.1 k)).2.2.2.2.1.2 (fun q => absurd c0 q) (hR.clt (hpm.1 L)).2.1 (hR.clt (hpm.1 L)).2.2.1 (hR.clt (hpm.1 L)).2.2.2.1) (fun E S1 q => q.elim) (fun v S9 z q => ct_hand hn (hpm.1 L) q.2) (fun r S9 z hp T T2 v2 rc i9 n9 hH => ?_) (fun S9 q => q.elim)
  · obtain ⟨-, hp⟩ := hp
    obtain ⟨hT, ht0, hi9, hn9, e1, e2, hrc, hd⟩ := hH
    obtain ⟨i8, n8, q8, hl8⟩ := lq_all hT hk
    obtain ⟨rfl, rfl⟩ := lq_same (L := L) hl8 hi9 hn9 e1 e2
    obtain ⟨hi8, hn8, hq8, hqa8, b1, b2, b3, p0, p1, p2, p3, h8⟩ := hl8
    obtain rfl : i = i8 := (nI_eq (by omega) (by omega)).mp (c1.symm.trans b1)
    obtain rfl : n = n8 := (nI_eq (by omega) (by omega)).mp (c2.symm.trans b2)
    unfold cHand at hp
    rw [gI_Tk (show x + 204 + 2 * n ≠ x + 4 by omega), gI_Tk (show x + 6 + 2 * pm k ≠ x + 4 by omega), c0] at hp
    rcases hT.nup hn with ⟨u1, u2⟩ | ⟨u1, u2⟩
    · rcases hp with ⟨-, hv, rfl⟩ | ⟨q, -⟩ | ⟨q, -⟩
      · rcases md0 (p0.trans c0) hd with ⟨-, hv2, rfl⟩ | ⟨q, -⟩
        · exact ⟨hv2.trans hv.symm, (so_mRem (by decide)).trans ht0, MT.rem MT.refl, _, _, _, _, hT.take hk⟩
        · rw [u2] at q; exact absurd q (by decide)
      · exact absurd u1 q
      · exact absurd u1 q
    · rcases hp with ⟨q, -⟩ | ⟨-, -, hv, rfl⟩ | ⟨-, q, -⟩
      · rw [u1] at q; exact absurd q (by decide)
      · rcases md0 (p0.trans c0) hd with ⟨q, -⟩ | ⟨-, hv2, rfl⟩
        · exact absurd u2 q
        · refine ⟨hv2.trans hv.symm, ?_, ?_, _, _, _, _, ds_prep hT hk hi hn hq8 hqa8 b1 b2 b3 p3⟩
          · split
            · rw [so_S (by decide), gI_a (by omega), so_mRem (by decide), ht0]
            · rw [so_S (by decide), so_mRem (by decide), ht0]
          · split
            · exact MT.snd (MT.wI (MT.rem MT.refl))
            · exact MT.snd (MT.rem MT.refl)
      · exact absurd rfl q
theorem dl_2 (hls : l.stackTraces = false) {pm : Nat → Nat} {L t k i n q : Nat} {G : Nat → R3} (hR : RS S S x (x + 214) pm L t J G) (hJ : J + 1 ≤ 512) (hk10 : gK S (x + 249) = 10) (hn1 : gn S (x + 249) = 1) (hk : k < L) (hl : lqA S S x (x + 214) k pm t J G i n q) (c0 : gI S (x + 6 + 2 * pm k) 0 = 2) : DLV l N0 D cy sz S x J (nI k) := by
  have hlay := hR.base.1
  have hpm := hR.cpm
  have hbd := hR.bd
  have hL := hbd.1
  obtain ⟨hi, hn, hq, hqa, c1, c2, c3, m0, m1, m2, m3, h9⟩ := hl
  obtain ⟨s0, hs0, es0⟩ : ∃ s, s < 8 ∧ gI S (x + 6 + 2 * pm k) 4 = nI s := by
    rcases h9 with q | ⟨q, -⟩ | ⟨q, s, tm, mk, hs, c4, -⟩ | q | ⟨q, -⟩
    · exact absurd (q.symm.trans c0) (by decide)
    · exact absurd (q.symm.trans c0) (by decide)
    · exact ⟨s, hs, c4⟩
    · exact absurd (q.symm.trans c0) (by decide)
    · exact absurd (q.symm.trans c0) (by decide)
  refine dl_core l N0 D cy sz hR hJ hk10 hn1 hk (c_X6_deliverN l hls N0 D cy S sz x hlay.1 (x + 4) (x + 5) L (fun k => x + 6 + 2 * pm k) hR.base.2.2.1 hR.base.2.2.2.1 hR.base.2.2.2.2.1 hR.base.2.2.2.2.2.1 hR.base.2.2.2.2.2.2 hR.2.1 hL hpm.2.2 (fun k => (hR.clt (hpm.1 k)).1) k hk (Or.inr c0) (x + 2) (x + 204 + 2 * n) n (x + 204 + 2 * n + 1) (x + 6 + 2 * pm L + 1) (cr S (x + 6 + 2 * pm k) 6) (fun j => cr S (x + 204 + 2 * n + 1) j) hlay.2.2.1 hlay.2.2.2.2.2.2.1 hlay.2.2.2.2.2.2.2.1 c2 hn (hR.cnd hn).1 (hR.cnd hn).2.1 (hR.cnd hn).2.2.1 (hR.cnd hn).2.2.2.1 (hR.cnd hn).2.2.2.2.1 (hR.cnd hn).2.2.2.2.2 (hR.clt (hpm.1 k)).2.2.2.2.1.1 (hR.clt (hpm.1 k)).2.2.2.2.1.2 (fun _ => by rw [es0]; exact vp_in_nI hs0 (by decide)) (hR.clt (hpm.1 L)).2.1 (hR.clt (hpm.1 L)).2.2.1 (hR.clt (hpm.1 L)).2.2.2.1) (fun E S1 q => q.elim) (fun v S9 z q => ct_hand hn (hpm.1 L) q.2) (fun r S9 z hp T T2 v2 rc i9 n9 hH => ?_) (fun S9 q => q.elim)
  · obtain ⟨-, hp⟩ := hp
    obtain ⟨hT, ht0, hi9, hn9, e1, e2, hrc, hd⟩ := hH
    obtain ⟨i8, n8, q8, hl8⟩ := lq_all hT hk
    obtain ⟨rfl, rfl⟩ := lq_same (L := L) hl8 hi9 hn9 e1 e2
    obtain ⟨hi8, hn8, hq8, hqa8, b1, b2, b3, p0, p1, p2, p3, h8⟩ := hl8
    obtain rfl : i = i8 := (nI_eq (by omega) (by omega)).mp (c1.symm.trans b1)
    obtain rfl : n = n8 := (nI_eq (by omega) (by omega)).mp (c2.symm.trans b2)
    unfold cHand at hp
    rw [gI_Tk (show x + 204 + 2 * n ≠ x + 4 by omega), gI_Tk (show x + 6 + 2 * pm k ≠ x + 4 by omega), c0] at hp
    obtain ⟨s, tm, mk, hs, c4, c6, m4, m5, m6, hG, hdg⟩ : ∃ s tm mk, s < 8 ∧ gI S (x + 6 + 2 * pm k) 4 = nI s ∧ rcS S (cr S (x + 6 + 2 * pm k) 6) = (nI (8 * q8 + i), nI i, tm, mk) ∧ gI T (x + 214 + 5) k = nI s ∧ gI T (x + 214 + 6) k = tm ∧ gJ T (x + 214 + 7) k = mk ∧ G (8 * q8 + i) = (nI s, tm, mk) ∧ ¬ (dgF (mi T (x + 214)) i = 1 ∧ q8 = attF (mi T (x + 214)) i) := by
      rcases h8 with q | ⟨q, -⟩ | ⟨q, h8⟩ | q | ⟨q, -⟩
      · exact absurd (q.symm.trans c0) (by decide)
      · exact absurd (q.symm.trans c0) (by decide)
      · exact h8
      · exact absurd (q.symm.trans c0) (by decide)
      · exact absurd (q.symm.trans c0) (by decide)
    rcases hT.nup hn with ⟨u1, u2⟩ | ⟨u1, u2⟩
    · rcases hp with ⟨-, hv, rfl⟩ | ⟨q, -⟩ | ⟨q, -⟩
      · rcases md2 (p0.trans c0) hd with ⟨-, hv2, rfl⟩ | ⟨q, -⟩
        · exact ⟨hv2.trans hv.symm, (so_mRem (by decide)).trans ht0, MT.rem MT.refl, _, _, _, _, hT.take hk⟩
        · rw [u2] at q; exact absurd q (by decide)
      · exact absurd u1 q
      · exact absurd u1 q
    · rcases hp with ⟨q, -⟩ | ⟨-, q, -⟩ | ⟨-, -, hv, rfl⟩
      · rw [u1] at q; exact absurd q (by decide)
      · exact absurd q (by decide)
      · rcases md2 (p0.trans c0) hd with ⟨q, -⟩ | ⟨-, hv2, rfl⟩
        · exact absurd u2 q
        · obtain ⟨t', hA⟩ := ds_acc hT (by omega) hk hi hn hs hq8 hqa8 b1 b2 b3 c4 c6 p3 m4 m5 m6 hG hdg
          refine ⟨hv2.trans hv.symm, ?_, ?_, _, _, _, _, hA⟩
          · split
            · rw [so_S (by decide), so_mRem (by decide), ht0]
            · rw [so_S (by decide)]
              unfold mStory
              rw [gI_k (by decide), gI_sJ, gI_a (by omega), gI_a (by omega), gI_a (by omega), gI_a (by omega), gI_a (by omega), gI_a (by omega), so_mRem (by decide), ht0]
          · split
            · exact MT.snd (MT.rem MT.refl)
            · exact MT.snd (MT.sty (MT.wI (MT.rem MT.refl)))
theorem dl_3 (hls : l.stackTraces = false) {pm : Nat → Nat} {L t k i n q : Nat} {G : Nat → R3} (hR : RS S S x (x + 214) pm L t J G) (hJ : J + 1 ≤ 512) (hk10 : gK S (x + 249) = 10) (hn1 : gn S (x + 249) = 1) (hk : k < L) (hl : lqA S S x (x + 214) k pm t J G i n q) (c0 : gI S (x + 6 + 2 * pm k) 0 = 3) : DLV l N0 D cy sz S x J (nI k) := by
  have hlay := hR.base.1
  have hpm := hR.cpm
  have hbd := hR.bd
  have hL := hbd.1
  obtain ⟨hi, hn, hq, hqa, c1, c2, c3, m0, m1, m2, m3, h9⟩ := hl
  have hpk := hpm.1 k
  have hw9 : gI S (x + 188 + 2 * i) 3 = 2 → gR S (x + 188 + 2 * i) 9 = some (cr S (x + 188 + 2 * i) 9) := fun e => by
    obtain ⟨clk, lt, gv, ph0, ls, bl0, cn, fl, lc, q, tl, sn, ws, hd, prl, cnt, rch, wS, wT, wF, rdy, hS, hT, fi, gT, gC, hc, hm, a1, a2, a3, a4, a5, a6, a7, a8, a9, a10⟩ := hR.iq hi
    obtain ⟨d0, d1, d2, d3, d4, d5, d6, d7, d8, d9, d10, d11, d12, d13⟩ := ci_inv hc
    obtain ⟨g, hg, -⟩ := a10 (by rw [← d2]; exact e)
    rcases (hR.cis hi).2.2.2.2.2.2.2.1 with q | ⟨q, -⟩
    · rw [q, hg] at d8; cases d8
    · exact q
  refine dl_core l N0 D cy sz hR hJ hk10 hn1 hk (c_X6_deliverR l hls N0 D cy S sz x hlay.1 (x + 4) (x + 5) L (fun k => x + 6 + 2 * pm k) hR.base.2.2.1 hR.base.2.2.2.1 hR.base.2.2.2.2.1 hR.base.2.2.2.2.2.1 hR.base.2.2.2.2.2.2 hR.2.1 hL hpm.2.2 (fun k => (hR.clt (hpm.1 k)).1) k hk (fun q => by rw [c0] at q; rcases q with q | q <;> exact absurd q (by decide)) (x + 1) (x + 188 + 2 * i) i (x + 188 + 2 * i + 1) (x + 6 + 2 * pm k + 1) (fun j => cr S (x + 188 + 2 * i + 1) j) (fun j => cr S (x + 6 + 2 * pm k + 1) j) hlay.2.1 hlay.2.2.2.2.1 hlay.2.2.2.2.2.1 c1 hi (hR.cis hi).1 (hR.cis hi).2.1 (hR.cis hi).2.2.2.1 (hR.cis hi).2.2.2.2.1 (hR.cis hi).2.2.2.2.2.1 (hR.clt (hpm.1 k)).2.1 (hR.clt (hpm.1 k)).2.2.1 (hR.clt (hpm.1 k)).2.2.2.1 (hR.cis hi).2.2.2.2.2.2.1 (hR.clt (hpm.1 k)).2.2.2.2.2 (fun q => absurd (c0.symm.trans q.1) (by decide)) (by omega) (cr S (x + 188 + 2 * i) 9) hw9) (fun E S1 q => q.elim) (fun v S9 z q => ⟨⟨_, q.1⟩, ct_recv hi q.2.2⟩) (fun r S9 z hp T T2 v2 rc i9 n9 hH => ?_) (fun S9 q => q.elim)
  · obtain ⟨hv, -, hp⟩ := hp
    obtain ⟨hT, ht0, hi9, hn9, e1, e2, hrc, hd⟩ := hH
    obtain ⟨i8, n8, q8, hl8⟩ := lq_all hT hk
    obtain ⟨rfl, rfl⟩ := lq_same (L := L) hl8 hi9 hn9 e1 e2
    obtain ⟨hi8, hn8, hq8, hqa8, b1, b2, b3, p0, p1, p2, p3, h8⟩ := hl8
    obtain rfl : i = i8 := (nI_eq (by omega) (by omega)).mp (c1.symm.trans b1)
    obtain rfl : n = n8 := (nI_eq (by omega) (by omega)).mp (c2.symm.trans b2)
    obtain ⟨hv2, ha⟩ := md3 (p0.trans c0) hd
    have hf := fr_agr ha
    exact ⟨hv2.trans hv.symm, hf.1.trans ((so_mRem (by decide)).trans ht0), TO.trans (MT.rem MT.refl) hf.2, _, _, _, _, ds_yes hT hk hi hn c0 c2 (b3.trans p3.symm) hw9 hp ha⟩
theorem dl_4 (hls : l.stackTraces = false) {pm : Nat → Nat} {L t k i n q : Nat} {G : Nat → R3} (hR : RS S S x (x + 214) pm L t J G) (hJ : J + 1 ≤ 512) (hk10 : gK S (x + 249) = 10) (hn1 : gn S (x + 249) = 1) (hk : k < L) (hl : lqA S S x (x + 214) k pm t J G i n q) (c0 : gI S (x + 6 + 2 * pm k) 0 = 4) : DLV l N0 D cy sz S x J (nI k) := by
  have hlay := hR.base.1
  have hpm := hR.cpm
  have hbd := hR.bd
  have hL := hbd.1
  obtain ⟨hi, hn, hq, hqa, c1, c2, c3, m0, m1, m2, m3, h9⟩ := hl
  have hpk := hpm.1 k
  have hw9 : gI S (x + 188 + 2 * i) 3 = 2 → gR S (x + 188 + 2 * i) 9 = some (cr S (x + 188 + 2 * i) 9) := fun e => by
    obtain ⟨clk, lt, gv, ph0, ls, bl0, cn, fl, lc, q, tl, sn, ws, hd, prl, cnt, rch, wS, wT, wF, rdy, hS, hT, fi, gT, gC, hc, hm, a1, a2, a3, a4, a5, a6, a7, a8, a9, a10⟩ := hR.iq hi
    obtain ⟨d0, d1, d2, d3, d4, d5, d6, d7, d8, d9, d10, d11, d12, d13⟩ := ci_inv hc
    obtain ⟨g, hg, -⟩ := a10 (by rw [← d2]; exact e)
    rcases (hR.cis hi).2.2.2.2.2.2.2.1 with q | ⟨q, -⟩
    · rw [q, hg] at d8; cases d8
    · exact q
  refine dl_core l N0 D cy sz hR hJ hk10 hn1 hk (c_X6_deliverR l hls N0 D cy S sz x hlay.1 (x + 4) (x + 5) L (fun k => x + 6 + 2 * pm k) hR.base.2.2.1 hR.base.2.2.2.1 hR.base.2.2.2.2.1 hR.base.2.2.2.2.2.1 hR.base.2.2.2.2.2.2 hR.2.1 hL hpm.2.2 (fun k => (hR.clt (hpm.1 k)).1) k hk (fun q => by rw [c0] at q; rcases q with q | q <;> exact absurd q (by decide)) (x + 1) (x + 188 + 2 * i) i (x + 188 + 2 * i + 1) (x + 6 + 2 * pm k + 1) (fun j => cr S (x + 188 + 2 * i + 1) j) (fun j => cr S (x + 6 + 2 * pm k + 1) j) hlay.2.1 hlay.2.2.2.2.1 hlay.2.2.2.2.2.1 c1 hi (hR.cis hi).1 (hR.cis hi).2.1 (hR.cis hi).2.2.2.1 (hR.cis hi).2.2.2.2.1 (hR.cis hi).2.2.2.2.2.1 (hR.clt (hpm.1 k)).2.1 (hR.clt (hpm.1 k)).2.2.1 (hR.clt (hpm.1 k)).2.2.2.1 (hR.cis hi).2.2.2.2.2.2.1 (hR.clt (hpm.1 k)).2.2.2.2.2 (fun q => absurd (c0.symm.trans q.1) (by decide)) (by omega) (cr S (x + 188 + 2 * i) 9) hw9) (fun E S1 q => q.elim) (fun v S9 z q => ⟨⟨_, q.1⟩, ct_recv hi q.2.2⟩) (fun r S9 z hp T T2 v2 rc i9 n9 hH => ?_) (fun S9 q => q.elim)
  · obtain ⟨hv, -, hp⟩ := hp
    obtain ⟨hT, ht0, hi9, hn9, e1, e2, hrc, hd⟩ := hH
    obtain ⟨i8, n8, q8, hl8⟩ := lq_all hT hk
    obtain ⟨rfl, rfl⟩ := lq_same (L := L) hl8 hi9 hn9 e1 e2
    obtain ⟨hi8, hn8, hq8, hqa8, b1, b2, b3, p0, p1, p2, p3, h8⟩ := hl8
    obtain rfl : i = i8 := (nI_eq (by omega) (by omega)).mp (c1.symm.trans b1)
    obtain rfl : n = n8 := (nI_eq (by omega) (by omega)).mp (c2.symm.trans b2)
    obtain ⟨hv2, ha⟩ := md4 (p0.trans c0) hd
    obtain ⟨b, hb, c5, m7⟩ : ∃ b, b ≤ 8 * (J + 1) + 7 ∧ gI S (x + 6 + 2 * pm k) 5 = nI b ∧ gI T (x + 214 + 8) k = nI b := by
      rcases h8 with q | ⟨q, -⟩ | ⟨q, -⟩ | q | ⟨q, h8⟩
      · exact absurd (q.symm.trans c0) (by decide)
      · exact absurd (q.symm.trans c0) (by decide)
      · exact absurd (q.symm.trans c0) (by decide)
      · exact absurd (q.symm.trans c0) (by decide)
      · exact h8
    have hs := ds_no hT hk hi c0 (b3.trans p3.symm) c5 m7 hb hp ha
    refine ⟨hv2.trans hv.symm, ?_, ?_, _, _, _, _, hs⟩
    · rcases ha with ⟨-, rfl⟩ | ⟨-, rfl⟩
      · rw [so_mRem (by decide), ht0]
      · unfold mFail
        rw [gI_a (by omega), gI_a (by omega), gI_a (by omega), so_mRem (by decide), ht0]
    · rcases ha with ⟨-, rfl⟩ | ⟨-, rfl⟩
      · exact MT.rem MT.refl
      · exact MT.wI (MT.fail (MT.rem MT.refl))
theorem dl_1 (hls : l.stackTraces = false) {pm : Nat → Nat} {L t k i n q : Nat} {G : Nat → R3} (hR : RS S S x (x + 214) pm L t J G) (hJ : J + 1 ≤ 512) (hk10 : gK S (x + 249) = 10) (hn1 : gn S (x + 249) = 1) (hk : k < L) (hl : lqA S S x (x + 214) k pm t J G i n q) (c0 : gI S (x + 6 + 2 * pm k) 0 = 1) (hdc : ¬ (cCounts S (x + 188 + 2 * i) (x + 6 + 2 * pm k) 1 ∧ cMaj S (x + 188 + 2 * i) (x + 6 + 2 * pm k))) : DLV l N0 D cy sz S x J (nI k) := by
  have hlay := hR.base.1
  have hpm := hR.cpm
  have hbd := hR.bd
  have hL := hbd.1
  obtain ⟨hi, hn, hq, hqa, c1, c2, c3, m0, m1, m2, m3, h9⟩ := hl
  have hpk := hpm.1 k
  have hw9 : gI S (x + 188 + 2 * i) 3 = 2 → gR S (x + 188 + 2 * i) 9 = some (cr S (x + 188 + 2 * i) 9) := fun e => by
    obtain ⟨clk, lt, gv, ph0, ls, bl0, cn, fl, lc, q, tl, sn, ws, hd, prl, cnt, rch, wS, wT, wF, rdy, hS, hT, fi, gT, gC, hc, hm, a1, a2, a3, a4, a5, a6, a7, a8, a9, a10⟩ := hR.iq hi
    obtain ⟨d0, d1, d2, d3, d4, d5, d6, d7, d8, d9, d10, d11, d12, d13⟩ := ci_inv hc
    obtain ⟨g, hg, -⟩ := a10 (by rw [← d2]; exact e)
    rcases (hR.cis hi).2.2.2.2.2.2.2.1 with q | ⟨q, -⟩
    · rw [q, hg] at d8; cases d8
    · exact q
  refine dl_core l N0 D cy sz hR hJ hk10 hn1 hk (c_X6_deliverR l hls N0 D cy S sz x hlay.1 (x + 4) (x + 5) L (fun k => x + 6 + 2 * pm k) hR.base.2.2.1 hR.base.2.2.2.1 hR.base.2.2.2.2.1 hR.base.2.2.2.2.2.1 hR.base.2.2.2.2.2.2 hR.2.1 hL hpm.2.2 (fun k => (hR.clt (hpm.1 k)).1) k hk (fun q => by rw [c0] at q; rcases q with q | q <;> exact absurd q (by decide)) (x + 1) (x + 188 + 2 * i) i (x + 188 + 2 * i + 1) (x + 6 + 2 * pm k + 1) (fun j => cr S (x + 188 + 2 * i + 1) j) (fun j => cr S (x + 6 + 2 * pm k + 1) j) hlay.2.1 hlay.2.2.2.2.1 hlay.2.2.2.2.2.1 c1 hi (hR.cis hi).1 (hR.cis hi).2.1 (hR.cis hi).2.2.2.1 (hR.cis hi).2.2.2.2.1 (hR.cis hi).2.2.2.2.2.1 (hR.clt (hpm.1 k)).2.1 (hR.clt (hpm.1 k)).2.2.1 (hR.clt (hpm.1 k)).2.2.2.1 (hR.cis hi).2.2.2.2.2.2.1 (hR.clt (hpm.1 k)).2.2.2.2.2 (fun q => hdc q.2) (by omega) (cr S (x + 188 + 2 * i) 9) hw9) (fun E S1 q => q.elim) (fun v S9 z q => ⟨⟨_, q.1⟩, ct_recv hi q.2.2⟩) (fun r S9 z hp T T2 v2 rc i9 n9 hH => ?_) (fun S9 q => q.elim)
  · obtain ⟨hv, -, hp⟩ := hp
    obtain ⟨hT, ht0, hi9, hn9, e1, e2, hrc, hd⟩ := hH
    obtain ⟨i8, n8, q8, hl8⟩ := lq_all hT hk
    obtain ⟨rfl, rfl⟩ := lq_same (L := L) hl8 hi9 hn9 e1 e2
    obtain ⟨hi8, hn8, hq8, hqa8, b1, b2, b3, p0, p1, p2, p3, h8⟩ := hl8
    obtain rfl : i = i8 := (nI_eq (by omega) (by omega)).mp (c1.symm.trans b1)
    obtain rfl : n = n8 := (nI_eq (by omega) (by omega)).mp (c2.symm.trans b2)
    obtain ⟨far, hf, c7, m7⟩ : ∃ far, far ≤ t ∧ rv S (x + 6 + 2 * pm k + 1) = rw8 (ms T (x + 214)) n far ∧ gI T (x + 214 + 8) k = nI far := by
      rcases h8 with q | ⟨q, h8⟩ | ⟨q, -⟩ | q | ⟨q, -⟩
      · exact absurd (q.symm.trans c0) (by decide)
      · exact h8
      · exact absurd (q.symm.trans c0) (by decide)
      · exact absurd (q.symm.trans c0) (by decide)
      · exact absurd (q.symm.trans c0) (by decide)
    obtain ⟨far2, m72, hf2, ha⟩ := md1 (p0.trans c0) hd
    obtain rfl : far = far2 := (nI_eq (by omega) (by omega)).mp (m7.symm.trans m72)
    obtain ⟨hv2, hs, hz, hmt⟩ := ds_pro hT hk hi hn hf c0 c2 (b3.trans p3.symm) c7 hdc hp ha
    exact ⟨hv2.trans hv.symm, hz.trans ht0, hmt, _, _, _, _, hs⟩
theorem dl_D (hls : l.stackTraces = false) {pm : Nat → Nat} {L t k i n q : Nat} {G : Nat → R3} (hR : RS S S x (x + 214) pm L t J G) (hJ : J + 1 ≤ 512) (hk10 : gK S (x + 249) = 10) (hn1 : gn S (x + 249) = 1) (hk : k < L) (hl : lqA S S x (x + 214) k pm t J G i n q) (c0 : gI S (x + 6 + 2 * pm k) 0 = 1) (hcn : cCounts S (x + 188 + 2 * i) (x + 6 + 2 * pm k) 1) (hmj : cMaj S (x + 188 + 2 * i) (x + 6 + 2 * pm k)) (hfr : ∀ b, sz ≤ b → gK S b = 0) {Nu : Prop} {Ok : Nat → Nat → Int32 → Prop}
    (hM : gMX l yX6_deliver cX6_deliver 4 (some FieldType.int) { frames := 7, cells := 3, slots := 13, locals := 170 } N0 D cy [.ref x, .int (nI k)] S sz (dcP S (x + 188 + 2 * i) (x + 4) (x + 5) (fun k => x + 6 + 2 * pm k) L k sz Nu Ok) (dcX S (x + 188 + 2 * i) L sz Ok))
    (hdec : ∀ (T : gS) (rc : Nat → Nat) (far : Nat), RS S T x (x + 214) pm L t (J + 1) G → gI T (x + 214 + 18) i = 1 → (∀ s, s < 8 → rcS S (nwS S (fun j => cr S (x + 188 + 2 * i + 1) j) (fun j => cr S (x + 6 + 2 * pm k + 1) j) s) = mrT T (x + 214) (agr T (x + 214) i (nI s) (nI n) far rc 5)) →
      (Nu → prX (prS T (x + 214) i (nI n) far rc) (prF T (x + 214) i (prR T (x + 214) i (prS T (x + 214) i (nI n) far rc) (nI n) far rc))) ∧ ∀ j w tm, Ok j w tm → wsh S T (x + 214) i n far rc (x + 188 + 2 * i) w j tm ∧ w = nwS S (fun j => cr S (x + 188 + 2 * i + 1) j) (fun j => cr S (x + 6 + 2 * pm k + 1) j) j ∧ ¬ 2199023255551 < wFirst S (x + 188 + 2 * i) w + 60000 - 1) : DLV l N0 D cy sz S x J (nI k) := by
  have hlay := hR.base.1
  have hpm := hR.cpm
  have hbd := hR.bd
  have hL := hbd.1
  obtain ⟨hi, hn, hq, hqa, c1, c2, c3, m0, m1, m2, m3, h9⟩ := hl
  have z0 := hfr sz (Nat.le_refl _)
  have z1 := hfr (sz + 1) (by omega)
  have hcore : ∀ (T T2 : gS) (v2 : Option Value) (rc : Nat → Nat) (i9 n9 : Nat), dlH S T x k pm L t (J + 1) G i9 n9 rc v2 T2 → RS S T x (x + 214) pm L t (J + 1) G ∧ gI T (x + 214) 0 = 0 ∧ gI T (x + 214 + 18) i = 1 ∧ gI T (x + 214 + 4) k = 8 * gI T (x + 214 + 20) i + nI i ∧ ∃ far, far ≤ t ∧ (∀ m, m < 5 → rc m ≤ t) ∧ (∀ s, s < 8 → rcS S (nwS S (fun j => cr S (x + 188 + 2 * i + 1) j) (fun j => cr S (x + 6 + 2 * pm k + 1) j) s) = mrT T (x + 214) (agr T (x + 214) i (nI s) (nI n) far rc 5)) ∧
      ∃ (sv rv : Int32) (fv : Int64), sv = prS T (x + 214) i (nI n) far rc ∧ rv = prR T (x + 214) i sv (nI n) far rc ∧ fv = prF T (x + 214) i rv ∧ ((prX sv fv ∧ v2 = some (.int 0) ∧ T2 = mFail (mRem T (x + 214) k L) (x + 214) i) ∨ (¬ prX sv fv ∧ 90 < L + 4 ∧ v2 = some (.int 0) ∧ T2 = sI T (x + 214) 0 2) ∨ (¬ prX sv fv ∧ L + 4 ≤ 90 ∧ v2 = some (.int 5) ∧ T2 = mAcc T (x + 214) k L i sv (prT T (x + 214) i rv) fv (gI T (x + 214 + 4) k))) := fun T T2 v2 rc i9 n9 hH => by
    obtain ⟨hT, ht0, hi9, hn9, e1, e2, hrc, hd⟩ := hH
    obtain ⟨i8, n8, q8, hl8⟩ := lq_all hT hk
    obtain ⟨rfl, rfl⟩ := lq_same (L := L) hl8 hi9 hn9 e1 e2
    obtain ⟨hi8, hn8, hq8, hqa8, b1, b2, b3, p0, p1, p2, p3, h8⟩ := hl8
    obtain rfl : i = i8 := (nI_eq (by omega) (by omega)).mp (c1.symm.trans b1)
    obtain rfl : n = n8 := (nI_eq (by omega) (by omega)).mp (c2.symm.trans b2)
    obtain ⟨far, hf, c7, m7⟩ : ∃ far, far ≤ t ∧ rv S (x + 6 + 2 * pm k + 1) = rw8 (ms T (x + 214)) n far ∧ gI T (x + 214 + 8) k = nI far := by
      rcases h8 with q | ⟨q, h8⟩ | ⟨q, -⟩ | q | ⟨q, -⟩
      · exact absurd (q.symm.trans c0) (by decide)
      · exact h8
      · exact absurd (q.symm.trans c0) (by decide)
      · exact absurd (q.symm.trans c0) (by decide)
      · exact absurd (q.symm.trans c0) (by decide)
    obtain ⟨far2, m72, hf2, ha⟩ := md1 (p0.trans c0) hd
    obtain rfl : far = far2 := (nI_eq (by omega) (by omega)).mp (m7.symm.trans m72)
    have ci := (counts_iff (ph := 1) hT hi hn (by decide) c2 (b3.trans p3.symm)).mp hcn
    obtain ⟨c, hc5, e5, e6, e7⟩ := maj_iff hT hi hn (by rw [ci.1]; decide) ci.2.2 c2
    refine ⟨hT, ht0, ci.1, ci.2.1, far, hf, fun m hm => (hrc m hm).2, dec_rows hT hi hf ci.1 hrc c7, ?_⟩
    unfold mPro at ha
    rcases ha with ⟨q, -⟩ | ⟨-, q, -⟩ | ⟨-, -, ha⟩
    · exact absurd ci q
    · rw [e5] at q
      have := (nI_ltI (b := 2) (by omega) (by decide)).mp q
      have := e6.mp hmj
      omega
    · exact ha
  have hnx : ∀ (T : gS) (rc : Nat → Nat) (far j w : Nat) (tm : Int32), wsh S T (x + 214) i n far rc (x + 188 + 2 * i) w j tm → ¬ 2199023255551 < wFirst S (x + 188 + 2 * i) w + 60000 - 1 → ¬ prX (prS T (x + 214) i (nI n) far rc) (prF T (x + 214) i (prR T (x + 214) i (prS T (x + 214) i (nI n) far rc) (nI n) far rc)) := fun T rc far j w tm hw hlt hx => by
    obtain ⟨w1, w2, w3, w4, w5, w6⟩ := hw
    rw [w2, w3] at hx
    rcases hx with q | q
    · exact absurd q (nI_pos (by omega))
    · rw [p59] at hlt; exact hlt q
  refine dl_core l N0 D cy sz hR hJ hk10 hn1 hk hM (fun E S1 q => q.1) (fun v S9 z q => ?_) (fun r S9 z hp T T2 v2 rc i9 n9 hH => ?_) (fun S9 q => ?_)
  · rcases q with ⟨-, hv, rfl, -⟩ | ⟨j, w, tm, -, -, hv, rfl, -⟩
    · exact ⟨⟨_, hv⟩, CT.wI (CT.wI ct_take ⟨by omega, by omega⟩) ⟨by omega, by omega⟩⟩
    · refine ⟨⟨_, hv⟩, ?_⟩
      unfold cDecY
      exact CT.al (CT.wI (CT.wI (CT.wR (CT.trans (CT.mkG z0 z1) ct_take) ⟨by omega, by omega⟩) ⟨by omega, by omega⟩) ⟨by omega, by omega⟩) ⟨by omega, by omega⟩ (fun m => by rw [tkf_add]; have := tkf_lt (k := k) hpm.1 m; exact ⟨by omega, by omega⟩) 5
  · obtain ⟨hT, ht0, hph, hbl, far, hf, hrc, hrow, sv, rv, fv, esv, erv, efv, ha⟩ := hcore T T2 v2 rc i9 n9 hH
    obtain ⟨d1, d2⟩ := hdec T rc far hT hph hrow
    rcases hp with ⟨hnu, hv, rfl, -⟩ | ⟨j, w, tm, hok, hL4, hv, rfl, -⟩
    · have hx := d1 hnu
      rw [← esv, ← erv, ← efv] at hx
      rcases ha with ⟨-, hv2, rfl⟩ | ⟨q, -⟩ | ⟨q, -⟩
      · refine ⟨hv2.trans hv.symm, ?_, MT.fail (MT.rem MT.refl), _, _, _, _, ds_fail hT hk hi⟩
        unfold mFail
        rw [gI_a (by omega), gI_a (by omega), so_mRem (by decide), ht0]
      · exact absurd hx q
      · exact absurd hx q
    · obtain ⟨hw, ew, hlt⟩ := d2 j w tm hok
      have hx := hnx T rc far j w tm hw hlt
      rw [← esv, ← erv, ← efv] at hx
      obtain ⟨w1, w2, w3, w4, w5, w6⟩ := hw
      rw [w2] at esv
      rw [esv] at erv
      rw [← erv] at w3 w4 w5 w6
      rw [← efv] at w3
      rcases ha with ⟨q, -⟩ | ⟨-, q, -⟩ | ⟨-, -, hv2, rfl⟩
      · exact absurd q hx
      · omega
      · rw [esv, w4]
        have hfv : inT fv ∧ fv + 59999 ≤ 2199023255551 := by
          have hma : inT (gJ S w 3) := by
            rw [← w5, w6]
            obtain ⟨g1, -, -, -⟩ := ag_all (i := i) (n0 := n) (rc := rc) (far := far) hT w1 hf hrc 5 (Nat.le_refl _)
            rcases g1 with q | ⟨i7, q7, tm7, mk7, -, -, -, q, hg7⟩
            · have : marR T (x + 214) (agr T (x + 214) i (nI j) (nI n) far rc 5) = 0 := congrArg (fun q : R4 => q.2.2.2) q
              rw [this]; exact ⟨by decide, by decide⟩
            · have : marR T (x + 214) (agr T (x + 214) i (nI j) (nI n) far rc 5) = mk7 := congrArg (fun q : R4 => q.2.2.2) q
              rw [this]
              have hgb := hT.gb (8 * q7 + i7)
              rw [hg7] at hgb
              exact hgb
          obtain ⟨clk, lt, gv, ph0, ls, bl0, cn, fl, lc, q, tl, sn, ws, hd, prl, cnt, rch, wS, wT, wF, rdy, hS, hT8, fi, gT, gC, hc, hm, a1, a2, a3, a4, a5, a6, a7, a8, a9, a10⟩ := hT.iq hi
          obtain ⟨k0, k1, k2, k3, k4, k5, k6, k7, k8, k9, k10, k11, k12, k13⟩ := ci_inv hc
          have h1 := inT_i.mp hma
          have h2 := inT_i.mp a1
          have h3 := add_i (a := gJ S w 3) (c := 1) (by omega) (by decide)
          rw [show (1 : Int64).toInt = 1 from rfl] at h3
          have h4 : fv.toInt = max clk.toInt ((gJ S w 3).toInt + 1) := by rw [w3]; unfold wFirst; rw [mxl_i, k1, h3]
          have h5 := add_i (a := fv) (c := 59999) (by omega) (by decide)
          rw [show (59999 : Int64).toInt = 59999 from rfl] at h5
          rw [← w3, p59, Int64.lt_iff_toInt_lt, h5, show (2199023255551 : Int64).toInt = 2199023255551 from rfl] at hlt
          refine ⟨inT_i.mpr ⟨by omega, by omega⟩, Int64.le_iff_toInt_le.mpr ?_⟩
          rw [h5, show (2199023255551 : Int64).toInt = 2199023255551 from rfl]
          omega
        obtain ⟨G9, hs⟩ := ds_dec (z := sz) (w := w) (tm := tm) hT hk hi hL4 z0 z1 w1 hph hbl w3 hfv.1 hfv.2
        refine ⟨hv2.trans hv.symm, ?_, MT.acc MT.refl, _, _, _, _, hs⟩
        unfold mAcc mAcc0
        rw [al_thr (by decide), gI_sJ, gI_a (by omega), gI_a (by omega), gI_mFg, if_neg (by omega), gI_a (by omega), so_mRem (by decide), ht0]
  · obtain ⟨-, j, w, tm, hok, hL4, rfl⟩ := q
    refine ⟨CT.mkG z0 z1, fun T T2 v2 rc i9 n9 hH => ?_⟩
    obtain ⟨hT, ht0, hph, hbl, far, hf, hrc, hrow, sv, rv, fv, esv, erv, efv, ha⟩ := hcore T T2 v2 rc i9 n9 hH
    obtain ⟨d1, d2⟩ := hdec T rc far hT hph hrow
    obtain ⟨hw, ew, hlt⟩ := d2 j w tm hok
    have hx := hnx T rc far j w tm hw hlt
    rw [← esv, ← erv, ← efv] at hx
    rcases ha with ⟨q, -⟩ | ⟨-, -, hv2, rfl⟩ | ⟨-, q, -⟩
    · exact absurd q hx
    · exact ⟨⟨_, hv2⟩, gI_s, MT.wO MT.refl, _, _, _, _, (hT.ss (M := fun _ => False) (Mr := fun _ => False) (TO.mkG z0 z1) (fun b hb => (hb.elim id id).elim) (fun b hb => (hb.elim id id).elim)).thr⟩
    · omega
theorem op_deliver (hls : l.stackTraces = false) (h : LI x J S) (hJ : J + 1 ≤ 512) (hfr : ∀ b, sz ≤ b → gK S b = 0) (p0 : Int32) : DLV l N0 D cy sz S x J p0 := by
  obtain ⟨pm, L, t, G, hR, hk10, hn1⟩ := h
  have hR1 := hR.mono (Nat.le_succ J) hJ
  have hlay := hR.base.1
  have hpm := hR.cpm
  have hbd := hR.bd
  have hL := hbd.1
  by_cases hp : 0 ≤ p0 ∧ p0 < nI L
  · obtain ⟨k, hk, rfl⟩ : ∃ k, k < L ∧ p0 = nI k := by
      obtain ⟨j, hj, e⟩ := nI_of (Int32.not_lt.mpr hp.1)
      subst e
      exact ⟨j, (nI_ltI hj (by omega)).mp hp.2, rfl⟩
    obtain ⟨i, n, q, hl⟩ := lq_all hR hk
    have hl2 := hl
    obtain ⟨hi, hn, hq, hqa, c1, c2, c3, m0, m1, m2, m3, h9⟩ := hl2
    rcases h9 with c0 | ⟨c0, -⟩ | ⟨c0, -⟩ | c0 | ⟨c0, -⟩
    · exact dl_0 l N0 D cy sz hls hR hJ hk10 hn1 hk hl c0
    · by_cases hdc : cCounts S (x + 188 + 2 * i) (x + 6 + 2 * pm k) 1 ∧ cMaj S (x + 188 + 2 * i) (x + 6 + 2 * pm k)
      · rcases (hR.cis hi).2.2.2.2.2.2.2.2 with hh | ⟨hh, hhk, hrw⟩
        · exact dl_D l N0 D cy sz hls hR hJ hk10 hn1 hk hl c0 hdc.1 hdc.2 hfr (c_X6_deliverD0 l hls N0 D cy S sz x hlay.1 (x + 4) (x + 5) L (fun k => x + 6 + 2 * pm k) hR.base.2.2.1 hR.base.2.2.2.1 hR.base.2.2.2.2.1 hR.base.2.2.2.2.2.1 hR.base.2.2.2.2.2.2 hR.2.1 hL hpm.2.2 (fun k => (hR.clt (hpm.1 k)).1) k hk (fun q => by rw [c0] at q; rcases q with q | q <;> exact absurd q (by decide)) (x + 1) (x + 188 + 2 * i) i (x + 188 + 2 * i + 1) (x + 6 + 2 * pm k + 1) (fun j => cr S (x + 188 + 2 * i + 1) j) (fun j => cr S (x + 6 + 2 * pm k + 1) j) hlay.2.1 hlay.2.2.2.2.1 hlay.2.2.2.2.2.1 c1 hi (hR.cis hi).1 (hR.cis hi).2.1 (hR.cis hi).2.2.2.1 (hR.cis hi).2.2.2.2.1 (hR.cis hi).2.2.2.2.2.1 (hR.clt (hpm.1 k)).2.1 (hR.clt (hpm.1 k)).2.2.1 (hR.clt (hpm.1 k)).2.2.2.1 (hR.cis hi).2.2.2.2.2.2.1 (hR.clt (hpm.1 k)).2.2.2.2.2 0 ⟨c0, hdc⟩ hh) (fun T rc far hT hph hrow => dec_0 hT hi hph hh hrow)
        · obtain ⟨j0, hj0, hst⟩ : ∃ j, j < 8 ∧ gI S (cr S (x + 188 + 2 * i) 11) 0 = nI j := by
            obtain ⟨clk, lt, gv, ph0, ls, bl0, cn, fl, lc, q, tl, sn, ws, hd, prl, cnt, rch, wS, wT, wF, rdy, hS, hT, fi, gT, gC, hc, hm, a1, a2, a3, a4, a5, a6, a7, a8, a9, a10⟩ := hR.iq hi
            obtain ⟨d0, d1, d2, d3, d4, d5, d6, d7, d8, d9, d10, d11, d12, d13⟩ := ci_inv hc
            rw [hh] at d10
            rcases a6 with ⟨e, e2⟩ | ⟨e, g9, e2, ⟨⟨s, hs, es⟩, hg, -, -⟩, -, -⟩
            · rw [e2] at d10; cases d10
            · rw [e2, hg] at d10
              have d10 := Option.some.inj d10
              unfold gvw at d10
              simp only [Prod.mk.injEq] at d10
              exact ⟨s, hs, d10.1.trans es⟩
          exact dl_D l N0 D cy sz hls hR hJ hk10 hn1 hk hl c0 hdc.1 hdc.2 hfr (c_X6_deliverD1 l hls N0 D cy S sz x hlay.1 (x + 4) (x + 5) L (fun k => x + 6 + 2 * pm k) hR.base.2.2.1 hR.base.2.2.2.1 hR.base.2.2.2.2.1 hR.base.2.2.2.2.2.1 hR.base.2.2.2.2.2.2 hR.2.1 hL hpm.2.2 (fun k => (hR.clt (hpm.1 k)).1) k hk (fun q => by rw [c0] at q; rcases q with q | q <;> exact absurd q (by decide)) (x + 1) (x + 188 + 2 * i) i (x + 188 + 2 * i + 1) (x + 6 + 2 * pm k + 1) (fun j => cr S (x + 188 + 2 * i + 1) j) (fun j => cr S (x + 6 + 2 * pm k + 1) j) hlay.2.1 hlay.2.2.2.2.1 hlay.2.2.2.2.2.1 c1 hi (hR.cis hi).1 (hR.cis hi).2.1 (hR.cis hi).2.2.2.1 (hR.cis hi).2.2.2.2.1 (hR.cis hi).2.2.2.2.2.1 (hR.clt (hpm.1 k)).2.1 (hR.clt (hpm.1 k)).2.2.1 (hR.clt (hpm.1 k)).2.2.2.1 (hR.cis hi).2.2.2.2.2.2.1 (hR.clt (hpm.1 k)).2.2.2.2.2 0 ⟨c0, hdc⟩ (cr S (x + 188 + 2 * i) 11) (cr S (cr S (x + 188 + 2 * i) 11) 2) j0 hh hhk hrw.1 hrw.2 hst hj0) (fun T rc far hT hph hrow => dec_1 hT hi hph hh hj0 hst hrow)
      · exact dl_1 l N0 D cy sz hls hR hJ hk10 hn1 hk hl c0 hdc
    · exact dl_2 l N0 D cy sz hls hR hJ hk10 hn1 hk hl c0
    · exact dl_3 l N0 D cy sz hls hR hJ hk10 hn1 hk hl c0
    · exact dl_4 l N0 D cy sz hls hR hJ hk10 hn1 hk hl c0
  · refine ⟨_, w_deliver l N0 D cy S sz x (x + 249) p0 _ _ hlay.1 (c_X6_deliverX l hls N0 D cy S sz x hlay.1 (x + 4) (x + 5) L (fun k => x + 6 + 2 * pm k) hR.base.2.2.1 hR.base.2.2.2.1 hR.base.2.2.2.2.1 hR.base.2.2.2.2.2.1 hR.base.2.2.2.2.2.2 hR.2.1 hL hpm.2.2 (fun k => (hR.clt (hpm.1 k)).1) p0 hp) (fun E S1 q => Or.inl q.1) (fun v S1 z q => q.elim), fun v S1 z hw => ?_⟩
    rcases hw with ⟨r, S9, -, q, -⟩ | ⟨rfl, -, rfl⟩ | ⟨-, q, -⟩
    · exact q.elim
    · obtain ⟨hlt, rc, hrc⟩ := md_pre hR
      refine ⟨1, _, rfl, hR.2.2.1, c_X7_deliver l N0 D cy S1 z (x + 214) L t p0 rc hR.2.2.1 hR.2.2.2.1 hL hR.2.2.2.2.1 (by omega) hlt (fun i n hi hn => ⟨(hrc i n hi hn).1, by have := (hrc i n hi hn).2; omega⟩), fun v2 S2 z2 hm => ?_⟩
      obtain ⟨hz2, hm⟩ := hm
      rcases hm with ⟨hb, hv2, rfl⟩ | ⟨k', i, n, hk', hi, hn5, e, -⟩
      · have hli := LI.go hR hk10 hn1 CT.refl (MT.wO MT.refl) (hR1.thr (v := 1))
        exact ⟨_, hv2, hR1.thr.2.2.1, hli, gI_s, (li_ot hli).1, (li_ot hli).2, fun q => absurd q (by decide)⟩
      · exact (nL_ hp hL hk' e).elim
    · exact absurd q.symm exOS
end DLC
