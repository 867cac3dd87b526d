set_option linter.constructorNameAsVariable false
section IS
variable {S S1 T T1 : gS} {x o i : Nat} {pm : Nat → Nat} {L t J : Nat} {G G1 : Nat → R3}
theorem bit5_z {n : Nat} : (0 : Int32) = bit5 0 n := by unfold bit5; simp
theorem sim_prep  (h : RS S T x o pm L t J G) (hi : i < 8) {r b6 av pv : Int32} {Q : Nat} (hr : r = nI Q) (hav : av = nI Q) (hb6 : b6 = nI (8 * Q + i)) (hQ : Q ≤ J) (hlt : attF (mi T o) i < Q) (hp : gI T (o + 27) i = pv) : RS (sRow (sI (sI (sI (sI S (x + 188 + 2 * i) 4 r) (x + 188 + 2 * i) 6 b6) (x + 188 + 2 * i) 3 1) (x + 188 + 2 * i) 7 0) (x + 188 + 2 * i + 1) 8 (fun _ => some (x + 3))) (mFg (sI (sI (sI T (o + 20) i av) (o + 18) i 1) (o + 19) i pv) o i 5) x o pm L t J G := by
  have hO : TO (MA x i) (MB x i) S (sRow (sI (sI (sI (sI S (x + 188 + 2 * i) 4 r) (x + 188 + 2 * i) 6 b6) (x + 188 + 2 * i) 3 1) (x + 188 + 2 * i) 7 0) (x + 188 + 2 * i + 1) 8 (fun _ => some (x + 3))) := TO.sRow (TO.sI (TO.sI (TO.sI (TO.sI (TO.refl) ma) ma) ma) ma) mb1
  have hK := kx_is (h.cis hi)
  obtain ⟨clk, lt, gv, ph, ls, bl, cn, fl, lc, q, tl, sn, ws, hd, prl, cnt, rch, wS, wT, wF, rdy, hS, hT, fi, gT, gC, hc, hm, a1, a2, a3, a4, a5, a6, a7, a8, a9, a10⟩ := h.iq hi
  obtain ⟨c0, c1, c2, c3, c4, c5, c6, c7, c8, c9, c10, c11, c12, c13⟩ := ci_inv hc
  obtain ⟨m0, m1, m2, m3, m4, m5, m6, m7, m8, m9, m10, m11, m12, m13, m14, m15, m16, m17⟩ := mi_inv hm
  have g9 := (h.cis hi).2.2.2.2.2.2.2.1
  have g11 := (h.cis hi).2.2.2.2.2.2.2.2
  have gs := (h.cis hi).2.2.2.2.2.2.1
  have q9 := to_grB hO hK (j := 9) (rW (by omega) (rI (rI (rI (rI (rfl)))))) g9
  have q11 := to_grB hO hK (j := 11) (rW (by omega) (rI (rI (rI (rI (rfl)))))) g11
  have hr3 : ∀ s, s < 8 → gR (sRow (sI (sI (sI (sI S (x + 188 + 2 * i) 4 r) (x + 188 + 2 * i) 6 b6) (x + 188 + 2 * i) 3 1) (x + 188 + 2 * i) 7 0) (x + 188 + 2 * i + 1) 8 (fun _ => some (x + 3))) (x + 188 + 2 * i + 1) s = some (x + 3) := fun s hs => by rw [gR_sRow, if_pos rfl, if_pos hs]
  have hcr : ∀ s, s < 8 → cr (sRow (sI (sI (sI (sI S (x + 188 + 2 * i) 4 r) (x + 188 + 2 * i) 6 b6) (x + 188 + 2 * i) 3 1) (x + 188 + 2 * i) 7 0) (x + 188 + 2 * i + 1) 8 (fun _ => some (x + 3))) (x + 188 + 2 * i + 1) s = x + 3 := fun s hs => by show (gR _ _ s).getD 0 = _; rw [hr3 s hs]; rfl
  have hu3 := to_rc hO hK (r := x + 3) h.base.1.2.2.2.2.2.2.2.2
  have qs : ∀ s, s < 8 → rwA (sRow (sI (sI (sI (sI S (x + 188 + 2 * i) 4 r) (x + 188 + 2 * i) 6 b6) (x + 188 + 2 * i) 3 1) (x + 188 + 2 * i) 7 0) (x + 188 + 2 * i + 1) 8 (fun _ => some (x + 3))) (x + 188 + 2 * i + 1) s := fun s hs => ⟨by rw [hcr s hs]; exact hr3 s hs, by rw [hcr s hs]; exact hu3.2⟩
  have qv : rv (sRow (sI (sI (sI (sI S (x + 188 + 2 * i) 4 r) (x + 188 + 2 * i) 6 b6) (x + 188 + 2 * i) 3 1) (x + 188 + 2 * i) 7 0) (x + 188 + 2 * i + 1) 8 (fun _ => some (x + 3))) (x + 188 + 2 * i + 1) = fun _ => u4 := funext fun s => by
    unfold rv
    split
    · rename_i hs; rw [hcr s hs, hu3.1]; exact h.base.2.1
    · rfl
  refine RS.iss h hi hO (is_go hO h.base (h.cis hi) (rW (by omega) (rI (rI (rI (rI (rfl)))))) (rW (by omega) (rI (rI (rI (rI (rfl)))))) qs q9.1 q11.1) (mG (mI (mI (mI (h.2.2.1))))) (vG (by omega) (xI_a (by omega) (xI_a (by omega) (xI_a (by omega) (rfl))))) (vG (by omega) (xI_a (by omega) (xI_a (by omega) (xI_a (by omega) (rfl))))) ((ml_F).trans ((ml_I (by decide)).trans ((ml_I (by decide)).trans (ml_I (by decide))))) ((mn_F).trans ((mn_I (by decide) (by decide)).trans ((mn_I (by decide) (by decide)).trans (mn_I (by decide) (by decide))))) ((ms_F).trans ((ms_I (by decide)).trans ((ms_I (by decide)).trans (ms_I (by decide))))) (fun j hj => (mi_Fj hj).trans ((mi_Ij (by decide) (by decide) hj).trans ((mi_Ij (by decide) (by decide) hj).trans (mi_Ij (by decide) (by decide) hj))))
    ⟨(clk), (lt), (gv), (1), (ls), (b6), (0), (fl), (lc), (Q), (tl), (fun _ => u4), (ws), (hd), (pv), (fun _ => 0), (rch), (wS), (wT), (wF), (rdy), (hS), (hT), (fi), (gT), (gC), ci_mk (xW (xI_k (by decide) (xI_k (by decide) (xI_k (by decide) (xI_k (by decide) (c0)))))) (yW (yI (yI (yI (yI (c1)))))) (xW (xI_k (by decide) (gI_s))) (xW (xI_k (by decide) (xI_k (by decide) (xI_k (by decide) ((gI_s.trans hr)))))) (xW (xI_k (by decide) (xI_k (by decide) (xI_k (by decide) (xI_k (by decide) (c4)))))) (xW (xI_k (by decide) (xI_k (by decide) (gI_s)))) (xW (gI_s)) qv (q9.2.trans c8) (xW (xI_k (by decide) (xI_k (by decide) (xI_k (by decide) (xI_k (by decide) (c9)))))) (q11.2.trans c10) (yW (yI (yI (yI (yI (c11)))))) (xW (xI_k (by decide) (xI_k (by decide) (xI_k (by decide) (xI_k (by decide) (c12)))))) (yW (yI (yI (yI (yI (c13)))))),
      mi_mk (yF (yI (yI (yI (m0))))) (vG (by omega) (xI_a (by omega) (gI_s))) (vG (by omega) (gI_s)) (vG (by omega) (xI_a (by omega) (xI_a (by omega) ((gI_s.trans hav))))) (vG (by omega) (xI_a (by omega) (xI_a (by omega) (xI_a (by omega) (m4))))) (funext fun n9 => by
        split
        · rw [gI_mFg, if_pos ⟨rfl, by omega, by omega⟩]
        · rfl) (Eq.trans (funext fun n9 => by rw [show gI (mFg (sI (sI (sI T (o + 20) i av) (o + 18) i 1) (o + 19) i pv) o i 5) (o + 23) (5 * i + n9) = gI T (o + 23) (5 * i + n9) from vG (by omega) (xI_a (by omega) (xI_a (by omega) (xI_a (by omega) (rfl))))]) m6) (vG (by omega) (xI_a (by omega) (xI_a (by omega) (xI_a (by omega) (m7))))) (vG (by omega) (xI_a (by omega) (xI_a (by omega) (xI_a (by omega) (m8))))) (yF (yI (yI (yI (m9))))) (vG (by omega) (xI_a (by omega) (xI_a (by omega) (xI_a (by omega) (m10))))) (vG (by omega) (xI_a (by omega) (xI_a (by omega) (xI_a (by omega) (m11))))) (vG (by omega) (xI_a (by omega) (xI_a (by omega) (xI_a (by omega) (m12))))) (yF (yI (yI (yI (m13))))) (yF (yI (yI (yI (m14))))) (vG (by omega) (xI_a (by omega) (xI_a (by omega) (xI_a (by omega) (m15))))) (vG (by omega) (xI_a (by omega) (xI_a (by omega) (xI_a (by omega) (m16))))) (yF (yI (yI (yI (m17))))), a1, hQ, a3, a4, Or.inr (Or.inl rfl), a6, a7, fun _ => ⟨hp.symm.trans m10, by omega, hb6, 0, by decide, rfl, fun n _ => bit5_z⟩, fun _ s hs => ⟨fun n hn hc => absurd rfl hc, Or.inl rfl⟩, fun h8 => absurd h8 (by decide)⟩
    (Or.inr (by rw [attF_mi (T := mFg (sI (sI (sI T (o + 20) i av) (o + 18) i 1) (o + 19) i pv) o i 5), show gI (mFg (sI (sI (sI T (o + 20) i av) (o + 18) i 1) (o + 19) i pv) o i 5) (o + 20) i = nI Q from vG (by omega) (xI_a (by omega) (xI_a (by omega) ((gI_s.trans hav)))), nI_clamp (by have := h.bd; omega)]; exact hlt)) (fun _ _ _ _ _ => rfl) (h.gb)

theorem inT_add {f : Int64} (h : inT f) (h2 : f + 59999 ≤ 2199023255551) : inT (f + 59999) := by
  refine ⟨?_, h2⟩
  have h0 := Int64.le_iff_toInt_le.mp h.1
  have h1 := Int64.le_iff_toInt_le.mp h.2
  rw [Int64.le_iff_toInt_le, Int64.toInt_add]
  have e1 : (0 : Int64).toInt = 0 := rfl
  have e2 : (59999 : Int64).toInt = 59999 := rfl
  have e3 : (2199023255551 : Int64).toInt = 2199023255551 := rfl
  rw [e1] at h0 ⊢
  rw [e3] at h1
  rw [e2, Int.bmod_eq_of_le (by omega) (by omega)]
  omega
theorem sim_acc  (h : RS S T x o pm L t J G) (hi : i < 8) {sv tv : Int32} {fv : Int64} {z qa : Nat} (hz : gK S z = 1) (hzr : rwA S z 2) (hgq : GQ (gvw S z) sv tv fv) (hph : gI T (o + 18) i = 1) (hqa : attF (mi T o) i = qa) : RS (sI (sI (sR S (x + 188 + 2 * i) 9 (some z)) (x + 188 + 2 * i) 3 2) (x + 188 + 2 * i) 7 0) (sJ (sI (sI (mFg (sI T (o + 18) i 2) o i 5) (o + 24) i sv) (o + 25) i tv) (o + 26) i fv) x o pm L t J (fun b => if b = 8 * qa + i then (sv, tv, fv + 59999) else G b) := by
  have hO : TO (MA x i) (MB x i) S (sI (sI (sR S (x + 188 + 2 * i) 9 (some z)) (x + 188 + 2 * i) 3 2) (x + 188 + 2 * i) 7 0) := TO.sI (TO.sI (TO.sR (TO.refl) mb) ma) ma
  have hK := kx_is (h.cis hi)
  obtain ⟨clk, lt, gv, ph, ls, bl, cn, fl, lc, q, tl, sn, ws, hd, prl, cnt, rch, wS, wT, wF, rdy, hS, hT, fi, gT, gC, hc, hm, a1, a2, a3, a4, a5, a6, a7, a8, a9, a10⟩ := h.iq hi
  obtain ⟨c0, c1, c2, c3, c4, c5, c6, c7, c8, c9, c10, c11, c12, c13⟩ := ci_inv hc
  obtain ⟨m0, m1, m2, m3, m4, m5, m6, m7, m8, m9, m10, m11, m12, m13, m14, m15, m16, m17⟩ := mi_inv hm
  have g9 := (h.cis hi).2.2.2.2.2.2.2.1
  have g11 := (h.cis hi).2.2.2.2.2.2.2.2
  have gs := (h.cis hi).2.2.2.2.2.2.1
  have hp0 : ph ≠ 0 := by rw [← m1, hph]; decide
  have e9 : gR (sI (sI (sR S (x + 188 + 2 * i) 9 (some z)) (x + 188 + 2 * i) 3 2) (x + 188 + 2 * i) 7 0) (x + 188 + 2 * i) 9 = some z := rI (rI gR_s)
  have e10 : cr (sI (sI (sR S (x + 188 + 2 * i) 9 (some z)) (x + 188 + 2 * i) 3 2) (x + 188 + 2 * i) 7 0) (x + 188 + 2 * i) 9 = z := by unfold cr; rw [e9]; rfl
  have gg := to_gv hO hK hz hzr
  have hG : ∀ i9 q9, i9 < 8 → q9 ≤ attF (mi T o) i9 → ¬ (dgF (mi T o) i9 = 1 ∧ q9 = attF (mi T o) i9) → (fun b => if b = 8 * qa + i then (sv, tv, fv + 59999) else G b) (8 * q9 + i9) = G (8 * q9 + i9) := fun i9 q9 h1 h2 h3 => by
    show (if 8 * q9 + i9 = 8 * qa + i then (sv, tv, fv + 59999) else G (8 * q9 + i9)) = _
    by_cases e : 8 * q9 + i9 = 8 * qa + i
    · have e1 : i9 = i := by omega
      have e2 : q9 = qa := by omega
      subst e1
      exact absurd ⟨hph, by rw [e2, hqa]⟩ h3
    · rw [if_neg e]
  have hGb : ∀ b, inT ((fun b => if b = 8 * qa + i then (sv, tv, fv + 59999) else G b) b).2.2 := fun b => by
    show inT (if b = 8 * qa + i then (sv, tv, fv + 59999) else G b).2.2
    split
    · exact inT_add hgq.2.2.1 hgq.2.2.2
    · exact h.gb b
  have q9 := (⟨Or.inr ⟨by rw [e10]; exact e9, by rw [e10]; exact gg.2.1, by rw [e10]; exact gg.2.2⟩, by rw [e9]; show some _ = some _; rw [gg.1]⟩ : grA (sI (sI (sR S (x + 188 + 2 * i) 9 (some z)) (x + 188 + 2 * i) 3 2) (x + 188 + 2 * i) 7 0) (x + 188 + 2 * i) 9 ∧ (gR (sI (sI (sR S (x + 188 + 2 * i) 9 (some z)) (x + 188 + 2 * i) 3 2) (x + 188 + 2 * i) 7 0) (x + 188 + 2 * i) 9).map (gvw (sI (sI (sR S (x + 188 + 2 * i) 9 (some z)) (x + 188 + 2 * i) 3 2) (x + 188 + 2 * i) 7 0)) = some (gvw S z))
  have q11 := to_grB hO hK (j := 11) (rI (rI (rR (Or.inl (by decide)) (rfl)))) g11
  have qs := fun s (hs : s < 8) => (to_rwB hO hK (a := x + 188 + 2 * i + 1) (j := s) (rI (rI (rR (Or.inr (by omega)) (rfl)))) (gs s hs)).1
  have qv := (to_rvB hO hK (a := x + 188 + 2 * i + 1) (fun s _ => rI (rI (rR (Or.inr (by omega)) (rfl)))) gs).trans c7
  refine RS.iss h hi hO (is_go hO h.base (h.cis hi) (rI (rI (rR (Or.inl (by decide)) (rfl)))) (rI (rI (rR (Or.inl (by decide)) (rfl)))) qs q9.1 q11.1) (mJ (mI (mI (mG (mI (h.2.2.1)))))) (xJ (xI_a (by omega) (xI_a (by omega) (vG (by omega) (xI_a (by omega) (rfl)))))) (xJ (xI_a (by omega) (xI_a (by omega) (vG (by omega) (xI_a (by omega) (rfl)))))) ((ml_J (by decide)).trans ((ml_I (by decide)).trans ((ml_I (by decide)).trans ((ml_F).trans (ml_I (by decide)))))) ((mn_J).trans ((mn_I (by decide) (by decide)).trans ((mn_I (by decide) (by decide)).trans ((mn_F).trans (mn_I (by decide) (by decide)))))) ((ms_J (by decide)).trans ((ms_I (by decide)).trans ((ms_I (by decide)).trans ((ms_F).trans (ms_I (by decide)))))) (fun j hj => (mi_Jj hj).trans ((mi_Ij (by decide) (by decide) hj).trans ((mi_Ij (by decide) (by decide) hj).trans ((mi_Fj hj).trans (mi_Ij (by decide) (by decide) hj)))))
    ⟨(clk), (lt), (gv), (2), (ls), (bl), (0), (fl), (lc), (q), (tl), (sn), (some (gvw S z)), (hd), (prl), (fun _ => 0), (rch), (sv), (tv), (fv), (rdy), (hS), (hT), (fi), (gT), (gC), ci_mk (xI_k (by decide) (xI_k (by decide) (xR (c0)))) (yI (yI (yR (c1)))) (xI_k (by decide) (gI_s)) (xI_k (by decide) (xI_k (by decide) (xR (c3)))) (xI_k (by decide) (xI_k (by decide) (xR (c4)))) (xI_k (by decide) (xI_k (by decide) (xR (c5)))) (gI_s) qv q9.2 (xI_k (by decide) (xI_k (by decide) (xR (c9)))) (q11.2.trans c10) (yI (yI (yR (c11)))) (xI_k (by decide) (xI_k (by decide) (xR (c12)))) (yI (yI (yR (c13)))),
      mi_mk (yJ_a (by omega) (yI (yI (yF (yI (m0)))))) (xJ (xI_a (by omega) (xI_a (by omega) (vG (by omega) (gI_s))))) (xJ (xI_a (by omega) (xI_a (by omega) (vG (by omega) (xI_a (by omega) (m2)))))) (xJ (xI_a (by omega) (xI_a (by omega) (vG (by omega) (xI_a (by omega) (m3)))))) (xJ (xI_a (by omega) (xI_a (by omega) (vG (by omega) (xI_a (by omega) (m4)))))) (funext fun n9 => by
        split
        · exact xJ (xI_a (by omega) (xI_a (by omega) (by rw [gI_mFg, if_pos ⟨rfl, by omega, by omega⟩])))
        · rfl) (Eq.trans (funext fun n9 => by rw [show gI (sJ (sI (sI (mFg (sI T (o + 18) i 2) o i 5) (o + 24) i sv) (o + 25) i tv) (o + 26) i fv) (o + 23) (5 * i + n9) = gI T (o + 23) (5 * i + n9) from xJ (xI_a (by omega) (xI_a (by omega) (vG (by omega) (xI_a (by omega) (rfl)))))]) m6) (xJ (xI_a (by omega) (gI_s))) (xJ (gI_s)) (gJ_s) (xJ (xI_a (by omega) (xI_a (by omega) (vG (by omega) (xI_a (by omega) (m10)))))) (xJ (xI_a (by omega) (xI_a (by omega) (vG (by omega) (xI_a (by omega) (m11)))))) (xJ (xI_a (by omega) (xI_a (by omega) (vG (by omega) (xI_a (by omega) (m12)))))) (yJ_a (by omega) (yI (yI (yF (yI (m13)))))) (yJ_a (by omega) (yI (yI (yF (yI (m14)))))) (xJ (xI_a (by omega) (xI_a (by omega) (vG (by omega) (xI_a (by omega) (m15)))))) (xJ (xI_a (by omega) (xI_a (by omega) (vG (by omega) (xI_a (by omega) (m16)))))) (yJ_a (by omega) (yI (yI (yF (yI (m17)))))), a1, a2, a3, a4, Or.inr (Or.inr rfl), a6, a7, fun _ => ⟨(a8 hp0).1, (a8 hp0).2.1, (a8 hp0).2.2.1, 0, by decide, rfl, fun n _ => bit5_z⟩, fun h8 => absurd h8 (by decide), fun _ => ⟨gvw S z, rfl, hgq⟩⟩
    (Or.inl ⟨?_, fun q9 => ?_⟩) (hG) (hGb)
  · rw [attF_mi, attF_mi, show gI (sJ (sI (sI (mFg (sI T (o + 18) i 2) o i 5) (o + 24) i sv) (o + 25) i tv) (o + 26) i fv) (o + 20) i = gI T (o + 20) i from xJ (xI_a (by omega) (xI_a (by omega) (vG (by omega) (xI_a (by omega) (rfl)))))]
  · rw [dgF_mi, show gI (sJ (sI (sI (mFg (sI T (o + 18) i 2) o i 5) (o + 24) i sv) (o + 25) i tv) (o + 26) i fv) (o + 18) i = 2 from xJ (xI_a (by omega) (xI_a (by omega) (vG (by omega) (gI_s))))] at q9
    exact absurd q9 (by decide)

end IS
