set_option linter.constructorNameAsVariable false
theorem xI_k {S : gS} {a k b j : Nat} {v w : Int32} (h : j ≠ k) (e : gI S b j = v) : gI (sI S a k w) b j = v := (gI_k h).trans e
theorem xI_a {S : gS} {a k b j : Nat} {v w : Int32} (h : b ≠ a) (e : gI S b j = v) : gI (sI S a k w) b j = v := (gI_a h).trans e
theorem xJ {S : gS} {a k b j : Nat} {v : Int32} {w : Int64} (e : gI S b j = v) : gI (sJ S a k w) b j = v := e
theorem xR {S : gS} {a k b j : Nat} {v : Int32} {w : Option Nat} (e : gI S b j = v) : gI (sR S a k w) b j = v := e
theorem xW {S : gS} {a n b j : Nat} {v : Int32} {f : Nat → Option Nat} (e : gI S b j = v) : gI (sRow S a n f) b j = v := e
theorem yJ_k {S : gS} {a k b j : Nat} {v w : Int64} (h : j ≠ k) (e : gJ S b j = v) : gJ (sJ S a k w) b j = v := (gJ_k h).trans e
theorem yJ_a {S : gS} {a k b j : Nat} {v w : Int64} (h : b ≠ a) (e : gJ S b j = v) : gJ (sJ S a k w) b j = v := (gJ_a h).trans e
theorem yI {S : gS} {a k b j : Nat} {v : Int64} {w : Int32} (e : gJ S b j = v) : gJ (sI S a k w) b j = v := e
theorem yR {S : gS} {a k b j : Nat} {v : Int64} {w : Option Nat} (e : gJ S b j = v) : gJ (sR S a k w) b j = v := e
theorem attF_mi {T : gS} {o i : Nat} : attF (mi T o) i = (gI T (o + 20) i).toNatClampNeg := rfl
theorem dgF_mi {T : gS} {o i : Nat} : dgF (mi T o) i = gI T (o + 18) i := rfl
theorem yW {S : gS} {a n b j : Nat} {v : Int64} {f : Nat → Option Nat} (e : gJ S b j = v) : gJ (sRow S a n f) b j = v := e
section IS
variable {S S1 T T1 : gS} {x o i : Nat} {pm : Nat → Nat} {L t J : Nat} {G G1 : Nat → R3}
theorem sim_crash  (h : RS S T x o pm L t J G) (hi : i < 8) : RS (sI (sJ (sR (sI (sI S (x + 188 + 2 * i) 3 0) (x + 188 + 2 * i) 5 0) (x + 188 + 2 * i) 11 none) (x + 188 + 2 * i) 12 (-1)) (x + 188 + 2 * i) 13 0) (sI (sI (sI T (o + 27) i 0) (o + 18) i 0) (o + 21) i 0) x o pm L t J G := by
  have hO : TO (MA x i) (MB x i) S (sI (sJ (sR (sI (sI S (x + 188 + 2 * i) 3 0) (x + 188 + 2 * i) 5 0) (x + 188 + 2 * i) 11 none) (x + 188 + 2 * i) 12 (-1)) (x + 188 + 2 * i) 13 0) := TO.sI (TO.sJ (TO.sR (TO.sI (TO.sI (TO.refl) ma) ma) mb) ma) ma
  have hK := kx_is (h.cis hi)
  obtain ⟨clk, lt, gv, ph, ls, bl, cn, fl, lc, q, tl, sn, ws, hd, prl, cnt, rch, wS, wT, wF, rdy, hS, hT, fi, gT, gC, hc, hm, a1, a2, a3, a4, a5, a6, a7, a8, a9, a10⟩ := h.iq hi
  obtain ⟨c0, c1, c2, c3, c4, c5, c6, c7, c8, c9, c10, c11, c12, c13⟩ := ci_inv hc
  obtain ⟨m0, m1, m2, m3, m4, m5, m6, m7, m8, m9, m10, m11, m12, m13, m14, m15, m16, m17⟩ := mi_inv hm
  have g9 := (h.cis hi).2.2.2.2.2.2.2.1
  have g11 := (h.cis hi).2.2.2.2.2.2.2.2
  have gs := (h.cis hi).2.2.2.2.2.2.1
  have e11 : gR (sI (sJ (sR (sI (sI S (x + 188 + 2 * i) 3 0) (x + 188 + 2 * i) 5 0) (x + 188 + 2 * i) 11 none) (x + 188 + 2 * i) 12 (-1)) (x + 188 + 2 * i) 13 0) (x + 188 + 2 * i) 11 = none := rI (rJ gR_s)
  have q9 := to_grB hO hK (j := 9) (rI (rJ (rR (Or.inl (by decide)) (rI (rI (rfl)))))) g9
  have q11 := (⟨Or.inl e11, by rw [e11]; rfl⟩ : grA (sI (sJ (sR (sI (sI S (x + 188 + 2 * i) 3 0) (x + 188 + 2 * i) 5 0) (x + 188 + 2 * i) 11 none) (x + 188 + 2 * i) 12 (-1)) (x + 188 + 2 * i) 13 0) (x + 188 + 2 * i) 11 ∧ (gR (sI (sJ (sR (sI (sI S (x + 188 + 2 * i) 3 0) (x + 188 + 2 * i) 5 0) (x + 188 + 2 * i) 11 none) (x + 188 + 2 * i) 12 (-1)) (x + 188 + 2 * i) 13 0) (x + 188 + 2 * i) 11).map (gvw (sI (sJ (sR (sI (sI S (x + 188 + 2 * i) 3 0) (x + 188 + 2 * i) 5 0) (x + 188 + 2 * i) 11 none) (x + 188 + 2 * i) 12 (-1)) (x + 188 + 2 * i) 13 0)) = none)
  have qs := fun s (hs : s < 8) => (to_rwB hO hK (a := x + 188 + 2 * i + 1) (j := s) (rI (rJ (rR (Or.inr (by omega)) (rI (rI (rfl)))))) (gs s hs)).1
  have qv := (to_rvB hO hK (a := x + 188 + 2 * i + 1) (fun s _ => rI (rJ (rR (Or.inr (by omega)) (rI (rI (rfl)))))) gs).trans c7
  refine RS.iss h hi hO (is_go hO h.base (h.cis hi) (rI (rJ (rR (Or.inl (by decide)) (rI (rI (rfl)))))) (rI (rJ (rR (Or.inl (by decide)) (rI (rI (rfl)))))) qs q9.1 q11.1) (mI (mI (mI (h.2.2.1)))) (xI_a (by omega) (xI_a (by omega) (xI_a (by omega) (rfl)))) (xI_a (by omega) (xI_a (by omega) (xI_a (by omega) (rfl)))) ((ml_I (by decide)).trans ((ml_I (by decide)).trans (ml_I (by decide)))) ((mn_I (by decide) (by decide)).trans ((mn_I (by decide) (by decide)).trans (mn_I (by decide) (by decide)))) ((ms_I (by decide)).trans ((ms_I (by decide)).trans (ms_I (by decide)))) (fun j hj => (mi_Ij (by decide) (by decide) hj).trans ((mi_Ij (by decide) (by decide) hj).trans (mi_Ij (by decide) (by decide) hj)))
    ⟨(clk), (-1), (gv), (0), (0), (bl), (cn), (fl), (0), (q), (0), (sn), (ws), (none), (prl), (cnt), (rch), (wS), (wT), (wF), (0), (hS), (hT), (fi), (gT), (gC), ci_mk (xI_k (by decide) (xJ (xR (xI_k (by decide) (xI_k (by decide) (c0)))))) (yI (yJ_k (by decide) (yR (yI (yI (c1)))))) (xI_k (by decide) (xJ (xR (xI_k (by decide) (gI_s))))) (xI_k (by decide) (xJ (xR (xI_k (by decide) (xI_k (by decide) (c3)))))) (xI_k (by decide) (xJ (xR (gI_s)))) (xI_k (by decide) (xJ (xR (xI_k (by decide) (xI_k (by decide) (c5)))))) (xI_k (by decide) (xJ (xR (xI_k (by decide) (xI_k (by decide) (c6)))))) qv (q9.2.trans c8) (xI_k (by decide) (xJ (xR (xI_k (by decide) (xI_k (by decide) (c9)))))) q11.2 (yI (gJ_s)) (gI_s) (yI (yJ_k (by decide) (yR (yI (yI (c13)))))),
      mi_mk (yI (yI (yI (m0)))) (xI_a (by omega) (gI_s)) (xI_a (by omega) (xI_a (by omega) (xI_a (by omega) (m2)))) (xI_a (by omega) (xI_a (by omega) (xI_a (by omega) (m3)))) (gI_s) (Eq.trans (funext fun n9 => by rw [show gI (sI (sI (sI T (o + 27) i 0) (o + 18) i 0) (o + 21) i 0) (o + 22) (5 * i + n9) = gI T (o + 22) (5 * i + n9) from xI_a (by omega) (xI_a (by omega) (xI_a (by omega) (rfl)))]) m5) (Eq.trans (funext fun n9 => by rw [show gI (sI (sI (sI T (o + 27) i 0) (o + 18) i 0) (o + 21) i 0) (o + 23) (5 * i + n9) = gI T (o + 23) (5 * i + n9) from xI_a (by omega) (xI_a (by omega) (xI_a (by omega) (rfl)))]) m6) (xI_a (by omega) (xI_a (by omega) (xI_a (by omega) (m7)))) (xI_a (by omega) (xI_a (by omega) (xI_a (by omega) (m8)))) (yI (yI (yI (m9)))) (xI_a (by omega) (xI_a (by omega) (gI_s))) (xI_a (by omega) (xI_a (by omega) (xI_a (by omega) (m11)))) (xI_a (by omega) (xI_a (by omega) (xI_a (by omega) (m12)))) (yI (yI (yI (m13)))) (yI (yI (yI (m14)))) (xI_a (by omega) (xI_a (by omega) (xI_a (by omega) (m15)))) (xI_a (by omega) (xI_a (by omega) (xI_a (by omega) (m16)))) (yI (yI (yI (m17)))), a1, a2, Nat.zero_le _, Or.inr ⟨rfl, rfl⟩, Or.inl rfl, Or.inl ⟨rfl, rfl⟩, a7, fun h8 => absurd rfl h8, fun h8 => absurd h8 (by decide), fun h8 => absurd h8 (by decide)⟩
    (Or.inl ⟨?_, fun q9 => ?_⟩) (fun _ _ _ _ _ => rfl) (h.gb)
  · rw [attF_mi, attF_mi, show gI (sI (sI (sI T (o + 27) i 0) (o + 18) i 0) (o + 21) i 0) (o + 20) i = gI T (o + 20) i from xI_a (by omega) (xI_a (by omega) (xI_a (by omega) (rfl)))]
  · rw [dgF_mi, show gI (sI (sI (sI T (o + 27) i 0) (o + 18) i 0) (o + 21) i 0) (o + 18) i = 0 from xI_a (by omega) (gI_s)] at q9
    exact absurd q9 (by decide)

theorem sim_fail  (h : RS S T x o pm L t J G) (hi : i < 8) : RS (sI (sI S (x + 188 + 2 * i) 3 0) (x + 188 + 2 * i) 10 (gI S (x + 188 + 2 * i) 10 + 1)) (mFail T o i) x o pm L t J G := by
  show RS (sI (sI S (x + 188 + 2 * i) 3 0) (x + 188 + 2 * i) 10 (gI S (x + 188 + 2 * i) 10 + 1)) (sI (sI T (o + 18) i 0) (o + 33) i (gI T (o + 33) i + 1)) x o pm L t J G
  have hO : TO (MA x i) (MB x i) S (sI (sI S (x + 188 + 2 * i) 3 0) (x + 188 + 2 * i) 10 (gI S (x + 188 + 2 * i) 10 + 1)) := TO.sI (TO.sI (TO.refl) ma) ma
  have hK := kx_is (h.cis hi)
  obtain ⟨clk, lt, gv, ph, ls, bl, cn, fl, lc, q, tl, sn, ws, hd, prl, cnt, rch, wS, wT, wF, rdy, hS, hT, fi, gT, gC, hc, hm, a1, a2, a3, a4, a5, a6, a7, a8, a9, a10⟩ := h.iq hi
  obtain ⟨c0, c1, c2, c3, c4, c5, c6, c7, c8, c9, c10, c11, c12, c13⟩ := ci_inv hc
  obtain ⟨m0, m1, m2, m3, m4, m5, m6, m7, m8, m9, m10, m11, m12, m13, m14, m15, m16, m17⟩ := mi_inv hm
  have g9 := (h.cis hi).2.2.2.2.2.2.2.1
  have g11 := (h.cis hi).2.2.2.2.2.2.2.2
  have gs := (h.cis hi).2.2.2.2.2.2.1
  have q9 := to_grB hO hK (j := 9) (rI (rI (rfl))) g9
  have q11 := to_grB hO hK (j := 11) (rI (rI (rfl))) g11
  have qs := fun s (hs : s < 8) => (to_rwB hO hK (a := x + 188 + 2 * i + 1) (j := s) (rI (rI (rfl))) (gs s hs)).1
  have qv := (to_rvB hO hK (a := x + 188 + 2 * i + 1) (fun s _ => rI (rI (rfl))) gs).trans c7
  refine RS.iss h hi hO (is_go hO h.base (h.cis hi) (rI (rI (rfl))) (rI (rI (rfl))) qs q9.1 q11.1) (mI (mI (h.2.2.1))) (xI_a (by omega) (xI_a (by omega) (rfl))) (xI_a (by omega) (xI_a (by omega) (rfl))) ((ml_I (by decide)).trans (ml_I (by decide))) ((mn_I (by decide) (by decide)).trans (mn_I (by decide) (by decide))) ((ms_I (by decide)).trans (ms_I (by decide))) (fun j hj => (mi_Ij (by decide) (by decide) hj).trans (mi_Ij (by decide) (by decide) hj))
    ⟨(clk), (lt), (gv), (0), (ls), (bl), (cn), (fl + 1), (lc), (q), (tl), (sn), (ws), (hd), (prl), (cnt), (rch), (wS), (wT), (wF), (rdy), (hS), (hT), (fi), (gT), (gC), ci_mk (xI_k (by decide) (xI_k (by decide) (c0))) (yI (yI (c1))) (xI_k (by decide) (gI_s)) (xI_k (by decide) (xI_k (by decide) (c3))) (xI_k (by decide) (xI_k (by decide) (c4))) (xI_k (by decide) (xI_k (by decide) (c5))) (xI_k (by decide) (xI_k (by decide) (c6))) qv (q9.2.trans c8) (gI_s.trans (by rw [c9])) (q11.2.trans c10) (yI (yI (c11))) (xI_k (by decide) (xI_k (by decide) (c12))) (yI (yI (c13))),
      mi_mk (yI (yI (m0))) (xI_a (by omega) (gI_s)) (xI_a (by omega) (xI_a (by omega) (m2))) (xI_a (by omega) (xI_a (by omega) (m3))) (xI_a (by omega) (xI_a (by omega) (m4))) (Eq.trans (funext fun n9 => by rw [show gI (sI (sI T (o + 18) i 0) (o + 33) i (gI T (o + 33) i + 1)) (o + 22) (5 * i + n9) = gI T (o + 22) (5 * i + n9) from xI_a (by omega) (xI_a (by omega) (rfl))]) m5) (Eq.trans (funext fun n9 => by rw [show gI (sI (sI T (o + 18) i 0) (o + 33) i (gI T (o + 33) i + 1)) (o + 23) (5 * i + n9) = gI T (o + 23) (5 * i + n9) from xI_a (by omega) (xI_a (by omega) (rfl))]) m6) (xI_a (by omega) (xI_a (by omega) (m7))) (xI_a (by omega) (xI_a (by omega) (m8))) (yI (yI (m9))) (xI_a (by omega) (xI_a (by omega) (m10))) (xI_a (by omega) (xI_a (by omega) (m11))) (xI_a (by omega) (xI_a (by omega) (m12))) (yI (yI (m13))) (yI (yI (m14))) (xI_a (by omega) (xI_a (by omega) (m15))) (gI_s.trans (by rw [m16])) (yI (yI (m17))), a1, a2, a3, a4, Or.inl rfl, a6, a7, fun h8 => absurd rfl h8, fun h8 => absurd h8 (by decide), fun h8 => absurd h8 (by decide)⟩
    (Or.inl ⟨?_, fun q9 => ?_⟩) (fun _ _ _ _ _ => rfl) (h.gb)
  · rw [attF_mi, attF_mi, show gI (sI (sI T (o + 18) i 0) (o + 33) i (gI T (o + 33) i + 1)) (o + 20) i = gI T (o + 20) i from xI_a (by omega) (xI_a (by omega) (rfl))]
  · rw [dgF_mi, show gI (sI (sI T (o + 18) i 0) (o + 33) i (gI T (o + 33) i + 1)) (o + 18) i = 0 from xI_a (by omega) (gI_s)] at q9
    exact absurd q9 (by decide)

theorem sim_no  (h : RS S T x o pm L t J G) (hi : i < 8) {v w : Int32} {d : Nat} (hd0 : d ≤ J) (hw : w = nI d) (hv : v = nI (d + 1)) : RS (sI (sI (sI S (x + 188 + 2 * i) 5 v) (x + 188 + 2 * i) 3 0) (x + 188 + 2 * i) 10 (gI S (x + 188 + 2 * i) 10 + 1)) (sI (mFail T o i) (o + 21) i w) x o pm L t J G := by
  show RS (sI (sI (sI S (x + 188 + 2 * i) 5 v) (x + 188 + 2 * i) 3 0) (x + 188 + 2 * i) 10 (gI S (x + 188 + 2 * i) 10 + 1)) (sI (sI (sI T (o + 18) i 0) (o + 33) i (gI T (o + 33) i + 1)) (o + 21) i w) x o pm L t J G
  have hO : TO (MA x i) (MB x i) S (sI (sI (sI S (x + 188 + 2 * i) 5 v) (x + 188 + 2 * i) 3 0) (x + 188 + 2 * i) 10 (gI S (x + 188 + 2 * i) 10 + 1)) := TO.sI (TO.sI (TO.sI (TO.refl) ma) ma) ma
  have hK := kx_is (h.cis hi)
  obtain ⟨clk, lt, gv, ph, ls, bl, cn, fl, lc, q, tl, sn, ws, hd, prl, cnt, rch, wS, wT, wF, rdy, hS, hT, fi, gT, gC, hc, hm, a1, a2, a3, a4, a5, a6, a7, a8, a9, a10⟩ := h.iq hi
  obtain ⟨c0, c1, c2, c3, c4, c5, c6, c7, c8, c9, c10, c11, c12, c13⟩ := ci_inv hc
  obtain ⟨m0, m1, m2, m3, m4, m5, m6, m7, m8, m9, m10, m11, m12, m13, m14, m15, m16, m17⟩ := mi_inv hm
  have g9 := (h.cis hi).2.2.2.2.2.2.2.1
  have g11 := (h.cis hi).2.2.2.2.2.2.2.2
  have gs := (h.cis hi).2.2.2.2.2.2.1
  have q9 := to_grB hO hK (j := 9) (rI (rI (rI (rfl)))) g9
  have q11 := to_grB hO hK (j := 11) (rI (rI (rI (rfl)))) g11
  have qs := fun s (hs : s < 8) => (to_rwB hO hK (a := x + 188 + 2 * i + 1) (j := s) (rI (rI (rI (rfl)))) (gs s hs)).1
  have qv := (to_rvB hO hK (a := x + 188 + 2 * i + 1) (fun s _ => rI (rI (rI (rfl)))) gs).trans c7
  refine RS.iss h hi hO (is_go hO h.base (h.cis hi) (rI (rI (rI (rfl)))) (rI (rI (rI (rfl)))) qs q9.1 q11.1) (mI (mI (mI (h.2.2.1)))) (xI_a (by omega) (xI_a (by omega) (xI_a (by omega) (rfl)))) (xI_a (by omega) (xI_a (by omega) (xI_a (by omega) (rfl)))) ((ml_I (by decide)).trans ((ml_I (by decide)).trans (ml_I (by decide)))) ((mn_I (by decide) (by decide)).trans ((mn_I (by decide) (by decide)).trans (mn_I (by decide) (by decide)))) ((ms_I (by decide)).trans ((ms_I (by decide)).trans (ms_I (by decide)))) (fun j hj => (mi_Ij (by decide) (by decide) hj).trans ((mi_Ij (by decide) (by decide) hj).trans (mi_Ij (by decide) (by decide) hj)))
    ⟨(clk), (lt), (gv), (0), (v), (bl), (cn), (fl + 1), (lc), (q), (d), (sn), (ws), (hd), (prl), (cnt), (rch), (wS), (wT), (wF), (rdy), (hS), (hT), (fi), (gT), (gC), ci_mk (xI_k (by decide) (xI_k (by decide) (xI_k (by decide) (c0)))) (yI (yI (yI (c1)))) (xI_k (by decide) (gI_s)) (xI_k (by decide) (xI_k (by decide) (xI_k (by decide) (c3)))) (xI_k (by decide) (xI_k (by decide) (gI_s))) (xI_k (by decide) (xI_k (by decide) (xI_k (by decide) (c5)))) (xI_k (by decide) (xI_k (by decide) (xI_k (by decide) (c6)))) qv (q9.2.trans c8) (gI_s.trans (by rw [c9])) (q11.2.trans c10) (yI (yI (yI (c11)))) (xI_k (by decide) (xI_k (by decide) (xI_k (by decide) (c12)))) (yI (yI (yI (c13)))),
      mi_mk (yI (yI (yI (m0)))) (xI_a (by omega) (xI_a (by omega) (gI_s))) (xI_a (by omega) (xI_a (by omega) (xI_a (by omega) (m2)))) (xI_a (by omega) (xI_a (by omega) (xI_a (by omega) (m3)))) (gI_s.trans hw) (Eq.trans (funext fun n9 => by rw [show gI (sI (sI (sI T (o + 18) i 0) (o + 33) i (gI T (o + 33) i + 1)) (o + 21) i w) (o + 22) (5 * i + n9) = gI T (o + 22) (5 * i + n9) from xI_a (by omega) (xI_a (by omega) (xI_a (by omega) (rfl)))]) m5) (Eq.trans (funext fun n9 => by rw [show gI (sI (sI (sI T (o + 18) i 0) (o + 33) i (gI T (o + 33) i + 1)) (o + 21) i w) (o + 23) (5 * i + n9) = gI T (o + 23) (5 * i + n9) from xI_a (by omega) (xI_a (by omega) (xI_a (by omega) (rfl)))]) m6) (xI_a (by omega) (xI_a (by omega) (xI_a (by omega) (m7)))) (xI_a (by omega) (xI_a (by omega) (xI_a (by omega) (m8)))) (yI (yI (yI (m9)))) (xI_a (by omega) (xI_a (by omega) (xI_a (by omega) (m10)))) (xI_a (by omega) (xI_a (by omega) (xI_a (by omega) (m11)))) (xI_a (by omega) (xI_a (by omega) (xI_a (by omega) (m12)))) (yI (yI (yI (m13)))) (yI (yI (yI (m14)))) (xI_a (by omega) (xI_a (by omega) (xI_a (by omega) (m15)))) (xI_a (by omega) (gI_s.trans (by rw [m16]))) (yI (yI (yI (m17)))), a1, a2, hd0, Or.inl hv, Or.inl rfl, a6, a7, fun h8 => absurd rfl h8, fun h8 => absurd h8 (by decide), fun h8 => absurd h8 (by decide)⟩
    (Or.inl ⟨?_, fun q9 => ?_⟩) (fun _ _ _ _ _ => rfl) (h.gb)
  · rw [attF_mi, attF_mi, show gI (sI (sI (sI T (o + 18) i 0) (o + 33) i (gI T (o + 33) i + 1)) (o + 21) i w) (o + 20) i = gI T (o + 20) i from xI_a (by omega) (xI_a (by omega) (xI_a (by omega) (rfl)))]
  · rw [dgF_mi, show gI (sI (sI (sI T (o + 18) i 0) (o + 33) i (gI T (o + 33) i + 1)) (o + 21) i w) (o + 18) i = 0 from xI_a (by omega) (xI_a (by omega) (gI_s))] at q9
    exact absurd q9 (by decide)

theorem sim_give  (h : RS S T x o pm L t J G) (hi : i < 8) {tt gg : Int64} {cc : Int32} (ht : inT tt) (hr : gI T (o + 27) i = 1) : RS (sJ (sI (sJ S (x + 188 + 2 * i) 12 tt) (x + 188 + 2 * i) 13 cc) (x + 188 + 2 * i) 14 gg) (sJ (sI (sJ T (o + 31) i tt) (o + 32) i cc) (o + 34) i gg) x o pm L t J G := by
  have hO : TO (MA x i) (MB x i) S (sJ (sI (sJ S (x + 188 + 2 * i) 12 tt) (x + 188 + 2 * i) 13 cc) (x + 188 + 2 * i) 14 gg) := TO.sJ (TO.sI (TO.sJ (TO.refl) ma) ma) ma
  have hK := kx_is (h.cis hi)
  obtain ⟨clk, lt, gv, ph, ls, bl, cn, fl, lc, q, tl, sn, ws, hd, prl, cnt, rch, wS, wT, wF, rdy, hS, hT, fi, gT, gC, hc, hm, a1, a2, a3, a4, a5, a6, a7, a8, a9, a10⟩ := h.iq hi
  obtain ⟨c0, c1, c2, c3, c4, c5, c6, c7, c8, c9, c10, c11, c12, c13⟩ := ci_inv hc
  obtain ⟨m0, m1, m2, m3, m4, m5, m6, m7, m8, m9, m10, m11, m12, m13, m14, m15, m16, m17⟩ := mi_inv hm
  have g9 := (h.cis hi).2.2.2.2.2.2.2.1
  have g11 := (h.cis hi).2.2.2.2.2.2.2.2
  have gs := (h.cis hi).2.2.2.2.2.2.1
  have b6 : (rdy = 0 ∧ hd = none) ∨ (rdy = 1 ∧ ∃ g, hd = some g ∧ GQ g hS hT fi ∧ tt = tt ∧ (tt = -1 ∨ (inT tt ∧ cc = cc))) := by
    rcases a6 with ⟨e, _⟩ | ⟨e, g, e2, e3, _, _⟩
    · exact absurd (hr.symm.trans (m10.trans e)) (by decide)
    · exact Or.inr ⟨e, g, e2, e3, rfl, Or.inr ⟨ht, rfl⟩⟩
  have q9 := to_grB hO hK (j := 9) (rJ (rI (rJ (rfl)))) g9
  have q11 := to_grB hO hK (j := 11) (rJ (rI (rJ (rfl)))) g11
  have qs := fun s (hs : s < 8) => (to_rwB hO hK (a := x + 188 + 2 * i + 1) (j := s) (rJ (rI (rJ (rfl)))) (gs s hs)).1
  have qv := (to_rvB hO hK (a := x + 188 + 2 * i + 1) (fun s _ => rJ (rI (rJ (rfl)))) gs).trans c7
  refine RS.iss h hi hO (is_go hO h.base (h.cis hi) (rJ (rI (rJ (rfl)))) (rJ (rI (rJ (rfl)))) qs q9.1 q11.1) (mJ (mI (mJ (h.2.2.1)))) (xJ (xI_a (by omega) (xJ (rfl)))) (xJ (xI_a (by omega) (xJ (rfl)))) ((ml_J (by decide)).trans ((ml_I (by decide)).trans (ml_J (by decide)))) ((mn_J).trans ((mn_I (by decide) (by decide)).trans (mn_J))) ((ms_J (by decide)).trans ((ms_I (by decide)).trans (ms_J (by decide)))) (fun j hj => (mi_Jj hj).trans ((mi_Ij (by decide) (by decide) hj).trans (mi_Jj hj)))
    ⟨(clk), (tt), (gg), (ph), (ls), (bl), (cn), (fl), (cc), (q), (tl), (sn), (ws), (hd), (prl), (cnt), (rch), (wS), (wT), (wF), (rdy), (hS), (hT), (fi), (tt), (cc), ci_mk (xJ (xI_k (by decide) (xJ (c0)))) (yJ_k (by decide) (yI (yJ_k (by decide) (c1)))) (xJ (xI_k (by decide) (xJ (c2)))) (xJ (xI_k (by decide) (xJ (c3)))) (xJ (xI_k (by decide) (xJ (c4)))) (xJ (xI_k (by decide) (xJ (c5)))) (xJ (xI_k (by decide) (xJ (c6)))) qv (q9.2.trans c8) (xJ (xI_k (by decide) (xJ (c9)))) (q11.2.trans c10) (yJ_k (by decide) (yI (gJ_s))) (xJ (gI_s)) (gJ_s),
      mi_mk (yJ_a (by omega) (yI (yJ_a (by omega) (m0)))) (xJ (xI_a (by omega) (xJ (m1)))) (xJ (xI_a (by omega) (xJ (m2)))) (xJ (xI_a (by omega) (xJ (m3)))) (xJ (xI_a (by omega) (xJ (m4)))) (Eq.trans (funext fun n9 => by rw [show gI (sJ (sI (sJ T (o + 31) i tt) (o + 32) i cc) (o + 34) i gg) (o + 22) (5 * i + n9) = gI T (o + 22) (5 * i + n9) from xJ (xI_a (by omega) (xJ (rfl)))]) m5) (Eq.trans (funext fun n9 => by rw [show gI (sJ (sI (sJ T (o + 31) i tt) (o + 32) i cc) (o + 34) i gg) (o + 23) (5 * i + n9) = gI T (o + 23) (5 * i + n9) from xJ (xI_a (by omega) (xJ (rfl)))]) m6) (xJ (xI_a (by omega) (xJ (m7)))) (xJ (xI_a (by omega) (xJ (m8)))) (yJ_a (by omega) (yI (yJ_a (by omega) (m9)))) (xJ (xI_a (by omega) (xJ (m10)))) (xJ (xI_a (by omega) (xJ (m11)))) (xJ (xI_a (by omega) (xJ (m12)))) (yJ_a (by omega) (yI (yJ_a (by omega) (m13)))) (yJ_a (by omega) (yI (gJ_s))) (xJ (gI_s)) (xJ (xI_a (by omega) (xJ (m16)))) (gJ_s), a1, a2, a3, a4, a5, b6, a7, a8, a9, a10⟩
    (Or.inl ⟨?_, fun q9 => ?_⟩) (fun _ _ _ _ _ => rfl) (h.gb)
  · rw [attF_mi, attF_mi, show gI (sJ (sI (sJ T (o + 31) i tt) (o + 32) i cc) (o + 34) i gg) (o + 20) i = gI T (o + 20) i from xJ (xI_a (by omega) (xJ (rfl)))]
  · rw [dgF_mi, show gI (sJ (sI (sJ T (o + 31) i tt) (o + 32) i cc) (o + 34) i gg) (o + 18) i = gI T (o + 18) i from xJ (xI_a (by omega) (xJ (rfl)))] at q9
    rw [dgF_mi]; exact q9

end IS
