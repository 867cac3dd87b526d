set_option linter.constructorNameAsVariable false
theorem yF {T : gS} {o i n b j : Nat} {v : Int64} (e : gJ T b j = v) : gJ (mFg T o i n) b j = v := e
/-! Five bits. -/
def pc5 (b : Nat) : Nat := (if b.testBit 0 then 1 else 0) + (if b.testBit 1 then 1 else 0) + (if b.testBit 2 then 1 else 0) + (if b.testBit 3 then 1 else 0) + (if b.testBit 4 then 1 else 0)
def cb5 (b : Nat) : Int32 := 0 + (if bit5 b 0 = 0 then 0 else 1) + (if bit5 b 1 = 0 then 0 else 1) + (if bit5 b 2 = 0 then 0 else 1) + (if bit5 b 3 = 0 then 0 else 1) + (if bit5 b 4 = 0 then 0 else 1)
theorem b5_all : ∀ b, b < 32 → (bc32 (nI b) = nI (pc5 b) ∧ cb5 b = nI (pc5 b) ∧ pc5 b ≤ 5) := by decide +kernel
theorem b5_and : ∀ b, b < 32 → ∀ n, n < 5 → ((nI b &&& (1 <<< (nI n &&& 31)) = 0) ↔ b.testBit n = false) := by decide +kernel
theorem b5_or : ∀ b, b < 32 → ∀ n, n < 5 → (nI b ||| (1 <<< (nI n &&& 31)) = nI (b ||| (1 <<< n)) ∧ b ||| (1 <<< n) < 32 ∧ (∀ m, m < 5 → (b ||| (1 <<< n)).testBit m = (b.testBit m || decide (m = n))) ∧ pc5 (b ||| (1 <<< n)) = pc5 b + (if b.testBit n then 0 else 1)) := by decide +kernel
theorem cnt5 {T : gS} {o i b : Nat} (hb : b < 32) (h : ∀ n, n < 5 → gI T (o + 22) (5 * i + n) = bit5 b n) : cntF T o i 5 = nI (pc5 b) := by
  rw [← (b5_all b hb).2.1]
  unfold cb5
  simp only [cntF]
  rw [h 0 (by decide), h 1 (by decide), h 2 (by decide), h 3 (by decide), h 4 (by decide)]
theorem bit5_0 {b n : Nat} : bit5 b n = 0 ↔ b.testBit n = false := by
  unfold bit5
  cases b.testBit n <;> simp
section MF
variable {T : gS} {o i k : Nat}
theorem ml_F : ml (mFg T o i 5) o = ml T o := by
  funext k
  unfold ml
  rw [gI_mFg, gI_mFg, gI_mFg, gI_mFg, gI_mFg, gI_mFg, gI_mFg, if_neg (by omega), if_neg (by omega), if_neg (by omega), if_neg (by omega), if_neg (by omega), if_neg (by omega), if_neg (by omega), gJ_mFg]
theorem mn_F : mn (mFg T o i 5) o = mn T o := by
  funext k
  unfold mn
  rw [gI_mFg, gI_mFg, if_neg (by omega), if_neg (by omega)]
theorem ms_F : ms (mFg T o i 5) o = ms T o := by
  funext k
  unfold ms
  rw [gI_mFg, gI_mFg, gI_mFg, gI_mFg, gI_mFg, if_neg (by omega), if_neg (by omega), if_neg (by omega), if_neg (by omega), if_neg (by omega), gJ_mFg]
theorem mi_Fj (h : k ≠ i) : mi (mFg T o i 5) o k = mi T o k := by
  unfold mi
  rw [gI_mFg, gI_mFg, gI_mFg, gI_mFg, gI_mFg, gI_mFg, gI_mFg, gI_mFg, gI_mFg, gI_mFg, gI_mFg, if_neg (by omega), if_neg (by omega), if_neg (by omega), if_neg (by omega), if_neg (by omega), if_neg (by omega), if_neg (by omega), if_neg (by omega), if_neg (by omega), if_neg (by omega), if_neg (by omega), gJ_mFg]
  rw [show (fun n => if n < 5 then gI (mFg T o i 5) (o + 22) (5 * k + n) else 0) = (fun n => if n < 5 then gI T (o + 22) (5 * k + n) else 0) from funext fun n => by
    split
    · rw [gI_mFg, if_neg (by omega)]
    · rfl]
  rw [show (fun n => if n < 5 then gI (mFg T o i 5) (o + 23) (5 * k + n) else 0) = (fun n => if n < 5 then gI T (o + 23) (5 * k + n) else 0) from funext fun n => by
    split
    · rw [gI_mFg, if_neg (by omega)]
    · rfl]
end MF
section IS
variable {S S1 T T1 : gS} {x o i : Nat} {pm : Nat → Nat} {L t J : Nat} {G G1 : Nat → R3}
theorem sim_yes  (h : RS S T x o pm L t J G) (hi : i < 8) {n : Nat} {v : Int32} (hn9 : n < 5) (hph : gI T (o + 18) i = 2) (hv : v = gI S (x + 188 + 2 * i) 7 ||| (1 <<< (nI n &&& 31))) : RS (sI S (x + 188 + 2 * i) 7 v) (sI T (o + 22) (5 * i + n) 1) x o pm L t J G := by
  have hO : TO (MA x i) (MB x i) S (sI S (x + 188 + 2 * i) 7 v) := TO.sI (TO.refl) ma
  have hK := kx_is (h.cis hi)
  obtain ⟨clk, lt, gv, ph, ls, bl, cn, fl, lc, q, tl, sn, ws, hd, prl, cnt, rch, wS, wT, wF, rdy, hS, hT, fi, gT, gC, hc, hm, a1, a2, a3, a4, a5, a6, a7, a8, a9, a10⟩ := h.iq hi
  obtain ⟨c0, c1, c2, c3, c4, c5, c6, c7, c8, c9, c10, c11, c12, c13⟩ := ci_inv hc
  obtain ⟨m0, m1, m2, m3, m4, m5, m6, m7, m8, m9, m10, m11, m12, m13, m14, m15, m16, m17⟩ := mi_inv hm
  have g9 := (h.cis hi).2.2.2.2.2.2.2.1
  have g11 := (h.cis hi).2.2.2.2.2.2.2.2
  have gs := (h.cis hi).2.2.2.2.2.2.1
  have hp2 : ph = 2 := m1.symm.trans hph
  obtain ⟨b1, b2, b3, b, b4, b5, b6⟩ := a8 (by rw [hp2]; decide)
  have e7 : gI S (x + 188 + 2 * i) 7 = nI b := c6.trans b5
  rw [e7] at hv
  obtain ⟨o1, o2, o3, o4⟩ := b5_or b b4 n hn9
  have hcn : ∀ m, m < 5 → (if m = n then (1 : Int32) else cnt m) = bit5 (b ||| (1 <<< n)) m := fun m hm => by
    unfold bit5
    rw [o3 m hm]
    by_cases e : m = n
    · rw [if_pos e, e]; simp
    · rw [if_neg e, b6 m hm]; unfold bit5; simp [e]
  have q9 := to_grB hO hK (j := 9) (rI (rfl)) g9
  have q11 := to_grB hO hK (j := 11) (rI (rfl)) g11
  have qs := fun s (hs : s < 8) => (to_rwB hO hK (a := x + 188 + 2 * i + 1) (j := s) (rI (rfl)) (gs s hs)).1
  have qv := (to_rvB hO hK (a := x + 188 + 2 * i + 1) (fun s _ => rI (rfl)) gs).trans c7
  refine RS.iss h hi hO (is_go hO h.base (h.cis hi) (rI (rfl)) (rI (rfl)) qs q9.1 q11.1) (mI (h.2.2.1)) (xI_a (by omega) (rfl)) (xI_a (by omega) (rfl)) (ml_I (by decide)) (mn_I (by decide) (by decide)) (ms_I (by decide)) (fun j hj => mi_I5 (by decide) hj hn9)
    ⟨(clk), (lt), (gv), (ph), (ls), (bl), (v), (fl), (lc), (q), (tl), (sn), (ws), (hd), (prl), (fun m => if m = n then 1 else cnt m), (rch), (wS), (wT), (wF), (rdy), (hS), (hT), (fi), (gT), (gC), ci_mk (xI_k (by decide) (c0)) (yI (c1)) (xI_k (by decide) (c2)) (xI_k (by decide) (c3)) (xI_k (by decide) (c4)) (xI_k (by decide) (c5)) (gI_s) qv (q9.2.trans c8) (xI_k (by decide) (c9)) (q11.2.trans c10) (yI (c11)) (xI_k (by decide) (c12)) (yI (c13)),
      mi_mk (yI (m0)) (xI_a (by omega) (m1)) (xI_a (by omega) (m2)) (xI_a (by omega) (m3)) (xI_a (by omega) (m4)) (funext fun n9 => by
        by_cases e : n9 = n
        · rw [e, if_pos hn9, if_pos rfl]; exact gI_s
        · rw [if_neg e, ← m5]; show (if n9 < 5 then _ else 0) = (if n9 < 5 then _ else 0); split
          · exact xI_k (by omega) rfl
          · rfl) (Eq.trans (funext fun n9 => by rw [show gI (sI T (o + 22) (5 * i + n) 1) (o + 23) (5 * i + n9) = gI T (o + 23) (5 * i + n9) from xI_a (by omega) (rfl)]) m6) (xI_a (by omega) (m7)) (xI_a (by omega) (m8)) (yI (m9)) (xI_a (by omega) (m10)) (xI_a (by omega) (m11)) (xI_a (by omega) (m12)) (yI (m13)) (yI (m14)) (xI_a (by omega) (m15)) (xI_a (by omega) (m16)) (yI (m17)), a1, a2, a3, a4, a5, a6, a7, fun _ => ⟨b1, b2, b3, (b ||| (1 <<< n)), o2, hv.trans o1, hcn⟩, fun h8 => absurd (h8.symm.trans hp2) (by decide), a10⟩
    (Or.inl ⟨?_, fun q9 => ?_⟩) (fun _ _ _ _ _ => rfl) (h.gb)
  · rw [attF_mi, attF_mi, show gI (sI T (o + 22) (5 * i + n) 1) (o + 20) i = gI T (o + 20) i from xI_a (by omega) (rfl)]
  · rw [dgF_mi, show gI (sI T (o + 22) (5 * i + n) 1) (o + 18) i = gI T (o + 18) i from xI_a (by omega) (rfl)] at q9
    rw [dgF_mi]; exact q9

theorem sim_rdy  (h : RS S T x o pm L t J G) (hi : i < 8) {n w0 : Nat} (hn9 : n < 5) (hph : gI T (o + 18) i = 2) (hw0 : gR S (x + 188 + 2 * i) 9 = some w0) : RS (sI (sJ (sR (sI S (x + 188 + 2 * i) 3 0) (x + 188 + 2 * i) 11 (some w0)) (x + 188 + 2 * i) 12 (-1)) (x + 188 + 2 * i) 13 0) (mRdy T o i n) x o pm L t J G := by
  show RS (sI (sJ (sR (sI S (x + 188 + 2 * i) 3 0) (x + 188 + 2 * i) 11 (some w0)) (x + 188 + 2 * i) 12 (-1)) (x + 188 + 2 * i) 13 0) (sJ (sJ (sI (sI (sI (sI (sI T (o + 22) (5 * i + n) 1) (o + 18) i 0) (o + 27) i 1) (o + 28) i (gI T (o + 24) i)) (o + 29) i (gI T (o + 25) i)) (o + 30) i (gJ T (o + 26) i)) (o + 31) i (-1)) x o pm L t J G
  have hO : TO (MA x i) (MB x i) S (sI (sJ (sR (sI S (x + 188 + 2 * i) 3 0) (x + 188 + 2 * i) 11 (some w0)) (x + 188 + 2 * i) 12 (-1)) (x + 188 + 2 * i) 13 0) := TO.sI (TO.sJ (TO.sR (TO.sI (TO.refl) ma) mb) ma) ma
  have hK := kx_is (h.cis hi)
  obtain ⟨clk, lt, gv, ph, ls, bl, cn, fl, lc, q, tl, sn, ws, hd, prl, cnt, rch, wS, wT, wF, rdy, hS, hT, fi, gT, gC, hc, hm, a1, a2, a3, a4, a5, a6, a7, a8, a9, a10⟩ := h.iq hi
  obtain ⟨c0, c1, c2, c3, c4, c5, c6, c7, c8, c9, c10, c11, c12, c13⟩ := ci_inv hc
  obtain ⟨m0, m1, m2, m3, m4, m5, m6, m7, m8, m9, m10, m11, m12, m13, m14, m15, m16, m17⟩ := mi_inv hm
  have g9 := (h.cis hi).2.2.2.2.2.2.2.1
  have g11 := (h.cis hi).2.2.2.2.2.2.2.2
  have gs := (h.cis hi).2.2.2.2.2.2.1
  have hp2 : ph = 2 := m1.symm.trans hph
  have hws := a10 hp2
  have gk : gK S w0 = 1 ∧ rwA S w0 2 := by
    rcases g9 with e | ⟨e1, e2, e3⟩
    · rw [e] at hw0; cases hw0
    · have e4 : cr S (x + 188 + 2 * i) 9 = w0 := by unfold cr; rw [hw0]; rfl
      rw [e4] at e2 e3; exact ⟨e2, e3⟩
  have e11 : gR (sI (sJ (sR (sI S (x + 188 + 2 * i) 3 0) (x + 188 + 2 * i) 11 (some w0)) (x + 188 + 2 * i) 12 (-1)) (x + 188 + 2 * i) 13 0) (x + 188 + 2 * i) 11 = some w0 := rI (rJ gR_s)
  have e12 : cr (sI (sJ (sR (sI S (x + 188 + 2 * i) 3 0) (x + 188 + 2 * i) 11 (some w0)) (x + 188 + 2 * i) 12 (-1)) (x + 188 + 2 * i) 13 0) (x + 188 + 2 * i) 11 = w0 := by unfold cr; rw [e11]; rfl
  have gg := to_gv hO hK gk.1 gk.2
  obtain ⟨cnt', hcnt'⟩ : ∃ f, (fun n9 => if n9 < 5 then gI (sJ (sJ (sI (sI (sI (sI (sI T (o + 22) (5 * i + n) 1) (o + 18) i 0) (o + 27) i 1) (o + 28) i (gI T (o + 24) i)) (o + 29) i (gI T (o + 25) i)) (o + 30) i (gJ T (o + 26) i)) (o + 31) i (-1)) (o + 22) (5 * i + n9) else 0) = f := ⟨_, rfl⟩
  have q9 := to_grB hO hK (j := 9) (rI (rJ (rR (Or.inl (by decide)) (rI (rfl))))) g9
  have q11 := (⟨Or.inr ⟨by rw [e12]; exact e11, by rw [e12]; exact gg.2.1, by rw [e12]; exact gg.2.2⟩, by rw [e11, ← c8, hw0]; show some _ = some _; rw [gg.1]⟩ : grA (sI (sJ (sR (sI S (x + 188 + 2 * i) 3 0) (x + 188 + 2 * i) 11 (some w0)) (x + 188 + 2 * i) 12 (-1)) (x + 188 + 2 * i) 13 0) (x + 188 + 2 * i) 11 ∧ (gR (sI (sJ (sR (sI S (x + 188 + 2 * i) 3 0) (x + 188 + 2 * i) 11 (some w0)) (x + 188 + 2 * i) 12 (-1)) (x + 188 + 2 * i) 13 0) (x + 188 + 2 * i) 11).map (gvw (sI (sJ (sR (sI S (x + 188 + 2 * i) 3 0) (x + 188 + 2 * i) 11 (some w0)) (x + 188 + 2 * i) 12 (-1)) (x + 188 + 2 * i) 13 0)) = ws)
  have qs := fun s (hs : s < 8) => (to_rwB hO hK (a := x + 188 + 2 * i + 1) (j := s) (rI (rJ (rR (Or.inr (by omega)) (rI (rfl))))) (gs s hs)).1
  have qv := (to_rvB hO hK (a := x + 188 + 2 * i + 1) (fun s _ => rI (rJ (rR (Or.inr (by omega)) (rI (rfl))))) gs).trans c7
  refine RS.iss h hi hO (is_go hO h.base (h.cis hi) (rI (rJ (rR (Or.inl (by decide)) (rI (rfl))))) (rI (rJ (rR (Or.inl (by decide)) (rI (rfl))))) qs q9.1 q11.1) (mJ (mJ (mI (mI (mI (mI (mI (h.2.2.1)))))))) (xJ (xJ (xI_a (by omega) (xI_a (by omega) (xI_a (by omega) (xI_a (by omega) (xI_a (by omega) (rfl)))))))) (xJ (xJ (xI_a (by omega) (xI_a (by omega) (xI_a (by omega) (xI_a (by omega) (xI_a (by omega) (rfl)))))))) ((ml_J (by decide)).trans ((ml_J (by decide)).trans ((ml_I (by decide)).trans ((ml_I (by decide)).trans ((ml_I (by decide)).trans ((ml_I (by decide)).trans (ml_I (by decide)))))))) ((mn_J).trans ((mn_J).trans ((mn_I (by decide) (by decide)).trans ((mn_I (by decide) (by decide)).trans ((mn_I (by decide) (by decide)).trans ((mn_I (by decide) (by decide)).trans (mn_I (by decide) (by decide)))))))) ((ms_J (by decide)).trans ((ms_J (by decide)).trans ((ms_I (by decide)).trans ((ms_I (by decide)).trans ((ms_I (by decide)).trans ((ms_I (by decide)).trans (ms_I (by decide)))))))) (fun j hj => (mi_Jj hj).trans ((mi_Jj hj).trans ((mi_Ij (by decide) (by decide) hj).trans ((mi_Ij (by decide) (by decide) hj).trans ((mi_Ij (by decide) (by decide) hj).trans ((mi_Ij (by decide) (by decide) hj).trans (mi_I5 (by decide) hj hn9)))))))
    ⟨(clk), (-1), (gv), (0), (ls), (bl), (cn), (fl), (0), (q), (tl), (sn), (ws), (ws), (prl), (cnt'), (rch), (wS), (wT), (wF), (1), (wS), (wT), (wF), (-1), (gC), ci_mk (xI_k (by decide) (xJ (xR (xI_k (by decide) (c0))))) (yI (yJ_k (by decide) (yR (yI (c1))))) (xI_k (by decide) (xJ (xR (gI_s)))) (xI_k (by decide) (xJ (xR (xI_k (by decide) (c3))))) (xI_k (by decide) (xJ (xR (xI_k (by decide) (c4))))) (xI_k (by decide) (xJ (xR (xI_k (by decide) (c5))))) (xI_k (by decide) (xJ (xR (xI_k (by decide) (c6))))) qv (q9.2.trans c8) (xI_k (by decide) (xJ (xR (xI_k (by decide) (c9))))) q11.2 (yI (gJ_s)) (gI_s) (yI (yJ_k (by decide) (yR (yI (c13))))),
      mi_mk (yJ_a (by omega) (yJ_a (by omega) (yI (yI (yI (yI (yI (m0)))))))) (xJ (xJ (xI_a (by omega) (xI_a (by omega) (xI_a (by omega) (gI_s)))))) (xJ (xJ (xI_a (by omega) (xI_a (by omega) (xI_a (by omega) (xI_a (by omega) (xI_a (by omega) (m2)))))))) (xJ (xJ (xI_a (by omega) (xI_a (by omega) (xI_a (by omega) (xI_a (by omega) (xI_a (by omega) (m3)))))))) (xJ (xJ (xI_a (by omega) (xI_a (by omega) (xI_a (by omega) (xI_a (by omega) (xI_a (by omega) (m4)))))))) (hcnt') (Eq.trans (funext fun n9 => by rw [show gI (sJ (sJ (sI (sI (sI (sI (sI T (o + 22) (5 * i + n) 1) (o + 18) i 0) (o + 27) i 1) (o + 28) i (gI T (o + 24) i)) (o + 29) i (gI T (o + 25) i)) (o + 30) i (gJ T (o + 26) i)) (o + 31) i (-1)) (o + 23) (5 * i + n9) = gI T (o + 23) (5 * i + n9) from xJ (xJ (xI_a (by omega) (xI_a (by omega) (xI_a (by omega) (xI_a (by omega) (xI_a (by omega) (rfl)))))))]) m6) (xJ (xJ (xI_a (by omega) (xI_a (by omega) (xI_a (by omega) (xI_a (by omega) (xI_a (by omega) (m7)))))))) (xJ (xJ (xI_a (by omega) (xI_a (by omega) (xI_a (by omega) (xI_a (by omega) (xI_a (by omega) (m8)))))))) (yJ_a (by omega) (yJ_a (by omega) (yI (yI (yI (yI (yI (m9)))))))) (xJ (xJ (xI_a (by omega) (xI_a (by omega) (gI_s))))) (xJ (xJ (xI_a (by omega) ((gI_s.trans m7))))) (xJ (xJ ((gI_s.trans m8)))) (yJ_a (by omega) ((gJ_s.trans m9))) (gJ_s) (xJ (xJ (xI_a (by omega) (xI_a (by omega) (xI_a (by omega) (xI_a (by omega) (xI_a (by omega) (m15)))))))) (xJ (xJ (xI_a (by omega) (xI_a (by omega) (xI_a (by omega) (xI_a (by omega) (xI_a (by omega) (m16)))))))) (yJ_a (by omega) (yJ_a (by omega) (yI (yI (yI (yI (yI (m17)))))))), a1, a2, a3, a4, Or.inl rfl, Or.inr ⟨rfl, hws.choose, hws.choose_spec.1, hws.choose_spec.2, rfl, Or.inl rfl⟩, a7, fun h8 => absurd rfl h8, fun h8 => absurd h8 (by decide), fun h8 => absurd h8 (by decide)⟩
    (Or.inl ⟨?_, fun q9 => ?_⟩) (fun _ _ _ _ _ => rfl) (h.gb)
  · rw [attF_mi, attF_mi, show gI (sJ (sJ (sI (sI (sI (sI (sI T (o + 22) (5 * i + n) 1) (o + 18) i 0) (o + 27) i 1) (o + 28) i (gI T (o + 24) i)) (o + 29) i (gI T (o + 25) i)) (o + 30) i (gJ T (o + 26) i)) (o + 31) i (-1)) (o + 20) i = gI T (o + 20) i from xJ (xJ (xI_a (by omega) (xI_a (by omega) (xI_a (by omega) (xI_a (by omega) (xI_a (by omega) (rfl)))))))]
  · rw [dgF_mi, show gI (sJ (sJ (sI (sI (sI (sI (sI T (o + 22) (5 * i + n) 1) (o + 18) i 0) (o + 27) i 1) (o + 28) i (gI T (o + 24) i)) (o + 29) i (gI T (o + 25) i)) (o + 30) i (gJ T (o + 26) i)) (o + 31) i (-1)) (o + 18) i = 0 from xJ (xJ (xI_a (by omega) (xI_a (by omega) (xI_a (by omega) (gI_s)))))] at q9
    exact absurd q9 (by decide)

theorem rc_nwr {S : gS} {a b : Nat} : rcS S (nwr S a b) = if (rcS S a).1 < (rcS S b).1 then rcS S b else rcS S a := by
  unfold nwr
  show rcS S (if gI S a 0 < gI S b 0 then b else a) = if gI S a 0 < gI S b 0 then rcS S b else rcS S a
  split <;> rfl
theorem SQ.add {sn r : R4} {cnt rch : Nat → Int32} {st : Nat → MS} {s n far : Nat} (h : SQ sn cnt rch st s) (hc0 : cnt n = 0) (hn : n < 5) (hf : far < 2 ^ 31) (hr : r = rw1 st n s far) : SQ (if sn.1 < r.1 then r else sn) (fun m => if m = n then 1 else cnt m) (fun m => if m = n then nI far else rch m) st s := by
  refine ⟨fun m hm hc => ?_, ?_⟩
  · by_cases e : m = n
    · subst e
      simp only [if_true]
      rw [nI_clamp hf, ← hr]
      split
      · exact Int32.le_refl _
      · rename_i q; exact Int32.not_lt.mp q
    · simp only [if_neg e] at hc ⊢
      have h1 := h.1 m hm hc
      split
      · rename_i q; exact Int32.le_trans h1 (Int32.le_of_lt q)
      · exact h1
  · by_cases q : sn.1 < r.1
    · rw [if_pos q]
      exact Or.inr ⟨n, hn, by simp, by simp only [if_true]; rw [nI_clamp hf]; exact hr⟩
    · rw [if_neg q]
      rcases h.2 with h2 | ⟨m, hm, hc, h2⟩
      · exact Or.inl h2
      · by_cases e : m = n
        · exact absurd (e ▸ hc0) hc
        · exact Or.inr ⟨m, hm, by simp only [if_neg e]; exact hc, by simp only [if_neg e]; exact h2⟩
theorem sim_cnt  (h : RS S T x o pm L t J G) (hi : i < 8) {n far : Nat} {v : Int32} {g : Nat → Nat} (hn9 : n < 5) (hph : gI T (o + 18) i = 1) (hv : v = gI S (x + 188 + 2 * i) 7 ||| (1 <<< (nI n &&& 31))) (hc0 : gI T (o + 22) (5 * i + n) = 0) (hfar : far ≤ t) (hg : ∀ s, s < 8 → gK S (g s) = 6 ∧ rcS S (g s) = rw1 (ms T o) n s far) : RS (sRow (sI S (x + 188 + 2 * i) 7 v) (x + 188 + 2 * i + 1) 8 (fun j => some (nwr S (cr S (x + 188 + 2 * i + 1) j) (g j)))) (sI (sI T (o + 22) (5 * i + n) 1) (o + 23) (5 * i + n) (nI far)) x o pm L t J G := by
  have hO : TO (MA x i) (MB x i) S (sRow (sI S (x + 188 + 2 * i) 7 v) (x + 188 + 2 * i + 1) 8 (fun j => some (nwr S (cr S (x + 188 + 2 * i + 1) j) (g j)))) := TO.sRow (TO.sI (TO.refl) ma) mb1
  have hK := kx_is (h.cis hi)
  obtain ⟨clk, lt, gv, ph, ls, bl, cn, fl, lc, q, tl, sn, ws, hd, prl, cnt, rch, wS, wT, wF, rdy, hS, hT, fi, gT, gC, hc, hm, a1, a2, a3, a4, a5, a6, a7, a8, a9, a10⟩ := h.iq hi
  obtain ⟨c0, c1, c2, c3, c4, c5, c6, c7, c8, c9, c10, c11, c12, c13⟩ := ci_inv hc
  obtain ⟨m0, m1, m2, m3, m4, m5, m6, m7, m8, m9, m10, m11, m12, m13, m14, m15, m16, m17⟩ := mi_inv hm
  have g9 := (h.cis hi).2.2.2.2.2.2.2.1
  have g11 := (h.cis hi).2.2.2.2.2.2.2.2
  have gs := (h.cis hi).2.2.2.2.2.2.1
  have hp1 : ph = 1 := m1.symm.trans hph
  obtain ⟨b1, b2, b3, b, b4, b5, b6⟩ := a8 (by rw [hp1]; decide)
  have e7 : gI S (x + 188 + 2 * i) 7 = nI b := c6.trans b5
  rw [e7] at hv
  obtain ⟨o1, o2, o3, o4⟩ := b5_or b b4 n hn9
  have hcn : ∀ m, m < 5 → (if m = n then (1 : Int32) else cnt m) = bit5 (b ||| (1 <<< n)) m := fun m hm => by
    unfold bit5
    rw [o3 m hm]
    by_cases e : m = n
    · rw [if_pos e, e]; simp
    · rw [if_neg e, b6 m hm]; unfold bit5; simp [e]
  have q9 := to_grB hO hK (j := 9) (rW (by omega) (rI (rfl))) g9
  have q11 := to_grB hO hK (j := 11) (rW (by omega) (rI (rfl))) g11
  have hr : ∀ s, s < 8 → gR (sRow (sI S (x + 188 + 2 * i) 7 v) (x + 188 + 2 * i + 1) 8 (fun j => some (nwr S (cr S (x + 188 + 2 * i + 1) j) (g j)))) (x + 188 + 2 * i + 1) s = some (nwr S (cr S (x + 188 + 2 * i + 1) s) (g s)) := fun s hs => by rw [gR_sRow, if_pos rfl, if_pos hs]
  have hcr : ∀ s, s < 8 → cr (sRow (sI S (x + 188 + 2 * i) 7 v) (x + 188 + 2 * i + 1) 8 (fun j => some (nwr S (cr S (x + 188 + 2 * i + 1) j) (g j)))) (x + 188 + 2 * i + 1) s = nwr S (cr S (x + 188 + 2 * i + 1) s) (g s) := fun s hs => by show (gR _ _ s).getD 0 = _; rw [hr s hs]; rfl
  have hk6 : ∀ s, s < 8 → gK S (nwr S (cr S (x + 188 + 2 * i + 1) s) (g s)) = 6 := fun s hs => by
    unfold nwr; split
    · exact (hg s hs).1
    · exact (gs s hs).2
  have qs : ∀ s, s < 8 → rwA (sRow (sI S (x + 188 + 2 * i) 7 v) (x + 188 + 2 * i + 1) 8 (fun j => some (nwr S (cr S (x + 188 + 2 * i + 1) j) (g j)))) (x + 188 + 2 * i + 1) s := fun s hs => ⟨by rw [hcr s hs]; exact hr s hs, by rw [hcr s hs]; exact (to_rc hO hK (hk6 s hs)).2⟩
  have qv : rv (sRow (sI S (x + 188 + 2 * i) 7 v) (x + 188 + 2 * i + 1) 8 (fun j => some (nwr S (cr S (x + 188 + 2 * i + 1) j) (g j)))) (x + 188 + 2 * i + 1) = fun s => if (sn s).1 < (rw8 (ms T o) n far s).1 then rw8 (ms T o) n far s else sn s := funext fun s => by
    rw [← c7]
    unfold rv rw8
    by_cases hs : s < 8
    · rw [if_pos hs, if_pos hs, if_pos hs, hcr s hs, (to_rc hO hK (hk6 s hs)).1, rc_nwr, (hg s hs).2]
    · rw [if_neg hs, if_neg hs, if_neg hs, if_neg (by decide)]
  refine RS.iss h hi hO (is_go hO h.base (h.cis hi) (rW (by omega) (rI (rfl))) (rW (by omega) (rI (rfl))) qs q9.1 q11.1) (mI (mI (h.2.2.1))) (xI_a (by omega) (xI_a (by omega) (rfl))) (xI_a (by omega) (xI_a (by omega) (rfl))) ((ml_I (by decide)).trans (ml_I (by decide))) ((mn_I (by decide) (by decide)).trans (mn_I (by decide) (by decide))) ((ms_I (by decide)).trans (ms_I (by decide))) (fun j hj => (mi_I5 (by decide) hj hn9).trans (mi_I5 (by decide) hj hn9))
    ⟨(clk), (lt), (gv), (ph), (ls), (bl), (v), (fl), (lc), (q), (tl), (fun s => if (sn s).1 < (rw8 (ms T o) n far s).1 then rw8 (ms T o) n far s else sn s), (ws), (hd), (prl), (fun m => if m = n then 1 else cnt m), (fun m => if m = n then nI far else rch m), (wS), (wT), (wF), (rdy), (hS), (hT), (fi), (gT), (gC), ci_mk (xW (xI_k (by decide) (c0))) (yW (yI (c1))) (xW (xI_k (by decide) (c2))) (xW (xI_k (by decide) (c3))) (xW (xI_k (by decide) (c4))) (xW (xI_k (by decide) (c5))) (xW (gI_s)) qv (q9.2.trans c8) (xW (xI_k (by decide) (c9))) (q11.2.trans c10) (yW (yI (c11))) (xW (xI_k (by decide) (c12))) (yW (yI (c13))),
      mi_mk (yI (yI (m0))) (xI_a (by omega) (xI_a (by omega) (m1))) (xI_a (by omega) (xI_a (by omega) (m2))) (xI_a (by omega) (xI_a (by omega) (m3))) (xI_a (by omega) (xI_a (by omega) (m4))) (funext fun n9 => by
        by_cases e : n9 = n
        · rw [e, if_pos hn9, if_pos rfl]; exact xI_a (by omega) gI_s
        · rw [if_neg e, ← m5]; show (if n9 < 5 then _ else 0) = (if n9 < 5 then _ else 0); split
          · exact xI_a (by omega) (xI_k (by omega) rfl)
          · rfl) (funext fun n9 => by
        by_cases e : n9 = n
        · rw [e, if_pos hn9, if_pos rfl]; exact gI_s
        · rw [if_neg e, ← m6]; show (if n9 < 5 then _ else 0) = (if n9 < 5 then _ else 0); split
          · exact xI_k (by omega) (xI_a (by omega) rfl)
          · rfl) (xI_a (by omega) (xI_a (by omega) (m7))) (xI_a (by omega) (xI_a (by omega) (m8))) (yI (yI (m9))) (xI_a (by omega) (xI_a (by omega) (m10))) (xI_a (by omega) (xI_a (by omega) (m11))) (xI_a (by omega) (xI_a (by omega) (m12))) (yI (yI (m13))) (yI (yI (m14))) (xI_a (by omega) (xI_a (by omega) (m15))) (xI_a (by omega) (xI_a (by omega) (m16))) (yI (yI (m17))), a1, a2, a3, a4, a5, a6, fun m hm => by
        by_cases e : m = n
        · exact ⟨far, hfar, by simp only [if_pos e]⟩
        · simp only [if_neg e]; exact a7 m hm, fun _ => ⟨b1, b2, b3, (b ||| (1 <<< n)), o2, hv.trans o1, hcn⟩, fun _ s hs => by
        have e9 : rw8 (ms T o) n far s = rw1 (ms T o) n s far := by unfold rw8; rw [if_pos hs]
        exact (a9 hp1 s hs).add (by rw [← m5]; show (if n < 5 then _ else 0) = (0 : Int32); rw [if_pos hn9]; exact hc0) hn9 (by have := h.bd; omega) e9, fun h8 => absurd (h8.symm.trans hp1) (by decide)⟩
    (Or.inl ⟨?_, fun q9 => ?_⟩) (fun _ _ _ _ _ => rfl) (h.gb)
  · rw [attF_mi, attF_mi, show gI (sI (sI T (o + 22) (5 * i + n) 1) (o + 23) (5 * i + n) (nI far)) (o + 20) i = gI T (o + 20) i from xI_a (by omega) (xI_a (by omega) (rfl))]
  · rw [dgF_mi, show gI (sI (sI T (o + 22) (5 * i + n) 1) (o + 23) (5 * i + n) (nI far)) (o + 18) i = gI T (o + 18) i from xI_a (by omega) (xI_a (by omega) (rfl))] at q9
    rw [dgF_mi]; exact q9

end IS
