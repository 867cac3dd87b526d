set_option linter.constructorNameAsVariable false
/-! A letter is handed over: the class's step and the model's. -/
theorem mi_sty {T : gS} {o t : Nat} {n st b i tm : Int32} {mk : Int64} : mi (mStory T o t n st b i tm mk) o = mi T o := by
  unfold mStory
  rw [mi_o, mi_J (by decide), mi_I (by decide), mi_I (by decide), mi_I (by decide), mi_I (by decide), mi_I (by decide)]
section DS
variable {S T S1 T2 : gS} {x o k i n q : Nat} {pm : Nat → Nat} {L t J : Nat} {G : Nat → R3} {rc : Nat → Nat} {v : Option Value}
theorem md0 (e : gI T (o + 1) k = 0) (h : mDel T o L k i n t rc v T2) : (gI T (o + 15) n ≠ 0 ∧ v = some (.int 0) ∧ T2 = mRem T o k L) ∨ (gI T (o + 15) n = 0 ∧ v = some (.int 1) ∧ T2 = (if gI T (o + 16) n < gI T (o + 4) k then mSend (sI (mRem T o k L) (o + 16) n (gI T (o + 4) k)) o (L - 1) 1 (nI i) (nI n) (gI T (o + 4) k) (gI T o 10) else mSend (mRem T o k L) o (L - 1) 4 (nI i) (nI n) (gI T (o + 4) k) (gI T (o + 16) n))) := by
  unfold mDel at h
  rw [e] at h
  rcases h with ⟨a, _⟩ | ⟨a, _⟩ | ⟨_, b⟩ | ⟨_, b⟩ | ⟨a, _⟩ | ⟨⟨a, _⟩, _⟩
  · exact absurd a (by decide)
  · exact absurd a (by decide)
  · exact Or.inl b
  · exact Or.inr b
  · exact absurd a (by decide)
  · exact absurd rfl a
theorem md1 (e : gI T (o + 1) k = 1) (h : mDel T o L k i n t rc v T2) : ∃ far, gI T (o + 8) k = nI far ∧ far ≤ 600 ∧ mPro T o L k i n far (gI T (o + 4) k) rc v T2 := by
  unfold mDel at h
  rw [e] at h
  rcases h with ⟨_, b⟩ | ⟨a, _⟩ | ⟨a, _⟩ | ⟨a, _⟩ | ⟨a, _⟩ | ⟨⟨_, a, _⟩, _⟩
  · exact b
  · exact absurd a (by decide)
  · rcases a with a | a <;> exact absurd a (by decide)
  · exact absurd a (by decide)
  · exact absurd a (by decide)
  · exact absurd rfl a
theorem md2 (e : gI T (o + 1) k = 2) (h : mDel T o L k i n t rc v T2) : (gI T (o + 15) n ≠ 0 ∧ v = some (.int 0) ∧ T2 = mRem T o k L) ∨ (gI T (o + 15) n = 0 ∧ v = some (.int 1) ∧ T2 = (if gI T (o + 4) k < gI T (o + 16) n then mSend (mRem T o k L) o (L - 1) 4 (nI i) (nI n) (gI T (o + 4) k) (gI T (o + 16) n) else mSend (mStory (sI (mRem T o k L) (o + 16) n (gI T (o + 4) k)) o t (nI n) (gI T (o + 5) k) (gI T (o + 4) k) (nI i) (gI T (o + 6) k) (gJ T (o + 7) k)) o (L - 1) 3 (nI i) (nI n) (gI T (o + 4) k) 0)) := by
  unfold mDel at h
  rw [e] at h
  rcases h with ⟨a, _⟩ | ⟨_, b⟩ | ⟨_, b⟩ | ⟨a, _⟩ | ⟨a, _⟩ | ⟨⟨_, _, a, _⟩, _⟩
  · exact absurd a (by decide)
  · exact Or.inr b
  · exact Or.inl b
  · exact absurd a (by decide)
  · exact absurd a (by decide)
  · exact absurd rfl a
theorem md3 (e : gI T (o + 1) k = 3) (h : mDel T o L k i n t rc v T2) : v = some (.int 0) ∧ mAgr (mRem T o k L) o i n (gI T (o + 4) k) T2 := by
  unfold mDel at h
  rw [e] at h
  rcases h with ⟨a, _⟩ | ⟨a, _⟩ | ⟨a, _⟩ | ⟨a, _⟩ | ⟨_, b⟩ | ⟨⟨_, _, _, a⟩, _⟩
  · exact absurd a (by decide)
  · exact absurd a (by decide)
  · rcases a with a | a <;> exact absurd a (by decide)
  · exact absurd a (by decide)
  · exact b
  · exact absurd rfl a
theorem md4 (e : gI T (o + 1) k = 4) (h : mDel T o L k i n t rc v T2) : v = some (.int 0) ∧ (((gI T (o + 18) i = 0 ∨ gI T (o + 4) k ≠ 8 * gI T (o + 20) i + nI i) ∧ T2 = mRem T o k L) ∨ (¬ (gI T (o + 18) i = 0 ∨ gI T (o + 4) k ≠ 8 * gI T (o + 20) i + nI i) ∧ T2 = sI (mFail (mRem T o k L) o i) (o + 21) i (gI T (o + 8) k / 8))) := by
  unfold mDel at h
  rw [e] at h
  rcases h with ⟨a, _⟩ | ⟨a, _⟩ | ⟨a, _⟩ | ⟨a, _⟩ | ⟨a, _⟩ | ⟨_, b⟩
  · exact absurd a (by decide)
  · exact absurd a (by decide)
  · rcases a with a | a <;> exact absurd a (by decide)
  · exact absurd a (by decide)
  · exact absurd a (by decide)
  · exact b
theorem RS.prm (h : RS S T x o pm L t J G) (hn : n < 5) : ∃ b, b ≤ 8 * J + 7 ∧ gI S (x + 204 + 2 * n) 1 = nI b ∧ gI T (o + 16) n = nI b := by
  obtain ⟨b, hb, hq⟩ := h.nq hn
  rcases hq with ⟨hc, hm⟩ | ⟨hc, hm⟩
  · exact ⟨b, hb, (cn_inv hc).2.1, (mn_inv hm).2⟩
  · exact ⟨b, hb, (cn_inv hc).2.1, (mn_inv hm).2⟩
/-- PREPARE at a node that is up -/
theorem ds_prep (h : RS S T x o pm L t J G) (hk : k < L) (hi : i < 8) (hn : n < 5) (hq1 : 1 ≤ q) (hqa : q ≤ attF (mi T o) i) (c1 : gI S (x + 6 + 2 * pm k) 1 = nI i) (c2 : gI S (x + 6 + 2 * pm k) 2 = nI n) (c3 : gI S (x + 6 + 2 * pm k) 3 = nI (8 * q + i)) (m3 : gI T (o + 4) k = nI (8 * q + i)) :
    RS (cPrepA (cTake S (x + 4) (x + 5) (fun k => x + 6 + 2 * pm k) k) (x + 204 + 2 * n) (x + 6 + 2 * pm k) (x + 4) (x + 6 + 2 * pm L) (x + 6 + 2 * pm L + 1) (fun j => cr S (x + 204 + 2 * n + 1) j)) (if gI T (o + 16) n < gI T (o + 4) k then mSend (sI (mRem T o k L) (o + 16) n (gI T (o + 4) k)) o (L - 1) 1 (nI i) (nI n) (gI T (o + 4) k) (gI T o 10) else mSend (mRem T o k L) o (L - 1) 4 (nI i) (nI n) (gI T (o + 4) k) (gI T (o + 16) n)) x o (tkf pm k) (L - 1 + 1) t J G := by
  have hb := h.bd
  have hat := h.att_le hi
  have h1 := h.take hk
  have eL := tkf_L (lt := pm) hk hb.1
  obtain ⟨b, hb9, p1, p2⟩ := h.prm hn
  unfold cPrepA
  rw [gI_Tk (by omega), gI_Tk (by omega), gI_Tk (by omega), gI_Tk (by omega), c1, c2, c3, m3, p1, p2, h.2.2.2.2.1]
  by_cases hlt : nI b < nI (8 * q + i)
  · rw [if_pos hlt, if_pos hlt]
    have h2 := sim_prm h1 hn (b1 := 8 * q + i) (by omega)
    have h3 := sim_sendP h2 (i := i) (n := n) (q := q) (far := t) (f := fun j => cr S (x + 204 + 2 * n + 1) j) (Nat.le_refl t) (fun s hs => ⟨((h.cnd hn).2.2.2.2.2 s hs).2, by
      have := h2.nrow hn hs
      rw [show cr (sI (cTake S (x + 4) (x + 5) (fun k => x + 6 + 2 * pm k) k) (x + 204 + 2 * n) 1 (nI (8 * q + i))) (x + 204 + 2 * n + 1) s = cr S (x + 204 + 2 * n + 1) s from by
        unfold cr
        rw [show gR (sI (cTake S (x + 4) (x + 5) (fun k => x + 6 + 2 * pm k) k) (x + 204 + 2 * n) 1 (nI (8 * q + i))) (x + 204 + 2 * n + 1) s = gR S (x + 204 + 2 * n + 1) s from rI (rTk (by omega) rfl)]] at this
      exact this⟩) (by omega) hi hn hq1 (by rw [mi_I (by decide), mi_mRem]; exact hqa)
    rw [eL] at h3
    exact h3
  · rw [if_neg hlt, if_neg hlt]
    have h3 := sim_sendN h1 (i := i) (n := n) (q := q) (b := b) hb9 (by omega) hi hn hq1 (by rw [mi_mRem]; exact hqa)
    rw [eL] at h3
    exact h3
/-- ACCEPT at a node that is up -/
theorem ds_acc {s : Nat} {tm : Int32} {mk : Int64} (h : RS S T x o pm L t J G) (ht : t + 1 ≤ J) (hk : k < L) (hi : i < 8) (hn : n < 5) (hs : s < 8) (hq1 : 1 ≤ q) (hqa : q ≤ attF (mi T o) i) (c1 : gI S (x + 6 + 2 * pm k) 1 = nI i) (c2 : gI S (x + 6 + 2 * pm k) 2 = nI n) (c3 : gI S (x + 6 + 2 * pm k) 3 = nI (8 * q + i)) (c4 : gI S (x + 6 + 2 * pm k) 4 = nI s) (c6 : rcS S (cr S (x + 6 + 2 * pm k) 6) = (nI (8 * q + i), nI i, tm, mk)) (m3 : gI T (o + 4) k = nI (8 * q + i)) (m4 : gI T (o + 5) k = nI s) (m5 : gI T (o + 6) k = tm) (m6 : gJ T (o + 7) k = mk)
    (hG : G (8 * q + i) = (nI s, tm, mk)) (hd : ¬ (dgF (mi T o) i = 1 ∧ q = attF (mi T o) i)) :
    ∃ t', RS (cAccA (cTake S (x + 4) (x + 5) (fun k => x + 6 + 2 * pm k) k) (x + 204 + 2 * n) (x + 6 + 2 * pm k) (x + 4) (x + 6 + 2 * pm L) (x + 204 + 2 * n + 1) (cr S (x + 6 + 2 * pm k) 6)) (if gI T (o + 4) k < gI T (o + 16) n then mSend (mRem T o k L) o (L - 1) 4 (nI i) (nI n) (gI T (o + 4) k) (gI T (o + 16) n) else mSend (mStory (sI (mRem T o k L) (o + 16) n (gI T (o + 4) k)) o t (nI n) (gI T (o + 5) k) (gI T (o + 4) k) (nI i) (gI T (o + 6) k) (gJ T (o + 7) k)) o (L - 1) 3 (nI i) (nI n) (gI T (o + 4) k) 0) x o (tkf pm k) (L - 1 + 1) t' J G := by
  have hb := h.bd
  have hat := h.att_le hi
  have h1 := h.take hk
  have eL := tkf_L (lt := pm) hk hb.1
  obtain ⟨b, hb9, p1, p2⟩ := h.prm hn
  have hcl := h.clt (h.cpm.1 k)
  unfold cAccA
  rw [gI_Tk (by omega), gI_Tk (by omega), gI_Tk (by omega), gI_Tk (by omega), gI_Tk (by omega), c1, c2, c3, c4, m3, m4, m5, m6, p1, p2, nI_clamp (by omega)]
  by_cases hlt : nI (8 * q + i) < nI b
  · rw [if_pos hlt, if_pos hlt]
    have h3 := sim_sendN h1 (i := i) (n := n) (q := q) (b := b) hb9 (by omega) hi hn hq1 (by rw [mi_mRem]; exact hqa)
    rw [eL] at h3
    exact ⟨t, h3⟩
  · rw [if_neg hlt, if_neg hlt]
    have h2 := sim_accept h1 (i := i) (s := s) (q := q) (r := cr S (x + 6 + 2 * pm k) 6) (tm := tm) (mk := mk) hn ht hi hs hq1 (by rw [mi_mRem]; exact hqa) (by omega) hcl.2.2.2.2.1.2 (by
      rw [← c6]
      have hk6 : gK S (cr S (x + 6 + 2 * pm k) 6) = 6 := hcl.2.2.2.2.1.2
      have hne : cr S (x + 6 + 2 * pm k) 6 ≠ x + 4 := nek hk6 h.base.2.2.2.1 (by decide)
      unfold rcS
      rw [gI_Tk hne, gI_Tk hne, gI_Tk hne]
      rfl) hG (by rw [mi_mRem]; exact hd)
    have h3 := sim_send h2 (kd := 3) (ex := 0) (i := i) (n := n) (q := q) (Or.inr rfl) (by omega) hi hn hq1 (by rw [mi_sty, mi_I (by decide), mi_mRem]; exact hqa)
    rw [eL] at h3
    exact ⟨t + 1, h3⟩
/-! counting -/
theorem counts_iff {m : Nat} {bl ph : Int32} (h : RS S T x o pm L t J G) (hi : i < 8) (hn : n < 5) (hph : ph ≠ 0) (e2 : gI S m 2 = nI n) (e3 : gI S m 3 = bl) : cCounts S (x + 188 + 2 * i) m ph ↔ (gI T (o + 18) i = ph ∧ bl = 8 * gI T (o + 20) i + nI i ∧ gI T (o + 22) (5 * i + n) = 0) := by
  obtain ⟨clk, lt, gv, ph0, ls, bl0, cn, fl, lc, q, tl, sn, ws, hd, prl, cnt, rch, wS, wT, wF, rdy, hS, hT, fi, gT, gC, hc, hm, a1, a2, a3, a4, a5, a6, a7, a8, a9, a10⟩ := h.iq hi
  obtain ⟨c0, c1, c2, c3, c4, c5, c6, c7, c8, c9, c10, c11, c12, c13⟩ := ci_inv hc
  obtain ⟨m0, m1, m2, m3, m4, m5, m6, m7, m8, m9, m10, m11, m12, m13, m14, m15, m16, m17⟩ := mi_inv hm
  unfold cCounts
  rw [c2, m1, e3, c5, c6, e2, m3]
  by_cases hp : ph0 = ph
  · obtain ⟨-, hq1, hbl, b, hb, hcn, hbits⟩ := a8 (by rw [hp]; exact hph)
    have m5n : gI T (o + 22) (5 * i + n) = bit5 b n := by
      have := congrFun m5 n
      rw [if_pos hn, hbits n hn] at this
      exact this
    rw [hbl, hcn, m5n, b5_and b hb n hn, bit5_0, ← nI8]
  · exact ⟨fun w => absurd w.1 hp, fun w => absurd w.1 hp⟩
theorem maj_iff {m : Nat} (h : RS S T x o pm L t J G) (hi : i < 8) (hn : n < 5) (hph : gI T (o + 18) i ≠ 0) (hz : gI T (o + 22) (5 * i + n) = 0) (e2 : gI S m 2 = nI n) : ∃ c : Nat, c ≤ 5 ∧ cntF T o i 5 = nI c ∧ (cMaj S (x + 188 + 2 * i) m ↔ 2 ≤ c) ∧ cntF (sI T (o + 22) (5 * i + n) 1) o i 5 = nI (c + 1) := by
  obtain ⟨clk, lt, gv, ph0, ls, bl0, cn, fl, lc, q, tl, sn, ws, hd, prl, cnt, rch, wS, wT, wF, rdy, hS, hT, fi, gT, gC, hc, hm, a1, a2, a3, a4, a5, a6, a7, a8, a9, a10⟩ := h.iq hi
  obtain ⟨c0, c1, c2, c3, c4, c5, c6, c7, c8, c9, c10, c11, c12, c13⟩ := ci_inv hc
  obtain ⟨m0, m1, m2, m3, m4, m5, m6, m7, m8, m9, m10, m11, m12, m13, m14, m15, m16, m17⟩ := mi_inv hm
  obtain ⟨-, hq1, hbl, b, hb, hcn, hbits⟩ := a8 (by rw [← m1]; exact hph)
  have m5n : ∀ j, j < 5 → gI T (o + 22) (5 * i + j) = bit5 b j := fun j hj => by
    have := congrFun m5 j
    rw [if_pos hj, hbits j hj] at this
    exact this
  have hbn : b.testBit n = false := bit5_0.mp ((m5n n hn).symm.trans hz)
  obtain ⟨o1, o2, o3, o4⟩ := b5_or b hb n hn
  rw [hbn] at o4
  obtain ⟨p1, p2, p3⟩ := b5_all b hb
  obtain ⟨r1, r2, r3⟩ := b5_all _ o2
  have o4 : pc5 (b ||| 1 <<< n) = pc5 b + 1 := o4
  refine ⟨pc5 b, p3, cnt5 hb m5n, ?_, ?_⟩
  · unfold cMaj
    rw [c6, hcn, e2, o1, r1, o4]
    constructor
    · intro w
      by_cases h9 : 2 ≤ pc5 b
      · exact h9
      · exact absurd ((nI_ltI (b := 3) (by omega) (by decide)).mpr (by omega)) w
    · intro w w2
      have := (nI_ltI (b := 3) (by omega) (by decide)).mp w2
      omega
  · rw [← o4]
    refine cnt5 o2 (fun j hj => ?_)
    by_cases e : j = n
    · rw [e, gI_s]
      unfold bit5
      rw [o3 n hn]
      simp
    · rw [gI_k (by omega), m5n j hj]
      unfold bit5
      rw [o3 j hj]
      simp [e]
end DS
