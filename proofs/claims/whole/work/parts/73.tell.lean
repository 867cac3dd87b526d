set_option linter.constructorNameAsVariable false
/-! Numbers of 64 bits. -/
theorem tw23 : BitVec.twoPow 64 23 = 8388608#64 := by decide
theorem tw10 : BitVec.twoPow 64 10 = 1024#64 := by decide
theorem sm23 : (BitVec.smod (23#64) 64#64) = 23#64 := by decide
theorem sm10 : (BitVec.smod (10#64) 64#64) = 10#64 := by decide
theorem sh23 {x : Int64} : x <<< ((23 : Int32).toInt64 &&& 63) = x * 8388608 := by
  rw [show ((23 : Int32).toInt64 &&& 63) = 23 by decide]
  apply Int64.toBitVec_inj.mp
  rw [Int64.toBitVec_shiftLeft, Int64.toBitVec_mul, show (23 : Int64).toBitVec = 23#64 from rfl, show (64 : BitVec 64) = 64#64 from rfl, sm23, BitVec.shiftLeft_eq', show (23#64).toNat = 23 from rfl, BitVec.shiftLeft_eq_mul_twoPow, tw23]
  rfl
theorem sh10 {x : Int64} : x <<< ((10 : Int32).toInt64 &&& 63) = x * 1024 := by
  rw [show ((10 : Int32).toInt64 &&& 63) = 10 by decide]
  apply Int64.toBitVec_inj.mp
  rw [Int64.toBitVec_shiftLeft, Int64.toBitVec_mul, show (10 : Int64).toBitVec = 10#64 from rfl, show (64 : BitVec 64) = 64#64 from rfl, sm10, BitVec.shiftLeft_eq', show (10#64).toNat = 10 from rfl, BitVec.shiftLeft_eq_mul_twoPow, tw10]
  rfl
theorem j_ex {n : Int64} (h : ¬ n < 0) : ∃ a, a < 2 ^ 63 ∧ n = Int64.ofNat a := by
  have h0 : 0 ≤ n.toInt := Int64.le_iff_toInt_le.mp (Int64.not_lt.mp h)
  have h1 := n.toInt_lt
  refine ⟨n.toInt.toNat, by omega, Int64.toInt_inj.mp ?_⟩
  rw [Int64.toInt_ofNat_of_lt (by omega)]
  omega
theorem j_div {a b : Nat} (ha : a < 2 ^ 63) (hb : b < 2 ^ 63) : Int64.ofNat a / Int64.ofNat b = Int64.ofNat (a / b) := by
  have h1 : a / b ≤ a := Nat.div_le_self a b
  apply Int64.toInt_inj.mp
  rw [Int64.toInt_div, Int64.toInt_ofNat_of_lt ha, Int64.toInt_ofNat_of_lt hb, Int64.toInt_ofNat_of_lt (by omega), show (a : Int).tdiv (b : Int) = ((a / b : Nat) : Int) from rfl]
  generalize a / b = c at h1
  exact Int.bmod_eq_of_le (by omega) (by omega)
theorem j_bv {a : Nat} (ha : a < 2 ^ 63) : (Int64.ofNat a).toBitVec.toNat = a := by
  rw [Int64.toBitVec_ofNat', BitVec.toNat_ofNat]
  exact Nat.mod_eq_of_lt (by omega)
theorem j_msb {a : Nat} (ha : a < 2 ^ 63) : (Int64.ofNat a).toBitVec.msb = false := by
  rw [BitVec.msb_eq_decide, j_bv ha]
  exact decide_eq_false (by omega)
theorem j_shr23 {a : Nat} (ha : a < 2 ^ 63) : Int64.ofNat a >>> ((23 : Int32).toInt64 &&& 63) = Int64.ofNat (a / 8388608) := by
  rw [show ((23 : Int32).toInt64 &&& 63) = 23 by decide]
  apply Int64.toBitVec_inj.mp
  apply BitVec.eq_of_toNat_eq
  rw [j_bv (Nat.lt_of_le_of_lt (Nat.div_le_self _ _) ha), Int64.toBitVec_shiftRight, show (23 : Int64).toBitVec = 23#64 from rfl, show (64 : BitVec 64) = 64#64 from rfl, sm23]
  show ((Int64.ofNat a).toBitVec.sshiftRight (23#64).toNat).toNat = _
  rw [BitVec.sshiftRight_eq_of_msb_false (j_msb ha), BitVec.toNat_ushiftRight, j_bv ha, show (23#64).toNat = 23 from rfl, Nat.shiftRight_eq_div_pow]
theorem j_shr10 {a : Nat} (ha : a < 2 ^ 63) : Int64.ofNat a >>> ((10 : Int32).toInt64 &&& 63) = Int64.ofNat (a / 1024) := by
  rw [show ((10 : Int32).toInt64 &&& 63) = 10 by decide]
  apply Int64.toBitVec_inj.mp
  apply BitVec.eq_of_toNat_eq
  rw [j_bv (Nat.lt_of_le_of_lt (Nat.div_le_self _ _) ha), Int64.toBitVec_shiftRight, show (10 : Int64).toBitVec = 10#64 from rfl, show (64 : BitVec 64) = 64#64 from rfl, sm10]
  show ((Int64.ofNat a).toBitVec.sshiftRight (10#64).toNat).toNat = _
  rw [BitVec.sshiftRight_eq_of_msb_false (j_msb ha), BitVec.toNat_ushiftRight, j_bv ha, show (10#64).toNat = 10 from rfl, Nat.shiftRight_eq_div_pow]
theorem j_and {a k : Nat} (ha : a < 2 ^ 63) (hk : k < 63) : Int64.ofNat a &&& Int64.ofNat (2 ^ k - 1) = Int64.ofNat (a % 2 ^ k) := by
  have h2 : 2 ^ k ≤ 2 ^ 62 := Nat.pow_le_pow_right (by decide) (by omega)
  apply Int64.toBitVec_inj.mp
  apply BitVec.eq_of_toNat_eq
  rw [j_bv (Nat.lt_of_le_of_lt (Nat.mod_le _ _) ha), Int64.toBitVec_and, BitVec.toNat_and, j_bv ha, j_bv (by omega), Nat.and_two_pow_sub_one_eq_mod]
theorem j_mul {a b : Nat} : Int64.ofNat a * Int64.ofNat b = Int64.ofNat (a * b) := (Int64.ofNat_mul a b).symm
theorem j_sub {a b : Nat} (h : b ≤ a) : Int64.ofNat a - Int64.ofNat b = Int64.ofNat (a - b) := (Int64.ofNat_sub a b h).symm
theorem ptV_eq {n : Int64} {w : Int32} (h : ¬ n < 0) : ptV n w = cpV n w := by
  obtain ⟨a, ha, rfl⟩ := j_ex h
  have e1 : (8388608 : Int64) = Int64.ofNat 8388608 := rfl
  have e2 : (1024 : Int64) = Int64.ofNat 1024 := rfl
  have e3 : (8191 : Int64) = Int64.ofNat (2 ^ 13 - 1) := rfl
  have e4 : (1023 : Int64) = Int64.ofNat (2 ^ 10 - 1) := rfl
  unfold ptV cpV
  rw [e1, e2, e3, e4, j_shr23 ha, j_shr10 ha, j_and (Nat.lt_of_le_of_lt (Nat.div_le_self _ _) ha) (by decide), j_and ha (by decide), j_div ha (by decide), j_mul, j_sub (Nat.div_mul_le_self _ _), j_div (by omega) (by decide), j_mul, j_sub (Nat.div_mul_le_self _ _)]
  split
  · rfl
  · split
    · congr 1; omega
    · congr 1; omega
theorem rgX {w : Int32} (a b : Int32) (hab : b.toInt + 1 = a.toInt) : (0 ≤ w ∧ w < a) ↔ ¬ (w < 0 ∨ b < w) := by
  simp only [Int32.lt_iff_toInt_lt, Int32.le_iff_toInt_le, show (0 : Int32).toInt = 0 from rfl]
  omega
/-! What is told. -/
section TEL
variable {S T : gS} {x o : Nat} {pm : Nat → Nat} {L t J i : Nat} {G : Nat → R3}
theorem ltV_eq {k : Nat} {w : Int32} (h : RS S T x o pm L t J G) (hk : k < L) : ltV T o k w = clV S (x + 6 + 2 * pm k) w := by
  have key : ∀ {kd is nd bl st ex s' tm e9 : Int32} {r : R4} {rs : Nat → R4} {mk : Int64}, cl S (x + 6 + 2 * pm k) = (kd, is, nd, bl, st, ex, r, rs) → ml T o k = (kd, is, nd, bl, s', tm, mk, e9) → st = (if kd = 2 then s' else -1) → ex = (if kd = 4 then e9 else -1) → ltV T o k w = clV S (x + 6 + 2 * pm k) w := by
    intro kd is nd bl st ex s' tm e9 r rs mk hc hm h1 h2
    obtain ⟨c0, c1, c2, c3, c4, c5, -, -⟩ := cl_inv hc
    obtain ⟨m0, m1, m2, m3, m4, m5, m6, m7⟩ := ml_inv hm
    unfold ltV clV
    rw [m0, m1, m2, m3, m4, m7, c0, c1, c2, c3, c4, c5, h1, h2]
  obtain ⟨i, n, q, hi, hn, hq, hqa, h9⟩ := h.lq hk
  rcases h9 with ⟨r, rs, s', tm, mk, ex, hc, hm⟩ | ⟨r, s', tm, mk, far, hf, hc, hm⟩ | ⟨rs, s, tm, mk, ex, hs, hc, hm, -, -⟩ | ⟨r, rs, s', tm, mk, ex, hc, hm⟩ | ⟨r, rs, s', tm, mk, b, hb, hc, hm⟩
  · exact key hc hm (if_neg (by decide)).symm (if_neg (by decide)).symm
  · exact key hc hm (if_neg (by decide)).symm (if_neg (by decide)).symm
  · exact key hc hm (if_pos rfl).symm (if_neg (by decide)).symm
  · exact key hc hm (if_neg (by decide)).symm (if_neg (by decide)).symm
  · exact key hc hm (if_neg (by decide)).symm (if_pos rfl).symm
theorem isV_eq {w : Int32} (h : RS S T x o pm L t J G) (hi : i < 8) : isV T o i w = icV S (x + 188 + 2 * i) w := by
  obtain ⟨clk, lt, gv, ph, ls, bl, cn, fl, lc, q, tl, sn, ws, hd, prl, cnt, rch, wS, wT, wF, rdy, hS, hT, fi, gT, gC, hc, hm, a1, a2, a3, a4, a5, a6, a7, a8, a9, a10⟩ := h.iq hi
  obtain ⟨c0, c1, c2, c3, c4, c5, c6, c7, c8, c9, c10, c11, c12, c13⟩ := ci_inv hc
  obtain ⟨m0, m1, m2, m3, m4, m5, m6, m7, m8, m9, m10, m11, m12, m13, m14, m15, m16, m17⟩ := mi_inv hm
  unfold isV icV
  rcases a6 with ⟨e, e2⟩ | ⟨e, g, e2, ⟨-, hg, -, -⟩, hlt, -⟩
  · have hN : gR S (x + 188 + 2 * i) 11 = none := Option.map_eq_none_iff.mp (c10.trans e2)
    rw [hN, m10, e, m1, m16, m17, c2, c9, c13, if_pos rfl, if_pos rfl, if_pos rfl]
  · have hq : Option.map (gvw S) (gR S (x + 188 + 2 * i) 11) = some g := c10.trans e2
    obtain ⟨h0, hh0, hg0⟩ := Option.map_eq_some_iff.mp hq
    rw [hg] at hg0
    unfold gvw at hg0
    simp only [Prod.mk.injEq] at hg0
    obtain ⟨g0, g1, g2, g3⟩ := hg0
    have g2 : gI S ((gR S h0 2).getD 0) 2 = hT := g2
    have g3 : gJ S ((gR S h0 2).getD 0) 3 = fi + 59999 := g3
    rw [hh0, m10, e, m1, m16, m17, c2, c9, c13, if_neg (show ¬ (1 : Int32) = 0 by decide), if_neg (show ¬ (1 : Int32) = 0 by decide), if_neg (show ¬ some h0 = none from fun q => by cases q), m11, m12, m13, m14]
    show _ = (if w = 0 then (1 : Int64) else if w = 1 then ph.toInt64 else if w = 6 then fl.toInt64 else if w = 7 then gv else thV S (x + 188 + 2 * i) h0 ((gR S h0 2).getD 0) w)
    unfold thV
    rw [g0, g2, g3, c11, hlt]
/-! a row of the story, by its index -/
def mrT (T : gS) (o : Nat) (r : Int32) : R4 := (balR T o r, holR T o r, terR T o r, marR T o r)
theorem mrT_m1 : mrT T o (-1) = u4 := by
  unfold mrT balR holR terR marR u4
  rw [if_pos (by decide), if_pos (by decide), if_pos (by decide), if_pos (by decide)]
theorem mrT_n {j : Nat} (hj : j < 2 ^ 31) : mrT T o (nI j) = (ms T o j).2.2 := by
  unfold mrT balR holR terR marR
  rw [if_neg (nI_pos hj), if_neg (nI_pos hj), if_neg (nI_pos hj), if_neg (nI_pos hj), nI_clamp hj]
  rfl
theorem mrT_row {n s : Nat} : ∀ far, far ≤ 600 → mrT T o (rowI T o (nI n) (nI s) far) = rw1 (ms T o) n s far
  | 0, _ => mrT_m1
  | k + 1, hf => by
    unfold rowI rw1
    by_cases h : gI T (o + 9) k = nI n ∧ gI T (o + 10) k = nI s
    · rw [if_pos h, if_pos (show (ms T o k).1 = nI n ∧ (ms T o k).2.1 = nI s from h), mrT_n (by omega)]
    · rw [if_neg h, if_neg (show ¬ ((ms T o k).1 = nI n ∧ (ms T o k).2.1 = nI s) from h), mrT_row k (by omega)]
theorem rowI_ix {nd st : Int32} : ∀ far, rowI T o nd st far = -1 ∨ ∃ j, j < far ∧ rowI T o nd st far = nI j
  | 0 => Or.inl rfl
  | k + 1 => by
    unfold rowI
    split
    · exact Or.inr ⟨k, by omega, rfl⟩
    · rcases rowI_ix (nd := nd) (st := st) k with h | ⟨j, hj, h⟩
      · exact Or.inl h
      · exact Or.inr ⟨j, by omega, h⟩
theorem RS.nrow {n s : Nat} (h : RS S T x o pm L t J G) (hn : n < 5) (hs : s < 8) : rcS S (cr S (x + 204 + 2 * n + 1) s) = rw1 (ms T o) n s t := by
  obtain ⟨b, hb, hq⟩ := h.nq hn
  have hv : rv S (x + 204 + 2 * n + 1) = rw8 (ms T o) n t := by
    rcases hq with ⟨hc, -⟩ | ⟨hc, -⟩
    · exact (cn_inv hc).2.2
    · exact (cn_inv hc).2.2
  have := congrFun hv s
  unfold rv rw8 at this
  rw [if_pos hs, if_pos hs] at this
  exact this
theorem RS.nup {n : Nat} (h : RS S T x o pm L t J G) (hn : n < 5) : (gI S (x + 204 + 2 * n) 0 = 0 ∧ gI T (o + 15) n = 1) ∨ (gI S (x + 204 + 2 * n) 0 = 1 ∧ gI T (o + 15) n = 0) := by
  obtain ⟨b, hb, hq⟩ := h.nq hn
  rcases hq with ⟨hc, hm⟩ | ⟨hc, hm⟩
  · exact Or.inr ⟨(cn_inv hc).1, (mn_inv hm).1⟩
  · exact Or.inl ⟨(cn_inv hc).1, (mn_inv hm).1⟩
theorem up_eq (h : RS S T x o pm L t J G) : ∀ n, n ≤ 5 → upF T o n = cUp S (fun n => x + 204 + 2 * n) n
  | 0, _ => rfl
  | n + 1, hn => by
    unfold upF cUp
    rw [up_eq h n (by omega)]
    rcases h.nup (n := n) (by omega) with ⟨e1, e2⟩ | ⟨e1, e2⟩
    · rw [if_neg (by rw [e2]; decide), if_pos e1]
    · rw [if_pos e2, if_neg (by rw [e1]; decide)]
theorem be_eq {s : Nat} (h : RS S T x o pm L t J G) (hs : s < 8) : ∀ n, n ≤ 5 → rcS S (cNew S (x + 3) (fun n => x + 204 + 2 * n) (fun n => cr S (x + 204 + 2 * n + 1) s) n) = mrT T o (beF T o t (nI s) n) ∧ (beF T o t (nI s) n = -1 ∨ ∃ j, j < t ∧ beF T o t (nI s) n = nI j)
  | 0, _ => ⟨h.base.2.1.trans mrT_m1.symm, Or.inl rfl⟩
  | n + 1, hn => by
    obtain ⟨h1, h2⟩ := be_eq h hs n (by omega)
    have hb := h.bd
    unfold cNew beF
    rcases h.nup (n := n) (by omega) with ⟨e1, e2⟩ | ⟨e1, e2⟩
    · rw [if_neg (show ¬ gI T (o + 15) n = 0 by rw [e2]; decide), if_pos e1]
      exact ⟨h1, h2⟩
    · rw [if_pos e2, if_neg (show ¬ gI S (x + 204 + 2 * n) 0 = 0 by rw [e1]; decide), rc_nwr, h1, h.nrow (by omega) hs, ← mrT_row t (by omega)]
      show (if balR T o (beF T o t (nI s) n) < balR T o (rowI T o (nI n) (nI s) t) then mrT T o (rowI T o (nI n) (nI s) t) else mrT T o (beF T o t (nI s) n)) = _ ∧ _
      split
      · exact ⟨rfl, rowI_ix t⟩
      · exact ⟨rfl, h2⟩
theorem seV_eq {s : Nat} {w : Int32} (h : RS S T x o pm L t J G) (hs : s < 8) : seV T o t (nI s) w = csV S (fun n => x + 204 + 2 * n) (cNew S (x + 3) (fun n => x + 204 + 2 * n) (fun n => cr S (x + 204 + 2 * n + 1) s) 5) w := by
  obtain ⟨h1, h2⟩ := be_eq h hs 5 (Nat.le_refl _)
  have hb := h.bd
  unfold rcS mrT at h1
  simp only [Prod.mk.injEq] at h1
  obtain ⟨r0, r1, r2, r3⟩ := h1
  unfold seV csV
  rw [up_eq h 5 (Nat.le_refl _), ← r1, ← r2, ← r3]
  by_cases hu : cUp S (fun n => x + 204 + 2 * n) 5 < 3
  · rw [if_pos (Or.inl hu), if_pos hu]
  · rw [if_neg hu]
    rcases h2 with h2 | ⟨j, hj, h2⟩
    · rw [if_pos (Or.inr (by rw [h2]; decide)), if_pos (by rw [r1, h2]; unfold holR; rw [if_pos (by decide)])]
    · obtain ⟨i9, n9, s9, q9, tm9, mk9, hi9, hn9, hs9, hq9, hqa9, hm9, -, -⟩ := h.tq hj
      have hh : holR T o (beF T o t (nI s) 5) = nI i9 := by
        have : (mrT T o (nI j)).2.1 = nI i9 := by rw [mrT_n (by omega), hm9]
        rw [h2]; exact this
      rw [if_neg (fun q => q.elim hu (fun q => by rw [h2] at q; exact absurd q (nI_pos (by omega)))), if_neg (show ¬ gI S (cNew S (x + 3) (fun n => x + 204 + 2 * n) (fun n => cr S (x + 204 + 2 * n + 1) s) 5) 1 = -1 by rw [r1, hh]; exact nIm1 (by omega))]
end TEL
