set_option linter.constructorNameAsVariable false
/-! What is given. -/
theorem mxl_le {a b : Int64} : mxl a b = if b ≤ a then a else b := by
  unfold mxl
  by_cases h : b < a
  · rw [if_pos h, if_pos (Int64.le_of_lt h)]
  · rw [if_neg h]
    by_cases h2 : b ≤ a
    · rw [if_pos h2]; exact Int64.le_antisymm (Int64.not_lt.mp h) h2 |>.symm
    · rw [if_neg h2]
theorem inT_i {a : Int64} : inT a ↔ 0 ≤ a.toInt ∧ a.toInt ≤ 2199023255551 := by
  unfold inT
  rw [Int64.le_iff_toInt_le, Int64.le_iff_toInt_le]
  exact Iff.rfl
theorem mxl_i {a b : Int64} : (mxl a b).toInt = max a.toInt b.toInt := by
  unfold mxl
  split <;> (rename_i h9; rw [Int64.lt_iff_toInt_lt] at h9; omega)
theorem add_i {a : Int64} {c : Int64} (h1 : 0 ≤ a.toInt ∧ a.toInt ≤ 2199023255552) (h2 : 0 ≤ c.toInt ∧ c.toInt ≤ 2199023255552) : (a + c).toInt = a.toInt + c.toInt := by
  rw [Int64.toInt_add]
  exact Int.bmod_eq_of_le (by omega) (by omega)
theorem sub_i {a : Int64} {c : Int64} (h1 : 0 ≤ a.toInt ∧ a.toInt ≤ 2199023255552) (h2 : 0 ≤ c.toInt ∧ c.toInt ≤ 2199023255552) : (a - c).toInt = a.toInt - c.toInt := by
  rw [Int64.toInt_sub]
  exact Int.bmod_eq_of_le (by omega) (by omega)
section GIV
variable {S T : gS} {x o : Nat} {pm : Nat → Nat} {L t J i : Nat} {G : Nat → R3}
theorem gv_eq {h0 : Nat} (h : RS S T x o pm L t J G) (hi : i < 8) (hh : gR S (x + 188 + 2 * i) 11 = some h0) (n : Int32) :
    gI T (o + 27) i = 1 ∧ gmA T o i n = gvA S (x + 188 + 2 * i) h0 n ∧ (gmX T o i (gvA S (x + 188 + 2 * i) h0 n).1 ↔ (gJ S (cr S h0 2) 3 < (gvA S (x + 188 + 2 * i) h0 n).1 ∨ gJ S (x + 188 + 2 * i) 2 + 5000 < (gvA S (x + 188 + 2 * i) h0 n).1)) ∧
    gmN T o i (gvA S (x + 188 + 2 * i) h0 n) = gvN S h0 (gvA S (x + 188 + 2 * i) h0 n) ∧ (¬ gmX T o i (gvA S (x + 188 + 2 * i) h0 n).1 → inT (gvA S (x + 188 + 2 * i) h0 n).1) ∧ gJ T (o + 34) i = gJ S (x + 188 + 2 * i) 14 := by
  obtain ⟨clk, lt, gv, ph, ls, bl, cn, fl, lc, q, tl, sn, ws, hd, prl, cnt, rch, wS, wT, wF, rdy, hS, hT, fi, gT, gC, hc, hm, a1, a2, a3, a4, a5, a6, a7, a8, a9, a10⟩ := h.iq hi
  obtain ⟨c0, c1, c2, c3, c4, c5, c6, c7, c8, c9, c10, c11, c12, c13⟩ := ci_inv hc
  obtain ⟨m0, m1, m2, m3, m4, m5, m6, m7, m8, m9, m10, m11, m12, m13, m14, m15, m16, m17⟩ := mi_inv hm
  rw [hh] at c10
  rcases a6 with ⟨e, e2⟩ | ⟨e, g, e2, ⟨-, hg, hf1, hf2⟩, hlt, hgt⟩
  · rw [e2] at c10; cases c10
  rw [e2, hg] at c10
  have c10 := Option.some.inj c10
  unfold gvw at c10
  simp only [Prod.mk.injEq] at c10
  obtain ⟨g0, g1, g2, g3⟩ := c10
  have hfa := add_i (a := fi) (c := 59999) (by have := inT_i.mp hf1; omega) (by decide)
  have hfb := Int64.le_iff_toInt_le.mp hf2
  rw [hfa] at hfb
  have hcl := inT_i.mp a1
  have hfi := inT_i.mp hf1
  have hg9 : gT.toInt = -1 ∨ (0 ≤ gT.toInt ∧ gT.toInt ≤ 2199023255551) := by
    rcases hgt with e9 | ⟨e9, _⟩
    · rw [e9]; exact Or.inl rfl
    · exact Or.inr (inT_i.mp e9)
  obtain ⟨M, hM⟩ : ∃ M, M = mxl (mxl clk fi) gT := ⟨_, rfl⟩
  have hMi : M.toInt = max (max clk.toInt fi.toInt) gT.toInt := by rw [hM, mxl_i, mxl_i]
  have hmT : gmT T o i = M := by
    unfold gmT
    rw [m13, m0, m14, ← mxl_le, ← mxl_le, hM]
  have hA : gmA T o i n = gvA S (x + 188 + 2 * i) h0 n := by
    unfold gmA gvA
    rw [hmT, m14, m15, c1, g1, c11, c12, hlt, ← hM]
    have : (if gT = M then gC + 1 else 0) = (if M = gT then lc + 1 else 0) := by
      by_cases e9 : gT = M
      · rw [if_pos e9, if_pos e9.symm]
        rcases hgt with e8 | ⟨-, e8⟩
        · exfalso
          rw [← e9, e8] at hMi
          have : (-1 : Int64).toInt = -1 := rfl
          omega
        · rw [e8]
      · rw [if_neg e9, if_neg (fun q => e9 q.symm)]
    rw [this]
  have hq1 : (gvA S (x + 188 + 2 * i) h0 n).1 = M ∨ (gvA S (x + 188 + 2 * i) h0 n).1 = M + 1 := by
    rw [← hA]
    unfold gmA
    rw [hmT]
    dsimp only
    generalize (if gJ T (o + 31) i = M then gI T (o + 32) i + 1 else 0) = c9
    split
    · exact Or.inl rfl
    · exact Or.inr rfl
  obtain ⟨q1, hq⟩ : ∃ q1, q1 = (gvA S (x + 188 + 2 * i) h0 n).1 := ⟨_, rfl⟩
  have hqi : 0 ≤ q1.toInt ∧ q1.toInt ≤ 2199023255552 := by
    rcases hq1 with e9 | e9
    · rw [hq, e9, hMi]; omega
    · have := add_i (a := M) (c := 1) (by omega) (by decide)
      rw [hq, e9, this, hMi, show (1 : Int64).toInt = 1 from rfl]; omega
  have hX : gmX T o i (gvA S (x + 188 + 2 * i) h0 n).1 ↔ (gJ S (cr S h0 2) 3 < (gvA S (x + 188 + 2 * i) h0 n).1 ∨ gJ S (x + 188 + 2 * i) 2 + 5000 < (gvA S (x + 188 + 2 * i) h0 n).1) := by
    unfold gmX
    rw [m13, m0, g3, c1, ← hq, Int64.lt_iff_toInt_lt (x := 5000), Int64.lt_iff_toInt_lt (x := clk + 5000), sub_i hqi (by omega), add_i (by omega) (by decide), show (5000 : Int64).toInt = 5000 from rfl]
    have : (5000 < q1.toInt - clk.toInt) ↔ (clk.toInt + 5000 < q1.toInt) := by omega
    rw [this]
  refine ⟨m10.trans e, hA, hX, ?_, fun hn => ?_, m17.trans c13.symm⟩
  · unfold gmN gvN
    rw [sh23, sh10, m11, g0]
  · unfold gmX at hn
    rw [m13, ← hq] at hn
    have : ¬ fi + 59999 < q1 := fun q => hn (Or.inl q)
    rw [Int64.lt_iff_toInt_lt, hfa] at this
    rw [← hq]
    exact inT_i.mpr ⟨hqi.1, by have : (59999 : Int64).toInt = 59999 := rfl; have : (2199023255551 : Int64).toInt = 2199023255551 := rfl; omega⟩
end GIV
