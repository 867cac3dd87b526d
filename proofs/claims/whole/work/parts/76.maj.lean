set_option linter.constructorNameAsVariable false
/-! What a majority has seen: the class's rows and the model's story agree. -/
/-- a row that a node may have of seat s -/
def gdR (G : Nat → R3) (s : Nat) (r : R4) : Prop := r = u4 ∨ ∃ (i q : Nat) (tm : Int32) (mk : Int64), i < 8 ∧ 1 ≤ q ∧ q ≤ 512 ∧ r = (nI (8 * q + i), nI i, tm, mk) ∧ G (8 * q + i) = (nI s, tm, mk)
theorem gd_eq {G : Nat → R3} {s : Nat} {r r' : R4} (h1 : gdR G s r) (h2 : gdR G s r') (e : r.1 = r'.1) : r = r' := by
  rcases h1 with h1 | ⟨i, q, tm, mk, hi, hq, hq2, h1, hg⟩ <;> rcases h2 with h2 | ⟨i', q', tm', mk', hi', hq', hq2', h2, hg'⟩
  · rw [h1, h2]
  · rw [h1, h2] at e
    have e : (0 : Int32) = nI (8 * q' + i') := e
    exact absurd ((nI_eq (a := 0) (by decide) (by omega)).mp (nI_0.trans e)) (by omega)
  · rw [h1, h2] at e
    have e : nI (8 * q + i) = (0 : Int32) := e
    exact absurd ((nI_eq (b := 0) (by omega) (by decide)).mp (e.trans nI_0.symm)) (by omega)
  · rw [h1, h2] at e
    have e9 := (nI_eq (by omega) (by omega)).mp (show nI (8 * q + i) = nI (8 * q' + i') from e)
    obtain rfl : i = i' := by omega
    obtain rfl : q = q' := by omega
    rw [hg] at hg'
    simp only [Prod.mk.injEq] at hg'
    rw [h1, h2, hg'.2.1, hg'.2.2]
theorem gd_pos {G : Nat → R3} {s : Nat} {r : R4} (h : gdR G s r) : 0 ≤ r.1 := by
  rcases h with h | ⟨i, q, tm, mk, hi, hq, hq2, h, hg⟩
  · rw [h]; decide
  · rw [h]; exact nI_pos' (by omega)
section AGR
variable {S T : gS} {x o : Nat} {pm : Nat → Nat} {L t J i s n0 far : Nat} {G : Nat → R3} {rc : Nat → Nat}
theorem RS.att_le (h : RS S T x o pm L t J G) (hi : i < 8) : attF (mi T o) i ≤ J := by
  obtain ⟨clk, lt, gv, ph, ls, bl, cn, fl, lc, q, tl, sn, ws, hd, prl, cnt, rch, wS, wT, wF, rdy, hS, hT, fi, gT, gC, hc, hm, a1, a2, a3, a4, a5, a6, a7, a8, a9, a10⟩ := h.iq hi
  have hb := h.bd
  rw [attF_mi, (mi_inv hm).2.2.2.1, nI_clamp (by omega)]
  exact a2
theorem gd_row (h : RS S T x o pm L t J G) (hs : s < 8) : ∀ far, far ≤ t → gdR G s (rw1 (ms T o) n0 s far)
  | 0, _ => Or.inl rfl
  | k + 1, hf => by
    unfold rw1
    split
    · rename_i hc
      obtain ⟨i9, n9, s9, q9, tm9, mk9, hi9, hn9, hs9, hq9, hqa9, hm9, hG, -⟩ := h.tq (j := k) (by omega)
      have hb := h.bd
      have := h.att_le hi9
      rw [hm9] at hc ⊢
      have e : s9 = s := (nI_eq (by omega) (by omega)).mp hc.2
      rw [e] at hG
      exact Or.inr ⟨i9, q9, tm9, mk9, hi9, hq9, by omega, rfl, hG⟩
    · exact gd_row h hs k (by omega)
theorem mrT_1 {r : Int32} : (mrT T o r).1 = balR T o r := rfl
theorem ag_all (h : RS S T x o pm L t J G) (hs : s < 8) (hf : far ≤ t) (hrc : ∀ n, n < 5 → rc n ≤ t) : ∀ n, n ≤ 5 →
    gdR G s (mrT T o (agr T o i (nI s) (nI n0) far rc n)) ∧ (mrT T o (agr T o i (nI s) (nI n0) far rc n) = rw1 (ms T o) n0 s far ∨ ∃ m, m < n ∧ gI T (o + 22) (5 * i + m) ≠ 0 ∧ mrT T o (agr T o i (nI s) (nI n0) far rc n) = rw1 (ms T o) m s (rc m)) ∧
    (rw1 (ms T o) n0 s far).1 ≤ (mrT T o (agr T o i (nI s) (nI n0) far rc n)).1 ∧ ∀ m, m < n → gI T (o + 22) (5 * i + m) ≠ 0 → (rw1 (ms T o) m s (rc m)).1 ≤ (mrT T o (agr T o i (nI s) (nI n0) far rc n)).1
  | 0, _ => by
    have hb := h.bd
    unfold agr
    rw [mrT_row far (by omega)]
    exact ⟨gd_row h hs far hf, Or.inl rfl, Int32.le_refl _, fun m hm => absurd hm (by omega)⟩
  | n + 1, hn => by
    have hb := h.bd
    obtain ⟨h1, h2, h3, h4⟩ := ag_all h hs hf hrc n (by omega)
    have hr := hrc n (by omega)
    have erow : mrT T o (rowI T o (nI n) (nI s) (rc n)) = rw1 (ms T o) n s (rc n) := mrT_row (rc n) (by omega)
    unfold agr
    by_cases hc : gI T (o + 22) (5 * i + n) = 0
    · rw [if_pos hc]
      refine ⟨h1, h2.imp id (fun ⟨m, a, b⟩ => ⟨m, by omega, b⟩), h3, fun m hm hm2 => ?_⟩
      by_cases e : m = n
      · rw [e] at hm2; exact absurd hc hm2
      · exact h4 m (by omega) hm2
    · rw [if_neg hc]
      by_cases hlt : balR T o (agr T o i (nI s) (nI n0) far rc n) < balR T o (rowI T o (nI n) (nI s) (rc n))
      · rw [if_pos hlt, erow]
        have hlt2 : (mrT T o (agr T o i (nI s) (nI n0) far rc n)).1 < (rw1 (ms T o) n s (rc n)).1 := by rw [← erow, mrT_1, mrT_1]; exact hlt
        refine ⟨gd_row h hs _ hr, Or.inr ⟨n, by omega, hc, rfl⟩, Int32.le_of_lt (Int32.lt_of_le_of_lt h3 hlt2), fun m hm hm2 => ?_⟩
        by_cases e : m = n
        · rw [e]; exact Int32.le_refl _
        · exact Int32.le_of_lt (Int32.lt_of_le_of_lt (h4 m (by omega) hm2) hlt2)
      · rw [if_neg hlt]
        have hlt2 : (rw1 (ms T o) n s (rc n)).1 ≤ (mrT T o (agr T o i (nI s) (nI n0) far rc n)).1 := by rw [← erow, mrT_1, mrT_1]; exact Int32.not_lt.mp hlt
        refine ⟨h1, h2.imp id (fun ⟨m, a, b⟩ => ⟨m, by omega, b⟩), h3, fun m hm hm2 => ?_⟩
        by_cases e : m = n
        · rw [e]; exact hlt2
        · exact h4 m (by omega) hm2
theorem cont_eq {sn : R4} {cnt rch : Nat → Int32} (h : RS S T x o pm L t J G) (hs : s < 8) (hf : far ≤ t) (hrc : ∀ n, n < 5 → rc n ≤ t) (hq : SQ sn cnt rch (ms T o) s) (hcn : ∀ m, m < 5 → cnt m = gI T (o + 22) (5 * i + m)) (hrh : ∀ m, m < 5 → (rch m).toNatClampNeg = rc m) :
    (if sn.1 < (rw1 (ms T o) n0 s far).1 then rw1 (ms T o) n0 s far else sn) = mrT T o (agr T o i (nI s) (nI n0) far rc 5) := by
  obtain ⟨h1, h2, h3, h4⟩ := ag_all (i := i) (n0 := n0) h hs hf hrc 5 (Nat.le_refl _)
  have hsn : gdR G s sn := by
    rcases hq.2 with e | ⟨m, hm, hc, e⟩
    · exact Or.inl e
    · rw [e, hrh m hm]; exact gd_row h hs _ (hrc m hm)
  have hle : sn.1 ≤ (mrT T o (agr T o i (nI s) (nI n0) far rc 5)).1 := by
    rcases hq.2 with e | ⟨m, hm, hc, e⟩
    · rw [e]; exact gd_pos h1
    · rw [e, hrh m hm]; exact h4 m hm (by rw [← hcn m hm]; exact hc)
  split
  · rename_i hlt
    refine gd_eq (gd_row h hs _ hf) h1 (Int32.le_antisymm h3 ?_)
    rcases h2 with e | ⟨m, hm, hc, e⟩
    · rw [e]; exact Int32.le_refl _
    · rw [e, ← hrh m hm]
      exact Int32.le_of_lt (Int32.lt_of_le_of_lt (hq.1 m hm (by rw [hcn m hm]; exact hc)) hlt)
  · rename_i hlt
    refine gd_eq hsn h1 (Int32.le_antisymm hle ?_)
    rcases h2 with e | ⟨m, hm, hc, e⟩
    · rw [e]; exact Int32.not_lt.mp hlt
    · rw [e, ← hrh m hm]
      exact hq.1 m hm (by rw [hcn m hm]; exact hc)
end AGR
/-! The lowest seat. -/
theorem dn_low {h : Nat → Int32} {y : Int32} : ∀ t, t ≤ 8 → (∃ j, 8 - t ≤ j ∧ j < 8 ∧ dnF h y t = nI j ∧ h j = y ∧ ∀ i, 8 - t ≤ i → i < j → h i ≠ y) ∨ (dnF h y t = -1 ∧ ∀ i, 8 - t ≤ i → i < 8 → h i ≠ y)
  | 0, _ => Or.inr ⟨rfl, fun i h1 h2 => absurd h2 (by omega)⟩
  | t + 1, ht => by
    unfold dnF
    by_cases hc : h (7 - t) = y
    · rw [if_pos hc]
      exact Or.inl ⟨7 - t, by omega, by omega, rfl, hc, fun i h1 h2 => absurd h2 (by omega)⟩
    · rw [if_neg hc]
      rcases dn_low (h := h) (y := y) t (by omega) with ⟨j, h1, h2, h3, h4, h5⟩ | ⟨h1, h2⟩
      · refine Or.inl ⟨j, by omega, h2, h3, h4, fun i h6 h7 => ?_⟩
        by_cases e : i = 7 - t
        · rw [e]; exact hc
        · exact h5 i (by omega) h7
      · refine Or.inr ⟨h1, fun i h6 h7 => ?_⟩
        by_cases e : i = 7 - t
        · rw [e]; exact hc
        · exact h2 i (by omega) h7
theorem low_dn {h : Nat → Int32} {y r : Int32} {p : Nat → Prop} (hp : ∀ j, j < 8 → (p j ↔ h j = y)) (hl : lowP p r) : r = dnF h y 8 := by
  rcases dn_low (h := h) (y := y) 8 (Nat.le_refl _) with ⟨j, h1, h2, h3, h4, h5⟩ | ⟨h1, h2⟩
  · rcases hl with ⟨k, hk, rfl, hpk, hlt⟩ | ⟨rfl, hno⟩
    · rw [h3]
      by_cases e : k = j
      · rw [e]
      · exfalso
        by_cases hkj : k < j
        · exact h5 k (by omega) hkj ((hp k hk).mp hpk)
        · exact hlt j (by omega) ((hp j h2).mpr h4)
    · exact absurd ((hp j h2).mpr h4) (hno j h2)
  · rcases hl with ⟨k, hk, rfl, hpk, hlt⟩ | ⟨rfl, hno⟩
    · exact absurd ((hp k hk).mp hpk) (h2 k (by omega) hk)
    · exact h1.symm
theorem ch_sts {S T : gS} {o i far : Nat} {nd r : Int32} {f g rc : Nat → Nat} (hh : ∀ j, j < 8 → gI S (nwS S f g j) 1 = hoS T o i nd far rc j) (hc : chS S f g (nI i) r) : r = sts T o i nd far rc := by
  obtain ⟨w, hw, hr⟩ := hc
  have e1 := low_dn (h := hoS T o i nd far rc) (y := nI i) (fun j hj => by rw [hh j hj]) hw
  unfold sts
  rcases hr with ⟨hn, rfl⟩ | ⟨rfl, hl⟩
  · rw [← e1]
    rcases hw with ⟨k, hk, e, _, _⟩ | ⟨e, _⟩
    · rw [if_neg (by rw [e]; exact nI_pos (by omega))]
    · exact absurd e hn
  · rw [← e1, if_pos (by decide)]
    exact low_dn (fun j hj => by rw [hh j hj]) hl
theorem p59 {a : Int64} : a + 60000 - 1 = a + 59999 := by
  rw [Int64.sub_eq_add_neg, Int64.add_assoc]
  rfl
