set_option linter.constructorNameAsVariable false
section DR
variable {S T S1 T2 : gS} {x o k i n q : Nat} {pm : Nat → Nat} {L t J : Nat} {G : Nat → R3} {rc : Nat → Nat} {v : Option Value}
theorem mRem_I {f j : Nat} {w : Int32} (hf : 8 < f) : mRem (sI T (o + f) j w) o k L = sI (mRem T o k L) (o + f) j w := by
  refine gS_ext rfl rfl (fun b l => ?_) (fun _ _ => rfl) (fun _ _ => rfl)
  unfold mRem
  by_cases hb : b = o + f
  · subst hb
    rw [gI_mSh, if_neg (by omega), gI_a (by omega)]
    by_cases hl : l = j
    · subst hl
      rw [gI_s, gI_s]
    · rw [gI_k hl, gI_k hl, gI_mSh, if_neg (by omega), gI_a (by omega)]
  · have e : ∀ m, gI (sI (sI T (o + f) j w) o 1 (nI (L - 1))) b m = gI (sI T o 1 (nI (L - 1))) b m := fun m => by
      rw [gI_sI, gI_a hb, ← gI_sI]
    rw [gI_mSh, gI_a hb, gI_mSh, e, e]
/-- YES -/
theorem ds_yes {w0 : Nat} {f g : Nat → Nat} (h : RS S T x o pm L t J G) (hk : k < L) (hi : i < 8) (hn : n < 5) (c0 : gI S (x + 6 + 2 * pm k) 0 = 3) (c2 : gI S (x + 6 + 2 * pm k) 2 = nI n) (c3 : gI S (x + 6 + 2 * pm k) 3 = gI T (o + 4) k) (hw : gI S (x + 188 + 2 * i) 3 = 2 → gR S (x + 188 + 2 * i) 9 = some w0)
    (hr : cRecv (cTake S (x + 4) (x + 5) (fun k => x + 6 + 2 * pm k) k) (x + 188 + 2 * i) (x + 188 + 2 * i + 1) (x + 6 + 2 * pm k) w0 f g S1) (ha : mAgr (mRem T o k L) o i n (gI T (o + 4) k) T2) : RS S1 T2 x o (tkf pm k) (L - 1) t J G := by
  have h1 := h.take hk
  have k0 : gI (cTake S (x + 4) (x + 5) (fun k => x + 6 + 2 * pm k) k) (x + 6 + 2 * pm k) 0 = 3 := (gI_Tk (by omega)).trans c0
  have k2 : gI (cTake S (x + 4) (x + 5) (fun k => x + 6 + 2 * pm k) k) (x + 6 + 2 * pm k) 2 = nI n := (gI_Tk (by omega)).trans c2
  have k3 : gI (cTake S (x + 4) (x + 5) (fun k => x + 6 + 2 * pm k) k) (x + 6 + 2 * pm k) 3 = gI T (o + 4) k := (gI_Tk (by omega)).trans c3
  have ci := counts_iff (ph := 2) h1 hi hn (by decide) k2 k3
  have hag : agOK (mRem T o k L) o i n (gI T (o + 4) k) ↔ cCounts (cTake S (x + 4) (x + 5) (fun k => x + 6 + 2 * pm k) k) (x + 188 + 2 * i) (x + 6 + 2 * pm k) 2 := ci.symm
  unfold cRecv at hr
  rw [k0] at hr
  unfold mAgr at ha
  rw [hag] at ha
  have mj : cCounts (cTake S (x + 4) (x + 5) (fun k => x + 6 + 2 * pm k) k) (x + 188 + 2 * i) (x + 6 + 2 * pm k) 2 → (cMaj (cTake S (x + 4) (x + 5) (fun k => x + 6 + 2 * pm k) k) (x + 188 + 2 * i) (x + 6 + 2 * pm k) ↔ ¬ cntF (sI (mRem T o k L) (o + 22) (5 * i + n) 1) o i 5 < 3) := fun hc => by
    have hc := ci.mp hc
    obtain ⟨c, hc5, e1, e2, e3⟩ := maj_iff h1 hi hn (by rw [hc.1]; decide) hc.2.2 k2
    rw [e2, e3]
    constructor
    · intro w w2
      have := (nI_ltI (b := 3) (by omega) (by decide)).mp w2
      omega
    · intro w
      by_cases h9 : 2 ≤ c
      · exact h9
      · exact absurd ((nI_ltI (b := 3) (by omega) (by decide)).mpr (by omega)) w
  rcases hr with ⟨a, -⟩ | ⟨-, hc, hm, hS⟩ | ⟨-, hc, hm, hS⟩ | ⟨a, -⟩ | ⟨-, hc, -, hS⟩
  · exact absurd a (by decide)
  · rcases ha with ⟨hb, -⟩ | ⟨-, hb, -⟩ | ⟨-, -, hT⟩
    · exact absurd hc hb
    · exact absurd hb ((mj hc).mp hm)
    · rw [hS, hT]
      have hph := (ci.mp hc).1
      exact sim_rdy h1 hi hn hph (rTk (by omega) (hw (by
        have := hc.1
        rw [gI_Tk (by omega)] at this
        exact this)))
  · rcases ha with ⟨hb, -⟩ | ⟨-, hb, hT⟩ | ⟨-, hb, hT⟩
    · exact absurd hc hb
    · rw [hS, hT]
      exact sim_yes h1 hi hn (ci.mp hc).1 (by rw [k2])
    · exact absurd ((mj hc).mpr hb) hm
  · exact absurd a (by decide)
  · rcases ha with ⟨hb, hT⟩ | ⟨hb, -⟩ | ⟨hb, -⟩
    · rw [hS, hT]; exact h1
    · exact absurd ⟨rfl, hb⟩ hc
    · exact absurd ⟨rfl, hb⟩ hc
theorem nI_div8 {b : Nat} (hb : b < 2 ^ 31) : nI b / 8 = nI (b / 8) := by
  apply Int32.toInt_inj.mp
  rw [Int32.toInt_div, nI_toInt hb, nI_toInt (by omega), show (8 : Int32).toInt = ((8 : Nat) : Int) from rfl, show ((b : Int).tdiv ((8 : Nat) : Int)) = ((b / 8 : Nat) : Int) from rfl]
  generalize hc : b / 8 = c
  exact Int.bmod_eq_of_le (by omega) (by omega)
/-- NO -/
theorem ds_no {w0 b : Nat} {f g : Nat → Nat} (h : RS S T x o pm L t J G) (hk : k < L) (hi : i < 8) (c0 : gI S (x + 6 + 2 * pm k) 0 = 4) (c3 : gI S (x + 6 + 2 * pm k) 3 = gI T (o + 4) k) (c5 : gI S (x + 6 + 2 * pm k) 5 = nI b) (m7 : gI T (o + 8) k = nI b) (hb : b ≤ 8 * J + 7)
    (hr : cRecv (cTake S (x + 4) (x + 5) (fun k => x + 6 + 2 * pm k) k) (x + 188 + 2 * i) (x + 188 + 2 * i + 1) (x + 6 + 2 * pm k) w0 f g S1) (ha : (((gI T (o + 18) i = 0 ∨ gI T (o + 4) k ≠ 8 * gI T (o + 20) i + nI i) ∧ T2 = mRem T o k L) ∨ (¬ (gI T (o + 18) i = 0 ∨ gI T (o + 4) k ≠ 8 * gI T (o + 20) i + nI i) ∧ T2 = sI (mFail (mRem T o k L) o i) (o + 21) i (gI T (o + 8) k / 8)))) : RS S1 T2 x o (tkf pm k) (L - 1) t J G := by
  have h1 := h.take hk
  have hbd := h.bd
  have k0 : gI (cTake S (x + 4) (x + 5) (fun k => x + 6 + 2 * pm k) k) (x + 6 + 2 * pm k) 0 = 4 := (gI_Tk (by omega)).trans c0
  have k3 : gI (cTake S (x + 4) (x + 5) (fun k => x + 6 + 2 * pm k) k) (x + 6 + 2 * pm k) 3 = gI T (o + 4) k := (gI_Tk (by omega)).trans c3
  have k5 : gI (cTake S (x + 4) (x + 5) (fun k => x + 6 + 2 * pm k) k) (x + 6 + 2 * pm k) 5 = nI b := (gI_Tk (by omega)).trans c5
  have hiff : (gI (cTake S (x + 4) (x + 5) (fun k => x + 6 + 2 * pm k) k) (x + 188 + 2 * i) 3 ≠ 0 ∧ gI T (o + 4) k = gI (cTake S (x + 4) (x + 5) (fun k => x + 6 + 2 * pm k) k) (x + 188 + 2 * i) 6) ↔ ¬ (gI T (o + 18) i = 0 ∨ gI T (o + 4) k ≠ 8 * gI T (o + 20) i + nI i) := by
    rw [gI_Tk (by omega), gI_Tk (by omega)]
    obtain ⟨clk, lt, gv, ph0, ls, bl0, cn, fl, lc, q, tl, sn, ws, hd, prl, cnt, rch, wS, wT, wF, rdy, hS, hT, fi, gT, gC, hc, hm, a1, a2, a3, a4, a5, a6, a7, a8, a9, a10⟩ := h.iq hi
    obtain ⟨c0, c1, c2, c3, c4, c5, c6, c7, c8, c9, c10, c11, c12, c13⟩ := ci_inv hc
    obtain ⟨m0, m1, m2, m3, m4, m5, m6, m7, m8, m9, m10, m11, m12, m13, m14, m15, m16, m17⟩ := mi_inv hm
    rw [c2, c5, m1, m3]
    by_cases hp : ph0 = 0
    · exact ⟨fun w => absurd hp w.1, fun w => absurd (Or.inl hp) w⟩
    · obtain ⟨-, hq1, hbl, -⟩ := a8 hp
      rw [hbl, nI8]
      exact ⟨fun w w2 => w2.elim hp (fun w3 => w3 w.2), fun w => ⟨hp, Classical.byContradiction fun w2 => w (Or.inr w2)⟩⟩
  unfold cRecv at hr
  rw [k0, k3, k5] at hr
  rcases hr with ⟨a, -⟩ | ⟨a, -⟩ | ⟨a, -⟩ | ⟨-, hp, he, hS⟩ | ⟨-, -, hno, hS⟩
  · exact absurd a (by decide)
  · exact absurd a (by decide)
  · exact absurd a (by decide)
  · rcases ha with ⟨hb9, -⟩ | ⟨hb9, hT⟩
    · exact absurd hb9 (hiff.mp ⟨hp, he⟩)
    · rw [hS, hT, m7, nI_div8 (by omega)]
      exact sim_no h1 hi (d := b / 8) (by omega) rfl (nI_succ _).symm
  · rcases ha with ⟨hb9, hT⟩ | ⟨hb9, hT⟩
    · rw [hS, hT]; exact h1
    · exact absurd ⟨rfl, hiff.mpr hb9⟩ hno
theorem tk_counts {ph : Int32} {m : Nat} (hm : m ≠ x + 4) (hi : i < 8) : cCounts (cTake S (x + 4) (x + 5) (fun k => x + 6 + 2 * pm k) k) (x + 188 + 2 * i) m ph ↔ cCounts S (x + 188 + 2 * i) m ph := by
  unfold cCounts
  rw [gI_Tk (by omega), gI_Tk hm, gI_Tk (by omega), gI_Tk (by omega), gI_Tk hm]
/-- PROMISE, not decided by it -/
theorem ds_pro {w0 far : Nat} (h : RS S T x o pm L t J G) (hk : k < L) (hi : i < 8) (hn : n < 5) (hfar : far ≤ t) (c0 : gI S (x + 6 + 2 * pm k) 0 = 1) (c2 : gI S (x + 6 + 2 * pm k) 2 = nI n) (c3 : gI S (x + 6 + 2 * pm k) 3 = gI T (o + 4) k) (c7 : rv S (x + 6 + 2 * pm k + 1) = rw8 (ms T o) n far) (hdc : ¬ (cCounts S (x + 188 + 2 * i) (x + 6 + 2 * pm k) 1 ∧ cMaj S (x + 188 + 2 * i) (x + 6 + 2 * pm k)))
    (hr : cRecv (cTake S (x + 4) (x + 5) (fun k => x + 6 + 2 * pm k) k) (x + 188 + 2 * i) (x + 188 + 2 * i + 1) (x + 6 + 2 * pm k) w0 (fun j => cr S (x + 188 + 2 * i + 1) j) (fun j => cr S (x + 6 + 2 * pm k + 1) j) S1) (ha : mPro T o L k i n far (gI T (o + 4) k) rc v T2) : v = some (.int 0) ∧ RS S1 T2 x o (tkf pm k) (L - 1) t J G ∧ gI T2 o 0 = gI T o 0 ∧ MT o T T2 := by
  have h1 := h.take hk
  have hbd := h.bd
  have k0 : gI (cTake S (x + 4) (x + 5) (fun k => x + 6 + 2 * pm k) k) (x + 6 + 2 * pm k) 0 = 1 := (gI_Tk (by omega)).trans c0
  have ci := counts_iff (ph := 1) h hi hn (by decide) c2 c3
  have hag : prOK T o i n (gI T (o + 4) k) ↔ cCounts S (x + 188 + 2 * i) (x + 6 + 2 * pm k) 1 := ci.symm
  unfold cRecv at hr
  rw [k0, tk_counts (by omega) hi] at hr
  unfold mPro at ha
  rw [hag] at ha
  have mj : cCounts S (x + 188 + 2 * i) (x + 6 + 2 * pm k) 1 → (cMaj S (x + 188 + 2 * i) (x + 6 + 2 * pm k) ↔ ¬ cntF T o i 5 < 2) := fun hc => by
    have hc := ci.mp hc
    obtain ⟨c, hc5, e1, e2, e3⟩ := maj_iff h hi hn (by rw [hc.1]; decide) hc.2.2 c2
    rw [e2, e1]
    constructor
    · intro w w2
      have := (nI_ltI (b := 2) (by omega) (by decide)).mp w2
      omega
    · intro w
      by_cases h9 : 2 ≤ c
      · exact h9
      · exact absurd ((nI_ltI (b := 2) (by omega) (by decide)).mpr (by omega)) w
  rcases hr with ⟨-, hc, hS⟩ | ⟨a, -⟩ | ⟨a, -⟩ | ⟨a, -⟩ | ⟨hc, -, -, hS⟩
  · rcases ha with ⟨hb, -⟩ | ⟨-, hb, hv, hT⟩ | ⟨-, hb, -⟩
    · exact absurd hc hb
    · refine ⟨hv, ?_, by rw [hT, so_mRem (by decide), gI_a (by omega), gI_a (by omega)], by rw [hT]; exact MT.rem (MT.wI (MT.wI MT.refl))⟩
      rw [mRem_I (by decide), mRem_I (by decide)] at hT
      rw [hS, hT]
      have hph := (ci.mp hc).1
      have hg6 := (h.clt (h.cpm.1 k)).2.2.2.2.2
      have hs := sim_cnt h1 hi (n := n) (far := far) (v := gI (cTake S (x + 4) (x + 5) (fun k => x + 6 + 2 * pm k) k) (x + 188 + 2 * i) 7 ||| (1 <<< (nI n &&& 31))) (g := fun j => cr S (x + 6 + 2 * pm k + 1) j) hn (by rw [gI_mRemb (by omega)]; exact hph) rfl (by rw [gI_mRemb (by omega)]; exact (ci.mp hc).2.2) hfar (fun s hs => ⟨(hg6 s hs).2, by
        have hne : cr S (x + 6 + 2 * pm k + 1) s ≠ x + 4 := nek (hg6 s hs).2 h.base.2.2.2.1 (by decide)
        have := congrFun c7 s
        unfold rv rw8 at this
        rw [if_pos hs, if_pos hs] at this
        rw [ms_mRem, ← this]
        unfold rcS
        rw [gI_Tk hne, gI_Tk hne, gI_Tk hne]
        rfl⟩)
      unfold cCntP
      rw [show gI (cTake S (x + 4) (x + 5) (fun k => x + 6 + 2 * pm k) k) (x + 6 + 2 * pm k) 2 = nI n from (gI_Tk (by omega)).trans c2]
      have ecr : ∀ j, cr (cTake S (x + 4) (x + 5) (fun k => x + 6 + 2 * pm k) k) (x + 188 + 2 * i + 1) j = cr S (x + 188 + 2 * i + 1) j := fun j => by
        unfold cr
        rw [rTk (by omega) rfl]
      simp only [ecr] at hs
      exact hs
    · exact absurd ⟨hc, (mj hc).mpr hb⟩ hdc
  · exact absurd a (by decide)
  · exact absurd a (by decide)
  · exact absurd a (by decide)
  · rcases ha with ⟨hb, hv, hT⟩ | ⟨hb, -⟩ | ⟨hb, -⟩
    · rw [hS, hT]; exact ⟨hv, h1, so_mRem (by decide), MT.rem MT.refl⟩
    · exact absurd ⟨rfl, hb⟩ hc
    · exact absurd ⟨rfl, hb⟩ hc
end DR
