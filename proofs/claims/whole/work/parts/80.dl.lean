set_option linter.constructorNameAsVariable false
/-! deliver -/
section LQA
variable {S T : gS} {x o k : Nat} {pm : Nat → Nat} {L t J : Nat} {G : Nat → R3}
/-- a letter in both -/
def lqA (S T : gS) (x o k : Nat) (pm : Nat → Nat) (t J : Nat) (G : Nat → R3) (i n q : Nat) : Prop :=
  i < 8 ∧ n < 5 ∧ 1 ≤ q ∧ q ≤ attF (mi T o) i ∧ gI S (x + 6 + 2 * pm k) 1 = nI i ∧ gI S (x + 6 + 2 * pm k) 2 = nI n ∧ gI S (x + 6 + 2 * pm k) 3 = nI (8 * q + i) ∧ gI T (o + 1) k = gI S (x + 6 + 2 * pm k) 0 ∧ gI T (o + 2) k = nI i ∧ gI T (o + 3) k = nI n ∧ gI T (o + 4) k = nI (8 * q + i) ∧
  (gI S (x + 6 + 2 * pm k) 0 = 0 ∨ (gI S (x + 6 + 2 * pm k) 0 = 1 ∧ ∃ far, far ≤ t ∧ rv S (x + 6 + 2 * pm k + 1) = rw8 (ms T o) n far ∧ gI T (o + 8) k = nI far) ∨
   (gI S (x + 6 + 2 * pm k) 0 = 2 ∧ ∃ s tm mk, s < 8 ∧ gI S (x + 6 + 2 * pm k) 4 = nI s ∧ rcS S (cr S (x + 6 + 2 * pm k) 6) = (nI (8 * q + i), nI i, tm, mk) ∧ gI T (o + 5) k = nI s ∧ gI T (o + 6) k = tm ∧ gJ T (o + 7) k = mk ∧ G (8 * q + i) = (nI s, tm, mk) ∧ ¬ (dgF (mi T o) i = 1 ∧ q = attF (mi T o) i)) ∨
   gI S (x + 6 + 2 * pm k) 0 = 3 ∨ (gI S (x + 6 + 2 * pm k) 0 = 4 ∧ ∃ b, b ≤ 8 * J + 7 ∧ gI S (x + 6 + 2 * pm k) 5 = nI b ∧ gI T (o + 8) k = nI b))
theorem lq_all (h : RS S T x o pm L t J G) (hk : k < L) : ∃ i n q, lqA S T x o k pm t J G i n q := by
  obtain ⟨i, n, q, hi, hn, hq, hqa, h9⟩ := h.lq hk
  refine ⟨i, n, q, hi, hn, hq, hqa, ?_⟩
  rcases h9 with ⟨r, rs, s', tm, mk, ex, hc, hm⟩ | ⟨r, s', tm, mk, far, hf, hc, hm⟩ | ⟨rs, s, tm, mk, ex, hs, hc, hm, hG, hd⟩ | ⟨r, rs, s', tm, mk, ex, hc, hm⟩ | ⟨r, rs, s', tm, mk, b, hb, hc, hm⟩
  all_goals
    obtain ⟨c0, c1, c2, c3, c4, c5, c6, c7⟩ := cl_inv hc
    obtain ⟨m0, m1, m2, m3, m4, m5, m6, m7⟩ := ml_inv hm
    refine ⟨c1, c2, c3, m0.trans c0.symm, m1, m2, m3, ?_⟩
  · exact Or.inl c0
  · exact Or.inr (Or.inl ⟨c0, far, hf, c7, m7⟩)
  · exact Or.inr (Or.inr (Or.inl ⟨c0, s, tm, mk, hs, c4, c6, m4, m5, m6, hG, hd⟩))
  · exact Or.inr (Or.inr (Or.inr (Or.inl c0)))
  · exact Or.inr (Or.inr (Or.inr (Or.inr ⟨c0, b, hb, c5, m7⟩)))
theorem md_pre (h : RS S T x o pm L t J G) : (∀ k, k < L → ∃ i0 n0, i0 < 8 ∧ n0 < 5 ∧ gI T (o + 2) k = nI i0 ∧ gI T (o + 3) k = nI n0 ∧ (gI T (o + 1) k = 1 → ∃ far, gI T (o + 8) k = nI far ∧ far ≤ 600)) ∧ ∃ rc : Nat → Nat → Nat, ∀ i n, i < 8 → n < 5 → gI T (o + 23) (5 * i + n) = nI (rc i n) ∧ rc i n ≤ t := by
  have hbd := h.bd
  refine ⟨fun k hk => ?_, fun i n => (gI T (o + 23) (5 * i + n)).toNatClampNeg, fun i n hi hn => ?_⟩
  · obtain ⟨i, n, q, hi, hn, hq, hqa, c1, c2, c3, m0, m1, m2, m3, h9⟩ := lq_all h hk
    refine ⟨i, n, hi, hn, m1, m2, fun e => ?_⟩
    rw [m0] at e
    rcases h9 with c0 | ⟨c0, far, hf, -, m7⟩ | ⟨c0, -⟩ | c0 | ⟨c0, -⟩
    · exact absurd (c0.symm.trans e) (by decide)
    · exact ⟨far, m7, by omega⟩
    · exact absurd (c0.symm.trans e) (by decide)
    · exact absurd (c0.symm.trans e) (by decide)
    · exact absurd (c0.symm.trans e) (by decide)
  · obtain ⟨clk, lt, gv, ph0, ls, bl0, cn, fl, lc, q, tl, sn, ws, hd, prl, cnt, rch, wS, wT, wF, rdy, hS, hT, fi, gT, gC, hc, hm, a1, a2, a3, a4, a5, a6, a7, a8, a9, a10⟩ := h.iq hi
    obtain ⟨m0, m1, m2, m3, m4, m5, m6, m7, m8, m9, m10, m11, m12, m13, m14, m15, m16, m17⟩ := mi_inv hm
    obtain ⟨r, hr, e⟩ := a7 n hn
    have := congrFun m6 n
    rw [if_pos hn, e] at this
    have e9 : (gI T (o + 23) (5 * i + n)).toNatClampNeg = r := by rw [this, nI_clamp (by omega)]
    show gI T (o + 23) (5 * i + n) = nI (gI T (o + 23) (5 * i + n)).toNatClampNeg ∧ (gI T (o + 23) (5 * i + n)).toNatClampNeg ≤ t
    rw [e9]
    exact ⟨this, hr⟩
end LQA
/-- what the model's deliver leaves -/
def dlQ (S9 T T2 : gS) (x J : Nat) (c : Int32) : Prop := gI T2 (x + 214) 0 = c ∧ MT (x + 214) T T2 ∧ ∃ (pm1 : Nat → Nat) (L1 t1 : Nat) (G1 : Nat → R3), RS S9 T2 x (x + 214) pm1 L1 t1 J G1
def dlH (S T : gS) (x k : Nat) (pm : Nat → Nat) (L t J : Nat) (G : Nat → R3) (i n : Nat) (rc : Nat → Nat) (v2 : Option Value) (T2 : gS) : Prop :=
  RS S T x (x + 214) pm L t J G ∧ gI T (x + 214) 0 = 0 ∧ i < 8 ∧ n < 5 ∧ gI T (x + 214 + 2) k = nI i ∧ gI T (x + 214 + 3) k = nI n ∧ (∀ m, m < 5 → gI T (x + 214 + 23) (5 * i + m) = nI (rc m) ∧ rc m ≤ t) ∧ mDel T (x + 214) L k i n t rc v2 T2
section DLV
variable {S : gS} {x J : Nat} (l : Launch) (N0 : Nat) (D : va_G) (cy : Nat → ClassId) (sz : Nat)
def DLV (l : Launch) (N0 : Nat) (D : va_G) (cy : Nat → ClassId) (sz : Nat) (S : gS) (x J : Nat) (p0 : Int32) : Prop := ∃ PW : Option Value → gS → Nat → Prop, gMW l yL_deliver cL_deliver 4 (some FieldType.int) [(0, 9, 12, 13), (0, 9, 15, 21)] { frames := 8, cells := 3, slots := 13, locals := 193 } N0 D cy [.ref x, .int p0, .ref (x + 249)] S sz PW ∧ ∀ v S1 z, PW v S1 z → ∃ (c : Int32) (PM : Option Value → gS → Nat → Prop), v = some (.int c) ∧ mOK S1 (x + 214) ∧ gM l yX7_deliver cX7_deliver 8 (some FieldType.int) { frames := 4, cells := 0, slots := 0, locals := 160 } N0 D cy [.ref (x + 214), .int p0] S1 z PM ∧ ∀ v2 S2 z2, PM v2 S2 z2 → ∃ r2 : Int32, v2 = some (.int r2) ∧ mOK S2 (x + 214) ∧ LI x (J + 1) S2 ∧ gI S2 (x + 214) 0 = c ∧ gK S2 (x + 249) = 10 ∧ gn S2 (x + 249) = 1 ∧ (c = 0 → gJ S2 (x + 249) 0 = r2.toInt64)
theorem dl_core {pm : Nat → Nat} {L t k : Nat} {G : Nat → R3} {post : Option Value → gS → Nat → Prop} {px : String → gS → Prop} (hR : RS S S x (x + 214) pm L t J G) (hJ : J + 1 ≤ 512) (hk10 : gK S (x + 249) = 10) (hn1 : gn S (x + 249) = 1) (hk : k < L)
    (hM : gMX l yX6_deliver cX6_deliver 4 (some FieldType.int) { frames := 7, cells := 3, slots := 13, locals := 170 } N0 D cy [.ref x, .int (nI k)] S sz post px) (hE : ∀ E S1, px E S1 → E = exS) (hpost : ∀ v S9 z, post v S9 z → (∃ r : Int32, v = some (.int r)) ∧ CT x S S9)
    (hsim : ∀ r S9 z, post (some (.int r)) S9 z → ∀ T T2 v2 rc i n, dlH S T x k pm L t (J + 1) G i n rc v2 T2 → v2 = some (.int r) ∧ dlQ S9 T T2 x (J + 1) 0)
    (hsimX : ∀ S9, px exS S9 → CT x S S9 ∧ ∀ T T2 v2 rc i n, dlH S T x k pm L t (J + 1) G i n rc v2 T2 → (∃ r2 : Int32, v2 = some (.int r2)) ∧ dlQ S9 T T2 x (J + 1) 2) : DLV l N0 D cy sz S x J (nI k) := by
  have hR1 := hR.mono (Nat.le_succ J) hJ
  have hlay := hR.base.1
  have hbd := hR.bd
  have hL := hbd.1
  refine ⟨_, w_deliver l N0 D cy S sz x (x + 249) (nI k) post px hlay.1 hM (fun E S1 q => Or.inr (hE E S1 q)) (fun v S1 z q => ⟨(hpost v S1 z q).1, ct_ot hk10 hn1 (hpost v S1 z q).2⟩), fun v S1 z hw => ?_⟩
  rcases hw with ⟨r, S9, rfl, hp, hS⟩ | ⟨rfl, hX⟩ | ⟨rfl, hX⟩
  · have hc9 := (hpost _ _ _ hp).2
    have hc : CT x S S1 := by rw [hS]; exact CT.out hc9
    have hRc := hR1.cc hc
    obtain ⟨hlt, rc, hrc⟩ := md_pre hRc
    refine ⟨0, _, rfl, hRc.2.2.1, c_X7_deliver l N0 D cy S1 z (x + 214) L t (nI k) rc hRc.2.2.1 hRc.2.2.2.1 hL hRc.2.2.2.2.1 (by omega) hlt (fun i n hi hn => ⟨(hrc i n hi hn).1, by have := (hrc i n hi hn).2; omega⟩), fun v2 S2 z2 hm => ?_⟩
    obtain ⟨hz2, hm⟩ := hm
    rcases hm with ⟨hb, -⟩ | ⟨k', i, n, hk', hi, hn5, e, e2, e3, hd⟩
    · exact (nL_ (by unfold isL at hb; rw [hRc.2.2.2.1] at hb; exact hb) hL hk rfl).elim
    · obtain rfl := nK (by omega) (by omega) rfl e
      obtain ⟨hv2, ht0, hmt, pm', L', t', G', hs⟩ := hsim r S9 z hp (sI S1 (x + 214) 0 0) S2 v2 (rc i) i n ⟨hRc.thr, gI_s, hi, hn5, e2, e3, fun m hm => by rw [gI_a (by omega)]; exact hrc i m hi hm, hd⟩
      have hmt : MT (x + 214) S1 S2 := TO.trans (MT.wO MT.refl) hmt
      have hs := hs.out (r := r.toInt64) (ct_ot hk10 hn1 hc9).1
      rw [← hS] at hs
      have hli := LI.go hR hk10 hn1 hc hmt hs
      refine ⟨r, hv2, hs.2.2.1, hli, ht0, (li_ot hli).1, (li_ot hli).2, fun _ => ?_⟩
      have h3 := ct_ot hk10 hn1 hc
      rw [(mt_ot h3.1 h3.2 hmt).2.2, hS, gJ_s]
  · exact absurd (hE _ _ hX) exOS
  · obtain ⟨hc, hq⟩ := hsimX S1 hX
    have hRc := hR1.cc hc
    obtain ⟨hlt, rc, hrc⟩ := md_pre hRc
    refine ⟨2, _, rfl, hRc.2.2.1, c_X7_deliver l N0 D cy S1 z (x + 214) L t (nI k) rc hRc.2.2.1 hRc.2.2.2.1 hL hRc.2.2.2.2.1 (by omega) hlt (fun i n hi hn => ⟨(hrc i n hi hn).1, by have := (hrc i n hi hn).2; omega⟩), fun v2 S2 z2 hm => ?_⟩
    obtain ⟨hz2, hm⟩ := hm
    rcases hm with ⟨hb, -⟩ | ⟨k', i, n, hk', hi, hn5, e, e2, e3, hd⟩
    · exact (nL_ (by unfold isL at hb; rw [hRc.2.2.2.1] at hb; exact hb) hL hk rfl).elim
    · obtain rfl := nK (by omega) (by omega) rfl e
      obtain ⟨⟨r2, hv2⟩, ht0, hmt, pm', L', t', G', hs⟩ := hq (sI S1 (x + 214) 0 0) S2 v2 (rc i) i n ⟨hRc.thr, gI_s, hi, hn5, e2, e3, fun m hm => by rw [gI_a (by omega)]; exact hrc i m hi hm, hd⟩
      have hmt : MT (x + 214) S1 S2 := TO.trans (MT.wO MT.refl) hmt
      have hli := LI.go hR hk10 hn1 hc hmt hs
      exact ⟨r2, hv2, hs.2.2.1, hli, ht0, (li_ot hli).1, (li_ot hli).2, fun q => absurd q (by decide)⟩
/-- the same letter, seen again -/
theorem lq_same {T : gS} {pm : Nat → Nat} {L t k i n q i' n' : Nat} {G : Nat → R3} (h : lqA S T x (x + 214) k pm t J G i n q) (hi' : i' < 8) (hn' : n' < 5) (e1 : gI T (x + 214 + 2) k = nI i') (e2 : gI T (x + 214 + 3) k = nI n') : i = i' ∧ n = n' := by
  obtain ⟨hi, hn, hq, hqa, c1, c2, c3, m0, m1, m2, m3, h9⟩ := h
  exact ⟨(nI_eq (by omega) (by omega)).mp (m1.symm.trans e1), (nI_eq (by omega) (by omega)).mp (m2.symm.trans e2)⟩
end DLV
