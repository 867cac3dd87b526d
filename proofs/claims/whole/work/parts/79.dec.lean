set_option linter.constructorNameAsVariable false
section DD
variable {S T S1 T2 : gS} {x o k i n q far : Nat} {pm : Nat → Nat} {L t J : Nat} {G : Nat → R3} {rc : Nat → Nat} {v : Option Value}
theorem dec_rows (h : RS S T x o pm L t J G) (hi : i < 8) (hfar : far ≤ t) (hph : gI T (o + 18) i = 1) (hrc : ∀ m, m < 5 → gI T (o + 23) (5 * i + m) = nI (rc m) ∧ rc m ≤ t) (c7 : rv S (x + 6 + 2 * pm k + 1) = rw8 (ms T o) n far) :
    ∀ s, s < 8 → rcS S (nwS S (fun j => cr S (x + 188 + 2 * i + 1) j) (fun j => cr S (x + 6 + 2 * pm k + 1) j) s) = mrT T o (agr T o i (nI s) (nI n) far rc 5) := by
  intro s hs
  have hbd := h.bd
  obtain ⟨clk, lt, gv, ph0, ls, bl0, cn, fl, lc, q, tl, sn, ws, hd, prl, cnt, rch, wS, wT, wF, rdy, hS, hT, fi, gT, gC, hc, hm, a1, a2, a3, a4, a5, a6, a7, a8, a9, a10⟩ := h.iq hi
  obtain ⟨c0, c1, c2, c3, c4, c5, c6, c7', c8, c9, c10, c11, c12, c13⟩ := ci_inv hc
  obtain ⟨m0, m1, m2, m3, m4, m5, m6, m7, m8, m9, m10, m11, m12, m13, m14, m15, m16, m17⟩ := mi_inv hm
  have e1 : rcS S (cr S (x + 188 + 2 * i + 1) s) = sn s := by
    have := congrFun c7' s
    unfold rv at this
    rw [if_pos hs] at this
    exact this
  have e2 : rcS S (cr S (x + 6 + 2 * pm k + 1) s) = rw1 (ms T o) n s far := by
    have := congrFun c7 s
    unfold rv rw8 at this
    rw [if_pos hs, if_pos hs] at this
    exact this
  unfold nwS
  rw [rc_nwr, e1, e2]
  refine cont_eq h hs hfar (fun m hm => (hrc m hm).2) (a9 (by rw [← m1]; exact hph) s hs) (fun m hm => ?_) (fun m hm => ?_)
  · rw [← m5]; exact if_pos hm
  · rw [← m6]
    show (if m < 5 then gI T (o + 23) (5 * i + m) else 0).toNatClampNeg = rc m
    rw [if_pos hm, (hrc m hm).1, nI_clamp (by have := (hrc m hm).2; omega)]
theorem dec_F {a w : Nat} {r : Int32} (e1 : marR T o r = gJ S w 3) (e2 : gJ T (o + 17) i = gJ S a 2) : prF T o i r = wFirst S a w := by
  unfold prF wFirst mxl
  rw [e1, e2]
  by_cases h : gJ S w 3 + 1 < gJ S a 2
  · rw [if_pos h, if_neg (fun q => absurd h (Int64.not_lt.mpr q))]
  · rw [if_neg h, if_pos (Int64.not_lt.mp h)]
/-- what the class wishes, the model wishes -/
def wsh (S T : gS) (o i n far : Nat) (rc : Nat → Nat) (a : Nat) (w j : Nat) (tm : Int32) : Prop :=
  j < 8 ∧ prS T o i (nI n) far rc = nI j ∧ prF T o i (prR T o i (nI j) (nI n) far rc) = wFirst S a w ∧ prT T o i (prR T o i (nI j) (nI n) far rc) = tm ∧ marR T o (prR T o i (nI j) (nI n) far rc) = gJ S w 3 ∧ prR T o i (nI j) (nI n) far rc = agr T o i (nI j) (nI n) far rc 5
theorem prR_n {j : Nat} (hj : j < 8) : prR T o i (nI j) (nI n) far rc = agr T o i (nI j) (nI n) far rc 5 := by
  unfold prR
  rw [if_pos (nI_pos' (by omega))]
theorem dec_0 {f g : Nat → Nat} (h : RS S T x o pm L t J G) (hi : i < 8) (hph : gI T (o + 18) i = 1) (hh : gR S (x + 188 + 2 * i) 11 = none) (hrow : ∀ s, s < 8 → rcS S (nwS S f g s) = mrT T o (agr T o i (nI s) (nI n) far rc 5)) :
    (nu0 S (x + 188 + 2 * i) f g → prX (prS T o i (nI n) far rc) (prF T o i (prR T o i (prS T o i (nI n) far rc) (nI n) far rc))) ∧
    ∀ j w tm, ok0 S (x + 188 + 2 * i) f g j w tm → wsh S T o i n far rc (x + 188 + 2 * i) w j tm ∧ w = nwS S f g j ∧ ¬ 2199023255551 < wFirst S (x + 188 + 2 * i) w + 60000 - 1 := by
  obtain ⟨clk, lt, gv, ph0, ls, bl0, cn, fl, lc, q, tl, sn, ws, hd, prl, cnt, rch, wS, wT, wF, rdy, hS, hT, fi, gT, gC, hc, hm, a1, a2, a3, a4, a5, a6, a7, a8, a9, a10⟩ := h.iq hi
  obtain ⟨c0, c1, c2, c3, c4, c5, c6, c7', c8, c9, c10, c11, c12, c13⟩ := ci_inv hc
  obtain ⟨m0, m1, m2, m3, m4, m5, m6, m7, m8, m9, m10, m11, m12, m13, m14, m15, m16, m17⟩ := mi_inv hm
  have hr0 : gI T (o + 27) i = 0 := (h.rdy hi).1.mp hh
  have hp0 : gI T (o + 19) i = 0 := by rw [m2, (a8 (by rw [← m1, hph]; decide)).1, ← m10]; exact hr0
  have hS0 : prS T o i (nI n) far rc = sts T o i (nI n) far rc := by unfold prS; rw [if_pos hp0]
  have hho : ∀ j, j < 8 → gI S (nwS S f g j) 1 = hoS T o i (nI n) far rc j := fun j hj => congrArg (fun q : R4 => q.2.1) (hrow j hj)
  have hte : ∀ j, j < 8 → gI S (nwS S f g j) 2 = terR T o (agr T o i (nI j) (nI n) far rc 5) := fun j hj => congrArg (fun q : R4 => q.2.2.1) (hrow j hj)
  have hma : ∀ j, j < 8 → gJ S (nwS S f g j) 3 = marR T o (agr T o i (nI j) (nI n) far rc 5) := fun j hj => congrArg (fun q : R4 => q.2.2.2) (hrow j hj)
  have hck : gJ T (o + 17) i = gJ S (x + 188 + 2 * i) 2 := m0.trans c1.symm
  constructor
  · intro hnu
    rw [hS0]
    unfold nu0 at hnu
    rw [c0] at hnu
    rcases hnu with hc | ⟨j, hj, hc, hw⟩
    · exact Or.inl (by rw [← ch_sts hho hc]; decide)
    · rw [← ch_sts hho hc]
      refine Or.inr ?_
      rw [prR_n hj, dec_F (hma j hj).symm hck]
      unfold wNo at hw
      rw [p59] at hw
      exact hw
  · intro j w tm hok
    unfold ok0 at hok
    rw [c0] at hok
    obtain ⟨hj, hc, rfl, rfl, hw⟩ := hok
    refine ⟨⟨hj, by rw [hS0, ← ch_sts hho hc], ?_, ?_, ?_, prR_n hj⟩, rfl, hw⟩
    · rw [prR_n hj, dec_F (hma j hj).symm hck]
    · rw [prR_n hj]; unfold prT; rw [if_pos hp0, hte j hj]
    · rw [prR_n hj, hma j hj]
theorem dec_1 {f g : Nat → Nat} {h0 j0 : Nat} (h : RS S T x o pm L t J G) (hi : i < 8) (hph : gI T (o + 18) i = 1) (hh : gR S (x + 188 + 2 * i) 11 = some h0) (hj0 : j0 < 8) (hst : gI S h0 0 = nI j0) (hrow : ∀ s, s < 8 → rcS S (nwS S f g s) = mrT T o (agr T o i (nI s) (nI n) far rc 5)) :
    (nu1 S (x + 188 + 2 * i) f g j0 → prX (prS T o i (nI n) far rc) (prF T o i (prR T o i (prS T o i (nI n) far rc) (nI n) far rc))) ∧
    ∀ j w tm, ok1 S (x + 188 + 2 * i) f g j0 (cr S h0 2) j w tm → wsh S T o i n far rc (x + 188 + 2 * i) w j tm ∧ w = nwS S f g j ∧ ¬ 2199023255551 < wFirst S (x + 188 + 2 * i) w + 60000 - 1 := by
  obtain ⟨clk, lt, gv, ph0, ls, bl0, cn, fl, lc, q, tl, sn, ws, hd, prl, cnt, rch, wS, wT, wF, rdy, hS, hT, fi, gT, gC, hc, hm, a1, a2, a3, a4, a5, a6, a7, a8, a9, a10⟩ := h.iq hi
  obtain ⟨c0, c1, c2, c3, c4, c5, c6, c7', c8, c9, c10, c11, c12, c13⟩ := ci_inv hc
  obtain ⟨m0, m1, m2, m3, m4, m5, m6, m7, m8, m9, m10, m11, m12, m13, m14, m15, m16, m17⟩ := mi_inv hm
  rw [hh] at c10
  rcases a6 with ⟨e, e2⟩ | ⟨e, g9, e2, ⟨-, hg, -, -⟩, -, -⟩
  · rw [e2] at c10; cases c10
  rw [e2, hg] at c10
  have c10 := Option.some.inj c10
  unfold gvw at c10
  simp only [Prod.mk.injEq] at c10
  obtain ⟨g0, g1, g2, g3⟩ := c10
  have hp1 : ¬ gI T (o + 19) i = 0 := by rw [m2, (a8 (by rw [← m1, hph]; decide)).1, e]; decide
  have hS0 : prS T o i (nI n) far rc = nI j0 := by unfold prS; rw [if_neg hp1, m11, ← g0, hst]
  have hma : ∀ j, j < 8 → gJ S (nwS S f g j) 3 = marR T o (agr T o i (nI j) (nI n) far rc 5) := fun j hj => congrArg (fun q : R4 => q.2.2.2) (hrow j hj)
  have hck : gJ T (o + 17) i = gJ S (x + 188 + 2 * i) 2 := m0.trans c1.symm
  constructor
  · intro hnu
    rw [hS0]
    refine Or.inr ?_
    rw [prR_n hj0, dec_F (hma j0 hj0).symm hck]
    unfold nu1 wNo at hnu
    rw [p59] at hnu
    exact hnu
  · intro j w tm hok
    unfold ok1 at hok
    obtain ⟨rfl, rfl, rfl, hw⟩ := hok
    refine ⟨⟨hj0, hS0, ?_, ?_, ?_, prR_n hj0⟩, rfl, hw⟩
    · rw [prR_n hj0, dec_F (hma j hj0).symm hck]
    · unfold prT; rw [if_neg hp1, m12, ← g2]
    · rw [prR_n hj0, hma j hj0]
theorem ds_fail (h : RS S T x o pm L t J G) (hk : k < L) (hi : i < 8) : RS (cDecN S (x + 188 + 2 * i) (x + 4) (x + 5) (fun k => x + 6 + 2 * pm k) k) (mFail (mRem T o k L) o i) x o (tkf pm k) (L - 1) t J G := by
  have h2 := sim_fail (h.take hk) hi
  rw [gI_Tk (by omega)] at h2
  exact h2
theorem sim_al {s r : Nat} {tv : Int32} {mk : Int64} (h : RS S T x o pm L t J G) (hs8 : s < 8) (hr : gK S r = 6) (hrc : rcS S r = (nI (8 * q + i), nI i, tv, mk)) (hG : G (8 * q + i) = (nI s, tv, mk)) (hd : ¬ (dgF (mi T o) i = 1 ∧ q = attF (mi T o) i)) (hi : i < 8) (hq1 : 1 ≤ q) (hqa : q ≤ attF (mi T o) i) : ∀ n, n ≤ 5 → L + n ≤ 90 →
    RS (cAL S (x + 4) (fun k => x + 6 + 2 * pm k) L (nI i) (nI (8 * q + i)) (nI s) r n) (mAL T o L i (nI s) tv mk (nI (8 * q + i)) n) x o pm (L + n) t J G ∧ mi (mAL T o L i (nI s) tv mk (nI (8 * q + i)) n) o = mi T o ∧ rcS (cAL S (x + 4) (fun k => x + 6 + 2 * pm k) L (nI i) (nI (8 * q + i)) (nI s) r n) r = rcS S r
  | 0, _, _ => ⟨h, rfl, rfl⟩
  | n + 1, h5, hL => by
    obtain ⟨h1, h2, h3⟩ := sim_al h hs8 hr hrc hG hd hi hq1 hqa n (by omega) (by omega)
    have n1 : r ≠ x + 4 := nek hr h.base.2.2.2.1 (by decide)
    have n2 : r ≠ x + 6 + 2 * pm (L + n) := nek hr (h.clt (h.cpm.1 (L + n))).1 (by decide)
    refine ⟨sim_sendA h1 hs8 (kAL n hr) (h3.trans hrc) hG (by rw [h2]; exact hd) (by omega) hi (by omega) hq1 (by rw [h2]; exact hqa), ?_, ?_⟩
    · show mi (mSend (sJ (sI (sI (mAL T o L i (nI s) tv mk (nI (8 * q + i)) n) (o + 5) (L + n) (nI s)) (o + 6) (L + n) tv) (o + 7) (L + n) mk) o (L + n) 2 (nI i) (nI n) (nI (8 * q + i)) 0) o = mi T o
      rw [mi_S, mi_J (by decide), mi_I (by decide), mi_I (by decide), h2]
    · rw [← h3]
      show rcS (sR (sI (cSend (cAL S (x + 4) (fun k => x + 6 + 2 * pm k) L (nI i) (nI (8 * q + i)) (nI s) r n) (x + 4) (x + 6 + 2 * pm (L + n)) 2 (nI i) (nI n) (nI (8 * q + i))) (x + 6 + 2 * pm (L + n)) 4 (nI s)) (x + 6 + 2 * pm (L + n)) 6 (some r)) r = _
      unfold rcS
      rw [gI_sR, gI_a n2, gI_a n2, gI_a n2, gI_cSend n1 n2, gI_cSend n1 n2, gI_cSend n1 n2]
      rfl
theorem al_thr {sv tv bl : Int32} {mk : Int64} {f : Nat} (hf : f ≠ 1) : ∀ n, gI (mAL T o L i sv tv mk bl n) o f = gI T o f
  | 0 => rfl
  | n + 1 => by
    show gI (mSend (sJ (sI (sI (mAL T o L i sv tv mk bl n) (o + 5) (L + n) sv) (o + 6) (L + n) tv) (o + 7) (L + n) mk) o (L + n) 2 (nI i) (nI n) bl 0) o f = gI T o f
    rw [so_S hf, gI_sJ, gI_a (by omega), gI_a (by omega), al_thr hf n]
/-- decided: the letters ACCEPT go out -/
theorem ds_dec {z j w : Nat} {tm bl : Int32} {fv : Int64} (h : RS S T x o pm L t J G) (hk : k < L) (hi : i < 8) (hL4 : L + 4 ≤ 90) (hz0 : gK S z = 0) (hz1 : gK S (z + 1) = 0) (hj : j < 8) (hph : gI T (o + 18) i = 1) (hbl : bl = 8 * gI T (o + 20) i + nI i) (hfv : fv = wFirst S (x + 188 + 2 * i) w) (hiT : inT fv) (hfb : fv + 59999 ≤ 2199023255551) :
    ∃ G', RS (cDecY S (x + 188 + 2 * i) (x + 4) (x + 5) (fun k => x + 6 + 2 * pm k) L k z (nI j) w tm) (mAcc T o k L i (nI j) tm fv bl) x o (tkf pm k) (L - 1 + 5) t J G' := by
  have hbd := h.bd
  obtain ⟨clk, lt, gv, ph0, ls, bl0, cn, fl, lc, q, tl, sn, ws, hd, prl, cnt, rch, wS, wT, wF, rdy, hS, hT, fi, gT, gC, hc, hm, a1, a2, a3, a4, a5, a6, a7, a8, a9, a10⟩ := h.iq hi
  obtain ⟨c0, c1, c2, c3, c4, c5, c6, c7', c8, c9, c10, c11, c12, c13⟩ := ci_inv hc
  obtain ⟨m0, m1, m2, m3, m4, m5, m6, m7, m8, m9, m10, m11, m12, m13, m14, m15, m16, m17⟩ := mi_inv hm
  obtain ⟨-, hq1, hbl0, -⟩ := a8 (by rw [← m1, hph]; decide)
  have ebl : bl = nI (8 * q + i) := by rw [hbl, m3, nI8]
  have ec5 : gI S (x + 188 + 2 * i) 6 = nI (8 * q + i) := c5.trans hbl0
  obtain ⟨Sg, hSg⟩ : ∃ Sg, Sg = mkGrant S z (nI j) fv (nI (8 * q + i)) (nI i) tm (fv + 60000 - 1) := ⟨_, rfl⟩
  have h0 : RS Sg T x o pm L t J G := by
    rw [hSg]
    exact h.ss (M := fun _ => False) (Mr := fun _ => False) (TO.mkG hz0 hz1) (fun b hb => (hb.elim id id).elim) (fun b hb => (hb.elim id id).elim)
  have h1 := h0.take hk
  have nz4 : z ≠ x + 4 := fun e => by rw [e] at hz0; have := h.base.2.2.2.1; omega
  have nz5 : z ≠ x + 5 := fun e => by rw [e] at hz0; have := h.base.2.2.2.2.2.1; omega
  have nz14 : z + 1 ≠ x + 4 := fun e => by rw [e] at hz1; have := h.base.2.2.2.1; omega
  have rz : gR (cTake Sg (x + 4) (x + 5) (fun k => x + 6 + 2 * pm k) k) z 2 = some (z + 1) := rTk nz5 (by rw [hSg]; exact rMGz)
  have ecr : cr (cTake Sg (x + 4) (x + 5) (fun k => x + 6 + 2 * pm k) k) z 2 = z + 1 := by unfold cr; rw [rz]; rfl
  have kz : gK (cTake Sg (x + 4) (x + 5) (fun k => x + 6 + 2 * pm k) k) (z + 1) = 6 := kTk (by rw [hSg]; exact kMGr)
  have i0 : gI (cTake Sg (x + 4) (x + 5) (fun k => x + 6 + 2 * pm k) k) z 0 = nI j := (gI_Tk nz4).trans (by rw [hSg]; exact iMGz)
  have j1 : gJ (cTake Sg (x + 4) (x + 5) (fun k => x + 6 + 2 * pm k) k) z 1 = fv := by
    show gJ Sg z 1 = fv
    rw [hSg]; exact jMGz
  have i20 : gI (cTake Sg (x + 4) (x + 5) (fun k => x + 6 + 2 * pm k) k) (z + 1) 0 = nI (8 * q + i) := (gI_Tk nz14).trans (by rw [hSg]; exact iMG0)
  have i21 : gI (cTake Sg (x + 4) (x + 5) (fun k => x + 6 + 2 * pm k) k) (z + 1) 1 = nI i := (gI_Tk nz14).trans (by rw [hSg]; exact iMG1)
  have i22 : gI (cTake Sg (x + 4) (x + 5) (fun k => x + 6 + 2 * pm k) k) (z + 1) 2 = tm := (gI_Tk nz14).trans (by rw [hSg]; exact iMG2)
  have j23 : gJ (cTake Sg (x + 4) (x + 5) (fun k => x + 6 + 2 * pm k) k) (z + 1) 3 = fv + 59999 := by
    rw [← p59]
    show gJ Sg (z + 1) 3 = fv + 60000 - 1
    rw [hSg]; exact jMG3
  have hat : attF (mi (mRem T o k L) o) i = q := by rw [mi_mRem, attF_mi, m3, nI_clamp (by omega)]
  have h2 := sim_acc h1 hi (sv := nI j) (tv := tm) (fv := fv) (z := z) (qa := q) (kTk (by rw [hSg]; exact kMGz)) ⟨by rw [ecr]; exact rz, by rw [ecr]; exact kz⟩ ⟨⟨j, hj, rfl⟩, by unfold gvw; rw [ecr, i0, j1, i22, j23], hiT, hfb⟩ (by rw [gI_mRemb (by omega)]; exact hph) hat
  have n1 : z + 1 ≠ x + 188 + 2 * i := fun e => by rw [e] at hz1; have := (h.cis hi).2.1; omega
  have hat2 : attF (mi (mAcc0 T o k L i (nI j) tm fv) o) i = q := by
    unfold mAcc0
    rw [attF_mi, gI_sJ, gI_a (by omega), gI_a (by omega), gI_mFg, if_neg (by omega), gI_a (by omega), gI_mRemb (by omega), m3, nI_clamp (by omega)]
  have hdg2 : dgF (mi (mAcc0 T o k L i (nI j) tm fv) o) i = 2 := by
    unfold mAcc0
    rw [dgF_mi, gI_sJ, gI_a (by omega), gI_a (by omega), gI_mFg, if_neg (by omega), gI_s]
  have h3 := (sim_al (q := q) (i := i) (s := j) (r := z + 1) (tv := tm) (mk := fv + 59999) (T := mAcc0 T o k L i (nI j) tm fv) h2 hj (kI (kI (kR kz))) (by
    unfold rcS
    rw [gI_a n1, gI_a n1, gI_a n1, gI_a n1, gI_a n1, gI_a n1, gI_sR, i20, i21, i22]
    show (nI (8 * q + i), nI i, tm, gJ (cTake Sg (x + 4) (x + 5) (fun k => x + 6 + 2 * pm k) k) (z + 1) 3) = _
    rw [j23]) (if_pos rfl) (by rw [hdg2]; exact fun w => absurd w.1 (by decide)) hi hq1 (by rw [hat2]; exact Nat.le_refl _) 5 (Nat.le_refl _) (by omega)).1
  refine ⟨fun b => if b = 8 * q + i then (nI j, tm, fv + 59999) else G b, ?_⟩
  unfold cDecY mAcc
  rw [ec5, c0, ← hfv, ebl, show tkf (fun k => x + 6 + 2 * pm k) k = fun j => x + 6 + 2 * tkf pm k j from funext fun j => tkf_add, ← hSg]
  exact h3
end DD
