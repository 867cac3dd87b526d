set_option linter.constructorNameAsVariable false
/-! The class's state and the model's, seen as values; the relation between them. -/
abbrev R4 : Type := Int32 × Int32 × Int32 × Int64
abbrev R3 : Type := Int32 × Int32 × Int64
abbrev GV : Type := Int32 × Int64 × Int32 × Int64
def u4 : R4 := (0, -1, 0, 0)
def cr (S : gS) (a j : Nat) : Nat := (gR S a j).getD 0
def rcS (S : gS) (r : Nat) : R4 := (gI S r 0, gI S r 1, gI S r 2, gJ S r 3)
def rv (S : gS) (a : Nat) : Nat → R4 := fun s => if s < 8 then rcS S (cr S a s) else u4
def gvw (S : gS) (h : Nat) : GV := (gI S h 0, gJ S h 1, gI S (cr S h 2) 2, gJ S (cr S h 2) 3)
/-- a letter, an issuer, a node of the class -/
abbrev CL : Type := Int32 × Int32 × Int32 × Int32 × Int32 × Int32 × R4 × (Nat → R4)
def cl (S : gS) (a : Nat) : CL := (gI S a 0, gI S a 1, gI S a 2, gI S a 3, gI S a 4, gI S a 5, rcS S (cr S a 6), rv S (a + 1))
/-- 0 self, 1 clock, 2 phase, 3 round, 4 leastRound, 5 ballot, 6 countedNodes, 7 seen, 8 wished, 9 failed, 10 held, 11 lastTime, 12 lastCounter, 13 given -/
abbrev CI : Type := Int32 × Int64 × Int32 × Int32 × Int32 × Int32 × Int32 × (Nat → R4) × Option GV × Int32 × Option GV × Int64 × Int32 × Int64
def ci (S : gS) (a : Nat) : CI := (gI S a 0, gJ S a 2, gI S a 3, gI S a 4, gI S a 5, gI S a 6, gI S a 7, rv S (a + 1), (gR S a 9).map (gvw S), gI S a 10, (gR S a 11).map (gvw S), gJ S a 12, gI S a 13, gJ S a 14)
abbrev CN : Type := Int32 × Int32 × (Nat → R4)
def cn (S : gS) (a : Nat) : CN := (gI S a 0, gI S a 1, rv S (a + 1))
/-- a letter, an issuer, a node, a row of the story of the model -/
abbrev ML : Type := Int32 × Int32 × Int32 × Int32 × Int32 × Int32 × Int64 × Int32
def ml (T : gS) (o k : Nat) : ML := (gI T (o + 1) k, gI T (o + 2) k, gI T (o + 3) k, gI T (o + 4) k, gI T (o + 5) k, gI T (o + 6) k, gJ T (o + 7) k, gI T (o + 8) k)
/-- 0 clock, 1 doing, 2 prolongs, 3 attempts, 4 told, 5 counted, 6 reach, 7 wishSeat, 8 wishTerm, 9 wishFirst, 10 ready, 11 hasSeat, 12 hasTerm, 13 first, 14 gaveTime, 15 gaveCount, 16 failed, 17 gave -/
abbrev MI : Type := Int64 × Int32 × Int32 × Int32 × Int32 × (Nat → Int32) × (Nat → Int32) × Int32 × Int32 × Int64 × Int32 × Int32 × Int32 × Int64 × Int64 × Int32 × Int32 × Int64
def mi (T : gS) (o i : Nat) : MI := (gJ T (o + 17) i, gI T (o + 18) i, gI T (o + 19) i, gI T (o + 20) i, gI T (o + 21) i, (fun n => if n < 5 then gI T (o + 22) (5 * i + n) else 0), (fun n => if n < 5 then gI T (o + 23) (5 * i + n) else 0), gI T (o + 24) i, gI T (o + 25) i, gJ T (o + 26) i, gI T (o + 27) i, gI T (o + 28) i, gI T (o + 29) i, gJ T (o + 30) i, gJ T (o + 31) i, gI T (o + 32) i, gI T (o + 33) i, gJ T (o + 34) i)
def mn (T : gS) (o n : Nat) : Int32 × Int32 := (gI T (o + 15) n, gI T (o + 16) n)
abbrev MS : Type := Int32 × Int32 × Int32 × Int32 × Int32 × Int64
def ms (T : gS) (o j : Nat) : MS := (gI T (o + 9) j, gI T (o + 10) j, gI T (o + 11) j, gI T (o + 12) j, gI T (o + 13) j, gJ T (o + 14) j)
/-- the row that node n has of seat s after far rows of the story -/
def rw1 (st : Nat → MS) (n s : Nat) : Nat → R4
  | 0 => u4
  | k + 1 => if (st k).1 = nI n ∧ (st k).2.1 = nI s then (st k).2.2 else rw1 st n s k
def rw8 (st : Nat → MS) (n far : Nat) : Nat → R4 := fun s => if s < 8 then rw1 st n s far else u4
/-- letter and letter -/
def LQ (c : CL) (m : ML) (att : Nat → Nat) (dg : Nat → Int32) (st : Nat → MS) (t J : Nat) (G : Nat → R3) : Prop :=
  ∃ i n q : Nat, i < 8 ∧ n < 5 ∧ 1 ≤ q ∧ q ≤ att i ∧
   ((∃ r rs s' tm mk ex, c = (0, nI i, nI n, nI (8 * q + i), -1, -1, r, rs) ∧ m = (0, nI i, nI n, nI (8 * q + i), s', tm, mk, ex)) ∨
    (∃ r s' tm mk far, far ≤ t ∧ c = (1, nI i, nI n, nI (8 * q + i), -1, -1, r, rw8 st n far) ∧ m = (1, nI i, nI n, nI (8 * q + i), s', tm, mk, nI far)) ∨
    (∃ rs s tm mk ex, s < 8 ∧ c = (2, nI i, nI n, nI (8 * q + i), nI s, -1, (nI (8 * q + i), nI i, tm, mk), rs) ∧ m = (2, nI i, nI n, nI (8 * q + i), nI s, tm, mk, ex) ∧ G (8 * q + i) = (nI s, tm, mk) ∧ ¬ (dg i = 1 ∧ q = att i)) ∨
    (∃ r rs s' tm mk ex, c = (3, nI i, nI n, nI (8 * q + i), -1, -1, r, rs) ∧ m = (3, nI i, nI n, nI (8 * q + i), s', tm, mk, ex)) ∨
    (∃ r rs s' tm mk b, b ≤ 8 * J + 7 ∧ c = (4, nI i, nI n, nI (8 * q + i), -1, nI b, r, rs) ∧ m = (4, nI i, nI n, nI (8 * q + i), s', tm, mk, nI b)))
def inT (x : Int64) : Prop := 0 ≤ x ∧ x ≤ 2199023255551
/-- a grant, by its seat, term and first time -/
def GQ (g : GV) (st tm : Int32) (fi : Int64) : Prop := (∃ s, s < 8 ∧ st = nI s) ∧ g = (st, fi, tm, fi + 59999) ∧ inT fi ∧ fi + 59999 ≤ 2199023255551
/-- what was seen of seat s, of the counted nodes -/
def SQ (sn : R4) (cnt rch : Nat → Int32) (st : Nat → MS) (s : Nat) : Prop :=
  (∀ n, n < 5 → cnt n ≠ 0 → (rw1 st n s (rch n).toNatClampNeg).1 ≤ sn.1) ∧ (sn = u4 ∨ ∃ n, n < 5 ∧ cnt n ≠ 0 ∧ sn = rw1 st n s (rch n).toNatClampNeg)
def bit5 (c n : Nat) : Int32 := if c.testBit n then 1 else 0
def IQ (c : CI) (m : MI) (i : Nat) (st : Nat → MS) (t J : Nat) : Prop :=
  ∃ (clk lt gv : Int64) (ph ls bl cn fl lc : Int32) (q tl : Nat) (sn : Nat → R4) (ws hd : Option GV) (prl : Int32) (cnt rch : Nat → Int32) (wS wT : Int32) (wF : Int64) (rdy hS hT : Int32) (fi gT : Int64) (gC : Int32),
   c = (nI i, clk, ph, nI q, ls, bl, cn, sn, ws, fl, hd, lt, lc, gv) ∧ m = (clk, ph, prl, nI q, nI tl, cnt, rch, wS, wT, wF, rdy, hS, hT, fi, gT, gC, fl, gv) ∧
   inT clk ∧ q ≤ J ∧ tl ≤ J ∧ (ls = nI (tl + 1) ∨ (ls = 0 ∧ tl = 0)) ∧ (ph = 0 ∨ ph = 1 ∨ ph = 2) ∧
   ((rdy = 0 ∧ hd = none) ∨ (rdy = 1 ∧ ∃ g, hd = some g ∧ GQ g hS hT fi ∧ lt = gT ∧ (gT = -1 ∨ (inT gT ∧ lc = gC)))) ∧
   (∀ n, n < 5 → ∃ r, r ≤ t ∧ rch n = nI r) ∧
   (ph ≠ 0 → prl = rdy ∧ 1 ≤ q ∧ bl = nI (8 * q + i) ∧ ∃ b, b < 32 ∧ cn = nI b ∧ ∀ n, n < 5 → cnt n = bit5 b n) ∧
   (ph = 1 → ∀ s, s < 8 → SQ (sn s) cnt rch st s) ∧
   (ph = 2 → ∃ g, ws = some g ∧ GQ g wS wT wF)
def NQ (c : CN) (m : Int32 × Int32) (n : Nat) (st : Nat → MS) (t J : Nat) : Prop :=
  ∃ b, b ≤ 8 * J + 7 ∧ ((c = (1, nI b, rw8 st n t) ∧ m = (0, nI b)) ∨ (c = (0, nI b, rw8 st n t) ∧ m = (1, nI b)))
def TQ (m : MS) (att : Nat → Nat) (dg : Nat → Int32) (G : Nat → R3) : Prop :=
  ∃ i n s q tm mk, i < 8 ∧ n < 5 ∧ s < 8 ∧ 1 ≤ q ∧ q ≤ att i ∧ m = (nI n, nI s, nI (8 * q + i), nI i, tm, mk) ∧ G (8 * q + i) = (nI s, tm, mk) ∧ ¬ (dg i = 1 ∧ q = att i)
def attF (mI : Nat → MI) : Nat → Nat := fun i => (mI i).2.2.2.1.toNatClampNeg
def dgF (mI : Nat → MI) : Nat → Int32 := fun i => (mI i).2.1
/-- the relation, of values -/
def RV (cL : Nat → CL) (cI : Nat → CI) (cN : Nat → CN) (mL : Nat → ML) (mI : Nat → MI) (mN : Nat → Int32 × Int32) (st : Nat → MS) (L t J : Nat) (G : Nat → R3) : Prop :=
  L ≤ 90 ∧ t ≤ J ∧ J ≤ 512 ∧ (∀ k, k < L → LQ (cL k) (mL k) (attF mI) (dgF mI) st t J G) ∧ (∀ i, i < 8 → IQ (cI i) (mI i) i st t J) ∧ (∀ n, n < 5 → NQ (cN n) (mN n) n st t J) ∧ (∀ j, j < t → TQ (st j) (attF mI) (dgF mI) G) ∧ ∀ b, inT (G b).2.2
/-! Rows of the story. -/
theorem rw1_congr {st st1 : Nat → MS} {n s : Nat} : ∀ far, (∀ j, j < far → st1 j = st j) → rw1 st1 n s far = rw1 st n s far
  | 0, _ => rfl
  | k + 1, h => by
    unfold rw1
    rw [h k (by omega), rw1_congr k (fun j hj => h j (by omega))]
theorem rw8_congr {st st1 : Nat → MS} {n far : Nat} (h : ∀ j, j < far → st1 j = st j) : rw8 st1 n far = rw8 st n far := by
  funext s
  unfold rw8
  rw [rw1_congr far h]
/-- later: more attempts, other doings, a longer story, other contents of ballots that were not yet used -/
def EX (att att1 : Nat → Nat) (dg dg1 : Nat → Int32) (st st1 : Nat → MS) (t t1 J J1 : Nat) (G G1 : Nat → R3) : Prop :=
  t ≤ t1 ∧ J ≤ J1 ∧ (∀ j, j < t → st1 j = st j) ∧ (∀ i, i < 8 → (att1 i = att i ∧ (dg1 i = 1 → dg i = 1)) ∨ att i < att1 i) ∧ ∀ i q, i < 8 → q ≤ att i → ¬ (dg i = 1 ∧ q = att i) → G1 (8 * q + i) = G (8 * q + i)
theorem LQ.ext {c : CL} {m : ML} {att att1 : Nat → Nat} {dg dg1 : Nat → Int32} {st st1 : Nat → MS} {t t1 J J1 : Nat} {G G1 : Nat → R3} (h : LQ c m att dg st t J G) (he : EX att att1 dg dg1 st st1 t t1 J J1 G G1) : LQ c m att1 dg1 st1 t1 J1 G1 := by
  obtain ⟨h1, h2, h3, h4, h5⟩ := he
  obtain ⟨i, n, q, hi, hn, hq, hqa, h⟩ := h
  have hqa1 : q ≤ att1 i := by rcases h4 i hi with ⟨e, -⟩ | e <;> omega
  refine ⟨i, n, q, hi, hn, hq, hqa1, ?_⟩
  rcases h with h | ⟨r, s', tm, mk, far, hf, hc, hm⟩ | ⟨rs, s, tm, mk, ex, hs, hc, hm, hG, hd⟩ | h | ⟨r, rs, s', tm, mk, b, hb, hc, hm⟩
  · exact Or.inl h
  · exact Or.inr (Or.inl ⟨r, s', tm, mk, far, by omega, by rw [rw8_congr (fun j hj => h3 j (by omega))]; exact hc, hm⟩)
  · refine Or.inr (Or.inr (Or.inl ⟨rs, s, tm, mk, ex, hs, hc, hm, by rw [h5 i q hi hqa hd]; exact hG, fun hx => ?_⟩))
    rcases h4 i hi with ⟨e, e2⟩ | e
    · exact hd ⟨e2 hx.1, by omega⟩
    · omega
  · exact Or.inr (Or.inr (Or.inr (Or.inl h)))
  · exact Or.inr (Or.inr (Or.inr (Or.inr ⟨r, rs, s', tm, mk, b, by omega, hc, hm⟩)))
theorem TQ.ext {m : MS} {att att1 : Nat → Nat} {dg dg1 : Nat → Int32} {st st1 : Nat → MS} {t t1 J J1 : Nat} {G G1 : Nat → R3} (h : TQ m att dg G) (he : EX att att1 dg dg1 st st1 t t1 J J1 G G1) : TQ m att1 dg1 G1 := by
  obtain ⟨h1, h2, h3, h4, h5⟩ := he
  obtain ⟨i, n, s, q, tm, mk, hi, hn, hs, hq, hqa, hm, hG, hd⟩ := h
  have hqa1 : q ≤ att1 i := by rcases h4 i hi with ⟨e, -⟩ | e <;> omega
  refine ⟨i, n, s, q, tm, mk, hi, hn, hs, hq, hqa1, hm, by rw [h5 i q hi hqa hd]; exact hG, fun hx => ?_⟩
  rcases h4 i hi with ⟨e, e2⟩ | e
  · exact hd ⟨e2 hx.1, by omega⟩
  · omega
theorem SQ.ext {sn : R4} {cnt rch : Nat → Int32} {st st1 : Nat → MS} {s t : Nat} (h : SQ sn cnt rch st s) (hr : ∀ n, n < 5 → ∃ r, r ≤ t ∧ rch n = nI r) (ht : t ≤ 512) (hst : ∀ j, j < t → st1 j = st j) : SQ sn cnt rch st1 s := by
  have e : ∀ n, n < 5 → rw1 st1 n s (rch n).toNatClampNeg = rw1 st n s (rch n).toNatClampNeg := fun n hn => by
    obtain ⟨r, hr1, hr2⟩ := hr n hn
    rw [hr2, nI_clamp (by omega)]
    exact rw1_congr r (fun j hj => hst j (by omega))
  refine ⟨fun n hn hc => by rw [e n hn]; exact h.1 n hn hc, ?_⟩
  rcases h.2 with h | ⟨n, hn, hc, h⟩
  · exact Or.inl h
  · exact Or.inr ⟨n, hn, hc, by rw [e n hn]; exact h⟩
theorem IQ.ext {c : CI} {m : MI} {i : Nat} {st st1 : Nat → MS} {t t1 J J1 : Nat} (h : IQ c m i st t J) (h1 : t ≤ t1) (h2 : J ≤ J1) (ht : t ≤ 512) (h3 : ∀ j, j < t → st1 j = st j) : IQ c m i st1 t1 J1 := by
  obtain ⟨clk, lt, gv, ph, ls, bl, cn, fl, lc, q, tl, sn, ws, hd, prl, cnt, rch, wS, wT, wF, rdy, hS, hT, fi, gT, gC, hc, hm, a1, a2, a3, a4, a5, a6, a7, a8, a9, a10⟩ := h
  exact ⟨clk, lt, gv, ph, ls, bl, cn, fl, lc, q, tl, sn, ws, hd, prl, cnt, rch, wS, wT, wF, rdy, hS, hT, fi, gT, gC, hc, hm, a1, by omega, by omega, a4, a5, a6, fun n hn => by obtain ⟨r, hr, e⟩ := a7 n hn; exact ⟨r, by omega, e⟩, a8, fun hp s hs => (a9 hp s hs).ext a7 ht h3, a10⟩
theorem NQ.ext {c : CN} {m : Int32 × Int32} {n : Nat} {st st1 : Nat → MS} {t J J1 : Nat} (h : NQ c m n st t J) (h2 : J ≤ J1) (h3 : ∀ j, j < t → st1 j = st j) : NQ c m n st1 t J1 := by
  obtain ⟨b, hb, h⟩ := h
  exact ⟨b, by omega, by rw [rw8_congr h3]; exact h⟩
