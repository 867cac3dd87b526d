set_option linter.constructorNameAsVariable false
section ST
variable {S S1 T T1 : gS} {x o : Nat} {pm : Nat → Nat} {L t J : Nat} {G G1 : Nat → R3}
theorem RS.tt (h : RS S T x o pm L t J G) (hm : mOK T1 o) (h1 : gI T1 o 1 = gI T o 1) (h10 : gI T1 o 10 = gI T o 10) (e1 : ml T1 o = ml T o) (e2 : mi T1 o = mi T o) (e3 : mn T1 o = mn T o) (e4 : ms T1 o = ms T o) : RS S T1 x o pm L t J G := by
  obtain ⟨a1, a2, a3, a4, a5, a6⟩ := h
  exact ⟨a1, a2, hm, h1.trans a4, h10.trans a5, by rw [e1, e2, e3, e4]; exact a6⟩
theorem RS.thr {v : Int32} (h : RS S T x o pm L t J G) : RS S (sI T o 0 v) x o pm L t J G   := h.tt (mI h.2.2.1) (gI_k (by decide)) (gI_k (by decide)) ml_o mi_o mn_o ms_o
theorem RS.mono {J1 : Nat} (h : RS S T x o pm L t J G) (h1 : J ≤ J1) (h2 : J1 ≤ 512) : RS S T x o pm L t J1 G := by
  obtain ⟨a1, a2, a3, a4, a5, a6⟩ := h
  exact ⟨a1, a2, a3, a4, a5, a6.mono h1 h2⟩
/-- nothing of the class's cells is written -/
theorem RS.ss {M Mr : Nat → Prop} (h : RS S T x o pm L t J G) (hT : TO M Mr S S1) (hM : ∀ b, M b ∨ Mr b → b < x ∨ x + 214 ≤ b) (hK : KX M Mr S) : RS S1 T x o pm L t J G := by
  obtain ⟨⟨b1, b2, b3, b4, b5⟩, a2, a3, a4, a5, a6⟩ := h
  have n1 : ∀ b, x ≤ b → b < x + 214 → ¬ M b := fun b q1 q2 q => by have := hM b (Or.inl q); omega
  have n2 : ∀ b, x ≤ b → b < x + 214 → ¬ Mr b := fun b q1 q2 q => by have := hM b (Or.inr q); omega
  have c1 := fun q (hq : q < 91) => to_cl hT hK (b2 q hq) (n1 _ (by omega) (by omega)) (n2 _ (by omega) (by omega)) (n2 _ (by omega) (by omega))
  have c2 := fun i (hi : i < 8) => to_ci hT hK b1 (b3 i hi) (n2 _ (by omega) (by omega)) (n1 _ (by omega) (by omega)) (n2 _ (by omega) (by omega)) (n2 _ (by omega) (by omega))
  have c3 := fun n (hn : n < 5) => to_cn hT hK b1 (b4 n hn) (n2 _ (by omega) (by omega)) (n1 _ (by omega) (by omega)) (n2 _ (by omega) (by omega)) (n2 _ (by omega) (by omega))
  refine ⟨⟨to_base hT hK b1 (n2 _ (by omega) (by omega)) (n2 _ (by omega) (by omega)), fun q hq => (c1 q hq).2, fun i hi => (c2 i hi).2, fun n hn => (c3 n hn).2, to_pm hT b1 b5 (n2 _ (by omega) (by omega))⟩, ?_, a3, a4, a5, ?_⟩
  · rw [((hT (x + 4) (by have := b1.2.2.2.1; omega)).1 (n1 _ (by omega) (by omega))).1]; exact a2
  · exact a6.same (fun k hk => ⟨(c1 (pm k) (b5.1 k)).1, rfl⟩) (fun i hi => ⟨(c2 i hi).1, rfl⟩) (fun n hn => ⟨(c3 n hn).1, rfl⟩) (fun _ _ => rfl)
/-- one issuer -/
theorem RS.iss {i : Nat} (h : RS S T x o pm L t J G) (hi : i < 8) (hT : TO (fun b => b = x + 188 + 2 * i) (fun b => b = x + 188 + 2 * i ∨ b = x + 188 + 2 * i + 1) S S1) (hc : cIs S1 x i) (hm : mOK T1 o) (h1 : gI T1 o 1 = gI T o 1) (h10 : gI T1 o 10 = gI T o 10) (e1 : ml T1 o = ml T o) (e3 : mn T1 o = mn T o) (e4 : ms T1 o = ms T o) (e2 : ∀ j, j ≠ i → mi T1 o j = mi T o j)
    (hI : IQ (ci S1 (x + 188 + 2 * i)) (mi T1 o i) i (ms T o) t J) (hu : (attF (mi T1 o) i = attF (mi T o) i ∧ (dgF (mi T1 o) i = 1 → dgF (mi T o) i = 1)) ∨ attF (mi T o) i < attF (mi T1 o) i)
    (hG : ∀ i q, i < 8 → q ≤ attF (mi T o) i → ¬ (dgF (mi T o) i = 1 ∧ q = attF (mi T o) i) → G1 (8 * q + i) = G (8 * q + i)) (hGb : ∀ b, inT (G1 b).2.2) : RS S1 T1 x o pm L t J G1 := by
  obtain ⟨⟨b1, b2, b3, b4, b5⟩, a2, a3, a4, a5, a6⟩ := h
  have k2 := (b3 i hi).2.1
  have k3 := (b3 i hi).2.2.2.2.1
  have hK : KX (fun b => b = x + 188 + 2 * i) (fun b => b = x + 188 + 2 * i ∨ b = x + 188 + 2 * i + 1) S := fun b hb => by
    have : b = x + 188 + 2 * i ∨ b = x + 188 + 2 * i + 1 := by rcases hb with hb | hb | hb <;> omega
    rcases this with rfl | rfl <;> omega
  have c1 := fun q (hq : q < 91) => to_cl hT hK (b2 q hq) (by omega) (by omega) (by omega)
  have c2 := fun j (hj : j < 8) (hji : j ≠ i) => to_ci hT hK b1 (b3 j hj) (by omega) (by omega) (by omega) (by omega)
  have c3 := fun n (hn : n < 5) => to_cn hT hK b1 (b4 n hn) (by omega) (by omega) (by omega) (by omega)
  refine ⟨⟨to_base hT hK b1 (by omega) (by omega), fun q hq => (c1 q hq).2, fun j hj => ?_, fun n hn => (c3 n hn).2, to_pm hT b1 b5 (by omega)⟩, ?_, hm, h1.trans a4, h10.trans a5, ?_⟩
  · by_cases e : j = i
    · rw [e]; exact hc
    · exact (c2 j hj e).2
  · rw [((hT (x + 4) (by have := b1.2.2.2.1; omega)).1 (by omega)).1]; exact a2
  · rw [e1, e3, e4]
    exact (a6.same (cL1 := VL S1 x pm) (cN1 := VN S1 x) (fun k hk => ⟨(c1 (pm k) (b5.1 k)).1, rfl⟩) (fun i hi => ⟨rfl, rfl⟩) (fun n hn => ⟨(c3 n hn).1, rfl⟩) (fun _ _ => rfl)).iss hi (fun j hj hji => ⟨(c2 j hj hji).1, e2 j hji⟩) hI hu hG hGb
/-- one letter more -/
theorem RS.send (h : RS S T x o pm L t J G) (hL : L + 1 ≤ 90) (hT : TO (fun b => b = x + 4 ∨ b = x + 6 + 2 * pm L) (fun b => b = x + 6 + 2 * pm L ∨ b = x + 6 + 2 * pm L + 1) S S1) (hz : gI S1 (x + 4) 1 = nI (L + 1)) (hc : cLt S1 x (pm L)) (hm : mOK T1 o) (h1 : gI T1 o 1 = nI (L + 1)) (h10 : gI T1 o 10 = gI T o 10) (e1 : ∀ k, k ≠ L → ml T1 o k = ml T o k) (e2 : mi T1 o = mi T o) (e3 : mn T1 o = mn T o) (e4 : ms T1 o = ms T o)
    (hn : LQ (cl S1 (x + 6 + 2 * pm L)) (ml T1 o L) (attF (mi T o)) (dgF (mi T o)) (ms T o) t J G) : RS S1 T1 x o pm (L + 1) t J G := by
  obtain ⟨⟨b1, b2, b3, b4, b5⟩, a2, a3, a4, a5, a6⟩ := h
  have hp := b5.1 L
  have k2 := (b2 _ hp).1
  have k3 := (b2 _ hp).2.2.1
  have k4 := b1.2.2.2.1
  have hK : KX (fun b => b = x + 4 ∨ b = x + 6 + 2 * pm L) (fun b => b = x + 6 + 2 * pm L ∨ b = x + 6 + 2 * pm L + 1) S := fun b hb => by
    have : b = x + 4 ∨ b = x + 6 + 2 * pm L ∨ b = x + 6 + 2 * pm L + 1 := by rcases hb with (hb | hb) | hb | hb <;> omega
    rcases this with rfl | rfl | rfl <;> omega
  have c1 := fun q (hq : q < 91) (hne : q ≠ pm L) => to_cl hT hK (b2 q hq) (by omega) (by omega) (by omega)
  have c2 := fun j (hj : j < 8) => to_ci hT hK b1 (b3 j hj) (by omega) (by omega) (by omega) (by omega)
  have c3 := fun n (hn : n < 5) => to_cn hT hK b1 (b4 n hn) (by omega) (by omega) (by omega) (by omega)
  refine ⟨⟨to_base hT hK b1 (by omega) (by omega), fun q hq => ?_, fun j hj => (c2 j hj).2, fun n hn => (c3 n hn).2, to_pm hT b1 b5 (by omega)⟩, hz, hm, h1, h10.trans a5, ?_⟩
  · by_cases e : q = pm L
    · rw [e]; exact hc
    · exact (c1 q hq e).2
  · rw [e2, e3, e4]
    refine (a6.same (cI1 := VI S1 x) (cN1 := VN S1 x) (fun k hk => ⟨rfl, rfl⟩) (fun i hi => ⟨(c2 i hi).1, rfl⟩) (fun n hn => ⟨(c3 n hn).1, rfl⟩) (fun _ _ => rfl)).send hL (fun j hj => ⟨(c1 (pm j) (b5.1 j) (fun e => ?_)).1, e1 j (by omega)⟩) hn
    have := b5.2.1 j L (by omega) (by omega) e
    omega
/-- one node -/
theorem RS.node {n : Nat} (h : RS S T x o pm L t J G) (hn : n < 5) (hT : TO (fun b => b = x + 204 + 2 * n) (fun _ => False) S S1) (hm : mOK T1 o) (h1 : gI T1 o 1 = gI T o 1) (h10 : gI T1 o 10 = gI T o 10) (e1 : ml T1 o = ml T o) (e2 : mi T1 o = mi T o) (e4 : ms T1 o = ms T o) (e3 : ∀ j, j ≠ n → mn T1 o j = mn T o j)
    (hN : NQ (cn S1 (x + 204 + 2 * n)) (mn T1 o n) n (ms T o) t J) : RS S1 T1 x o pm L t J G := by
  obtain ⟨⟨b1, b2, b3, b4, b5⟩, a2, a3, a4, a5, a6⟩ := h
  have k2 := (b4 n hn).2.1
  have hK : KX (fun b => b = x + 204 + 2 * n) (fun _ => False) S := fun b hb => by
    have : b = x + 204 + 2 * n := by rcases hb with hb | hb; exact hb; exact hb.elim
    rw [this]; omega
  have c1 := fun q (hq : q < 91) => to_cl hT hK (b2 q hq) (by omega) (fun q => q) (fun q => q)
  have c2 := fun j (hj : j < 8) => to_ci hT hK b1 (b3 j hj) (fun q => q) (by omega) (fun q => q) (fun q => q)
  have c3 := fun j (hj : j < 5) (hne : j ≠ n) => to_cn hT hK b1 (b4 j hj) (fun q => q) (by omega) (fun q => q) (fun q => q)
  refine ⟨⟨to_base hT hK b1 (fun q => q) (fun q => q), fun q hq => (c1 q hq).2, fun j hj => (c2 j hj).2, fun j hj => ?_, to_pm hT b1 b5 (fun q => q)⟩, ?_, hm, h1.trans a4, h10.trans a5, ?_⟩
  · obtain ⟨d1, d2, d3, d4, d5, d6⟩ := b4 j hj
    have hk1 : gK S (x + 2) = 14 := b1.1.2.2.2.2.2.2.1
    exact ⟨((hT _ (by omega)).2.1 (fun q => q) j).trans d1, (hT _ (by omega)).2.2.1.trans d2, ((hT _ (by omega)).2.1 (fun q => q) 2).trans d3, (hT _ (by omega)).2.2.1.trans d4, (hT _ (by omega)).2.2.2.trans d5, fun s hs => (to_rwA hT hK (by omega) (fun q => q) (d6 s hs)).1⟩
  · rw [((hT (x + 4) (by have := b1.2.2.2.1; omega)).1 (by omega)).1]; exact a2
  · rw [e1, e2, e4]
    exact (a6.same (cL1 := VL S1 x pm) (cI1 := VI S1 x) (fun k hk => ⟨(c1 (pm k) (b5.1 k)).1, rfl⟩) (fun i hi => ⟨(c2 i hi).1, rfl⟩) (fun n hn => ⟨rfl, rfl⟩) (fun _ _ => rfl)).node (fun j hj hji => ⟨(c3 j hj hji).1, e3 j hji⟩) hN
/-- one row more in the story, by node n -/
theorem RS.story {n : Nat} (h : RS S T x o pm L t J G) (hn : n < 5) (ht : t + 1 ≤ J) (hT : TO (fun b => b = x + 204 + 2 * n) (fun b => b = x + 204 + 2 * n + 1) S S1) (hc : cNd S1 x n) (hm : mOK T1 o) (h1 : gI T1 o 1 = gI T o 1) (h10 : gI T1 o 10 = nI (t + 1)) (e1 : ml T1 o = ml T o) (e2 : mi T1 o = mi T o) (e4 : ∀ j, j < t → ms T1 o j = ms T o j) (e3 : ∀ j, j ≠ n → mn T1 o j = mn T o j)
    (hq : TQ (ms T1 o t) (attF (mi T o)) (dgF (mi T o)) G) (hnn : (ms T1 o t).1 = nI n) (hN : NQ (cn S1 (x + 204 + 2 * n)) (mn T1 o n) n (ms T1 o) (t + 1) J) : RS S1 T1 x o pm L (t + 1) J G := by
  obtain ⟨⟨b1, b2, b3, b4, b5⟩, a2, a3, a4, a5, a6⟩ := h
  have k2 := (b4 n hn).2.1
  have k3 := (b4 n hn).2.2.2.1
  have hK : KX (fun b => b = x + 204 + 2 * n) (fun b => b = x + 204 + 2 * n + 1) S := fun b hb => by
    rcases hb with rfl | rfl <;> omega
  have c1 := fun q (hq : q < 91) => to_cl hT hK (b2 q hq) (by omega) (by omega) (by omega)
  have c2 := fun j (hj : j < 8) => to_ci hT hK b1 (b3 j hj) (by omega) (by omega) (by omega) (by omega)
  have c3 := fun j (hj : j < 5) (hne : j ≠ n) => to_cn hT hK b1 (b4 j hj) (by omega) (by omega) (by omega) (by omega)
  refine ⟨⟨to_base hT hK b1 (by omega) (by omega), fun q hq => (c1 q hq).2, fun j hj => (c2 j hj).2, fun j hj => ?_, to_pm hT b1 b5 (by omega)⟩, ?_, hm, h1.trans a4, h10, ?_⟩
  · by_cases e : j = n
    · rw [e]; exact hc
    · exact (c3 j hj e).2
  · rw [((hT (x + 4) (by have := b1.2.2.2.1; omega)).1 (by omega)).1]; exact a2
  · rw [e1, e2]
    exact (a6.same (cL1 := VL S1 x pm) (cI1 := VI S1 x) (fun k hk => ⟨(c1 (pm k) (b5.1 k)).1, rfl⟩) (fun i hi => ⟨(c2 i hi).1, rfl⟩) (fun n hn => ⟨rfl, rfl⟩) (fun _ _ => rfl)).story hn ht e4 hq hnn (fun j hj hji => ⟨(c3 j hj hji).1, e3 j hji⟩) hN
theorem ml_mRem {k j : Nat} (hL : 0 < L) (hj : j < L - 1) : ml (mRem T o k L) o j = ml T o (if j < k then j else j + 1) := by
  unfold mRem ml
  rw [gI_mSh, gI_mSh, gI_mSh, gI_mSh, gI_mSh, gI_mSh, gI_mSh, gJ_mSh, gJ_sI]
  by_cases h : j < k
  · rw [if_pos h, if_neg (by omega), if_neg (by omega), if_neg (by omega), if_neg (by omega), if_neg (by omega), if_neg (by omega), if_neg (by omega), if_neg (by omega), gI_a (by omega), gI_a (by omega), gI_a (by omega), gI_a (by omega), gI_a (by omega), gI_a (by omega), gI_a (by omega)]
  · rw [if_neg h, if_pos (by omega), if_pos (by omega), if_pos (by omega), if_pos (by omega), if_pos (by omega), if_pos (by omega), if_pos (by omega), if_pos (by omega), gI_a (by omega), gI_a (by omega), gI_a (by omega), gI_a (by omega), gI_a (by omega), gI_a (by omega), gI_a (by omega)]
theorem gI_mRemb {k b j : Nat} (hb : o + 8 < b) : gI (mRem T o k L) b j = gI T b j := by
  unfold mRem
  rw [gI_mSh, if_neg (by omega), gI_a (by omega)]
theorem gJ_mRemb {k b j : Nat} (hb : o + 8 < b) : gJ (mRem T o k L) b j = gJ T b j := by
  unfold mRem
  rw [gJ_mSh, if_neg (by omega), gJ_sI]
theorem mi_mRem {k : Nat} : mi (mRem T o k L) o = mi T o := by
  funext i
  unfold mi
  simp only [gI_mRemb (T := T) (L := L) (k := k) (show o + 8 < o + 18 by omega), gI_mRemb (T := T) (L := L) (k := k) (show o + 8 < o + 19 by omega), gI_mRemb (T := T) (L := L) (k := k) (show o + 8 < o + 20 by omega), gI_mRemb (T := T) (L := L) (k := k) (show o + 8 < o + 21 by omega), gI_mRemb (T := T) (L := L) (k := k) (show o + 8 < o + 22 by omega), gI_mRemb (T := T) (L := L) (k := k) (show o + 8 < o + 23 by omega), gI_mRemb (T := T) (L := L) (k := k) (show o + 8 < o + 24 by omega), gI_mRemb (T := T) (L := L) (k := k) (show o + 8 < o + 25 by omega), gI_mRemb (T := T) (L := L) (k := k) (show o + 8 < o + 27 by omega), gI_mRemb (T := T) (L := L) (k := k) (show o + 8 < o + 28 by omega), gI_mRemb (T := T) (L := L) (k := k) (show o + 8 < o + 29 by omega), gI_mRemb (T := T) (L := L) (k := k) (show o + 8 < o + 32 by omega), gI_mRemb (T := T) (L := L) (k := k) (show o + 8 < o + 33 by omega), gJ_mRemb (T := T) (L := L) (k := k) (show o + 8 < o + 17 by omega), gJ_mRemb (T := T) (L := L) (k := k) (show o + 8 < o + 26 by omega), gJ_mRemb (T := T) (L := L) (k := k) (show o + 8 < o + 30 by omega), gJ_mRemb (T := T) (L := L) (k := k) (show o + 8 < o + 31 by omega), gJ_mRemb (T := T) (L := L) (k := k) (show o + 8 < o + 34 by omega)]
theorem mn_mRem {k : Nat} : mn (mRem T o k L) o = mn T o := by
  funext i
  unfold mn
  rw [gI_mRemb (by omega), gI_mRemb (by omega)]
theorem ms_mRem {k : Nat} : ms (mRem T o k L) o = ms T o := by
  funext i
  unfold ms
  rw [gI_mRemb (by omega), gI_mRemb (by omega), gI_mRemb (by omega), gI_mRemb (by omega), gI_mRemb (by omega), gJ_mRemb (by omega)]
theorem mOK_mRem {k : Nat} (h : mOK T o) : mOK (mRem T o k L) o := by unfold mRem; exact mH (mI h)
theorem so_mRem {k f : Nat} (hf : f ≠ 1) : gI (mRem T o k L) o f = gI T o f := by
  unfold mRem
  rw [gI_mSh, if_neg (by omega), gI_k hf]
theorem s1_mRem {k : Nat} : gI (mRem T o k L) o 1 = nI (L - 1) := by
  unfold mRem
  rw [gI_mSh, if_neg (by omega), gI_s]
theorem tkf_add {x k j : Nat} : tkf (fun k => x + 6 + 2 * pm k) k j = x + 6 + 2 * tkf pm k j := by
  unfold tkf
  split
  · rfl
  · split <;> rfl
theorem tkf_lt {k : Nat} (h : ∀ k, pm k < 91) (j : Nat) : tkf pm k j < 91 := by
  unfold tkf
  split
  · exact h _
  · split <;> exact h _
theorem tkf_inj {k : Nat} (hk : k < 91) (h : ∀ i j, i < 91 → j < 91 → pm i = pm j → i = j) (i j : Nat) (hi : i < 91) (hj : j < 91) (e : tkf pm k i = tkf pm k j) : i = j := by
  unfold tkf at e
  split at e <;> split at e
  all_goals (try split at e) <;> (try split at e)
  all_goals first | omega | (have := h _ _ (by omega) (by omega) e; omega)
/-- a letter is taken -/
theorem RS.take {k : Nat} (h : RS S T x o pm L t J G) (hk : k < L) : RS (cTake S (x + 4) (x + 5) (fun k => x + 6 + 2 * pm k) k) (mRem T o k L) x o (tkf pm k) (L - 1) t J G := by
  obtain ⟨⟨b1, b2, b3, b4, b5⟩, a2, a3, a4, a5, a6⟩ := h
  have hL := a6.1
  have k4 := b1.2.2.2.1
  have k5 := b1.2.2.2.2.2.1
  have hT : TO (fun b => b = x + 4) (fun b => b = x + 5) S (cTake S (x + 4) (x + 5) (fun k => x + 6 + 2 * pm k) k) := TO.sI (TO.sRow (M := fun b => b = x + 4) (Mr := fun b => b = x + 5) TO.refl (show x + 5 = x + 5 from rfl)) (show x + 4 = x + 4 from rfl)
  have hK : KX (fun b => b = x + 4) (fun b => b = x + 5) S := fun b hb => by rcases hb with rfl | rfl <;> omega
  have c1 := fun q (hq : q < 91) => to_cl hT hK (b2 q hq) (by omega) (by omega) (by omega)
  have c2 := fun j (hj : j < 8) => to_ci hT hK b1 (b3 j hj) (by omega) (by omega) (by omega) (by omega)
  have c3 := fun n (hn : n < 5) => to_cn hT hK b1 (b4 n hn) (by omega) (by omega) (by omega) (by omega)
  refine ⟨⟨to_base hT hK b1 (by omega) (by omega), fun q hq => (c1 q hq).2, fun j hj => (c2 j hj).2, fun n hn => (c3 n hn).2, tkf_lt b5.1, tkf_inj (by omega) b5.2.1, fun j hj => ?_⟩, gI_Tk1 a2 (by omega), mOK_mRem a3, s1_mRem, (so_mRem (by decide)).trans a5, ?_⟩
  · rw [gR_Tk hj, tkf_add]
  · rw [mi_mRem, mn_mRem, ms_mRem]
    refine (a6.same (cL1 := fun k' => cl (cTake S (x + 4) (x + 5) (fun k => x + 6 + 2 * pm k) k) (x + 6 + 2 * pm k')) (cI1 := VI _ x) (cN1 := VN _ x) (mL1 := ml T o) (fun k' hk' => ⟨(c1 (pm k') (b5.1 k')).1, rfl⟩) (fun i hi => ⟨(c2 i hi).1, rfl⟩) (fun n hn => ⟨(c3 n hn).1, rfl⟩) (fun _ _ => rfl)).remove hk (fun j hj => ⟨?_, ml_mRem (by omega) hj⟩)
    show cl _ (x + 6 + 2 * tkf pm k j) = cl _ (x + 6 + 2 * pm (if j < k then j else j + 1))
    rw [show tkf pm k j = pm (if j < k then j else j + 1) from by
      unfold tkf
      by_cases h : j < k
      · rw [if_pos h, if_pos h]
      · rw [if_neg h, if_neg h, if_pos (by omega)]]
end ST
