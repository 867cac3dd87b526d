set_option linter.constructorNameAsVariable false
/-! The class's cells: their form, and what a step leaves as it was. -/
def rwA (S : gS) (a j : Nat) : Prop := gR S a j = some (cr S a j) ∧ gK S (cr S a j) = 6
def grA (S : gS) (a j : Nat) : Prop := gR S a j = none ∨ (gR S a j = some (cr S a j) ∧ gK S (cr S a j) = 1 ∧ rwA S (cr S a j) 2)
def cLt (S : gS) (x q : Nat) : Prop := gK S (x + 6 + 2 * q) = 3 ∧ gR S (x + 6 + 2 * q) 7 = some (x + 6 + 2 * q + 1) ∧ gK S (x + 6 + 2 * q + 1) = 15 ∧ gn S (x + 6 + 2 * q + 1) = 8 ∧ rwA S (x + 6 + 2 * q) 6 ∧ ∀ s, s < 8 → rwA S (x + 6 + 2 * q + 1) s
def cIs (S : gS) (x i : Nat) : Prop := gR S (x + 1) i = some (x + 188 + 2 * i) ∧ gK S (x + 188 + 2 * i) = 2 ∧ gR S (x + 188 + 2 * i) 1 = some (x + 3) ∧ gR S (x + 188 + 2 * i) 8 = some (x + 188 + 2 * i + 1) ∧ gK S (x + 188 + 2 * i + 1) = 15 ∧ gn S (x + 188 + 2 * i + 1) = 8 ∧ (∀ s, s < 8 → rwA S (x + 188 + 2 * i + 1) s) ∧ grA S (x + 188 + 2 * i) 9 ∧ grA S (x + 188 + 2 * i) 11
def cNd (S : gS) (x n : Nat) : Prop := gR S (x + 2) n = some (x + 204 + 2 * n) ∧ gK S (x + 204 + 2 * n) = 4 ∧ gR S (x + 204 + 2 * n) 2 = some (x + 204 + 2 * n + 1) ∧ gK S (x + 204 + 2 * n + 1) = 15 ∧ gn S (x + 204 + 2 * n + 1) = 8 ∧ ∀ s, s < 8 → rwA S (x + 204 + 2 * n + 1) s
def cBase (S : gS) (x : Nat) : Prop := hLay S x ∧ rcS S (x + 3) = u4 ∧ gR S x 3 = some (x + 4) ∧ gK S (x + 4) = 5 ∧ gR S (x + 4) 0 = some (x + 5) ∧ gK S (x + 5) = 13 ∧ gn S (x + 5) = 91
def cPm (S : gS) (x : Nat) (pm : Nat → Nat) : Prop := (∀ k, pm k < 91) ∧ (∀ i j, i < 91 → j < 91 → pm i = pm j → i = j) ∧ ∀ k, k < 91 → gR S (x + 5) k = some (x + 6 + 2 * pm k)
def CSt (S : gS) (x : Nat) (pm : Nat → Nat) : Prop := cBase S x ∧ (∀ q, q < 91 → cLt S x q) ∧ (∀ i, i < 8 → cIs S x i) ∧ (∀ n, n < 5 → cNd S x n) ∧ cPm S x pm
/-- a step writes ints and longs of the cells M, references of the cells Mr, and makes new cells -/
def TO (M Mr : Nat → Prop) (S S1 : gS) : Prop := ∀ b, gK S b ≠ 0 → (¬ M b → (∀ j, gI S1 b j = gI S b j) ∧ ∀ j, gJ S1 b j = gJ S b j) ∧ (¬ Mr b → ∀ j, gR S1 b j = gR S b j) ∧ gK S1 b = gK S b ∧ gn S1 b = gn S b
def KX (M Mr : Nat → Prop) (S : gS) : Prop := ∀ b, M b ∨ Mr b → gK S b ≠ 6 ∧ gK S b ≠ 1
theorem TO.refl {M Mr : Nat → Prop} {S : gS} : TO M Mr S S := fun _ _ => ⟨fun _ => ⟨fun _ => rfl, fun _ => rfl⟩, fun _ _ => rfl, rfl, rfl⟩
theorem TO.trans {M Mr : Nat → Prop} {S S1 S2 : gS} (h1 : TO M Mr S S1) (h2 : TO M Mr S1 S2) : TO M Mr S S2 := fun b hb => by
  obtain ⟨a1, a2, a3, a4⟩ := h1 b hb
  obtain ⟨b1, b2, b3, b4⟩ := h2 b (by rw [a3]; exact hb)
  exact ⟨fun hm => ⟨fun j => ((b1 hm).1 j).trans ((a1 hm).1 j), fun j => ((b1 hm).2 j).trans ((a1 hm).2 j)⟩, fun hm j => (b2 hm j).trans (a2 hm j), b3.trans a3, b4.trans a4⟩
theorem TO.sI {M Mr : Nat → Prop} {S S1 : gS} {a k : Nat} {v : Int32} (h : TO M Mr S S1) (ha : M a) : TO M Mr S (sI S1 a k v) := h.trans fun _ _ => ⟨fun hm => ⟨fun _ => gI_a (fun e => hm (by rw [e]; exact ha)), fun _ => rfl⟩, fun _ _ => rfl, rfl, rfl⟩
theorem TO.sJ {M Mr : Nat → Prop} {S S1 : gS} {a k : Nat} {v : Int64} (h : TO M Mr S S1) (ha : M a) : TO M Mr S (sJ S1 a k v) := h.trans fun _ _ => ⟨fun hm => ⟨fun _ => rfl, fun _ => gJ_a (fun e => hm (by rw [e]; exact ha))⟩, fun _ _ => rfl, rfl, rfl⟩
theorem TO.sR {M Mr : Nat → Prop} {S S1 : gS} {a k : Nat} {v : Option Nat} (h : TO M Mr S S1) (ha : Mr a) : TO M Mr S (sR S1 a k v) := h.trans fun _ _ => ⟨fun _ => ⟨fun _ => rfl, fun _ => rfl⟩, fun hm j => by rw [gR_sR]; split; exact if_neg (fun e => hm (by rw [e]; exact ha)); rfl, rfl, rfl⟩
theorem TO.sRow {M Mr : Nat → Prop} {S S1 : gS} {a n : Nat} {f : Nat → Option Nat} (h : TO M Mr S S1) (ha : Mr a) : TO M Mr S (sRow S1 a n f) := h.trans fun _ _ => ⟨fun _ => ⟨fun _ => rfl, fun _ => rfl⟩, fun hm j => by rw [gR_sRow, if_neg (fun e => hm (by rw [e]; exact ha))], rfl, rfl⟩
theorem TO.cSend {M Mr : Nat → Prop} {S S1 : gS} {a q : Nat} {kd is nd bl : Int32} (h : TO M Mr S S1) (ha : M a) (hq : M q) : TO M Mr S (cSend S1 a q kd is nd bl) := ((((((h.sI ha).sI hq).sI hq).sI hq).sI hq).sI hq).sI hq
theorem TO.mkG {M Mr : Nat → Prop} {S : gS} {z : Nat} {st x1 x2 x3 : Int32} {fi mk : Int64} (h0 : gK S z = 0) (h1 : gK S (z + 1) = 0) : TO M Mr S (mkGrant S z st fi x1 x2 x3 mk) := fun b hb => by
  have e0 : b ≠ z := fun e => hb (by rw [e]; exact h0)
  have e1 : b ≠ z + 1 := fun e => hb (by rw [e]; exact h1)
  refine ⟨fun _ => ⟨fun j => ?_, fun j => ?_⟩, fun _ j => rR (Or.inr e0) (rJ (rI (rJ (rI (rI (rI (rN e1 (rN e0 rfl)))))))), kR (kJ (kI (kJ (kI (kI (kI (kN e1 (kN e0 rfl)))))))), nR' (nJ' (nI' (nJ' (nI' (nI' (nI' (nN' e1 (nN' e0 rfl)))))))) ⟩
  · unfold mkGrant
    rw [gI_sR, gI_sJ, gI_a e0, gI_sJ, gI_a e1, gI_a e1, gI_a e1, gI_N e1, gI_N e0]
  · unfold mkGrant
    rw [gJ_sR, gJ_a e0, gJ_sI, gJ_a e1, gJ_sI, gJ_sI, gJ_sI, gJ_N e1, gJ_N e0]
section FR
variable {M Mr : Nat → Prop} {S S1 : gS} {x : Nat} {pm : Nat → Nat}
theorem to_rc (h : TO M Mr S S1) (hK : KX M Mr S) {r : Nat} (hr : gK S r = 6) : rcS S1 r = rcS S r ∧ gK S1 r = 6 := by
  obtain ⟨a1, a2, a3, a4⟩ := h r (by omega)
  have hm : ¬ M r := fun q => (hK r (Or.inl q)).1 hr
  unfold rcS
  rw [(a1 hm).1, (a1 hm).1, (a1 hm).1, (a1 hm).2]
  exact ⟨rfl, a3.trans hr⟩
theorem to_cr (h : TO M Mr S S1) {a j : Nat} (ha : gK S a ≠ 0) (hm : ¬ Mr a) : cr S1 a j = cr S a j := by unfold cr; rw [(h a ha).2.1 hm]
theorem to_rwA (h : TO M Mr S S1) (hK : KX M Mr S) {a j : Nat} (ha : gK S a ≠ 0) (hm : ¬ Mr a) (hr : rwA S a j) : rwA S1 a j ∧ rcS S1 (cr S1 a j) = rcS S (cr S a j) := by
  have e := to_cr h (j := j) ha hm
  obtain ⟨b1, b2⟩ := to_rc h hK hr.2
  exact ⟨⟨by rw [e, (h a ha).2.1 hm]; exact hr.1, by rw [e]; exact b2⟩, by rw [e]; exact b1⟩
theorem to_gv (h : TO M Mr S S1) (hK : KX M Mr S) {g : Nat} (hg : gK S g = 1) (hr : rwA S g 2) : gvw S1 g = gvw S g ∧ gK S1 g = 1 ∧ rwA S1 g 2 := by
  obtain ⟨a1, a2, a3, a4⟩ := h g (by omega)
  have hm : ¬ M g := fun q => (hK g (Or.inl q)).2 hg
  have hm2 : ¬ Mr g := fun q => (hK g (Or.inr q)).2 hg
  obtain ⟨b1, b2⟩ := to_rwA h hK (by omega) hm2 hr
  have b3 : gI S1 (cr S1 g 2) 2 = gI S (cr S g 2) 2 := congrArg (fun q : R4 => q.2.2.1) b2
  have b4 : gJ S1 (cr S1 g 2) 3 = gJ S (cr S g 2) 3 := congrArg (fun q : R4 => q.2.2.2) b2
  unfold gvw
  rw [(a1 hm).1, (a1 hm).2, b3, b4]
  exact ⟨rfl, a3.trans hg, b1⟩
theorem to_grA (h : TO M Mr S S1) (hK : KX M Mr S) {a j : Nat} (ha : gK S a ≠ 0) (hm : ¬ Mr a) (hr : grA S a j) : grA S1 a j ∧ (gR S1 a j).map (gvw S1) = (gR S a j).map (gvw S) := by
  have e := to_cr h (j := j) ha hm
  have e2 := (h a ha).2.1 hm j
  rcases hr with hr | ⟨c1, c2, c3⟩
  · exact ⟨Or.inl (by rw [e2]; exact hr), by rw [e2, hr]; rfl⟩
  · obtain ⟨d1, d2, d3⟩ := to_gv h hK c2 c3
    exact ⟨Or.inr ⟨by rw [e, e2]; exact c1, by rw [e]; exact d2, by rw [e]; exact d3⟩, by rw [e2, c1]; show some _ = some _; rw [d1]⟩
theorem to_rv (h : TO M Mr S S1) (hK : KX M Mr S) {a : Nat} (ha : gK S a ≠ 0) (hm : ¬ Mr a) (hr : ∀ s, s < 8 → rwA S a s) : rv S1 a = rv S a := by
  funext s
  unfold rv
  split
  · rename_i hs; exact (to_rwA h hK ha hm (hr s hs)).2
  · rfl
theorem to_cl (h : TO M Mr S S1) (hK : KX M Mr S) {q : Nat} (hc : cLt S x q) (h1 : ¬ M (x + 6 + 2 * q)) (h2 : ¬ Mr (x + 6 + 2 * q)) (h3 : ¬ Mr (x + 6 + 2 * q + 1)) : cl S1 (x + 6 + 2 * q) = cl S (x + 6 + 2 * q) ∧ cLt S1 x q := by
  obtain ⟨c1, c2, c3, c4, c5, c6⟩ := hc
  obtain ⟨a1, a2, a3, a4⟩ := h _ (show gK S (x + 6 + 2 * q) ≠ 0 by omega)
  obtain ⟨b1, b2, b3, b4⟩ := h _ (show gK S (x + 6 + 2 * q + 1) ≠ 0 by omega)
  have d1 := to_rwA h hK (by omega) h2 c5
  refine ⟨?_, a3.trans c1, (a2 h2 7).trans c2, b3.trans c3, b4.trans c4, d1.1, fun s hs => (to_rwA h hK (by omega) h3 (c6 s hs)).1⟩
  unfold cl
  rw [(a1 h1).1, (a1 h1).1, (a1 h1).1, (a1 h1).1, (a1 h1).1, (a1 h1).1, d1.2, to_rv h hK (by omega) h3 c6]
theorem to_ci (h : TO M Mr S S1) (hK : KX M Mr S) {i : Nat} (hb : cBase S x) (hc : cIs S x i) (h0 : ¬ Mr (x + 1)) (h1 : ¬ M (x + 188 + 2 * i)) (h2 : ¬ Mr (x + 188 + 2 * i)) (h3 : ¬ Mr (x + 188 + 2 * i + 1)) : ci S1 (x + 188 + 2 * i) = ci S (x + 188 + 2 * i) ∧ cIs S1 x i := by
  obtain ⟨c1, c2, c3, c4, c5, c6, c7, c8, c9⟩ := hc
  obtain ⟨a1, a2, a3, a4⟩ := h _ (show gK S (x + 188 + 2 * i) ≠ 0 by omega)
  obtain ⟨b1, b2, b3, b4⟩ := h _ (show gK S (x + 188 + 2 * i + 1) ≠ 0 by omega)
  have hk1 : gK S (x + 1) = 12 := hb.1.2.2.2.2.1
  have d8 := to_grA h hK (by omega) h2 c8
  have d9 := to_grA h hK (by omega) h2 c9
  refine ⟨?_, ((h _ (by omega)).2.1 h0 i).trans c1, a3.trans c2, (a2 h2 1).trans c3, (a2 h2 8).trans c4, b3.trans c5, b4.trans c6, fun s hs => (to_rwA h hK (by omega) h3 (c7 s hs)).1, d8.1, d9.1⟩
  unfold ci
  rw [(a1 h1).1, (a1 h1).2, (a1 h1).1, (a1 h1).1, (a1 h1).1, (a1 h1).1, (a1 h1).1, (a1 h1).1, (a1 h1).2, (a1 h1).1, (a1 h1).2, to_rv h hK (by omega) h3 c7, d8.2, d9.2]
theorem to_cn (h : TO M Mr S S1) (hK : KX M Mr S) {n : Nat} (hb : cBase S x) (hc : cNd S x n) (h0 : ¬ Mr (x + 2)) (h1 : ¬ M (x + 204 + 2 * n)) (h2 : ¬ Mr (x + 204 + 2 * n)) (h3 : ¬ Mr (x + 204 + 2 * n + 1)) : cn S1 (x + 204 + 2 * n) = cn S (x + 204 + 2 * n) ∧ cNd S1 x n := by
  obtain ⟨c1, c2, c3, c4, c5, c6⟩ := hc
  obtain ⟨a1, a2, a3, a4⟩ := h _ (show gK S (x + 204 + 2 * n) ≠ 0 by omega)
  obtain ⟨b1, b2, b3, b4⟩ := h _ (show gK S (x + 204 + 2 * n + 1) ≠ 0 by omega)
  have hk1 : gK S (x + 2) = 14 := hb.1.2.2.2.2.2.2.1
  refine ⟨?_, ((h _ (by omega)).2.1 h0 n).trans c1, a3.trans c2, (a2 h2 2).trans c3, b3.trans c4, b4.trans c5, fun s hs => (to_rwA h hK (by omega) h3 (c6 s hs)).1⟩
  unfold cn
  rw [(a1 h1).1, (a1 h1).1, to_rv h hK (by omega) h3 c6]
theorem to_base (h : TO M Mr S S1) (hK : KX M Mr S) (hb : cBase S x) (h0 : ¬ Mr x) (h4 : ¬ Mr (x + 4)) : cBase S1 x := by
  obtain ⟨⟨c1, c2, c3, c4, c5, c6, c7, c8, c9⟩, d1, d2, d3, d4, d5, d6⟩ := hb
  have k0 := h x (by omega)
  have k1 := h (x + 1) (by omega)
  have k2 := h (x + 2) (by omega)
  have k4 := h (x + 4) (by omega)
  have k5 := h (x + 5) (by omega)
  have k3 := to_rc h hK c9
  exact ⟨⟨k0.2.2.1.trans c1, (k0.2.1 h0 0).trans c2, (k0.2.1 h0 1).trans c3, (k0.2.1 h0 2).trans c4, k1.2.2.1.trans c5, k1.2.2.2.trans c6, k2.2.2.1.trans c7, k2.2.2.2.trans c8, k3.2⟩, k3.1.trans d1, (k0.2.1 h0 3).trans d2, k4.2.2.1.trans d3, (k4.2.1 h4 0).trans d4, k5.2.2.1.trans d5, k5.2.2.2.trans d6⟩
theorem to_pm (h : TO M Mr S S1) (hb : cBase S x) (hc : cPm S x pm) (h5 : ¬ Mr (x + 5)) : cPm S1 x pm := by
  have k5 := h (x + 5) (by have := hb.2.2.2.2.2.1; omega)
  exact ⟨hc.1, hc.2.1, fun k hk => (k5.2.1 h5 k).trans (hc.2.2 k hk)⟩
end FR
