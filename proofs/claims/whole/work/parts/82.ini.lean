set_option linter.constructorNameAsVariable false
/-! The relation at the start. -/
def same (S S1 : gS) (b : Nat) : Prop := gK S1 b = gK S b ∧ gn S1 b = gn S b ∧ (∀ j, gI S1 b j = gI S b j) ∧ (∀ j, gJ S1 b j = gJ S b j) ∧ ∀ j, gR S1 b j = gR S b j
section SAM
variable {S S1 S2 : gS} {a b k kd len z un : Nat}
theorem same.rf : same S S b := ⟨rfl, rfl, fun _ => rfl, fun _ => rfl, fun _ => rfl⟩
theorem same.tr (h : same S S1 b) (h2 : same S1 S2 b) : same S S2 b := ⟨h2.1.trans h.1, h2.2.1.trans h.2.1, fun j => (h2.2.2.1 j).trans (h.2.2.1 j), fun j => (h2.2.2.2.1 j).trans (h.2.2.2.1 j), fun j => (h2.2.2.2.2 j).trans (h.2.2.2.2 j)⟩
theorem same.N (h : same S S1 b) (hb : b ≠ a) : same S (sN S1 a kd len) b := h.tr ⟨kN hb rfl, nN' hb rfl, fun _ => gI_N hb, fun _ => gJ_N hb, fun _ => rN hb rfl⟩
theorem same.I {v : Int32} (h : same S S1 b) (hb : b ≠ a) : same S (sI S1 a k v) b := h.tr ⟨rfl, rfl, fun _ => gI_a hb, fun _ => rfl, fun _ => rfl⟩
theorem same.J {v : Int64} (h : same S S1 b) (hb : b ≠ a) : same S (sJ S1 a k v) b := h.tr ⟨rfl, rfl, fun _ => rfl, fun _ => gJ_a hb, fun _ => rfl⟩
theorem same.R {v : Option Nat} (h : same S S1 b) (hb : b ≠ a) : same S (sR S1 a k v) b := h.tr ⟨rfl, rfl, fun _ => rfl, fun _ => rfl, fun _ => rR (Or.inr hb) rfl⟩
theorem same.W {n : Nat} {f : Nat → Option Nat} (h : same S S1 b) (hb : b ≠ a) : same S (sRow S1 a n f) b := h.tr ⟨rfl, rfl, fun _ => rfl, fun _ => rfl, fun _ => by rw [gR_sRow, if_neg hb]⟩
theorem same.mkL (h : same S S1 b) (hb : b ≠ a) (hz : b ≠ z) : same S (mkLetter S1 a z un) b := same.W (same.R (same.R (same.N h hz) hb) hb) hz
theorem same.mkN (h : same S S1 b) (hb : b ≠ a) (hz : b ≠ z) : same S (mkNode S1 a z un) b := same.W (same.R (same.N (same.I h hb) hz) hb) hz
theorem same.mkI {v : Int32} (h : same S S1 b) (hb : b ≠ a) (hz : b ≠ z) : same S (mkIssuer S1 a z un v) b := same.W (same.R (same.I (same.J (same.R (same.N (same.I h hb) hz) hb) hb) hb) hb) hz
theorem iN0 {j : Nat} : gI (sN S a kd len) a j = 0 := by
  show va_up (gI S) a (fun _ => 0) a j = 0
  simp [va_up]
theorem jN0 {j : Nat} : gJ (sN S a kd len) a j = 0 := by
  show va_up (gJ S) a (fun _ => 0) a j = 0
  simp [va_up]
theorem rN0 {j : Nat} : gR (sN S a kd len) a j = none := by
  show va_up (gR S) a (fun _ => none) a j = none
  simp [va_up]
/-- a letter as it is made -/
def LF (S : gS) (a un : Nat) : Prop := gK S a = 3 ∧ gR S a 7 = some (a + 1) ∧ gK S (a + 1) = 15 ∧ gn S (a + 1) = 8 ∧ gR S a 6 = some un ∧ ∀ s, s < 8 → gR S (a + 1) s = some un
def IF (S : gS) (a un : Nat) (v : Int32) : Prop := gK S a = 2 ∧ gR S a 1 = some un ∧ gR S a 8 = some (a + 1) ∧ gK S (a + 1) = 15 ∧ gn S (a + 1) = 8 ∧ (∀ s, s < 8 → gR S (a + 1) s = some un) ∧ gR S a 9 = none ∧ gR S a 11 = none ∧ gI S a 0 = v ∧ (∀ j, j ≠ 0 → gI S a j = 0) ∧ gJ S a 12 = -1 ∧ ∀ j, j ≠ 12 → gJ S a j = 0
def NF (S : gS) (a un : Nat) : Prop := gK S a = 4 ∧ gR S a 2 = some (a + 1) ∧ gK S (a + 1) = 15 ∧ gn S (a + 1) = 8 ∧ (∀ s, s < 8 → gR S (a + 1) s = some un) ∧ gI S a 0 = 1 ∧ gI S a 1 = 0
theorem LF.go (h : LF S a un) (h1 : same S S1 a) (h2 : same S S1 (a + 1)) : LF S1 a un := by
  obtain ⟨a1, a2, a3, a4, a5, a6⟩ := h
  exact ⟨h1.1.trans a1, (h1.2.2.2.2 7).trans a2, h2.1.trans a3, h2.2.1.trans a4, (h1.2.2.2.2 6).trans a5, fun s hs => (h2.2.2.2.2 s).trans (a6 s hs)⟩
theorem IF.go {v : Int32} (h : IF S a un v) (h1 : same S S1 a) (h2 : same S S1 (a + 1)) : IF S1 a un v := by
  obtain ⟨a1, a2, a3, a4, a5, a6, a7, a8, a9, a10, a11, a12⟩ := h
  exact ⟨h1.1.trans a1, (h1.2.2.2.2 1).trans a2, (h1.2.2.2.2 8).trans a3, h2.1.trans a4, h2.2.1.trans a5, fun s hs => (h2.2.2.2.2 s).trans (a6 s hs), (h1.2.2.2.2 9).trans a7, (h1.2.2.2.2 11).trans a8, (h1.2.2.1 0).trans a9, fun j hj => (h1.2.2.1 j).trans (a10 j hj), (h1.2.2.2.1 12).trans a11, fun j hj => (h1.2.2.2.1 j).trans (a12 j hj)⟩
theorem NF.go (h : NF S a un) (h1 : same S S1 a) (h2 : same S S1 (a + 1)) : NF S1 a un := by
  obtain ⟨a1, a2, a3, a4, a5, a6, a7⟩ := h
  exact ⟨h1.1.trans a1, (h1.2.2.2.2 2).trans a2, h2.1.trans a3, h2.2.1.trans a4, fun s hs => (h2.2.2.2.2 s).trans (a5 s hs), (h1.2.2.1 0).trans a6, (h1.2.2.1 1).trans a7⟩
theorem LF.mk : LF (mkLetter (sN S a 3 0) a (a + 1) un) a un := by
  unfold mkLetter
  refine ⟨kW (kR (kR (kN (by omega) kN_s))), ?_, kW (kR (kR kN_s)), nW' (nR' (nR' nN_s)), ?_, fun s hs => ?_⟩
  · rw [gR_sRow, if_neg (by omega)]; exact rR (Or.inl (by decide)) gR_s
  · rw [gR_sRow, if_neg (by omega)]; exact gR_s
  · rw [gR_sRow, if_pos rfl, if_pos hs]
theorem NF.mk : NF (mkNode (sN S a 4 0) a (a + 1) un) a un := by
  unfold mkNode
  refine ⟨kW (kR (kN (by omega) (kI kN_s))), ?_, kW (kR kN_s), nW' (nR' nN_s), fun s hs => ?_, ?_, ?_⟩
  · rw [gR_sRow, if_neg (by omega)]; exact gR_s
  · rw [gR_sRow, if_pos rfl, if_pos hs]
  · rw [gI_sRow, gI_sR, gI_N (by omega), gI_s]
  · rw [gI_sRow, gI_sR, gI_N (by omega), gI_k (by decide), iN0]
theorem IF.mk {v : Int32} : IF (mkIssuer (sN S a 2 0) a (a + 1) un v) a un v := by
  unfold mkIssuer
  refine ⟨kW (kR (kI (kJ (kR (kN (by omega) (kI kN_s)))))), ?_, ?_, kW (kR (kI (kJ (kR kN_s)))), nW' (nR' (nI' (nJ' (nR' nN_s)))), fun s hs => ?_, ?_, ?_, ?_, fun j hj => ?_, ?_, fun j hj => ?_⟩
  · rw [gR_sRow, if_neg (by omega)]; exact gR_s
  · rw [gR_sRow, if_neg (by omega)]; exact rR (Or.inl (by decide)) (rI (rJ gR_s))
  · rw [gR_sRow, if_pos rfl, if_pos hs]
  · rw [gR_sRow, if_neg (by omega)]; exact rR (Or.inl (by decide)) (rI (rJ (rR (Or.inl (by decide)) (rN (by omega) (rI rN0)))))
  · rw [gR_sRow, if_neg (by omega)]; exact rR (Or.inl (by decide)) (rI (rJ (rR (Or.inl (by decide)) (rN (by omega) (rI rN0)))))
  · rw [gI_sRow, gI_sR, gI_s]
  · rw [gI_sRow, gI_sR, gI_k hj, gI_sJ, gI_sR, gI_N (by omega), gI_sI, iN0]
    split
    · split <;> rfl
    · rfl
  · rw [gJ_sRow, gJ_sR, gJ_sI, gJ_s]
  · rw [gJ_sRow, gJ_sR, gJ_sI, gJ_k hj, gJ_sR, gJ_N (by omega), gJ_sI, jN0]
end SAM
section INI
variable {S : gS} {x : Nat}
/-! the post's 91 letters -/
theorem pI_1 {a z un b k : Nat} (h1 : b ≠ z) (h2 : b ≠ z + 1 + 2 * k) (h3 : b ≠ z + 1 + 2 * k + 1) : same (pIni S a z un k) (pIni S a z un (k + 1)) b := same.R (same.mkL (same.N same.rf h2) h2 h3) h1
theorem pI_d {a z un b k : Nat} (h1 : b ≠ z) (h2 : b < z + 1 + 2 * k) : ∀ d, same (pIni S a z un k) (pIni S a z un (k + d)) b
  | 0 => same.rf
  | d + 1 => (pI_d h1 h2 d).tr (pI_1 h1 (by omega) (by omega))
theorem pI_L {a z un k : Nat} (hk : k < 91) : LF (pIni S a z un 91) (z + 1 + 2 * k) un := by
  have h1 : LF (pIni S a z un (k + 1)) (z + 1 + 2 * k) un := LF.go LF.mk (same.R same.rf (by omega)) (same.R same.rf (by omega))
  have h2 := pI_d (S := S) (a := a) (z := z) (un := un) (b := z + 1 + 2 * k) (k := k + 1) (by omega) (by omega) (91 - (k + 1))
  have h3 := pI_d (S := S) (a := a) (z := z) (un := un) (b := z + 1 + 2 * k + 1) (k := k + 1) (by omega) (by omega) (91 - (k + 1))
  rw [show k + 1 + (91 - (k + 1)) = 91 by omega] at h2 h3
  exact h1.go h2 h3
theorem pI_R {a z un k : Nat} (ha : a ≠ z) : ∀ d, gR (pIni S a z un (k + 1 + d)) z k = some (z + 1 + 2 * k)
  | 0 => gR_s
  | d + 1 => by
    have h : gR (pIni S a z un (k + 1 + d)) z k = some (z + 1 + 2 * k) := pI_R ha d
    show gR (sR (mkLetter (sN (pIni S a z un (k + 1 + d)) (z + 1 + 2 * (k + 1 + d)) 3 0) (z + 1 + 2 * (k + 1 + d)) (z + 1 + 2 * (k + 1 + d) + 1) un) z (k + 1 + d) (some (z + 1 + 2 * (k + 1 + d)))) z k = _
    refine rR (Or.inl (by omega)) ?_
    exact ((same.mkL (S := pIni S a z un (k + 1 + d)) (same.N same.rf (by omega)) (by omega) (by omega)).2.2.2.2 k).trans h
/-- the issuers and the nodes -/
theorem iI_1 {b i : Nat} (h1 : b ≠ x + 1) (h2 : b ≠ x + 188 + 2 * i) (h3 : b ≠ x + 188 + 2 * i + 1) : same (iIni S x i) (iIni S x (i + 1)) b := same.R (same.mkI (same.N same.rf h2) h2 h3) h1
theorem iI_d {b i : Nat} (h1 : b ≠ x + 1) (h2 : b < x + 188 + 2 * i) : ∀ d, same (iIni S x i) (iIni S x (i + d)) b
  | 0 => same.rf
  | d + 1 => (iI_d h1 h2 d).tr (iI_1 h1 (by omega) (by omega))
theorem iI_R {i : Nat} : ∀ d, gR (iIni S x (i + 1 + d)) (x + 1) i = some (x + 188 + 2 * i)
  | 0 => gR_s
  | d + 1 => by
    have h : gR (iIni S x (i + 1 + d)) (x + 1) i = some (x + 188 + 2 * i) := iI_R d
    show gR (sR (mkIssuer (sN (iIni S x (i + 1 + d)) (x + 188 + 2 * (i + 1 + d)) 2 0) (x + 188 + 2 * (i + 1 + d)) (x + 188 + 2 * (i + 1 + d) + 1) (x + 3) (nI (i + 1 + d))) (x + 1) (i + 1 + d) (some (x + 188 + 2 * (i + 1 + d)))) (x + 1) i = _
    refine rR (Or.inl (by omega)) ?_
    exact ((same.mkI (S := iIni S x (i + 1 + d)) (same.N same.rf (by omega)) (by omega) (by omega)).2.2.2.2 i).trans h
theorem iI_F {i : Nat} (hi : i < 8) : IF (iIni S x 8) (x + 188 + 2 * i) (x + 3) (nI i) := by
  have h1 : IF (iIni S x (i + 1)) (x + 188 + 2 * i) (x + 3) (nI i) := IF.go IF.mk (same.R same.rf (by omega)) (same.R same.rf (by omega))
  have h2 := iI_d (S := S) (x := x) (b := x + 188 + 2 * i) (i := i + 1) (by omega) (by omega) (8 - (i + 1))
  have h3 := iI_d (S := S) (x := x) (b := x + 188 + 2 * i + 1) (i := i + 1) (by omega) (by omega) (8 - (i + 1))
  rw [show i + 1 + (8 - (i + 1)) = 8 by omega] at h2 h3
  exact h1.go h2 h3
theorem nI_1' {b n : Nat} (h1 : b ≠ x + 2) (h2 : b ≠ x + 204 + 2 * n) (h3 : b ≠ x + 204 + 2 * n + 1) : same (nIni S x n) (nIni S x (n + 1)) b := same.R (same.mkN (same.N same.rf h2) h2 h3) h1
theorem nI_d {b n : Nat} (h1 : b ≠ x + 2) (h2 : b < x + 204 + 2 * n) : ∀ d, same (nIni S x n) (nIni S x (n + d)) b
  | 0 => same.rf
  | d + 1 => (nI_d h1 h2 d).tr (nI_1' h1 (by omega) (by omega))
theorem nI_R {n : Nat} : ∀ d, gR (nIni S x (n + 1 + d)) (x + 2) n = some (x + 204 + 2 * n)
  | 0 => gR_s
  | d + 1 => by
    have h : gR (nIni S x (n + 1 + d)) (x + 2) n = some (x + 204 + 2 * n) := nI_R d
    show gR (sR (mkNode (sN (nIni S x (n + 1 + d)) (x + 204 + 2 * (n + 1 + d)) 4 0) (x + 204 + 2 * (n + 1 + d)) (x + 204 + 2 * (n + 1 + d) + 1) (x + 3)) (x + 2) (n + 1 + d) (some (x + 204 + 2 * (n + 1 + d)))) (x + 2) n = _
    refine rR (Or.inl (by omega)) ?_
    exact ((same.mkN (S := nIni S x (n + 1 + d)) (same.N same.rf (by omega)) (by omega) (by omega)).2.2.2.2 n).trans h
theorem nI_F {n : Nat} (hn : n < 5) : NF (nIni S x 5) (x + 204 + 2 * n) (x + 3) := by
  have h1 : NF (nIni S x (n + 1)) (x + 204 + 2 * n) (x + 3) := NF.go NF.mk (same.R same.rf (by omega)) (same.R same.rf (by omega))
  have h2 := nI_d (S := S) (x := x) (b := x + 204 + 2 * n) (n := n + 1) (by omega) (by omega) (5 - (n + 1))
  have h3 := nI_d (S := S) (x := x) (b := x + 204 + 2 * n + 1) (n := n + 1) (by omega) (by omega) (5 - (n + 1))
  rw [show n + 1 + (5 - (n + 1)) = 5 by omega] at h2 h3
  exact h1.go h2 h3
/-- from the issuers' start on -/
theorem up_3 {b : Nat} (h1 : b ≠ x + 1) (h2 : b ≠ x + 2) (h3 : b < x + 188) : same (h3S S x) (nIni S x 5) b := by
  have a1 := iI_d (S := S) (x := x) (b := b) (i := 0) h1 (by omega) 8
  have a2 := nI_d (S := S) (x := x) (b := b) (n := 0) h2 (by omega) 5
  exact a1.tr a2
theorem up_8 {b : Nat} (h2 : b ≠ x + 2) (h3 : b < x + 204) : same (iIni S x 8) (nIni S x 5) b := nI_d (S := S) (x := x) (b := b) (n := 0) h2 (by omega) 5
end INI
