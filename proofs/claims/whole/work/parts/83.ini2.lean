set_option linter.constructorNameAsVariable false
def iniB (x : Nat) : gS := nIni (sN gS0 x 7 0) x 5
def iniF (x : Nat) : gS := sN (mIniN (sN (iniB x) (x + 214) 8 0) (x + 214) 34) (x + 249) 10 1
section INF
variable {x : Nat}
theorem in_low {b : Nat} (hb : b < x + 214) : same (iniB x) (iniF x) b := by
  refine same.N (same.tr (same.N same.rf (by omega)) ⟨mIniK rfl (by omega) 34 (Nat.le_refl _), mIni_n (by omega) 34 (Nat.le_refl _), fun _ => mIni_I (by omega) 34 (Nat.le_refl _), fun _ => mIni_J (by omega) 34 (Nat.le_refl _), fun _ => mIni_Rb (by omega) 34 (Nat.le_refl _)⟩) (by omega)
theorem in_3 {b : Nat} (h1 : b ≠ x + 1) (h2 : b ≠ x + 2) (h3 : b < x + 188) : same (h3S (sN gS0 x 7 0) x) (iniF x) b := (up_3 h1 h2 h3).tr (in_low (by omega))
theorem in_p {b : Nat} (h0 : b ≠ x) (h1 : b ≠ x + 1) (h2 : b ≠ x + 2) (h3 : b < x + 188) : same (pIni (sN (h2S (sN gS0 x 7 0) x) (x + 4) 5 0) (x + 4) (x + 5) (x + 3) 91) (iniF x) b := (same.R same.rf h0).tr (in_3 h1 h2 h3)
theorem in_lay : hLay (iniF x) x := by
  obtain ⟨a1, a2, a3, a4, a5, a6, a7, a8, a9⟩ := hLay_n (S := sN gS0 x 7 0) (x := x) kN_s 5
  have h0 := in_low (x := x) (b := x) (by omega)
  have h1 := in_low (x := x) (b := x + 1) (by omega)
  have h2 := in_low (x := x) (b := x + 2) (by omega)
  have h3 := in_low (x := x) (b := x + 3) (by omega)
  exact ⟨h0.1.trans a1, (h0.2.2.2.2 0).trans a2, (h0.2.2.2.2 1).trans a3, (h0.2.2.2.2 2).trans a4, h1.1.trans a5, h1.2.1.trans a6, h2.1.trans a7, h2.2.1.trans a8, h3.1.trans a9⟩
theorem in_u : rcS (iniF x) (x + 3) = u4 := by
  have h := in_p (x := x) (b := x + 3) (by omega) (by omega) (by omega) (by omega)
  have h2 : same (h2S (sN gS0 x 7 0) x) (pIni (sN (h2S (sN gS0 x 7 0) x) (x + 4) 5 0) (x + 4) (x + 5) (x + 3) 91) (x + 3) := by
    have a1 : same (h2S (sN gS0 x 7 0) x) (pIni (sN (h2S (sN gS0 x 7 0) x) (x + 4) 5 0) (x + 4) (x + 5) (x + 3) 0) (x + 3) := same.R (same.N (same.N same.rf (by omega)) (by omega)) (by omega)
    have a2 := pI_d (S := sN (h2S (sN gS0 x 7 0) x) (x + 4) 5 0) (a := x + 4) (z := x + 5) (un := x + 3) (b := x + 3) (k := 0) (by omega) (by omega) 91
    exact a1.tr a2
  have h3 := h2.tr h
  unfold rcS
  rw [h3.2.2.1, h3.2.2.1, h3.2.2.1, h3.2.2.2.1]
  unfold h2S
  rw [gI_sR, gI_sJ, gI_k (by decide), gI_k (by decide), gI_s, gI_k (by decide), gI_s, gI_s, gJ_sR, gJ_s]
  rfl
theorem in_base : cBase (iniF x) x := by
  have h := in_3 (x := x) (b := x) (by omega) (by omega) (by omega)
  have h4 := in_p (x := x) (b := x + 4) (by omega) (by omega) (by omega) (by omega)
  have h5 := in_p (x := x) (b := x + 5) (by omega) (by omega) (by omega) (by omega)
  exact ⟨in_lay, in_u, (h.2.2.2.2 3).trans gR_s, h4.1.trans (pIni_K (by omega) kN_s 91), (h4.2.2.2.2 0).trans (pIni_pR (by omega) 91), h5.1.trans (pIni_pK 91), h5.2.1.trans (pIni_pn 91)⟩
theorem in_k3 : gK (iniF x) (x + 3) = 6 := in_lay.2.2.2.2.2.2.2.2
theorem in_rw {a s : Nat} (h : gR (iniF x) a s = some (x + 3)) : rwA (iniF x) a s ∧ cr (iniF x) a s = x + 3 := by
  have e : cr (iniF x) a s = x + 3 := by unfold cr; rw [h]; rfl
  exact ⟨⟨by rw [e]; exact h, by rw [e]; exact in_k3⟩, e⟩
theorem in_rv {a : Nat} (h : ∀ s, s < 8 → gR (iniF x) a s = some (x + 3)) : rv (iniF x) a = fun _ => u4 := by
  funext s
  unfold rv
  split
  · rename_i hs
    rw [(in_rw (h s hs)).2]; exact in_u
  · rfl
theorem in_lt {q : Nat} (hq : q < 91) : cLt (iniF x) x q := by
  have h : LF (pIni (sN (h2S (sN gS0 x 7 0) x) (x + 4) 5 0) (x + 4) (x + 5) (x + 3) 91) (x + 5 + 1 + 2 * q) (x + 3) := pI_L hq
  rw [show x + 5 + 1 + 2 * q = x + 6 + 2 * q by omega] at h
  obtain ⟨a1, a2, a3, a4, a5, a6⟩ := h.go (in_p (by omega) (by omega) (by omega) (by omega)) (in_p (by omega) (by omega) (by omega) (by omega))
  exact ⟨a1, a2, a3, a4, (in_rw a5).1, fun s hs => (in_rw (a6 s hs)).1⟩
theorem in_pm {k : Nat} (hk : k < 91) : gR (iniF x) (x + 5) k = some (x + 6 + 2 * k) := by
  have h := in_p (x := x) (b := x + 5) (by omega) (by omega) (by omega) (by omega)
  have h2 := pI_R (S := sN (h2S (sN gS0 x 7 0) x) (x + 4) 5 0) (a := x + 4) (z := x + 5) (un := x + 3) (k := k) (by omega) (90 - k)
  rw [show k + 1 + (90 - k) = 91 by omega] at h2
  rw [h.2.2.2.2 k, h2]
theorem in_if {i : Nat} (hi : i < 8) : IF (iniF x) (x + 188 + 2 * i) (x + 3) (nI i) := (iI_F hi).go ((up_8 (by omega) (by omega)).tr (in_low (by omega))) ((up_8 (by omega) (by omega)).tr (in_low (by omega)))
theorem in_is {i : Nat} (hi : i < 8) : cIs (iniF x) x i := by
  obtain ⟨a1, a2, a3, a4, a5, a6, a7, a8, a9, a10, a11, a12⟩ := in_if (x := x) hi
  have h1 : gR (iniF x) (x + 1) i = some (x + 188 + 2 * i) := by
    have h := iI_R (S := sN gS0 x 7 0) (x := x) (i := i) (7 - i)
    rw [show i + 1 + (7 - i) = 8 by omega] at h
    rw [((up_8 (S := sN gS0 x 7 0) (x := x) (b := x + 1) (by omega) (by omega)).tr (in_low (by omega))).2.2.2.2 i, h]
  exact ⟨h1, a1, a2, a3, a4, a5, fun s hs => (in_rw (a6 s hs)).1, Or.inl a7, Or.inl a8⟩
theorem in_nf {n : Nat} (hn : n < 5) : NF (iniF x) (x + 204 + 2 * n) (x + 3) := (nI_F hn).go (in_low (by omega)) (in_low (by omega))
theorem in_nd {n : Nat} (hn : n < 5) : cNd (iniF x) x n := by
  obtain ⟨a1, a2, a3, a4, a5, a6, a7⟩ := in_nf (x := x) hn
  have h1 : gR (iniF x) (x + 2) n = some (x + 204 + 2 * n) := by
    have h := nI_R (S := sN gS0 x 7 0) (x := x) (n := n) (4 - n)
    rw [show n + 1 + (4 - n) = 5 by omega] at h
    rw [(in_low (x := x) (b := x + 2) (by omega)).2.2.2.2 n]
    exact h
  exact ⟨h1, a1, a2, a3, a4, fun s hs => (in_rw (a5 s hs)).1⟩
/-! the model's -/
theorem in_m {f j : Nat} (h1 : 1 ≤ f) (h2 : f ≤ 34) : gI (iniF x) (x + 214 + f) j = 0 ∧ gJ (iniF x) (x + 214 + f) j = 0 := by
  have h := mIni_0 (S := sN (iniB x) (x + 214) 8 0) (o := x + 214) (q := f - 1) (j := j) (by omega) (34 - f) (by omega)
  rw [show f - 1 + 1 + (34 - f) = 34 by omega, show f - 1 + 1 = f by omega] at h
  unfold iniF
  rw [gI_N (by omega), gJ_N (by omega)]
  exact h
theorem in_o {j : Nat} : gI (iniF x) (x + 214) j = 0 := by
  unfold iniF
  rw [gI_N (by omega), mIni_I (Nat.le_refl _) 34 (Nat.le_refl _), iN0]
theorem in_ok : mOK (iniF x) (x + 214) := by
  have h := mIni_ok (S := sN (iniB x) (x + 214) 8 0) (o := x + 214) kN_s
  refine ⟨kN (by omega) h.1, fun t ht => ?_⟩
  obtain ⟨b1, b2, b3⟩ := h.2 t ht
  have hf : t.2.1 ≤ 34 := by
    have : ∀ t ∈ mTab, t.2.1 ≤ 34 := by decide
    exact this t ht
  exact ⟨rN (by omega) b1, kN (by omega) b2, nN' (by omega) b3⟩
theorem in_mi {i : Nat} : mi (iniF x) (x + 214) i = (0, 0, 0, 0, 0, fun _ => 0, fun _ => 0, 0, 0, 0, 0, 0, 0, 0, 0, 0, 0, 0) := by
  unfold mi
  simp only [(in_m (x := x) (f := 17) (by decide) (by decide)).2, (in_m (x := x) (f := 18) (by decide) (by decide)).1, (in_m (x := x) (f := 19) (by decide) (by decide)).1, (in_m (x := x) (f := 20) (by decide) (by decide)).1, (in_m (x := x) (f := 21) (by decide) (by decide)).1, (in_m (x := x) (f := 22) (by decide) (by decide)).1, (in_m (x := x) (f := 23) (by decide) (by decide)).1, (in_m (x := x) (f := 24) (by decide) (by decide)).1, (in_m (x := x) (f := 25) (by decide) (by decide)).1, (in_m (x := x) (f := 26) (by decide) (by decide)).2, (in_m (x := x) (f := 27) (by decide) (by decide)).1, (in_m (x := x) (f := 28) (by decide) (by decide)).1, (in_m (x := x) (f := 29) (by decide) (by decide)).1, (in_m (x := x) (f := 30) (by decide) (by decide)).2, (in_m (x := x) (f := 31) (by decide) (by decide)).2, (in_m (x := x) (f := 32) (by decide) (by decide)).1, (in_m (x := x) (f := 33) (by decide) (by decide)).1, (in_m (x := x) (f := 34) (by decide) (by decide)).2, ite_self]
theorem in_mn {n : Nat} : mn (iniF x) (x + 214) n = (0, 0) := by
  unfold mn
  rw [(in_m (x := x) (f := 15) (by decide) (by decide)).1, (in_m (x := x) (f := 16) (by decide) (by decide)).1]
theorem li_0 : LI x 0 (iniF x) := by
  refine ⟨fun k => if k < 91 then k else 0, 0, 0, fun _ => (0, 0, 0), ⟨⟨in_base, fun q hq => in_lt hq, fun i hi => in_is hi, fun n hn => in_nd hn, fun k => by dsimp only; split <;> omega, fun i j hi hj e => ?_, fun k hk => ?_⟩, ?_, in_ok, in_o, in_o, ?_⟩, kN_s, nN_s⟩
  · dsimp only at e; rw [if_pos hi, if_pos hj] at e; exact e
  · dsimp only; rw [if_pos hk]; exact in_pm hk
  · have h4 := in_p (x := x) (b := x + 4) (by omega) (by omega) (by omega) (by omega)
    have a2 := pI_d (S := sN (h2S (sN gS0 x 7 0) x) (x + 4) 5 0) (a := x + 4) (z := x + 5) (un := x + 3) (b := x + 4) (k := 0) (by omega) (by omega) 91
    rw [h4.2.2.1 1, show (91 : Nat) = 0 + 91 from rfl, a2.2.2.1 1]
    unfold pIni
    rw [gI_sR, gI_N (by omega), iN0]
    rfl
  · refine ⟨Nat.zero_le _, Nat.le_refl _, by decide, fun k hk => absurd hk (by omega), fun i hi => ?_, fun n hn => ?_, fun j hj => absurd hj (by omega), fun b => (⟨by decide, by decide⟩ : inT 0)⟩
    · obtain ⟨a1, a2, a3, a4, a5, a6, a7, a8, a9, a10, a11, a12⟩ := in_if (x := x) hi
      refine ⟨0, -1, 0, 0, 0, 0, 0, 0, 0, 0, 0, fun _ => u4, none, none, 0, fun _ => 0, fun _ => 0, 0, 0, 0, 0, 0, 0, 0, 0, 0, ci_mk a9 (a12 2 (by decide)) (a10 3 (by decide)) (a10 4 (by decide)) (a10 5 (by decide)) (a10 6 (by decide)) (a10 7 (by decide)) (in_rv a6) (by rw [a7]; rfl) (a10 10 (by decide)) (by rw [a8]; rfl) a11 (a10 13 (by decide)) (a12 14 (by decide)), in_mi, ⟨by decide, by decide⟩, Nat.le_refl _, Nat.le_refl _, Or.inr ⟨rfl, rfl⟩, Or.inl rfl, Or.inl ⟨rfl, rfl⟩, fun n hn => ⟨0, Nat.le_refl _, rfl⟩, fun q => absurd rfl q, fun q => absurd q (by decide), fun q => absurd q (by decide)⟩
    · obtain ⟨a1, a2, a3, a4, a5, a6, a7⟩ := in_nf (x := x) hn
      refine ⟨0, Nat.zero_le _, Or.inl ⟨cn_mk a6 a7 ((in_rv a5).trans ?_), in_mn⟩⟩
      funext s
      unfold rw8
      split <;> rfl
end INF
