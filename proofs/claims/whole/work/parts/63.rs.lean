set_option linter.constructorNameAsVariable false
/-! The relation of the class's cells and the model's. -/
def VL (S : gS) (x : Nat) (pm : Nat → Nat) : Nat → CL := fun k => cl S (x + 6 + 2 * pm k)
def VI (S : gS) (x : Nat) : Nat → CI := fun i => ci S (x + 188 + 2 * i)
def VN (S : gS) (x : Nat) : Nat → CN := fun n => cn S (x + 204 + 2 * n)
def RS (S T : gS) (x o : Nat) (pm : Nat → Nat) (L t J : Nat) (G : Nat → R3) : Prop :=
  CSt S x pm ∧ gI S (x + 4) 1 = nI L ∧ mOK T o ∧ gI T o 1 = nI L ∧ gI T o 10 = nI t ∧ RV (VL S x pm) (VI S x) (VN S x) (ml T o) (mi T o) (mn T o) (ms T o) L t J G
section MV
variable {T : gS} {o L i0 j k n t a0 : Nat} {v kd is nd bl ex w1 w2 w3 w4 w5 : Int32} {u : Int64}
/-! The model's values behind a write. -/
theorem ml_o {f : Nat} : ml (sI T o f v) o = ml T o := by funext k; simp [ml, gI_sI, gJ_sI]
theorem mi_o {f : Nat} : mi (sI T o f v) o = mi T o := by funext k; simp [mi, gI_sI, gJ_sI]
theorem mn_o {f : Nat} : mn (sI T o f v) o = mn T o := by funext k; simp [mn, gI_sI]
theorem ms_o {f : Nat} : ms (sI T o f v) o = ms T o := by funext k; simp [ms, gI_sI, gJ_sI]
theorem ml_I {f : Nat} (hf : 8 < f) : ml (sI T (o + f) j v) o = ml T o := by
  funext k; simp only [ml, gI_sI, gJ_sI, Nat.add_left_cancel_iff]; simp (discharger := omega) only [show ¬ (1 = f) by omega, show ¬ (2 = f) by omega, show ¬ (3 = f) by omega, show ¬ (4 = f) by omega, show ¬ (5 = f) by omega, show ¬ (6 = f) by omega, show ¬ (8 = f) by omega, if_false, ite_self]
theorem ml_J {f : Nat} (hf : 8 < f) : ml (sJ T (o + f) j u) o = ml T o := by
  funext k; simp only [ml, gJ_sJ, gI_sJ, Nat.add_left_cancel_iff, show ¬ (7 = f) by omega, if_false, ite_self]
theorem mn_I {f : Nat} (h5 : f ≠ 15) (h6 : f ≠ 16) : mn (sI T (o + f) j v) o = mn T o := by
  funext k; simp only [mn, gI_sI, Nat.add_left_cancel_iff, show ¬ (15 = f) by omega, show ¬ (16 = f) by omega, if_false, ite_self]
theorem mn_J {f : Nat} : mn (sJ T (o + f) j u) o = mn T o := rfl
theorem ms_I {f : Nat} (hf : f < 9 ∨ 14 < f) : ms (sI T (o + f) j v) o = ms T o := by
  funext k; simp only [ms, gI_sI, gJ_sI, Nat.add_left_cancel_iff, show ¬ (9 = f) by omega, show ¬ (10 = f) by omega, show ¬ (11 = f) by omega, show ¬ (12 = f) by omega, show ¬ (13 = f) by omega, if_false, ite_self]
theorem ms_J {f : Nat} (hf : f ≠ 14) : ms (sJ T (o + f) j u) o = ms T o := by
  funext k; simp only [ms, gJ_sJ, gI_sJ, Nat.add_left_cancel_iff, show ¬ (14 = f) by omega, if_false, ite_self]
theorem mi_I {f : Nat} (hf : f < 18) : mi (sI T (o + f) j v) o = mi T o := by
  funext k; simp only [mi, gI_sI, gJ_sI, Nat.add_left_cancel_iff, show ¬ (18 = f) by omega, show ¬ (19 = f) by omega, show ¬ (20 = f) by omega, show ¬ (21 = f) by omega, show ¬ (22 = f) by omega, show ¬ (23 = f) by omega, show ¬ (24 = f) by omega, show ¬ (25 = f) by omega, show ¬ (27 = f) by omega, show ¬ (28 = f) by omega, show ¬ (29 = f) by omega, show ¬ (32 = f) by omega, show ¬ (33 = f) by omega, if_false, ite_self]
theorem mi_J {f : Nat} (hf : f < 17) : mi (sJ T (o + f) j u) o = mi T o := by
  funext k; simp only [mi, gJ_sJ, gI_sJ, Nat.add_left_cancel_iff, show ¬ (17 = f) by omega, show ¬ (26 = f) by omega, show ¬ (30 = f) by omega, show ¬ (31 = f) by omega, show ¬ (34 = f) by omega, if_false, ite_self]
theorem mi_Ij {f : Nat} (h2 : f ≠ 22) (h3 : f ≠ 23) (h : k ≠ j) : mi (sI T (o + f) j v) o k = mi T o k := by
  simp only [mi, gI_sI, gJ_sI, Nat.add_left_cancel_iff, show ¬ (22 = f) by omega, show ¬ (23 = f) by omega, if_neg h, if_false, ite_self]
theorem mi_Jj {f : Nat} (h : k ≠ j) : mi (sJ T (o + f) j u) o k = mi T o k := by
  simp only [mi, gJ_sJ, gI_sJ, if_neg h]
theorem mi_I5 {f : Nat} (h3 : f = 22 ∨ f = 23) (hk : k ≠ i0) (hn : n < 5) : mi (sI T (o + f) (5 * i0 + n) v) o k = mi T o k := by
  have e : ∀ m, m < 5 → ¬ (5 * k + m = 5 * i0 + n) := fun m hm => by omega
  simp only [mi, gI_sI, gJ_sI, Nat.add_left_cancel_iff, show ¬ (18 = f) by omega, show ¬ (19 = f) by omega, show ¬ (20 = f) by omega, show ¬ (21 = f) by omega, show ¬ (24 = f) by omega, show ¬ (25 = f) by omega, show ¬ (27 = f) by omega, show ¬ (28 = f) by omega, show ¬ (29 = f) by omega, show ¬ (32 = f) by omega, show ¬ (33 = f) by omega, if_false, ite_self]
  rcases h3 with rfl | rfl
  · simp only [Prod.mk.injEq, true_and, and_true, show ¬ (23 = 22) by decide, if_false, ite_self]
    funext m; split
    · rename_i hm; rw [if_neg (e m hm)]
    · rfl
  · simp only [Prod.mk.injEq, true_and, and_true, show ¬ (22 = 23) by decide, if_false, ite_self]
    funext m; split
    · rename_i hm; rw [if_neg (e m hm)]
    · rfl
theorem sc_I {f g b : Nat} (hf : 0 < f) : gI (sI T (o + f) j v) o b = gI T o b := gI_a (by omega)
end MV
