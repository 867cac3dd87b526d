set_option linter.constructorNameAsVariable false
/-! Steps of the relation, of values. -/
section RVS
variable {cL cL1 : Nat → CL} {cI cI1 : Nat → CI} {cN cN1 : Nat → CN} {mL mL1 : Nat → ML} {mI mI1 : Nat → MI} {mN mN1 : Nat → Int32 × Int32} {st st1 : Nat → MS} {L L1 t J J1 : Nat} {G G1 : Nat → R3}
theorem EX.refl {att : Nat → Nat} {dg : Nat → Int32} (hJ : J ≤ J1) : EX att att dg dg st st t t J J1 G G := ⟨Nat.le_refl _, hJ, fun _ _ => rfl, fun _ _ => Or.inl ⟨rfl, id⟩, fun _ _ _ _ _ => rfl⟩
theorem RV.mono (h : RV cL cI cN mL mI mN st L t J G) (h1 : J ≤ J1) (h2 : J1 ≤ 512) : RV cL cI cN mL mI mN st L t J1 G := by
  obtain ⟨a1, a2, a3, a4, a5, a6, a7, a8⟩ := h
  exact ⟨a1, by omega, h2, fun k hk => (a4 k hk).ext (EX.refl h1), fun i hi => (a5 i hi).ext (Nat.le_refl _) h1 (by omega) (fun _ _ => rfl), fun n hn => (a6 n hn).ext h1 (fun _ _ => rfl), a7, a8⟩
/-- the same values -/
theorem RV.same (h : RV cL cI cN mL mI mN st L t J G) (e1 : ∀ k, k < L → cL1 k = cL k ∧ mL1 k = mL k) (e2 : ∀ i, i < 8 → cI1 i = cI i ∧ mI1 i = mI i) (e3 : ∀ n, n < 5 → cN1 n = cN n ∧ mN1 n = mN n) (e4 : ∀ j, j < t → st1 j = st j) : RV cL1 cI1 cN1 mL1 mI1 mN1 st1 L t J G := by
  obtain ⟨a1, a2, a3, a4, a5, a6, a7, a8⟩ := h
  have he : EX (attF mI) (attF mI1) (dgF mI) (dgF mI1) st st1 t t J J G G := ⟨Nat.le_refl _, Nat.le_refl _, e4, fun i hi => Or.inl ⟨by unfold attF; rw [(e2 i hi).2], fun q => by unfold dgF at q ⊢; rw [(e2 i hi).2] at q; exact q⟩, fun _ _ _ _ _ => rfl⟩
  refine ⟨a1, a2, a3, fun k hk => ?_, fun i hi => ?_, fun n hn => ?_, fun j hj => ?_, a8⟩
  · rw [(e1 k hk).1, (e1 k hk).2]; exact (a4 k hk).ext he
  · rw [(e2 i hi).1, (e2 i hi).2]; exact (a5 i hi).ext (Nat.le_refl _) (Nat.le_refl _) (by omega) e4
  · rw [(e3 n hn).1, (e3 n hn).2]; exact (a6 n hn).ext (Nat.le_refl _) e4
  · rw [e4 j hj]; exact (a7 j hj).ext he
/-- other letters -/
theorem RV.lets (h : RV cL cI cN mL mI mN st L t J G) (hL : L1 ≤ 90) (e : ∀ k, k < L1 → LQ (cL1 k) (mL1 k) (attF mI) (dgF mI) st t J G) : RV cL1 cI cN mL1 mI mN st L1 t J G := by
  obtain ⟨a1, a2, a3, a4, a5, a6, a7, a8⟩ := h
  exact ⟨hL, a2, a3, e, a5, a6, a7, a8⟩
theorem RV.remove (h : RV cL cI cN mL mI mN st L t J G) {k : Nat} (hk : k < L) (e : ∀ j, j < L - 1 → cL1 j = cL (if j < k then j else j + 1) ∧ mL1 j = mL (if j < k then j else j + 1)) : RV cL1 cI cN mL1 mI mN st (L - 1) t J G := by
  refine h.lets (by have := h.1; omega) (fun j hj => ?_)
  rw [(e j hj).1, (e j hj).2]
  exact h.2.2.2.1 _ (by split <;> omega)
theorem RV.send (h : RV cL cI cN mL mI mN st L t J G) (hL : L + 1 ≤ 90) (e : ∀ j, j < L → cL1 j = cL j ∧ mL1 j = mL j) (hn : LQ (cL1 L) (mL1 L) (attF mI) (dgF mI) st t J G) : RV cL1 cI cN mL1 mI mN st (L + 1) t J G := by
  refine h.lets hL (fun j hj => ?_)
  by_cases hjL : j = L
  · rw [hjL]; exact hn
  · rw [(e j (by omega)).1, (e j (by omega)).2]
    exact h.2.2.2.1 j (by omega)
/-- one issuer -/
theorem RV.iss (h : RV cL cI cN mL mI mN st L t J G) {i : Nat} (hi : i < 8) (hc : ∀ j, j < 8 → j ≠ i → cI1 j = cI j ∧ mI1 j = mI j) (hI : IQ (cI1 i) (mI1 i) i st t J) (hu : (attF mI1 i = attF mI i ∧ (dgF mI1 i = 1 → dgF mI i = 1)) ∨ attF mI i < attF mI1 i)
    (hG : ∀ i q, i < 8 → q ≤ attF mI i → ¬ (dgF mI i = 1 ∧ q = attF mI i) → G1 (8 * q + i) = G (8 * q + i)) (hGb : ∀ b, inT (G1 b).2.2) : RV cL cI1 cN mL mI1 mN st L t J G1 := by
  obtain ⟨a1, a2, a3, a4, a5, a6, a7, a8⟩ := h
  have he : EX (attF mI) (attF mI1) (dgF mI) (dgF mI1) st st t t J J G G1 := ⟨Nat.le_refl _, Nat.le_refl _, fun _ _ => rfl, fun j hj => by
    by_cases e : j = i
    · rw [e]; exact hu
    · exact Or.inl ⟨by unfold attF; rw [(hc j hj e).2], fun q => by unfold dgF at q ⊢; rw [(hc j hj e).2] at q; exact q⟩, hG⟩
  refine ⟨a1, a2, a3, fun k hk => (a4 k hk).ext he, fun j hj => ?_, a6, fun j hj => (a7 j hj).ext he, hGb⟩
  by_cases e : j = i
  · rw [e]; exact hI
  · rw [(hc j hj e).1, (hc j hj e).2]; exact a5 j hj
/-- one node -/
theorem RV.node (h : RV cL cI cN mL mI mN st L t J G) {n : Nat} (hc : ∀ j, j < 5 → j ≠ n → cN1 j = cN j ∧ mN1 j = mN j) (hN : NQ (cN1 n) (mN1 n) n st t J) : RV cL cI cN1 mL mI mN1 st L t J G := by
  obtain ⟨a1, a2, a3, a4, a5, a6, a7, a8⟩ := h
  refine ⟨a1, a2, a3, a4, a5, fun j hj => ?_, a7, a8⟩
  by_cases e : j = n
  · rw [e]; exact hN
  · rw [(hc j hj e).1, (hc j hj e).2]; exact a6 j hj
/-- one row more in the story, by node n -/
theorem RV.story (h : RV cL cI cN mL mI mN st L t J G) {n : Nat} (hn : n < 5) (ht : t + 1 ≤ J) (e4 : ∀ j, j < t → st1 j = st j) (hT : TQ (st1 t) (attF mI) (dgF mI) G) (hnn : (st1 t).1 = nI n) (hc : ∀ j, j < 5 → j ≠ n → cN1 j = cN j ∧ mN1 j = mN j) (hN : NQ (cN1 n) (mN1 n) n st1 (t + 1) J) : RV cL cI cN1 mL mI mN1 st1 L (t + 1) J G := by
  obtain ⟨a1, a2, a3, a4, a5, a6, a7, a8⟩ := h
  have he : EX (attF mI) (attF mI) (dgF mI) (dgF mI) st st1 t (t + 1) J J G G := ⟨by omega, Nat.le_refl _, e4, fun _ _ => Or.inl ⟨rfl, id⟩, fun _ _ _ _ _ => rfl⟩
  refine ⟨a1, ht, a3, fun k hk => (a4 k hk).ext he, fun i hi => (a5 i hi).ext (by omega) (Nat.le_refl _) (by omega) e4, fun j hj => ?_, fun j hj => ?_, a8⟩
  · by_cases e : j = n
    · rw [e]; exact hN
    · rw [(hc j hj e).1, (hc j hj e).2]
      obtain ⟨b, hb, hq⟩ := (a6 j hj).ext (Nat.le_refl _) e4
      refine ⟨b, hb, ?_⟩
      have hr : rw8 st1 j (t + 1) = rw8 st1 j t := by
        funext s
        unfold rw8
        rw [show rw1 st1 j s (t + 1) = rw1 st1 j s t from by
          rw [rw1]
          rw [if_neg (fun q => e ((nI_eq (by omega) (by omega)).mp (q.1.symm.trans hnn)))]]
      rw [hr]; exact hq
  · by_cases e : j = t
    · rw [e]; exact hT
    · rw [e4 j (by omega)]; exact a7 j (by omega)
end RVS
