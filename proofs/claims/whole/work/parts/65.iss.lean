set_option linter.constructorNameAsVariable false
/-! Steps of one issuer. -/
section IS
variable {S S1 T T1 : gS} {x o i : Nat} {pm : Nat → Nat} {L t J : Nat} {G G1 : Nat → R3}
def MA (x i : Nat) : Nat → Prop := fun b => b = x + 188 + 2 * i
def MB (x i : Nat) : Nat → Prop := fun b => b = x + 188 + 2 * i ∨ b = x + 188 + 2 * i + 1
theorem ma {x i : Nat} : MA x i (x + 188 + 2 * i) := rfl
theorem mb {x i : Nat} : MB x i (x + 188 + 2 * i) := Or.inl rfl
theorem mb1 {x i : Nat} : MB x i (x + 188 + 2 * i + 1) := Or.inr rfl
theorem kx_is (hc : cIs S x i) : KX (MA x i) (MB x i) S := fun b hb => by
  have k2 := hc.2.1
  have k3 := hc.2.2.2.2.1
  have : b = x + 188 + 2 * i ∨ b = x + 188 + 2 * i + 1 := by rcases hb with hb | hb | hb; exact Or.inl hb; exact Or.inl hb; exact Or.inr hb
  rcases this with rfl | rfl <;> omega
theorem to_grB {M Mr : Nat → Prop} (h : TO M Mr S S1) (hK : KX M Mr S) {a j : Nat} (e2 : gR S1 a j = gR S a j) (hr : grA S a j) : grA S1 a j ∧ (gR S1 a j).map (gvw S1) = (gR S a j).map (gvw S) := by
  have e : cr S1 a j = cr S a j := by unfold cr; rw [e2]
  rcases hr with hr | ⟨c1, c2, c3⟩
  · exact ⟨Or.inl (by rw [e2]; exact hr), by rw [e2, hr]; rfl⟩
  · obtain ⟨d1, d2, d3⟩ := to_gv h hK c2 c3
    exact ⟨Or.inr ⟨by rw [e, e2]; exact c1, by rw [e]; exact d2, by rw [e]; exact d3⟩, by rw [e2, c1]; show some _ = some _; rw [d1]⟩
theorem to_rwB {M Mr : Nat → Prop} (h : TO M Mr S S1) (hK : KX M Mr S) {a j : Nat} (e2 : gR S1 a j = gR S a j) (hr : rwA S a j) : rwA S1 a j ∧ rcS S1 (cr S1 a j) = rcS S (cr S a j) := by
  have e : cr S1 a j = cr S a j := by unfold cr; rw [e2]
  obtain ⟨b1, b2⟩ := to_rc h hK hr.2
  exact ⟨⟨by rw [e, e2]; exact hr.1, by rw [e]; exact b2⟩, by rw [e]; exact b1⟩
theorem to_rvB {M Mr : Nat → Prop} (h : TO M Mr S S1) (hK : KX M Mr S) {a : Nat} (e2 : ∀ s, s < 8 → gR S1 a s = gR S a s) (hr : ∀ s, s < 8 → rwA S a s) : rv S1 a = rv S a := by
  funext s
  unfold rv
  split
  · rename_i hs; exact (to_rwB h hK (e2 s hs) (hr s hs)).2
  · rfl
/-- an issuer's form, when its references are as they were but for wished and held -/
theorem is_go (hT : TO (MA x i) (MB x i) S S1) (hb : cBase S x) (hc : cIs S x i) (e1 : gR S1 (x + 188 + 2 * i) 1 = gR S (x + 188 + 2 * i) 1) (e8 : gR S1 (x + 188 + 2 * i) 8 = gR S (x + 188 + 2 * i) 8) (es : ∀ s, s < 8 → rwA S1 (x + 188 + 2 * i + 1) s) (h9 : grA S1 (x + 188 + 2 * i) 9) (h11 : grA S1 (x + 188 + 2 * i) 11) : cIs S1 x i := by
  obtain ⟨c1, c2, c3, c4, c5, c6, c7, c8, c9⟩ := hc
  have hk1 : gK S (x + 1) = 12 := hb.1.2.2.2.2.1
  exact ⟨((hT (x + 1) (by omega)).2.1 (fun q => by rcases q with q | q <;> omega) i).trans c1, (hT _ (by omega)).2.2.1.trans c2, e1.trans c3, e8.trans c4, (hT _ (by omega)).2.2.1.trans c5, (hT _ (by omega)).2.2.2.trans c6, es, h9, h11⟩
theorem ci_mk {a : Nat} {v0 v2 v3 v4 v5 v6 v9 v12 : Int32} {v1 v11 v13 : Int64} {v7 : Nat → R4} {v8 v10 : Option GV} (h0 : gI S a 0 = v0) (h1 : gJ S a 2 = v1) (h2 : gI S a 3 = v2) (h3 : gI S a 4 = v3) (h4 : gI S a 5 = v4) (h5 : gI S a 6 = v5) (h6 : gI S a 7 = v6) (h7 : rv S (a + 1) = v7) (h8 : (gR S a 9).map (gvw S) = v8) (h9 : gI S a 10 = v9) (h10 : (gR S a 11).map (gvw S) = v10) (h11 : gJ S a 12 = v11) (h12 : gI S a 13 = v12) (h13 : gJ S a 14 = v13) : ci S a = (v0, v1, v2, v3, v4, v5, v6, v7, v8, v9, v10, v11, v12, v13) := by
  unfold ci
  rw [h0, h1, h2, h3, h4, h5, h6, h7, h8, h9, h10, h11, h12, h13]
theorem ci_inv {a : Nat} {v0 v2 v3 v4 v5 v6 v9 v12 : Int32} {v1 v11 v13 : Int64} {v7 : Nat → R4} {v8 v10 : Option GV} (h : ci S a = (v0, v1, v2, v3, v4, v5, v6, v7, v8, v9, v10, v11, v12, v13)) : gI S a 0 = v0 ∧ gJ S a 2 = v1 ∧ gI S a 3 = v2 ∧ gI S a 4 = v3 ∧ gI S a 5 = v4 ∧ gI S a 6 = v5 ∧ gI S a 7 = v6 ∧ rv S (a + 1) = v7 ∧ (gR S a 9).map (gvw S) = v8 ∧ gI S a 10 = v9 ∧ (gR S a 11).map (gvw S) = v10 ∧ gJ S a 12 = v11 ∧ gI S a 13 = v12 ∧ gJ S a 14 = v13 := by
  unfold ci at h
  simpa only [Prod.mk.injEq] using h
theorem mi_inv {v0 v9 v13 v14 v17 : Int64} {v1 v2 v3 v4 v7 v8 v10 v11 v12 v15 v16 : Int32} {v5 v6 : Nat → Int32} (h : mi T o i = (v0, v1, v2, v3, v4, v5, v6, v7, v8, v9, v10, v11, v12, v13, v14, v15, v16, v17)) : gJ T (o + 17) i = v0 ∧ gI T (o + 18) i = v1 ∧ gI T (o + 19) i = v2 ∧ gI T (o + 20) i = v3 ∧ gI T (o + 21) i = v4 ∧ (fun n => if n < 5 then gI T (o + 22) (5 * i + n) else 0) = v5 ∧ (fun n => if n < 5 then gI T (o + 23) (5 * i + n) else 0) = v6 ∧ gI T (o + 24) i = v7 ∧ gI T (o + 25) i = v8 ∧ gJ T (o + 26) i = v9 ∧ gI T (o + 27) i = v10 ∧ gI T (o + 28) i = v11 ∧ gI T (o + 29) i = v12 ∧ gJ T (o + 30) i = v13 ∧ gJ T (o + 31) i = v14 ∧ gI T (o + 32) i = v15 ∧ gI T (o + 33) i = v16 ∧ gJ T (o + 34) i = v17 := by
  unfold mi at h
  simpa only [Prod.mk.injEq] using h
theorem mi_mk {v0 v9 v13 v14 v17 : Int64} {v1 v2 v3 v4 v7 v8 v10 v11 v12 v15 v16 : Int32} {v5 v6 : Nat → Int32} (h0 : gJ T (o + 17) i = v0) (h1 : gI T (o + 18) i = v1) (h2 : gI T (o + 19) i = v2) (h3 : gI T (o + 20) i = v3) (h4 : gI T (o + 21) i = v4) (h5 : (fun n => if n < 5 then gI T (o + 22) (5 * i + n) else 0) = v5) (h6 : (fun n => if n < 5 then gI T (o + 23) (5 * i + n) else 0) = v6) (h7 : gI T (o + 24) i = v7) (h8 : gI T (o + 25) i = v8) (h9 : gJ T (o + 26) i = v9) (h10 : gI T (o + 27) i = v10) (h11 : gI T (o + 28) i = v11) (h12 : gI T (o + 29) i = v12) (h13 : gJ T (o + 30) i = v13) (h14 : gJ T (o + 31) i = v14) (h15 : gI T (o + 32) i = v15) (h16 : gI T (o + 33) i = v16) (h17 : gJ T (o + 34) i = v17) : mi T o i = (v0, v1, v2, v3, v4, v5, v6, v7, v8, v9, v10, v11, v12, v13, v14, v15, v16, v17) := by
  unfold mi
  rw [h0, h1, h2, h3, h4, h5, h6, h7, h8, h9, h10, h11, h12, h13, h14, h15, h16, h17]
theorem RS.gb (h : RS S T x o pm L t J G) : ∀ b, inT (G b).2.2 := h.2.2.2.2.2.2.2.2.2.2.2.2
theorem RS.iq (h : RS S T x o pm L t J G) (hi : i < 8) : IQ (ci S (x + 188 + 2 * i)) (mi T o i) i (ms T o) t J := h.2.2.2.2.2.2.2.2.2.1 i hi
theorem RS.nq {n : Nat} (h : RS S T x o pm L t J G) (hn : n < 5) : NQ (cn S (x + 204 + 2 * n)) (mn T o n) n (ms T o) t J := h.2.2.2.2.2.2.2.2.2.2.1 n hn
theorem RS.tq {j : Nat} (h : RS S T x o pm L t J G) (hj : j < t) : TQ (ms T o j) (attF (mi T o)) (dgF (mi T o)) G := h.2.2.2.2.2.2.2.2.2.2.2.1 j hj
theorem RS.lq {k : Nat} (h : RS S T x o pm L t J G) (hk : k < L) : LQ (cl S (x + 6 + 2 * pm k)) (ml T o k) (attF (mi T o)) (dgF (mi T o)) (ms T o) t J G := h.2.2.2.2.2.2.2.2.1 k hk
theorem RS.cis (h : RS S T x o pm L t J G) (hi : i < 8) : cIs S x i := h.1.2.2.1 i hi
theorem RS.clt {q : Nat} (h : RS S T x o pm L t J G) (hq : q < 91) : cLt S x q := h.1.2.1 q hq
theorem RS.cnd {n : Nat} (h : RS S T x o pm L t J G) (hn : n < 5) : cNd S x n := h.1.2.2.2.1 n hn
theorem RS.base (h : RS S T x o pm L t J G) : cBase S x := h.1.1
theorem RS.cpm (h : RS S T x o pm L t J G) : cPm S x pm := h.1.2.2.2.2
theorem RS.bd (h : RS S T x o pm L t J G) : L ≤ 90 ∧ t ≤ J ∧ J ≤ 512 := ⟨h.2.2.2.2.2.1, h.2.2.2.2.2.2.1, h.2.2.2.2.2.2.2.1⟩
/-- clock -/
theorem sim_clock {u : Int64} (h : RS S T x o pm L t J G) (hi : i < 8) (hu : ¬ (u < 0 ∨ 2199023255551 < u)) : RS (sJ S (x + 188 + 2 * i) 2 u) (sJ T (o + 17) i u) x o pm L t J G := by
  have hT : TO (MA x i) (MB x i) S (sJ S (x + 188 + 2 * i) 2 u) := TO.sJ TO.refl ma
  have hK := kx_is (h.cis hi)
  have q9 := to_grB hT hK (j := 9) rfl (h.cis hi).2.2.2.2.2.2.2.1
  have q11 := to_grB hT hK (j := 11) rfl (h.cis hi).2.2.2.2.2.2.2.2
  have qs := fun s hs => to_rwB hT hK (a := x + 188 + 2 * i + 1) (j := s) rfl ((h.cis hi).2.2.2.2.2.2.1 s hs)
  have qv := to_rvB hT hK (a := x + 188 + 2 * i + 1) (fun _ _ => rfl) (h.cis hi).2.2.2.2.2.2.1
  obtain ⟨clk, lt, gv, ph, ls, bl, cn, fl, lc, q, tl, sn, ws, hd, prl, cnt, rch, wS, wT, wF, rdy, hS, hT', fi, gT, gC, hc, hm, a1, a2, a3, a4, a5, a6, a7, a8, a9, a10⟩ := h.iq hi
  obtain ⟨c0, c1, c2, c3, c4, c5, c6, c7, c8, c9, c10, c11, c12, c13⟩ := ci_inv hc
  obtain ⟨m0, m1, m2, m3, m4, m5, m6, m7, m8, m9, m10, m11, m12, m13, m14, m15, m16, m17⟩ := mi_inv hm
  refine h.iss hi hT (is_go hT h.base (h.cis hi) rfl rfl (fun s hs => (qs s hs).1) q9.1 q11.1) (mJ h.2.2.1) rfl rfl (ml_J (by decide)) mn_J (ms_J (by decide)) (fun j hj => mi_Jj hj)
    ⟨u, lt, gv, ph, ls, bl, cn, fl, lc, q, tl, sn, ws, hd, prl, cnt, rch, wS, wT, wF, rdy, hS, hT', fi, gT, gC, ci_mk c0 gJ_s c2 c3 c4 c5 c6 (qv.trans c7) (q9.2.trans c8) c9 (q11.2.trans c10) ((gJ_k (by decide)).trans c11) c12 ((gJ_k (by decide)).trans c13),
      mi_mk gJ_s m1 m2 m3 m4 m5 m6 m7 m8 ((gJ_a (by omega)).trans m9) m10 m11 m12 ((gJ_a (by omega)).trans m13) ((gJ_a (by omega)).trans m14) m15 m16 ((gJ_a (by omega)).trans m17), ⟨Int64.not_lt.mp (fun q => hu (Or.inl q)), Int64.not_lt.mp (fun q => hu (Or.inr q))⟩, a2, a3, a4, a5, a6, a7, a8, a9, a10⟩
    (Or.inl ⟨?_, fun q => ?_⟩) (fun _ _ _ _ _ => rfl) h.gb
  · rfl
  · exact q
end IS
