set_option linter.constructorNameAsVariable false
section ND
variable {S S1 T T1 : gS} {x o n : Nat} {pm : Nat → Nat} {L t J : Nat} {G : Nat → R3}
theorem cn_mk {a : Nat} {v0 v1 : Int32} {rs : Nat → R4} (h0 : gI S a 0 = v0) (h1 : gI S a 1 = v1) (h2 : rv S (a + 1) = rs) : cn S a = (v0, v1, rs) := by
  unfold cn
  rw [h0, h1, h2]
theorem cn_inv {a : Nat} {v0 v1 : Int32} {rs : Nat → R4} (h : cn S a = (v0, v1, rs)) : gI S a 0 = v0 ∧ gI S a 1 = v1 ∧ rv S (a + 1) = rs := by
  unfold cn at h
  simpa only [Prod.mk.injEq] using h
theorem mn_inv {v0 v1 : Int32} (h : mn T o n = (v0, v1)) : gI T (o + 15) n = v0 ∧ gI T (o + 16) n = v1 := by
  unfold mn at h
  simpa only [Prod.mk.injEq] using h
theorem mn_mk {v0 v1 : Int32} (h0 : gI T (o + 15) n = v0) (h1 : gI T (o + 16) n = v1) : mn T o n = (v0, v1) := by
  unfold mn
  rw [h0, h1]
theorem mn_Ij {f j k : Nat} {v : Int32} (h : k ≠ j) : mn (sI T (o + f) j v) o k = mn T o k := by
  unfold mn
  rw [gI_k h, gI_k h]
theorem kx_nd (hc : cNd S x n) : KX (fun b => b = x + 204 + 2 * n) (fun _ => False) S := fun b hb => by
  have k2 := hc.2.1
  have : b = x + 204 + 2 * n := by rcases hb with hb | hb; exact hb; exact hb.elim
  rw [this]; omega
/-- a node goes up or down -/
theorem sim_node {u : Int32} (h : RS S T x o pm L t J G) (hn : n < 5) (hu : u = 0 ∨ u = 1) : RS (sI S (x + 204 + 2 * n) 0 u) (sI T (o + 15) n (if u = 0 then 1 else 0)) x o pm L t J G := by
  have hO : TO (fun b => b = x + 204 + 2 * n) (fun _ => False) S (sI S (x + 204 + 2 * n) 0 u) := TO.sI TO.refl rfl
  have hK := kx_nd (h.cnd hn)
  have qv := to_rvB hO hK (a := x + 204 + 2 * n + 1) (fun _ _ => rfl) (h.cnd hn).2.2.2.2.2
  refine RS.node h hn hO (mI h.2.2.1) (gI_a (by omega)) (gI_a (by omega)) (ml_I (by decide)) (mi_I (by decide)) (ms_I (by decide)) (fun j hj => mn_Ij hj) ?_
  obtain ⟨b, hb, hq⟩ := h.nq hn
  refine ⟨b, hb, ?_⟩
  have e1 : gI S (x + 204 + 2 * n) 1 = nI b ∧ rv S (x + 204 + 2 * n + 1) = rw8 (ms T o) n t ∧ gI T (o + 16) n = nI b := by
    rcases hq with ⟨hc, hm⟩ | ⟨hc, hm⟩
    · exact ⟨(cn_inv hc).2.1, (cn_inv hc).2.2, (mn_inv hm).2⟩
    · exact ⟨(cn_inv hc).2.1, (cn_inv hc).2.2, (mn_inv hm).2⟩
  rcases hu with rfl | rfl
  · exact Or.inr ⟨cn_mk gI_s ((gI_k (by decide)).trans e1.1) (qv.trans e1.2.1), mn_mk gI_s ((gI_a (by omega)).trans e1.2.2)⟩
  · exact Or.inl ⟨cn_mk gI_s ((gI_k (by decide)).trans e1.1) (qv.trans e1.2.1), mn_mk gI_s ((gI_a (by omega)).trans e1.2.2)⟩
/-- a node promises -/
theorem sim_prm {b1 : Nat} (h : RS S T x o pm L t J G) (hn : n < 5) (hb1 : b1 ≤ 8 * J + 7) : RS (sI S (x + 204 + 2 * n) 1 (nI b1)) (sI T (o + 16) n (nI b1)) x o pm L t J G := by
  have hO : TO (fun b => b = x + 204 + 2 * n) (fun _ => False) S (sI S (x + 204 + 2 * n) 1 (nI b1)) := TO.sI TO.refl rfl
  have hK := kx_nd (h.cnd hn)
  have qv := to_rvB hO hK (a := x + 204 + 2 * n + 1) (fun _ _ => rfl) (h.cnd hn).2.2.2.2.2
  refine RS.node h hn hO (mI h.2.2.1) (gI_a (by omega)) (gI_a (by omega)) (ml_I (by decide)) (mi_I (by decide)) (ms_I (by decide)) (fun j hj => mn_Ij hj) ?_
  obtain ⟨b, hb, hq⟩ := h.nq hn
  refine ⟨b1, hb1, ?_⟩
  rcases hq with ⟨hc, hm⟩ | ⟨hc, hm⟩
  · exact Or.inl ⟨cn_mk ((gI_k (by decide)).trans (cn_inv hc).1) gI_s (qv.trans (cn_inv hc).2.2), mn_mk ((gI_a (by omega)).trans (mn_inv hm).1) gI_s⟩
  · exact Or.inr ⟨cn_mk ((gI_k (by decide)).trans (cn_inv hc).1) gI_s (qv.trans (cn_inv hc).2.2), mn_mk ((gI_a (by omega)).trans (mn_inv hm).1) gI_s⟩
theorem ms_t {n1 s1 b1 i1 t1 : Int32} {m1 : Int64} : ms (mStory T o t n1 s1 b1 i1 t1 m1) o t = (n1, s1, b1, i1, t1, m1) := by
  unfold mStory
  rw [ms_o]
  unfold ms
  simp [gI_sI, gJ_sI, gJ_sJ, gI_sJ]
theorem ms_j {n1 s1 b1 i1 t1 : Int32} {m1 : Int64} {j : Nat} (h : j ≠ t) : ms (mStory T o t n1 s1 b1 i1 t1 m1) o j = ms T o j := by
  unfold mStory
  rw [ms_o]
  unfold ms
  simp only [gI_sI, gJ_sI, gJ_sJ, gI_sJ, if_neg h]
/-- a node accepts -/
theorem sim_accept {i s q r : Nat} {tm : Int32} {mk : Int64} (h : RS S T x o pm L t J G) (hn : n < 5) (ht : t + 1 ≤ J) (hi : i < 8) (hs8 : s < 8) (hq1 : 1 ≤ q) (hqa : q ≤ attF (mi T o) i) (hqJ : q ≤ J) (hr : gK S r = 6) (hrc : rcS S r = (nI (8 * q + i), nI i, tm, mk)) (hG : G (8 * q + i) = (nI s, tm, mk)) (hd : ¬ (dgF (mi T o) i = 1 ∧ q = attF (mi T o) i)) :
    RS (sR (sI S (x + 204 + 2 * n) 1 (nI (8 * q + i))) (x + 204 + 2 * n + 1) s (some r)) (mStory (sI T (o + 16) n (nI (8 * q + i))) o t (nI n) (nI s) (nI (8 * q + i)) (nI i) tm mk) x o pm L (t + 1) J G := by
  obtain ⟨S1, hS1⟩ : ∃ z, z = sR (sI S (x + 204 + 2 * n) 1 (nI (8 * q + i))) (x + 204 + 2 * n + 1) s (some r) := ⟨_, rfl⟩
  rw [← hS1]
  have hc := h.cnd hn
  have hO : TO (fun b => b = x + 204 + 2 * n) (fun b => b = x + 204 + 2 * n + 1) S S1 := by rw [hS1]; exact TO.sR (TO.sI TO.refl rfl) rfl
  have hK : KX (fun b => b = x + 204 + 2 * n) (fun b => b = x + 204 + 2 * n + 1) S := fun b hb => by
    have k2 := hc.2.1
    have k3 := hc.2.2.2.1
    rcases hb with rfl | rfl <;> omega
  have er : ∀ s1, gR S1 (x + 204 + 2 * n + 1) s1 = if s1 = s then some r else gR S (x + 204 + 2 * n + 1) s1 := fun s1 => by
    rw [hS1, gR_sR, if_pos rfl, gR_sI]
  have qs : ∀ s1, s1 < 8 → rwA S1 (x + 204 + 2 * n + 1) s1 ∧ rcS S1 (cr S1 (x + 204 + 2 * n + 1) s1) = if s1 = s then rcS S r else rcS S (cr S (x + 204 + 2 * n + 1) s1) := fun s1 hs1 => by
    by_cases e : s1 = s
    · have e2 := er s1
      rw [if_pos e] at e2 ⊢
      have e3 : cr S1 (x + 204 + 2 * n + 1) s1 = r := by unfold cr; rw [e2]; rfl
      exact ⟨⟨by rw [e3]; exact e2, by rw [e3]; exact (to_rc hO hK hr).2⟩, by rw [e3]; exact (to_rc hO hK hr).1⟩
    · have e2 := er s1
      rw [if_neg e] at e2 ⊢
      exact to_rwB hO hK e2 (hc.2.2.2.2.2 s1 hs1)
  have hk2 : gK S (x + 2) = 14 := h.base.1.2.2.2.2.2.2.1
  have e0 : ∀ j, gR S1 (x + 204 + 2 * n) j = gR S (x + 204 + 2 * n) j := fun j => by rw [hS1]; exact rR (Or.inr (by omega)) rfl
  have hc1 : cNd S1 x n := by
    obtain ⟨c1, c2, c3, c4, c5, c6⟩ := hc
    exact ⟨((hO _ (by omega)).2.1 (by omega) n).trans c1, (hO _ (by omega)).2.2.1.trans c2, (e0 2).trans c3, (hO _ (by omega)).2.2.1.trans c4, (hO _ (by omega)).2.2.2.trans c5, fun s1 hs1 => (qs s1 hs1).1⟩
  have eml : ml (mStory (sI T (o + 16) n (nI (8 * q + i))) o t (nI n) (nI s) (nI (8 * q + i)) (nI i) tm mk) o = ml T o := by
    unfold mStory
    rw [ml_o, ml_J (by decide), ml_I (by decide), ml_I (by decide), ml_I (by decide), ml_I (by decide), ml_I (by decide), ml_I (by decide)]
  have emi : mi (mStory (sI T (o + 16) n (nI (8 * q + i))) o t (nI n) (nI s) (nI (8 * q + i)) (nI i) tm mk) o = mi T o := by
    unfold mStory
    rw [mi_o, mi_J (by decide), mi_I (by decide), mi_I (by decide), mi_I (by decide), mi_I (by decide), mi_I (by decide), mi_I (by decide)]
  have emn : mn (mStory (sI T (o + 16) n (nI (8 * q + i))) o t (nI n) (nI s) (nI (8 * q + i)) (nI i) tm mk) o = mn (sI T (o + 16) n (nI (8 * q + i))) o := by
    unfold mStory
    rw [mn_o, mn_J, mn_I (by decide) (by decide), mn_I (by decide) (by decide), mn_I (by decide) (by decide), mn_I (by decide) (by decide), mn_I (by decide) (by decide)]
  have ems : ∀ j, j < t → ms (mStory (sI T (o + 16) n (nI (8 * q + i))) o t (nI n) (nI s) (nI (8 * q + i)) (nI i) tm mk) o j = ms T o j := fun j hj => by
    rw [ms_j (by omega), ms_I (by decide)]
  refine RS.story h hn ht hO hc1 (by unfold mStory; exact mI (mJ (mI (mI (mI (mI (mI (mI h.2.2.1)))))))) ?_ (by unfold mStory; exact gI_s) eml emi ems (fun j hj => by rw [emn]; exact mn_Ij hj) ?_ ?_ ?_
  · unfold mStory
    rw [gI_k (by decide), gI_sJ, gI_a (by omega), gI_a (by omega), gI_a (by omega), gI_a (by omega), gI_a (by omega), gI_a (by omega)]
  · rw [ms_t]
    exact ⟨i, n, s, q, tm, mk, hi, hn, hs8, hq1, hqa, rfl, hG, hd⟩
  · rw [ms_t]
  · obtain ⟨b, hb, hq⟩ := h.nq hn
    refine ⟨8 * q + i, by omega, ?_⟩
    have qv : rv S (x + 204 + 2 * n + 1) = rw8 (ms T o) n t := by
      rcases hq with ⟨hc, hm⟩ | ⟨hc, hm⟩
      · exact (cn_inv hc).2.2
      · exact (cn_inv hc).2.2
    have qv1 : rv S1 (x + 204 + 2 * n + 1) = rw8 (ms (mStory (sI T (o + 16) n (nI (8 * q + i))) o t (nI n) (nI s) (nI (8 * q + i)) (nI i) tm mk) o) n (t + 1) := funext fun s1 => by
      have e5 := congrFun qv s1
      unfold rv rw8 at e5 ⊢
      by_cases hs1 : s1 < 8
      · rw [if_pos hs1] at e5 ⊢
        rw [if_pos hs1] at e5 ⊢
        rw [(qs s1 hs1).2, rw1, ms_t, rw1_congr t ems]
        by_cases e : s1 = s
        · rw [if_pos e, if_pos ⟨rfl, by rw [e]⟩]; exact hrc
        · rw [if_neg e, if_neg (fun q => e ((nI_eq (by omega) (by omega)).mp q.2).symm)]; exact e5
      · rw [if_neg hs1, if_neg hs1]
    have g1 : gI S1 (x + 204 + 2 * n) 1 = nI (8 * q + i) := by rw [hS1, gI_sR, gI_s]
    have g0 : gI S1 (x + 204 + 2 * n) 0 = gI S (x + 204 + 2 * n) 0 := by rw [hS1, gI_sR, gI_k (by decide)]
    rw [emn]
    rcases hq with ⟨hc, hm⟩ | ⟨hc, hm⟩
    · exact Or.inl ⟨cn_mk (g0.trans (cn_inv hc).1) g1 qv1, mn_mk ((gI_a (by omega)).trans (mn_inv hm).1) gI_s⟩
    · exact Or.inr ⟨cn_mk (g0.trans (cn_inv hc).1) g1 qv1, mn_mk ((gI_a (by omega)).trans (mn_inv hm).1) gI_s⟩
theorem ml_Cj {k j : Nat} (h : j ≠ L) : ml (sI (mCopy T o k L) o 1 (nI (L + 1))) o j = ml T o j := by
  rw [ml_o]
  unfold mCopy ml
  simp only [gI_sI, gJ_sI, gJ_sJ, gI_sJ, if_neg h]
theorem ml_C {k : Nat} : ml (sI (mCopy T o k L) o 1 (nI (L + 1))) o L = ml T o k := by
  rw [ml_o]
  unfold mCopy ml
  simp [gI_sI, gJ_sI, gJ_sJ, gI_sJ]
theorem sim_twin {k : Nat} (h : RS S T x o pm L t J G) (hk : k < L) (hL : L + 1 ≤ 90) : RS (cTwin S (x + 4) (x + 6 + 2 * pm L) (x + 6 + 2 * pm k) (x + 6 + 2 * pm L + 1) (cr S (x + 6 + 2 * pm k) 6) (fun j => cr S (x + 6 + 2 * pm k + 1) j)) (sI (mCopy T o k L) o 1 (nI (L + 1))) x o pm (L + 1) t J G := by
  obtain ⟨S1, hS1⟩ : ∃ z, z = cTwin S (x + 4) (x + 6 + 2 * pm L) (x + 6 + 2 * pm k) (x + 6 + 2 * pm L + 1) (cr S (x + 6 + 2 * pm k) 6) (fun j => cr S (x + 6 + 2 * pm k + 1) j) := ⟨_, rfl⟩
  rw [← hS1]
  have hc := h.clt (h.cpm.1 L)
  have hk0 := h.clt (h.cpm.1 k)
  have hK := kx_lt h.base hc
  have hO : TO (MC x pm L) (MD x pm L) S S1 := by rw [hS1]; exact TO.sRow (TO.sR (TO.sI (TO.sI (TO.cSend TO.refl (Or.inl rfl) (Or.inr rfl)) (Or.inr rfl)) (Or.inr rfl)) (Or.inl rfl)) (Or.inr rfl)
  have e6 : gR S1 (x + 6 + 2 * pm L) 6 = some (cr S (x + 6 + 2 * pm k) 6) := by rw [hS1]; exact rW (by omega) gR_s
  have c6 : cr S1 (x + 6 + 2 * pm L) 6 = cr S (x + 6 + 2 * pm k) 6 := by unfold cr; rw [e6]; rfl
  have q6 : rwA S1 (x + 6 + 2 * pm L) 6 := ⟨by rw [c6]; exact e6, by rw [c6]; exact (to_rc hO hK hk0.2.2.2.2.1.2).2⟩
  have hr : ∀ s, s < 8 → gR S1 (x + 6 + 2 * pm L + 1) s = some (cr S (x + 6 + 2 * pm k + 1) s) := fun s hs => by rw [hS1]; unfold cTwin; rw [gR_sRow, if_pos rfl, if_pos hs]
  have hcr : ∀ s, s < 8 → cr S1 (x + 6 + 2 * pm L + 1) s = cr S (x + 6 + 2 * pm k + 1) s := fun s hs => by show (gR S1 _ s).getD 0 = _; rw [hr s hs]; rfl
  have qs : ∀ s, s < 8 → rwA S1 (x + 6 + 2 * pm L + 1) s := fun s hs => ⟨by rw [hcr s hs]; exact hr s hs, by rw [hcr s hs]; exact (to_rc hO hK (hk0.2.2.2.2.2 s hs).2).2⟩
  have qv : rv S1 (x + 6 + 2 * pm L + 1) = rv S (x + 6 + 2 * pm k + 1) := funext fun s => by
    unfold rv
    split
    · rename_i hs; rw [hcr s hs, (to_rc hO hK (hk0.2.2.2.2.2 s hs).2).1]
    · rfl
  have ecl : cl S1 (x + 6 + 2 * pm L) = cl S (x + 6 + 2 * pm k) := by
    refine cl_mk ?_ ?_ ?_ ?_ ?_ ?_ (by rw [c6]; exact (to_rc hO hK hk0.2.2.2.2.1.2).1) qv
    · rw [hS1]; unfold cTwin; rw [gI_sRow, gI_sR, gI_k (by decide), gI_k (by decide)]; exact cS_0
    · rw [hS1]; unfold cTwin; rw [gI_sRow, gI_sR, gI_k (by decide), gI_k (by decide)]; exact cS_1
    · rw [hS1]; unfold cTwin; rw [gI_sRow, gI_sR, gI_k (by decide), gI_k (by decide)]; exact cS_2
    · rw [hS1]; unfold cTwin; rw [gI_sRow, gI_sR, gI_k (by decide), gI_k (by decide)]; exact cS_3
    · rw [hS1]; unfold cTwin; rw [gI_sRow, gI_sR, gI_k (by decide), gI_s]
    · rw [hS1]; unfold cTwin; rw [gI_sRow, gI_sR, gI_s]
  have eC : mi (sI (mCopy T o k L) o 1 (nI (L + 1))) o = mi T o := by
    unfold mCopy
    rw [mi_o, mi_I (by decide), mi_J (by decide), mi_I (by decide), mi_I (by decide), mi_I (by decide), mi_I (by decide), mi_I (by decide), mi_I (by decide)]
  refine RS.send h hL hO ?_ (lt_go hO hc (by rw [hS1]; exact rW (by omega) (rR (Or.inl (by decide)) rfl)) q6 qs) (by unfold mCopy; exact mI (mI (mJ (mI (mI (mI (mI (mI (mI h.2.2.1))))))))) gI_s ?_ (fun j hj => ml_Cj hj) eC ?_ ?_ ?_
  · rw [hS1]; unfold cTwin; rw [gI_sRow, gI_sR, gI_k (by decide), gI_k (by decide)]; exact z_send h.2.1
  · unfold mCopy
    rw [gI_k (by decide), gI_a (by omega), gI_sJ, gI_a (by omega), gI_a (by omega), gI_a (by omega), gI_a (by omega), gI_a (by omega), gI_a (by omega)]
  · unfold mCopy
    rw [mn_o, mn_I (by decide) (by decide), mn_J, mn_I (by decide) (by decide), mn_I (by decide) (by decide), mn_I (by decide) (by decide), mn_I (by decide) (by decide), mn_I (by decide) (by decide), mn_I (by decide) (by decide)]
  · unfold mCopy
    rw [ms_o, ms_I (by decide), ms_J (by decide), ms_I (by decide), ms_I (by decide), ms_I (by decide), ms_I (by decide), ms_I (by decide), ms_I (by decide)]
  · rw [ml_C, ecl]
    exact h.lq hk
end ND
