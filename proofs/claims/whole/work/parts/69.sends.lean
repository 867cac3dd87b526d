set_option linter.constructorNameAsVariable false
/-! Letters that are sent. -/
section MS1
variable {T : gS} {o L j : Nat} {kd is nd bl ex : Int32}
theorem ml_Sj (h : j ≠ L) : ml (mSend T o L kd is nd bl ex) o j = ml T o j := by
  unfold mSend
  rw [ml_o]
  unfold ml
  simp only [gI_sI, gJ_sI, if_neg h]
theorem ml_S : ml (mSend T o L kd is nd bl ex) o L = (kd, is, nd, bl, gI T (o + 5) L, gI T (o + 6) L, gJ T (o + 7) L, ex) := by
  unfold mSend
  rw [ml_o]
  unfold ml
  simp [gI_sI, gJ_sI]
theorem mi_S : mi (mSend T o L kd is nd bl ex) o = mi T o := by
  unfold mSend
  rw [mi_o, mi_I (by decide), mi_I (by decide), mi_I (by decide), mi_I (by decide), mi_I (by decide)]
theorem mn_S : mn (mSend T o L kd is nd bl ex) o = mn T o := by
  unfold mSend
  rw [mn_o, mn_I (by decide) (by decide), mn_I (by decide) (by decide), mn_I (by decide) (by decide), mn_I (by decide) (by decide), mn_I (by decide) (by decide)]
theorem ms_S : ms (mSend T o L kd is nd bl ex) o = ms T o := by
  unfold mSend
  rw [ms_o, ms_I (by decide), ms_I (by decide), ms_I (by decide), ms_I (by decide), ms_I (by decide)]
theorem mOK_S (h : mOK T o) : mOK (mSend T o L kd is nd bl ex) o := mI (mI (mI (mI (mI (mI h)))))
theorem s1_S : gI (mSend T o L kd is nd bl ex) o 1 = nI (L + 1) := gI_s
theorem so_S {f : Nat} (hf : f ≠ 1) : gI (mSend T o L kd is nd bl ex) o f = gI T o f := by
  unfold mSend
  rw [gI_k hf, gI_a (by omega), gI_a (by omega), gI_a (by omega), gI_a (by omega), gI_a (by omega)]
theorem sb_S {b f : Nat} (hb : o + 8 < b) : gI (mSend T o L kd is nd bl ex) b f = gI T b f := by
  unfold mSend
  rw [gI_a (by omega), gI_a (by omega), gI_a (by omega), gI_a (by omega), gI_a (by omega), gI_a (by omega)]
end MS1
section SD
variable {S S1 T T1 : gS} {x o : Nat} {pm : Nat → Nat} {L t J : Nat} {G : Nat → R3}
def MC (x : Nat) (pm : Nat → Nat) (L : Nat) : Nat → Prop := fun b => b = x + 4 ∨ b = x + 6 + 2 * pm L
def MD (x : Nat) (pm : Nat → Nat) (L : Nat) : Nat → Prop := fun b => b = x + 6 + 2 * pm L ∨ b = x + 6 + 2 * pm L + 1
theorem kx_lt (hb : cBase S x) (hc : cLt S x (pm L)) : KX (MC x pm L) (MD x pm L) S := fun b hb' => by
  have k2 := hc.1
  have k3 := hc.2.2.1
  have k4 := hb.2.2.2.1
  have : b = x + 4 ∨ b = x + 6 + 2 * pm L ∨ b = x + 6 + 2 * pm L + 1 := by rcases hb' with (hb' | hb') | hb' | hb'; exact Or.inl hb'; exact Or.inr (Or.inl hb'); exact Or.inr (Or.inl hb'); exact Or.inr (Or.inr hb')
  rcases this with rfl | rfl | rfl <;> omega
theorem cl_mk {a : Nat} {v0 v1 v2 v3 v4 v5 : Int32} {r : R4} {rs : Nat → R4} (h0 : gI S a 0 = v0) (h1 : gI S a 1 = v1) (h2 : gI S a 2 = v2) (h3 : gI S a 3 = v3) (h4 : gI S a 4 = v4) (h5 : gI S a 5 = v5) (h6 : rcS S (cr S a 6) = r) (h7 : rv S (a + 1) = rs) : cl S a = (v0, v1, v2, v3, v4, v5, r, rs) := by
  unfold cl
  rw [h0, h1, h2, h3, h4, h5, h6, h7]
theorem cl_inv {a : Nat} {v0 v1 v2 v3 v4 v5 : Int32} {r : R4} {rs : Nat → R4} (h : cl S a = (v0, v1, v2, v3, v4, v5, r, rs)) : gI S a 0 = v0 ∧ gI S a 1 = v1 ∧ gI S a 2 = v2 ∧ gI S a 3 = v3 ∧ gI S a 4 = v4 ∧ gI S a 5 = v5 ∧ rcS S (cr S a 6) = r ∧ rv S (a + 1) = rs := by
  unfold cl at h
  simpa only [Prod.mk.injEq] using h
theorem ml_inv {k : Nat} {v0 v1 v2 v3 v4 v5 v7 : Int32} {v6 : Int64} (h : ml T o k = (v0, v1, v2, v3, v4, v5, v6, v7)) : gI T (o + 1) k = v0 ∧ gI T (o + 2) k = v1 ∧ gI T (o + 3) k = v2 ∧ gI T (o + 4) k = v3 ∧ gI T (o + 5) k = v4 ∧ gI T (o + 6) k = v5 ∧ gJ T (o + 7) k = v6 ∧ gI T (o + 8) k = v7 := by
  unfold ml at h
  simpa only [Prod.mk.injEq] using h
theorem cS_0 {a q : Nat} {kd is nd bl : Int32} : gI (cSend S a q kd is nd bl) q 0 = kd := by
  unfold cSend
  rw [gI_k (by decide), gI_k (by decide), gI_k (by decide), gI_k (by decide), gI_k (by decide), gI_s]
theorem cS_1 {a q : Nat} {kd is nd bl : Int32} : gI (cSend S a q kd is nd bl) q 1 = is := by
  unfold cSend
  rw [gI_k (by decide), gI_k (by decide), gI_k (by decide), gI_k (by decide), gI_s]
theorem cS_2 {a q : Nat} {kd is nd bl : Int32} : gI (cSend S a q kd is nd bl) q 2 = nd := by
  unfold cSend
  rw [gI_k (by decide), gI_k (by decide), gI_k (by decide), gI_s]
theorem cS_3 {a q : Nat} {kd is nd bl : Int32} : gI (cSend S a q kd is nd bl) q 3 = bl := by
  unfold cSend
  rw [gI_k (by decide), gI_k (by decide), gI_s]
theorem cS_4 {a q : Nat} {kd is nd bl : Int32} : gI (cSend S a q kd is nd bl) q 4 = -1 := by
  unfold cSend
  rw [gI_k (by decide), gI_s]
theorem cS_5 {a q : Nat} {kd is nd bl : Int32} : gI (cSend S a q kd is nd bl) q 5 = -1 := by
  unfold cSend
  rw [gI_s]
/-- the letter's form -/
theorem lt_go {M Mr : Nat → Prop} {q : Nat} (hT : TO M Mr S S1) (hc : cLt S x q) (e7 : gR S1 (x + 6 + 2 * q) 7 = gR S (x + 6 + 2 * q) 7) (h6 : rwA S1 (x + 6 + 2 * q) 6) (hs : ∀ s, s < 8 → rwA S1 (x + 6 + 2 * q + 1) s) : cLt S1 x q := by
  obtain ⟨c1, c2, c3, c4, c5, c6⟩ := hc
  exact ⟨(hT _ (by omega)).2.2.1.trans c1, e7.trans c2, (hT _ (by omega)).2.2.1.trans c3, (hT _ (by omega)).2.2.2.trans c4, h6, hs⟩
theorem z_send {q : Nat} {kd is nd bl : Int32} (hz : gI S (x + 4) 1 = nI L) : gI (cSend S (x + 4) (x + 6 + 2 * q) kd is nd bl) (x + 4) 1 = nI (L + 1) := by
  rw [gI_cSend1 (by omega), hz, ← nI_succ]
/-- PREPARE, YES -/
theorem sim_send {kd ex : Int32} {i n q : Nat} (h : RS S T x o pm L t J G) (hkd : kd = 0 ∨ kd = 3) (hL : L + 1 ≤ 90) (hi : i < 8) (hn : n < 5) (hq1 : 1 ≤ q) (hqa : q ≤ attF (mi T o) i) : RS (cSend S (x + 4) (x + 6 + 2 * pm L) kd (nI i) (nI n) (nI (8 * q + i))) (mSend T o L kd (nI i) (nI n) (nI (8 * q + i)) ex) x o pm (L + 1) t J G := by
  have hc := h.clt (h.cpm.1 L)
  have hK := kx_lt h.base hc
  have hO : TO (MC x pm L) (MD x pm L) S (cSend S (x + 4) (x + 6 + 2 * pm L) kd (nI i) (nI n) (nI (8 * q + i))) := TO.cSend TO.refl (Or.inl rfl) (Or.inr rfl)
  have q6 := to_rwB hO hK (j := 6) (a := x + 6 + 2 * pm L) rfl hc.2.2.2.2.1
  have qs := fun s (hs : s < 8) => (to_rwB hO hK (j := s) (a := x + 6 + 2 * pm L + 1) rfl (hc.2.2.2.2.2 s hs)).1
  refine RS.send h hL hO (z_send h.2.1) (lt_go hO hc rfl q6.1 qs) (mOK_S h.2.2.1) s1_S (so_S (by decide)) (fun k hk => ml_Sj hk) mi_S mn_S ms_S ⟨i, n, q, hi, hn, hq1, hqa, ?_⟩
  rw [ml_S, cl_mk cS_0 cS_1 cS_2 cS_3 cS_4 cS_5 rfl rfl]
  rcases hkd with rfl | rfl
  · exact Or.inl ⟨_, _, _, _, _, _, rfl, rfl⟩
  · exact Or.inr (Or.inr (Or.inr (Or.inl ⟨_, _, _, _, _, _, rfl, rfl⟩)))
/-- NO -/
theorem sim_sendN {i n q b : Nat} (h : RS S T x o pm L t J G) (hb : b ≤ 8 * J + 7) (hL : L + 1 ≤ 90) (hi : i < 8) (hn : n < 5) (hq1 : 1 ≤ q) (hqa : q ≤ attF (mi T o) i) : RS (sI (cSend S (x + 4) (x + 6 + 2 * pm L) 4 (nI i) (nI n) (nI (8 * q + i))) (x + 6 + 2 * pm L) 5 (nI b)) (mSend T o L 4 (nI i) (nI n) (nI (8 * q + i)) (nI b)) x o pm (L + 1) t J G := by
  have hc := h.clt (h.cpm.1 L)
  have hK := kx_lt h.base hc
  have hO : TO (MC x pm L) (MD x pm L) S (sI (cSend S (x + 4) (x + 6 + 2 * pm L) 4 (nI i) (nI n) (nI (8 * q + i))) (x + 6 + 2 * pm L) 5 (nI b)) := TO.sI (TO.cSend TO.refl (Or.inl rfl) (Or.inr rfl)) (Or.inr rfl)
  have q6 := to_rwB hO hK (j := 6) (a := x + 6 + 2 * pm L) rfl hc.2.2.2.2.1
  have qs := fun s (hs : s < 8) => (to_rwB hO hK (j := s) (a := x + 6 + 2 * pm L + 1) rfl (hc.2.2.2.2.2 s hs)).1
  refine RS.send h hL hO ((gI_k (by decide)).trans (z_send h.2.1)) (lt_go hO hc rfl q6.1 qs) (mOK_S h.2.2.1) s1_S (so_S (by decide)) (fun k hk => ml_Sj hk) mi_S mn_S ms_S ⟨i, n, q, hi, hn, hq1, hqa, ?_⟩
  rw [ml_S, cl_mk ((gI_k (by decide)).trans cS_0) ((gI_k (by decide)).trans cS_1) ((gI_k (by decide)).trans cS_2) ((gI_k (by decide)).trans cS_3) ((gI_k (by decide)).trans cS_4) gI_s rfl rfl]
  exact Or.inr (Or.inr (Or.inr (Or.inr ⟨_, _, _, _, _, b, hb, rfl, rfl⟩)))
/-- PROMISE -/
theorem sim_sendP {i n q far : Nat} {f : Nat → Nat} (h : RS S T x o pm L t J G) (hfar : far ≤ t) (hf : ∀ s, s < 8 → gK S (f s) = 6 ∧ rcS S (f s) = rw1 (ms T o) n s far) (hL : L + 1 ≤ 90) (hi : i < 8) (hn : n < 5) (hq1 : 1 ≤ q) (hqa : q ≤ attF (mi T o) i) : RS (sRow (cSend S (x + 4) (x + 6 + 2 * pm L) 1 (nI i) (nI n) (nI (8 * q + i))) (x + 6 + 2 * pm L + 1) 8 (fun j => some (f j))) (mSend T o L 1 (nI i) (nI n) (nI (8 * q + i)) (nI far)) x o pm (L + 1) t J G := by
  have hc := h.clt (h.cpm.1 L)
  have hK := kx_lt h.base hc
  obtain ⟨S1, hS1⟩ : ∃ z, z = sRow (cSend S (x + 4) (x + 6 + 2 * pm L) 1 (nI i) (nI n) (nI (8 * q + i))) (x + 6 + 2 * pm L + 1) 8 (fun j => some (f j)) := ⟨_, rfl⟩
  rw [← hS1]
  have hO : TO (MC x pm L) (MD x pm L) S S1 := by rw [hS1]; exact TO.sRow (TO.cSend TO.refl (Or.inl rfl) (Or.inr rfl)) (Or.inr rfl)
  have q6 := to_rwB hO hK (j := 6) (a := x + 6 + 2 * pm L) (by rw [hS1]; exact rW (by omega) rfl) hc.2.2.2.2.1
  have hr : ∀ s, s < 8 → gR S1 (x + 6 + 2 * pm L + 1) s = some (f s) := fun s hs => by rw [hS1, gR_sRow, if_pos rfl, if_pos hs]
  have hcr : ∀ s, s < 8 → cr S1 (x + 6 + 2 * pm L + 1) s = f s := fun s hs => by unfold cr; rw [hr s hs]; rfl
  have qs : ∀ s, s < 8 → rwA S1 (x + 6 + 2 * pm L + 1) s := fun s hs => ⟨by rw [hcr s hs]; exact hr s hs, by rw [hcr s hs]; exact (to_rc hO hK (hf s hs).1).2⟩
  have qv : rv S1 (x + 6 + 2 * pm L + 1) = rw8 (ms T o) n far := funext fun s => by
    unfold rv rw8
    split
    · rename_i hs; rw [hcr s hs, (to_rc hO hK (hf s hs).1).1, (hf s hs).2]
    · rfl
  refine RS.send h hL hO (by rw [hS1, gI_sRow]; exact z_send h.2.1) (lt_go hO hc (by rw [hS1]; exact rW (by omega) rfl) q6.1 qs) (mOK_S h.2.2.1) s1_S (so_S (by decide)) (fun k hk => ml_Sj hk) mi_S mn_S ms_S ⟨i, n, q, hi, hn, hq1, hqa, ?_⟩
  rw [ml_S, cl_mk (v0 := 1) (v1 := nI i) (v2 := nI n) (v3 := nI (8 * q + i)) (v4 := -1) (v5 := -1) (by rw [hS1, gI_sRow]; exact cS_0) (by rw [hS1, gI_sRow]; exact cS_1) (by rw [hS1, gI_sRow]; exact cS_2) (by rw [hS1, gI_sRow]; exact cS_3) (by rw [hS1, gI_sRow]; exact cS_4) (by rw [hS1, gI_sRow]; exact cS_5) rfl qv]
  exact Or.inr (Or.inl ⟨_, _, _, _, far, hfar, rfl, rfl⟩)
/-- ACCEPT -/
theorem sim_sendA {i n q s r : Nat} {tv ex : Int32} {mk : Int64} (h : RS S T x o pm L t J G) (hs8 : s < 8) (hr : gK S r = 6) (hrc : rcS S r = (nI (8 * q + i), nI i, tv, mk)) (hG : G (8 * q + i) = (nI s, tv, mk)) (hd : ¬ (dgF (mi T o) i = 1 ∧ q = attF (mi T o) i)) (hL : L + 1 ≤ 90) (hi : i < 8) (hn : n < 5) (hq1 : 1 ≤ q) (hqa : q ≤ attF (mi T o) i) :
    RS (sR (sI (cSend S (x + 4) (x + 6 + 2 * pm L) 2 (nI i) (nI n) (nI (8 * q + i))) (x + 6 + 2 * pm L) 4 (nI s)) (x + 6 + 2 * pm L) 6 (some r)) (mSend (sJ (sI (sI T (o + 5) L (nI s)) (o + 6) L tv) (o + 7) L mk) o L 2 (nI i) (nI n) (nI (8 * q + i)) ex) x o pm (L + 1) t J G := by
  have hc := h.clt (h.cpm.1 L)
  have hK := kx_lt h.base hc
  obtain ⟨S1, hS1⟩ : ∃ z, z = sR (sI (cSend S (x + 4) (x + 6 + 2 * pm L) 2 (nI i) (nI n) (nI (8 * q + i))) (x + 6 + 2 * pm L) 4 (nI s)) (x + 6 + 2 * pm L) 6 (some r) := ⟨_, rfl⟩
  rw [← hS1]
  have hO : TO (MC x pm L) (MD x pm L) S S1 := by rw [hS1]; exact TO.sR (TO.sI (TO.cSend TO.refl (Or.inl rfl) (Or.inr rfl)) (Or.inr rfl)) (Or.inl rfl)
  have e6 : gR S1 (x + 6 + 2 * pm L) 6 = some r := by rw [hS1]; exact gR_s
  have c6 : cr S1 (x + 6 + 2 * pm L) 6 = r := by unfold cr; rw [e6]; rfl
  have q6 : rwA S1 (x + 6 + 2 * pm L) 6 := ⟨by rw [c6]; exact e6, by rw [c6]; exact (to_rc hO hK hr).2⟩
  have qs := fun s (hs : s < 8) => (to_rwB hO hK (j := s) (a := x + 6 + 2 * pm L + 1) (by rw [hS1]; exact rR (Or.inr (by omega)) rfl) (hc.2.2.2.2.2 s hs)).1
  refine RS.send h hL hO (by rw [hS1, gI_sR, gI_k (by decide)]; exact z_send h.2.1) (lt_go hO hc (by rw [hS1]; exact rR (Or.inl (by decide)) rfl) q6 qs) (mOK_S (mJ (mI (mI h.2.2.1)))) s1_S (by rw [so_S (by decide), gI_sJ, gI_a (by omega), gI_a (by omega)]) (fun k hk => ?_) (by rw [mi_S, mi_J (by decide), mi_I (by decide), mi_I (by decide)]) (by rw [mn_S, mn_J, mn_I (by decide) (by decide), mn_I (by decide) (by decide)]) (by rw [ms_S, ms_J (by decide), ms_I (by decide), ms_I (by decide)]) ⟨i, n, q, hi, hn, hq1, hqa, ?_⟩
  · rw [ml_Sj hk]
    unfold ml
    simp only [gI_sI, gJ_sI, gJ_sJ, gI_sJ, if_neg hk]
  · rw [ml_S, cl_mk (v0 := 2) (v1 := nI i) (v2 := nI n) (v3 := nI (8 * q + i)) (v4 := nI s) (v5 := -1) (r := (nI (8 * q + i), nI i, tv, mk)) (by rw [hS1, gI_sR, gI_k (by decide)]; exact cS_0) (by rw [hS1, gI_sR, gI_k (by decide)]; exact cS_1) (by rw [hS1, gI_sR, gI_k (by decide)]; exact cS_2) (by rw [hS1, gI_sR, gI_k (by decide)]; exact cS_3) (by rw [hS1, gI_sR, gI_s]) (by rw [hS1, gI_sR, gI_k (by decide)]; exact cS_5) (by rw [c6, (to_rc hO hK hr).1]; exact hrc) rfl]
    refine Or.inr (Or.inr (Or.inl ⟨_, s, tv, mk, ex, hs8, rfl, ?_, hG, hd⟩))
    rw [gI_sJ, gI_a (by omega), gI_s, gI_s, gJ_s]
end SD
