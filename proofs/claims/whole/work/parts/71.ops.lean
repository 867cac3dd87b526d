set_option linter.constructorNameAsVariable false
/-! The frame of an operation: the class writes its own cells, the model its own. -/
def mR (o : Nat) : Nat → Prop := fun b => o ≤ b ∧ b ≤ o + 34
def cR (x : Nat) : Nat → Prop := fun b => (x ≤ b ∧ b < x + 214) ∨ b = x + 249
def nR0 : Nat → Prop := fun _ => False
def MT (o : Nat) (S S1 : gS) : Prop := TO (mR o) nR0 S S1
def CT (x : Nat) (S S1 : gS) : Prop := TO (cR x) (cR x) S S1
section FRM
variable {S S1 S2 S3 T T1 : gS} {x o : Nat} {pm pm1 : Nat → Nat} {L L1 t t1 J J1 : Nat} {G G1 : Nat → R3}
theorem mr (o f : Nat) (h : f ≤ 34) : mR o (o + f) := ⟨by omega, by omega⟩
theorem mr0 (o : Nat) : mR o o := ⟨by omega, by omega⟩
theorem MT.refl : MT o S S := TO.refl
theorem MT.wI {f k : Nat} {v : Int32} (h : MT o S S1) (hf : f ≤ 34 := by decide) : MT o S (sI S1 (o + f) k v) := TO.sI h (mr o f hf)
theorem MT.wJ {f k : Nat} {v : Int64} (h : MT o S S1) (hf : f ≤ 34 := by decide) : MT o S (sJ S1 (o + f) k v) := TO.sJ h (mr o f hf)
theorem MT.wO {k : Nat} {v : Int32} (h : MT o S S1) : MT o S (sI S1 o k v) := TO.sI h (mr0 o)
theorem MT.snd {L : Nat} {k i n b y : Int32} (h : MT o S S1) : MT o S (mSend S1 o L k i n b y) := (MT.wO (MT.wI (MT.wI (MT.wI (MT.wI (MT.wI h))))))
theorem MT.cpy {a b : Nat} (h : MT o S S1) : MT o S (mCopy S1 o a b) := (MT.wI (MT.wJ (MT.wI (MT.wI (MT.wI (MT.wI (MT.wI (MT.wI h))))))))
theorem MT.sh {k m : Nat} (h : MT o S S1) : MT o S (mSh S1 o k m) := TO.trans h fun b hb => ⟨fun hm => ⟨fun j => if_neg (fun q => hm ⟨by omega, by omega⟩), fun j => if_neg (fun q => hm ⟨by omega, by omega⟩)⟩, fun _ _ => rfl, rfl, rfl⟩
theorem MT.rem {k L : Nat} (h : MT o S S1) : MT o S (mRem S1 o k L) := (MT.sh (MT.wO h))
theorem MT.fg {i n : Nat} (h : MT o S S1) : MT o S (mFg S1 o i n) := TO.trans h fun b hb => ⟨fun hm => ⟨fun j => if_neg (fun q => hm ⟨by omega, by omega⟩), fun j => rfl⟩, fun _ _ => rfl, rfl, rfl⟩
theorem MT.fail {i : Nat} (h : MT o S S1) : MT o S (mFail S1 o i) := (MT.wI (MT.wI h))
theorem MT.pl {L i : Nat} {bl : Int32} (h : MT o S S1) : ∀ n, MT o S (mPL S1 o L i bl n)
  | 0 => h
  | n + 1 => MT.snd (MT.pl h n)
theorem MT.al {L i : Nat} {sv tv bl : Int32} {mk : Int64} (h : MT o S S1) : ∀ n, MT o S (mAL S1 o L i sv tv mk bl n)
  | 0 => h
  | n + 1 => (MT.snd (MT.wJ (MT.wI (MT.wI (MT.al h n)))))
theorem MT.att {L i : Nat} {pv : Int32} (h : MT o S S1) : MT o S (mAtt S1 o L i pv) := MT.pl (MT.fg (MT.wI (MT.wI (MT.wI h)))) 5
theorem MT.acc {k L i : Nat} {sv tv bl : Int32} {fv : Int64} (h : MT o S S1) : MT o S (mAcc S1 o k L i sv tv fv bl) := MT.al (MT.wJ (MT.wI (MT.wI (MT.fg (MT.wI (MT.rem h)))))) 5
theorem MT.sty {t : Nat} {n st b i tm : Int32} {mk : Int64} (h : MT o S S1) : MT o S (mStory S1 o t n st b i tm mk) := (MT.wO (MT.wJ (MT.wI (MT.wI (MT.wI (MT.wI (MT.wI h)))))))
theorem MT.rdy {i n : Nat} (h : MT o S S1) : MT o S (mRdy S1 o i n) := (MT.wJ (MT.wJ (MT.wI (MT.wI (MT.wI (MT.wI (MT.wI h)))))))
theorem MT.gm {i : Nat} {n : Int32} {q : Int64 × Int32} (h : MT o S S1) : MT o S (gmS S1 o i n q) := (MT.wJ (MT.wI (MT.wJ h)))
/-! the class's -/
theorem CT.refl : CT x S S := TO.refl
theorem cr_ {x b : Nat} (h : x ≤ b ∧ b < x + 214) : cR x b := Or.inl h
theorem CT.wI {a k : Nat} {v : Int32} (h : CT x S S1) (ha : x ≤ a ∧ a < x + 214) : CT x S (sI S1 a k v) := TO.sI h (Or.inl ha)
theorem CT.wJ {a k : Nat} {v : Int64} (h : CT x S S1) (ha : x ≤ a ∧ a < x + 214) : CT x S (sJ S1 a k v) := TO.sJ h (Or.inl ha)
theorem CT.wR {a k : Nat} {v : Option Nat} (h : CT x S S1) (ha : x ≤ a ∧ a < x + 214) : CT x S (sR S1 a k v) := TO.sR h (Or.inl ha)
theorem CT.wW {a n : Nat} {f : Nat → Option Nat} (h : CT x S S1) (ha : x ≤ a ∧ a < x + 214) : CT x S (sRow S1 a n f) := TO.sRow h (Or.inl ha)
theorem CT.snd {a q : Nat} {kd is nd bl : Int32} (h : CT x S S1) (ha : x ≤ a ∧ a < x + 214) (hq : x ≤ q ∧ q < x + 214) : CT x S (cSend S1 a q kd is nd bl) := TO.cSend h (Or.inl ha) (Or.inl hq)
theorem CT.out {r : Int64} (h : CT x S S1) : CT x S (sJ S1 (x + 249) 0 r) := TO.sJ h (Or.inr rfl)
theorem CT.trans (h : CT x S S1) (h2 : CT x S1 S2) : CT x S S2 := TO.trans h h2
theorem CT.pl {L : Nat} {is bl : Int32} {lt : Nat → Nat} {po : Nat} (h : CT x S S1) (ha : x ≤ po ∧ po < x + 214) (hl : ∀ k, x ≤ lt k ∧ lt k < x + 214) : ∀ n, CT x S (cPL S1 po lt L is bl n)
  | 0 => h
  | n + 1 => CT.snd (CT.pl h ha hl n) ha (hl _)
theorem CT.al {L rw : Nat} {is bl st : Int32} {lt : Nat → Nat} {po : Nat} (h : CT x S S1) (ha : x ≤ po ∧ po < x + 214) (hl : ∀ k, x ≤ lt k ∧ lt k < x + 214) : ∀ n, CT x S (cAL S1 po lt L is bl st rw n)
  | 0 => h
  | n + 1 => CT.wR (CT.wI (CT.snd (CT.al h ha hl n) ha (hl _)) (hl _)) (hl _)
theorem CT.mkG {z : Nat} {st x1 x2 x3 : Int32} {fi mk : Int64} (h0 : gK S z = 0) (h1 : gK S (z + 1) = 0) : CT x S (mkGrant S z st fi x1 x2 x3 mk) := TO.mkG h0 h1
/-! the model's cells are there -/
theorem mTab_all : ∀ f, f < 35 → 0 < f → ∃ t ∈ mTab, t.2.1 = f ∧ 9 ≤ t.2.2.1 ∧ t.2.2.1 ≤ 11 := by decide
theorem mKf (h : mOK S o) {f : Nat} (hf : f ≤ 34) : 8 ≤ gK S (o + f) ∧ gK S (o + f) ≤ 11 := by
  by_cases h0 : f = 0
  · subst h0; have := h.1; rw [Nat.add_zero]; omega
  · obtain ⟨t, ht, e, h1, h2⟩ := mTab_all f (by omega) (by omega)
    have := (h.2 t ht).2.1
    rw [e] at this
    omega
theorem ct_v (h : mOK S (x + 214)) (hc : CT x S S1) {f : Nat} (hf : f ≤ 34) : (∀ j, gI S1 (x + 214 + f) j = gI S (x + 214 + f) j) ∧ (∀ j, gJ S1 (x + 214 + f) j = gJ S (x + 214 + f) j) ∧ (∀ j, gR S1 (x + 214 + f) j = gR S (x + 214 + f) j) ∧ gK S1 (x + 214 + f) = gK S (x + 214 + f) ∧ gn S1 (x + 214 + f) = gn S (x + 214 + f) := by
  have hk := mKf h hf
  obtain ⟨a1, a2, a3, a4⟩ := hc _ (show gK S (x + 214 + f) ≠ 0 by omega)
  have hm : ¬ cR x (x + 214 + f) := fun q => by rcases q with q | q <;> omega
  exact ⟨(a1 hm).1, (a1 hm).2, a2 hm, a3, a4⟩
theorem ct_ok (h : mOK S (x + 214)) (hc : CT x S S1) : mOK S1 (x + 214) := by
  have h0 := ct_v h hc (f := 0) (by decide)
  refine ⟨h0.2.2.2.1.trans h.1, fun t ht => ?_⟩
  obtain ⟨b1, b2, b3⟩ := h.2 t ht
  have hf : t.2.1 ≤ 34 := by
    have : ∀ t ∈ mTab, t.2.1 ≤ 34 := by decide
    exact this t ht
  have h1 := ct_v h hc hf
  exact ⟨(h0.2.2.1 t.1).trans b1, h1.2.2.2.1.trans b2, h1.2.2.2.2.trans b3⟩
theorem v_ml (h : ∀ f, f ≤ 34 → (∀ j, gI S1 (o + f) j = gI S (o + f) j) ∧ ∀ j, gJ S1 (o + f) j = gJ S (o + f) j) : ml S1 o = ml S o := by
  funext k
  unfold ml
  rw [(h 1 (by decide)).1, (h 2 (by decide)).1, (h 3 (by decide)).1, (h 4 (by decide)).1, (h 5 (by decide)).1, (h 6 (by decide)).1, (h 7 (by decide)).2, (h 8 (by decide)).1]
theorem v_mn (h : ∀ f, f ≤ 34 → (∀ j, gI S1 (o + f) j = gI S (o + f) j) ∧ ∀ j, gJ S1 (o + f) j = gJ S (o + f) j) : mn S1 o = mn S o := by
  funext k
  unfold mn
  rw [(h 15 (by decide)).1, (h 16 (by decide)).1]
theorem v_ms (h : ∀ f, f ≤ 34 → (∀ j, gI S1 (o + f) j = gI S (o + f) j) ∧ ∀ j, gJ S1 (o + f) j = gJ S (o + f) j) : ms S1 o = ms S o := by
  funext k
  unfold ms
  rw [(h 9 (by decide)).1, (h 10 (by decide)).1, (h 11 (by decide)).1, (h 12 (by decide)).1, (h 13 (by decide)).1, (h 14 (by decide)).2]
theorem v_mi (h : ∀ f, f ≤ 34 → (∀ j, gI S1 (o + f) j = gI S (o + f) j) ∧ ∀ j, gJ S1 (o + f) j = gJ S (o + f) j) : mi S1 o = mi S o := by
  funext k
  unfold mi
  rw [(h 17 (by decide)).2, (h 18 (by decide)).1, (h 19 (by decide)).1, (h 20 (by decide)).1, (h 21 (by decide)).1, (h 24 (by decide)).1, (h 25 (by decide)).1, (h 26 (by decide)).2, (h 27 (by decide)).1, (h 28 (by decide)).1, (h 29 (by decide)).1, (h 30 (by decide)).2, (h 31 (by decide)).2, (h 32 (by decide)).1, (h 33 (by decide)).1, (h 34 (by decide)).2,
    show (fun n => if n < 5 then gI S1 (o + 22) (5 * k + n) else 0) = (fun n => if n < 5 then gI S (o + 22) (5 * k + n) else 0) from funext fun n => by rw [(h 22 (by decide)).1],
    show (fun n => if n < 5 then gI S1 (o + 23) (5 * k + n) else 0) = (fun n => if n < 5 then gI S (o + 23) (5 * k + n) else 0) from funext fun n => by rw [(h 23 (by decide)).1]]
/-- behind the class's step, the model's part -/
theorem RS.cc (h : RS S S x (x + 214) pm L t J G) (hc : CT x S S1) : RS S S1 x (x + 214) pm L t J G := by
  have hm := h.2.2.1
  have hv : ∀ f, f ≤ 34 → (∀ j, gI S1 (x + 214 + f) j = gI S (x + 214 + f) j) ∧ ∀ j, gJ S1 (x + 214 + f) j = gJ S (x + 214 + f) j := fun f hf => ⟨(ct_v hm hc hf).1, (ct_v hm hc hf).2.1⟩
  exact h.tt (ct_ok hm hc) ((hv 0 (by decide)).1 1) ((hv 0 (by decide)).1 10) (v_ml hv) (v_mi hv) (v_mn hv) (v_ms hv)
/-- behind the model's step, the class's part -/
theorem RS.mm (h : RS S1 T1 x (x + 214) pm L t J G) (hm : mOK S1 (x + 214)) (hc : MT (x + 214) S1 T1) : RS T1 T1 x (x + 214) pm L t J G := by
  refine h.ss hc (fun b hb => ?_) (fun b hb => ?_)
  · rcases hb with hb | hb
    · exact Or.inr hb.1
    · exact hb.elim
  · rcases hb with hb | hb
    · have h1 := hb.1
      have := mKf hm (f := b - (x + 214)) (by have := hb.2; omega)
      rw [show x + 214 + (b - (x + 214)) = b by omega] at this
      omega
    · exact hb.elim
theorem RS.out {r : Int64} (h : RS S T x o pm L t J G) (hk : gK S (x + 249) = 10) : RS (sJ S (x + 249) 0 r) T x o pm L t J G := by
  refine h.ss (M := fun b => b = x + 249) (Mr := fun _ => False) (TO.sJ TO.refl rfl) (fun b hb => ?_) (fun b hb => ?_)
  · rcases hb with rfl | hb
    · omega
    · exact hb.elim
  · rcases hb with rfl | hb
    · omega
    · exact hb.elim
/-- what the law keeps: x the house, x + 214 the model, x + 249 the array for answers; J calls were made -/
def LI (x J : Nat) (S : gS) : Prop := ∃ (pm : Nat → Nat) (L t : Nat) (G : Nat → R3), RS S S x (x + 214) pm L t J G ∧ gK S (x + 249) = 10 ∧ gn S (x + 249) = 1
theorem ct_ot (hk : gK S (x + 249) = 10) (hn : gn S (x + 249) = 1) (hc : CT x S S1) : gK S1 (x + 249) = 10 ∧ gn S1 (x + 249) = 1 := by
  obtain ⟨a1, a2, a3, a4⟩ := hc (x + 249) (by omega)
  exact ⟨a3.trans hk, a4.trans hn⟩
theorem mt_ot (hk : gK S (x + 249) = 10) (hn : gn S (x + 249) = 1) (hc : MT (x + 214) S S1) : gK S1 (x + 249) = 10 ∧ gn S1 (x + 249) = 1 ∧ gJ S1 (x + 249) 0 = gJ S (x + 249) 0 := by
  obtain ⟨a1, a2, a3, a4⟩ := hc (x + 249) (by omega)
  exact ⟨a3.trans hk, a4.trans hn, (a1 (fun q => by have := q.2; omega)).2 0⟩
theorem LI.go (h : RS S S x (x + 214) pm L t J G) (hk : gK S (x + 249) = 10) (hn : gn S (x + 249) = 1) (hc : CT x S S1) (hm : MT (x + 214) S1 S3) (h3 : RS S1 S3 x (x + 214) pm1 L1 t1 J1 G1) : LI x J1 S3 := by
  have h1 := ct_ot hk hn hc
  have h2 := mt_ot h1.1 h1.2 hm
  exact ⟨pm1, L1, t1, G1, h3.mm (ct_ok h.2.2.1 hc) hm, h2.1, h2.2.1⟩
end FRM
/-! Numbers. -/
theorem exOA : exO ≠ exA := by decide
theorem exOS : exO ≠ exS := by decide
theorem exAS : exA ≠ exS := by decide
theorem n8 {p0 : Int32} {k : Nat} (h : ¬ (0 ≤ p0 ∧ p0 < 8)) (hk : k < 8) (e : p0 = nI k) : False := h (by rw [e]; exact ⟨nI_pos' (by omega), (nI_ltI (b := 8) (by omega) (by decide)).mpr hk⟩)
theorem nL_ {p0 : Int32} {k L : Nat} (h : ¬ (0 ≤ p0 ∧ p0 < nI L)) (hL : L ≤ 90) (hk : k < L) (e : p0 = nI k) : False := h (by rw [e]; exact ⟨nI_pos' (by omega), (nI_ltI (by omega) (by omega)).mpr hk⟩)
theorem nK {p0 : Int32} {k j : Nat} (hk : k < 91) (hj : j < 91) (e : p0 = nI k) (e2 : p0 = nI j) : j = k := ((nI_eq (by omega) (by omega)).mp (e.symm.trans e2)).symm
