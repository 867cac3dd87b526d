/-! The store: the system's cells as five functions of the address: kind, length, ints, longs, references. -/
abbrev gS : Type := (Nat → Nat) × (Nat → Nat) × (Nat → Nat → Int32) × (Nat → Nat → Int64) × (Nat → Nat → Option Nat)
def gK (S : gS) : Nat → Nat := S.1
def gn (S : gS) : Nat → Nat := S.2.1
def gI (S : gS) : Nat → Nat → Int32 := S.2.2.1
def gJ (S : gS) : Nat → Nat → Int64 := S.2.2.2.1
def gR (S : gS) : Nat → Nat → Option Nat := S.2.2.2.2
def up2 {α : Type} (f : Nat → Nat → α) (a k : Nat) (v : α) : Nat → Nat → α := fun b j => if j = k then (if b = a then v else f b j) else f b j
def sI (S : gS) (a k : Nat) (v : Int32) : gS := (gK S, gn S, up2 (gI S) a k v, gJ S, gR S)
def sJ (S : gS) (a k : Nat) (v : Int64) : gS := (gK S, gn S, gI S, up2 (gJ S) a k v, gR S)
def sR (S : gS) (a k : Nat) (v : Option Nat) : gS := (gK S, gn S, gI S, gJ S, up2 (gR S) a k v)
/-- a new cell of kind kd at a -/
def sN (S : gS) (a kd len : Nat) : gS := (va_up (gK S) a kd, va_up (gn S) a len, va_up (gI S) a (fun _ => 0), va_up (gJ S) a (fun _ => 0), va_up (gR S) a (fun _ => none))
def gS0 : gS := (fun _ => 0, fun _ => 0, fun _ _ => 0, fun _ _ => 0, fun _ _ => none)
theorem up2_s {α : Type} {f : Nat → Nat → α} {a k : Nat} {v : α} : up2 f a k v a k = v := by simp [up2]
theorem up2_a {α : Type} {f : Nat → Nat → α} {a k b j : Nat} {v : α} (h : b ≠ a) : up2 f a k v b j = f b j := by simp [up2, h]
theorem up2_k {α : Type} {f : Nat → Nat → α} {a k b j : Nat} {v : α} (h : j ≠ k) : up2 f a k v b j = f b j := by simp [up2, h]
theorem up2_row {α : Type} {f : Nat → Nat → α} {a k : Nat} {v : α} (b : Nat) : up2 f a k v b = if b = a then va_up (f a) k v else f b := by
  funext j
  by_cases h : b = a
  · subst h; simp [up2, va_up]
  · simp [up2, h]
def gT (ci k : Nat) : FieldType := match ci with
  | 0 => tyX0 k
  | 1 => tyX1 k
  | 2 => tyX2 k
  | 3 => tyX3 k
  | 4 => tyX4 k
  | 5 => tyX5 k
  | 6 => tyX6 k
  | _ => tyX7 k
def gN (ci : Nat) : Nat := match ci with
  | 0 => 3
  | 1 => 15
  | 2 => 8
  | 3 => 3
  | 4 => 2
  | 5 => 4
  | 6 => 4
  | _ => 37
/-- what a field of a type holds -/
def gV (S : gS) (a : Nat) (t : FieldType) (k : Nat) : Value := match t with
  | .long => .long (gJ S a k)
  | .int => .int (gI S a k)
  | .boolean => .int (gI S a k)
  | _ => va_rf (gR S a k)
def gF (S : gS) (a ci : Nat) : List Value := (List.range (gN ci)).map (fun k => gV S a (gT ci k) k)
def gA (S : gS) (a kd : Nat) : vp_A := (gn S a, if kd = 10 then .inr (.inl (gJ S a)) else if kd = 9 then .inl (gI S a) else if kd = 11 then .inl (gI S a) else .inr (.inr (.inr (.inr (gR S a)))))
def gE (cy : Nat → ClassId) (S : gS) (a : Nat) : va_E := if gK S a ≤ 8 then .inr (gK S a - 1, gF S a (gK S a - 1)) else .inl (cy (gK S a), gA S a (gK S a))
def gY (cy : Nat → ClassId) : List (ClassId × FieldType) := [(cy 9, .int), (cy 10, .long), (cy 11, .boolean), (cy 12, .object RX1), (cy 13, .object RX2), (cy 14, .object RX3), (cy 15, .object RX5)]
/-- the heap holds the store; all its cells lie from N0 on -/
def gP (N0 : Nat) (D : va_G) (cy : Nat → ClassId) (S : gS) (H : Heap) : Prop := (∃ L : List Nat, va_P D vwCl (va_pl L (gE cy S)) H ∧ va_D (fun q => N0 ≤ q) (va_pl L (gE cy S)) ∧ ∀ a, a ∈ L ↔ gK S a ≠ 0) ∧ N0 ≤ H.size
/-- what holds in a method's body -/
def gC (N0 : Nat) (D : va_G) (cy : Nat → ClassId) (p : Program) (s : State) (m : MethodId) (args : Array Value) (c : Code) (cc : ByteArray) (nL : Nat) (own : String) : Prop :=
  p.tables.exec = Jvm.exec ∧ c.code = cc ∧ c.maxLocals = nL ∧ s.vm.findClass own = some m.cls ∧ (∀ w ∈ wsAll, w.before args s = true) ∧ va_K D vwCl (gY cy) s ∧ N0 ≤ s.heap.size
theorem gF_len (S : gS) (a ci : Nat) : (gF S a ci).length = gN ci := by simp [gF]
theorem gF_at {S : gS} {a ci k : Nat} (hk : k < gN ci) : (gF S a ci)[k]? = some (gV S a (gT ci k) k) := by simp [gF, hk]
theorem gE_obj {cy : Nat → ClassId} {S : gS} {a ci : Nat} (h : gK S a = ci + 1) (hc : ci < 8) : gE cy S a = .inr (ci, gF S a ci) := by
  unfold gE
  rw [if_pos (by omega), h]
  rfl
theorem gE_arr {cy : Nat → ClassId} {S : gS} {a kd : Nat} (h : gK S a = kd) (hc : 8 < kd) : gE cy S a = .inl (cy kd, gA S a kd) := by
  unfold gE
  rw [if_neg (by omega), h]
theorem va_pl_at {L : List Nat} {f : Nat → va_E} {a : Nat} (h : a ∈ L) : ∃ k : Nat, (va_pl L f)[k]? = some (a, f a) := va_pl_get (X := []) h
/-- an object's cell alone -/
theorem gP.one {N0 : Nat} {D : va_G} {cy : Nat → ClassId} {S : gS} {H : Heap} (h : gP N0 D cy S H) {a : Nat} (ha : gK S a ≠ 0) : va_P D vwCl [(a, gE cy S a)] H := by
  obtain ⟨⟨L, hP, hD, hL⟩, hN⟩ := h
  obtain ⟨k, hk⟩ := va_pl_at (f := gE cy S) ((hL a).mpr ha)
  exact hP.sub [k] (by simp [hk])
theorem gP.lt {N0 : Nat} {D : va_G} {cy : Nat → ClassId} {S : gS} {H : Heap} (h : gP N0 D cy S H) {a : Nat} (ha : gK S a ≠ 0) : a < H.size := (h.one ha 0 _ rfl).lt
theorem gP.ge {N0 : Nat} {D : va_G} {cy : Nat → ClassId} {S : gS} {H : Heap} (h : gP N0 D cy S H) {a : Nat} (ha : gK S a ≠ 0) : N0 ≤ a := by
  obtain ⟨⟨L, hP, hD, hL⟩, hN⟩ := h
  obtain ⟨k, hk⟩ := va_pl_at (f := gE cy S) ((hL a).mpr ha)
  exact hD.2 k _ hk
theorem gP.fresh {N0 : Nat} {D : va_G} {cy : Nat → ClassId} {S : gS} {H : Heap} (h : gP N0 D cy S H) {a : Nat} (ha : H.size ≤ a) : gK S a = 0 := by
  by_cases hz : gK S a = 0
  · exact hz
  · exact absurd (h.lt hz) (by omega)
/-- one cell is written -/
theorem gP.upd {N0 : Nat} {D : va_G} {cy : Nat → ClassId} {S S' : gS} {H H1 : Heap} (h : gP N0 D cy S H) {a : Nat} (ha : gK S a ≠ 0) (hK : ∀ b, gK S' b = gK S b) (hE : ∀ b, b ≠ a → gE cy S' b = gE cy S b) (he : va_at D vwCl (a, gE cy S' a) H1) (z : H1.size = H.size) (oq : ∀ q : Nat, q ≠ a → H1[q]? = H[q]?) : gP N0 D cy S' H1 := by
  obtain ⟨⟨L, hP, hD, hL⟩, hN⟩ := h
  have hpl : ∀ (k : Nat) (q : Nat × va_E), (va_pl L (gE cy S'))[k]? = some q → (va_pl L (gE cy S))[k]? = some (q.1, gE cy S q.1) ∧ q.2 = gE cy S' q.1 := by
    intro k q hk
    simp only [va_pl, List.getElem?_map] at hk ⊢
    cases hx : L[k]? with
    | none => rw [hx] at hk; cases hk
    | some x => rw [hx] at hk; cases hk; exact ⟨rfl, rfl⟩
  refine ⟨⟨L, fun k q hk => ?_, ⟨fun i j x y hi hj hxy => ?_, fun k q hk => hD.2 k (q.1, gE cy S q.1) (hpl k q hk).1⟩, fun b => by rw [hK]; exact hL b⟩, by rw [z]; exact hN⟩
  · obtain ⟨h1, h2⟩ := hpl k q hk
    obtain ⟨b, e⟩ := q
    dsimp only at h1 h2
    subst h2
    by_cases hb : b = a
    · subst hb; exact he
    · rw [hE b hb]; exact (hP k _ h1).kept (oq b hb)
  · exact hD.1 i j _ _ (hpl i x hi).1 (hpl j y hj).1 hxy
/-- a cell is made -/
theorem gP.new {N0 : Nat} {D : va_G} {cy : Nat → ClassId} {S S' : gS} {H H1 : Heap} (h : gP N0 D cy S H) (hK : gK S' H.size ≠ 0) (hK' : ∀ b, b ≠ H.size → gK S' b = gK S b) (hE : ∀ b, b ≠ H.size → gE cy S' b = gE cy S b) (he : va_at D vwCl (H.size, gE cy S' H.size) H1) (z : H1.size = H.size + 1) (oq : ∀ q : Nat, q < H.size → H1[q]? = H[q]?) : gP N0 D cy S' H1 := by
  have hfr : gK S H.size = 0 := h.fresh (Nat.le_refl _)
  have hlt := fun {a : Nat} (ha : gK S a ≠ 0) => h.lt ha
  obtain ⟨⟨L, hP, hD, hL⟩, hN⟩ := h
  have hn : H.size ∉ L := fun q => (hL _).mp q hfr
  have hin : ∀ b ∈ L, b ≠ H.size := fun b hb e => hn (e ▸ hb)
  have e1 : va_pl (L ++ [H.size]) (gE cy S') = va_pl L (gE cy S) ++ [(H.size, gE cy S' H.size)] := by
    simp only [va_pl, List.map_append, List.map_cons, List.map_nil]
    congr 1
    exact List.map_congr_left fun b hb => by rw [hE b (hin b hb)]
  refine ⟨⟨L ++ [H.size], ?_, ?_, fun b => ?_⟩, by omega⟩
  · rw [e1]
    refine va_P.app (hP.kept fun k q hk => oq q.1 ((hP k q hk).lt)) (fun k q hk => ?_)
    have hz : k < 1 := (List.getElem?_eq_some_iff.mp hk).1
    rw [show k = 0 by omega] at hk
    cases hk
    exact he
  · rw [e1]; exact hD.push hP rfl hN
  · by_cases hb : b = H.size
    · subst hb; simp [hK]
    · rw [hK' b hb]; simp [hb, hL]
