/-! Array stores, new cells. -/
section GR2
variable {p : Program} {l : Launch} {e : Env} {R : Room} {s : State} {m : MethodId} {args : Array Value} {below : List Frame} {meth : Method} {c : Code} {H : Heap} {locs : List Loc} {cells slots : Nat} {Q : State → Prop}
variable {cc : ByteArray} {pc nL : Nat} {own : String} {ls : Array Slot} {rest : List Value} {N0 : Nat} {D : va_G} {cy : Nat → ClassId} {S : gS} {a : Nat}
theorem up2_self {α : Type} {f : Nat → Nat → α} {a k : Nat} {v : α} : up2 f a k v a = va_up (f a) k v := by rw [up2_row, if_pos rfl]
theorem g_iast (hC : gC N0 D cy p s m args c cc nL own) (hP : gP N0 D cy S H) (hS : va_S (fun q => N0 ≤ q) s.heap H locs) (hKa : gK S a = 9) {i x : Int32} (hin : vp_in i (gn S a)) (hdg : decode cc pc = .ok (.iastore, 1))
    (kk : ∀ (H1 : Heap) (locs1 : List Loc), gP N0 D cy (sI S a i.toNatClampNeg x) H1 → H1.size = H.size → va_S (fun q => N0 ≤ q) s.heap H1 locs1 → W p l e R s m args below meth c H1 locs1 cells slots Q (F0 m (pc + 1) ls rest)) : W p l e R s m args below meth c H locs cells slots Q (F0 m pc ls (.int x :: .int i :: .ref a :: rest)) := by
  obtain ⟨hx, hb, -, hown, hts, hK, -⟩ := hC
  have h1 := hP.one (a := a) (by omega)
  rw [gE_arr hKa (by omega)] at h1
  refine W.iast hx hb (h1 0 _ rfl) ((hK.2 0 _ rfl).1 (gn S a) (fun j => .int (gI S a j))) (fun q => by cases q) (by show ¬ (i < 0 ∨ (arrV _ _ _).slots.size ≤ _); rw [arrV_size]; exact hin) rfl rfl hdg fun H1 e z oq => ?_
  refine kk H1 _ (hP.upd (a := a) (by omega) (fun _ => rfl) (fun b hb => gE_sI hb) ?_ z oq) z (hS.put z oq (hP.ge (a := a) (by omega)))
  rw [gE_arr (kd := 9) (show gK (sI S a i.toNatClampNeg x) a = 9 from hKa) (by omega)]
  show H1[a]? = some (vp_cell _ _)
  rw [e]
  show some ((arrV (cy 9) (gn S a) (fun j => .int (gI S a j))).setSlot i.toNatClampNeg (.int x)) = some (arrV (cy 9) (gn S a) (fun j => .int (gI (sI S a i.toNatClampNeg x) a j)))
  rw [arrV_store]
  congr 2
  funext q
  by_cases hq : q = i.toNatClampNeg
  · subst hq; simp [updV, sI, gI, up2]
  · simp [updV, sI, gI, up2, hq]
theorem g_zast (hC : gC N0 D cy p s m args c cc nL own) (hP : gP N0 D cy S H) (hS : va_S (fun q => N0 ≤ q) s.heap H locs) (hKa : gK S a = 11) {i x : Int32} (hin : vp_in i (gn S a)) (hx01 : vp_nar .boolean x = x) (hdg : decode cc pc = .ok (.bastore, 1))
    (kk : ∀ (H1 : Heap) (locs1 : List Loc), gP N0 D cy (sI S a i.toNatClampNeg x) H1 → H1.size = H.size → va_S (fun q => N0 ≤ q) s.heap H1 locs1 → W p l e R s m args below meth c H1 locs1 cells slots Q (F0 m (pc + 1) ls rest)) : W p l e R s m args below meth c H locs cells slots Q (F0 m pc ls (.int x :: .int i :: .ref a :: rest)) := by
  obtain ⟨hx, hb, -, hown, hts, hK, -⟩ := hC
  have h1 := hP.one (a := a) (by omega)
  rw [gE_arr hKa (by omega)] at h1
  have hnar : narrow .boolean (.int x) = .int x := by
    have h2 : narrow .boolean (.int x) = .int (vp_nar .boolean x) := rfl
    rw [h2, hx01]
  refine W.zast hx hb (h1 0 _ rfl) ((hK.2 2 _ rfl).1 (gn S a) (fun j => .int (gI S a j))) (fun q => by cases q) (by show ¬ (i < 0 ∨ (arrV _ _ _).slots.size ≤ _); rw [arrV_size]; exact hin) rfl rfl hdg fun H1 e z oq => ?_
  refine kk H1 _ (hP.upd (a := a) (by omega) (fun _ => rfl) (fun b hb => gE_sI hb) ?_ z oq) z (hS.put z oq (hP.ge (a := a) (by omega)))
  rw [gE_arr (kd := 11) (show gK (sI S a i.toNatClampNeg x) a = 11 from hKa) (by omega)]
  show H1[a]? = some (vp_cell _ _)
  rw [e, hnar]
  show some ((arrV (cy 11) (gn S a) (fun j => .int (gI S a j))).setSlot i.toNatClampNeg (.int x)) = some (arrV (cy 11) (gn S a) (fun j => .int (gI (sI S a i.toNatClampNeg x) a j)))
  rw [arrV_store]
  congr 2
  funext q
  by_cases hq : q = i.toNatClampNeg
  · subst hq; simp [updV, sI, gI, up2]
  · simp [updV, sI, gI, up2, hq]
theorem g_last (hC : gC N0 D cy p s m args c cc nL own) (hP : gP N0 D cy S H) (hS : va_S (fun q => N0 ≤ q) s.heap H locs) (hKa : gK S a = 10) {i : Int32} {x : Int64} (hin : vp_in i (gn S a)) (hdg : decode cc pc = .ok (.lastore, 1))
    (kk : ∀ (H1 : Heap) (locs1 : List Loc), gP N0 D cy (sJ S a i.toNatClampNeg x) H1 → H1.size = H.size → va_S (fun q => N0 ≤ q) s.heap H1 locs1 → W p l e R s m args below meth c H1 locs1 cells slots Q (F0 m (pc + 1) ls rest)) : W p l e R s m args below meth c H locs cells slots Q (F0 m pc ls (.long x :: .int i :: .ref a :: rest)) := by
  obtain ⟨hx, hb, -, hown, hts, hK, -⟩ := hC
  have h1 := hP.one (a := a) (by omega)
  rw [gE_arr hKa (by omega)] at h1
  refine W.last hx hb (h1 0 _ rfl) ((hK.2 1 _ rfl).1 (gn S a) (fun j => .long (gJ S a j))) (fun q => by cases q) (by show ¬ (i < 0 ∨ (arrV _ _ _).slots.size ≤ _); rw [arrV_size]; exact hin) rfl rfl hdg fun H1 e z oq => ?_
  refine kk H1 _ (hP.upd (a := a) (by omega) (fun _ => rfl) (fun b hb => gE_sJ hb) ?_ z oq) z (hS.put z oq (hP.ge (a := a) (by omega)))
  rw [gE_arr (kd := 10) (show gK (sJ S a i.toNatClampNeg x) a = 10 from hKa) (by omega)]
  show H1[a]? = some (vp_cell _ _)
  rw [e]
  show some ((arrV (cy 10) (gn S a) (fun j => .long (gJ S a j))).setSlot i.toNatClampNeg (.long x)) = some (arrV (cy 10) (gn S a) (fun j => .long (gJ (sJ S a i.toNatClampNeg x) a j)))
  rw [arrV_store]
  congr 2
  funext q
  by_cases hq : q = i.toNatClampNeg
  · subst hq; simp [updV, sJ, gJ, up2]
  · simp [updV, sJ, gJ, up2, hq]
/-- a reference v to an object of the class with the number ci into an array of its class -/
theorem g_aast (hC : gC N0 D cy p s m args c cc nL own) (hP : gP N0 D cy S H) (hS : va_S (fun q => N0 ≤ q) s.heap H locs) {kd ci v t0 : Nat} {C : String} {T : u_T} (hkd : 11 < kd) (ht : (gY cy)[t0]? = some (cy kd, .object C)) (hc : vwCl[ci]? = some (C, T, gN ci)) (hci : ci < 8) (hKa : gK S a = kd) (hKv : gK S v = ci + 1) {i : Int32} (hin : vp_in i (gn S a)) (hdg : decode cc pc = .ok (.aastore, 1))
    (kk : ∀ (H1 : Heap) (locs1 : List Loc), gP N0 D cy (sR S a i.toNatClampNeg (some v)) H1 → H1.size = H.size → va_S (fun q => N0 ≤ q) s.heap H1 locs1 → W p l e R s m args below meth c H1 locs1 cells slots Q (F0 m (pc + 1) ls rest)) : W p l e R s m args below meth c H locs cells slots Q (F0 m pc ls (.ref v :: .int i :: .ref a :: rest)) := by
  obtain ⟨hx, hb, -, hown, hts, hK, -⟩ := hC
  have h1 := hP.one (a := a) (by omega)
  have h2 := hP.one (a := v) (by omega)
  rw [gE_arr hKa (by omega)] at h1
  rw [gE_obj hKv hci] at h2
  have e1 : gA S a kd = (gn S a, .inr (.inr (.inr (.inr (gR S a))))) := by
    unfold gA
    rw [if_neg (by omega), if_neg (by omega), if_neg (by omega)]
  rw [e1] at h1
  have hlt : i.toNatClampNeg < gn S a := Nat.not_le.mp fun q => hin (Or.inr q)
  have h0 : ¬ i < 0 := fun q => hin (Or.inl q)
  obtain ⟨r', hr', cellV, g1, g2, g3, -⟩ := h2 0 _ rfl
  have hcls := (hK.1 ci _ hc).2
  obtain ⟨kA, comp, k1, k2, k3, -⟩ := (hK.2 t0 _ ht).2
  have hcomp : comp = D.1 ci := Option.some.inj (k3.symm.trans hcls.1)
  subst hcomp
  obtain ⟨kC, hkC, -⟩ := hcls.2
  refine W.aast hx hb (h1 0 _ rfl) (fun q h => by cases h) (fun h => by cases h) k1 k2 rfl hkC ⟨h0, by show _ < (arrV _ _ _).slots.size; rw [arrV_size]; exact hlt⟩ g1 (fun q h => by rw [g3] at h; cases h) (by rw [g2]; exact hkC) (by rw [g2]; exact va_assign hcls) rfl rfl hdg fun H1 e z oq => ?_
  refine kk H1 _ (hP.upd (a := a) (by omega) (fun _ => rfl) (fun b hb => gE_sR hb) ?_ z oq) z (hS.put z oq (hP.ge (a := a) (by omega)))
  rw [gE_arr (kd := kd) (show gK (sR S a i.toNatClampNeg (some v)) a = kd from hKa) (by omega)]
  have e2 : gA (sR S a i.toNatClampNeg (some v)) a kd = (gn S a, .inr (.inr (.inr (.inr (gR (sR S a i.toNatClampNeg (some v)) a))))) := by
    unfold gA
    rw [if_neg (by omega), if_neg (by omega), if_neg (by omega)]
    rfl
  rw [e2]
  show H1[a]? = some (vp_cell _ _)
  rw [e]
  rw [vp_cell_q, vp_cell_q, arrV_store]
  congr 2
  funext q
  by_cases hq : q = i.toNatClampNeg
  · subst hq; simp [updV, sR, gR, up2, va_rf]
  · simp [updV, sR, gR, up2, hq]
def gok (t : FieldType) : Bool := match t with
  | .long => true
  | .int => true
  | .boolean => true
  | .object _ => true
  | .array _ => true
  | _ => false
theorem g_new (hC : gC N0 D cy p s m args c cc nL own) (hP : gP N0 D cy S H) (hS : va_S (fun q => N0 ≤ q) s.heap H locs) {ci index : Nat} {C : String} {T : u_T} (hc : vwCl[ci]? = some (C, T, gN ci)) (hci : ci < 8) (hin : ∀ w ∈ u_ws C T (gN ci), w ∈ wsAll) (hty : ∀ k, k < gN ci → parseFieldDescriptor (T k).2.2.1 = some (gT ci k)) (hok : ∀ k, k < gN ci → gok (gT ci k) = true) (hcl : Cond.classLink own index C ∈ wsAll) (hinst : Cond.instantiable C (gN ci) ∈ wsAll) (hini : Cond.initialized C ∈ wsAll) (hcells : cells + 1 ≤ R.cells) (hslots : slots + gN ci ≤ R.slots) (hdg : decode cc pc = .ok (.new index, 3))
    (kk : ∀ (H1 : Heap), gP N0 D cy (sN S H.size (ci + 1) 0) H1 → H1.size = H.size + 1 → va_S (fun q => N0 ≤ q) s.heap H1 locs → W p l e R s m args below meth c H1 locs (cells + 1) (slots + gN ci) Q (F0 m (pc + 3) ls (.ref H.size :: rest))) : W p l e R s m args below meth c H locs cells slots Q (F0 m pc ls rest) := by
  obtain ⟨hx, hb, -, hown, hts, hK, hN⟩ := hC
  have hKn := hK.1 ci _ hc
  refine W.newcK hx hb hown (hts _ hcl) (hts _ hinst) (hts _ hini) rfl hdg hcells hslots hKn.2.1 rfl fun H1 kC hkC e1 z1 o1 => ?_
  have hk0 : gK (sN S H.size (ci + 1) 0) H.size = ci + 1 := by simp [sN, gK, va_up]
  refine kk H1 (hP.new (by omega) (fun b hb => by simp [sN, gK, va_up, hb]) (fun b hb => gE_sN hb) ?_ z1 o1) z1 ⟨Nat.le_trans hS.1 (by omega), fun x h1 h2 => (o1 x (Nat.lt_of_lt_of_le h1 hS.1)).trans (hS.2.1 x h1 h2), hS.2.2⟩
  rw [gE_obj hk0 hci]
  refine ⟨_, hc, (u_born (gT ci) hts hin hKn hkC e1 hty).to (fun j hj => ?_)⟩
  have hj' : j < gN ci := hj
  unfold vp_V
  rw [List.getD_eq_getElem?_getD, gF_at hj']
  have h3 := hok j hj'
  revert h3
  unfold gV
  cases gT ci j <;> intro h3 <;> first | (cases h3; done) | (simp [defaultValue, sN, gI, gJ, gR, va_up, va_rf]; done)
/-- arrays of ints, longs, booleans -/
theorem g_newa (hC : gC N0 D cy p s m args c cc nL own) (hP : gP N0 D cy S H) (hS : va_S (fun q => N0 ≤ q) s.heap H locs) {atype : ArrayType} {kd t0 : Nat} {ty : FieldType} (hat : newarray.typeOf atype = ty) (ht : (gY cy)[t0]? = some (cy kd, ty)) (hty : (ty = .int ∧ kd = 9) ∨ (ty = .long ∧ kd = 10) ∨ (ty = .boolean ∧ kd = 11)) (hw : Cond.arrayClass ty ∈ wsAll) {n : Int32} {N' : Nat} (hn : ¬ n < 0) (hN : n.toNatClampNeg = N') (hbytes : N' * componentBytes ty ≤ 536870912) (hcells : cells + 1 ≤ R.cells) (hslots : slots + N' ≤ R.slots) (hdg : decode cc pc = .ok (.newarray atype, 2))
    (kk : ∀ (H1 : Heap), gP N0 D cy (sN S H.size kd N') H1 → H1.size = H.size + 1 → va_S (fun q => N0 ≤ q) s.heap H1 locs → W p l e R s m args below meth c H1 locs (cells + 1) (slots + N') Q (F0 m (pc + 2) ls (.ref H.size :: rest))) : W p l e R s m args below meth c H locs cells slots Q (F0 m pc ls (.int n :: rest)) := by
  obtain ⟨hx, hb, -, hown, hts, hK, hNN⟩ := hC
  subst hat
  refine va_newaK hx hb (hts _ hw) rfl hdg rfl hn hN hbytes hcells hslots rfl fun H1 cA e1 z1 o1 hAr hNm => ?_
  have hcy : cA = cy kd := by
    have h4 := (hK.2 t0 _ ht).2
    have h5 : s.vm.findClass ("[" ++ (newarray.typeOf atype).toString) = some (cy kd) := by
      rcases hty with ⟨h, -⟩ | ⟨h, -⟩ | ⟨h, -⟩ <;> (dsimp only at h4; rw [h] at h4 ⊢; exact h4)
    exact Option.some.inj (hNm.symm.trans h5)
  subst hcy
  have hkd : 8 < kd := by rcases hty with ⟨-, h⟩ | ⟨-, h⟩ | ⟨-, h⟩ <;> omega
  have hk0 : gK (sN S H.size kd N') H.size = kd := by simp [sN, gK, va_up]
  refine kk H1 (hP.new (by omega) (fun b hb => by simp [sN, gK, va_up, hb]) (fun b hb => gE_sN hb) ?_ z1 o1) z1 ⟨Nat.le_trans hS.1 (by omega), fun x h1 h2 => (o1 x (Nat.lt_of_lt_of_le h1 hS.1)).trans (hS.2.1 x h1 h2), hS.2.2⟩
  rw [gE_arr hk0 hkd]
  show H1[H.size]? = some (vp_cell _ _)
  rw [e1]
  have a1 : gn (sN S H.size kd N') H.size = N' := by simp [sN, gn, va_up]
  have a2 : gI (sN S H.size kd N') H.size = fun _ => 0 := by simp [sN, gI, va_up]
  have a3 : gJ (sN S H.size kd N') H.size = fun _ => 0 := by simp [sN, gJ, va_up]
  rcases hty with ⟨h, hh⟩ | ⟨h, hh⟩ | ⟨h, hh⟩ <;> rw [h] <;> subst hh <;> simp [gA, a1, a2, a3, vp_cell, defaultValue]
/-- arrays of references -/
theorem g_newq (hC : gC N0 D cy p s m args c cc nL own) (hP : gP N0 D cy S H) (hS : va_S (fun q => N0 ≤ q) s.heap H locs) {C : String} {kd t0 index : Nat} (hkd : 11 < kd) (ht : (gY cy)[t0]? = some (cy kd, .object C)) (hcl : Cond.classLink own index C ∈ wsAll) (hover : va_AO C s) {n : Int32} {N' : Nat} (hn : ¬ n < 0) (hN : n.toNatClampNeg = N') (hbytes : N' * 4 ≤ 536870912) (hcells : cells + 1 ≤ R.cells) (hslots : slots + N' ≤ R.slots) (hdg : decode cc pc = .ok (.anewarray index, 3))
    (kk : ∀ (H1 : Heap), gP N0 D cy (sN S H.size kd N') H1 → H1.size = H.size + 1 → va_S (fun q => N0 ≤ q) s.heap H1 locs → W p l e R s m args below meth c H1 locs (cells + 1) (slots + N') Q (F0 m (pc + 3) ls (.ref H.size :: rest))) : W p l e R s m args below meth c H locs cells slots Q (F0 m pc ls (.int n :: rest)) := by
  obtain ⟨hx, hb, -, hown, hts, hK, hNN⟩ := hC
  subst hN
  refine W.anew hx hb hown (hts _ hcl) (va_AO.use hover) rfl hdg rfl hn hbytes hcells hslots fun cA kA comp f1 f2 f3 f4 => ?_
  generalize hH1 : H.push ({ cls := cA, slots := Array.replicate n.toNatClampNeg .null, vm := .none } : Cell) = H1
  have z1 : H1.size = H.size + 1 := by rw [← hH1, Array.size_push]
  have e1 : H1[H.size]? = some (arrV cA n.toNatClampNeg (fun _ => .null)) := by rw [← hH1, Array.getElem?_push_size, ← arrV_new]
  have o1 : ∀ q : Nat, q < H.size → H1[q]? = H[q]? := fun q hq => by rw [← hH1, Array.getElem?_push, if_neg (Nat.ne_of_lt hq)]
  have hcy : cA = cy kd := by
    obtain ⟨-, -, -, -, -, h4⟩ := (hK.2 t0 _ ht).2
    exact Option.some.inj (f1.symm.trans h4)
  subst hcy
  have hk0 : gK (sN S H.size kd n.toNatClampNeg) H.size = kd := by simp [sN, gK, va_up]
  refine kk H1 (hP.new (by omega) (fun b hb => by simp [sN, gK, va_up, hb]) (fun b hb => gE_sN hb) ?_ z1 o1) z1 ⟨Nat.le_trans hS.1 (by omega), fun x h1 h2 => (o1 x (Nat.lt_of_lt_of_le h1 hS.1)).trans (hS.2.1 x h1 h2), hS.2.2⟩
  rw [gE_arr hk0 (by omega)]
  show H1[H.size]? = some (vp_cell _ _)
  rw [e1]
  have a1 : gn (sN S H.size kd n.toNatClampNeg) H.size = n.toNatClampNeg := by simp [sN, gn, va_up]
  have a4 : gR (sN S H.size kd n.toNatClampNeg) H.size = fun _ => none := by simp [sN, gR, va_up]
  unfold gA
  rw [if_neg (by omega), if_neg (by omega), if_neg (by omega), a1, a4]
  rfl
end GR2
