/-! Rows of the machine over the store. -/
section GR
variable {p : Program} {l : Launch} {e : Env} {R : Room} {s : State} {m : MethodId} {args : Array Value} {below : List Frame} {meth : Method} {c : Code} {H : Heap} {locs : List Loc} {cells slots : Nat} {Q : State → Prop}
variable {cc : ByteArray} {pc nL : Nat} {own : String} {ls : Array Slot} {rest : List Value} {N0 : Nat} {D : va_G} {cy : Nat → ClassId} {S : gS} {a : Nat}
theorem gF_I {S : gS} {a ci k : Nat} {v : Int32} (ht : gT ci k = .int ∨ gT ci k = .boolean) (hk : k < gN ci) : gF (sI S a k v) a ci = (gF S a ci).set k (.int v) := by
  apply List.ext_getElem?
  intro j
  by_cases hj : j < gN ci
  · rw [gF_at hj]
    by_cases hjk : j = k
    · subst hjk
      rw [List.getElem?_set_self (by rw [gF_len]; exact hj)]
      rcases ht with ht | ht <;> simp [gV, ht, sI, gI, up2]
    · rw [List.getElem?_set_ne (Ne.symm hjk), gF_at hj]
      congr 1
      unfold gV
      split <;> simp [sI, gI, gJ, gR, up2, hjk]
  · rw [List.getElem?_eq_none (by rw [gF_len]; omega), List.getElem?_eq_none (by rw [List.length_set, gF_len]; omega)]
theorem gF_J {S : gS} {a ci k : Nat} {v : Int64} (ht : gT ci k = .long) (hk : k < gN ci) : gF (sJ S a k v) a ci = (gF S a ci).set k (.long v) := by
  apply List.ext_getElem?
  intro j
  by_cases hj : j < gN ci
  · rw [gF_at hj]
    by_cases hjk : j = k
    · subst hjk
      rw [List.getElem?_set_self (by rw [gF_len]; exact hj)]
      simp [gV, ht, sJ, gJ, up2]
    · rw [List.getElem?_set_ne (Ne.symm hjk), gF_at hj]
      congr 1
      unfold gV
      split <;> simp [sJ, gI, gJ, gR, up2, hjk]
  · rw [List.getElem?_eq_none (by rw [gF_len]; omega), List.getElem?_eq_none (by rw [List.length_set, gF_len]; omega)]
def gref (t : FieldType) : Bool := match t with
  | .object _ => true
  | .array _ => true
  | _ => false
theorem gV_ref {S : gS} {a k : Nat} {t : FieldType} (ht : gref t = true) : gV S a t k = va_rf (gR S a k) := by
  cases t <;> first | rfl | cases ht
theorem gF_R {S : gS} {a ci k : Nat} {v : Option Nat} (ht : gref (gT ci k) = true) (hk : k < gN ci) : gF (sR S a k v) a ci = (gF S a ci).set k (va_rf v) := by
  apply List.ext_getElem?
  intro j
  by_cases hj : j < gN ci
  · rw [gF_at hj]
    by_cases hjk : j = k
    · subst hjk
      rw [List.getElem?_set_self (by rw [gF_len]; exact hj), gV_ref ht]
      simp [sR, gR, up2]
    · rw [List.getElem?_set_ne (Ne.symm hjk), gF_at hj]
      congr 1
      unfold gV
      split <;> simp [sR, gI, gJ, gR, up2, hjk]
  · rw [List.getElem?_eq_none (by rw [gF_len]; omega), List.getElem?_eq_none (by rw [List.length_set, gF_len]; omega)]
theorem gE_sI {a k b : Nat} {v : Int32} (h : b ≠ a) : gE cy (sI S a k v) b = gE cy S b := by
  have e1 : gI (sI S a k v) b = gI S b := by funext j; exact up2_a h
  simp only [gE, gF, gA, gV]
  simp only [show gK (sI S a k v) = gK S from rfl, show gn (sI S a k v) = gn S from rfl, show gJ (sI S a k v) = gJ S from rfl, show gR (sI S a k v) = gR S from rfl, e1]
theorem gE_sJ {a k b : Nat} {v : Int64} (h : b ≠ a) : gE cy (sJ S a k v) b = gE cy S b := by
  have e1 : gJ (sJ S a k v) b = gJ S b := by funext j; exact up2_a h
  simp only [gE, gF, gA, gV]
  simp only [show gK (sJ S a k v) = gK S from rfl, show gn (sJ S a k v) = gn S from rfl, show gI (sJ S a k v) = gI S from rfl, show gR (sJ S a k v) = gR S from rfl, e1]
theorem gE_sR {a k b : Nat} {v : Option Nat} (h : b ≠ a) : gE cy (sR S a k v) b = gE cy S b := by
  have e1 : gR (sR S a k v) b = gR S b := by funext j; exact up2_a h
  simp only [gE, gF, gA, gV]
  simp only [show gK (sR S a k v) = gK S from rfl, show gn (sR S a k v) = gn S from rfl, show gI (sR S a k v) = gI S from rfl, show gJ (sR S a k v) = gJ S from rfl, e1]
theorem gE_sN {a kd len b : Nat} (h : b ≠ a) : gE cy (sN S a kd len) b = gE cy S b := by
  have e1 : gI (sN S a kd len) b = gI S b := by simp [sN, gI, va_up, h]
  have e2 : gJ (sN S a kd len) b = gJ S b := by simp [sN, gJ, va_up, h]
  have e3 : gR (sN S a kd len) b = gR S b := by simp [sN, gR, va_up, h]
  have e4 : gK (sN S a kd len) b = gK S b := by simp [sN, gK, va_up, h]
  have e5 : gn (sN S a kd len) b = gn S b := by simp [sN, gn, va_up, h]
  simp only [gE, gF, gA, gV, e1, e2, e3, e4, e5]
theorem g_get (hC : gC N0 D cy p s m args c cc nL own) (hP : gP N0 D cy S H) {ci k index : Nat} {C : String} {T : u_T} (hc : vwCl[ci]? = some (C, T, gN ci)) (hci : ci < 8) (hin : ∀ w ∈ u_ws C T (gN ci), w ∈ wsAll) (hk : k < gN ci) (hlink : Cond.fieldLink own index (T k).1 (T k).2.1 (T k).2.2.1 ∈ wsAll) (hKa : gK S a = ci + 1) (hdg : decode cc pc = .ok (.getfield index, 3))
    (kk : W p l e R s m args below meth c H locs cells slots Q (F0 m (pc + 3) ls (gV S a (gT ci k) k :: rest))) : W p l e R s m args below meth c H locs cells slots Q (F0 m pc ls (.ref a :: rest)) := by
  obtain ⟨hx, hb, -, hown, hts, hK, -⟩ := hC
  have h1 := hP.one (a := a) (by omega)
  rw [gE_obj hKa hci] at h1
  exact va_get hx hb hts hin hown hK h1 0 rfl hc k hk (hts _ hlink) (fun x h => h) (gF_at hk) hdg kk
theorem g_put (hC : gC N0 D cy p s m args c cc nL own) (hP : gP N0 D cy S H) (hS : va_S (fun q => N0 ≤ q) s.heap H locs) {ci k index : Nat} {C : String} {T : u_T} (hc : vwCl[ci]? = some (C, T, gN ci)) (hci : ci < 8) (hin : ∀ w ∈ u_ws C T (gN ci), w ∈ wsAll) (hty : ∀ k, k < gN ci → parseFieldDescriptor (T k).2.2.1 = some (gT ci k)) (hnm : ∀ a, a < gN ci → ∀ b, b < gN ci → a ≠ b → (T a).2.1 ≠ (T b).2.1) (hk : k < gN ci) (hlink : Cond.fieldLink own index (T k).1 (T k).2.1 (T k).2.2.1 ∈ wsAll) (hfin : (T k).2.2.2 = false ∨ (meth.name = "<init>" ∧ (T k).1 = own ∧ (T k).2.2.2 = true)) {v : Value} (hn : narrow (gT ci k) v = v) (hfit : fits (gT ci k) v = true) (hKa : gK S a = ci + 1) {S2 : gS} (hK' : gK S2 = gK S) (hE : ∀ b, b ≠ a → gE cy S2 b = gE cy S b) (hF : gF S2 a ci = (gF S a ci).set k v) (hdg : decode cc pc = .ok (.putfield index, 3))
    (kk : ∀ (H1 : Heap) (locs1 : List Loc), gP N0 D cy S2 H1 → H1.size = H.size → va_S (fun q => N0 ≤ q) s.heap H1 locs1 → W p l e R s m args below meth c H1 locs1 cells slots Q (F0 m (pc + 3) ls rest)) : W p l e R s m args below meth c H locs cells slots Q (F0 m pc ls (v :: .ref a :: rest)) := by
  obtain ⟨hx, hb, -, hown, hts, hK, -⟩ := hC
  have h1 := hP.one (a := a) (by omega)
  have hge : N0 ≤ a := hP.ge (by omega)
  rw [gE_obj hKa hci] at h1
  have hap := va_apart (own := own) hts hin (gT ci) hty hnm hK hc
  obtain ⟨r, h1, cell, q1, q2, q3, q4⟩ := h1 0 _ rfl
  have hr : r = (C, T, gN ci) := Option.some.inj (h1.symm.trans hc)
  subst hr
  obtain ⟨hSl, hfc, kC, hkC, hkind⟩ := hK.1 ci _ hc
  obtain ⟨cf, kf, fi, f, hi, hsl⟩ := hSl k hk
  have hlay := hts _ (hin _ (u_in_lay hk))
  have hst := (u_facts hfc hkC (u_lays hts hin hk) hi).1
  have fin : ∀ (H' : Heap), H'[a]? = some (cell.setSlot f.slot v) → H'.size = H.size → (∀ q, q ≠ a → H'[q]? = H[q]?) → W p l e R s m args below meth c H' (locs ++ [⟨a, f.slot⟩]) cells slots Q (F0 m (pc + 3) ls rest) := by
    intro H' e1 e2 e3
    rw [hsl] at e1
    refine kk H' _ (hP.upd (a := a) (by omega) (fun b => by rw [hK']) hE ?_ e2 e3) e2 (hS.put e2 e3 hge)
    rw [gE_obj (ci := ci) (by rw [hK']; exact hKa) hci, hF]
    exact ⟨_, hc, t_OB.to (V := updV (vp_V (gF S a ci)) k v) ⟨_, e1, q2, q3, t_set q4 hap hk v⟩ (fun j _ => vp_updV_set (by rw [gF_len]; exact hk) v j)⟩
  rcases hfin with hfin | ⟨hin2, hdecl, hfin⟩
  · unfold u_lay at hlay
    rw [if_neg (by rw [hfin]; decide)] at hlay
    have h6 := u_store hfc hkC hkind hlay hi (hty k hk) hn hfit
    exact W.putK hx hb (f := f) ⟨hown, hts _ hlink, ⟨_, _, _, hi⟩, hst⟩ (by rw [q2]; exact h6) q1 q3 (by rw [hsl]; exact k2_hasslot (q4 k hk)) rfl rfl hdg fin
  · unfold u_lay at hlay
    rw [if_pos hfin] at hlay
    have hcf : m.cls = cf := by
      obtain ⟨_, _, c', _, _, _, -, -, hf', -, -, -, hown2, -⟩ := Cond.laysFinal_spec hlay
      have e1 : c' = cf := by have := hi.symm.trans hf'; simp at this; exact this.1.symm
      rw [hdecl] at hown2
      rw [← e1]; exact Option.some.inj (hown.symm.trans hown2)
    have h6 := u_fits hfc hkC hkind (Or.inr hlay) hi (hty k hk) hn hfit
    exact W.putFinK hx hb hown (hts _ hlink) hi hst hcf hin2 (by rw [q2]; exact h6) q1 q3 (by rw [hsl]; exact k2_hasslot (q4 k hk)) rfl rfl hdg fin
/-- array reads -/
theorem g_iald (hC : gC N0 D cy p s m args c cc nL own) (hP : gP N0 D cy S H) (hKa : gK S a = 9) {i : Int32} (hin : vp_in i (gn S a)) (hdg : decode cc pc = .ok (.iaload, 1))
    (kk : W p l e R s m args below meth c H locs cells slots Q (F0 m (pc + 1) ls (.int (gI S a i.toNatClampNeg) :: rest))) : W p l e R s m args below meth c H locs cells slots Q (F0 m pc ls (.int i :: .ref a :: rest)) := by
  obtain ⟨hx, hb, -, hown, hts, hK, -⟩ := hC
  have h1 := hP.one (a := a) (by omega)
  rw [gE_arr hKa (by omega)] at h1
  exact va_iald hx hb hK h1 0 0 rfl rfl hin hdg kk
theorem g_zald (hC : gC N0 D cy p s m args c cc nL own) (hP : gP N0 D cy S H) (hKa : gK S a = 11) {i : Int32} (hin : vp_in i (gn S a)) (hdg : decode cc pc = .ok (.baload, 1))
    (kk : W p l e R s m args below meth c H locs cells slots Q (F0 m (pc + 1) ls (.int (gI S a i.toNatClampNeg) :: rest))) : W p l e R s m args below meth c H locs cells slots Q (F0 m pc ls (.int i :: .ref a :: rest)) := by
  obtain ⟨hx, hb, -, hown, hts, hK, -⟩ := hC
  have h1 := hP.one (a := a) (by omega)
  rw [gE_arr hKa (by omega)] at h1
  exact va_zald hx hb hK h1 0 2 rfl rfl hin hdg kk
theorem g_lald (hC : gC N0 D cy p s m args c cc nL own) (hP : gP N0 D cy S H) (hKa : gK S a = 10) {i : Int32} (hin : vp_in i (gn S a)) (hdg : decode cc pc = .ok (.laload, 1))
    (kk : W p l e R s m args below meth c H locs cells slots Q (F0 m (pc + 1) ls (.long (gJ S a i.toNatClampNeg) :: rest))) : W p l e R s m args below meth c H locs cells slots Q (F0 m pc ls (.int i :: .ref a :: rest)) := by
  obtain ⟨hx, hb, -, hown, hts, hK, -⟩ := hC
  have h1 := hP.one (a := a) (by omega)
  rw [gE_arr hKa (by omega)] at h1
  exact va_lald hx hb hK h1 0 1 rfl rfl hin hdg kk
theorem g_aald (hC : gC N0 D cy p s m args c cc nL own) (hP : gP N0 D cy S H) {j : Nat} (hj : j < 4) (hKa : gK S a = 12 + j) {i : Int32} (hin : vp_in i (gn S a)) (hdg : decode cc pc = .ok (.aaload, 1))
    (kk : W p l e R s m args below meth c H locs cells slots Q (F0 m (pc + 1) ls (va_rf (gR S a i.toNatClampNeg) :: rest))) : W p l e R s m args below meth c H locs cells slots Q (F0 m pc ls (.int i :: .ref a :: rest)) := by
  obtain ⟨hx, hb, -, hown, hts, hK, -⟩ := hC
  have h1 := hP.one (a := a) (by omega)
  rw [gE_arr hKa (by omega)] at h1
  have e1 : gA S a (12 + j) = (gn S a, .inr (.inr (.inr (.inr (gR S a))))) := by
    unfold gA
    rw [if_neg (by omega), if_neg (by omega), if_neg (by omega)]
  rw [e1] at h1
  match j, hj with
  | 0, _ => exact va_aldq hx hb hK h1 0 3 rfl rfl hin hdg kk
  | 1, _ => exact va_aldq hx hb hK h1 0 4 rfl rfl hin hdg kk
  | 2, _ => exact va_aldq hx hb hK h1 0 5 rfl rfl hin hdg kk
  | 3, _ => exact va_aldq hx hb hK h1 0 6 rfl rfl hin hdg kk
theorem g_alen (hC : gC N0 D cy p s m args c cc nL own) (hP : gP N0 D cy S H) {j : Nat} (hj : j < 7) (hKa : gK S a = 9 + j) (hdg : decode cc pc = .ok (.arraylength, 1))
    (kk : W p l e R s m args below meth c H locs cells slots Q (F0 m (pc + 1) ls (.int (nI (gn S a)) :: rest))) : W p l e R s m args below meth c H locs cells slots Q (F0 m pc ls (.ref a :: rest)) := by
  obtain ⟨hx, hb, -, hown, hts, hK, -⟩ := hC
  have h1 := hP.one (a := a) (by omega)
  rw [gE_arr hKa (by omega)] at h1
  match j, hj with
  | 0, _ => exact va_alen hx hb hK h1 0 0 rfl rfl rfl hdg kk
  | 1, _ => exact va_alen hx hb hK h1 0 1 rfl rfl rfl hdg kk
  | 2, _ => exact va_alen hx hb hK h1 0 2 rfl rfl rfl hdg kk
  | 3, _ => exact va_alen hx hb hK h1 0 3 rfl rfl rfl hdg kk
  | 4, _ => exact va_alen hx hb hK h1 0 4 rfl rfl rfl hdg kk
  | 5, _ => exact va_alen hx hb hK h1 0 5 rfl rfl rfl hdg kk
  | 6, _ => exact va_alen hx hb hK h1 0 6 rfl rfl rfl hdg kk
end GR
