section GSW
variable {p : Program} {l : Launch} {e : Env} {R : Room} {s : State} {m : MethodId} {args : Array Value} {below : List Frame} {meth : Method} {c : Code} {H : Heap} {locs : List Loc} {cells slots : Nat} {Q : State → Prop}
variable {cc : ByteArray} {pc nL : Nat} {own : String} {ls : Array Slot} {rest : List Value} {N0 : Nat} {D : va_G} {cy : Nat → ClassId}
theorem g_ts (hC : gC N0 D cy p s m args c cc nL own) {dflt lo hi : Int} {offs : Array Int} {len dt : Nat} {x : Int32} (hdg : decode cc pc = .ok (.tableswitch dflt lo hi offs, len)) (hdt : (pc : Int) + dflt = (dt : Int)) (hn : (offs.size : Int) = hi - lo + 1)
    (kin : ∀ (k : Nat) (off : Int), offs[k]? = some off → x.toInt = lo + k → ∃ tgt : Nat, (pc : Int) + off = (tgt : Int) ∧ W p l e R s m args below meth c H locs cells slots Q (F0 m tgt ls rest))
    (kout : (x.toInt < lo ∨ hi < x.toInt) → W p l e R s m args below meth c H locs cells slots Q (F0 m dt ls rest)) : W p l e R s m args below meth c H locs cells slots Q (F0 m pc ls (.int x :: rest)) := by
  by_cases h : x.toInt < lo ∨ hi < x.toInt
  · exact lv_tableOut hC.1 hC.2.1 hdg h hdt (kout h)
  · have h1 : ¬ x.toInt < lo := fun q => h (Or.inl q)
    have h2 : ¬ hi < x.toInt := fun q => h (Or.inr q)
    have hk : (x.toInt - lo).toNat < offs.size := by omega
    obtain ⟨tgt, ht, kk⟩ := kin (x.toInt - lo).toNat offs[(x.toInt - lo).toNat] (Array.getElem?_eq_getElem hk) (by omega)
    exact lv_tableIn hC.1 hC.2.1 hdg h1 h2 (Array.getElem?_eq_getElem hk) ht kk
theorem ts_lit {x v : Int32} {z : Int} (hv : v.toInt = z) (h : x.toInt = z) : x = v := Int32.toInt_inj.mp (h.trans hv.symm)
theorem g_ls2 (hC : gC N0 D cy p s m args c cc nL own) {dflt k0 o0 k1 o1 : Int} {len t0 t1 dt : Nat} {x v0 v1 : Int32} (hdg : decode cc pc = .ok (.lookupswitch dflt #[(k0, o0), (k1, o1)], len)) (hs : k0 < k1) (h0 : (pc : Int) + o0 = (t0 : Int)) (h1 : (pc : Int) + o1 = (t1 : Int)) (hd : (pc : Int) + dflt = (dt : Int)) (hv0 : v0.toInt = k0) (hv1 : v1.toInt = k1)
    (c0 : x = v0 → W p l e R s m args below meth c H locs cells slots Q (F0 m t0 ls rest)) (c1 : x = v1 → W p l e R s m args below meth c H locs cells slots Q (F0 m t1 ls rest)) (cd : x ≠ v0 ∧ x ≠ v1 → W p l e R s m args below meth c H locs cells slots Q (F0 m dt ls rest)) : W p l e R s m args below meth c H locs cells slots Q (F0 m pc ls (.int x :: rest)) := by
  have hp : (((#[(k0, o0), (k1, o1)] : Array (Int × Int)).toList.zip ((#[(k0, o0), (k1, o1)] : Array (Int × Int)).toList.drop 1)).all (fun (a, next) => a.1 < next.1)) = true := by simp [hs]
  by_cases e0 : x = v0
  · exact lv_lookup hC.1 hC.2.1 hdg hp (by subst e0; simp [Op.lookupswitch.offset, hv0]) h0 (c0 e0)
  · have n0 : ¬ k0 = x.toInt := fun h => e0 (Int32.toInt_inj.mp (h.symm.trans hv0.symm))
    by_cases e1 : x = v1
    · exact lv_lookup hC.1 hC.2.1 hdg hp (by subst e1; simp [Op.lookupswitch.offset, hv1, n0]; omega) h1 (c1 e1)
    · have n1 : ¬ k1 = x.toInt := fun h => e1 (Int32.toInt_inj.mp (h.symm.trans hv1.symm))
      exact lv_lookup hC.1 hC.2.1 hdg hp (by simp [Op.lookupswitch.offset, n0, n1]) hd (cd ⟨e0, e1⟩)
end GSW
def thV (S : gS) (a h r0 : Nat) (w : Int32) : Int64 := if w = 2 then (gI S h 0).toInt64 else if w = 3 then (gI S r0 2).toInt64 else if w = 4 then gJ S r0 3 else gJ S a 12
set_option maxRecDepth 100000 in
set_option maxHeartbeats 4000000 in
theorem c_X1_tellHeld0 (l : Launch) (N0 : Nat) (D : va_G) (cy : Nat → ClassId) (S : gS) (sz : Nat) (a : Nat) (w : Int32) (ha : gK S a = 2) (hh : gR S a 11 = none) : gM l yX1_tellHeld cX1_tellHeld 2 (some FieldType.long) { frames := 0, cells := 0, slots := 0, locals := 0 } N0 D cy [.ref a, .int w] S sz (fun v S1 z => v = some (.long (-1)) ∧ S1 = S ∧ z = sz) := by
  refine g_body (by decide) rfl (Nat.le_of_ble_eq_true rfl) ?_
  intro p e s m args below meth c ls hC hU hr hlk hnm hsz hP hS hl
  have hx := hC.1
  have hb := hC.2.1
  refine lv_aload_n hx hb dX1_tellHeld_0 rfl (lv_at hl 0 rfl) ?_
  refine gq_X1_34 hC hP (ha) dX1_tellHeld_1 (fun _ => ?_) (fun b9 q9 => by have q8 := q9.symm.trans (hh); cases q8)
  refine lv_ifnonnullN hx hb dX1_tellHeld_4 ?_
  refine lv_ldc2 hx hb hC.2.2.2.1 (hC.2.2.2.2.1 _ kJ_X1_21) dX1_tellHeld_7 ?_
  exact g_lret hC hP hS hr hlk (by decide) (by decide) (⟨rfl, rfl, hsz⟩) dX1_tellHeld_10

set_option maxRecDepth 100000 in
set_option maxHeartbeats 4000000 in
theorem c_X1_tellHeld1 (l : Launch) (N0 : Nat) (D : va_G) (cy : Nat → ClassId) (S : gS) (sz : Nat) (a h r0 : Nat) (w : Int32) (ha : gK S a = 2) (hh : gR S a 11 = some h) (hhk : gK S h = 1) (hr0 : gR S h 2 = some r0) (hr0k : gK S r0 = 6) : gM l yX1_tellHeld cX1_tellHeld 2 (some FieldType.long) { frames := 0, cells := 0, slots := 0, locals := 0 } N0 D cy [.ref a, .int w] S sz (fun v S1 z => v = some (.long (thV S a h r0 w)) ∧ S1 = S ∧ z = sz) := by
  refine g_body (by decide) rfl (Nat.le_of_ble_eq_true rfl) ?_
  intro p e s m args below meth c ls hC hU hr hlk hnm hsz hP hS hl
  have hx := hC.1
  have hb := hC.2.1
  refine lv_aload_n hx hb dX1_tellHeld_0 rfl (lv_at hl 0 rfl) ?_
  refine gt_X1_34 hC hP (ha) (hh) dX1_tellHeld_1 ?_
  refine lv_ifnonnull (tgt := 11) hx hb dX1_tellHeld_4 (by decide) ?_
  refine lv_iload_n hx hb dX1_tellHeld_11 rfl (lv_at hl 1 rfl) ?_
  refine g_ts (dt := 72) hC dX1_tellHeld_12 (by decide) (by decide) (fun k_12 of_12 hk_12 c_12 => ?_) (fun c_12 => ?_)
  · match k_12, hk_12 with
    | 0, hk_12 =>
      have e9 : of_12 = 28 := by simpa using hk_12.symm
      subst e9
      replace c_12 := ts_lit (v := 2) (by decide) c_12
      refine ⟨40, by decide, ?_⟩
      refine lv_aload_n hx hb dX1_tellHeld_40 rfl (lv_at hl 0 rfl) ?_
      refine gt_X1_34 hC hP (ha) (hh) dX1_tellHeld_41 ?_
      refine gt_X1_112 hC hP (hhk) dX1_tellHeld_44 ?_
      refine lv_i2l hx hb dX1_tellHeld_47 rfl ?_
      exact g_lret hC hP hS hr hlk (by decide) (by decide) (⟨by subst c_12; rfl, rfl, hsz⟩) dX1_tellHeld_48
    | 1, hk_12 =>
      have e9 : of_12 = 37 := by simpa using hk_12.symm
      subst e9
      replace c_12 := ts_lit (v := 3) (by decide) c_12
      refine ⟨49, by decide, ?_⟩
      refine lv_aload_n hx hb dX1_tellHeld_49 rfl (lv_at hl 0 rfl) ?_
      refine gt_X1_34 hC hP (ha) (hh) dX1_tellHeld_50 ?_
      refine gt_X1_134 hC hP (hhk) (hr0) dX1_tellHeld_53 ?_
      refine gt_X1_137 hC hP (hr0k) dX1_tellHeld_56 ?_
      refine lv_i2l hx hb dX1_tellHeld_59 rfl ?_
      exact g_lret hC hP hS hr hlk (by decide) (by decide) (⟨by subst c_12; rfl, rfl, hsz⟩) dX1_tellHeld_60
    | 2, hk_12 =>
      have e9 : of_12 = 49 := by simpa using hk_12.symm
      subst e9
      replace c_12 := ts_lit (v := 4) (by decide) c_12
      refine ⟨61, by decide, ?_⟩
      refine lv_aload_n hx hb dX1_tellHeld_61 rfl (lv_at hl 0 rfl) ?_
      refine gt_X1_34 hC hP (ha) (hh) dX1_tellHeld_62 ?_
      refine gt_X1_134 hC hP (hhk) (hr0) dX1_tellHeld_65 ?_
      refine gt_X1_124 hC hP (hr0k) dX1_tellHeld_68 ?_
      exact g_lret hC hP hS hr hlk (by decide) (by decide) (⟨by subst c_12; rfl, rfl, hsz⟩) dX1_tellHeld_71
    | k9 + 3, hk_12 => exact absurd hk_12 (by simp)
  · refine lv_aload_n hx hb dX1_tellHeld_72 rfl (lv_at hl 0 rfl) ?_
    refine gt_X1_23 hC hP (ha) dX1_tellHeld_73 ?_
    exact g_lret hC hP hS hr hlk (by decide) (by decide) (⟨by unfold thV; rw [if_neg (fun h => by subst h; exact absurd c_12 (by decide)), if_neg (fun h => by subst h; exact absurd c_12 (by decide)), if_neg (fun h => by subst h; exact absurd c_12 (by decide))], rfl, hsz⟩) dX1_tellHeld_76

