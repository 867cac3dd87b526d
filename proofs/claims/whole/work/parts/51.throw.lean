/-! Throws over the store. -/
def exO : String := "java/lang/IndexOutOfBoundsException"
def exA : String := "java/lang/IllegalArgumentException"
def exS : String := "java/lang/IllegalStateException"
def exN : List String := ["java/lang/RuntimeException", "java/lang/Exception"]
def gStr : List (Nat × String) := [(49, "no such issuer"), (58, "no time"), (79, "ready, or at an attempt, or too many letters"), (86, "not ready, or at an attempt, or too many letters"), (91, "no such node"), (100, "no such letter"), (134, "too many letters"), (139, "no such letter, or what"), (156, "no such issuer, or what"), (171, "not 1 to 1024 numbers"), (173, "no such seat, or what"), (194, "a number below 0, or no such what")]
def wsB : List Cond := (vx_atS RX6 51 exO exN ++ vx_atS RX6 60 exA exN ++ vx_atS RX6 81 exS exN).filter (fun w => !goodWord w)
/-- what a throw needs of a state -/
def gZ (N0 : Nat) (U : State) : Prop := vx_Zq Bundle.tN "UNASSIGNED_STACK" Bundle.steD (fun q => N0 ≤ q) U U.heap ∧ vx_Zq Bundle.tN "SUPPRESSED_SENTINEL" Bundle.listD (fun q => N0 ≤ q) U U.heap ∧ (∀ w ∈ wsB, w.before #[] U = true) ∧ ∀ q ∈ gStr, ∃ sa, vk_R RX6 q.1 q.2 sa U
theorem wsB_warm : wsB.all (fun w => w.warmB w.codeNames && w.onTables) = true := by decide +kernel
theorem wsB_at {s U : State} (hW : s.WarmedH U.vm) {w : Cond} (hw : w ∈ wsB) (h : w.before #[] s = true) {a : Array Value} : w.before a U = true := by
  have h1 := List.all_eq_true.mp wsB_warm w hw
  simp only [Bool.and_eq_true] at h1
  have h2 : w.before #[] (s.setVm U.vm) = true := Cond.pre_warmed hW h1.1 h
  exact vx_ot_at (s := s.setVm U.vm) (State.WarmedH.refl _) rfl (by unfold vx_ot; rw [h1.2]; rfl) h2
theorem gZ.go {N0 : Nat} {s U : State} {H : Heap} {locs : List Loc} (h : gZ N0 s) (hW : s.WarmedH U.vm) (hU : U.heap = H) (hS : va_S (fun q => N0 ≤ q) s.heap H locs) : gZ N0 U := by
  obtain ⟨h1, h2, h3, h4⟩ := h
  refine ⟨by rw [hU]; exact vx_Zq.moved hW.alike (h1.kept hS.2.1), by rw [hU]; exact vx_Zq.moved hW.alike (h2.kept hS.2.1), fun w hw => wsB_at hW hw (h3 w hw), fun q hq => ?_⟩
  obtain ⟨sa, hsa⟩ := h4 q hq
  exact ⟨sa, hsa.warm hW⟩
theorem gZ.blind {N0 : Nat} {U V : State} (h : gZ N0 U) (hv : V.vm = U.vm) (hh : V.heap = U.heap) : gZ N0 V := by
  have hW : U.WarmedH V.vm := by rw [hv]; exact State.WarmedH.refl U
  exact h.go (H := U.heap) (locs := []) hW hh va_S.rf
def gXq (N0 : Nat) (D : va_G) (cy : Nat → ClassId) (px : String → gS → Prop) : String → State → State → Prop := fun E st t => (∃ S' : gS, px E S' ∧ gP N0 D cy S' t.heap) ∧ va_F (fun q => N0 ≤ q) st t
def gPreX (N0 : Nat) (D : va_G) (cy : Nat → ClassId) (av : List Value) (S : gS) (sz : Nat) : Array Value → State → Prop := va_Pc av (fun U => U.heap.size = sz ∧ gP N0 D cy S U.heap ∧ gU D cy U ∧ gZ N0 U)
/-- a contract of a method that returns or throws -/
def gMX (l : Launch) (y : MethodName) (cd : ByteArray) (ml : Nat) (ret : Option FieldType) (rm : Room) (N0 : Nat) (D : va_G) (cy : Nat → ClassId) (av : List Value) (S : gS) (sz : Nat) (post : Option Value → gS → Nat → Prop) (px : String → gS → Prop) : Prop :=
  vx_Met l y (Cond.code y cd ml ret :: wsAll) rm (gPreX N0 D cy av S sz) (gQ N0 D cy post) (gXq N0 D cy px) rm.cells rm.slots (fun q => N0 ≤ q)
theorem gPreX.blind {N0 : Nat} {D : va_G} {cy : Nat → ClassId} {av : List Value} {S : gS} {sz : Nat} : FrameBlind (gPreX N0 D cy av S sz) := fun a U g mk q => ⟨q.1, q.2.1, q.2.2.1, gU.moved (u := U) (U := U.calling g mk a) (Vm.Alike.refl U.vm) q.2.2.2.1, q.2.2.2.2.blind rfl rfl⟩
theorem gP.grow {N0 : Nat} {D : va_G} {cy : Nat → ClassId} {S : gS} {H H1 : Heap} (h : gP N0 D cy S H) (hz : H.size ≤ H1.size) (hk : ∀ q : Nat, q < H.size → H1[q]? = H[q]?) : gP N0 D cy S H1 := by
  obtain ⟨⟨L, hP, hD, hL⟩, hN⟩ := h
  exact ⟨⟨L, hP.kept fun k q hq => hk q.1 ((hP k q hq).lt), hD, hL⟩, Nat.le_trans hN hz⟩
theorem bodyX {l : Launch} {y : MethodName} {cd : ByteArray} {ml : Nat} {ret : Option FieldType} {rm : Room} {N0 : Nat} {D : va_G} {cy : Nat → ClassId} {av : List Value} {S : gS} {sz : Nat} {post : Option Value → gS → Nat → Prop} {px : String → gS → Prop} {own : String} (hy : plainName y.cls = true) (ho : y.cls = own) (hlen : (lg_sl av).length ≤ ml)
    (body : ∀ (p : Program) (e : Env) (s : State) (m : MethodId) (args : Array Value) (below : List Frame) (meth : Method) (c : Code) (ls : Array Slot), gC N0 D cy p s m args c cd ml own → gU D cy s → gZ N0 s → (∀ x ∈ c.exceptionTable.toList, False) → meth.sig.returnType = ret → meth.locks = false → meth.name = y.name → s.heap.size = sz → gP N0 D cy S s.heap → va_S (fun q => N0 ≤ q) s.heap s.heap [] → lv_has ls ml (lv_args 0 av) →
      W p l e rm s m args below meth c s.heap [] 0 0 (vx_MQ below (gQ N0 D cy post) (gXq N0 D cy px) args s rm.cells rm.slots (fun q => N0 ≤ q)) (F0 m 0 ls [])) : gMX l y cd ml ret rm N0 D cy av S sz post px := by
  refine vx_ofW (cc := cd) (maxL := ml) (ret := ret) hy rfl ?_
  intro p e s m args below meth c s₁ B hml hne hv
  obtain ⟨rfl, hsz, hP, hU, hZ⟩ := hv
  have hts := atoms_spec (ws := Cond.code y cd ml ret :: wsAll) B.pre
  have hl := lv_entry av (n := ml) hlen
  rw [lg_entry_eq]
  subst ho
  exact body p e s m _ below meth c _ ⟨B.exec, B.bytes, hml, findClass_of_methodNamed B.named, fun w h => hts w (List.mem_cons_of_mem _ h), hU.1, hP.2⟩ hU hZ hne B.returns B.notSynchronized (name_of_methodNamed B.named B.method).1 hsz hP va_S.rf hl
section GX
variable {p : Program} {l : Launch} {e : Env} {R : Room} {s : State} {m : MethodId} {args : Array Value} {below : List Frame} {meth : Method} {c : Code} {H : Heap} {locs : List Loc} {cells slots : Nat} {Q : State → Prop}
variable {cc : ByteArray} {pc nL : Nat} {own : String} {ls : Array Slot} {rest st0 : List Value} {N0 : Nat} {D : va_G} {cy : Nat → ClassId} {S : gS}
variable {y : MethodName} {cd : ByteArray} {ml index ci b mc ms : Nat} {ret : Option FieldType} {rm : Room} {As : List Value} {post : Option Value → gS → Nat → Prop} {px : String → gS → Prop} {T : u_T}
/-- 'throw new E("text")' -/
theorem g_thr {cls text : String} {ik is ic : Nat} (hC : gC N0 D cy p s m args c cc nL RX6) (hls : l.stackTraces = false) (hZ : gZ N0 s) (hne : ∀ x ∈ c.exceptionTable.toList, False) (hlk : meth.locks = false) (hP : gP N0 D cy S H) (hS : va_S (fun q => N0 ≤ q) s.heap H locs) (hl : ls.size = nL)
    (hfit : Bundle.fit cls = true) (hk : Cond.classLink RX6 ik cls ∈ wsAll) (hi : Cond.initialized cls ∈ wsAll) (hg : ∀ w ∈ (vx_atS RX6 ic cls exN).filter goodWord, w ∈ wsAll) (hbd : ∀ w ∈ (vx_atS RX6 ic cls exN).filter (fun w => !goodWord w), w ∈ wsB) (hot : ∀ w ∈ Cond.classLink RX6 ik cls :: Cond.initialized cls :: vx_atS RX6 ic cls exN, vx_ot w = true) (hq : (is, text) ∈ gStr)
    (d0 : decode cc pc = .ok (.new ik, 3)) (d3 : decode cc (pc + 3) = .ok (.dup, 1)) (d4 : decode cc (pc + 4) = .ok (.ldc is, 2)) (d6 : decode cc (pc + 6) = .ok (.invokespecial ic, 3)) (d9 : decode cc (pc + 9) = .ok (.athrow, 1))
    (hR : 6 ≤ R.frames ∧ (rest.map fun v => v.category).sum + 82 ≤ R.locals) (hc : cells + 1 ≤ R.cells ∧ slots + 6 ≤ R.slots) (hmc : cells + 1 ≤ mc ∧ slots + 6 ≤ ms) (hpx : px cls S) :
    W p l e R s m args below meth c H locs cells slots (vx_MQ below (gQ N0 D cy post) (gXq N0 D cy px) args s mc ms (fun q => N0 ≤ q)) (F0 m pc ls rest) := by
  obtain ⟨hx, hb, hml, hown, hts, hK, hN⟩ := hC
  obtain ⟨z1, z2, z3, z4⟩ := hZ
  obtain ⟨sa, hsa⟩ := z4 _ hq
  exact vx_throwS (names := exN) (text := text) (cls := cls) (own := RX6) (ik := ik) (is := is) (ic := ic) (sa := sa) hx hb hls hown hfit (by decide) (hts _ hk) (hts _ hi) hsa
    (vx_hat (B := wsB) (fun w hw => hts w (hg w hw)) hbd (fun w hw => wsB_at (State.WarmedH.refl s) hw (z3 w hw))) hot z1 z2 hS (hl.trans hml.symm) d0 d3 d4 d6 d9 (fun x hx => (hne x hx).elim)
    (by show 2 + 3 < R.frames; omega) (by show _ + (13 * (2 + 1) + 43) ≤ R.locals; omega) hc.1 hc.2 hlk
    (fun t hA h1 h2 => ⟨⟨S, hpx, hP.grow h1 h2⟩, ⟨Nat.le_trans hS.1 h1, fun q a1 a2 => by rw [h2 q (Nat.lt_of_lt_of_le a1 hS.1)]; exact hS.2.1 q a1 a2⟩⟩) hS.2.2 hmc.1 hmc.2
theorem gd_O : ((vx_atS RX6 51 exO exN).filter goodWord).all (fun w => decide (w ∈ lw_tbl)) = true := by decide +kernel
theorem gb_O : ∀ w ∈ (vx_atS RX6 51 exO exN).filter (fun w => !goodWord w), w ∈ wsB := by
  intro w hw
  unfold wsB
  rw [List.filter_append, List.filter_append]
  exact List.mem_append_left _ (List.mem_append_left _ hw)
theorem go_O : (Cond.classLink RX6 47 exO :: Cond.initialized exO :: vx_atS RX6 51 exO exN).all vx_ot = true := by decide +kernel
theorem g_thrO {text : String} {is : Nat} (hC : gC N0 D cy p s m args c cc nL RX6) (hls : l.stackTraces = false) (hZ : gZ N0 s) (hne : ∀ x ∈ c.exceptionTable.toList, False) (hlk : meth.locks = false) (hP : gP N0 D cy S H) (hS : va_S (fun q => N0 ≤ q) s.heap H locs) (hl : ls.size = nL) (hq : (is, text) ∈ gStr)
    (d0 : decode cc pc = .ok (.new 47, 3)) (d3 : decode cc (pc + 3) = .ok (.dup, 1)) (d4 : decode cc (pc + 4) = .ok (.ldc is, 2)) (d6 : decode cc (pc + 6) = .ok (.invokespecial 51, 3)) (d9 : decode cc (pc + 9) = .ok (.athrow, 1))
    (hR : 6 ≤ R.frames ∧ (rest.map fun v => v.category).sum + 82 ≤ R.locals) (hc : cells + 1 ≤ R.cells ∧ slots + 6 ≤ R.slots) (hmc : cells + 1 ≤ mc ∧ slots + 6 ≤ ms) (hpx : px exO S) :
    W p l e R s m args below meth c H locs cells slots (vx_MQ below (gQ N0 D cy post) (gXq N0 D cy px) args s mc ms (fun q => N0 ≤ q)) (F0 m pc ls rest) :=
  g_thr (cls := exO) hC hls hZ hne hlk hP hS hl (by decide) kL_X6_47 iN_IndexOutOfBoundsException (fun w hw => wsAll_of (of_decide_eq_true (List.all_eq_true.mp gd_O w hw)) (List.mem_filter.mp hw).2) gb_O (List.all_eq_true.mp go_O) hq d0 d3 d4 d6 d9 hR hc hmc hpx
theorem gd_A : ((vx_atS RX6 60 exA exN).filter goodWord).all (fun w => decide (w ∈ lw_tbl)) = true := by decide +kernel
theorem gb_A : ∀ w ∈ (vx_atS RX6 60 exA exN).filter (fun w => !goodWord w), w ∈ wsB := by
  intro w hw
  unfold wsB
  rw [List.filter_append, List.filter_append]
  exact List.mem_append_left _ (List.mem_append_right _ hw)
theorem go_A : (Cond.classLink RX6 56 exA :: Cond.initialized exA :: vx_atS RX6 60 exA exN).all vx_ot = true := by decide +kernel
theorem g_thrA {text : String} {is : Nat} (hC : gC N0 D cy p s m args c cc nL RX6) (hls : l.stackTraces = false) (hZ : gZ N0 s) (hne : ∀ x ∈ c.exceptionTable.toList, False) (hlk : meth.locks = false) (hP : gP N0 D cy S H) (hS : va_S (fun q => N0 ≤ q) s.heap H locs) (hl : ls.size = nL) (hq : (is, text) ∈ gStr)
    (d0 : decode cc pc = .ok (.new 56, 3)) (d3 : decode cc (pc + 3) = .ok (.dup, 1)) (d4 : decode cc (pc + 4) = .ok (.ldc is, 2)) (d6 : decode cc (pc + 6) = .ok (.invokespecial 60, 3)) (d9 : decode cc (pc + 9) = .ok (.athrow, 1))
    (hR : 6 ≤ R.frames ∧ (rest.map fun v => v.category).sum + 82 ≤ R.locals) (hc : cells + 1 ≤ R.cells ∧ slots + 6 ≤ R.slots) (hmc : cells + 1 ≤ mc ∧ slots + 6 ≤ ms) (hpx : px exA S) :
    W p l e R s m args below meth c H locs cells slots (vx_MQ below (gQ N0 D cy post) (gXq N0 D cy px) args s mc ms (fun q => N0 ≤ q)) (F0 m pc ls rest) :=
  g_thr (cls := exA) hC hls hZ hne hlk hP hS hl (by decide) kL_X6_56 iN_IllegalArgumentException (fun w hw => wsAll_of (of_decide_eq_true (List.all_eq_true.mp gd_A w hw)) (List.mem_filter.mp hw).2) gb_A (List.all_eq_true.mp go_A) hq d0 d3 d4 d6 d9 hR hc hmc hpx
theorem gd_S : ((vx_atS RX6 81 exS exN).filter goodWord).all (fun w => decide (w ∈ lw_tbl)) = true := by decide +kernel
theorem gb_S : ∀ w ∈ (vx_atS RX6 81 exS exN).filter (fun w => !goodWord w), w ∈ wsB := by
  intro w hw
  unfold wsB
  rw [List.filter_append, List.filter_append]
  exact List.mem_append_right _ hw
theorem go_S : (Cond.classLink RX6 77 exS :: Cond.initialized exS :: vx_atS RX6 81 exS exN).all vx_ot = true := by decide +kernel
theorem g_thrS {text : String} {is : Nat} (hC : gC N0 D cy p s m args c cc nL RX6) (hls : l.stackTraces = false) (hZ : gZ N0 s) (hne : ∀ x ∈ c.exceptionTable.toList, False) (hlk : meth.locks = false) (hP : gP N0 D cy S H) (hS : va_S (fun q => N0 ≤ q) s.heap H locs) (hl : ls.size = nL) (hq : (is, text) ∈ gStr)
    (d0 : decode cc pc = .ok (.new 77, 3)) (d3 : decode cc (pc + 3) = .ok (.dup, 1)) (d4 : decode cc (pc + 4) = .ok (.ldc is, 2)) (d6 : decode cc (pc + 6) = .ok (.invokespecial 81, 3)) (d9 : decode cc (pc + 9) = .ok (.athrow, 1))
    (hR : 6 ≤ R.frames ∧ (rest.map fun v => v.category).sum + 82 ≤ R.locals) (hc : cells + 1 ≤ R.cells ∧ slots + 6 ≤ R.slots) (hmc : cells + 1 ≤ mc ∧ slots + 6 ≤ ms) (hpx : px exS S) :
    W p l e R s m args below meth c H locs cells slots (vx_MQ below (gQ N0 D cy post) (gXq N0 D cy px) args s mc ms (fun q => N0 ≤ q)) (F0 m pc ls rest) :=
  g_thr (cls := exS) hC hls hZ hne hlk hP hS hl (by decide) kL_X6_77 iN_IllegalStateException (fun w hw => wsAll_of (of_decide_eq_true (List.all_eq_true.mp gd_S w hw)) (List.mem_filter.mp hw).2) gb_S (List.all_eq_true.mp go_S) hq d0 d3 d4 d6 d9 hR hc hmc hpx
/-- behind a call that returns or throws -/
theorem g_afterX (hr : vx_Run p l e R s m args below meth c H locs cells slots rm.cells rm.slots (F0 m pc ls st0) rest (gQ N0 D cy post (Array.mk As)) (gXq N0 D cy px) (fun q => N0 ≤ q)) (hS : va_S (fun q => N0 ≤ q) s.heap H locs)
    (kx : ∀ (E : String) (S' : gS) (ce : Cell) (q9 : Addr) (H1 : Heap) (locs1 : List Loc), px E S' → gP N0 D cy S' H1 → H.size ≤ H1.size → va_S (fun q => N0 ≤ q) s.heap H1 locs1 → H1[q9]? = some ce → ce.vm = .none → s.vm.findClass E = some ce.cls → vx_W p l e R s m args below meth c H1 locs1 (cells + rm.cells) (slots + rm.slots) Q (F0 m pc ls rest) q9)
    (kk : ∀ (v : Option Value) (S' : gS) (H1 : Heap) (locs1 : List Loc), post v S' H1.size → gP N0 D cy S' H1 → H.size ≤ H1.size → va_S (fun q => N0 ≤ q) s.heap H1 locs1 → W p l e R s m args below meth c H1 locs1 (cells + rm.cells) (slots + rm.slots) Q (F0 m (pc + 3) ls (v.toList ++ rest))) : W p l e R s m args below meth c H locs cells slots Q (F0 m pc ls st0) := by
  intro U hT X
  rcases hr U hT X with ⟨v, st₀, t, T', L, h0, X', hL, e1, e2, ⟨⟨v', S', hv, hp, hb⟩, hF⟩, st⟩ | ⟨q, st₀, t, T', L, E, ce, h0, X', hL, e1, e2, ⟨⟨S', hp, hb⟩, hF⟩, hce, hcv, hcl, st⟩
  · cases hv
    obtain ⟨k1, k2, k3⟩ := vx_keep h0 e1 hS (fun _ _ h => h) (fun _ h => h) hL hF
    obtain ⟨t2, a1, b1⟩ := kk v S' T'.heap (locs ++ L) (by rw [e1]; exact hp) (by rw [e1]; exact hb) k1 k3 T' rfl X'
    exact ⟨t2, st t2 a1, b1⟩
  · obtain ⟨k1, k2, k3⟩ := vx_keep h0 e1 hS (fun _ _ h => h) (fun _ h => h) hL hF
    obtain ⟨t2, a1, b1⟩ := kx E S' ce q T'.heap (locs ++ L) hp (by rw [e1]; exact hb) k1 k3 (by rw [e1]; exact hce) hcv hcl T' rfl X'
    exact ⟨t2, st.trans a1, b1⟩
theorem g_callVX (hC : gC N0 D cy p s m args c cc nL own) (hU : gU D cy s) (hZ : gZ N0 s) (hP : gP N0 D cy S H) (hS : va_S (fun q => N0 ≤ q) s.heap H locs) (hl : ls.size = nL)
    (hM : gMX l y cd ml ret rm N0 D cy (.ref b :: As) S H.size post px) (hmL : Cond.methodLink own index y ∈ wsAll) (hiM : Cond.instanceMethod y ∈ wsAll) (hsL : Cond.selects y.cls y y ∈ wsAll) (hiN : Cond.initialized y.cls ∈ wsAll) (hcD : Cond.code y cd ml ret ∈ wsAll)
    (hd : y.cls ≠ "java/lang/invoke/MethodHandle" ∧ y.cls ≠ "java/lang/invoke/VarHandle" ∧ (parseMethodDescriptor y.desc).map (fun d => d.parameters.length) = some As.length) (hR : rm.frames + 1 ≤ R.frames ∧ 8 + (ml + 11) + rm.locals ≤ R.locals) (hf : cells + rm.cells ≤ R.cells ∧ slots + rm.slots ≤ R.slots)
    (hcl : vwCl[ci]? = some (y.cls, T, gN ci)) (hci : ci < 8) (hKb : gK S b = ci + 1) (hst : st0 = As.reverse ++ .ref b :: rest) (hroom : (rest.map fun v => v.category).sum ≤ 8) (hdg : decode cc pc = .ok (.invokevirtual index, 3))
    (kx : ∀ (E : String) (S' : gS) (ce : Cell) (q9 : Addr) (H1 : Heap) (locs1 : List Loc), px E S' → gP N0 D cy S' H1 → H.size ≤ H1.size → va_S (fun q => N0 ≤ q) s.heap H1 locs1 → H1[q9]? = some ce → ce.vm = .none → s.vm.findClass E = some ce.cls → vx_W p l e R s m args below meth c H1 locs1 (cells + rm.cells) (slots + rm.slots) Q (F0 m pc ls rest) q9)
    (kk : ∀ (v : Option Value) (S' : gS) (H1 : Heap) (locs1 : List Loc), post v S' H1.size → gP N0 D cy S' H1 → H.size ≤ H1.size → va_S (fun q => N0 ≤ q) s.heap H1 locs1 → W p l e R s m args below meth c H1 locs1 (cells + rm.cells) (slots + rm.slots) Q (F0 m (pc + 3) ls (v.toList ++ rest))) : W p l e R s m args below meth c H locs cells slots Q (F0 m pc ls st0) := by
  obtain ⟨hx, hb, hml, hown, hts, hK, hN⟩ := hC
  have h1 := hP.one (a := b) (by omega)
  rw [gE_obj hKb hci] at h1
  have hG : GoodIn wsAll (wsV own index y.cls y (Cond.code y cd ml ret :: wsAll)) := goodAll (own := own) (index := index) hcD (fun w h => by
    simp only [List.mem_cons, List.not_mem_nil, or_false] at h
    rcases h with rfl | rfl | rfl | rfl <;> assumption)
  refine g_afterX (vx_runV (Ts := wsAll) (C := y.cls) (As := As) (rest := rest) (b := b) ⟨hx, hb, hml, hown, hts⟩ hM (cwV As.length hts hG rfl rfl rfl ⟨rfl, hd⟩ hR) ⟨gPreX.blind, va_recv hK h1 hcl (q0 := 0) rfl, fun U hU' hW => ⟨rfl, by rw [hU'], by rw [hU']; exact hP, hU.moved hW.alike, hZ.go hW hU' hS⟩⟩ rfl rfl hl hst (lv_room hroom) hdg hf) hS kx kk
/-- a throw that goes on to the caller -/
theorem g_outX {E : String} {ce : Cell} {q : Addr} (hne : ∀ x ∈ c.exceptionTable.toList, False) (hlk : meth.locks = false) (hP : gP N0 D cy S H) (hS : va_S (fun q => N0 ≤ q) s.heap H locs) (hce : H[q]? = some ce) (hv : ce.vm = .none) (hcl : s.vm.findClass E = some ce.cls) (hmc : cells ≤ mc ∧ slots ≤ ms) (hpx : px E S) :
    vx_W p l e R s m args below meth c H locs cells slots (vx_MQ below (gQ N0 D cy post) (gXq N0 D cy px) args s mc ms (fun q => N0 ≤ q)) (F0 m pc ls rest) q :=
  vx_out (fun x hx => (hne x hx).elim) hlk hce hv hcl (fun t ht hA => ⟨⟨S, hpx, by rw [ht]; exact hP⟩, hS.F ht⟩) hS.2.2 hmc.1 hmc.2
end GX
