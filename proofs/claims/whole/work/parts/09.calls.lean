/-! Contracts over the store, calls, ends. -/
def gU (D : va_G) (cy : Nat → ClassId) (U : State) : Prop := va_K D vwCl (gY cy) U ∧ va_AO RX1 U ∧ va_AO RX2 U ∧ va_AO RX3 U ∧ va_AO RX5 U
theorem gU.moved {D : va_G} {cy : Nat → ClassId} {u U : State} (hvm : u.vm.Alike U.vm) (h : gU D cy u) : gU D cy U := ⟨va_K.moved hvm h.1, h.2.1.moved hvm, h.2.2.1.moved hvm, h.2.2.2.1.moved hvm, h.2.2.2.2.moved hvm⟩
def gPre (N0 : Nat) (D : va_G) (cy : Nat → ClassId) (av : List Value) (S : gS) (sz : Nat) : Array Value → State → Prop := va_Pc av (fun U => U.heap.size = sz ∧ gP N0 D cy S U.heap ∧ gU D cy U)
def gQ (N0 : Nat) (D : va_G) (cy : Nat → ClassId) (post : Option Value → gS → Nat → Prop) : Array Value → State → Outcome → State → Prop := fun _ st oc t => (∃ (v : Option Value) (S' : gS), oc = .returned v ∧ post v S' t.heap.size ∧ gP N0 D cy S' t.heap) ∧ va_F (fun q => N0 ≤ q) st t
/-- a contract: from the store S, a heap of sz cells, the arguments av: it returns v, the store is S' then and the heap z cells large, and 'post v S' z' -/
def gM (l : Launch) (y : MethodName) (cd : ByteArray) (ml : Nat) (ret : Option FieldType) (rm : Room) (N0 : Nat) (D : va_G) (cy : Nat → ClassId) (av : List Value) (S : gS) (sz : Nat) (post : Option Value → gS → Nat → Prop) : Prop :=
  Met l y (Cond.code y cd ml ret :: wsAll) rm (gPre N0 D cy av S sz) (gQ N0 D cy post) rm.cells rm.slots (fun q => N0 ≤ q)
theorem gPre.blind {N0 : Nat} {D : va_G} {cy : Nat → ClassId} {av : List Value} {S : gS} {sz : Nat} : FrameBlind (gPre N0 D cy av S sz) := fun a U g mk q => ⟨q.1, q.2.1, q.2.2.1, gU.moved (u := U) (U := U.calling g mk a) (Vm.Alike.refl U.vm) q.2.2.2⟩
theorem goodAll {own : String} {index ml : Nat} {y : MethodName} {cd : ByteArray} {ret : Option FieldType} {X : List Cond} (hcD : Cond.code y cd ml ret ∈ wsAll) (hX : ∀ w ∈ X, w ∈ wsAll) : GoodIn wsAll (X ++ Cond.code y cd ml ret :: wsAll) := by
  intro w h
  have hw : w ∈ wsAll := by
    rcases List.mem_append.mp h with h | h
    · exact hX w h
    · rcases List.mem_cons.mp h with h | h
      · rw [h]; exact hcD
      · exact h
  exact ⟨hw, wsAll_good hw⟩
section GC
variable {p : Program} {l : Launch} {e : Env} {R : Room} {s : State} {m : MethodId} {args : Array Value} {below : List Frame} {meth : Method} {c : Code} {H : Heap} {locs : List Loc} {cells slots : Nat} {Q : State → Prop}
variable {cc : ByteArray} {pc nL : Nat} {own : String} {ls : Array Slot} {rest st0 : List Value} {N0 : Nat} {D : va_G} {cy : Nat → ClassId} {S : gS}
variable {y : MethodName} {cd : ByteArray} {ml index ci b : Nat} {ret : Option FieldType} {rm : Room} {As : List Value} {post : Option Value → gS → Nat → Prop} {T : u_T}
/-- behind a call -/
theorem g_after (hr : va_Run p l e R s m args below meth c H locs cells slots rm.cells rm.slots (F0 m pc ls st0) rest (gQ N0 D cy post (Array.mk As)) (fun q => N0 ≤ q)) (hS : va_S (fun q => N0 ≤ q) s.heap H locs)
    (kk : ∀ (v : Option Value) (S' : gS) (H1 : Heap) (locs1 : List Loc), post v S' H1.size → gP N0 D cy S' H1 → H.size ≤ H1.size → va_S (fun q => N0 ≤ q) s.heap H1 locs1 → W p l e R s m args below meth c H1 locs1 (cells + rm.cells) (slots + rm.slots) Q (F0 m (pc + 3) ls (v.toList ++ rest))) : W p l e R s m args below meth c H locs cells slots Q (F0 m pc ls st0) := by
  intro U hT X
  obtain ⟨v, st₀, t, T', L, h0, X', hL, e1, e2, ⟨⟨v', S', hv, hp, hb⟩, hz, hk⟩, st⟩ := hr U hT X
  cases hv
  rw [h0] at hz hk
  obtain ⟨t2, a1, b1⟩ := kk v S' T'.heap (locs ++ L) (by rw [e1]; exact hp) (by rw [e1]; exact hb) (by rw [e1]; exact hz) ⟨by rw [e1]; exact Nat.le_trans hS.1 hz, fun q h1 h2 => by rw [e1, hk q (Nat.lt_of_lt_of_le h1 hS.1) h2]; exact hS.2.1 q h1 h2, fun q hq => by
      rcases List.mem_append.mp hq with h | h
      · exact hS.2.2 q h
      · exact hL q h⟩ T' rfl X'
  exact ⟨t2, st t2 a1, b1⟩
theorem g_callV (hC : gC N0 D cy p s m args c cc nL own) (hU : gU D cy s) (hP : gP N0 D cy S H) (hS : va_S (fun q => N0 ≤ q) s.heap H locs) (hl : ls.size = nL)
    (hM : gM l y cd ml ret rm N0 D cy (.ref b :: As) S H.size post) (hmL : Cond.methodLink own index y ∈ wsAll) (hiM : Cond.instanceMethod y ∈ wsAll) (hsL : Cond.selects y.cls y y ∈ wsAll) (hiN : Cond.initialized y.cls ∈ wsAll) (hcD : Cond.code y cd ml ret ∈ wsAll)
    (hd : y.cls ≠ "java/lang/invoke/MethodHandle" ∧ y.cls ≠ "java/lang/invoke/VarHandle" ∧ (parseMethodDescriptor y.desc).map (fun d => d.parameters.length) = some As.length) (hR : rm.frames + 1 ≤ R.frames ∧ 8 + (ml + 11) + rm.locals ≤ R.locals) (hf : cells + rm.cells ≤ R.cells ∧ slots + rm.slots ≤ R.slots)
    (hcl : vwCl[ci]? = some (y.cls, T, gN ci)) (hci : ci < 8) (hKb : gK S b = ci + 1) (hst : st0 = As.reverse ++ .ref b :: rest) (hroom : (rest.map fun v => v.category).sum ≤ 8) (hdg : decode cc pc = .ok (.invokevirtual index, 3))
    (kk : ∀ (v : Option Value) (S' : gS) (H1 : Heap) (locs1 : List Loc), post v S' H1.size → gP N0 D cy S' H1 → H.size ≤ H1.size → va_S (fun q => N0 ≤ q) s.heap H1 locs1 → W p l e R s m args below meth c H1 locs1 (cells + rm.cells) (slots + rm.slots) Q (F0 m (pc + 3) ls (v.toList ++ rest))) : W p l e R s m args below meth c H locs cells slots Q (F0 m pc ls st0) := by
  obtain ⟨hx, hb, hml, hown, hts, hK, hN⟩ := hC
  have h1 := hP.one (a := b) (by omega)
  rw [gE_obj hKb hci] at h1
  have hG : GoodIn wsAll (wsV own index y.cls y (Cond.code y cd ml ret :: wsAll)) := goodAll (own := own) (index := index) hcD (fun w h => by
    simp only [List.mem_cons, List.not_mem_nil, or_false] at h
    rcases h with rfl | rfl | rfl | rfl <;> assumption)
  refine g_after (va_runV (Ts := wsAll) (C := y.cls) (As := As) (rest := rest) (b := b) ⟨hx, hb, hml, hown, hts⟩ hM (cwV As.length hts hG rfl rfl rfl ⟨rfl, hd⟩ hR) ⟨gPre.blind, va_recv hK h1 hcl (q0 := 0) rfl, fun U hU' hW => ⟨rfl, by rw [hU'], by rw [hU']; exact hP, hU.moved hW.alike⟩⟩ rfl rfl hl hst (lv_room hroom) hdg hf) hS kk
theorem g_callS (hC : gC N0 D cy p s m args c cc nL own) (hU : gU D cy s) (hP : gP N0 D cy S H) (hS : va_S (fun q => N0 ≤ q) s.heap H locs) (hl : ls.size = nL)
    (hM : gM l y cd ml ret rm N0 D cy As S H.size post) (hmL : Cond.methodLink own index y ∈ wsAll) (hsT : Cond.static y ∈ wsAll) (hiN : Cond.initialized y.cls ∈ wsAll) (hcD : Cond.code y cd ml ret ∈ wsAll)
    (hd : y.cls ≠ "java/lang/invoke/MethodHandle" ∧ y.cls ≠ "java/lang/invoke/VarHandle" ∧ (parseMethodDescriptor y.desc).map (fun d => d.parameters.length) = some As.length) (hR : rm.frames + 1 ≤ R.frames ∧ 8 + (ml + 11) + rm.locals ≤ R.locals) (hf : cells + rm.cells ≤ R.cells ∧ slots + rm.slots ≤ R.slots)
    (hst : st0 = As.reverse ++ rest) (hroom : (rest.map fun v => v.category).sum ≤ 8) (hdg : decode cc pc = .ok (.invokestatic index, 3))
    (kk : ∀ (v : Option Value) (S' : gS) (H1 : Heap) (locs1 : List Loc), post v S' H1.size → gP N0 D cy S' H1 → H.size ≤ H1.size → va_S (fun q => N0 ≤ q) s.heap H1 locs1 → W p l e R s m args below meth c H1 locs1 (cells + rm.cells) (slots + rm.slots) Q (F0 m (pc + 3) ls (v.toList ++ rest))) : W p l e R s m args below meth c H locs cells slots Q (F0 m pc ls st0) := by
  obtain ⟨hx, hb, hml, hown, hts, hK, hN⟩ := hC
  have hG : GoodIn wsAll (Cond.code y cd ml ret :: wsAll) := goodAll (own := own) (index := index) (X := []) hcD (fun w h => by cases h)
  refine g_after (va_runS (Ts := wsAll) (As := As) (rest := rest) ⟨hx, hb, hml, hown, hts⟩ hM ⟨callB_of As.length hts hG rfl rfl rfl (hts _ hiN) (hts _ hmL) hd hR, hts _ hsT⟩ ⟨gPre.blind, fun U hU' hW => ⟨rfl, by rw [hU'], by rw [hU']; exact hP, hU.moved hW.alike⟩⟩ rfl rfl hl hst (lv_room hroom) hdg hf) hS kk
theorem g_callI (hC : gC N0 D cy p s m args c cc nL own) (hU : gU D cy s) (hP : gP N0 D cy S H) (hS : va_S (fun q => N0 ≤ q) s.heap H locs) (hl : ls.size = nL)
    (hM : gM l y cd ml none rm N0 D cy (.ref b :: As) S H.size post) (hmL : Cond.methodLink own index y ∈ wsAll) (hiM : Cond.instanceMethod y ∈ wsAll) (hiN : Cond.initialized y.cls ∈ wsAll) (hcD : Cond.code y cd ml none ∈ wsAll) (hy1 : y.name = "<init>")
    (hd : y.cls ≠ "java/lang/invoke/MethodHandle" ∧ y.cls ≠ "java/lang/invoke/VarHandle" ∧ (parseMethodDescriptor y.desc).map (fun d => d.parameters.length) = some As.length) (hR : rm.frames + 1 ≤ R.frames ∧ 8 + (ml + 11) + rm.locals ≤ R.locals) (hf : cells + rm.cells ≤ R.cells ∧ slots + rm.slots ≤ R.slots)
    (hst : st0 = As.reverse ++ .ref b :: rest) (hroom : (rest.map fun v => v.category).sum ≤ 8) (hdg : decode cc pc = .ok (.invokespecial index, 3))
    (kk : ∀ (v : Option Value) (S' : gS) (H1 : Heap) (locs1 : List Loc), post v S' H1.size → gP N0 D cy S' H1 → H.size ≤ H1.size → va_S (fun q => N0 ≤ q) s.heap H1 locs1 → W p l e R s m args below meth c H1 locs1 (cells + rm.cells) (slots + rm.slots) Q (F0 m (pc + 3) ls (v.toList ++ rest))) : W p l e R s m args below meth c H locs cells slots Q (F0 m pc ls st0) := by
  obtain ⟨hx, hb, hml, hown, hts, hK, hN⟩ := hC
  have hG : GoodIn wsAll (Cond.code y cd ml none :: wsAll) := goodAll (own := own) (index := index) (X := []) hcD (fun w h => by cases h)
  refine g_after (va_runI (Ts := wsAll) (As := As) (rest := rest) (b := b) ⟨hx, hb, hml, hown, hts⟩ hM ⟨callB_of As.length hts hG rfl rfl rfl (hts _ hiN) (hts _ hmL) hd hR, hy1, hts _ hiM⟩ ⟨gPre.blind, fun U hU' hW => ⟨rfl, by rw [hU'], by rw [hU']; exact hP, hU.moved hW.alike⟩⟩ rfl rfl hl hst (lv_room hroom) hdg hf) hS kk
/-- Object() -/
theorem g_obj (hC : gC N0 D cy p s m args c cc nL own) (hl : ls.size = nL) (hmL : Cond.methodLink own index objectInit ∈ wsAll) (hframes : 1 ≤ R.frames) (hlocals : (rest.map fun v => v.category).sum + 12 ≤ R.locals) (hdg : decode cc pc = .ok (.invokespecial index, 3))
    (kk : W p l e R s m args below meth c H locs cells slots Q (F0 m (pc + 3) ls rest)) : W p l e R s m args below meth c H locs cells slots Q (F0 m pc ls (.ref b :: rest)) := by
  obtain ⟨hx, hb, hml, hown, hts, hK, hN⟩ := hC
  exact W.objInit hx hb hown (hts _ hmL) (hts _ iM_obj) (hts _ cD_obj) rfl (by rw [hml]; exact hl) rfl hdg hframes (by simpa [JFrame.monitorRoom] using hlocals) kk
/-- ends -/
theorem g_ret_q {mc ms : Nat} {A : Nat → Prop} {v : Option Value} (hP : gP N0 D cy S H) (hS : va_S (fun q => N0 ≤ q) s.heap H locs) (hp : post v S H.size) : ∀ t : State, t.heap = H → s.WarmedH t.vm → gQ N0 D cy post args s (.returned v) t := fun t ht _ => ⟨⟨v, S, rfl, by rw [ht]; exact hp, by rw [ht]; exact hP⟩, hS.F ht⟩
theorem g_iret (hC : gC N0 D cy p s m args c cc nL own) {v : Int32} {mc ms : Nat} (hP : gP N0 D cy S H) (hS : va_S (fun q => N0 ≤ q) s.heap H locs) (hr : meth.sig.returnType = some .int) (hlk : meth.locks = false) (h1 : cells ≤ mc) (h2 : slots ≤ ms) (hp : post (some (.int v)) S H.size) (hdg : decode cc pc = .ok (.ireturn, 1)) : W p l e R s m args below meth c H locs cells slots (MQ below (gQ N0 D cy post) args s mc ms (fun q => N0 ≤ q)) (F0 m pc ls [.int v]) :=
  W.widen h1 h2 (W.iret hC.1 hC.2.1 hr (g_ret_q (mc := 0) (ms := 0) (A := fun _ => True) hP hS hp) hS.2.2 hdg hlk)
theorem g_zret (hC : gC N0 D cy p s m args c cc nL own) {v : Int32} {mc ms : Nat} (hP : gP N0 D cy S H) (hS : va_S (fun q => N0 ≤ q) s.heap H locs) (hr : meth.sig.returnType = some .boolean) (hlk : meth.locks = false) (h1 : cells ≤ mc) (h2 : slots ≤ ms) (hv : vp_nar .boolean v = v) (hp : post (some (.int v)) S H.size) (hdg : decode cc pc = .ok (.ireturn, 1)) : W p l e R s m args below meth c H locs cells slots (MQ below (gQ N0 D cy post) args s mc ms (fun q => N0 ≤ q)) (F0 m pc ls [.int v]) :=
  W.widen h1 h2 (W.zret hC.1 hC.2.1 hr (by rw [show narrow .boolean (.int v) = .int (vp_nar .boolean v) from rfl, hv]) (g_ret_q (mc := 0) (ms := 0) (A := fun _ => True) hP hS hp) hS.2.2 hdg hlk)
theorem g_lret (hC : gC N0 D cy p s m args c cc nL own) {v : Int64} {mc ms : Nat} (hP : gP N0 D cy S H) (hS : va_S (fun q => N0 ≤ q) s.heap H locs) (hr : meth.sig.returnType = some .long) (hlk : meth.locks = false) (h1 : cells ≤ mc) (h2 : slots ≤ ms) (hp : post (some (.long v)) S H.size) (hdg : decode cc pc = .ok (.lreturn, 1)) : W p l e R s m args below meth c H locs cells slots (MQ below (gQ N0 D cy post) args s mc ms (fun q => N0 ≤ q)) (F0 m pc ls [.long v]) :=
  W.widen h1 h2 (W.lret hC.1 hC.2.1 hr (g_ret_q (mc := 0) (ms := 0) (A := fun _ => True) hP hS hp) hS.2.2 hdg hlk)
theorem g_vret (hC : gC N0 D cy p s m args c cc nL own) {mc ms : Nat} (hP : gP N0 D cy S H) (hS : va_S (fun q => N0 ≤ q) s.heap H locs) (hr : meth.sig.returnType = none) (hlk : meth.locks = false) (h1 : cells ≤ mc) (h2 : slots ≤ ms) (hp : post none S H.size) (hdg : decode cc pc = .ok (.return_, 1)) : W p l e R s m args below meth c H locs cells slots (MQ below (gQ N0 D cy post) args s mc ms (fun q => N0 ≤ q)) (F0 m pc ls []) :=
  W.widen h1 h2 (W.vret hC.1 hC.2.1 hr (g_ret_q (mc := 0) (ms := 0) (A := fun _ => True) hP hS hp) hS.2.2 hdg hlk)
theorem g_aret (hC : gC N0 D cy p s m args c cc nL own) {v : Option Nat} {mc ms : Nat} {C : String} (hP : gP N0 D cy S H) (hS : va_S (fun q => N0 ≤ q) s.heap H locs) (hr : meth.sig.returnType = some (.object C)) (hlk : meth.locks = false) (h1 : cells ≤ mc) (h2 : slots ≤ ms) (hp : post (some (va_rf v)) S H.size) (hdg : decode cc pc = .ok (.areturn, 1)) : W p l e R s m args below meth c H locs cells slots (MQ below (gQ N0 D cy post) args s mc ms (fun q => N0 ≤ q)) (F0 m pc ls [va_rf v]) :=
  W.widen h1 h2 (W.aret hC.1 hC.2.1 hr (Or.inl ⟨_, rfl⟩) (by cases v with | none => exact Or.inl rfl | some a => exact Or.inr ⟨a, rfl⟩) (g_ret_q (mc := 0) (ms := 0) (A := fun _ => True) hP hS hp) hS.2.2 hdg hlk)
end GC
/-- a method's body -/
theorem g_body {l : Launch} {y : MethodName} {cd : ByteArray} {ml : Nat} {ret : Option FieldType} {rm : Room} {N0 : Nat} {D : va_G} {cy : Nat → ClassId} {av : List Value} {S : gS} {sz : Nat} {post : Option Value → gS → Nat → Prop} {own : String} (hy : plainName y.cls = true) (ho : y.cls = own) (hlen : (lg_sl av).length ≤ ml)
    (body : ∀ (p : Program) (e : Env) (s : State) (m : MethodId) (args : Array Value) (below : List Frame) (meth : Method) (c : Code) (ls : Array Slot), gC N0 D cy p s m args c cd ml own → gU D cy s → meth.sig.returnType = ret → meth.locks = false → meth.name = y.name → s.heap.size = sz → gP N0 D cy S s.heap → va_S (fun q => N0 ≤ q) s.heap s.heap [] → lv_has ls ml (lv_args 0 av) →
      W p l e rm s m args below meth c s.heap [] 0 0 (MQ below (gQ N0 D cy post) args s rm.cells rm.slots (fun q => N0 ≤ q)) (F0 m 0 ls [])) : gM l y cd ml ret rm N0 D cy av S sz post := by
  refine Met.ofW (cc := cd) (maxL := ml) (ret := ret) hy rfl ?_
  intro p e s m args below meth c s₁ B hml hv
  obtain ⟨rfl, hsz, hP, hU⟩ := hv
  have hts := atoms_spec (ws := Cond.code y cd ml ret :: wsAll) B.pre
  have hl := lv_entry av (n := ml) hlen
  rw [lg_entry_eq]
  subst ho
  exact body p e s m _ below meth c _ ⟨B.exec, B.bytes, hml, findClass_of_methodNamed B.named, fun w h => hts w (List.mem_cons_of_mem _ h), hU.1, hP.2⟩ hU B.returns B.notSynchronized (name_of_methodNamed B.named B.method).1 hsz hP va_S.rf hl
/-! A fact of the store, behind an update. -/
theorem kI {S : gS} {a k b c : Nat} {v : Int32} (h : gK S b = c) : gK (sI S a k v) b = c := h
theorem kJ {S : gS} {a k b c : Nat} {v : Int64} (h : gK S b = c) : gK (sJ S a k v) b = c := h
theorem kR {S : gS} {a k b c : Nat} {v : Option Nat} (h : gK S b = c) : gK (sR S a k v) b = c := h
theorem nI' {S : gS} {a k b c : Nat} {v : Int32} (h : gn S b = c) : gn (sI S a k v) b = c := h
theorem nJ' {S : gS} {a k b c : Nat} {v : Int64} (h : gn S b = c) : gn (sJ S a k v) b = c := h
theorem nR' {S : gS} {a k b c : Nat} {v : Option Nat} (h : gn S b = c) : gn (sR S a k v) b = c := h
theorem rI {S : gS} {a k b j : Nat} {v : Int32} {r : Option Nat} (h : gR S b j = r) : gR (sI S a k v) b j = r := h
theorem rJ {S : gS} {a k b j : Nat} {v : Int64} {r : Option Nat} (h : gR S b j = r) : gR (sJ S a k v) b j = r := h
theorem rR {S : gS} {a k b j : Nat} {v r : Option Nat} (hne : j ≠ k ∨ b ≠ a) (h : gR S b j = r) : gR (sR S a k v) b j = r := by
  show up2 (gR S) a k v b j = r
  rcases hne with hne | hne
  · rw [up2_k hne]; exact h
  · rw [up2_a hne]; exact h
def sRow (S : gS) (a n : Nat) (f : Nat → Option Nat) : gS := (gK S, gn S, gI S, gJ S, fun b j => if b = a then (if j < n then f j else gR S b j) else gR S b j)
theorem kW {S : gS} {a n b c : Nat} {f : Nat → Option Nat} (h : gK S b = c) : gK (sRow S a n f) b = c := h
theorem nW' {S : gS} {a n b c : Nat} {f : Nat → Option Nat} (h : gn S b = c) : gn (sRow S a n f) b = c := h
theorem rW {S : gS} {a n b j : Nat} {f : Nat → Option Nat} {r : Option Nat} (hne : b ≠ a) (h : gR S b j = r) : gR (sRow S a n f) b j = r := by
  show (if b = a then (if j < n then f j else gR S b j) else gR S b j) = r
  rw [if_neg hne]; exact h
