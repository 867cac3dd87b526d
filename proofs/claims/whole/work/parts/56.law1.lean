set_option linter.constructorNameAsVariable false
/-! The law's own small methods: they call the class and catch. -/
def gZL (N0 : Nat) (U : State) : Prop := gZ N0 U ∧ va_Nc exA exO U ∧ va_Nc exS exO U
theorem gZL.go {N0 : Nat} {s U : State} {H : Heap} {locs : List Loc} (h : gZL N0 s) (hW : s.WarmedH U.vm) (hU : U.heap = H) (hS : va_S (fun q => N0 ≤ q) s.heap H locs) : gZL N0 U := ⟨h.1.go hW hU hS, va_Nc.moved hW.alike h.2.1, va_Nc.moved hW.alike h.2.2⟩
theorem gZL.blind {N0 : Nat} {U V : State} (h : gZL N0 U) (hv : V.vm = U.vm) (hh : V.heap = U.heap) : gZL N0 V := by
  have hW : U.WarmedH V.vm := by rw [hv]; exact State.WarmedH.refl U
  exact h.go (H := U.heap) (locs := []) hW hh va_S.rf
def gPreL (N0 : Nat) (D : va_G) (cy : Nat → ClassId) (av : List Value) (S : gS) (sz : Nat) : Array Value → State → Prop := va_Pc av (fun U => U.heap.size = sz ∧ gP N0 D cy S U.heap ∧ gU D cy U ∧ gZL N0 U)
theorem gPreL.blind {N0 : Nat} {D : va_G} {cy : Nat → ClassId} {av : List Value} {S : gS} {sz : Nat} : FrameBlind (gPreL N0 D cy av S sz) := fun a U g mk q => ⟨q.1, q.2.1, q.2.2.1, gU.moved (u := U) (U := U.calling g mk a) (Vm.Alike.refl U.vm) q.2.2.2.1, q.2.2.2.2.blind rfl rfl⟩
def nox : String → gS → Prop := fun _ _ => False
/-- a contract of a method with handlers, that throws nothing -/
def gMW (l : Launch) (y : MethodName) (cd : ByteArray) (ml : Nat) (ret : Option FieldType) (hh : List (Nat × Nat × Nat × Nat)) (rm : Room) (N0 : Nat) (D : va_G) (cy : Nat → ClassId) (av : List Value) (S : gS) (sz : Nat) (post : Option Value → gS → Nat → Prop) : Prop :=
  vx_Met l y (Cond.codeWith y cd ml ret hh :: wsAll) rm (gPreL N0 D cy av S sz) (gQ N0 D cy post) (gXq N0 D cy nox) rm.cells rm.slots (fun q => N0 ≤ q)
theorem bodyW {l : Launch} {y : MethodName} {cd : ByteArray} {ml : Nat} {ret : Option FieldType} {hh : List (Nat × Nat × Nat × Nat)} {rm : Room} {N0 : Nat} {D : va_G} {cy : Nat → ClassId} {av : List Value} {S : gS} {sz : Nat} {post : Option Value → gS → Nat → Prop} {own : String} (hy : plainName y.cls = true) (ho : y.cls = own) (hlen : (lg_sl av).length ≤ ml)
    (body : ∀ (p : Program) (e : Env) (s : State) (m : MethodId) (args : Array Value) (below : List Frame) (meth : Method) (c : Code) (ls : Array Slot), gC N0 D cy p s m args c cd ml own → gU D cy s → gZL N0 s → c.exceptionTable.toList = tableOf hh → meth.sig.returnType = ret → meth.locks = false → s.heap.size = sz → gP N0 D cy S s.heap → va_S (fun q => N0 ≤ q) s.heap s.heap [] → lv_has ls ml (lv_args 0 av) →
      W p l e rm s m args below meth c s.heap [] 0 0 (vx_MQ below (gQ N0 D cy post) (gXq N0 D cy nox) args s rm.cells rm.slots (fun q => N0 ≤ q)) (F0 m 0 ls [])) : gMW l y cd ml ret hh rm N0 D cy av S sz post := by
  refine vx_ofWH (cc := cd) (maxL := ml) (ret := ret) (hh := hh) hy rfl ?_
  intro p e s m args below meth c s₁ B hml hv
  obtain ⟨rfl, hsz, hP, hU, hZ⟩ := hv
  have hts := atoms_spec (ws := Cond.codeWith y cd ml ret hh :: wsAll) B.pre
  have ht := vx_table (x := y) B (hts _ List.mem_cons_self)
  have hl := lv_entry av (n := ml) hlen
  rw [lg_entry_eq]
  subst ho
  exact body p e s m _ below meth c _ ⟨B.exec, B.bytes, hml, findClass_of_methodNamed B.named, fun w h => hts w (List.mem_cons_of_mem _ h), hU.1, hP.2⟩ hU hZ ht B.returns B.notSynchronized hsz hP va_S.rf hl
theorem cs_O : Cond.castable exO exO ∈ wsB := by decide +kernel
theorem cs_A : Cond.castable exA exA ∈ wsB := by decide +kernel
theorem cs_S : Cond.castable exS exS ∈ wsB := by decide +kernel
section GW
variable {p : Program} {l : Launch} {e : Env} {R : Room} {s : State} {m : MethodId} {args : Array Value} {below : List Frame} {meth : Method} {c : Code} {H : Heap} {locs : List Loc} {cells slots : Nat} {Q : State → Prop}
variable {cc : ByteArray} {pc nL : Nat} {own : String} {ls : Array Slot} {rest st0 : List Value} {N0 : Nat} {D : va_G} {cy : Nat → ClassId} {S : gS}
variable {y : MethodName} {cd : ByteArray} {ml index ci b mc ms : Nat} {ret : Option FieldType} {rm : Room} {As : List Value} {post : Option Value → gS → Nat → Prop} {px : String → gS → Prop} {T : u_T} {hh : List (Nat × Nat × Nat × Nat)}
theorem g_cat1 {E : String} {ce : Cell} {q a1 b1 h1 t1 : Nat} {hs : List (Nat × Nat × Nat × Nat)} (hC : gC N0 D cy p s m args c cc nL RL) (hZ : gZL N0 s) (ht : c.exceptionTable.toList = tableOf ((a1, b1, h1, t1) :: hs)) (hcv : covers ⟨a1, b1, h1, t1⟩ pc = true) (h0 : t1 ≠ 0) (hk : Cond.classLink RL t1 E ∈ wsAll) (hcs : Cond.castable E E ∈ wsB) (hce : H[q]? = some ce) (hv : ce.vm = .none) (hcl : s.vm.findClass E = some ce.cls)
    (kk : W p l e R s m args below meth c H locs cells slots Q (F0 m h1 ls [.ref q])) : vx_W p l e R s m args below meth c H locs cells slots Q (F0 m pc ls rest) q :=
  vx_catch (own := RL) (name := E) hC.2.2.2.1 [] ⟨a1, b1, h1, t1⟩ (tableOf hs) ht (fun z hz => by cases hz) hcv h0 (hC.2.2.2.2.1 _ hk) (wsB_at (State.WarmedH.refl s) hcs (hZ.1.2.2.1 _ hcs)) hce hv hcl kk
theorem g_cat2 {E : String} {ce : Cell} {q a1 b1 h1 a2 b2 h2 t2 : Nat} {hs : List (Nat × Nat × Nat × Nat)} (hC : gC N0 D cy p s m args c cc nL RL) (hZ : gZL N0 s) (ht : c.exceptionTable.toList = tableOf ((a1, b1, h1, 13) :: (a2, b2, h2, t2) :: hs)) (hE : E = exA ∨ E = exS) (hcv : covers ⟨a2, b2, h2, t2⟩ pc = true) (h0 : t2 ≠ 0) (hk : Cond.classLink RL t2 E ∈ wsAll) (hcs : Cond.castable E E ∈ wsB) (hce : H[q]? = some ce) (hv : ce.vm = .none) (hcl : s.vm.findClass E = some ce.cls)
    (kk : W p l e R s m args below meth c H locs cells slots Q (F0 m h2 ls [.ref q])) : vx_W p l e R s m args below meth c H locs cells slots Q (F0 m pc ls rest) q :=
  vx_catch (own := RL) (name := E) hC.2.2.2.1 [⟨a1, b1, h1, 13⟩] ⟨a2, b2, h2, t2⟩ (tableOf hs) ht (fun z hz => by
    rw [List.mem_singleton.mp hz]
    refine Or.inr ⟨by show 13 ≠ 0; decide, exO, hC.2.2.2.2.1 _ kL_L_13, ?_⟩
    rcases hE with h | h
    · rw [h]; exact hZ.2.1
    · rw [h]; exact hZ.2.2) hcv h0 (hC.2.2.2.2.1 _ hk) (wsB_at (State.WarmedH.refl s) hcs (hZ.1.2.2.1 _ hcs)) hce hv hcl kk
/-- the law calls one of its small methods -/
theorem g_callW (hC : gC N0 D cy p s m args c cc nL own) (hU : gU D cy s) (hZ : gZL N0 s) (hP : gP N0 D cy S H) (hS : va_S (fun q => N0 ≤ q) s.heap H locs) (hl : ls.size = nL)
    (hM : gMW l y cd ml ret hh rm N0 D cy As S H.size post) (hmL : Cond.methodLink own index y ∈ wsAll) (hsT : Cond.static y ∈ wsAll) (hiN : Cond.initialized y.cls ∈ wsAll) (hcD : Cond.codeWith y cd ml ret hh ∈ wsAll)
    (hd : y.cls ≠ "java/lang/invoke/MethodHandle" ∧ y.cls ≠ "java/lang/invoke/VarHandle" ∧ (parseMethodDescriptor y.desc).map (fun d => d.parameters.length) = some As.length) (hR : rm.frames + 1 ≤ R.frames ∧ 8 + (ml + 11) + rm.locals ≤ R.locals) (hf : cells + rm.cells ≤ R.cells ∧ slots + rm.slots ≤ R.slots)
    (hst : st0 = As.reverse ++ rest) (hroom : (rest.map fun v => v.category).sum ≤ 8) (hdg : decode cc pc = .ok (.invokestatic index, 3))
    (kk : ∀ (v : Option Value) (S' : gS) (H1 : Heap) (locs1 : List Loc), post v S' H1.size → gP N0 D cy S' H1 → H.size ≤ H1.size → va_S (fun q => N0 ≤ q) s.heap H1 locs1 → W p l e R s m args below meth c H1 locs1 (cells + rm.cells) (slots + rm.slots) Q (F0 m (pc + 3) ls (v.toList ++ rest))) : W p l e R s m args below meth c H locs cells slots Q (F0 m pc ls st0) := by
  obtain ⟨hx, hb, hml, hown, hts, hK, hN⟩ := hC
  have hG : GoodIn wsAll (va_wsS own index y (Cond.codeWith y cd ml ret hh :: wsAll)) := by
    intro w h
    have hw : w ∈ wsAll := by
      unfold va_wsS at h
      rcases List.mem_append.mp h with h | h
      · simp only [List.mem_cons, List.not_mem_nil, or_false] at h
        rcases h with rfl | rfl | rfl <;> assumption
      · rcases List.mem_cons.mp h with h | h
        · rw [h]; exact hcD
        · exact h
    exact ⟨hw, wsAll_good hw⟩
  refine g_afterX (vx_runSX (Ts := wsAll) (As := As) (rest := rest) (hh := hh) ⟨hx, hb, hml, hown, hts⟩ hM (vx_cwSW As.length hts hG rfl rfl rfl hd hR) ⟨gPreL.blind, fun U hU' hW => ⟨rfl, by rw [hU'], by rw [hU']; exact hP, hU.moved hW.alike, hZ.go hW hU' hS⟩⟩ rfl rfl hl hst (lv_room hroom) hdg hf) hS (fun E S' ce q9 H1 locs1 hn => hn.elim) kk
end GW
set_option maxRecDepth 100000 in
set_option maxHeartbeats 4000000 in
theorem w_clock (l : Launch) (N0 : Nat) (D : va_G) (cy : Nat → ClassId) (S : gS) (sz x : Nat) (p0 : Int32) (p1 : Int64) (post : Option Value → gS → Nat → Prop) (px : String → gS → Prop) (hxk : gK S x = 7) (hM : gMX l yX6_clock cX6_clock 4 (none : Option FieldType) { frames := 6, cells := 1, slots := 6, locals := 90 } N0 D cy [.ref x, .int p0, .long p1] S sz post px) (hE : ∀ E S1, px E S1 → E = exO ∨ E = exA) (hv : ∀ v S1 z, post v S1 z → v = none) : gMW l yL_clock cL_clock 5 (some FieldType.int) [(0, 6, 9, 13), (0, 6, 13, 15)] { frames := 7, cells := 1, slots := 6, locals := 113 } N0 D cy [.ref x, .int p0, .long p1] S sz (fun v S1 z => (v = some (.int 0) ∧ post none S1 z) ∨ (v = some (.int 1) ∧ px exO S1) ∨ (v = some (.int 2) ∧ px exA S1)) := by
  refine bodyW (by decide) rfl (Nat.le_of_ble_eq_true rfl) ?_
  intro p e s m args below meth c ls hC hU hZ ht hr hlk hsz hP hS hl
  have hx := hC.1
  have hb := hC.2.1
  refine lv_aload_n hx hb dL_clock_0 rfl (lv_at hl 0 rfl) ?_
  refine lv_iload_n hx hb dL_clock_1 rfl (lv_at hl 1 rfl) ?_
  refine lv_lload_n hx hb dL_clock_2 rfl (lv_at hl 2 rfl) ?_
  rw [← hsz] at hM
  refine g_callVX (As := [.int _, .long _]) (rest := []) hC hU hZ.1 hP hS hl.1 hM mL_L_7 iM_X6_clock sL_X6_clock iN_X6 cD_X6_clock ⟨by decide, by decide, rfl⟩ ⟨by decide, by decide⟩ ⟨by decide, by decide⟩ (ci := 6) rfl (by decide) hxk rfl (Nat.le_of_ble_eq_true rfl) dL_clock_3 (fun E S1 ce q9 H locs hw hP hz hS hce hcv hcl => ?_) (fun v S1 H locs hw hP hz hS => ?_)
  · rcases hE _ _ hw with rfl | rfl
    · refine g_cat1 hC hZ ht (by decide) (by decide) kL_L_13 cs_O hce hcv hcl ?_
      refine lv_astore (lv' := [(4, .ref _), (0, .ref _), (1, .int _), (2, .long _)]) hx hb dL_clock_9 hl (by decide) rfl (fun ls hl => ?_)
      refine lv_iconst (v := 1) hx hb dL_clock_11 (by decide) ?_
      exact vx_ret (g_iret hC hP hS hr hlk (by decide) (by decide) (Or.inr (Or.inl ⟨rfl, hw⟩)) dL_clock_12)
    · refine g_cat2 hC hZ ht (Or.inl rfl) (by decide) (by decide) kL_L_15 cs_A hce hcv hcl ?_
      refine lv_astore (lv' := [(4, .ref _), (0, .ref _), (1, .int _), (2, .long _)]) hx hb dL_clock_13 hl (by decide) rfl (fun ls hl => ?_)
      refine lv_iconst (v := 2) hx hb dL_clock_15 (by decide) ?_
      exact vx_ret (g_iret hC hP hS hr hlk (by decide) (by decide) (Or.inr (Or.inr ⟨rfl, hw⟩)) dL_clock_16)
  · obtain rfl := hv _ _ _ hw
    refine lv_goto (tgt := 17) hx hb dL_clock_6 (by decide) ?_
    refine lv_iconst (v := 0) hx hb dL_clock_17 (by decide) ?_
    exact vx_ret (g_iret hC hP hS hr hlk (by decide) (by decide) (Or.inl ⟨rfl, hw⟩) dL_clock_18)

set_option maxRecDepth 100000 in
set_option maxHeartbeats 4000000 in
theorem w_start (l : Launch) (N0 : Nat) (D : va_G) (cy : Nat → ClassId) (S : gS) (sz x : Nat) (p0 : Int32) (post : Option Value → gS → Nat → Prop) (px : String → gS → Prop) (hxk : gK S x = 7) (hM : gMX l yX6_start cX6_start 3 (none : Option FieldType) { frames := 6, cells := 1, slots := 6, locals := 110 } N0 D cy [.ref x, .int p0] S sz post px) (hE : ∀ E S1, px E S1 → E = exO ∨ E = exS) (hv : ∀ v S1 z, post v S1 z → v = none) : gMW l yL_start cL_start 3 (some FieldType.int) [(0, 5, 8, 13), (0, 5, 11, 21)] { frames := 7, cells := 1, slots := 6, locals := 132 } N0 D cy [.ref x, .int p0] S sz (fun v S1 z => (v = some (.int 0) ∧ post none S1 z) ∨ (v = some (.int 1) ∧ px exO S1) ∨ (v = some (.int 2) ∧ px exS S1)) := by
  refine bodyW (by decide) rfl (Nat.le_of_ble_eq_true rfl) ?_
  intro p e s m args below meth c ls hC hU hZ ht hr hlk hsz hP hS hl
  have hx := hC.1
  have hb := hC.2.1
  refine lv_aload_n hx hb dL_start_0 rfl (lv_at hl 0 rfl) ?_
  refine lv_iload_n hx hb dL_start_1 rfl (lv_at hl 1 rfl) ?_
  rw [← hsz] at hM
  refine g_callVX (As := [.int _]) (rest := []) hC hU hZ.1 hP hS hl.1 hM mL_L_17 iM_X6_start sL_X6_start iN_X6 cD_X6_start ⟨by decide, by decide, rfl⟩ ⟨by decide, by decide⟩ ⟨by decide, by decide⟩ (ci := 6) rfl (by decide) hxk rfl (Nat.le_of_ble_eq_true rfl) dL_start_2 (fun E S1 ce q9 H locs hw hP hz hS hce hcv hcl => ?_) (fun v S1 H locs hw hP hz hS => ?_)
  · rcases hE _ _ hw with rfl | rfl
    · refine g_cat1 hC hZ ht (by decide) (by decide) kL_L_13 cs_O hce hcv hcl ?_
      refine lv_astore_n (lv' := [(2, .ref _), (0, .ref _), (1, .int _)]) hx hb dL_start_8 rfl hl (by decide) rfl (fun ls hl => ?_)
      refine lv_iconst (v := 1) hx hb dL_start_9 (by decide) ?_
      exact vx_ret (g_iret hC hP hS hr hlk (by decide) (by decide) (Or.inr (Or.inl ⟨rfl, hw⟩)) dL_start_10)
    · refine g_cat2 hC hZ ht (Or.inr rfl) (by decide) (by decide) kL_L_21 cs_S hce hcv hcl ?_
      refine lv_astore_n (lv' := [(2, .ref _), (0, .ref _), (1, .int _)]) hx hb dL_start_11 rfl hl (by decide) rfl (fun ls hl => ?_)
      refine lv_iconst (v := 2) hx hb dL_start_12 (by decide) ?_
      exact vx_ret (g_iret hC hP hS hr hlk (by decide) (by decide) (Or.inr (Or.inr ⟨rfl, hw⟩)) dL_start_13)
  · obtain rfl := hv _ _ _ hw
    refine lv_goto (tgt := 14) hx hb dL_start_5 (by decide) ?_
    refine lv_iconst (v := 0) hx hb dL_start_14 (by decide) ?_
    exact vx_ret (g_iret hC hP hS hr hlk (by decide) (by decide) (Or.inl ⟨rfl, hw⟩) dL_start_15)

set_option maxRecDepth 100000 in
set_option maxHeartbeats 4000000 in
theorem w_prolong (l : Launch) (N0 : Nat) (D : va_G) (cy : Nat → ClassId) (S : gS) (sz x : Nat) (p0 : Int32) (post : Option Value → gS → Nat → Prop) (px : String → gS → Prop) (hxk : gK S x = 7) (hM : gMX l yX6_prolong cX6_prolong 3 (none : Option FieldType) { frames := 6, cells := 1, slots := 6, locals := 110 } N0 D cy [.ref x, .int p0] S sz post px) (hE : ∀ E S1, px E S1 → E = exO ∨ E = exS) (hv : ∀ v S1 z, post v S1 z → v = none) : gMW l yL_prolong cL_prolong 3 (some FieldType.int) [(0, 5, 8, 13), (0, 5, 11, 21)] { frames := 7, cells := 1, slots := 6, locals := 132 } N0 D cy [.ref x, .int p0] S sz (fun v S1 z => (v = some (.int 0) ∧ post none S1 z) ∨ (v = some (.int 1) ∧ px exO S1) ∨ (v = some (.int 2) ∧ px exS S1)) := by
  refine bodyW (by decide) rfl (Nat.le_of_ble_eq_true rfl) ?_
  intro p e s m args below meth c ls hC hU hZ ht hr hlk hsz hP hS hl
  have hx := hC.1
  have hb := hC.2.1
  refine lv_aload_n hx hb dL_prolong_0 rfl (lv_at hl 0 rfl) ?_
  refine lv_iload_n hx hb dL_prolong_1 rfl (lv_at hl 1 rfl) ?_
  rw [← hsz] at hM
  refine g_callVX (As := [.int _]) (rest := []) hC hU hZ.1 hP hS hl.1 hM mL_L_23 iM_X6_prolong sL_X6_prolong iN_X6 cD_X6_prolong ⟨by decide, by decide, rfl⟩ ⟨by decide, by decide⟩ ⟨by decide, by decide⟩ (ci := 6) rfl (by decide) hxk rfl (Nat.le_of_ble_eq_true rfl) dL_prolong_2 (fun E S1 ce q9 H locs hw hP hz hS hce hcv hcl => ?_) (fun v S1 H locs hw hP hz hS => ?_)
  · rcases hE _ _ hw with rfl | rfl
    · refine g_cat1 hC hZ ht (by decide) (by decide) kL_L_13 cs_O hce hcv hcl ?_
      refine lv_astore_n (lv' := [(2, .ref _), (0, .ref _), (1, .int _)]) hx hb dL_prolong_8 rfl hl (by decide) rfl (fun ls hl => ?_)
      refine lv_iconst (v := 1) hx hb dL_prolong_9 (by decide) ?_
      exact vx_ret (g_iret hC hP hS hr hlk (by decide) (by decide) (Or.inr (Or.inl ⟨rfl, hw⟩)) dL_prolong_10)
    · refine g_cat2 hC hZ ht (Or.inr rfl) (by decide) (by decide) kL_L_21 cs_S hce hcv hcl ?_
      refine lv_astore_n (lv' := [(2, .ref _), (0, .ref _), (1, .int _)]) hx hb dL_prolong_11 rfl hl (by decide) rfl (fun ls hl => ?_)
      refine lv_iconst (v := 2) hx hb dL_prolong_12 (by decide) ?_
      exact vx_ret (g_iret hC hP hS hr hlk (by decide) (by decide) (Or.inr (Or.inr ⟨rfl, hw⟩)) dL_prolong_13)
  · obtain rfl := hv _ _ _ hw
    refine lv_goto (tgt := 14) hx hb dL_prolong_5 (by decide) ?_
    refine lv_iconst (v := 0) hx hb dL_prolong_14 (by decide) ?_
    exact vx_ret (g_iret hC hP hS hr hlk (by decide) (by decide) (Or.inl ⟨rfl, hw⟩) dL_prolong_15)

set_option maxRecDepth 100000 in
set_option maxHeartbeats 4000000 in
theorem w_crash (l : Launch) (N0 : Nat) (D : va_G) (cy : Nat → ClassId) (S : gS) (sz x : Nat) (p0 : Int32) (post : Option Value → gS → Nat → Prop) (px : String → gS → Prop) (hxk : gK S x = 7) (hM : gMX l yX6_crash cX6_crash 2 (none : Option FieldType) { frames := 6, cells := 1, slots := 6, locals := 90 } N0 D cy [.ref x, .int p0] S sz post px) (hE : ∀ E S1, px E S1 → E = exO) (hv : ∀ v S1 z, post v S1 z → v = none) : gMW l yL_crash cL_crash 3 (some FieldType.int) [(0, 5, 8, 13)] { frames := 7, cells := 1, slots := 6, locals := 111 } N0 D cy [.ref x, .int p0] S sz (fun v S1 z => (v = some (.int 0) ∧ post none S1 z) ∨ (v = some (.int 1) ∧ px exO S1)) := by
  refine bodyW (by decide) rfl (Nat.le_of_ble_eq_true rfl) ?_
  intro p e s m args below meth c ls hC hU hZ ht hr hlk hsz hP hS hl
  have hx := hC.1
  have hb := hC.2.1
  refine lv_aload_n hx hb dL_crash_0 rfl (lv_at hl 0 rfl) ?_
  refine lv_iload_n hx hb dL_crash_1 rfl (lv_at hl 1 rfl) ?_
  rw [← hsz] at hM
  refine g_callVX (As := [.int _]) (rest := []) hC hU hZ.1 hP hS hl.1 hM mL_L_26 iM_X6_crash sL_X6_crash iN_X6 cD_X6_crash ⟨by decide, by decide, rfl⟩ ⟨by decide, by decide⟩ ⟨by decide, by decide⟩ (ci := 6) rfl (by decide) hxk rfl (Nat.le_of_ble_eq_true rfl) dL_crash_2 (fun E S1 ce q9 H locs hw hP hz hS hce hcv hcl => ?_) (fun v S1 H locs hw hP hz hS => ?_)
  · obtain rfl := hE _ _ hw
    refine g_cat1 hC hZ ht (by decide) (by decide) kL_L_13 cs_O hce hcv hcl ?_
    refine lv_astore_n (lv' := [(2, .ref _), (0, .ref _), (1, .int _)]) hx hb dL_crash_8 rfl hl (by decide) rfl (fun ls hl => ?_)
    refine lv_iconst (v := 1) hx hb dL_crash_9 (by decide) ?_
    exact vx_ret (g_iret hC hP hS hr hlk (by decide) (by decide) (Or.inr (⟨rfl, hw⟩)) dL_crash_10)
  · obtain rfl := hv _ _ _ hw
    refine lv_goto (tgt := 11) hx hb dL_crash_5 (by decide) ?_
    refine lv_iconst (v := 0) hx hb dL_crash_11 (by decide) ?_
    exact vx_ret (g_iret hC hP hS hr hlk (by decide) (by decide) (Or.inl ⟨rfl, hw⟩) dL_crash_12)

set_option maxRecDepth 100000 in
set_option maxHeartbeats 4000000 in
theorem w_node (l : Launch) (N0 : Nat) (D : va_G) (cy : Nat → ClassId) (S : gS) (sz x : Nat) (p0 : Int32) (p1 : Int32) (post : Option Value → gS → Nat → Prop) (px : String → gS → Prop) (hxk : gK S x = 7) (hM : gMX l yX6_node cX6_node 3 (none : Option FieldType) { frames := 6, cells := 1, slots := 6, locals := 90 } N0 D cy [.ref x, .int p0, .int p1] S sz post px) (hE : ∀ E S1, px E S1 → E = exO) (hv : ∀ v S1 z, post v S1 z → v = none) : gMW l yL_node cL_node 4 (some FieldType.int) [(0, 6, 9, 13)] { frames := 7, cells := 1, slots := 6, locals := 112 } N0 D cy [.ref x, .int p0, .int p1] S sz (fun v S1 z => (v = some (.int 0) ∧ post none S1 z) ∨ (v = some (.int 1) ∧ px exO S1)) := by
  refine bodyW (by decide) rfl (Nat.le_of_ble_eq_true rfl) ?_
  intro p e s m args below meth c ls hC hU hZ ht hr hlk hsz hP hS hl
  have hx := hC.1
  have hb := hC.2.1
  refine lv_aload_n hx hb dL_node_0 rfl (lv_at hl 0 rfl) ?_
  refine lv_iload_n hx hb dL_node_1 rfl (lv_at hl 1 rfl) ?_
  refine lv_iload_n hx hb dL_node_2 rfl (lv_at hl 2 rfl) ?_
  rw [← hsz] at hM
  refine g_callVX (As := [.int _, .int _]) (rest := []) hC hU hZ.1 hP hS hl.1 hM mL_L_29 iM_X6_node sL_X6_node iN_X6 cD_X6_node ⟨by decide, by decide, rfl⟩ ⟨by decide, by decide⟩ ⟨by decide, by decide⟩ (ci := 6) rfl (by decide) hxk rfl (Nat.le_of_ble_eq_true rfl) dL_node_3 (fun E S1 ce q9 H locs hw hP hz hS hce hcv hcl => ?_) (fun v S1 H locs hw hP hz hS => ?_)
  · obtain rfl := hE _ _ hw
    refine g_cat1 hC hZ ht (by decide) (by decide) kL_L_13 cs_O hce hcv hcl ?_
    refine lv_astore_n (lv' := [(3, .ref _), (0, .ref _), (1, .int _), (2, .int _)]) hx hb dL_node_9 rfl hl (by decide) rfl (fun ls hl => ?_)
    refine lv_iconst (v := 1) hx hb dL_node_10 (by decide) ?_
    exact vx_ret (g_iret hC hP hS hr hlk (by decide) (by decide) (Or.inr (⟨rfl, hw⟩)) dL_node_11)
  · obtain rfl := hv _ _ _ hw
    refine lv_goto (tgt := 12) hx hb dL_node_6 (by decide) ?_
    refine lv_iconst (v := 0) hx hb dL_node_12 (by decide) ?_
    exact vx_ret (g_iret hC hP hS hr hlk (by decide) (by decide) (Or.inl ⟨rfl, hw⟩) dL_node_13)

set_option maxRecDepth 100000 in
set_option maxHeartbeats 4000000 in
theorem w_deliver (l : Launch) (N0 : Nat) (D : va_G) (cy : Nat → ClassId) (S : gS) (sz x ot : Nat) (p0 : Int32) (post : Option Value → gS → Nat → Prop) (px : String → gS → Prop) (hxk : gK S x = 7) (hM : gMX l yX6_deliver cX6_deliver 4 (some FieldType.int) { frames := 7, cells := 3, slots := 13, locals := 170 } N0 D cy [.ref x, .int p0] S sz post px) (hE : ∀ E S1, px E S1 → E = exO ∨ E = exS) (hv : ∀ v S1 z, post v S1 z → (∃ r : Int32, v = some (.int r)) ∧ gK S1 ot = 10 ∧ gn S1 ot = 1) : gMW l yL_deliver cL_deliver 4 (some FieldType.int) [(0, 9, 12, 13), (0, 9, 15, 21)] { frames := 8, cells := 3, slots := 13, locals := 193 } N0 D cy [.ref x, .int p0, .ref ot] S sz (fun v S1 z => (∃ (r : Int32) (S2 : gS), v = some (.int 0) ∧ post (some (.int r)) S2 z ∧ S1 = sJ S2 ot 0 r.toInt64) ∨ (v = some (.int 1) ∧ px exO S1) ∨ (v = some (.int 2) ∧ px exS S1)) := by
  refine bodyW (by decide) rfl (Nat.le_of_ble_eq_true rfl) ?_
  intro p e s m args below meth c ls hC hU hZ ht hr hlk hsz hP hS hl
  have hx := hC.1
  have hb := hC.2.1
  refine lv_aload_n hx hb dL_deliver_0 rfl (lv_at hl 2 rfl) ?_
  refine lv_iconst (v := 0) hx hb dL_deliver_1 (by decide) ?_
  refine lv_aload_n hx hb dL_deliver_2 rfl (lv_at hl 0 rfl) ?_
  refine lv_iload_n hx hb dL_deliver_3 rfl (lv_at hl 1 rfl) ?_
  rw [← hsz] at hM
  refine g_callVX (As := [.int _]) (rest := [.int _, .ref _]) hC hU hZ.1 hP hS hl.1 hM mL_L_33 iM_X6_deliver sL_X6_deliver iN_X6 cD_X6_deliver ⟨by decide, by decide, rfl⟩ ⟨by decide, by decide⟩ ⟨by decide, by decide⟩ (ci := 6) rfl (by decide) hxk rfl (Nat.le_of_ble_eq_true rfl) dL_deliver_4 (fun E S1 ce q9 H locs hw hP hz hS hce hcv hcl => ?_) (fun v S1 H locs hw hP hz hS => ?_)
  · rcases hE _ _ hw with rfl | rfl
    · refine g_cat1 hC hZ ht (by decide) (by decide) kL_L_13 cs_O hce hcv hcl ?_
      refine lv_astore_n (lv' := [(3, .ref _), (0, .ref _), (1, .int _), (2, .ref _)]) hx hb dL_deliver_12 rfl hl (by decide) rfl (fun ls hl => ?_)
      refine lv_iconst (v := 1) hx hb dL_deliver_13 (by decide) ?_
      exact vx_ret (g_iret hC hP hS hr hlk (by decide) (by decide) (Or.inr (Or.inl ⟨rfl, hw⟩)) dL_deliver_14)
    · refine g_cat2 hC hZ ht (Or.inr rfl) (by decide) (by decide) kL_L_21 cs_S hce hcv hcl ?_
      refine lv_astore_n (lv' := [(3, .ref _), (0, .ref _), (1, .int _), (2, .ref _)]) hx hb dL_deliver_15 rfl hl (by decide) rfl (fun ls hl => ?_)
      refine lv_iconst (v := 2) hx hb dL_deliver_16 (by decide) ?_
      exact vx_ret (g_iret hC hP hS hr hlk (by decide) (by decide) (Or.inr (Or.inr ⟨rfl, hw⟩)) dL_deliver_17)
  · obtain ⟨⟨r, rfl⟩, hk1, hn1⟩ := hv _ _ _ hw
    refine lv_i2l hx hb dL_deliver_7 rfl ?_
    refine g_last hC hP hS hk1 (by rw [hn1]; exact vp_in_nI (n := 0) (by decide) (by decide)) dL_deliver_8 (fun H locs hP hz9 hS => ?_)
    refine lv_goto (tgt := 18) hx hb dL_deliver_9 (by decide) ?_
    refine lv_iconst (v := 0) hx hb dL_deliver_18 (by decide) ?_
    exact vx_ret (g_iret hC hP hS hr hlk (by decide) (by decide) (Or.inl ⟨r, S1, rfl, by rw [hz9]; exact hw, rfl⟩) dL_deliver_19)

set_option maxRecDepth 100000 in
set_option maxHeartbeats 4000000 in
theorem w_lose (l : Launch) (N0 : Nat) (D : va_G) (cy : Nat → ClassId) (S : gS) (sz x : Nat) (p0 : Int32) (post : Option Value → gS → Nat → Prop) (px : String → gS → Prop) (hxk : gK S x = 7) (hM : gMX l yX6_lose cX6_lose 2 (none : Option FieldType) { frames := 6, cells := 1, slots := 6, locals := 90 } N0 D cy [.ref x, .int p0] S sz post px) (hE : ∀ E S1, px E S1 → E = exO) (hv : ∀ v S1 z, post v S1 z → v = none) : gMW l yL_lose cL_lose 3 (some FieldType.int) [(0, 5, 8, 13)] { frames := 7, cells := 1, slots := 6, locals := 111 } N0 D cy [.ref x, .int p0] S sz (fun v S1 z => (v = some (.int 0) ∧ post none S1 z) ∨ (v = some (.int 1) ∧ px exO S1)) := by
  refine bodyW (by decide) rfl (Nat.le_of_ble_eq_true rfl) ?_
  intro p e s m args below meth c ls hC hU hZ ht hr hlk hsz hP hS hl
  have hx := hC.1
  have hb := hC.2.1
  refine lv_aload_n hx hb dL_lose_0 rfl (lv_at hl 0 rfl) ?_
  refine lv_iload_n hx hb dL_lose_1 rfl (lv_at hl 1 rfl) ?_
  rw [← hsz] at hM
  refine g_callVX (As := [.int _]) (rest := []) hC hU hZ.1 hP hS hl.1 hM mL_L_37 iM_X6_lose sL_X6_lose iN_X6 cD_X6_lose ⟨by decide, by decide, rfl⟩ ⟨by decide, by decide⟩ ⟨by decide, by decide⟩ (ci := 6) rfl (by decide) hxk rfl (Nat.le_of_ble_eq_true rfl) dL_lose_2 (fun E S1 ce q9 H locs hw hP hz hS hce hcv hcl => ?_) (fun v S1 H locs hw hP hz hS => ?_)
  · obtain rfl := hE _ _ hw
    refine g_cat1 hC hZ ht (by decide) (by decide) kL_L_13 cs_O hce hcv hcl ?_
    refine lv_astore_n (lv' := [(2, .ref _), (0, .ref _), (1, .int _)]) hx hb dL_lose_8 rfl hl (by decide) rfl (fun ls hl => ?_)
    refine lv_iconst (v := 1) hx hb dL_lose_9 (by decide) ?_
    exact vx_ret (g_iret hC hP hS hr hlk (by decide) (by decide) (Or.inr (⟨rfl, hw⟩)) dL_lose_10)
  · obtain rfl := hv _ _ _ hw
    refine lv_goto (tgt := 11) hx hb dL_lose_5 (by decide) ?_
    refine lv_iconst (v := 0) hx hb dL_lose_11 (by decide) ?_
    exact vx_ret (g_iret hC hP hS hr hlk (by decide) (by decide) (Or.inl ⟨rfl, hw⟩) dL_lose_12)

set_option maxRecDepth 100000 in
set_option maxHeartbeats 4000000 in
theorem w_twin (l : Launch) (N0 : Nat) (D : va_G) (cy : Nat → ClassId) (S : gS) (sz x : Nat) (p0 : Int32) (post : Option Value → gS → Nat → Prop) (px : String → gS → Prop) (hxk : gK S x = 7) (hM : gMX l yX6_twin cX6_twin 2 (none : Option FieldType) { frames := 6, cells := 1, slots := 6, locals := 90 } N0 D cy [.ref x, .int p0] S sz post px) (hE : ∀ E S1, px E S1 → E = exO ∨ E = exS) (hv : ∀ v S1 z, post v S1 z → v = none) : gMW l yL_twin cL_twin 3 (some FieldType.int) [(0, 5, 8, 13), (0, 5, 11, 21)] { frames := 7, cells := 1, slots := 6, locals := 111 } N0 D cy [.ref x, .int p0] S sz (fun v S1 z => (v = some (.int 0) ∧ post none S1 z) ∨ (v = some (.int 1) ∧ px exO S1) ∨ (v = some (.int 2) ∧ px exS S1)) := by
  refine bodyW (by decide) rfl (Nat.le_of_ble_eq_true rfl) ?_
  intro p e s m args below meth c ls hC hU hZ ht hr hlk hsz hP hS hl
  have hx := hC.1
  have hb := hC.2.1
  refine lv_aload_n hx hb dL_twin_0 rfl (lv_at hl 0 rfl) ?_
  refine lv_iload_n hx hb dL_twin_1 rfl (lv_at hl 1 rfl) ?_
  rw [← hsz] at hM
  refine g_callVX (As := [.int _]) (rest := []) hC hU hZ.1 hP hS hl.1 hM mL_L_40 iM_X6_twin sL_X6_twin iN_X6 cD_X6_twin ⟨by decide, by decide, rfl⟩ ⟨by decide, by decide⟩ ⟨by decide, by decide⟩ (ci := 6) rfl (by decide) hxk rfl (Nat.le_of_ble_eq_true rfl) dL_twin_2 (fun E S1 ce q9 H locs hw hP hz hS hce hcv hcl => ?_) (fun v S1 H locs hw hP hz hS => ?_)
  · rcases hE _ _ hw with rfl | rfl
    · refine g_cat1 hC hZ ht (by decide) (by decide) kL_L_13 cs_O hce hcv hcl ?_
      refine lv_astore_n (lv' := [(2, .ref _), (0, .ref _), (1, .int _)]) hx hb dL_twin_8 rfl hl (by decide) rfl (fun ls hl => ?_)
      refine lv_iconst (v := 1) hx hb dL_twin_9 (by decide) ?_
      exact vx_ret (g_iret hC hP hS hr hlk (by decide) (by decide) (Or.inr (Or.inl ⟨rfl, hw⟩)) dL_twin_10)
    · refine g_cat2 hC hZ ht (Or.inr rfl) (by decide) (by decide) kL_L_21 cs_S hce hcv hcl ?_
      refine lv_astore_n (lv' := [(2, .ref _), (0, .ref _), (1, .int _)]) hx hb dL_twin_11 rfl hl (by decide) rfl (fun ls hl => ?_)
      refine lv_iconst (v := 2) hx hb dL_twin_12 (by decide) ?_
      exact vx_ret (g_iret hC hP hS hr hlk (by decide) (by decide) (Or.inr (Or.inr ⟨rfl, hw⟩)) dL_twin_13)
  · obtain rfl := hv _ _ _ hw
    refine lv_goto (tgt := 14) hx hb dL_twin_5 (by decide) ?_
    refine lv_iconst (v := 0) hx hb dL_twin_14 (by decide) ?_
    exact vx_ret (g_iret hC hP hS hr hlk (by decide) (by decide) (Or.inl ⟨rfl, hw⟩) dL_twin_15)

set_option maxRecDepth 100000 in
set_option maxHeartbeats 4000000 in
theorem w_letter (l : Launch) (N0 : Nat) (D : va_G) (cy : Nat → ClassId) (S : gS) (sz x ot : Nat) (p0 : Int32) (p1 : Int32) (post : Option Value → gS → Nat → Prop) (px : String → gS → Prop) (hxk : gK S x = 7) (hM : gMX l yX6_letter cX6_letter 4 (some FieldType.int) { frames := 6, cells := 1, slots := 6, locals := 90 } N0 D cy [.ref x, .int p0, .int p1] S sz post px) (hE : ∀ E S1, px E S1 → E = exO) (hv : ∀ v S1 z, post v S1 z → (∃ r : Int32, v = some (.int r)) ∧ gK S1 ot = 10 ∧ gn S1 ot = 1) : gMW l yL_letter cL_letter 5 (some FieldType.int) [(0, 10, 13, 13)] { frames := 7, cells := 1, slots := 6, locals := 113 } N0 D cy [.ref x, .int p0, .int p1, .ref ot] S sz (fun v S1 z => (∃ (r : Int32) (S2 : gS), v = some (.int 0) ∧ post (some (.int r)) S2 z ∧ S1 = sJ S2 ot 0 r.toInt64) ∨ (v = some (.int 1) ∧ px exO S1)) := by
  refine bodyW (by decide) rfl (Nat.le_of_ble_eq_true rfl) ?_
  intro p e s m args below meth c ls hC hU hZ ht hr hlk hsz hP hS hl
  have hx := hC.1
  have hb := hC.2.1
  refine lv_aload_n hx hb dL_letter_0 rfl (lv_at hl 3 rfl) ?_
  refine lv_iconst (v := 0) hx hb dL_letter_1 (by decide) ?_
  refine lv_aload_n hx hb dL_letter_2 rfl (lv_at hl 0 rfl) ?_
  refine lv_iload_n hx hb dL_letter_3 rfl (lv_at hl 1 rfl) ?_
  refine lv_iload_n hx hb dL_letter_4 rfl (lv_at hl 2 rfl) ?_
  rw [← hsz] at hM
  refine g_callVX (As := [.int _, .int _]) (rest := [.int _, .ref _]) hC hU hZ.1 hP hS hl.1 hM mL_L_43 iM_X6_letter sL_X6_letter iN_X6 cD_X6_letter ⟨by decide, by decide, rfl⟩ ⟨by decide, by decide⟩ ⟨by decide, by decide⟩ (ci := 6) rfl (by decide) hxk rfl (Nat.le_of_ble_eq_true rfl) dL_letter_5 (fun E S1 ce q9 H locs hw hP hz hS hce hcv hcl => ?_) (fun v S1 H locs hw hP hz hS => ?_)
  · obtain rfl := hE _ _ hw
    refine g_cat1 hC hZ ht (by decide) (by decide) kL_L_13 cs_O hce hcv hcl ?_
    refine lv_astore (lv' := [(4, .ref _), (0, .ref _), (1, .int _), (2, .int _), (3, .ref _)]) hx hb dL_letter_13 hl (by decide) rfl (fun ls hl => ?_)
    refine lv_iconst (v := 1) hx hb dL_letter_15 (by decide) ?_
    exact vx_ret (g_iret hC hP hS hr hlk (by decide) (by decide) (Or.inr (⟨rfl, hw⟩)) dL_letter_16)
  · obtain ⟨⟨r, rfl⟩, hk1, hn1⟩ := hv _ _ _ hw
    refine lv_i2l hx hb dL_letter_8 rfl ?_
    refine g_last hC hP hS hk1 (by rw [hn1]; exact vp_in_nI (n := 0) (by decide) (by decide)) dL_letter_9 (fun H locs hP hz9 hS => ?_)
    refine lv_goto (tgt := 17) hx hb dL_letter_10 (by decide) ?_
    refine lv_iconst (v := 0) hx hb dL_letter_17 (by decide) ?_
    exact vx_ret (g_iret hC hP hS hr hlk (by decide) (by decide) (Or.inl ⟨r, S1, rfl, by rw [hz9]; exact hw, rfl⟩) dL_letter_18)

set_option maxRecDepth 100000 in
set_option maxHeartbeats 4000000 in
theorem w_issuer (l : Launch) (N0 : Nat) (D : va_G) (cy : Nat → ClassId) (S : gS) (sz x ot : Nat) (p0 : Int32) (p1 : Int32) (post : Option Value → gS → Nat → Prop) (px : String → gS → Prop) (hxk : gK S x = 7) (hM : gMX l yX6_issuer cX6_issuer 4 (some FieldType.long) { frames := 6, cells := 1, slots := 6, locals := 90 } N0 D cy [.ref x, .int p0, .int p1] S sz post px) (hE : ∀ E S1, px E S1 → E = exO) (hv : ∀ v S1 z, post v S1 z → (∃ r : Int64, v = some (.long r)) ∧ gK S1 ot = 10 ∧ gn S1 ot = 1) : gMW l yL_issuer cL_issuer 5 (some FieldType.int) [(0, 9, 12, 13)] { frames := 7, cells := 1, slots := 6, locals := 113 } N0 D cy [.ref x, .int p0, .int p1, .ref ot] S sz (fun v S1 z => (∃ (r : Int64) (S2 : gS), v = some (.int 0) ∧ post (some (.long r)) S2 z ∧ S1 = sJ S2 ot 0 r) ∨ (v = some (.int 1) ∧ px exO S1)) := by
  refine bodyW (by decide) rfl (Nat.le_of_ble_eq_true rfl) ?_
  intro p e s m args below meth c ls hC hU hZ ht hr hlk hsz hP hS hl
  have hx := hC.1
  have hb := hC.2.1
  refine lv_aload_n hx hb dL_issuer_0 rfl (lv_at hl 3 rfl) ?_
  refine lv_iconst (v := 0) hx hb dL_issuer_1 (by decide) ?_
  refine lv_aload_n hx hb dL_issuer_2 rfl (lv_at hl 0 rfl) ?_
  refine lv_iload_n hx hb dL_issuer_3 rfl (lv_at hl 1 rfl) ?_
  refine lv_iload_n hx hb dL_issuer_4 rfl (lv_at hl 2 rfl) ?_
  rw [← hsz] at hM
  refine g_callVX (As := [.int _, .int _]) (rest := [.int _, .ref _]) hC hU hZ.1 hP hS hl.1 hM mL_L_47 iM_X6_issuer sL_X6_issuer iN_X6 cD_X6_issuer ⟨by decide, by decide, rfl⟩ ⟨by decide, by decide⟩ ⟨by decide, by decide⟩ (ci := 6) rfl (by decide) hxk rfl (Nat.le_of_ble_eq_true rfl) dL_issuer_5 (fun E S1 ce q9 H locs hw hP hz hS hce hcv hcl => ?_) (fun v S1 H locs hw hP hz hS => ?_)
  · obtain rfl := hE _ _ hw
    refine g_cat1 hC hZ ht (by decide) (by decide) kL_L_13 cs_O hce hcv hcl ?_
    refine lv_astore (lv' := [(4, .ref _), (0, .ref _), (1, .int _), (2, .int _), (3, .ref _)]) hx hb dL_issuer_12 hl (by decide) rfl (fun ls hl => ?_)
    refine lv_iconst (v := 1) hx hb dL_issuer_14 (by decide) ?_
    exact vx_ret (g_iret hC hP hS hr hlk (by decide) (by decide) (Or.inr (⟨rfl, hw⟩)) dL_issuer_15)
  · obtain ⟨⟨r, rfl⟩, hk1, hn1⟩ := hv _ _ _ hw
    refine g_last hC hP hS hk1 (by rw [hn1]; exact vp_in_nI (n := 0) (by decide) (by decide)) dL_issuer_8 (fun H locs hP hz9 hS => ?_)
    refine lv_goto (tgt := 16) hx hb dL_issuer_9 (by decide) ?_
    refine lv_iconst (v := 0) hx hb dL_issuer_16 (by decide) ?_
    exact vx_ret (g_iret hC hP hS hr hlk (by decide) (by decide) (Or.inl ⟨r, S1, rfl, by rw [hz9]; exact hw, rfl⟩) dL_issuer_17)

set_option maxRecDepth 100000 in
set_option maxHeartbeats 4000000 in
theorem w_next (l : Launch) (N0 : Nat) (D : va_G) (cy : Nat → ClassId) (S : gS) (sz x ot : Nat) (p0 : Int32) (post : Option Value → gS → Nat → Prop) (px : String → gS → Prop) (hxk : gK S x = 7) (hM : gMX l yX6_next cX6_next 2 (some FieldType.long) { frames := 6, cells := 1, slots := 6, locals := 90 } N0 D cy [.ref x, .int p0] S sz post px) (hE : ∀ E S1, px E S1 → E = exO) (hv : ∀ v S1 z, post v S1 z → (∃ r : Int64, v = some (.long r)) ∧ gK S1 ot = 10 ∧ gn S1 ot = 1) : gMW l yL_next cL_next 4 (some FieldType.int) [(0, 8, 11, 13)] { frames := 7, cells := 1, slots := 6, locals := 111 } N0 D cy [.ref x, .int p0, .ref ot] S sz (fun v S1 z => (∃ (r : Int64) (S2 : gS), v = some (.int 0) ∧ post (some (.long r)) S2 z ∧ S1 = sJ S2 ot 0 r) ∨ (v = some (.int 1) ∧ px exO S1)) := by
  refine bodyW (by decide) rfl (Nat.le_of_ble_eq_true rfl) ?_
  intro p e s m args below meth c ls hC hU hZ ht hr hlk hsz hP hS hl
  have hx := hC.1
  have hb := hC.2.1
  refine lv_aload_n hx hb dL_next_0 rfl (lv_at hl 2 rfl) ?_
  refine lv_iconst (v := 0) hx hb dL_next_1 (by decide) ?_
  refine lv_aload_n hx hb dL_next_2 rfl (lv_at hl 0 rfl) ?_
  refine lv_iload_n hx hb dL_next_3 rfl (lv_at hl 1 rfl) ?_
  rw [← hsz] at hM
  refine g_callVX (As := [.int _]) (rest := [.int _, .ref _]) hC hU hZ.1 hP hS hl.1 hM mL_L_51 iM_X6_next sL_X6_next iN_X6 cD_X6_next ⟨by decide, by decide, rfl⟩ ⟨by decide, by decide⟩ ⟨by decide, by decide⟩ (ci := 6) rfl (by decide) hxk rfl (Nat.le_of_ble_eq_true rfl) dL_next_4 (fun E S1 ce q9 H locs hw hP hz hS hce hcv hcl => ?_) (fun v S1 H locs hw hP hz hS => ?_)
  · obtain rfl := hE _ _ hw
    refine g_cat1 hC hZ ht (by decide) (by decide) kL_L_13 cs_O hce hcv hcl ?_
    refine lv_astore_n (lv' := [(3, .ref _), (0, .ref _), (1, .int _), (2, .ref _)]) hx hb dL_next_11 rfl hl (by decide) rfl (fun ls hl => ?_)
    refine lv_iconst (v := 1) hx hb dL_next_12 (by decide) ?_
    exact vx_ret (g_iret hC hP hS hr hlk (by decide) (by decide) (Or.inr (⟨rfl, hw⟩)) dL_next_13)
  · obtain ⟨⟨r, rfl⟩, hk1, hn1⟩ := hv _ _ _ hw
    refine g_last hC hP hS hk1 (by rw [hn1]; exact vp_in_nI (n := 0) (by decide) (by decide)) dL_next_7 (fun H locs hP hz9 hS => ?_)
    refine lv_goto (tgt := 14) hx hb dL_next_8 (by decide) ?_
    refine lv_iconst (v := 0) hx hb dL_next_14 (by decide) ?_
    exact vx_ret (g_iret hC hP hS hr hlk (by decide) (by decide) (Or.inl ⟨r, S1, rfl, by rw [hz9]; exact hw, rfl⟩) dL_next_15)

set_option maxRecDepth 100000 in
set_option maxHeartbeats 4000000 in
theorem w_batch (l : Launch) (N0 : Nat) (D : va_G) (cy : Nat → ClassId) (S : gS) (sz x ot : Nat) (p0 : Int32) (p1 : Int32) (post : Option Value → gS → Nat → Prop) (px : String → gS → Prop) (hxk : gK S x = 7) (hM : gMX l yX6_batch cX6_batch 3 (some FieldType.long) { frames := 6, cells := 1, slots := 6, locals := 90 } N0 D cy [.ref x, .int p0, .int p1] S sz post px) (hE : ∀ E S1, px E S1 → E = exO ∨ E = exA) (hv : ∀ v S1 z, post v S1 z → (∃ r : Int64, v = some (.long r)) ∧ gK S1 ot = 10 ∧ gn S1 ot = 1) : gMW l yL_batch cL_batch 5 (some FieldType.int) [(0, 9, 12, 13), (0, 9, 16, 15)] { frames := 7, cells := 1, slots := 6, locals := 112 } N0 D cy [.ref x, .int p0, .int p1, .ref ot] S sz (fun v S1 z => (∃ (r : Int64) (S2 : gS), v = some (.int 0) ∧ post (some (.long r)) S2 z ∧ S1 = sJ S2 ot 0 r) ∨ (v = some (.int 1) ∧ px exO S1) ∨ (v = some (.int 2) ∧ px exA S1)) := by
  refine bodyW (by decide) rfl (Nat.le_of_ble_eq_true rfl) ?_
  intro p e s m args below meth c ls hC hU hZ ht hr hlk hsz hP hS hl
  have hx := hC.1
  have hb := hC.2.1
  refine lv_aload_n hx hb dL_batch_0 rfl (lv_at hl 3 rfl) ?_
  refine lv_iconst (v := 0) hx hb dL_batch_1 (by decide) ?_
  refine lv_aload_n hx hb dL_batch_2 rfl (lv_at hl 0 rfl) ?_
  refine lv_iload_n hx hb dL_batch_3 rfl (lv_at hl 1 rfl) ?_
  refine lv_iload_n hx hb dL_batch_4 rfl (lv_at hl 2 rfl) ?_
  rw [← hsz] at hM
  refine g_callVX (As := [.int _, .int _]) (rest := [.int _, .ref _]) hC hU hZ.1 hP hS hl.1 hM mL_L_55 iM_X6_batch sL_X6_batch iN_X6 cD_X6_batch ⟨by decide, by decide, rfl⟩ ⟨by decide, by decide⟩ ⟨by decide, by decide⟩ (ci := 6) rfl (by decide) hxk rfl (Nat.le_of_ble_eq_true rfl) dL_batch_5 (fun E S1 ce q9 H locs hw hP hz hS hce hcv hcl => ?_) (fun v S1 H locs hw hP hz hS => ?_)
  · rcases hE _ _ hw with rfl | rfl
    · refine g_cat1 hC hZ ht (by decide) (by decide) kL_L_13 cs_O hce hcv hcl ?_
      refine lv_astore (lv' := [(4, .ref _), (0, .ref _), (1, .int _), (2, .int _), (3, .ref _)]) hx hb dL_batch_12 hl (by decide) rfl (fun ls hl => ?_)
      refine lv_iconst (v := 1) hx hb dL_batch_14 (by decide) ?_
      exact vx_ret (g_iret hC hP hS hr hlk (by decide) (by decide) (Or.inr (Or.inl ⟨rfl, hw⟩)) dL_batch_15)
    · refine g_cat2 hC hZ ht (Or.inl rfl) (by decide) (by decide) kL_L_15 cs_A hce hcv hcl ?_
      refine lv_astore (lv' := [(4, .ref _), (0, .ref _), (1, .int _), (2, .int _), (3, .ref _)]) hx hb dL_batch_16 hl (by decide) rfl (fun ls hl => ?_)
      refine lv_iconst (v := 2) hx hb dL_batch_18 (by decide) ?_
      exact vx_ret (g_iret hC hP hS hr hlk (by decide) (by decide) (Or.inr (Or.inr ⟨rfl, hw⟩)) dL_batch_19)
  · obtain ⟨⟨r, rfl⟩, hk1, hn1⟩ := hv _ _ _ hw
    refine g_last hC hP hS hk1 (by rw [hn1]; exact vp_in_nI (n := 0) (by decide) (by decide)) dL_batch_8 (fun H locs hP hz9 hS => ?_)
    refine lv_goto (tgt := 20) hx hb dL_batch_9 (by decide) ?_
    refine lv_iconst (v := 0) hx hb dL_batch_20 (by decide) ?_
    exact vx_ret (g_iret hC hP hS hr hlk (by decide) (by decide) (Or.inl ⟨r, S1, rfl, by rw [hz9]; exact hw, rfl⟩) dL_batch_21)

set_option maxRecDepth 100000 in
set_option maxHeartbeats 4000000 in
theorem w_seat (l : Launch) (N0 : Nat) (D : va_G) (cy : Nat → ClassId) (S : gS) (sz x ot : Nat) (p0 : Int32) (p1 : Int32) (post : Option Value → gS → Nat → Prop) (px : String → gS → Prop) (hxk : gK S x = 7) (hM : gMX l yX6_seat cX6_seat 4 (some FieldType.long) { frames := 6, cells := 1, slots := 6, locals := 90 } N0 D cy [.ref x, .int p0, .int p1] S sz post px) (hE : ∀ E S1, px E S1 → E = exO) (hv : ∀ v S1 z, post v S1 z → (∃ r : Int64, v = some (.long r)) ∧ gK S1 ot = 10 ∧ gn S1 ot = 1) : gMW l yL_seat cL_seat 5 (some FieldType.int) [(0, 9, 12, 13)] { frames := 7, cells := 1, slots := 6, locals := 113 } N0 D cy [.ref x, .int p0, .int p1, .ref ot] S sz (fun v S1 z => (∃ (r : Int64) (S2 : gS), v = some (.int 0) ∧ post (some (.long r)) S2 z ∧ S1 = sJ S2 ot 0 r) ∨ (v = some (.int 1) ∧ px exO S1)) := by
  refine bodyW (by decide) rfl (Nat.le_of_ble_eq_true rfl) ?_
  intro p e s m args below meth c ls hC hU hZ ht hr hlk hsz hP hS hl
  have hx := hC.1
  have hb := hC.2.1
  refine lv_aload_n hx hb dL_seat_0 rfl (lv_at hl 3 rfl) ?_
  refine lv_iconst (v := 0) hx hb dL_seat_1 (by decide) ?_
  refine lv_aload_n hx hb dL_seat_2 rfl (lv_at hl 0 rfl) ?_
  refine lv_iload_n hx hb dL_seat_3 rfl (lv_at hl 1 rfl) ?_
  refine lv_iload_n hx hb dL_seat_4 rfl (lv_at hl 2 rfl) ?_
  rw [← hsz] at hM
  refine g_callVX (As := [.int _, .int _]) (rest := [.int _, .ref _]) hC hU hZ.1 hP hS hl.1 hM mL_L_58 iM_X6_seat sL_X6_seat iN_X6 cD_X6_seat ⟨by decide, by decide, rfl⟩ ⟨by decide, by decide⟩ ⟨by decide, by decide⟩ (ci := 6) rfl (by decide) hxk rfl (Nat.le_of_ble_eq_true rfl) dL_seat_5 (fun E S1 ce q9 H locs hw hP hz hS hce hcv hcl => ?_) (fun v S1 H locs hw hP hz hS => ?_)
  · obtain rfl := hE _ _ hw
    refine g_cat1 hC hZ ht (by decide) (by decide) kL_L_13 cs_O hce hcv hcl ?_
    refine lv_astore (lv' := [(4, .ref _), (0, .ref _), (1, .int _), (2, .int _), (3, .ref _)]) hx hb dL_seat_12 hl (by decide) rfl (fun ls hl => ?_)
    refine lv_iconst (v := 1) hx hb dL_seat_14 (by decide) ?_
    exact vx_ret (g_iret hC hP hS hr hlk (by decide) (by decide) (Or.inr (⟨rfl, hw⟩)) dL_seat_15)
  · obtain ⟨⟨r, rfl⟩, hk1, hn1⟩ := hv _ _ _ hw
    refine g_last hC hP hS hk1 (by rw [hn1]; exact vp_in_nI (n := 0) (by decide) (by decide)) dL_seat_8 (fun H locs hP hz9 hS => ?_)
    refine lv_goto (tgt := 16) hx hb dL_seat_9 (by decide) ?_
    refine lv_iconst (v := 0) hx hb dL_seat_16 (by decide) ?_
    exact vx_ret (g_iret hC hP hS hr hlk (by decide) (by decide) (Or.inl ⟨r, S1, rfl, by rw [hz9]; exact hw, rfl⟩) dL_seat_17)

set_option maxRecDepth 100000 in
set_option maxHeartbeats 4000000 in
theorem w_part (l : Launch) (N0 : Nat) (D : va_G) (cy : Nat → ClassId) (S : gS) (sz x ot : Nat) (p0 : Int64) (p1 : Int32) (post : Option Value → gS → Nat → Prop) (px : String → gS → Prop) (hxk : gK S x = 7) (hM : gMX l yX6_part cX6_part 4 (some FieldType.long) { frames := 6, cells := 1, slots := 6, locals := 90 } N0 D cy [.ref x, .long p0, .int p1] S sz post px) (hE : ∀ E S1, px E S1 → E = exA) (hv : ∀ v S1 z, post v S1 z → (∃ r : Int64, v = some (.long r)) ∧ gK S1 ot = 10 ∧ gn S1 ot = 1) : gMW l yL_part cL_part 6 (some FieldType.int) [(0, 10, 13, 15)] { frames := 7, cells := 1, slots := 6, locals := 113 } N0 D cy [.ref x, .long p0, .int p1, .ref ot] S sz (fun v S1 z => (∃ (r : Int64) (S2 : gS), v = some (.int 0) ∧ post (some (.long r)) S2 z ∧ S1 = sJ S2 ot 0 r) ∨ (v = some (.int 1) ∧ px exA S1)) := by
  refine bodyW (by decide) rfl (Nat.le_of_ble_eq_true rfl) ?_
  intro p e s m args below meth c ls hC hU hZ ht hr hlk hsz hP hS hl
  have hx := hC.1
  have hb := hC.2.1
  refine lv_aload hx hb dL_part_0 (lv_at hl 3 rfl) ?_
  refine lv_iconst (v := 0) hx hb dL_part_2 (by decide) ?_
  refine lv_aload_n hx hb dL_part_3 rfl (lv_at hl 0 rfl) ?_
  refine lv_lload_n hx hb dL_part_4 rfl (lv_at hl 1 rfl) ?_
  refine lv_iload_n hx hb dL_part_5 rfl (lv_at hl 2 rfl) ?_
  rw [← hsz] at hM
  refine g_callVX (As := [.long _, .int _]) (rest := [.int _, .ref _]) hC hU hZ.1 hP hS hl.1 hM mL_L_61 iM_X6_part sL_X6_part iN_X6 cD_X6_part ⟨by decide, by decide, rfl⟩ ⟨by decide, by decide⟩ ⟨by decide, by decide⟩ (ci := 6) rfl (by decide) hxk rfl (Nat.le_of_ble_eq_true rfl) dL_part_6 (fun E S1 ce q9 H locs hw hP hz hS hce hcv hcl => ?_) (fun v S1 H locs hw hP hz hS => ?_)
  · obtain rfl := hE _ _ hw
    refine g_cat1 hC hZ ht (by decide) (by decide) kL_L_15 cs_A hce hcv hcl ?_
    refine lv_astore (lv' := [(5, .ref _), (0, .ref _), (1, .long _), (3, .int _), (4, .ref _)]) hx hb dL_part_13 hl (by decide) rfl (fun ls hl => ?_)
    refine lv_iconst (v := 1) hx hb dL_part_15 (by decide) ?_
    exact vx_ret (g_iret hC hP hS hr hlk (by decide) (by decide) (Or.inr (⟨rfl, hw⟩)) dL_part_16)
  · obtain ⟨⟨r, rfl⟩, hk1, hn1⟩ := hv _ _ _ hw
    refine g_last hC hP hS hk1 (by rw [hn1]; exact vp_in_nI (n := 0) (by decide) (by decide)) dL_part_9 (fun H locs hP hz9 hS => ?_)
    refine lv_goto (tgt := 17) hx hb dL_part_10 (by decide) ?_
    refine lv_iconst (v := 0) hx hb dL_part_17 (by decide) ?_
    exact vx_ret (g_iret hC hP hS hr hlk (by decide) (by decide) (Or.inl ⟨r, S1, rfl, by rw [hz9]; exact hw, rfl⟩) dL_part_18)

