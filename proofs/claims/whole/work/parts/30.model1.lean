/-! The model: its object o, its arrays at o + 1 .. o + 34. -/
def mTab : List (Nat × Nat × Nat × Nat) := [(2, 1, 9, 100), (3, 2, 9, 100), (4, 3, 9, 100), (5, 4, 9, 100), (6, 5, 9, 100), (7, 6, 9, 100), (8, 7, 10, 100), (9, 8, 9, 100), (11, 9, 9, 600), (12, 10, 9, 600), (13, 11, 9, 600), (14, 12, 9, 600), (15, 13, 9, 600), (16, 14, 10, 600), (17, 15, 11, 5), (18, 16, 9, 5), (19, 17, 10, 8), (20, 18, 9, 8), (21, 19, 11, 8), (22, 20, 9, 8), (23, 21, 9, 8), (24, 22, 11, 40), (25, 23, 9, 40), (26, 24, 9, 8), (27, 25, 9, 8), (28, 26, 10, 8), (29, 27, 11, 8), (30, 28, 9, 8), (31, 29, 9, 8), (32, 30, 10, 8), (33, 31, 10, 8), (34, 32, 9, 8), (35, 33, 9, 8), (36, 34, 10, 8)]
def mOK (S : gS) (o : Nat) : Prop := gK S o = 8 ∧ ∀ t ∈ mTab, gR S o t.1 = some (o + t.2.1) ∧ gK S (o + t.2.1) = t.2.2.1 ∧ gn S (o + t.2.1) = t.2.2.2
theorem mK {S : gS} {o : Nat} (h : mOK S o) : gK S o = 8 := h.1
theorem mR_2 {S : gS} {o : Nat} (h : mOK S o) : gR S o 2 = some (o + 1) := (h.2 (2, 1, 9, 100) (by decide)).1
theorem mA_2 {S : gS} {o : Nat} (h : mOK S o) : gK S (o + 1) = 9 := (h.2 (2, 1, 9, 100) (by decide)).2.1
theorem mN_2 {S : gS} {o : Nat} (h : mOK S o) : gn S (o + 1) = 100 := (h.2 (2, 1, 9, 100) (by decide)).2.2
theorem mR_3 {S : gS} {o : Nat} (h : mOK S o) : gR S o 3 = some (o + 2) := (h.2 (3, 2, 9, 100) (by decide)).1
theorem mA_3 {S : gS} {o : Nat} (h : mOK S o) : gK S (o + 2) = 9 := (h.2 (3, 2, 9, 100) (by decide)).2.1
theorem mN_3 {S : gS} {o : Nat} (h : mOK S o) : gn S (o + 2) = 100 := (h.2 (3, 2, 9, 100) (by decide)).2.2
theorem mR_4 {S : gS} {o : Nat} (h : mOK S o) : gR S o 4 = some (o + 3) := (h.2 (4, 3, 9, 100) (by decide)).1
theorem mA_4 {S : gS} {o : Nat} (h : mOK S o) : gK S (o + 3) = 9 := (h.2 (4, 3, 9, 100) (by decide)).2.1
theorem mN_4 {S : gS} {o : Nat} (h : mOK S o) : gn S (o + 3) = 100 := (h.2 (4, 3, 9, 100) (by decide)).2.2
theorem mR_5 {S : gS} {o : Nat} (h : mOK S o) : gR S o 5 = some (o + 4) := (h.2 (5, 4, 9, 100) (by decide)).1
theorem mA_5 {S : gS} {o : Nat} (h : mOK S o) : gK S (o + 4) = 9 := (h.2 (5, 4, 9, 100) (by decide)).2.1
theorem mN_5 {S : gS} {o : Nat} (h : mOK S o) : gn S (o + 4) = 100 := (h.2 (5, 4, 9, 100) (by decide)).2.2
theorem mR_6 {S : gS} {o : Nat} (h : mOK S o) : gR S o 6 = some (o + 5) := (h.2 (6, 5, 9, 100) (by decide)).1
theorem mA_6 {S : gS} {o : Nat} (h : mOK S o) : gK S (o + 5) = 9 := (h.2 (6, 5, 9, 100) (by decide)).2.1
theorem mN_6 {S : gS} {o : Nat} (h : mOK S o) : gn S (o + 5) = 100 := (h.2 (6, 5, 9, 100) (by decide)).2.2
theorem mR_7 {S : gS} {o : Nat} (h : mOK S o) : gR S o 7 = some (o + 6) := (h.2 (7, 6, 9, 100) (by decide)).1
theorem mA_7 {S : gS} {o : Nat} (h : mOK S o) : gK S (o + 6) = 9 := (h.2 (7, 6, 9, 100) (by decide)).2.1
theorem mN_7 {S : gS} {o : Nat} (h : mOK S o) : gn S (o + 6) = 100 := (h.2 (7, 6, 9, 100) (by decide)).2.2
theorem mR_8 {S : gS} {o : Nat} (h : mOK S o) : gR S o 8 = some (o + 7) := (h.2 (8, 7, 10, 100) (by decide)).1
theorem mA_8 {S : gS} {o : Nat} (h : mOK S o) : gK S (o + 7) = 10 := (h.2 (8, 7, 10, 100) (by decide)).2.1
theorem mN_8 {S : gS} {o : Nat} (h : mOK S o) : gn S (o + 7) = 100 := (h.2 (8, 7, 10, 100) (by decide)).2.2
theorem mR_9 {S : gS} {o : Nat} (h : mOK S o) : gR S o 9 = some (o + 8) := (h.2 (9, 8, 9, 100) (by decide)).1
theorem mA_9 {S : gS} {o : Nat} (h : mOK S o) : gK S (o + 8) = 9 := (h.2 (9, 8, 9, 100) (by decide)).2.1
theorem mN_9 {S : gS} {o : Nat} (h : mOK S o) : gn S (o + 8) = 100 := (h.2 (9, 8, 9, 100) (by decide)).2.2
theorem mR_11 {S : gS} {o : Nat} (h : mOK S o) : gR S o 11 = some (o + 9) := (h.2 (11, 9, 9, 600) (by decide)).1
theorem mA_11 {S : gS} {o : Nat} (h : mOK S o) : gK S (o + 9) = 9 := (h.2 (11, 9, 9, 600) (by decide)).2.1
theorem mN_11 {S : gS} {o : Nat} (h : mOK S o) : gn S (o + 9) = 600 := (h.2 (11, 9, 9, 600) (by decide)).2.2
theorem mR_12 {S : gS} {o : Nat} (h : mOK S o) : gR S o 12 = some (o + 10) := (h.2 (12, 10, 9, 600) (by decide)).1
theorem mA_12 {S : gS} {o : Nat} (h : mOK S o) : gK S (o + 10) = 9 := (h.2 (12, 10, 9, 600) (by decide)).2.1
theorem mN_12 {S : gS} {o : Nat} (h : mOK S o) : gn S (o + 10) = 600 := (h.2 (12, 10, 9, 600) (by decide)).2.2
theorem mR_13 {S : gS} {o : Nat} (h : mOK S o) : gR S o 13 = some (o + 11) := (h.2 (13, 11, 9, 600) (by decide)).1
theorem mA_13 {S : gS} {o : Nat} (h : mOK S o) : gK S (o + 11) = 9 := (h.2 (13, 11, 9, 600) (by decide)).2.1
theorem mN_13 {S : gS} {o : Nat} (h : mOK S o) : gn S (o + 11) = 600 := (h.2 (13, 11, 9, 600) (by decide)).2.2
theorem mR_14 {S : gS} {o : Nat} (h : mOK S o) : gR S o 14 = some (o + 12) := (h.2 (14, 12, 9, 600) (by decide)).1
theorem mA_14 {S : gS} {o : Nat} (h : mOK S o) : gK S (o + 12) = 9 := (h.2 (14, 12, 9, 600) (by decide)).2.1
theorem mN_14 {S : gS} {o : Nat} (h : mOK S o) : gn S (o + 12) = 600 := (h.2 (14, 12, 9, 600) (by decide)).2.2
theorem mR_15 {S : gS} {o : Nat} (h : mOK S o) : gR S o 15 = some (o + 13) := (h.2 (15, 13, 9, 600) (by decide)).1
theorem mA_15 {S : gS} {o : Nat} (h : mOK S o) : gK S (o + 13) = 9 := (h.2 (15, 13, 9, 600) (by decide)).2.1
theorem mN_15 {S : gS} {o : Nat} (h : mOK S o) : gn S (o + 13) = 600 := (h.2 (15, 13, 9, 600) (by decide)).2.2
theorem mR_16 {S : gS} {o : Nat} (h : mOK S o) : gR S o 16 = some (o + 14) := (h.2 (16, 14, 10, 600) (by decide)).1
theorem mA_16 {S : gS} {o : Nat} (h : mOK S o) : gK S (o + 14) = 10 := (h.2 (16, 14, 10, 600) (by decide)).2.1
theorem mN_16 {S : gS} {o : Nat} (h : mOK S o) : gn S (o + 14) = 600 := (h.2 (16, 14, 10, 600) (by decide)).2.2
theorem mR_17 {S : gS} {o : Nat} (h : mOK S o) : gR S o 17 = some (o + 15) := (h.2 (17, 15, 11, 5) (by decide)).1
theorem mA_17 {S : gS} {o : Nat} (h : mOK S o) : gK S (o + 15) = 11 := (h.2 (17, 15, 11, 5) (by decide)).2.1
theorem mN_17 {S : gS} {o : Nat} (h : mOK S o) : gn S (o + 15) = 5 := (h.2 (17, 15, 11, 5) (by decide)).2.2
theorem mR_18 {S : gS} {o : Nat} (h : mOK S o) : gR S o 18 = some (o + 16) := (h.2 (18, 16, 9, 5) (by decide)).1
theorem mA_18 {S : gS} {o : Nat} (h : mOK S o) : gK S (o + 16) = 9 := (h.2 (18, 16, 9, 5) (by decide)).2.1
theorem mN_18 {S : gS} {o : Nat} (h : mOK S o) : gn S (o + 16) = 5 := (h.2 (18, 16, 9, 5) (by decide)).2.2
theorem mR_19 {S : gS} {o : Nat} (h : mOK S o) : gR S o 19 = some (o + 17) := (h.2 (19, 17, 10, 8) (by decide)).1
theorem mA_19 {S : gS} {o : Nat} (h : mOK S o) : gK S (o + 17) = 10 := (h.2 (19, 17, 10, 8) (by decide)).2.1
theorem mN_19 {S : gS} {o : Nat} (h : mOK S o) : gn S (o + 17) = 8 := (h.2 (19, 17, 10, 8) (by decide)).2.2
theorem mR_20 {S : gS} {o : Nat} (h : mOK S o) : gR S o 20 = some (o + 18) := (h.2 (20, 18, 9, 8) (by decide)).1
theorem mA_20 {S : gS} {o : Nat} (h : mOK S o) : gK S (o + 18) = 9 := (h.2 (20, 18, 9, 8) (by decide)).2.1
theorem mN_20 {S : gS} {o : Nat} (h : mOK S o) : gn S (o + 18) = 8 := (h.2 (20, 18, 9, 8) (by decide)).2.2
theorem mR_21 {S : gS} {o : Nat} (h : mOK S o) : gR S o 21 = some (o + 19) := (h.2 (21, 19, 11, 8) (by decide)).1
theorem mA_21 {S : gS} {o : Nat} (h : mOK S o) : gK S (o + 19) = 11 := (h.2 (21, 19, 11, 8) (by decide)).2.1
theorem mN_21 {S : gS} {o : Nat} (h : mOK S o) : gn S (o + 19) = 8 := (h.2 (21, 19, 11, 8) (by decide)).2.2
theorem mR_22 {S : gS} {o : Nat} (h : mOK S o) : gR S o 22 = some (o + 20) := (h.2 (22, 20, 9, 8) (by decide)).1
theorem mA_22 {S : gS} {o : Nat} (h : mOK S o) : gK S (o + 20) = 9 := (h.2 (22, 20, 9, 8) (by decide)).2.1
theorem mN_22 {S : gS} {o : Nat} (h : mOK S o) : gn S (o + 20) = 8 := (h.2 (22, 20, 9, 8) (by decide)).2.2
theorem mR_23 {S : gS} {o : Nat} (h : mOK S o) : gR S o 23 = some (o + 21) := (h.2 (23, 21, 9, 8) (by decide)).1
theorem mA_23 {S : gS} {o : Nat} (h : mOK S o) : gK S (o + 21) = 9 := (h.2 (23, 21, 9, 8) (by decide)).2.1
theorem mN_23 {S : gS} {o : Nat} (h : mOK S o) : gn S (o + 21) = 8 := (h.2 (23, 21, 9, 8) (by decide)).2.2
theorem mR_24 {S : gS} {o : Nat} (h : mOK S o) : gR S o 24 = some (o + 22) := (h.2 (24, 22, 11, 40) (by decide)).1
theorem mA_24 {S : gS} {o : Nat} (h : mOK S o) : gK S (o + 22) = 11 := (h.2 (24, 22, 11, 40) (by decide)).2.1
theorem mN_24 {S : gS} {o : Nat} (h : mOK S o) : gn S (o + 22) = 40 := (h.2 (24, 22, 11, 40) (by decide)).2.2
theorem mR_25 {S : gS} {o : Nat} (h : mOK S o) : gR S o 25 = some (o + 23) := (h.2 (25, 23, 9, 40) (by decide)).1
theorem mA_25 {S : gS} {o : Nat} (h : mOK S o) : gK S (o + 23) = 9 := (h.2 (25, 23, 9, 40) (by decide)).2.1
theorem mN_25 {S : gS} {o : Nat} (h : mOK S o) : gn S (o + 23) = 40 := (h.2 (25, 23, 9, 40) (by decide)).2.2
theorem mR_26 {S : gS} {o : Nat} (h : mOK S o) : gR S o 26 = some (o + 24) := (h.2 (26, 24, 9, 8) (by decide)).1
theorem mA_26 {S : gS} {o : Nat} (h : mOK S o) : gK S (o + 24) = 9 := (h.2 (26, 24, 9, 8) (by decide)).2.1
theorem mN_26 {S : gS} {o : Nat} (h : mOK S o) : gn S (o + 24) = 8 := (h.2 (26, 24, 9, 8) (by decide)).2.2
theorem mR_27 {S : gS} {o : Nat} (h : mOK S o) : gR S o 27 = some (o + 25) := (h.2 (27, 25, 9, 8) (by decide)).1
theorem mA_27 {S : gS} {o : Nat} (h : mOK S o) : gK S (o + 25) = 9 := (h.2 (27, 25, 9, 8) (by decide)).2.1
theorem mN_27 {S : gS} {o : Nat} (h : mOK S o) : gn S (o + 25) = 8 := (h.2 (27, 25, 9, 8) (by decide)).2.2
theorem mR_28 {S : gS} {o : Nat} (h : mOK S o) : gR S o 28 = some (o + 26) := (h.2 (28, 26, 10, 8) (by decide)).1
theorem mA_28 {S : gS} {o : Nat} (h : mOK S o) : gK S (o + 26) = 10 := (h.2 (28, 26, 10, 8) (by decide)).2.1
theorem mN_28 {S : gS} {o : Nat} (h : mOK S o) : gn S (o + 26) = 8 := (h.2 (28, 26, 10, 8) (by decide)).2.2
theorem mR_29 {S : gS} {o : Nat} (h : mOK S o) : gR S o 29 = some (o + 27) := (h.2 (29, 27, 11, 8) (by decide)).1
theorem mA_29 {S : gS} {o : Nat} (h : mOK S o) : gK S (o + 27) = 11 := (h.2 (29, 27, 11, 8) (by decide)).2.1
theorem mN_29 {S : gS} {o : Nat} (h : mOK S o) : gn S (o + 27) = 8 := (h.2 (29, 27, 11, 8) (by decide)).2.2
theorem mR_30 {S : gS} {o : Nat} (h : mOK S o) : gR S o 30 = some (o + 28) := (h.2 (30, 28, 9, 8) (by decide)).1
theorem mA_30 {S : gS} {o : Nat} (h : mOK S o) : gK S (o + 28) = 9 := (h.2 (30, 28, 9, 8) (by decide)).2.1
theorem mN_30 {S : gS} {o : Nat} (h : mOK S o) : gn S (o + 28) = 8 := (h.2 (30, 28, 9, 8) (by decide)).2.2
theorem mR_31 {S : gS} {o : Nat} (h : mOK S o) : gR S o 31 = some (o + 29) := (h.2 (31, 29, 9, 8) (by decide)).1
theorem mA_31 {S : gS} {o : Nat} (h : mOK S o) : gK S (o + 29) = 9 := (h.2 (31, 29, 9, 8) (by decide)).2.1
theorem mN_31 {S : gS} {o : Nat} (h : mOK S o) : gn S (o + 29) = 8 := (h.2 (31, 29, 9, 8) (by decide)).2.2
theorem mR_32 {S : gS} {o : Nat} (h : mOK S o) : gR S o 32 = some (o + 30) := (h.2 (32, 30, 10, 8) (by decide)).1
theorem mA_32 {S : gS} {o : Nat} (h : mOK S o) : gK S (o + 30) = 10 := (h.2 (32, 30, 10, 8) (by decide)).2.1
theorem mN_32 {S : gS} {o : Nat} (h : mOK S o) : gn S (o + 30) = 8 := (h.2 (32, 30, 10, 8) (by decide)).2.2
theorem mR_33 {S : gS} {o : Nat} (h : mOK S o) : gR S o 33 = some (o + 31) := (h.2 (33, 31, 10, 8) (by decide)).1
theorem mA_33 {S : gS} {o : Nat} (h : mOK S o) : gK S (o + 31) = 10 := (h.2 (33, 31, 10, 8) (by decide)).2.1
theorem mN_33 {S : gS} {o : Nat} (h : mOK S o) : gn S (o + 31) = 8 := (h.2 (33, 31, 10, 8) (by decide)).2.2
theorem mR_34 {S : gS} {o : Nat} (h : mOK S o) : gR S o 34 = some (o + 32) := (h.2 (34, 32, 9, 8) (by decide)).1
theorem mA_34 {S : gS} {o : Nat} (h : mOK S o) : gK S (o + 32) = 9 := (h.2 (34, 32, 9, 8) (by decide)).2.1
theorem mN_34 {S : gS} {o : Nat} (h : mOK S o) : gn S (o + 32) = 8 := (h.2 (34, 32, 9, 8) (by decide)).2.2
theorem mR_35 {S : gS} {o : Nat} (h : mOK S o) : gR S o 35 = some (o + 33) := (h.2 (35, 33, 9, 8) (by decide)).1
theorem mA_35 {S : gS} {o : Nat} (h : mOK S o) : gK S (o + 33) = 9 := (h.2 (35, 33, 9, 8) (by decide)).2.1
theorem mN_35 {S : gS} {o : Nat} (h : mOK S o) : gn S (o + 33) = 8 := (h.2 (35, 33, 9, 8) (by decide)).2.2
theorem mR_36 {S : gS} {o : Nat} (h : mOK S o) : gR S o 36 = some (o + 34) := (h.2 (36, 34, 10, 8) (by decide)).1
theorem mA_36 {S : gS} {o : Nat} (h : mOK S o) : gK S (o + 34) = 10 := (h.2 (36, 34, 10, 8) (by decide)).2.1
theorem mN_36 {S : gS} {o : Nat} (h : mOK S o) : gn S (o + 34) = 8 := (h.2 (36, 34, 10, 8) (by decide)).2.2
theorem mI {S : gS} {a k o : Nat} {v : Int32} (h : mOK S o) : mOK (sI S a k v) o := h
theorem mJ {S : gS} {a k o : Nat} {v : Int64} (h : mOK S o) : mOK (sJ S a k v) o := h
theorem vI {S : gS} {a k b j : Nat} {v x : Int32} (hne : b ≠ a ∨ j ≠ k) (h : gI S b j = x) : gI (sI S a k v) b j = x := by
  rcases hne with hne | hne
  · rw [gI_a hne]; exact h
  · rw [gI_k hne]; exact h
theorem vJ {S : gS} {a k b j : Nat} {v : Int64} {x : Int32} (h : gI S b j = x) : gI (sJ S a k v) b j = x := h
set_option maxRecDepth 100000 in
set_option maxHeartbeats 4000000 in
theorem c_X7_thrown (l : Launch) (N0 : Nat) (D : va_G) (cy : Nat → ClassId) (S : gS) (sz : Nat) (o : Nat) (hm : mOK S o) : gM l yX7_thrown cX7_thrown 1 (some FieldType.int) { frames := 0, cells := 0, slots := 0, locals := 0 } N0 D cy [.ref o] S sz (fun v S1 z => v = some (.int (gI S o 0)) ∧ S1 = S ∧ z = sz) := by
  refine g_body (by decide) rfl (Nat.le_of_ble_eq_true rfl) ?_
  intro p e s m args below meth c ls hC hU hr hlk hnm hsz hP hS hl
  have hx := hC.1
  have hb := hC.2.1
  refine lv_aload_n hx hb dX7_thrown_0 rfl (lv_at hl 0 rfl) ?_
  refine gt_X7_114 hC hP (mK (hm)) dX7_thrown_1 ?_
  exact g_iret hC hP hS hr hlk (by decide) (by decide) (⟨rfl, rfl, hsz⟩) dX7_thrown_4

set_option maxRecDepth 100000 in
set_option maxHeartbeats 4000000 in
theorem c_X7_isIssuer (l : Launch) (N0 : Nat) (D : va_G) (cy : Nat → ClassId) (S : gS) (sz : Nat) (o : Nat) (i : Int32) (hm : mOK S o) : gM l yX7_isIssuer cX7_isIssuer 3 (some FieldType.boolean) { frames := 0, cells := 0, slots := 0, locals := 0 } N0 D cy [.ref o, .int i] S sz (fun v S1 z => v = some (.int (if 0 ≤ i ∧ i < 8 then 1 else 0)) ∧ S1 = sI S o 0 (if 0 ≤ i ∧ i < 8 then 0 else 1) ∧ z = sz) := by
  refine g_body (by decide) rfl (Nat.le_of_ble_eq_true rfl) ?_
  intro p e s m args below meth c ls hC hU hr hlk hnm hsz hP hS hl
  have hx := hC.1
  have hb := hC.2.1
  refine lv_iload_n hx hb dX7_isIssuer_0 rfl (lv_at hl 1 rfl) ?_
  refine lv_if_lt (tgt := 14) hx hb dX7_isIssuer_1 (by decide) (fun c_1 => ?_) (fun c_1 => ?_)
  · refine lv_iconst (v := 0) hx hb dX7_isIssuer_14 (by decide) ?_
    refine lv_istore_n (lv' := [(2, .int _), (0, .ref _), (1, .int _)]) hx hb dX7_isIssuer_15 rfl hl (by decide) rfl (fun ls hl => ?_)
    refine lv_aload_n hx hb dX7_isIssuer_16 rfl (lv_at hl 1 rfl) ?_
    refine lv_iload_n hx hb dX7_isIssuer_17 rfl (lv_at hl 0 rfl) ?_
    refine lv_if_eq (tgt := 25) hx hb dX7_isIssuer_18 (by decide) (fun c_18 => ?_) (fun c_18 => ?_)
    · refine lv_iconst (v := 1) hx hb dX7_isIssuer_25 (by decide) ?_
      refine pt_X7_114 hC hP hS (mK (hm)) dX7_isIssuer_26 (fun H locs hP hz hS => ?_)
      replace hsz := hz.trans hsz
      refine lv_iload_n hx hb dX7_isIssuer_29 rfl (lv_at hl 0 rfl) ?_
      exact g_zret hC hP hS hr hlk (by decide) (by decide) (nz01 (by first | exact Or.inl rfl | exact Or.inr rfl)) (by have hc : (0 ≤ i ∧ i < 8) ↔ _ := Iff.rfl; first | (rw [if_pos ⟨Int32.not_lt.mp c_1, Int32.not_le.mp c_7⟩, if_pos ⟨Int32.not_lt.mp c_1, Int32.not_le.mp c_7⟩]; exact ⟨rfl, rfl, hsz⟩) | (rw [if_neg (fun h => absurd h.1 (Int32.not_le.mpr c_1)), if_neg (fun h => absurd h.1 (Int32.not_le.mpr c_1))]; exact ⟨rfl, rfl, hsz⟩) | (rw [if_neg (fun h => absurd h.2 (Int32.not_lt.mpr c_7)), if_neg (fun h => absurd h.2 (Int32.not_lt.mpr c_7))]; exact ⟨rfl, rfl, hsz⟩) | exact absurd rfl c_18 | exact absurd c_18 (by decide)) dX7_isIssuer_30
    · refine lv_iconst (v := 0) hx hb dX7_isIssuer_21 (by decide) ?_
      refine lv_goto (tgt := 26) hx hb dX7_isIssuer_22 (by decide) ?_
      refine pt_X7_114 hC hP hS (mK (hm)) dX7_isIssuer_26 (fun H locs hP hz hS => ?_)
      replace hsz := hz.trans hsz
      refine lv_iload_n hx hb dX7_isIssuer_29 rfl (lv_at hl 0 rfl) ?_
      exact g_zret hC hP hS hr hlk (by decide) (by decide) (nz01 (by first | exact Or.inl rfl | exact Or.inr rfl)) (by have hc : (0 ≤ i ∧ i < 8) ↔ _ := Iff.rfl; first | (rw [if_pos ⟨Int32.not_lt.mp c_1, Int32.not_le.mp c_7⟩, if_pos ⟨Int32.not_lt.mp c_1, Int32.not_le.mp c_7⟩]; exact ⟨rfl, rfl, hsz⟩) | (rw [if_neg (fun h => absurd h.1 (Int32.not_le.mpr c_1)), if_neg (fun h => absurd h.1 (Int32.not_le.mpr c_1))]; exact ⟨rfl, rfl, hsz⟩) | (rw [if_neg (fun h => absurd h.2 (Int32.not_lt.mpr c_7)), if_neg (fun h => absurd h.2 (Int32.not_lt.mpr c_7))]; exact ⟨rfl, rfl, hsz⟩) | exact absurd rfl c_18 | exact absurd c_18 (by decide)) dX7_isIssuer_30
  · refine lv_iload_n hx hb dX7_isIssuer_4 rfl (lv_at hl 1 rfl) ?_
    refine lv_bipush (v := 8) hx hb dX7_isIssuer_5 (by decide) ?_
    refine lv_icmp_ge (tgt := 14) hx hb dX7_isIssuer_7 (by decide) (fun c_7 => ?_) (fun c_7 => ?_)
    · refine lv_iconst (v := 0) hx hb dX7_isIssuer_14 (by decide) ?_
      refine lv_istore_n (lv' := [(2, .int _), (0, .ref _), (1, .int _)]) hx hb dX7_isIssuer_15 rfl hl (by decide) rfl (fun ls hl => ?_)
      refine lv_aload_n hx hb dX7_isIssuer_16 rfl (lv_at hl 1 rfl) ?_
      refine lv_iload_n hx hb dX7_isIssuer_17 rfl (lv_at hl 0 rfl) ?_
      refine lv_if_eq (tgt := 25) hx hb dX7_isIssuer_18 (by decide) (fun c_18 => ?_) (fun c_18 => ?_)
      · refine lv_iconst (v := 1) hx hb dX7_isIssuer_25 (by decide) ?_
        refine pt_X7_114 hC hP hS (mK (hm)) dX7_isIssuer_26 (fun H locs hP hz hS => ?_)
        replace hsz := hz.trans hsz
        refine lv_iload_n hx hb dX7_isIssuer_29 rfl (lv_at hl 0 rfl) ?_
        exact g_zret hC hP hS hr hlk (by decide) (by decide) (nz01 (by first | exact Or.inl rfl | exact Or.inr rfl)) (by have hc : (0 ≤ i ∧ i < 8) ↔ _ := Iff.rfl; first | (rw [if_pos ⟨Int32.not_lt.mp c_1, Int32.not_le.mp c_7⟩, if_pos ⟨Int32.not_lt.mp c_1, Int32.not_le.mp c_7⟩]; exact ⟨rfl, rfl, hsz⟩) | (rw [if_neg (fun h => absurd h.1 (Int32.not_le.mpr c_1)), if_neg (fun h => absurd h.1 (Int32.not_le.mpr c_1))]; exact ⟨rfl, rfl, hsz⟩) | (rw [if_neg (fun h => absurd h.2 (Int32.not_lt.mpr c_7)), if_neg (fun h => absurd h.2 (Int32.not_lt.mpr c_7))]; exact ⟨rfl, rfl, hsz⟩) | exact absurd rfl c_18 | exact absurd c_18 (by decide)) dX7_isIssuer_30
      · refine lv_iconst (v := 0) hx hb dX7_isIssuer_21 (by decide) ?_
        refine lv_goto (tgt := 26) hx hb dX7_isIssuer_22 (by decide) ?_
        refine pt_X7_114 hC hP hS (mK (hm)) dX7_isIssuer_26 (fun H locs hP hz hS => ?_)
        replace hsz := hz.trans hsz
        refine lv_iload_n hx hb dX7_isIssuer_29 rfl (lv_at hl 0 rfl) ?_
        exact g_zret hC hP hS hr hlk (by decide) (by decide) (nz01 (by first | exact Or.inl rfl | exact Or.inr rfl)) (by have hc : (0 ≤ i ∧ i < 8) ↔ _ := Iff.rfl; first | (rw [if_pos ⟨Int32.not_lt.mp c_1, Int32.not_le.mp c_7⟩, if_pos ⟨Int32.not_lt.mp c_1, Int32.not_le.mp c_7⟩]; exact ⟨rfl, rfl, hsz⟩) | (rw [if_neg (fun h => absurd h.1 (Int32.not_le.mpr c_1)), if_neg (fun h => absurd h.1 (Int32.not_le.mpr c_1))]; exact ⟨rfl, rfl, hsz⟩) | (rw [if_neg (fun h => absurd h.2 (Int32.not_lt.mpr c_7)), if_neg (fun h => absurd h.2 (Int32.not_lt.mpr c_7))]; exact ⟨rfl, rfl, hsz⟩) | exact absurd rfl c_18 | exact absurd c_18 (by decide)) dX7_isIssuer_30
    · refine lv_iconst (v := 1) hx hb dX7_isIssuer_10 (by decide) ?_
      refine lv_goto (tgt := 15) hx hb dX7_isIssuer_11 (by decide) ?_
      refine lv_istore_n (lv' := [(2, .int _), (0, .ref _), (1, .int _)]) hx hb dX7_isIssuer_15 rfl hl (by decide) rfl (fun ls hl => ?_)
      refine lv_aload_n hx hb dX7_isIssuer_16 rfl (lv_at hl 1 rfl) ?_
      refine lv_iload_n hx hb dX7_isIssuer_17 rfl (lv_at hl 0 rfl) ?_
      refine lv_if_eq (tgt := 25) hx hb dX7_isIssuer_18 (by decide) (fun c_18 => ?_) (fun c_18 => ?_)
      · refine lv_iconst (v := 1) hx hb dX7_isIssuer_25 (by decide) ?_
        refine pt_X7_114 hC hP hS (mK (hm)) dX7_isIssuer_26 (fun H locs hP hz hS => ?_)
        replace hsz := hz.trans hsz
        refine lv_iload_n hx hb dX7_isIssuer_29 rfl (lv_at hl 0 rfl) ?_
        exact g_zret hC hP hS hr hlk (by decide) (by decide) (nz01 (by first | exact Or.inl rfl | exact Or.inr rfl)) (by have hc : (0 ≤ i ∧ i < 8) ↔ _ := Iff.rfl; first | (rw [if_pos ⟨Int32.not_lt.mp c_1, Int32.not_le.mp c_7⟩, if_pos ⟨Int32.not_lt.mp c_1, Int32.not_le.mp c_7⟩]; exact ⟨rfl, rfl, hsz⟩) | (rw [if_neg (fun h => absurd h.1 (Int32.not_le.mpr c_1)), if_neg (fun h => absurd h.1 (Int32.not_le.mpr c_1))]; exact ⟨rfl, rfl, hsz⟩) | (rw [if_neg (fun h => absurd h.2 (Int32.not_lt.mpr c_7)), if_neg (fun h => absurd h.2 (Int32.not_lt.mpr c_7))]; exact ⟨rfl, rfl, hsz⟩) | exact absurd rfl c_18 | exact absurd c_18 (by decide)) dX7_isIssuer_30
      · refine lv_iconst (v := 0) hx hb dX7_isIssuer_21 (by decide) ?_
        refine lv_goto (tgt := 26) hx hb dX7_isIssuer_22 (by decide) ?_
        refine pt_X7_114 hC hP hS (mK (hm)) dX7_isIssuer_26 (fun H locs hP hz hS => ?_)
        replace hsz := hz.trans hsz
        refine lv_iload_n hx hb dX7_isIssuer_29 rfl (lv_at hl 0 rfl) ?_
        exact g_zret hC hP hS hr hlk (by decide) (by decide) (nz01 (by first | exact Or.inl rfl | exact Or.inr rfl)) (by have hc : (0 ≤ i ∧ i < 8) ↔ _ := Iff.rfl; first | (rw [if_pos ⟨Int32.not_lt.mp c_1, Int32.not_le.mp c_7⟩, if_pos ⟨Int32.not_lt.mp c_1, Int32.not_le.mp c_7⟩]; exact ⟨rfl, rfl, hsz⟩) | (rw [if_neg (fun h => absurd h.1 (Int32.not_le.mpr c_1)), if_neg (fun h => absurd h.1 (Int32.not_le.mpr c_1))]; exact ⟨rfl, rfl, hsz⟩) | (rw [if_neg (fun h => absurd h.2 (Int32.not_lt.mpr c_7)), if_neg (fun h => absurd h.2 (Int32.not_lt.mpr c_7))]; exact ⟨rfl, rfl, hsz⟩) | exact absurd rfl c_18 | exact absurd c_18 (by decide)) dX7_isIssuer_30

set_option maxRecDepth 100000 in
set_option maxHeartbeats 4000000 in
theorem c_X7_ballotOf (l : Launch) (N0 : Nat) (D : va_G) (cy : Nat → ClassId) (S : gS) (sz : Nat) (o i : Nat) (hm : mOK S o) (hi : i < 8) : gM l yX7_ballotOf cX7_ballotOf 2 (some FieldType.int) { frames := 0, cells := 0, slots := 0, locals := 0 } N0 D cy [.ref o, .int (nI i)] S sz (fun v S1 z => v = some (.int (8 * gI S (o + 20) i + nI i)) ∧ S1 = S ∧ z = sz) := by
  refine g_body (by decide) rfl (Nat.le_of_ble_eq_true rfl) ?_
  intro p e s m args below meth c ls hC hU hr hlk hnm hsz hP hS hl
  have hx := hC.1
  have hb := hC.2.1
  refine lv_bipush (v := 8) hx hb dX7_ballotOf_0 (by decide) ?_
  refine lv_aload_n hx hb dX7_ballotOf_2 rfl (lv_at hl 0 rfl) ?_
  refine gt_X7_69 hC hP (mK (hm)) (mR_22 (hm)) dX7_ballotOf_3 ?_
  refine lv_iload_n hx hb dX7_ballotOf_6 rfl (lv_at hl 1 rfl) ?_
  refine g_iald hC hP (mA_22 (hm)) (by rw [mN_22 (hm)]; exact vp_in_nI hi (by decide)) dX7_ballotOf_7 ?_
  rw [nI_clamp (by omega)]
  refine lv_imul hx hb dX7_ballotOf_8 ?_
  refine lv_iload_n hx hb dX7_ballotOf_9 rfl (lv_at hl 1 rfl) ?_
  refine lv_iadd hx hb dX7_ballotOf_10 ?_
  exact g_iret hC hP hS hr hlk (by decide) (by decide) (⟨rfl, rfl, hsz⟩) dX7_ballotOf_11

def mSend (S : gS) (o L : Nat) (k i n b x : Int32) : gS := sI (sI (sI (sI (sI (sI S (o + 1) L k) (o + 2) L i) (o + 3) L n) (o + 4) L b) (o + 8) L x) o 1 (nI (L + 1))
theorem mS {S : gS} {o L o' : Nat} {k i n b x : Int32} (h : mOK S o') : mOK (mSend S o L k i n b x) o' := h
set_option maxRecDepth 100000 in
set_option maxHeartbeats 4000000 in
theorem c_X7_send (l : Launch) (N0 : Nat) (D : va_G) (cy : Nat → ClassId) (S : gS) (sz : Nat) (o L : Nat) (k i n b x : Int32) (hm : mOK S o) (hL : gI S o 1 = nI L) (hL2 : L < 100) : gM l yX7_send cX7_send 6 (none : Option FieldType) { frames := 0, cells := 0, slots := 0, locals := 0 } N0 D cy [.ref o, .int k, .int i, .int n, .int b, .int x] S sz (fun v S1 z => v = none ∧ S1 = mSend S o L k i n b x ∧ z = sz) := by
  refine g_body (by decide) rfl (Nat.le_of_ble_eq_true rfl) ?_
  intro p e s m args below meth c ls hC hU hr hlk hnm hsz hP hS hl
  have hx := hC.1
  have hb := hC.2.1
  refine lv_aload_n hx hb dX7_send_0 rfl (lv_at hl 0 rfl) ?_
  refine gt_X7_7 hC hP (mK (hm)) (mR_2 (hm)) dX7_send_1 ?_
  refine lv_aload_n hx hb dX7_send_4 rfl (lv_at hl 0 rfl) ?_
  refine gv_X7_124 hC hP (mK (hm)) (hL) dX7_send_5 ?_
  refine lv_iload_n hx hb dX7_send_8 rfl (lv_at hl 1 rfl) ?_
  refine g_iast hC hP hS (mA_2 (hm)) (by rw [mN_2 (hm)]; exact vp_in_nI hL2 (by decide)) dX7_send_9 (fun H locs hP hz hS => ?_)
  replace hsz := hz.trans hsz
  rw [nI_clamp (by omega)] at hP
  refine lv_aload_n hx hb dX7_send_10 rfl (lv_at hl 0 rfl) ?_
  refine gt_X7_13 hC hP (mK (mI (hm))) (mR_3 (mI (hm))) dX7_send_11 ?_
  refine lv_aload_n hx hb dX7_send_14 rfl (lv_at hl 0 rfl) ?_
  refine gv_X7_124 hC hP (mK (mI (hm))) (vI (by first | exact Or.inr (by decide) | exact Or.inl (by omega)) (hL)) dX7_send_15 ?_
  refine lv_iload_n hx hb dX7_send_18 rfl (lv_at hl 2 rfl) ?_
  refine g_iast hC hP hS (mA_3 (mI (hm))) (by rw [mN_3 (mI (hm))]; exact vp_in_nI hL2 (by decide)) dX7_send_19 (fun H locs hP hz hS => ?_)
  replace hsz := hz.trans hsz
  rw [nI_clamp (by omega)] at hP
  refine lv_aload_n hx hb dX7_send_20 rfl (lv_at hl 0 rfl) ?_
  refine gt_X7_16 hC hP (mK (mI (mI (hm)))) (mR_4 (mI (mI (hm)))) dX7_send_21 ?_
  refine lv_aload_n hx hb dX7_send_24 rfl (lv_at hl 0 rfl) ?_
  refine gv_X7_124 hC hP (mK (mI (mI (hm)))) (vI (by first | exact Or.inr (by decide) | exact Or.inl (by omega)) (vI (by first | exact Or.inr (by decide) | exact Or.inl (by omega)) (hL))) dX7_send_25 ?_
  refine lv_iload_n hx hb dX7_send_28 rfl (lv_at hl 3 rfl) ?_
  refine g_iast hC hP hS (mA_4 (mI (mI (hm)))) (by rw [mN_4 (mI (mI (hm)))]; exact vp_in_nI hL2 (by decide)) dX7_send_29 (fun H locs hP hz hS => ?_)
  replace hsz := hz.trans hsz
  rw [nI_clamp (by omega)] at hP
  refine lv_aload_n hx hb dX7_send_30 rfl (lv_at hl 0 rfl) ?_
  refine gt_X7_19 hC hP (mK (mI (mI (mI (hm))))) (mR_5 (mI (mI (mI (hm))))) dX7_send_31 ?_
  refine lv_aload_n hx hb dX7_send_34 rfl (lv_at hl 0 rfl) ?_
  refine gv_X7_124 hC hP (mK (mI (mI (mI (hm))))) (vI (by first | exact Or.inr (by decide) | exact Or.inl (by omega)) (vI (by first | exact Or.inr (by decide) | exact Or.inl (by omega)) (vI (by first | exact Or.inr (by decide) | exact Or.inl (by omega)) (hL)))) dX7_send_35 ?_
  refine lv_iload hx hb dX7_send_38 (lv_at hl 4 rfl) ?_
  refine g_iast hC hP hS (mA_5 (mI (mI (mI (hm))))) (by rw [mN_5 (mI (mI (mI (hm))))]; exact vp_in_nI hL2 (by decide)) dX7_send_40 (fun H locs hP hz hS => ?_)
  replace hsz := hz.trans hsz
  rw [nI_clamp (by omega)] at hP
  refine lv_aload_n hx hb dX7_send_41 rfl (lv_at hl 0 rfl) ?_
  refine gt_X7_32 hC hP (mK (mI (mI (mI (mI (hm)))))) (mR_9 (mI (mI (mI (mI (hm)))))) dX7_send_42 ?_
  refine lv_aload_n hx hb dX7_send_45 rfl (lv_at hl 0 rfl) ?_
  refine gv_X7_124 hC hP (mK (mI (mI (mI (mI (hm)))))) (vI (by first | exact Or.inr (by decide) | exact Or.inl (by omega)) (vI (by first | exact Or.inr (by decide) | exact Or.inl (by omega)) (vI (by first | exact Or.inr (by decide) | exact Or.inl (by omega)) (vI (by first | exact Or.inr (by decide) | exact Or.inl (by omega)) (hL))))) dX7_send_46 ?_
  refine lv_iload hx hb dX7_send_49 (lv_at hl 5 rfl) ?_
  refine g_iast hC hP hS (mA_9 (mI (mI (mI (mI (hm)))))) (by rw [mN_9 (mI (mI (mI (mI (hm)))))]; exact vp_in_nI hL2 (by decide)) dX7_send_51 (fun H locs hP hz hS => ?_)
  replace hsz := hz.trans hsz
  rw [nI_clamp (by omega)] at hP
  refine lv_aload_n hx hb dX7_send_52 rfl (lv_at hl 0 rfl) ?_
  refine lv_dup hx hb dX7_send_53 rfl ?_
  refine gv_X7_124 hC hP (mK (mI (mI (mI (mI (mI (hm))))))) (vI (by first | exact Or.inr (by decide) | exact Or.inl (by omega)) (vI (by first | exact Or.inr (by decide) | exact Or.inl (by omega)) (vI (by first | exact Or.inr (by decide) | exact Or.inl (by omega)) (vI (by first | exact Or.inr (by decide) | exact Or.inl (by omega)) (vI (by first | exact Or.inr (by decide) | exact Or.inl (by omega)) (hL)))))) dX7_send_54 ?_
  refine lv_iconst (v := 1) hx hb dX7_send_57 (by decide) ?_
  refine lv_iadd hx hb dX7_send_58 ?_
  refine pt_X7_124 hC hP hS (mK (mI (mI (mI (mI (mI (hm))))))) dX7_send_59 (fun H locs hP hz hS => ?_)
  replace hsz := hz.trans hsz
  rw [← nI_succ] at hP
  exact g_vret hC hP hS hr hlk (by decide) (by decide) (⟨rfl, rfl, hsz⟩) dX7_send_62

def mCopy (S : gS) (o fr t : Nat) : gS := sI (sJ (sI (sI (sI (sI (sI (sI S (o + 1) t (gI S (o + 1) fr)) (o + 2) t (gI S (o + 2) fr)) (o + 3) t (gI S (o + 3) fr)) (o + 4) t (gI S (o + 4) fr)) (o + 5) t (gI S (o + 5) fr)) (o + 6) t (gI S (o + 6) fr)) (o + 7) t (gJ S (o + 7) fr)) (o + 8) t (gI S (o + 8) fr)
theorem mC {S : gS} {o fr t o' : Nat} (h : mOK S o') : mOK (mCopy S o fr t) o' := mI (mJ (mI (mI (mI (mI (mI (mI h)))))))
set_option maxRecDepth 100000 in
set_option maxHeartbeats 4000000 in
theorem c_X7_copy (l : Launch) (N0 : Nat) (D : va_G) (cy : Nat → ClassId) (S : gS) (sz : Nat) (o fr t : Nat) (hm : mOK S o) (hf : fr < 100) (ht : t < 100) : gM l yX7_copy cX7_copy 3 (none : Option FieldType) { frames := 0, cells := 0, slots := 0, locals := 0 } N0 D cy [.ref o, .int (nI fr), .int (nI t)] S sz (fun v S1 z => v = none ∧ S1 = mCopy S o fr t ∧ z = sz) := by
  refine g_body (by decide) rfl (Nat.le_of_ble_eq_true rfl) ?_
  intro p e s m args below meth c ls hC hU hr hlk hnm hsz hP hS hl
  have hx := hC.1
  have hb := hC.2.1
  refine lv_aload_n hx hb dX7_copy_0 rfl (lv_at hl 0 rfl) ?_
  refine gt_X7_7 hC hP (mK (hm)) (mR_2 (hm)) dX7_copy_1 ?_
  refine lv_iload_n hx hb dX7_copy_4 rfl (lv_at hl 2 rfl) ?_
  refine lv_aload_n hx hb dX7_copy_5 rfl (lv_at hl 0 rfl) ?_
  refine gt_X7_7 hC hP (mK (hm)) (mR_2 (hm)) dX7_copy_6 ?_
  refine lv_iload_n hx hb dX7_copy_9 rfl (lv_at hl 1 rfl) ?_
  refine g_iald hC hP (mA_2 (hm)) (by rw [mN_2 (hm)]; exact vp_in_nI (by assumption) (by decide)) dX7_copy_10 ?_
  refine g_iast hC hP hS (mA_2 (hm)) (by rw [mN_2 (hm)]; exact vp_in_nI (by assumption) (by decide)) dX7_copy_11 (fun H locs hP hz hS => ?_)
  replace hsz := hz.trans hsz
  rw [nI_clamp (by omega), nI_clamp (by omega)] at hP
  refine lv_aload_n hx hb dX7_copy_12 rfl (lv_at hl 0 rfl) ?_
  refine gt_X7_13 hC hP (mK (mI (hm))) (mR_3 (mI (hm))) dX7_copy_13 ?_
  refine lv_iload_n hx hb dX7_copy_16 rfl (lv_at hl 2 rfl) ?_
  refine lv_aload_n hx hb dX7_copy_17 rfl (lv_at hl 0 rfl) ?_
  refine gt_X7_13 hC hP (mK (mI (hm))) (mR_3 (mI (hm))) dX7_copy_18 ?_
  refine lv_iload_n hx hb dX7_copy_21 rfl (lv_at hl 1 rfl) ?_
  refine g_iald hC hP (mA_3 (mI (hm))) (by rw [mN_3 (mI (hm))]; exact vp_in_nI (by assumption) (by decide)) dX7_copy_22 ?_
  refine g_iast hC hP hS (mA_3 (mI (hm))) (by rw [mN_3 (mI (hm))]; exact vp_in_nI (by assumption) (by decide)) dX7_copy_23 (fun H locs hP hz hS => ?_)
  replace hsz := hz.trans hsz
  rw [nI_clamp (by omega), nI_clamp (by omega), gI_a (by omega)] at hP
  refine lv_aload_n hx hb dX7_copy_24 rfl (lv_at hl 0 rfl) ?_
  refine gt_X7_16 hC hP (mK (mI (mI (hm)))) (mR_4 (mI (mI (hm)))) dX7_copy_25 ?_
  refine lv_iload_n hx hb dX7_copy_28 rfl (lv_at hl 2 rfl) ?_
  refine lv_aload_n hx hb dX7_copy_29 rfl (lv_at hl 0 rfl) ?_
  refine gt_X7_16 hC hP (mK (mI (mI (hm)))) (mR_4 (mI (mI (hm)))) dX7_copy_30 ?_
  refine lv_iload_n hx hb dX7_copy_33 rfl (lv_at hl 1 rfl) ?_
  refine g_iald hC hP (mA_4 (mI (mI (hm)))) (by rw [mN_4 (mI (mI (hm)))]; exact vp_in_nI (by assumption) (by decide)) dX7_copy_34 ?_
  refine g_iast hC hP hS (mA_4 (mI (mI (hm)))) (by rw [mN_4 (mI (mI (hm)))]; exact vp_in_nI (by assumption) (by decide)) dX7_copy_35 (fun H locs hP hz hS => ?_)
  replace hsz := hz.trans hsz
  rw [nI_clamp (by omega), nI_clamp (by omega), gI_a (by omega), gI_a (by omega)] at hP
  refine lv_aload_n hx hb dX7_copy_36 rfl (lv_at hl 0 rfl) ?_
  refine gt_X7_19 hC hP (mK (mI (mI (mI (hm))))) (mR_5 (mI (mI (mI (hm))))) dX7_copy_37 ?_
  refine lv_iload_n hx hb dX7_copy_40 rfl (lv_at hl 2 rfl) ?_
  refine lv_aload_n hx hb dX7_copy_41 rfl (lv_at hl 0 rfl) ?_
  refine gt_X7_19 hC hP (mK (mI (mI (mI (hm))))) (mR_5 (mI (mI (mI (hm))))) dX7_copy_42 ?_
  refine lv_iload_n hx hb dX7_copy_45 rfl (lv_at hl 1 rfl) ?_
  refine g_iald hC hP (mA_5 (mI (mI (mI (hm))))) (by rw [mN_5 (mI (mI (mI (hm))))]; exact vp_in_nI (by assumption) (by decide)) dX7_copy_46 ?_
  refine g_iast hC hP hS (mA_5 (mI (mI (mI (hm))))) (by rw [mN_5 (mI (mI (mI (hm))))]; exact vp_in_nI (by assumption) (by decide)) dX7_copy_47 (fun H locs hP hz hS => ?_)
  replace hsz := hz.trans hsz
  rw [nI_clamp (by omega), nI_clamp (by omega), gI_a (by omega), gI_a (by omega), gI_a (by omega)] at hP
  refine lv_aload_n hx hb dX7_copy_48 rfl (lv_at hl 0 rfl) ?_
  refine gt_X7_22 hC hP (mK (mI (mI (mI (mI (hm)))))) (mR_6 (mI (mI (mI (mI (hm)))))) dX7_copy_49 ?_
  refine lv_iload_n hx hb dX7_copy_52 rfl (lv_at hl 2 rfl) ?_
  refine lv_aload_n hx hb dX7_copy_53 rfl (lv_at hl 0 rfl) ?_
  refine gt_X7_22 hC hP (mK (mI (mI (mI (mI (hm)))))) (mR_6 (mI (mI (mI (mI (hm)))))) dX7_copy_54 ?_
  refine lv_iload_n hx hb dX7_copy_57 rfl (lv_at hl 1 rfl) ?_
  refine g_iald hC hP (mA_6 (mI (mI (mI (mI (hm)))))) (by rw [mN_6 (mI (mI (mI (mI (hm)))))]; exact vp_in_nI (by assumption) (by decide)) dX7_copy_58 ?_
  refine g_iast hC hP hS (mA_6 (mI (mI (mI (mI (hm)))))) (by rw [mN_6 (mI (mI (mI (mI (hm)))))]; exact vp_in_nI (by assumption) (by decide)) dX7_copy_59 (fun H locs hP hz hS => ?_)
  replace hsz := hz.trans hsz
  rw [nI_clamp (by omega), nI_clamp (by omega), gI_a (by omega), gI_a (by omega), gI_a (by omega), gI_a (by omega)] at hP
  refine lv_aload_n hx hb dX7_copy_60 rfl (lv_at hl 0 rfl) ?_
  refine gt_X7_25 hC hP (mK (mI (mI (mI (mI (mI (hm))))))) (mR_7 (mI (mI (mI (mI (mI (hm))))))) dX7_copy_61 ?_
  refine lv_iload_n hx hb dX7_copy_64 rfl (lv_at hl 2 rfl) ?_
  refine lv_aload_n hx hb dX7_copy_65 rfl (lv_at hl 0 rfl) ?_
  refine gt_X7_25 hC hP (mK (mI (mI (mI (mI (mI (hm))))))) (mR_7 (mI (mI (mI (mI (mI (hm))))))) dX7_copy_66 ?_
  refine lv_iload_n hx hb dX7_copy_69 rfl (lv_at hl 1 rfl) ?_
  refine g_iald hC hP (mA_7 (mI (mI (mI (mI (mI (hm))))))) (by rw [mN_7 (mI (mI (mI (mI (mI (hm))))))]; exact vp_in_nI (by assumption) (by decide)) dX7_copy_70 ?_
  refine g_iast hC hP hS (mA_7 (mI (mI (mI (mI (mI (hm))))))) (by rw [mN_7 (mI (mI (mI (mI (mI (hm))))))]; exact vp_in_nI (by assumption) (by decide)) dX7_copy_71 (fun H locs hP hz hS => ?_)
  replace hsz := hz.trans hsz
  rw [nI_clamp (by omega), nI_clamp (by omega), gI_a (by omega), gI_a (by omega), gI_a (by omega), gI_a (by omega), gI_a (by omega)] at hP
  refine lv_aload_n hx hb dX7_copy_72 rfl (lv_at hl 0 rfl) ?_
  refine gt_X7_28 hC hP (mK (mI (mI (mI (mI (mI (mI (hm)))))))) (mR_8 (mI (mI (mI (mI (mI (mI (hm)))))))) dX7_copy_73 ?_
  refine lv_iload_n hx hb dX7_copy_76 rfl (lv_at hl 2 rfl) ?_
  refine lv_aload_n hx hb dX7_copy_77 rfl (lv_at hl 0 rfl) ?_
  refine gt_X7_28 hC hP (mK (mI (mI (mI (mI (mI (mI (hm)))))))) (mR_8 (mI (mI (mI (mI (mI (mI (hm)))))))) dX7_copy_78 ?_
  refine lv_iload_n hx hb dX7_copy_81 rfl (lv_at hl 1 rfl) ?_
  refine g_lald hC hP (mA_8 (mI (mI (mI (mI (mI (mI (hm)))))))) (by rw [mN_8 (mI (mI (mI (mI (mI (mI (hm)))))))]; exact vp_in_nI (by assumption) (by decide)) dX7_copy_82 ?_
  refine g_last hC hP hS (mA_8 (mI (mI (mI (mI (mI (mI (hm)))))))) (by rw [mN_8 (mI (mI (mI (mI (mI (mI (hm)))))))]; exact vp_in_nI (by assumption) (by decide)) dX7_copy_83 (fun H locs hP hz hS => ?_)
  replace hsz := hz.trans hsz
  rw [nI_clamp (by omega), nI_clamp (by omega), gJ_sI, gJ_sI, gJ_sI, gJ_sI, gJ_sI, gJ_sI] at hP
  refine lv_aload_n hx hb dX7_copy_84 rfl (lv_at hl 0 rfl) ?_
  refine gt_X7_32 hC hP (mK (mJ (mI (mI (mI (mI (mI (mI (hm))))))))) (mR_9 (mJ (mI (mI (mI (mI (mI (mI (hm))))))))) dX7_copy_85 ?_
  refine lv_iload_n hx hb dX7_copy_88 rfl (lv_at hl 2 rfl) ?_
  refine lv_aload_n hx hb dX7_copy_89 rfl (lv_at hl 0 rfl) ?_
  refine gt_X7_32 hC hP (mK (mJ (mI (mI (mI (mI (mI (mI (hm))))))))) (mR_9 (mJ (mI (mI (mI (mI (mI (mI (hm))))))))) dX7_copy_90 ?_
  refine lv_iload_n hx hb dX7_copy_93 rfl (lv_at hl 1 rfl) ?_
  refine g_iald hC hP (mA_9 (mJ (mI (mI (mI (mI (mI (mI (hm))))))))) (by rw [mN_9 (mJ (mI (mI (mI (mI (mI (mI (hm))))))))]; exact vp_in_nI (by assumption) (by decide)) dX7_copy_94 ?_
  refine g_iast hC hP hS (mA_9 (mJ (mI (mI (mI (mI (mI (mI (hm))))))))) (by rw [mN_9 (mJ (mI (mI (mI (mI (mI (mI (hm))))))))]; exact vp_in_nI (by assumption) (by decide)) dX7_copy_95 (fun H locs hP hz hS => ?_)
  replace hsz := hz.trans hsz
  rw [nI_clamp (by omega), nI_clamp (by omega), gI_sJ, gI_a (by omega), gI_a (by omega), gI_a (by omega), gI_a (by omega), gI_a (by omega), gI_a (by omega)] at hP
  exact g_vret hC hP hS hr hlk (by decide) (by decide) (⟨rfl, rfl, hsz⟩) dX7_copy_96

