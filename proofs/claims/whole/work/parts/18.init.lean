/-! the two constructors -/
def lw_in (v : Nat) : Nat → Nat → (Nat → Int64) → Nat → Int64
  | 0, _, f => f
  | a + 1, k, f => lw_in v a (k + 1) (vp_updL f v (f v ||| (((nI k >>> ((nI v - 1) &&& 31)) &&& 1).toInt64 <<< ((nI k).toInt64 &&& 63))))
def lw_out : Nat → Nat → (Nat → Int64) → Nat → Int64
  | 0, _, f => f
  | a + 1, v, f => lw_out a (v + 1) (lw_in v 64 0 f)
def mo_it : Nat → Nat → (Nat → Int64) → Nat → Int64
  | 0, _, f => f
  | a + 1, i, f => mo_it a (i + 1) (vp_updL f i (-1))
set_option maxHeartbeats 600000 in
set_option maxRecDepth 100000 in
/-- m_init -/
theorem m_init (l : Launch) (dC : Nat → ClassId) (dI : Nat → Nat → Nat) (h0 sz0 : Nat) : Met l yX0_init wsX0_init (rmN 1 4 1840) (va_Pc [.ref h0] (fun U => U.heap.size = sz0 ∧ va_P (dC, dI) cls2 [(h0, .inr (0, [.null, .null, .null, .null, .int 0, .int 0, .int 0, .int 0, .int 0, .long 0]))] U.heap ∧ va_K (dC, dI) cls2 [] U ∧ va_D (fun _ => True) [(h0, .inr (0, [.null, .null, .null, .null, .int 0, .int 0, .int 0, .int 0, .int 0, .long 0]))])) (va_Qv (fun (u : (Nat → Nat) × (Nat → ClassId)) => u.1 0 = h0) (fun u t => atX dC dI (va_A [(h0, .inr (0, [.null, .null, .null, .null, .int 0, .int 0, .int 0, .int 0, .int 0, .long 0]))] sz0) u.1 u.2 (0, 0, 0, 0, 0, 0, (fun _ => 0), (fun _ => 0), (fun _ => 0), (fun _ => 0)) t) (va_A [(h0, .inr (0, [.null, .null, .null, .null, .int 0, .int 0, .int 0, .int 0, .int 0, .long 0]))] sz0)) 4 1840 (va_A [(h0, .inr (0, [.null, .null, .null, .null, .int 0, .int 0, .int 0, .int 0, .int 0, .long 0]))] sz0) := by
  refine Met.ofW (cc := cX0_init) (maxL := 1) (ret := none) (by decide) rfl ?_
  intro p e s m args below meth c s₁ B hml hv
  obtain ⟨rfl, hsz, hP, hK, hD0⟩ := hv
  have hx := B.exec
  have hb := B.bytes
  have hrt := B.returns
  have hlocks := B.notSynchronized
  have hts := atoms_spec (ws := wsX0_init) B.pre
  have hw : ∀ w ∈ WB, w.before ([.ref h0] : List Value).toArray s = true := fun w h => hts w (List.mem_cons_of_mem _ h)
  have hown : s.vm.findClass "ProofBench" = some m.cls := findClass_of_methodNamed B.named
  have hin : meth.name = "<init>" := (name_of_methodNamed B.named B.method).1
  subst hsz
  have hD := hD0.self (sz := s.heap.size)
  generalize hAe : va_A [(h0, .inr (0, [.null, .null, .null, .null, .int 0, .int 0, .int 0, .int 0, .int 0, .long 0]))] s.heap.size = A at hD ⊢
  have hA : ∀ q : Nat, s.heap.size ≤ q → A q := fun q h => by rw [← hAe]; exact Or.inr h
  have hS : va_S A s.heap s.heap [] := va_S.rf
  have hP : va_P (dC, dI) cls2 [(h0, .inr (0, [.null, .null, .null, .null, .int 0, .int 0, .int 0, .int 0, .int 0, .long 0]))] s.heap := hP
  have hl := lv_entry ([.ref h0]) (n := 1) (Nat.le_of_ble_eq_true rfl)
  rw [lg_entry_eq]
  generalize (lg_sl ([.ref h0]) ++ List.replicate (1 - (lg_sl ([.ref h0])).length) Slot.unset).toArray = ls at hl ⊢
  have hl : lv_has ls 1 [(0, .ref h0)] := hl
  refine lv_aload_n hx hb dX0_init_0 rfl (lv_at hl 0 rfl) ?_
  refine W.objInit hx hb hown (hw _ wb_14) (hw _ wb_15) (hw _ wb_16) rfl (by rw [hml]; exact hl.1) rfl dX0_init_1 (Nat.le_of_ble_eq_true rfl) (Nat.le_of_ble_eq_true rfl) ?_
  refine W.eq (g2 := F0 m 4 ls []) rfl ?_
  refine lv_aload_n hx hb dX0_init_4 rfl (lv_at hl 0 rfl) ?_
  refine lv_sipush (v := 600) hx hb dX0_init_5 (by decide) ?_
  refine va_newa (atype := .int) (ty := .int) (a0 := (600, .inl (fun _ => 0))) (N' := 600) hx hb (hw _ wb_48) rfl hK hP hD hS hA (fun _ => rfl) (by decide +kernel) (by decide +kernel) (by decide +kernel) (Nat.le_of_ble_eq_true rfl) (Nat.le_of_ble_eq_true rfl) dX0_init_8 (fun q1 y1 H hK hP hD hS => ?_)
  have hP : va_P (dC, dI) cls2 [(h0, .inr (0, [.null, .null, .null, .null, .int 0, .int 0, .int 0, .int 0, .int 0, .long 0])), (q1, .inl (y1, 600, .inl (fun _ => 0)))] H := hP
  have hD : va_D A [(h0, .inr (0, [.null, .null, .null, .null, .int 0, .int 0, .int 0, .int 0, .int 0, .long 0])), (q1, .inl (y1, 600, .inl (fun _ => 0)))] := hD
  have hK : va_K (dC, dI) cls2 [(y1, .int)] s := hK
  refine va_putF (D := (dC, dI)) (ci := 0) (v := .ref q1) (ty := .array .int) (C := RX0) (T := TX0) (N := 10) hx hb hw inX0 tyX0 tyX0_ok nmX0 hown hK hP hD hS 0 rfl rfl 0 (by decide) (hw _ wb_17) (fun _ h9 => h9) rfl hin rfl (by decide +kernel) rfl rfl (Nat.le_of_ble_eq_true rfl) dX0_init_10 (fun H locs hP hD hS => ?_)
  have hP : va_P (dC, dI) cls2 [(h0, .inr (0, [.ref q1, .null, .null, .null, .int 0, .int 0, .int 0, .int 0, .int 0, .long 0])), (q1, .inl (y1, 600, .inl (fun _ => 0)))] H := hP
  have hD : va_D A [(h0, .inr (0, [.ref q1, .null, .null, .null, .int 0, .int 0, .int 0, .int 0, .int 0, .long 0])), (q1, .inl (y1, 600, .inl (fun _ => 0)))] := hD
  refine lv_aload_n hx hb dX0_init_13 rfl (lv_at hl 0 rfl) ?_
  refine lv_sipush (v := 600) hx hb dX0_init_14 (by decide) ?_
  refine va_newa (atype := .long) (ty := .long) (a0 := (600, .inr (.inl (fun _ => 0)))) (N' := 600) hx hb (hw _ wb_49) rfl hK hP hD hS hA (fun _ => rfl) (by decide +kernel) (by decide +kernel) (by decide +kernel) (Nat.le_of_ble_eq_true rfl) (Nat.le_of_ble_eq_true rfl) dX0_init_17 (fun q2 y2 H hK hP hD hS => ?_)
  have hP : va_P (dC, dI) cls2 [(h0, .inr (0, [.ref q1, .null, .null, .null, .int 0, .int 0, .int 0, .int 0, .int 0, .long 0])), (q1, .inl (y1, 600, .inl (fun _ => 0))), (q2, .inl (y2, 600, .inr (.inl (fun _ => 0))))] H := hP
  have hD : va_D A [(h0, .inr (0, [.ref q1, .null, .null, .null, .int 0, .int 0, .int 0, .int 0, .int 0, .long 0])), (q1, .inl (y1, 600, .inl (fun _ => 0))), (q2, .inl (y2, 600, .inr (.inl (fun _ => 0))))] := hD
  have hK : va_K (dC, dI) cls2 [(y1, .int), (y2, .long)] s := hK
  refine va_putF (D := (dC, dI)) (ci := 0) (v := .ref q2) (ty := .array .long) (C := RX0) (T := TX0) (N := 10) hx hb hw inX0 tyX0 tyX0_ok nmX0 hown hK hP hD hS 0 rfl rfl 1 (by decide) (hw _ wb_18) (fun _ h9 => h9) rfl hin rfl (by decide +kernel) rfl rfl (Nat.le_of_ble_eq_true rfl) dX0_init_19 (fun H locs hP hD hS => ?_)
  have hP : va_P (dC, dI) cls2 [(h0, .inr (0, [.ref q1, .ref q2, .null, .null, .int 0, .int 0, .int 0, .int 0, .int 0, .long 0])), (q1, .inl (y1, 600, .inl (fun _ => 0))), (q2, .inl (y2, 600, .inr (.inl (fun _ => 0))))] H := hP
  have hD : va_D A [(h0, .inr (0, [.ref q1, .ref q2, .null, .null, .int 0, .int 0, .int 0, .int 0, .int 0, .long 0])), (q1, .inl (y1, 600, .inl (fun _ => 0))), (q2, .inl (y2, 600, .inr (.inl (fun _ => 0))))] := hD
  refine lv_aload_n hx hb dX0_init_22 rfl (lv_at hl 0 rfl) ?_
  refine lv_sipush (v := 600) hx hb dX0_init_23 (by decide) ?_
  refine va_newa (atype := .boolean) (ty := .boolean) (a0 := (600, .inl (fun _ => 0))) (N' := 600) hx hb (hw _ wb_50) rfl hK hP hD hS hA (fun _ => rfl) (by decide +kernel) (by decide +kernel) (by decide +kernel) (Nat.le_of_ble_eq_true rfl) (Nat.le_of_ble_eq_true rfl) dX0_init_26 (fun q3 y3 H hK hP hD hS => ?_)
  have hP : va_P (dC, dI) cls2 [(h0, .inr (0, [.ref q1, .ref q2, .null, .null, .int 0, .int 0, .int 0, .int 0, .int 0, .long 0])), (q1, .inl (y1, 600, .inl (fun _ => 0))), (q2, .inl (y2, 600, .inr (.inl (fun _ => 0)))), (q3, .inl (y3, 600, .inl (fun _ => 0)))] H := hP
  have hD : va_D A [(h0, .inr (0, [.ref q1, .ref q2, .null, .null, .int 0, .int 0, .int 0, .int 0, .int 0, .long 0])), (q1, .inl (y1, 600, .inl (fun _ => 0))), (q2, .inl (y2, 600, .inr (.inl (fun _ => 0)))), (q3, .inl (y3, 600, .inl (fun _ => 0)))] := hD
  have hK : va_K (dC, dI) cls2 [(y1, .int), (y2, .long), (y3, .boolean)] s := hK
  refine va_putF (D := (dC, dI)) (ci := 0) (v := .ref q3) (ty := .array .boolean) (C := RX0) (T := TX0) (N := 10) hx hb hw inX0 tyX0 tyX0_ok nmX0 hown hK hP hD hS 0 rfl rfl 2 (by decide) (hw _ wb_19) (fun _ h9 => h9) rfl hin rfl (by decide +kernel) rfl rfl (Nat.le_of_ble_eq_true rfl) dX0_init_28 (fun H locs hP hD hS => ?_)
  have hP : va_P (dC, dI) cls2 [(h0, .inr (0, [.ref q1, .ref q2, .ref q3, .null, .int 0, .int 0, .int 0, .int 0, .int 0, .long 0])), (q1, .inl (y1, 600, .inl (fun _ => 0))), (q2, .inl (y2, 600, .inr (.inl (fun _ => 0)))), (q3, .inl (y3, 600, .inl (fun _ => 0)))] H := hP
  have hD : va_D A [(h0, .inr (0, [.ref q1, .ref q2, .ref q3, .null, .int 0, .int 0, .int 0, .int 0, .int 0, .long 0])), (q1, .inl (y1, 600, .inl (fun _ => 0))), (q2, .inl (y2, 600, .inr (.inl (fun _ => 0)))), (q3, .inl (y3, 600, .inl (fun _ => 0)))] := hD
  refine lv_aload_n hx hb dX0_init_31 rfl (lv_at hl 0 rfl) ?_
  refine lv_bipush (v := 40) hx hb dX0_init_32 (by decide) ?_
  refine va_newa (atype := .int) (ty := .int) (a0 := (40, .inl (fun _ => 0))) (N' := 40) hx hb (hw _ wb_48) rfl hK hP hD hS hA (fun _ => rfl) (by decide +kernel) (by decide +kernel) (by decide +kernel) (Nat.le_of_ble_eq_true rfl) (Nat.le_of_ble_eq_true rfl) dX0_init_34 (fun q4 y4 H hK hP hD hS => ?_)
  have hP : va_P (dC, dI) cls2 [(h0, .inr (0, [.ref q1, .ref q2, .ref q3, .null, .int 0, .int 0, .int 0, .int 0, .int 0, .long 0])), (q1, .inl (y1, 600, .inl (fun _ => 0))), (q2, .inl (y2, 600, .inr (.inl (fun _ => 0)))), (q3, .inl (y3, 600, .inl (fun _ => 0))), (q4, .inl (y4, 40, .inl (fun _ => 0)))] H := hP
  have hD : va_D A [(h0, .inr (0, [.ref q1, .ref q2, .ref q3, .null, .int 0, .int 0, .int 0, .int 0, .int 0, .long 0])), (q1, .inl (y1, 600, .inl (fun _ => 0))), (q2, .inl (y2, 600, .inr (.inl (fun _ => 0)))), (q3, .inl (y3, 600, .inl (fun _ => 0))), (q4, .inl (y4, 40, .inl (fun _ => 0)))] := hD
  have hK : va_K (dC, dI) cls2 [(y1, .int), (y2, .long), (y3, .boolean), (y4, .int)] s := hK
  refine va_putF (D := (dC, dI)) (ci := 0) (v := .ref q4) (ty := .array .int) (C := RX0) (T := TX0) (N := 10) hx hb hw inX0 tyX0 tyX0_ok nmX0 hown hK hP hD hS 0 rfl rfl 3 (by decide) (hw _ wb_20) (fun _ h9 => h9) rfl hin rfl (by decide +kernel) rfl rfl (Nat.le_of_ble_eq_true rfl) dX0_init_36 (fun H locs hP hD hS => ?_)
  have hP : va_P (dC, dI) cls2 [(h0, .inr (0, [.ref q1, .ref q2, .ref q3, .ref q4, .int 0, .int 0, .int 0, .int 0, .int 0, .long 0])), (q1, .inl (y1, 600, .inl (fun _ => 0))), (q2, .inl (y2, 600, .inr (.inl (fun _ => 0)))), (q3, .inl (y3, 600, .inl (fun _ => 0))), (q4, .inl (y4, 40, .inl (fun _ => 0)))] H := hP
  have hD : va_D A [(h0, .inr (0, [.ref q1, .ref q2, .ref q3, .ref q4, .int 0, .int 0, .int 0, .int 0, .int 0, .long 0])), (q1, .inl (y1, 600, .inl (fun _ => 0))), (q2, .inl (y2, 600, .inr (.inl (fun _ => 0)))), (q3, .inl (y3, 600, .inl (fun _ => 0))), (q4, .inl (y4, 40, .inl (fun _ => 0)))] := hD
  refine W.widen (k := 4) (n := 1840) (Nat.le_of_ble_eq_true rfl) (Nat.le_of_ble_eq_true rfl) ?_
  exact W.vret hx hb hrt (fun t ht hW => ⟨⟨(fun k => [h0, q1, q2, q3, q4].getD k 0, fun k => [y1, y1, y2, y3, y4].getD k y1), rfl, rfl, by rw [ht]; exact hP, va_K.moved hW.alike hK, hD⟩, hS.F ht⟩) hS.2.2 dX0_init_39
set_option maxHeartbeats 600000 in
set_option maxRecDepth 100000 in
/-- n_init -/
theorem n_init (l : Launch) (dC : Nat → ClassId) (dI : Nat → Nat → Nat) (h0 sz0 : Nat) : Met l yX1_init wsX1_init (rmN 1 7 11304) (va_Pc [.ref h0] (fun U => U.heap.size = sz0 ∧ va_P (dC, dI) cls2 [(h0, .inr (1, [.int 0, .int 0, .int 0, .int 0, .int 0, .null, .null, .int 0, .null, .int 0, .null, .null, .null, .null]))] U.heap ∧ va_K (dC, dI) cls2 [] U ∧ va_D (fun _ => True) [(h0, .inr (1, [.int 0, .int 0, .int 0, .int 0, .int 0, .null, .null, .int 0, .null, .int 0, .null, .null, .null, .null]))])) (va_Qv (fun (u : (Nat → Nat) × (Nat → ClassId)) => u.1 0 = h0) (fun u t => atM dC dI (va_A [(h0, .inr (1, [.int 0, .int 0, .int 0, .int 0, .int 0, .null, .null, .int 0, .null, .int 0, .null, .null, .null, .null]))] sz0) u.1 u.2 (0, 0, 0, 0, 0, 0, 0, (fun _ => 0), (fun _ => 0), (fun _ => 0), (fun _ => 0), (fun _ => 0), mo_it 1024 0 (fun _ => 0), lw_out 6 1 (fun _ => 0)) t) (va_A [(h0, .inr (1, [.int 0, .int 0, .int 0, .int 0, .int 0, .null, .null, .int 0, .null, .int 0, .null, .null, .null, .null]))] sz0)) 7 11304 (va_A [(h0, .inr (1, [.int 0, .int 0, .int 0, .int 0, .int 0, .null, .null, .int 0, .null, .int 0, .null, .null, .null, .null]))] sz0) := by
  refine Met.ofW (cc := cX1_init) (maxL := 3) (ret := none) (by decide) rfl ?_
  intro p e s m args below meth c s₁ B hml hv
  obtain ⟨rfl, hsz, hP, hK, hD0⟩ := hv
  have hx := B.exec
  have hb := B.bytes
  have hrt := B.returns
  have hlocks := B.notSynchronized
  have hts := atoms_spec (ws := wsX1_init) B.pre
  have hw : ∀ w ∈ WB, w.before ([.ref h0] : List Value).toArray s = true := fun w h => hts w (List.mem_cons_of_mem _ h)
  have hown : s.vm.findClass "ProofBenchModel" = some m.cls := findClass_of_methodNamed B.named
  have hin : meth.name = "<init>" := (name_of_methodNamed B.named B.method).1
  subst hsz
  have hD := hD0.self (sz := s.heap.size)
  generalize hAe : va_A [(h0, .inr (1, [.int 0, .int 0, .int 0, .int 0, .int 0, .null, .null, .int 0, .null, .int 0, .null, .null, .null, .null]))] s.heap.size = A at hD ⊢
  have hA : ∀ q : Nat, s.heap.size ≤ q → A q := fun q h => by rw [← hAe]; exact Or.inr h
  have hS : va_S A s.heap s.heap [] := va_S.rf
  have hP : va_P (dC, dI) cls2 [(h0, .inr (1, [.int 0, .int 0, .int 0, .int 0, .int 0, .null, .null, .int 0, .null, .int 0, .null, .null, .null, .null]))] s.heap := hP
  have hl := lv_entry ([.ref h0]) (n := 3) (Nat.le_of_ble_eq_true rfl)
  rw [lg_entry_eq]
  generalize (lg_sl ([.ref h0]) ++ List.replicate (3 - (lg_sl ([.ref h0])).length) Slot.unset).toArray = ls at hl ⊢
  have hl : lv_has ls 3 [(0, .ref h0)] := hl
  refine lv_aload_n hx hb dX1_init_0 rfl (lv_at hl 0 rfl) ?_
  refine W.objInit hx hb hown (hw _ wb_266) (hw _ wb_15) (hw _ wb_16) rfl (by rw [hml]; exact hl.1) rfl dX1_init_1 (Nat.le_of_ble_eq_true rfl) (Nat.le_of_ble_eq_true rfl) ?_
  refine W.eq (g2 := F0 m 4 ls []) rfl ?_
  refine lv_aload_n hx hb dX1_init_4 rfl (lv_at hl 0 rfl) ?_
  refine lv_sipush (v := 9600) hx hb dX1_init_5 (by decide) ?_
  refine va_newa (atype := .int) (ty := .int) (a0 := (9600, .inl (fun _ => 0))) (N' := 9600) hx hb (hw _ wb_48) rfl hK hP hD hS hA (fun _ => rfl) (by decide +kernel) (by decide +kernel) (by decide +kernel) (Nat.le_of_ble_eq_true rfl) (Nat.le_of_ble_eq_true rfl) dX1_init_8 (fun q1 y1 H hK hP hD hS => ?_)
  have hP : va_P (dC, dI) cls2 [(h0, .inr (1, [.int 0, .int 0, .int 0, .int 0, .int 0, .null, .null, .int 0, .null, .int 0, .null, .null, .null, .null])), (q1, .inl (y1, 9600, .inl (fun _ => 0)))] H := hP
  have hD : va_D A [(h0, .inr (1, [.int 0, .int 0, .int 0, .int 0, .int 0, .null, .null, .int 0, .null, .int 0, .null, .null, .null, .null])), (q1, .inl (y1, 9600, .inl (fun _ => 0)))] := hD
  have hK : va_K (dC, dI) cls2 [(y1, .int)] s := hK
  refine va_putF (D := (dC, dI)) (ci := 1) (v := .ref q1) (ty := .array .int) (C := RX1) (T := TX1) (N := 14) hx hb hw inX1 tyX1 tyX1_ok nmX1 hown hK hP hD hS 0 rfl rfl 5 (by decide) (hw _ wb_273) (fun _ h9 => h9) rfl hin rfl (by decide +kernel) rfl rfl (Nat.le_of_ble_eq_true rfl) dX1_init_10 (fun H locs hP hD hS => ?_)
  have hP : va_P (dC, dI) cls2 [(h0, .inr (1, [.int 0, .int 0, .int 0, .int 0, .int 0, .ref q1, .null, .int 0, .null, .int 0, .null, .null, .null, .null])), (q1, .inl (y1, 9600, .inl (fun _ => 0)))] H := hP
  have hD : va_D A [(h0, .inr (1, [.int 0, .int 0, .int 0, .int 0, .int 0, .ref q1, .null, .int 0, .null, .int 0, .null, .null, .null, .null])), (q1, .inl (y1, 9600, .inl (fun _ => 0)))] := hD
  refine lv_aload_n hx hb dX1_init_13 rfl (lv_at hl 0 rfl) ?_
  refine lv_sipush (v := 600) hx hb dX1_init_14 (by decide) ?_
  refine va_newa (atype := .int) (ty := .int) (a0 := (600, .inl (fun _ => 0))) (N' := 600) hx hb (hw _ wb_48) rfl hK hP hD hS hA (fun _ => rfl) (by decide +kernel) (by decide +kernel) (by decide +kernel) (Nat.le_of_ble_eq_true rfl) (Nat.le_of_ble_eq_true rfl) dX1_init_17 (fun q2 y2 H hK hP hD hS => ?_)
  have hP : va_P (dC, dI) cls2 [(h0, .inr (1, [.int 0, .int 0, .int 0, .int 0, .int 0, .ref q1, .null, .int 0, .null, .int 0, .null, .null, .null, .null])), (q1, .inl (y1, 9600, .inl (fun _ => 0))), (q2, .inl (y2, 600, .inl (fun _ => 0)))] H := hP
  have hD : va_D A [(h0, .inr (1, [.int 0, .int 0, .int 0, .int 0, .int 0, .ref q1, .null, .int 0, .null, .int 0, .null, .null, .null, .null])), (q1, .inl (y1, 9600, .inl (fun _ => 0))), (q2, .inl (y2, 600, .inl (fun _ => 0)))] := hD
  have hK : va_K (dC, dI) cls2 [(y1, .int), (y2, .int)] s := hK
  refine va_putF (D := (dC, dI)) (ci := 1) (v := .ref q2) (ty := .array .int) (C := RX1) (T := TX1) (N := 14) hx hb hw inX1 tyX1 tyX1_ok nmX1 hown hK hP hD hS 0 rfl rfl 6 (by decide) (hw _ wb_274) (fun _ h9 => h9) rfl hin rfl (by decide +kernel) rfl rfl (Nat.le_of_ble_eq_true rfl) dX1_init_19 (fun H locs hP hD hS => ?_)
  have hP : va_P (dC, dI) cls2 [(h0, .inr (1, [.int 0, .int 0, .int 0, .int 0, .int 0, .ref q1, .ref q2, .int 0, .null, .int 0, .null, .null, .null, .null])), (q1, .inl (y1, 9600, .inl (fun _ => 0))), (q2, .inl (y2, 600, .inl (fun _ => 0)))] H := hP
  have hD : va_D A [(h0, .inr (1, [.int 0, .int 0, .int 0, .int 0, .int 0, .ref q1, .ref q2, .int 0, .null, .int 0, .null, .null, .null, .null])), (q1, .inl (y1, 9600, .inl (fun _ => 0))), (q2, .inl (y2, 600, .inl (fun _ => 0)))] := hD
  refine lv_aload_n hx hb dX1_init_22 rfl (lv_at hl 0 rfl) ?_
  refine lv_bipush (v := 16) hx hb dX1_init_23 (by decide) ?_
  refine va_newa (atype := .int) (ty := .int) (a0 := (16, .inl (fun _ => 0))) (N' := 16) hx hb (hw _ wb_48) rfl hK hP hD hS hA (fun _ => rfl) (by decide +kernel) (by decide +kernel) (by decide +kernel) (Nat.le_of_ble_eq_true rfl) (Nat.le_of_ble_eq_true rfl) dX1_init_25 (fun q3 y3 H hK hP hD hS => ?_)
  have hP : va_P (dC, dI) cls2 [(h0, .inr (1, [.int 0, .int 0, .int 0, .int 0, .int 0, .ref q1, .ref q2, .int 0, .null, .int 0, .null, .null, .null, .null])), (q1, .inl (y1, 9600, .inl (fun _ => 0))), (q2, .inl (y2, 600, .inl (fun _ => 0))), (q3, .inl (y3, 16, .inl (fun _ => 0)))] H := hP
  have hD : va_D A [(h0, .inr (1, [.int 0, .int 0, .int 0, .int 0, .int 0, .ref q1, .ref q2, .int 0, .null, .int 0, .null, .null, .null, .null])), (q1, .inl (y1, 9600, .inl (fun _ => 0))), (q2, .inl (y2, 600, .inl (fun _ => 0))), (q3, .inl (y3, 16, .inl (fun _ => 0)))] := hD
  have hK : va_K (dC, dI) cls2 [(y1, .int), (y2, .int), (y3, .int)] s := hK
  refine va_putF (D := (dC, dI)) (ci := 1) (v := .ref q3) (ty := .array .int) (C := RX1) (T := TX1) (N := 14) hx hb hw inX1 tyX1 tyX1_ok nmX1 hown hK hP hD hS 0 rfl rfl 8 (by decide) (hw _ wb_276) (fun _ h9 => h9) rfl hin rfl (by decide +kernel) rfl rfl (Nat.le_of_ble_eq_true rfl) dX1_init_27 (fun H locs hP hD hS => ?_)
  have hP : va_P (dC, dI) cls2 [(h0, .inr (1, [.int 0, .int 0, .int 0, .int 0, .int 0, .ref q1, .ref q2, .int 0, .ref q3, .int 0, .null, .null, .null, .null])), (q1, .inl (y1, 9600, .inl (fun _ => 0))), (q2, .inl (y2, 600, .inl (fun _ => 0))), (q3, .inl (y3, 16, .inl (fun _ => 0)))] H := hP
  have hD : va_D A [(h0, .inr (1, [.int 0, .int 0, .int 0, .int 0, .int 0, .ref q1, .ref q2, .int 0, .ref q3, .int 0, .null, .null, .null, .null])), (q1, .inl (y1, 9600, .inl (fun _ => 0))), (q2, .inl (y2, 600, .inl (fun _ => 0))), (q3, .inl (y3, 16, .inl (fun _ => 0)))] := hD
  refine lv_aload_n hx hb dX1_init_30 rfl (lv_at hl 0 rfl) ?_
  refine lv_bipush (v := 40) hx hb dX1_init_31 (by decide) ?_
  refine va_newa (atype := .int) (ty := .int) (a0 := (40, .inl (fun _ => 0))) (N' := 40) hx hb (hw _ wb_48) rfl hK hP hD hS hA (fun _ => rfl) (by decide +kernel) (by decide +kernel) (by decide +kernel) (Nat.le_of_ble_eq_true rfl) (Nat.le_of_ble_eq_true rfl) dX1_init_33 (fun q4 y4 H hK hP hD hS => ?_)
  have hP : va_P (dC, dI) cls2 [(h0, .inr (1, [.int 0, .int 0, .int 0, .int 0, .int 0, .ref q1, .ref q2, .int 0, .ref q3, .int 0, .null, .null, .null, .null])), (q1, .inl (y1, 9600, .inl (fun _ => 0))), (q2, .inl (y2, 600, .inl (fun _ => 0))), (q3, .inl (y3, 16, .inl (fun _ => 0))), (q4, .inl (y4, 40, .inl (fun _ => 0)))] H := hP
  have hD : va_D A [(h0, .inr (1, [.int 0, .int 0, .int 0, .int 0, .int 0, .ref q1, .ref q2, .int 0, .ref q3, .int 0, .null, .null, .null, .null])), (q1, .inl (y1, 9600, .inl (fun _ => 0))), (q2, .inl (y2, 600, .inl (fun _ => 0))), (q3, .inl (y3, 16, .inl (fun _ => 0))), (q4, .inl (y4, 40, .inl (fun _ => 0)))] := hD
  have hK : va_K (dC, dI) cls2 [(y1, .int), (y2, .int), (y3, .int), (y4, .int)] s := hK
  refine va_putF (D := (dC, dI)) (ci := 1) (v := .ref q4) (ty := .array .int) (C := RX1) (T := TX1) (N := 14) hx hb hw inX1 tyX1 tyX1_ok nmX1 hown hK hP hD hS 0 rfl rfl 10 (by decide) (hw _ wb_278) (fun _ h9 => h9) rfl hin rfl (by decide +kernel) rfl rfl (Nat.le_of_ble_eq_true rfl) dX1_init_35 (fun H locs hP hD hS => ?_)
  have hP : va_P (dC, dI) cls2 [(h0, .inr (1, [.int 0, .int 0, .int 0, .int 0, .int 0, .ref q1, .ref q2, .int 0, .ref q3, .int 0, .ref q4, .null, .null, .null])), (q1, .inl (y1, 9600, .inl (fun _ => 0))), (q2, .inl (y2, 600, .inl (fun _ => 0))), (q3, .inl (y3, 16, .inl (fun _ => 0))), (q4, .inl (y4, 40, .inl (fun _ => 0)))] H := hP
  have hD : va_D A [(h0, .inr (1, [.int 0, .int 0, .int 0, .int 0, .int 0, .ref q1, .ref q2, .int 0, .ref q3, .int 0, .ref q4, .null, .null, .null])), (q1, .inl (y1, 9600, .inl (fun _ => 0))), (q2, .inl (y2, 600, .inl (fun _ => 0))), (q3, .inl (y3, 16, .inl (fun _ => 0))), (q4, .inl (y4, 40, .inl (fun _ => 0)))] := hD
  refine lv_aload_n hx hb dX1_init_38 rfl (lv_at hl 0 rfl) ?_
  refine lv_bipush (v := 17) hx hb dX1_init_39 (by decide) ?_
  refine va_newa (atype := .int) (ty := .int) (a0 := (17, .inl (fun _ => 0))) (N' := 17) hx hb (hw _ wb_48) rfl hK hP hD hS hA (fun _ => rfl) (by decide +kernel) (by decide +kernel) (by decide +kernel) (Nat.le_of_ble_eq_true rfl) (Nat.le_of_ble_eq_true rfl) dX1_init_41 (fun q5 y5 H hK hP hD hS => ?_)
  have hP : va_P (dC, dI) cls2 [(h0, .inr (1, [.int 0, .int 0, .int 0, .int 0, .int 0, .ref q1, .ref q2, .int 0, .ref q3, .int 0, .ref q4, .null, .null, .null])), (q1, .inl (y1, 9600, .inl (fun _ => 0))), (q2, .inl (y2, 600, .inl (fun _ => 0))), (q3, .inl (y3, 16, .inl (fun _ => 0))), (q4, .inl (y4, 40, .inl (fun _ => 0))), (q5, .inl (y5, 17, .inl (fun _ => 0)))] H := hP
  have hD : va_D A [(h0, .inr (1, [.int 0, .int 0, .int 0, .int 0, .int 0, .ref q1, .ref q2, .int 0, .ref q3, .int 0, .ref q4, .null, .null, .null])), (q1, .inl (y1, 9600, .inl (fun _ => 0))), (q2, .inl (y2, 600, .inl (fun _ => 0))), (q3, .inl (y3, 16, .inl (fun _ => 0))), (q4, .inl (y4, 40, .inl (fun _ => 0))), (q5, .inl (y5, 17, .inl (fun _ => 0)))] := hD
  have hK : va_K (dC, dI) cls2 [(y1, .int), (y2, .int), (y3, .int), (y4, .int), (y5, .int)] s := hK
  refine va_putF (D := (dC, dI)) (ci := 1) (v := .ref q5) (ty := .array .int) (C := RX1) (T := TX1) (N := 14) hx hb hw inX1 tyX1 tyX1_ok nmX1 hown hK hP hD hS 0 rfl rfl 11 (by decide) (hw _ wb_279) (fun _ h9 => h9) rfl hin rfl (by decide +kernel) rfl rfl (Nat.le_of_ble_eq_true rfl) dX1_init_43 (fun H locs hP hD hS => ?_)
  have hP : va_P (dC, dI) cls2 [(h0, .inr (1, [.int 0, .int 0, .int 0, .int 0, .int 0, .ref q1, .ref q2, .int 0, .ref q3, .int 0, .ref q4, .ref q5, .null, .null])), (q1, .inl (y1, 9600, .inl (fun _ => 0))), (q2, .inl (y2, 600, .inl (fun _ => 0))), (q3, .inl (y3, 16, .inl (fun _ => 0))), (q4, .inl (y4, 40, .inl (fun _ => 0))), (q5, .inl (y5, 17, .inl (fun _ => 0)))] H := hP
  have hD : va_D A [(h0, .inr (1, [.int 0, .int 0, .int 0, .int 0, .int 0, .ref q1, .ref q2, .int 0, .ref q3, .int 0, .ref q4, .ref q5, .null, .null])), (q1, .inl (y1, 9600, .inl (fun _ => 0))), (q2, .inl (y2, 600, .inl (fun _ => 0))), (q3, .inl (y3, 16, .inl (fun _ => 0))), (q4, .inl (y4, 40, .inl (fun _ => 0))), (q5, .inl (y5, 17, .inl (fun _ => 0)))] := hD
  refine lv_aload_n hx hb dX1_init_46 rfl (lv_at hl 0 rfl) ?_
  refine lv_sipush (v := 1024) hx hb dX1_init_47 (by decide) ?_
  refine va_newa (atype := .long) (ty := .long) (a0 := (1024, .inr (.inl (fun _ => 0)))) (N' := 1024) hx hb (hw _ wb_49) rfl hK hP hD hS hA (fun _ => rfl) (by decide +kernel) (by decide +kernel) (by decide +kernel) (Nat.le_of_ble_eq_true rfl) (Nat.le_of_ble_eq_true rfl) dX1_init_50 (fun q6 y6 H hK hP hD hS => ?_)
  have hP : va_P (dC, dI) cls2 [(h0, .inr (1, [.int 0, .int 0, .int 0, .int 0, .int 0, .ref q1, .ref q2, .int 0, .ref q3, .int 0, .ref q4, .ref q5, .null, .null])), (q1, .inl (y1, 9600, .inl (fun _ => 0))), (q2, .inl (y2, 600, .inl (fun _ => 0))), (q3, .inl (y3, 16, .inl (fun _ => 0))), (q4, .inl (y4, 40, .inl (fun _ => 0))), (q5, .inl (y5, 17, .inl (fun _ => 0))), (q6, .inl (y6, 1024, .inr (.inl (fun _ => 0))))] H := hP
  have hD : va_D A [(h0, .inr (1, [.int 0, .int 0, .int 0, .int 0, .int 0, .ref q1, .ref q2, .int 0, .ref q3, .int 0, .ref q4, .ref q5, .null, .null])), (q1, .inl (y1, 9600, .inl (fun _ => 0))), (q2, .inl (y2, 600, .inl (fun _ => 0))), (q3, .inl (y3, 16, .inl (fun _ => 0))), (q4, .inl (y4, 40, .inl (fun _ => 0))), (q5, .inl (y5, 17, .inl (fun _ => 0))), (q6, .inl (y6, 1024, .inr (.inl (fun _ => 0))))] := hD
  have hK : va_K (dC, dI) cls2 [(y1, .int), (y2, .int), (y3, .int), (y4, .int), (y5, .int), (y6, .long)] s := hK
  refine va_putF (D := (dC, dI)) (ci := 1) (v := .ref q6) (ty := .array .long) (C := RX1) (T := TX1) (N := 14) hx hb hw inX1 tyX1 tyX1_ok nmX1 hown hK hP hD hS 0 rfl rfl 12 (by decide) (hw _ wb_280) (fun _ h9 => h9) rfl hin rfl (by decide +kernel) rfl rfl (Nat.le_of_ble_eq_true rfl) dX1_init_52 (fun H locs hP hD hS => ?_)
  have hP : va_P (dC, dI) cls2 [(h0, .inr (1, [.int 0, .int 0, .int 0, .int 0, .int 0, .ref q1, .ref q2, .int 0, .ref q3, .int 0, .ref q4, .ref q5, .ref q6, .null])), (q1, .inl (y1, 9600, .inl (fun _ => 0))), (q2, .inl (y2, 600, .inl (fun _ => 0))), (q3, .inl (y3, 16, .inl (fun _ => 0))), (q4, .inl (y4, 40, .inl (fun _ => 0))), (q5, .inl (y5, 17, .inl (fun _ => 0))), (q6, .inl (y6, 1024, .inr (.inl (fun _ => 0))))] H := hP
  have hD : va_D A [(h0, .inr (1, [.int 0, .int 0, .int 0, .int 0, .int 0, .ref q1, .ref q2, .int 0, .ref q3, .int 0, .ref q4, .ref q5, .ref q6, .null])), (q1, .inl (y1, 9600, .inl (fun _ => 0))), (q2, .inl (y2, 600, .inl (fun _ => 0))), (q3, .inl (y3, 16, .inl (fun _ => 0))), (q4, .inl (y4, 40, .inl (fun _ => 0))), (q5, .inl (y5, 17, .inl (fun _ => 0))), (q6, .inl (y6, 1024, .inr (.inl (fun _ => 0))))] := hD
  refine lv_aload_n hx hb dX1_init_55 rfl (lv_at hl 0 rfl) ?_
  refine lv_bipush (v := 7) hx hb dX1_init_56 (by decide) ?_
  refine va_newa (atype := .long) (ty := .long) (a0 := (7, .inr (.inl (fun _ => 0)))) (N' := 7) hx hb (hw _ wb_49) rfl hK hP hD hS hA (fun _ => rfl) (by decide +kernel) (by decide +kernel) (by decide +kernel) (Nat.le_of_ble_eq_true rfl) (Nat.le_of_ble_eq_true rfl) dX1_init_58 (fun q7 y7 H hK hP hD hS => ?_)
  have hP : va_P (dC, dI) cls2 [(h0, .inr (1, [.int 0, .int 0, .int 0, .int 0, .int 0, .ref q1, .ref q2, .int 0, .ref q3, .int 0, .ref q4, .ref q5, .ref q6, .null])), (q1, .inl (y1, 9600, .inl (fun _ => 0))), (q2, .inl (y2, 600, .inl (fun _ => 0))), (q3, .inl (y3, 16, .inl (fun _ => 0))), (q4, .inl (y4, 40, .inl (fun _ => 0))), (q5, .inl (y5, 17, .inl (fun _ => 0))), (q6, .inl (y6, 1024, .inr (.inl (fun _ => 0)))), (q7, .inl (y7, 7, .inr (.inl (fun _ => 0))))] H := hP
  have hD : va_D A [(h0, .inr (1, [.int 0, .int 0, .int 0, .int 0, .int 0, .ref q1, .ref q2, .int 0, .ref q3, .int 0, .ref q4, .ref q5, .ref q6, .null])), (q1, .inl (y1, 9600, .inl (fun _ => 0))), (q2, .inl (y2, 600, .inl (fun _ => 0))), (q3, .inl (y3, 16, .inl (fun _ => 0))), (q4, .inl (y4, 40, .inl (fun _ => 0))), (q5, .inl (y5, 17, .inl (fun _ => 0))), (q6, .inl (y6, 1024, .inr (.inl (fun _ => 0)))), (q7, .inl (y7, 7, .inr (.inl (fun _ => 0))))] := hD
  have hK : va_K (dC, dI) cls2 [(y1, .int), (y2, .int), (y3, .int), (y4, .int), (y5, .int), (y6, .long), (y7, .long)] s := hK
  refine va_putF (D := (dC, dI)) (ci := 1) (v := .ref q7) (ty := .array .long) (C := RX1) (T := TX1) (N := 14) hx hb hw inX1 tyX1 tyX1_ok nmX1 hown hK hP hD hS 0 rfl rfl 13 (by decide) (hw _ wb_281) (fun _ h9 => h9) rfl hin rfl (by decide +kernel) rfl rfl (Nat.le_of_ble_eq_true rfl) dX1_init_60 (fun H locs hP hD hS => ?_)
  have hP : va_P (dC, dI) cls2 [(h0, .inr (1, [.int 0, .int 0, .int 0, .int 0, .int 0, .ref q1, .ref q2, .int 0, .ref q3, .int 0, .ref q4, .ref q5, .ref q6, .ref q7])), (q1, .inl (y1, 9600, .inl (fun _ => 0))), (q2, .inl (y2, 600, .inl (fun _ => 0))), (q3, .inl (y3, 16, .inl (fun _ => 0))), (q4, .inl (y4, 40, .inl (fun _ => 0))), (q5, .inl (y5, 17, .inl (fun _ => 0))), (q6, .inl (y6, 1024, .inr (.inl (fun _ => 0)))), (q7, .inl (y7, 7, .inr (.inl (fun _ => 0))))] H := hP
  have hD : va_D A [(h0, .inr (1, [.int 0, .int 0, .int 0, .int 0, .int 0, .ref q1, .ref q2, .int 0, .ref q3, .int 0, .ref q4, .ref q5, .ref q6, .ref q7])), (q1, .inl (y1, 9600, .inl (fun _ => 0))), (q2, .inl (y2, 600, .inl (fun _ => 0))), (q3, .inl (y3, 16, .inl (fun _ => 0))), (q4, .inl (y4, 40, .inl (fun _ => 0))), (q5, .inl (y5, 17, .inl (fun _ => 0))), (q6, .inl (y6, 1024, .inr (.inl (fun _ => 0)))), (q7, .inl (y7, 7, .inr (.inl (fun _ => 0))))] := hD
  refine W.widen (k := 7) (n := 11304) (Nat.le_of_ble_eq_true rfl) (Nat.le_of_ble_eq_true rfl) ?_
  obtain ⟨am, ea0, ea1, ea2, ea3, ea4, ea5, ea6, ea7⟩ : ∃ am : Nat → Nat, am 0 = h0 ∧ am 1 = q1 ∧ am 2 = q2 ∧ am 3 = q3 ∧ am 4 = q4 ∧ am 5 = q5 ∧ am 6 = q6 ∧ am 7 = q7 := ⟨fun k => [h0, q1, q2, q3, q4, q5, q6, q7].getD k 0, rfl, rfl, rfl, rfl, rfl, rfl, rfl, rfl⟩
  obtain ⟨ym, eb1, eb2, eb3, eb4, eb5, eb6, eb7⟩ : ∃ ym : Nat → ClassId, ym 1 = y1 ∧ ym 2 = y2 ∧ ym 3 = y3 ∧ ym 4 = y4 ∧ ym 5 = y5 ∧ ym 6 = y6 ∧ ym 7 = y7 := ⟨fun k => [y1, y1, y2, y3, y4, y5, y6, y7].getD k y1, rfl, rfl, rfl, rfl, rfl, rfl, rfl⟩
  subst ea0
  subst ea1
  subst ea2
  subst ea3
  subst ea4
  subst ea5
  subst ea6
  subst ea7
  subst eb1
  subst eb2
  subst eb3
  subst eb4
  subst eb5
  subst eb6
  subst eb7
  have hK : va_K (dC, dI) cls2 (tysM ym) s := hK
  have hP : va_P (dC, dI) cls2 (MW am ym (0, 0, 0, 0, 0, 0, 0, (fun _ => 0), (fun _ => 0), (fun _ => 0), (fun _ => 0), (fun _ => 0), (fun _ => 0), (fun _ => 0))) H := hP
  have hD : va_D A (MW am ym (0, 0, 0, 0, 0, 0, 0, (fun _ => 0), (fun _ => 0), (fun _ => 0), (fun _ => 0), (fun _ => 0), (fun _ => 0), (fun _ => 0))) := hD
  have loop3 : ∀ (a i : Nat) (f : Nat → Int64) (H : Heap) (locs : List Loc), i + a = 1024 → mo_it 1024 0 (fun _ => 0) = mo_it a i f → va_P (dC, dI) cls2 (MW am ym (0, 0, 0, 0, 0, 0, 0, (fun _ => 0), (fun _ => 0), (fun _ => 0), (fun _ => 0), (fun _ => 0), f, lw_out 6 1 (fun _ => 0))) H → va_D A (MW am ym (0, 0, 0, 0, 0, 0, 0, (fun _ => 0), (fun _ => 0), (fun _ => 0), (fun _ => 0), (fun _ => 0), f, lw_out 6 1 (fun _ => 0))) → va_S A s.heap H locs → ∀ ls, lv_has ls 3 [(1, .int (nI i)), (0, .ref (am 0))] → W p l e (headSpec wsX1_init (rmN 1 7 11304)).room s m ([.ref (am 0)] : List Value).toArray below meth c H locs 7 11304 (MQ below (va_Qv (fun (u : (Nat → Nat) × (Nat → ClassId)) => u.1 0 = am 0) (fun u t => atM dC dI A u.1 u.2 (0, 0, 0, 0, 0, 0, 0, (fun _ => 0), (fun _ => 0), (fun _ => 0), (fun _ => 0), (fun _ => 0), mo_it 1024 0 (fun _ => 0), lw_out 6 1 (fun _ => 0)) t) A) ([.ref (am 0)] : List Value).toArray s 7 11304 A) (F0 m 112 ls []) := by
    intro a
    induction a with
    | zero =>
      intro i f H locs hk hq hP hD hS ls hl
      have e0 : i = 1024 := by omega
      subst e0
      refine lv_iload_n hx hb dX1_init_112 rfl (lv_at hl 0 rfl) ?_
      refine lv_sipush (v := 1024) hx hb dX1_init_113 (by decide) ?_
      refine lv_icmp_ge (tgt := 134) hx hb dX1_init_116 (by decide) (fun c1 => ?_) (fun c1 => ?_)
      · skip
        exact W.vret hx hb hrt (fun t ht hW => ⟨⟨(am, ym), rfl, rfl, by rw [ht, hq]; exact hP, va_K.moved hW.alike hK, by rw [hq]; exact hD⟩, hS.F ht⟩) hS.2.2 dX1_init_134
      · skip
        exact absurd (by decide) c1
    | succ a ih =>
      intro i f H locs hk hq hP hD hS ls hl
      have ci : (nI i).toNatClampNeg = i := nI_clamp (by omega)
      refine lv_iload_n hx hb dX1_init_112 rfl (lv_at hl 0 rfl) ?_
      refine lv_sipush (v := 1024) hx hb dX1_init_113 (by decide) ?_
      refine lv_icmp_ge (tgt := 134) hx hb dX1_init_116 (by decide) (fun c1 => ?_) (fun c1 => ?_)
      · skip
        exact absurd (show nI 1024 ≤ nI i from c1) (nI_ge (by omega) (by omega))
      · skip
        refine lv_aload_n hx hb dX1_init_119 rfl (lv_at hl 1 rfl) ?_
        refine va_get (D := (dC, dI)) (ci := 1) (v := .ref (am 6)) (C := RX1) (T := TX1) (N := 14) hx hb hw inX1 hown hK hP 0 rfl rfl 12 (by decide) (hw _ wb_280) (fun _ h9 => h9) rfl dX1_init_120 ?_
        refine lv_iload_n hx hb dX1_init_123 rfl (lv_at hl 0 rfl) ?_
        refine lv_ldc2 (v := (-1)) hx hb hown (hw _ wb_267) dX1_init_124 ?_
        refine va_last hx hb hK hP hD hS 6 5 rfl rfl (vp_in_nI (by omega) (by decide)) dX1_init_127 (fun H locs hP hD hS => ?_)
        have hP : va_P (dC, dI) cls2 (MW am ym (0, 0, 0, 0, 0, 0, 0, (fun _ => 0), (fun _ => 0), (fun _ => 0), (fun _ => 0), (fun _ => 0), vp_updL f (nI i).toNatClampNeg (-1), lw_out 6 1 (fun _ => 0))) H := hP
        have hD : va_D A (MW am ym (0, 0, 0, 0, 0, 0, 0, (fun _ => 0), (fun _ => 0), (fun _ => 0), (fun _ => 0), (fun _ => 0), vp_updL f (nI i).toNatClampNeg (-1), lw_out 6 1 (fun _ => 0))) := hD
        rw [ci] at hP hD
        refine lv_iinc (v := (nI i) + 1) (lv' := [(1, .int ((nI i) + 1)), (0, .ref (am 0))]) hx hb dX1_init_128 hl (k := 0) rfl rfl (by decide) rfl (fun ls hl => ?_)
        refine lv_goto (tgt := 112) hx hb dX1_init_131 (by decide) ?_
        rw [nI_1] at hl
        exact ih (i + 1) _ H _ (by omega) hq hP hD hS ls hl
  have loop2 : ∀ (v : Nat), 1 ≤ v → v < 7 → ∀ (a k : Nat) (f g : Nat → Int64) (H : Heap) (locs : List Loc), k + a = 64 → lw_in v 64 0 g = lw_in v a k f → (∀ (H : Heap) (locs : List Loc), va_P (dC, dI) cls2 (MW am ym (0, 0, 0, 0, 0, 0, 0, (fun _ => 0), (fun _ => 0), (fun _ => 0), (fun _ => 0), (fun _ => 0), (fun _ => 0), lw_in v 64 0 g)) H → va_D A (MW am ym (0, 0, 0, 0, 0, 0, 0, (fun _ => 0), (fun _ => 0), (fun _ => 0), (fun _ => 0), (fun _ => 0), (fun _ => 0), lw_in v 64 0 g)) → va_S A s.heap H locs → ∀ ls, lv_has ls 3 [(1, .int (nI v)), (0, .ref (am 0))] → W p l e (headSpec wsX1_init (rmN 1 7 11304)).room s m ([.ref (am 0)] : List Value).toArray below meth c H locs 7 11304 (MQ below (va_Qv (fun (u : (Nat → Nat) × (Nat → ClassId)) => u.1 0 = am 0) (fun u t => atM dC dI A u.1 u.2 (0, 0, 0, 0, 0, 0, 0, (fun _ => 0), (fun _ => 0), (fun _ => 0), (fun _ => 0), (fun _ => 0), mo_it 1024 0 (fun _ => 0), lw_out 6 1 (fun _ => 0)) t) A) ([.ref (am 0)] : List Value).toArray s 7 11304 A) (F0 m 104 ls [])) → va_P (dC, dI) cls2 (MW am ym (0, 0, 0, 0, 0, 0, 0, (fun _ => 0), (fun _ => 0), (fun _ => 0), (fun _ => 0), (fun _ => 0), (fun _ => 0), f)) H → va_D A (MW am ym (0, 0, 0, 0, 0, 0, 0, (fun _ => 0), (fun _ => 0), (fun _ => 0), (fun _ => 0), (fun _ => 0), (fun _ => 0), f)) → va_S A s.heap H locs → ∀ ls, lv_has ls 3 [(2, .int (nI k)), (1, .int (nI v)), (0, .ref (am 0))] → W p l e (headSpec wsX1_init (rmN 1 7 11304)).room s m ([.ref (am 0)] : List Value).toArray below meth c H locs 7 11304 (MQ below (va_Qv (fun (u : (Nat → Nat) × (Nat → ClassId)) => u.1 0 = am 0) (fun u t => atM dC dI A u.1 u.2 (0, 0, 0, 0, 0, 0, 0, (fun _ => 0), (fun _ => 0), (fun _ => 0), (fun _ => 0), (fun _ => 0), mo_it 1024 0 (fun _ => 0), lw_out 6 1 (fun _ => 0)) t) A) ([.ref (am 0)] : List Value).toArray s 7 11304 A) (F0 m 73 ls []) := by
    intro v hv1 hv7 a
    have cv : (nI v).toNatClampNeg = v := nI_clamp (by omega)
    have hiv : vp_in (nI v) 7 := vp_in_nI (by omega) (by decide)
    induction a with
    | zero =>
      intro k f g H locs hk hq h9 hP hD hS ls hl
      have e0 : k = 64 := by omega
      subst e0
      refine lv_iload_n hx hb dX1_init_73 rfl (lv_at hl 0 rfl) ?_
      refine lv_bipush (v := 64) hx hb dX1_init_74 (by decide) ?_
      refine lv_icmp_ge (tgt := 104) hx hb dX1_init_76 (by decide) (fun c1 => ?_) (fun c1 => ?_)
      · skip
        exact h9 H locs (by rw [hq]; exact hP) (by rw [hq]; exact hD) hS ls (lv_sub hl [1, 2] rfl)
      · skip
        exact absurd (by decide) c1
    | succ a ih =>
      intro k f g H locs hk hq h9 hP hD hS ls hl
      refine lv_iload_n hx hb dX1_init_73 rfl (lv_at hl 0 rfl) ?_
      refine lv_bipush (v := 64) hx hb dX1_init_74 (by decide) ?_
      refine lv_icmp_ge (tgt := 104) hx hb dX1_init_76 (by decide) (fun c1 => ?_) (fun c1 => ?_)
      · skip
        exact absurd (show nI 64 ≤ nI k from c1) (nI_ge (by omega) (by omega))
      · skip
        refine lv_aload_n hx hb dX1_init_79 rfl (lv_at hl 2 rfl) ?_
        refine va_get (D := (dC, dI)) (ci := 1) (v := .ref (am 7)) (C := RX1) (T := TX1) (N := 14) hx hb hw inX1 hown hK hP 0 rfl rfl 13 (by decide) (hw _ wb_281) (fun _ h9 => h9) rfl dX1_init_80 ?_
        refine lv_iload_n hx hb dX1_init_83 rfl (lv_at hl 1 rfl) ?_
        refine lv_dup2_11 hx hb dX1_init_84 rfl rfl ?_
        refine va_lald hx hb hK hP 7 6 rfl rfl hiv dX1_init_85 ?_
        rw [cv]
        refine lv_iload_n hx hb dX1_init_86 rfl (lv_at hl 0 rfl) ?_
        refine lv_iload_n hx hb dX1_init_87 rfl (lv_at hl 1 rfl) ?_
        refine lv_iconst (v := 1) hx hb dX1_init_88 (by decide) ?_
        refine lv_isub hx hb dX1_init_89 ?_
        refine lv_ishr hx hb dX1_init_90 ?_
        refine lv_iconst (v := 1) hx hb dX1_init_91 (by decide) ?_
        refine lv_iand hx hb dX1_init_92 ?_
        refine lv_i2l (v := (((nI k) >>> (((nI v) - 1) &&& 31)) &&& 1).toInt64) hx hb dX1_init_93 rfl ?_
        refine lv_iload_n hx hb dX1_init_94 rfl (lv_at hl 0 rfl) ?_
        refine lv_lshl (v := ((((nI k) >>> (((nI v) - 1) &&& 31)) &&& 1).toInt64) <<< ((nI k).toInt64 &&& 63)) hx hb dX1_init_95 rfl ?_
        refine lv_lor hx hb dX1_init_96 ?_
        refine va_last hx hb hK hP hD hS 7 6 rfl rfl hiv dX1_init_97 (fun H locs hP hD hS => ?_)
        have hP : va_P (dC, dI) cls2 (MW am ym (0, 0, 0, 0, 0, 0, 0, (fun _ => 0), (fun _ => 0), (fun _ => 0), (fun _ => 0), (fun _ => 0), (fun _ => 0), vp_updL f (nI v).toNatClampNeg ((f v) ||| (((((nI k) >>> (((nI v) - 1) &&& 31)) &&& 1).toInt64) <<< ((nI k).toInt64 &&& 63))))) H := hP
        have hD : va_D A (MW am ym (0, 0, 0, 0, 0, 0, 0, (fun _ => 0), (fun _ => 0), (fun _ => 0), (fun _ => 0), (fun _ => 0), (fun _ => 0), vp_updL f (nI v).toNatClampNeg ((f v) ||| (((((nI k) >>> (((nI v) - 1) &&& 31)) &&& 1).toInt64) <<< ((nI k).toInt64 &&& 63))))) := hD
        rw [cv] at hP hD
        refine lv_iinc (v := (nI k) + 1) (lv' := [(2, .int ((nI k) + 1)), (1, .int (nI v)), (0, .ref (am 0))]) hx hb dX1_init_98 hl (k := 0) rfl rfl (by decide) rfl (fun ls hl => ?_)
        refine lv_goto (tgt := 73) hx hb dX1_init_101 (by decide) ?_
        rw [nI_1] at hl
        exact ih (k + 1) _ g H _ (by omega) hq h9 hP hD hS ls (lv_sub hl [0, 1, 2] rfl)
  have loop1 : ∀ (a v : Nat) (f : Nat → Int64) (H : Heap) (locs : List Loc), v + a = 7 → 1 ≤ v → lw_out 6 1 (fun _ => 0) = lw_out a v f → va_P (dC, dI) cls2 (MW am ym (0, 0, 0, 0, 0, 0, 0, (fun _ => 0), (fun _ => 0), (fun _ => 0), (fun _ => 0), (fun _ => 0), (fun _ => 0), f)) H → va_D A (MW am ym (0, 0, 0, 0, 0, 0, 0, (fun _ => 0), (fun _ => 0), (fun _ => 0), (fun _ => 0), (fun _ => 0), (fun _ => 0), f)) → va_S A s.heap H locs → ∀ ls, lv_has ls 3 [(1, .int (nI v)), (0, .ref (am 0))] → W p l e (headSpec wsX1_init (rmN 1 7 11304)).room s m ([.ref (am 0)] : List Value).toArray below meth c H locs 7 11304 (MQ below (va_Qv (fun (u : (Nat → Nat) × (Nat → ClassId)) => u.1 0 = am 0) (fun u t => atM dC dI A u.1 u.2 (0, 0, 0, 0, 0, 0, 0, (fun _ => 0), (fun _ => 0), (fun _ => 0), (fun _ => 0), (fun _ => 0), mo_it 1024 0 (fun _ => 0), lw_out 6 1 (fun _ => 0)) t) A) ([.ref (am 0)] : List Value).toArray s 7 11304 A) (F0 m 65 ls []) := by
    intro a
    induction a with
    | zero =>
      intro v f H locs hk hv1 hq hP hD hS ls hl
      have e0 : v = 7 := by omega
      subst e0
      refine lv_iload_n hx hb dX1_init_65 rfl (lv_at hl 0 rfl) ?_
      refine lv_bipush (v := 7) hx hb dX1_init_66 (by decide) ?_
      refine lv_icmp_ge (tgt := 110) hx hb dX1_init_68 (by decide) (fun c1 => ?_) (fun c1 => ?_)
      · skip
        refine lv_iconst (v := 0) hx hb dX1_init_110 (by decide) ?_
        refine lv_istore_n (lv' := [(1, .int 0), (0, .ref (am 0))]) hx hb dX1_init_111 rfl hl (by decide) rfl (fun ls hl => ?_)
        exact loop3 1024 0 _ H _ rfl rfl (by rw [hq]; exact hP) (by rw [hq]; exact hD) hS ls hl
      · skip
        exact absurd (by decide) c1
    | succ a ih =>
      intro v f H locs hk hv1 hq hP hD hS ls hl
      refine lv_iload_n hx hb dX1_init_65 rfl (lv_at hl 0 rfl) ?_
      refine lv_bipush (v := 7) hx hb dX1_init_66 (by decide) ?_
      refine lv_icmp_ge (tgt := 110) hx hb dX1_init_68 (by decide) (fun c1 => ?_) (fun c1 => ?_)
      · skip
        exact absurd (show nI 7 ≤ nI v from c1) (nI_ge (by omega) (by omega))
      · skip
        refine lv_iconst (v := 0) hx hb dX1_init_71 (by decide) ?_
        refine lv_istore_n (lv' := [(2, .int 0), (1, .int (nI v)), (0, .ref (am 0))]) hx hb dX1_init_72 rfl hl (by decide) rfl (fun ls hl => ?_)
        refine loop2 v hv1 (by omega) 64 0 f f H locs rfl rfl ?_ hP hD hS ls hl
        intro H locs hP hD hS ls hl
        refine lv_iinc (v := (nI v) + 1) (lv' := [(1, .int ((nI v) + 1)), (0, .ref (am 0))]) hx hb dX1_init_104 hl (k := 0) rfl rfl (by decide) rfl (fun ls hl => ?_)
        refine lv_goto (tgt := 65) hx hb dX1_init_107 (by decide) ?_
        rw [nI_1] at hl
        exact ih (v + 1) _ H _ (by omega) (by omega) hq hP hD hS ls hl
  refine lv_iconst (v := 1) hx hb dX1_init_63 (by decide) ?_
  refine lv_istore_n (lv' := [(1, .int 1), (0, .ref (am 0))]) hx hb dX1_init_64 rfl hl (by decide) rfl (fun ls hl => ?_)
  exact loop1 6 1 _ H _ rfl (Nat.le_refl _) rfl hP hD hS ls hl
