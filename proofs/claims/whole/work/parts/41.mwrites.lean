/-! THE REFERENCE: writing methods (rows written by wip/whole/mk_model.py) -/
abbrev ZS : Type := (Nat → Nat) × (Nat → Nat → Nat) × (Nat → Nat → Int32)
set_option maxHeartbeats 4000000 in
set_option maxRecDepth 100000 in
theorem c_Model_throwing_00 (l : Launch) (dC : Nat → ClassId) (dI : Nat → Nat → Nat) (b : Nat → Nat) (cI : ClassId) (v : Nat → Nat) (f : Nat → Nat → Nat) (w : Nat → Nat → Int32) (sz : Nat)  : Met l y_Model_throwing (zw_Model_throwing :: zW) ({ frames := 0, cells := 0, slots := 0, locals := 0 }) (va_Pc [.ref (b 0), .int (nI (0)), .int (nI (0))] (fun U => U.heap.size = sz ∧ va_P (dC, dI) vwCl (wM b cI v f w) U.heap ∧ va_K (dC, dI) vwCl [(cI, .int)] U ∧ va_D (fun _ => True) (wM b cI v f w))) (va_Qi (fun (r : Int32) (u : Unit) => r = nI 0) (fun (_ : Unit) t => va_P (dC, dI) vwCl (wM b cI (zu v 0 (0)) f w) t.heap ∧ va_K (dC, dI) vwCl [(cI, .int)] t ∧ va_D (va_A (wM b cI v f w) sz) (wM b cI (zu v 0 (0)) f w)) (va_A (wM b cI v f w) sz)) 0 0 (va_A (wM b cI v f w) sz) := by
  refine Met.ofW (cc := prog_7_method_3_code) (maxL := 3) (ret := (some .boolean)) (by decide) rfl ?_
  intro p e s m args below meth c s₁ B hml hv
  obtain ⟨rfl, hsz, hP, hK, hD0⟩ := hv
  have hx := B.exec
  have hb := B.bytes
  have hr := B.returns
  have hz : ∀ w ∈ zW, w.before ([.ref (b 0), .int (nI (0)), .int (nI (0))]).toArray s = true := fun w h => atoms_spec (ws := (zw_Model_throwing :: zW)) B.pre w (List.mem_cons_of_mem _ h)
  have hown : s.vm.findClass "CutLengthsModel" = some m.cls := findClass_of_methodNamed B.named
  have hlocks := B.notSynchronized
  subst hsz
  have hD := hD0.self (sz := s.heap.size)
  generalize hAe : va_A (wM b cI v f w) s.heap.size = A at hD ⊢
  have hA : ∀ q : Nat, s.heap.size ≤ q → A q := fun q h => by rw [← hAe]; exact Or.inr h
  have hS : va_S A s.heap s.heap [] := va_S.rf
  have hP : va_P (dC, dI) vwCl (wM b cI v f w) s.heap := hP
  have hl := lv_entry ([.ref (b 0), .int (nI (0)), .int (nI (0))]) (n := 3) (Nat.le_of_ble_eq_true rfl)
  rw [lg_entry_eq]
  generalize (lg_sl ([.ref (b 0), .int (nI (0)), .int (nI (0))]) ++ List.replicate (3 - (lg_sl ([.ref (b 0), .int (nI (0)), .int (nI (0))])).length) Slot.unset).toArray = ls at hl ⊢
  have hl : lv_has ls 3 [(0, .ref (b 0)), (1, .int (nI (0))), (2, .int (nI (0)))] := hl
  refine lv_aload_n hx hb d_Model_throwing_0 rfl (lv_at hl 0 rfl) ?_
  refine lv_iload_n hx hb d_Model_throwing_1 rfl (lv_at hl 1 rfl) ?_
  refine lv_if_eq (tgt := 9) hx hb d_Model_throwing_2 (by decide) (fun _ => ?_) (fun c9 => absurd c9 (by decide))
  refine lv_iload_n hx hb d_Model_throwing_9 rfl (lv_at hl 2 rfl) ?_
  refine lv_if_eq (tgt := 17) hx hb d_Model_throwing_10 (by decide) (fun _ => ?_) (fun c9 => absurd c9 (by decide))
  refine lv_iconst (v := nI (0)) hx hb d_Model_throwing_17 (by decide) ?_
  refine va_put (D := (dC, dI)) (ci := 5) (v := .int (nI (0))) (ty := .int) (C := "CutLengthsModel") (T := T_Model) (N := 24) hx hb hz i_Model t_Model t_Model_ok n_Model hown hK hP hD hS 0 rfl rfl 0 (by decide) (hz _ tw_481) (fun _ h9 => h9) rfl (by decide +kernel) rfl rfl (Nat.le_of_ble_eq_true rfl) d_Model_throwing_18 (fun H locs hP hD hS => ?_)
  have hP : va_P (dC, dI) vwCl (wM b cI (zu v 0 (0)) f w) H := hP
  have hD : va_D A (wM b cI (zu v 0 (0)) f w) := hD
  refine lv_aload_n hx hb d_Model_throwing_21 rfl (lv_at hl 0 rfl) ?_
  refine va_get (D := (dC, dI)) (ci := 5) (v := .int (nI (0))) (C := "CutLengthsModel") (T := T_Model) (N := 24) hx hb hz i_Model hown hK hP 0 rfl rfl 0 (by decide) (hz _ tw_481) (fun _ h9 => h9) rfl d_Model_throwing_22 ?_
  refine lv_if_le (tgt := 32) hx hb d_Model_throwing_25 (by decide) (fun _ => ?_) (fun c9 => absurd c9 (by decide))
  refine lv_iconst (v := nI (0)) hx hb d_Model_throwing_32 (by decide) ?_
  exact W.zret (v := nI (0)) hx hb hr rfl (fun t9 ht hW => ⟨⟨nI (0), (), rfl, rfl, by rw [ht]; exact hP, va_K.moved hW.alike hK, hD⟩, hS.F ht⟩) hS.2.2 d_Model_throwing_33
set_option maxHeartbeats 4000000 in
set_option maxRecDepth 100000 in
theorem c_Model_throwing_01 (l : Launch) (dC : Nat → ClassId) (dI : Nat → Nat → Nat) (b : Nat → Nat) (cI : ClassId) (v : Nat → Nat) (f : Nat → Nat → Nat) (w : Nat → Nat → Int32) (sz : Nat)  : Met l y_Model_throwing (zw_Model_throwing :: zW) ({ frames := 0, cells := 0, slots := 0, locals := 0 }) (va_Pc [.ref (b 0), .int (nI (0)), .int (nI (1))] (fun U => U.heap.size = sz ∧ va_P (dC, dI) vwCl (wM b cI v f w) U.heap ∧ va_K (dC, dI) vwCl [(cI, .int)] U ∧ va_D (fun _ => True) (wM b cI v f w))) (va_Qi (fun (r : Int32) (u : Unit) => r = nI 1) (fun (_ : Unit) t => va_P (dC, dI) vwCl (wM b cI (zu v 0 (2)) f w) t.heap ∧ va_K (dC, dI) vwCl [(cI, .int)] t ∧ va_D (va_A (wM b cI v f w) sz) (wM b cI (zu v 0 (2)) f w)) (va_A (wM b cI v f w) sz)) 0 0 (va_A (wM b cI v f w) sz) := by
  refine Met.ofW (cc := prog_7_method_3_code) (maxL := 3) (ret := (some .boolean)) (by decide) rfl ?_
  intro p e s m args below meth c s₁ B hml hv
  obtain ⟨rfl, hsz, hP, hK, hD0⟩ := hv
  have hx := B.exec
  have hb := B.bytes
  have hr := B.returns
  have hz : ∀ w ∈ zW, w.before ([.ref (b 0), .int (nI (0)), .int (nI (1))]).toArray s = true := fun w h => atoms_spec (ws := (zw_Model_throwing :: zW)) B.pre w (List.mem_cons_of_mem _ h)
  have hown : s.vm.findClass "CutLengthsModel" = some m.cls := findClass_of_methodNamed B.named
  have hlocks := B.notSynchronized
  subst hsz
  have hD := hD0.self (sz := s.heap.size)
  generalize hAe : va_A (wM b cI v f w) s.heap.size = A at hD ⊢
  have hA : ∀ q : Nat, s.heap.size ≤ q → A q := fun q h => by rw [← hAe]; exact Or.inr h
  have hS : va_S A s.heap s.heap [] := va_S.rf
  have hP : va_P (dC, dI) vwCl (wM b cI v f w) s.heap := hP
  have hl := lv_entry ([.ref (b 0), .int (nI (0)), .int (nI (1))]) (n := 3) (Nat.le_of_ble_eq_true rfl)
  rw [lg_entry_eq]
  generalize (lg_sl ([.ref (b 0), .int (nI (0)), .int (nI (1))]) ++ List.replicate (3 - (lg_sl ([.ref (b 0), .int (nI (0)), .int (nI (1))])).length) Slot.unset).toArray = ls at hl ⊢
  have hl : lv_has ls 3 [(0, .ref (b 0)), (1, .int (nI (0))), (2, .int (nI (1)))] := hl
  refine lv_aload_n hx hb d_Model_throwing_0 rfl (lv_at hl 0 rfl) ?_
  refine lv_iload_n hx hb d_Model_throwing_1 rfl (lv_at hl 1 rfl) ?_
  refine lv_if_eq (tgt := 9) hx hb d_Model_throwing_2 (by decide) (fun _ => ?_) (fun c9 => absurd c9 (by decide))
  refine lv_iload_n hx hb d_Model_throwing_9 rfl (lv_at hl 2 rfl) ?_
  refine lv_if_eq (tgt := 17) hx hb d_Model_throwing_10 (by decide) (fun c9 => absurd c9 (by decide)) (fun _ => ?_)
  refine lv_iconst (v := nI (2)) hx hb d_Model_throwing_13 (by decide) ?_
  refine lv_goto (tgt := 18) hx hb d_Model_throwing_14 (by decide) ?_
  refine va_put (D := (dC, dI)) (ci := 5) (v := .int (nI (2))) (ty := .int) (C := "CutLengthsModel") (T := T_Model) (N := 24) hx hb hz i_Model t_Model t_Model_ok n_Model hown hK hP hD hS 0 rfl rfl 0 (by decide) (hz _ tw_481) (fun _ h9 => h9) rfl (by decide +kernel) rfl rfl (Nat.le_of_ble_eq_true rfl) d_Model_throwing_18 (fun H locs hP hD hS => ?_)
  have hP : va_P (dC, dI) vwCl (wM b cI (zu v 0 (2)) f w) H := hP
  have hD : va_D A (wM b cI (zu v 0 (2)) f w) := hD
  refine lv_aload_n hx hb d_Model_throwing_21 rfl (lv_at hl 0 rfl) ?_
  refine va_get (D := (dC, dI)) (ci := 5) (v := .int (nI (2))) (C := "CutLengthsModel") (T := T_Model) (N := 24) hx hb hz i_Model hown hK hP 0 rfl rfl 0 (by decide) (hz _ tw_481) (fun _ h9 => h9) rfl d_Model_throwing_22 ?_
  refine lv_if_le (tgt := 32) hx hb d_Model_throwing_25 (by decide) (fun c9 => absurd c9 (by decide)) (fun _ => ?_)
  refine lv_iconst (v := nI (1)) hx hb d_Model_throwing_28 (by decide) ?_
  refine lv_goto (tgt := 33) hx hb d_Model_throwing_29 (by decide) ?_
  exact W.zret (v := nI (1)) hx hb hr rfl (fun t9 ht hW => ⟨⟨nI (1), (), rfl, rfl, by rw [ht]; exact hP, va_K.moved hW.alike hK, hD⟩, hS.F ht⟩) hS.2.2 d_Model_throwing_33
set_option maxHeartbeats 4000000 in
set_option maxRecDepth 100000 in
theorem c_Model_throwing_10 (l : Launch) (dC : Nat → ClassId) (dI : Nat → Nat → Nat) (b : Nat → Nat) (cI : ClassId) (v : Nat → Nat) (f : Nat → Nat → Nat) (w : Nat → Nat → Int32) (sz : Nat)  : Met l y_Model_throwing (zw_Model_throwing :: zW) ({ frames := 0, cells := 0, slots := 0, locals := 0 }) (va_Pc [.ref (b 0), .int (nI (1)), .int (nI (0))] (fun U => U.heap.size = sz ∧ va_P (dC, dI) vwCl (wM b cI v f w) U.heap ∧ va_K (dC, dI) vwCl [(cI, .int)] U ∧ va_D (fun _ => True) (wM b cI v f w))) (va_Qi (fun (r : Int32) (u : Unit) => r = nI 1) (fun (_ : Unit) t => va_P (dC, dI) vwCl (wM b cI (zu v 0 (1)) f w) t.heap ∧ va_K (dC, dI) vwCl [(cI, .int)] t ∧ va_D (va_A (wM b cI v f w) sz) (wM b cI (zu v 0 (1)) f w)) (va_A (wM b cI v f w) sz)) 0 0 (va_A (wM b cI v f w) sz) := by
  refine Met.ofW (cc := prog_7_method_3_code) (maxL := 3) (ret := (some .boolean)) (by decide) rfl ?_
  intro p e s m args below meth c s₁ B hml hv
  obtain ⟨rfl, hsz, hP, hK, hD0⟩ := hv
  have hx := B.exec
  have hb := B.bytes
  have hr := B.returns
  have hz : ∀ w ∈ zW, w.before ([.ref (b 0), .int (nI (1)), .int (nI (0))]).toArray s = true := fun w h => atoms_spec (ws := (zw_Model_throwing :: zW)) B.pre w (List.mem_cons_of_mem _ h)
  have hown : s.vm.findClass "CutLengthsModel" = some m.cls := findClass_of_methodNamed B.named
  have hlocks := B.notSynchronized
  subst hsz
  have hD := hD0.self (sz := s.heap.size)
  generalize hAe : va_A (wM b cI v f w) s.heap.size = A at hD ⊢
  have hA : ∀ q : Nat, s.heap.size ≤ q → A q := fun q h => by rw [← hAe]; exact Or.inr h
  have hS : va_S A s.heap s.heap [] := va_S.rf
  have hP : va_P (dC, dI) vwCl (wM b cI v f w) s.heap := hP
  have hl := lv_entry ([.ref (b 0), .int (nI (1)), .int (nI (0))]) (n := 3) (Nat.le_of_ble_eq_true rfl)
  rw [lg_entry_eq]
  generalize (lg_sl ([.ref (b 0), .int (nI (1)), .int (nI (0))]) ++ List.replicate (3 - (lg_sl ([.ref (b 0), .int (nI (1)), .int (nI (0))])).length) Slot.unset).toArray = ls at hl ⊢
  have hl : lv_has ls 3 [(0, .ref (b 0)), (1, .int (nI (1))), (2, .int (nI (0)))] := hl
  refine lv_aload_n hx hb d_Model_throwing_0 rfl (lv_at hl 0 rfl) ?_
  refine lv_iload_n hx hb d_Model_throwing_1 rfl (lv_at hl 1 rfl) ?_
  refine lv_if_eq (tgt := 9) hx hb d_Model_throwing_2 (by decide) (fun c9 => absurd c9 (by decide)) (fun _ => ?_)
  refine lv_iconst (v := nI (1)) hx hb d_Model_throwing_5 (by decide) ?_
  refine lv_goto (tgt := 18) hx hb d_Model_throwing_6 (by decide) ?_
  refine va_put (D := (dC, dI)) (ci := 5) (v := .int (nI (1))) (ty := .int) (C := "CutLengthsModel") (T := T_Model) (N := 24) hx hb hz i_Model t_Model t_Model_ok n_Model hown hK hP hD hS 0 rfl rfl 0 (by decide) (hz _ tw_481) (fun _ h9 => h9) rfl (by decide +kernel) rfl rfl (Nat.le_of_ble_eq_true rfl) d_Model_throwing_18 (fun H locs hP hD hS => ?_)
  have hP : va_P (dC, dI) vwCl (wM b cI (zu v 0 (1)) f w) H := hP
  have hD : va_D A (wM b cI (zu v 0 (1)) f w) := hD
  refine lv_aload_n hx hb d_Model_throwing_21 rfl (lv_at hl 0 rfl) ?_
  refine va_get (D := (dC, dI)) (ci := 5) (v := .int (nI (1))) (C := "CutLengthsModel") (T := T_Model) (N := 24) hx hb hz i_Model hown hK hP 0 rfl rfl 0 (by decide) (hz _ tw_481) (fun _ h9 => h9) rfl d_Model_throwing_22 ?_
  refine lv_if_le (tgt := 32) hx hb d_Model_throwing_25 (by decide) (fun c9 => absurd c9 (by decide)) (fun _ => ?_)
  refine lv_iconst (v := nI (1)) hx hb d_Model_throwing_28 (by decide) ?_
  refine lv_goto (tgt := 33) hx hb d_Model_throwing_29 (by decide) ?_
  exact W.zret (v := nI (1)) hx hb hr rfl (fun t9 ht hW => ⟨⟨nI (1), (), rfl, rfl, by rw [ht]; exact hP, va_K.moved hW.alike hK, hD⟩, hS.F ht⟩) hS.2.2 d_Model_throwing_33
set_option maxHeartbeats 4000000 in
set_option maxRecDepth 100000 in
theorem c_Model_throwing_11 (l : Launch) (dC : Nat → ClassId) (dI : Nat → Nat → Nat) (b : Nat → Nat) (cI : ClassId) (v : Nat → Nat) (f : Nat → Nat → Nat) (w : Nat → Nat → Int32) (sz : Nat)  : Met l y_Model_throwing (zw_Model_throwing :: zW) ({ frames := 0, cells := 0, slots := 0, locals := 0 }) (va_Pc [.ref (b 0), .int (nI (1)), .int (nI (1))] (fun U => U.heap.size = sz ∧ va_P (dC, dI) vwCl (wM b cI v f w) U.heap ∧ va_K (dC, dI) vwCl [(cI, .int)] U ∧ va_D (fun _ => True) (wM b cI v f w))) (va_Qi (fun (r : Int32) (u : Unit) => r = nI 1) (fun (_ : Unit) t => va_P (dC, dI) vwCl (wM b cI (zu v 0 (1)) f w) t.heap ∧ va_K (dC, dI) vwCl [(cI, .int)] t ∧ va_D (va_A (wM b cI v f w) sz) (wM b cI (zu v 0 (1)) f w)) (va_A (wM b cI v f w) sz)) 0 0 (va_A (wM b cI v f w) sz) := by
  refine Met.ofW (cc := prog_7_method_3_code) (maxL := 3) (ret := (some .boolean)) (by decide) rfl ?_
  intro p e s m args below meth c s₁ B hml hv
  obtain ⟨rfl, hsz, hP, hK, hD0⟩ := hv
  have hx := B.exec
  have hb := B.bytes
  have hr := B.returns
  have hz : ∀ w ∈ zW, w.before ([.ref (b 0), .int (nI (1)), .int (nI (1))]).toArray s = true := fun w h => atoms_spec (ws := (zw_Model_throwing :: zW)) B.pre w (List.mem_cons_of_mem _ h)
  have hown : s.vm.findClass "CutLengthsModel" = some m.cls := findClass_of_methodNamed B.named
  have hlocks := B.notSynchronized
  subst hsz
  have hD := hD0.self (sz := s.heap.size)
  generalize hAe : va_A (wM b cI v f w) s.heap.size = A at hD ⊢
  have hA : ∀ q : Nat, s.heap.size ≤ q → A q := fun q h => by rw [← hAe]; exact Or.inr h
  have hS : va_S A s.heap s.heap [] := va_S.rf
  have hP : va_P (dC, dI) vwCl (wM b cI v f w) s.heap := hP
  have hl := lv_entry ([.ref (b 0), .int (nI (1)), .int (nI (1))]) (n := 3) (Nat.le_of_ble_eq_true rfl)
  rw [lg_entry_eq]
  generalize (lg_sl ([.ref (b 0), .int (nI (1)), .int (nI (1))]) ++ List.replicate (3 - (lg_sl ([.ref (b 0), .int (nI (1)), .int (nI (1))])).length) Slot.unset).toArray = ls at hl ⊢
  have hl : lv_has ls 3 [(0, .ref (b 0)), (1, .int (nI (1))), (2, .int (nI (1)))] := hl
  refine lv_aload_n hx hb d_Model_throwing_0 rfl (lv_at hl 0 rfl) ?_
  refine lv_iload_n hx hb d_Model_throwing_1 rfl (lv_at hl 1 rfl) ?_
  refine lv_if_eq (tgt := 9) hx hb d_Model_throwing_2 (by decide) (fun c9 => absurd c9 (by decide)) (fun _ => ?_)
  refine lv_iconst (v := nI (1)) hx hb d_Model_throwing_5 (by decide) ?_
  refine lv_goto (tgt := 18) hx hb d_Model_throwing_6 (by decide) ?_
  refine va_put (D := (dC, dI)) (ci := 5) (v := .int (nI (1))) (ty := .int) (C := "CutLengthsModel") (T := T_Model) (N := 24) hx hb hz i_Model t_Model t_Model_ok n_Model hown hK hP hD hS 0 rfl rfl 0 (by decide) (hz _ tw_481) (fun _ h9 => h9) rfl (by decide +kernel) rfl rfl (Nat.le_of_ble_eq_true rfl) d_Model_throwing_18 (fun H locs hP hD hS => ?_)
  have hP : va_P (dC, dI) vwCl (wM b cI (zu v 0 (1)) f w) H := hP
  have hD : va_D A (wM b cI (zu v 0 (1)) f w) := hD
  refine lv_aload_n hx hb d_Model_throwing_21 rfl (lv_at hl 0 rfl) ?_
  refine va_get (D := (dC, dI)) (ci := 5) (v := .int (nI (1))) (C := "CutLengthsModel") (T := T_Model) (N := 24) hx hb hz i_Model hown hK hP 0 rfl rfl 0 (by decide) (hz _ tw_481) (fun _ h9 => h9) rfl d_Model_throwing_22 ?_
  refine lv_if_le (tgt := 32) hx hb d_Model_throwing_25 (by decide) (fun c9 => absurd c9 (by decide)) (fun _ => ?_)
  refine lv_iconst (v := nI (1)) hx hb d_Model_throwing_28 (by decide) ?_
  refine lv_goto (tgt := 33) hx hb d_Model_throwing_29 (by decide) ?_
  exact W.zret (v := nI (1)) hx hb hr rfl (fun t9 ht hW => ⟨⟨nI (1), (), rfl, rfl, by rw [ht]; exact hP, va_K.moved hW.alike hK, hD⟩, hS.F ht⟩) hS.2.2 d_Model_throwing_33
set_option maxHeartbeats 4000000 in
set_option maxRecDepth 100000 in
theorem c_Model_step (l : Launch) (dC : Nat → ClassId) (dI : Nat → Nat → Nat) (b : Nat → Nat) (cI : ClassId) (v : Nat → Nat) (f : Nat → Nat → Nat) (w : Nat → Nat → Int32) (sz : Nat) (p0 : Int32) (z0 : Int) (h0 : p0.toInt = z0) (p1 : Int32) (z1 : Int) (h1 : p1.toInt = z1) (hJ : zJ v f) : Met l y_Model_step (zw_Model_step :: zW) ({ frames := 1, cells := 0, slots := 0, locals := 22 }) (va_Pc [.ref (b 0), .int (p0), .int (p1)] (fun U => U.heap.size = sz ∧ va_P (dC, dI) vwCl (wM b cI v f w) U.heap ∧ va_K (dC, dI) vwCl [(cI, .int)] U ∧ va_D (fun _ => True) (wM b cI v f w))) (va_Qv (fun (u : ZS) => (k_step (v 10) z0 z1 = 0 ∧ u = ((zu (zu (zu v 0 (0)) 1 (z0.toNat)) 2 (z1.toNat)), f, w)) ∨ (∃ c9, c9 ≠ 0 ∧ k_step (v 10) z0 z1 = c9 ∧ u = (zu v 0 c9, f, w))) (fun (u : ZS) t => match u with | (v9, f9, w9) => va_P (dC, dI) vwCl (wM b cI v9 f9 w9) t.heap ∧ va_K (dC, dI) vwCl [(cI, .int)] t ∧ va_D (va_A (wM b cI v f w) sz) (wM b cI v9 f9 w9)) (va_A (wM b cI v f w) sz)) 0 0 (va_A (wM b cI v f w) sz) := by
  refine Met.ofW (cc := prog_7_method_5_code) (maxL := 3) (ret := none) (by decide) rfl ?_
  intro p e s m args below meth c s₁ B hml hv
  obtain ⟨rfl, hsz, hP, hK, hD0⟩ := hv
  have hx := B.exec
  have hb := B.bytes
  have hr := B.returns
  have hz : ∀ w ∈ zW, w.before ([.ref (b 0), .int (p0), .int (p1)]).toArray s = true := fun w h => atoms_spec (ws := (zw_Model_step :: zW)) B.pre w (List.mem_cons_of_mem _ h)
  have hown : s.vm.findClass "CutLengthsModel" = some m.cls := findClass_of_methodNamed B.named
  have hlocks := B.notSynchronized
  subst hsz
  have hD := hD0.self (sz := s.heap.size)
  generalize hAe : va_A (wM b cI v f w) s.heap.size = A at hD ⊢
  have hA : ∀ q : Nat, s.heap.size ≤ q → A q := fun q h => by rw [← hAe]; exact Or.inr h
  have hS : va_S A s.heap s.heap [] := va_S.rf
  have hP : va_P (dC, dI) vwCl (wM b cI v f w) s.heap := hP
  obtain ⟨j3, j4, j5, j6, j7, j8, j9, j10, j1, j2, jw, jb, jr, jsl⟩ := id hJ
  have hl := lv_entry ([.ref (b 0), .int (p0), .int (p1)]) (n := 3) (Nat.le_of_ble_eq_true rfl)
  rw [lg_entry_eq]
  generalize (lg_sl ([.ref (b 0), .int (p0), .int (p1)]) ++ List.replicate (3 - (lg_sl ([.ref (b 0), .int (p0), .int (p1)])).length) Slot.unset).toArray = ls at hl ⊢
  have hl : lv_has ls 3 [(0, .ref (b 0)), (1, .int (p0)), (2, .int (p1))] := hl
  refine lv_aload_n hx hb d_Model_step_0 rfl (lv_at hl 0 rfl) ?_
  refine lv_aload_n hx hb d_Model_step_1 rfl (lv_at hl 0 rfl) ?_
  refine va_get (D := (dC, dI)) (ci := 5) (v := .int (nI (v 10))) (C := "CutLengthsModel") (T := T_Model) (N := 24) hx hb hz i_Model hown hK hP 0 rfl rfl 16 (by decide) (hz _ tw_497) (fun _ h9 => h9) rfl d_Model_step_2 ?_
  refine lv_if_le (tgt := 12) hx hb d_Model_step_5 (by decide) (fun c_5 => ?_) (fun c_5 => ?_)
  · have c_5 : ((v 10 : Nat) : Int) ≤ (0 : Int) := (zz_le (nI_toInt (by omega)) ((by decide))).mp c_5
    refine lv_iconst (v := nI (0)) hx hb d_Model_step_12 (by decide) ?_
    refine lv_iload_n hx hb d_Model_step_13 rfl (lv_at hl 1 rfl) ?_
    refine lv_iconst (v := nI (1)) hx hb d_Model_step_14 (by decide) ?_
    refine lv_ldc (v := nI (65536)) hx hb hown (hz _ tw_562) d_Model_step_15 ?_
    refine zz_ro (va_runS (As := [.int (p0), .int (nI (1)), .int (nI (65536))]) (rest := [.int (nI (0)), .ref (b 0)]) ⟨hx, hb, hml, hown, hz⟩ (c_Model_in l (p0) (nI (1)) (nI (65536)) (z0) ((1 : Int)) ((65536 : Int)) (h0) ((by decide)) ((by decide))) (va_cwS 3 hz (zgS tw_563 tw_564 tw_20 tw_565) rfl rfl rfl (by decide +kernel) ⟨Nat.le_of_ble_eq_true rfl, Nat.le_of_ble_eq_true rfl⟩) ⟨fun _ _ _ _ q => q, fun U hU hW => ⟨rfl, trivial⟩⟩ rfl rfl hl.1 rfl (lv_room (Nat.le_of_ble_eq_true rfl)) d_Model_step_17 ⟨Nat.zero_le _, Nat.zero_le _⟩) ?_
    by_cases q_17 : ((1 : Int)) ≤ (z0) ∧ (z0) ≤ ((65536 : Int))
    · refine zz_top (congrArg nI (if_pos q_17)) ?_
      refine lv_if_eq (tgt := 33) hx hb d_Model_step_20 (by decide) (fun c9 => absurd c9 (by decide)) (fun _ => ?_)
      refine lv_iload_n hx hb d_Model_step_23 rfl (lv_at hl 2 rfl) ?_
      refine lv_iconst (v := nI (1)) hx hb d_Model_step_24 (by decide) ?_
      refine lv_ldc (v := nI (100000)) hx hb hown (hz _ tw_566) d_Model_step_25 ?_
      refine zz_ro (va_runS (As := [.int (p1), .int (nI (1)), .int (nI (100000))]) (rest := [.int (nI (0)), .ref (b 0)]) ⟨hx, hb, hml, hown, hz⟩ (c_Model_in l (p1) (nI (1)) (nI (100000)) (z1) ((1 : Int)) ((100000 : Int)) (h1) ((by decide)) ((by decide))) (va_cwS 3 hz (zgS tw_563 tw_564 tw_20 tw_565) rfl rfl rfl (by decide +kernel) ⟨Nat.le_of_ble_eq_true rfl, Nat.le_of_ble_eq_true rfl⟩) ⟨fun _ _ _ _ q => q, fun U hU hW => ⟨rfl, trivial⟩⟩ rfl rfl hl.1 rfl (lv_room (Nat.le_of_ble_eq_true rfl)) d_Model_step_27 ⟨Nat.zero_le _, Nat.zero_le _⟩) ?_
      by_cases q_27 : ((1 : Int)) ≤ (z1) ∧ (z1) ≤ ((100000 : Int))
      · refine zz_top (congrArg nI (if_pos q_27)) ?_
        refine lv_if_ne (tgt := 37) hx hb d_Model_step_30 (by decide) (fun _ => ?_) (fun c9 => absurd c9 (by decide))
        refine lv_iconst (v := nI (0)) hx hb d_Model_step_37 (by decide) ?_
        have hFc := va_free (wc := (wM b cI v f w)) hD hS hA [0, 1, 2, 3, 4, 5, 6, 7, 8, 9, 10, 11, 12, 13] rfl
        refine va_calli (va_runV (As := [.int (nI (0)), .int (nI (0))]) (rest := []) ⟨hx, hb, hml, hown, hz⟩ (c_Model_throwing_00 l dC dI b cI v f w (s.heap).size ) (cwV (C := "CutLengthsModel") 2 hz (zgV tw_567 tw_569 tw_8 tw_20 tw_570) rfl rfl rfl (by decide +kernel) ⟨Nat.le_of_ble_eq_true rfl, Nat.le_of_ble_eq_true rfl⟩) ⟨(fun a U g mk q => by obtain ⟨q0, q1, qP, qK, qD⟩ := q; exact ⟨q0, q1, qP, va_K.moved (u := U) (U := U.calling g mk a) (Vm.Alike.refl U.vm) qK, qD⟩), va_recv hK hP (ci := 5) (q0 := 0) rfl rfl, fun U hU hW => ⟨rfl, by rw [hU], by rw [hU]; exact hP, va_K.moved hW.alike hK, hD.weaken (fun _ _ _ _ => trivial)⟩⟩ rfl rfl hl.1 rfl (lv_room (Nat.le_of_ble_eq_true rfl)) d_Model_step_38 ⟨Nat.zero_le _, Nat.zero_le _⟩) hS (fun q _ h => hFc q h) hFc (fun r_38 u9 t9 H1 locs ht hvm hw hB hz1 hk1 hS => ?_)
        obtain ⟨hP1, hK1, hD1⟩ := hB
        rw [ht] at hP1
        obtain ⟨hP, hD⟩ := va_join (wr := []) (w1 := (wM b cI (zu v 0 (0)) f w)) hP hD [0, 1, 2, 3, 4, 5, 6, 7, 8, 9, 10, 11, 12, 13] [] rfl rfl (by decide) (by decide) hk1 hFc hP1 hD1
        generalize H1 = H at hP hS ⊢
        have hP : va_P (dC, dI) vwCl (wM b cI (zu v 0 (0)) f w) H := hP
        have hD : va_D A (wM b cI (zu v 0 (0)) f w) := hD
        refine zz_top (hw) ?_
        refine lv_if_eq (tgt := 45) hx hb d_Model_step_41 (by decide) (fun _ => ?_) (fun c9 => absurd c9 (by decide))
        refine lv_aload_n hx hb d_Model_step_45 rfl (lv_at hl 0 rfl) ?_
        refine lv_iload_n hx hb d_Model_step_46 rfl (lv_at hl 1 rfl) ?_
        refine zz_top (zz_nat h0 (by omega)) ?_
        refine va_put (D := (dC, dI)) (ci := 5) (v := .int (nI (z0.toNat))) (ty := .int) (C := "CutLengthsModel") (T := T_Model) (N := 24) hx hb hz i_Model t_Model t_Model_ok n_Model hown hK hP hD hS 0 rfl rfl 1 (by decide) (hz _ tw_482) (fun _ h9 => h9) rfl (by decide +kernel) rfl rfl (Nat.le_of_ble_eq_true rfl) d_Model_step_47 (fun H locs hP hD hS => ?_)
        have hP : va_P (dC, dI) vwCl (wM b cI (zu (zu v 0 (0)) 1 (z0.toNat)) f w) H := hP
        have hD : va_D A (wM b cI (zu (zu v 0 (0)) 1 (z0.toNat)) f w) := hD
        refine lv_aload_n hx hb d_Model_step_50 rfl (lv_at hl 0 rfl) ?_
        refine lv_iload_n hx hb d_Model_step_51 rfl (lv_at hl 2 rfl) ?_
        refine zz_top (zz_nat h1 (by omega)) ?_
        refine va_put (D := (dC, dI)) (ci := 5) (v := .int (nI (z1.toNat))) (ty := .int) (C := "CutLengthsModel") (T := T_Model) (N := 24) hx hb hz i_Model t_Model t_Model_ok n_Model hown hK hP hD hS 0 rfl rfl 2 (by decide) (hz _ tw_483) (fun _ h9 => h9) rfl (by decide +kernel) rfl rfl (Nat.le_of_ble_eq_true rfl) d_Model_step_52 (fun H locs hP hD hS => ?_)
        have hP : va_P (dC, dI) vwCl (wM b cI (zu (zu (zu v 0 (0)) 1 (z0.toNat)) 2 (z1.toNat)) f w) H := hP
        have hD : va_D A (wM b cI (zu (zu (zu v 0 (0)) 1 (z0.toNat)) 2 (z1.toNat)) f w) := hD
        exact W.vret hx hb hr (fun t9 ht hW => ⟨⟨((zu (zu (zu v 0 (0)) 1 (z0.toNat)) 2 (z1.toNat)), f, w), rfl, (Or.inl ⟨(by unfold k_step; rw [if_neg (by omega), if_neg (by omega)]), rfl⟩), by rw [ht]; exact hP, va_K.moved hW.alike hK, hD⟩, hS.F ht⟩) hS.2.2 d_Model_step_55
      · refine zz_top (congrArg nI (if_neg q_27)) ?_
        refine lv_if_ne (tgt := 37) hx hb d_Model_step_30 (by decide) (fun c9 => absurd c9 (by decide)) (fun _ => ?_)
        refine lv_iconst (v := nI (1)) hx hb d_Model_step_33 (by decide) ?_
        refine lv_goto (tgt := 38) hx hb d_Model_step_34 (by decide) ?_
        have hFc := va_free (wc := (wM b cI v f w)) hD hS hA [0, 1, 2, 3, 4, 5, 6, 7, 8, 9, 10, 11, 12, 13] rfl
        refine va_calli (va_runV (As := [.int (nI (0)), .int (nI (1))]) (rest := []) ⟨hx, hb, hml, hown, hz⟩ (c_Model_throwing_01 l dC dI b cI v f w (s.heap).size ) (cwV (C := "CutLengthsModel") 2 hz (zgV tw_567 tw_569 tw_8 tw_20 tw_570) rfl rfl rfl (by decide +kernel) ⟨Nat.le_of_ble_eq_true rfl, Nat.le_of_ble_eq_true rfl⟩) ⟨(fun a U g mk q => by obtain ⟨q0, q1, qP, qK, qD⟩ := q; exact ⟨q0, q1, qP, va_K.moved (u := U) (U := U.calling g mk a) (Vm.Alike.refl U.vm) qK, qD⟩), va_recv hK hP (ci := 5) (q0 := 0) rfl rfl, fun U hU hW => ⟨rfl, by rw [hU], by rw [hU]; exact hP, va_K.moved hW.alike hK, hD.weaken (fun _ _ _ _ => trivial)⟩⟩ rfl rfl hl.1 rfl (lv_room (Nat.le_of_ble_eq_true rfl)) d_Model_step_38 ⟨Nat.zero_le _, Nat.zero_le _⟩) hS (fun q _ h => hFc q h) hFc (fun r_38 u9 t9 H1 locs ht hvm hw hB hz1 hk1 hS => ?_)
        obtain ⟨hP1, hK1, hD1⟩ := hB
        rw [ht] at hP1
        obtain ⟨hP, hD⟩ := va_join (wr := []) (w1 := (wM b cI (zu v 0 (2)) f w)) hP hD [0, 1, 2, 3, 4, 5, 6, 7, 8, 9, 10, 11, 12, 13] [] rfl rfl (by decide) (by decide) hk1 hFc hP1 hD1
        generalize H1 = H at hP hS ⊢
        have hP : va_P (dC, dI) vwCl (wM b cI (zu v 0 (2)) f w) H := hP
        have hD : va_D A (wM b cI (zu v 0 (2)) f w) := hD
        refine zz_top (hw) ?_
        refine lv_if_eq (tgt := 45) hx hb d_Model_step_41 (by decide) (fun c9 => absurd c9 (by decide)) (fun _ => ?_)
        exact W.vret hx hb hr (fun t9 ht hW => ⟨⟨((zu v 0 (2)), f, w), rfl, (Or.inr ⟨2, by decide, (by unfold k_step; rw [if_neg (by omega), if_pos (by omega)]), rfl⟩), by rw [ht]; exact hP, va_K.moved hW.alike hK, hD⟩, hS.F ht⟩) hS.2.2 d_Model_step_44
    · refine zz_top (congrArg nI (if_neg q_17)) ?_
      refine lv_if_eq (tgt := 33) hx hb d_Model_step_20 (by decide) (fun _ => ?_) (fun c9 => absurd c9 (by decide))
      refine lv_iconst (v := nI (1)) hx hb d_Model_step_33 (by decide) ?_
      refine lv_goto (tgt := 38) hx hb d_Model_step_34 (by decide) ?_
      have hFc := va_free (wc := (wM b cI v f w)) hD hS hA [0, 1, 2, 3, 4, 5, 6, 7, 8, 9, 10, 11, 12, 13] rfl
      refine va_calli (va_runV (As := [.int (nI (0)), .int (nI (1))]) (rest := []) ⟨hx, hb, hml, hown, hz⟩ (c_Model_throwing_01 l dC dI b cI v f w (s.heap).size ) (cwV (C := "CutLengthsModel") 2 hz (zgV tw_567 tw_569 tw_8 tw_20 tw_570) rfl rfl rfl (by decide +kernel) ⟨Nat.le_of_ble_eq_true rfl, Nat.le_of_ble_eq_true rfl⟩) ⟨(fun a U g mk q => by obtain ⟨q0, q1, qP, qK, qD⟩ := q; exact ⟨q0, q1, qP, va_K.moved (u := U) (U := U.calling g mk a) (Vm.Alike.refl U.vm) qK, qD⟩), va_recv hK hP (ci := 5) (q0 := 0) rfl rfl, fun U hU hW => ⟨rfl, by rw [hU], by rw [hU]; exact hP, va_K.moved hW.alike hK, hD.weaken (fun _ _ _ _ => trivial)⟩⟩ rfl rfl hl.1 rfl (lv_room (Nat.le_of_ble_eq_true rfl)) d_Model_step_38 ⟨Nat.zero_le _, Nat.zero_le _⟩) hS (fun q _ h => hFc q h) hFc (fun r_38 u9 t9 H1 locs ht hvm hw hB hz1 hk1 hS => ?_)
      obtain ⟨hP1, hK1, hD1⟩ := hB
      rw [ht] at hP1
      obtain ⟨hP, hD⟩ := va_join (wr := []) (w1 := (wM b cI (zu v 0 (2)) f w)) hP hD [0, 1, 2, 3, 4, 5, 6, 7, 8, 9, 10, 11, 12, 13] [] rfl rfl (by decide) (by decide) hk1 hFc hP1 hD1
      generalize H1 = H at hP hS ⊢
      have hP : va_P (dC, dI) vwCl (wM b cI (zu v 0 (2)) f w) H := hP
      have hD : va_D A (wM b cI (zu v 0 (2)) f w) := hD
      refine zz_top (hw) ?_
      refine lv_if_eq (tgt := 45) hx hb d_Model_step_41 (by decide) (fun c9 => absurd c9 (by decide)) (fun _ => ?_)
      exact W.vret hx hb hr (fun t9 ht hW => ⟨⟨((zu v 0 (2)), f, w), rfl, (Or.inr ⟨2, by decide, (by unfold k_step; rw [if_neg (by omega), if_pos (by omega)]), rfl⟩), by rw [ht]; exact hP, va_K.moved hW.alike hK, hD⟩, hS.F ht⟩) hS.2.2 d_Model_step_44
  · have c_5 : ¬ (((v 10 : Nat) : Int) ≤ (0 : Int)) := fun q => c_5 ((zz_le (nI_toInt (by omega)) ((by decide))).mpr q)
    refine lv_iconst (v := nI (1)) hx hb d_Model_step_8 (by decide) ?_
    refine lv_goto (tgt := 13) hx hb d_Model_step_9 (by decide) ?_
    refine lv_iload_n hx hb d_Model_step_13 rfl (lv_at hl 1 rfl) ?_
    refine lv_iconst (v := nI (1)) hx hb d_Model_step_14 (by decide) ?_
    refine lv_ldc (v := nI (65536)) hx hb hown (hz _ tw_562) d_Model_step_15 ?_
    refine zz_ro (va_runS (As := [.int (p0), .int (nI (1)), .int (nI (65536))]) (rest := [.int (nI (1)), .ref (b 0)]) ⟨hx, hb, hml, hown, hz⟩ (c_Model_in l (p0) (nI (1)) (nI (65536)) (z0) ((1 : Int)) ((65536 : Int)) (h0) ((by decide)) ((by decide))) (va_cwS 3 hz (zgS tw_563 tw_564 tw_20 tw_565) rfl rfl rfl (by decide +kernel) ⟨Nat.le_of_ble_eq_true rfl, Nat.le_of_ble_eq_true rfl⟩) ⟨fun _ _ _ _ q => q, fun U hU hW => ⟨rfl, trivial⟩⟩ rfl rfl hl.1 rfl (lv_room (Nat.le_of_ble_eq_true rfl)) d_Model_step_17 ⟨Nat.zero_le _, Nat.zero_le _⟩) ?_
    by_cases q_17 : ((1 : Int)) ≤ (z0) ∧ (z0) ≤ ((65536 : Int))
    · refine zz_top (congrArg nI (if_pos q_17)) ?_
      refine lv_if_eq (tgt := 33) hx hb d_Model_step_20 (by decide) (fun c9 => absurd c9 (by decide)) (fun _ => ?_)
      refine lv_iload_n hx hb d_Model_step_23 rfl (lv_at hl 2 rfl) ?_
      refine lv_iconst (v := nI (1)) hx hb d_Model_step_24 (by decide) ?_
      refine lv_ldc (v := nI (100000)) hx hb hown (hz _ tw_566) d_Model_step_25 ?_
      refine zz_ro (va_runS (As := [.int (p1), .int (nI (1)), .int (nI (100000))]) (rest := [.int (nI (1)), .ref (b 0)]) ⟨hx, hb, hml, hown, hz⟩ (c_Model_in l (p1) (nI (1)) (nI (100000)) (z1) ((1 : Int)) ((100000 : Int)) (h1) ((by decide)) ((by decide))) (va_cwS 3 hz (zgS tw_563 tw_564 tw_20 tw_565) rfl rfl rfl (by decide +kernel) ⟨Nat.le_of_ble_eq_true rfl, Nat.le_of_ble_eq_true rfl⟩) ⟨fun _ _ _ _ q => q, fun U hU hW => ⟨rfl, trivial⟩⟩ rfl rfl hl.1 rfl (lv_room (Nat.le_of_ble_eq_true rfl)) d_Model_step_27 ⟨Nat.zero_le _, Nat.zero_le _⟩) ?_
      by_cases q_27 : ((1 : Int)) ≤ (z1) ∧ (z1) ≤ ((100000 : Int))
      · refine zz_top (congrArg nI (if_pos q_27)) ?_
        refine lv_if_ne (tgt := 37) hx hb d_Model_step_30 (by decide) (fun _ => ?_) (fun c9 => absurd c9 (by decide))
        refine lv_iconst (v := nI (0)) hx hb d_Model_step_37 (by decide) ?_
        have hFc := va_free (wc := (wM b cI v f w)) hD hS hA [0, 1, 2, 3, 4, 5, 6, 7, 8, 9, 10, 11, 12, 13] rfl
        refine va_calli (va_runV (As := [.int (nI (1)), .int (nI (0))]) (rest := []) ⟨hx, hb, hml, hown, hz⟩ (c_Model_throwing_10 l dC dI b cI v f w (s.heap).size ) (cwV (C := "CutLengthsModel") 2 hz (zgV tw_567 tw_569 tw_8 tw_20 tw_570) rfl rfl rfl (by decide +kernel) ⟨Nat.le_of_ble_eq_true rfl, Nat.le_of_ble_eq_true rfl⟩) ⟨(fun a U g mk q => by obtain ⟨q0, q1, qP, qK, qD⟩ := q; exact ⟨q0, q1, qP, va_K.moved (u := U) (U := U.calling g mk a) (Vm.Alike.refl U.vm) qK, qD⟩), va_recv hK hP (ci := 5) (q0 := 0) rfl rfl, fun U hU hW => ⟨rfl, by rw [hU], by rw [hU]; exact hP, va_K.moved hW.alike hK, hD.weaken (fun _ _ _ _ => trivial)⟩⟩ rfl rfl hl.1 rfl (lv_room (Nat.le_of_ble_eq_true rfl)) d_Model_step_38 ⟨Nat.zero_le _, Nat.zero_le _⟩) hS (fun q _ h => hFc q h) hFc (fun r_38 u9 t9 H1 locs ht hvm hw hB hz1 hk1 hS => ?_)
        obtain ⟨hP1, hK1, hD1⟩ := hB
        rw [ht] at hP1
        obtain ⟨hP, hD⟩ := va_join (wr := []) (w1 := (wM b cI (zu v 0 (1)) f w)) hP hD [0, 1, 2, 3, 4, 5, 6, 7, 8, 9, 10, 11, 12, 13] [] rfl rfl (by decide) (by decide) hk1 hFc hP1 hD1
        generalize H1 = H at hP hS ⊢
        have hP : va_P (dC, dI) vwCl (wM b cI (zu v 0 (1)) f w) H := hP
        have hD : va_D A (wM b cI (zu v 0 (1)) f w) := hD
        refine zz_top (hw) ?_
        refine lv_if_eq (tgt := 45) hx hb d_Model_step_41 (by decide) (fun c9 => absurd c9 (by decide)) (fun _ => ?_)
        exact W.vret hx hb hr (fun t9 ht hW => ⟨⟨((zu v 0 (1)), f, w), rfl, (Or.inr ⟨1, by decide, (by unfold k_step; rw [if_pos (by omega)]), rfl⟩), by rw [ht]; exact hP, va_K.moved hW.alike hK, hD⟩, hS.F ht⟩) hS.2.2 d_Model_step_44
      · refine zz_top (congrArg nI (if_neg q_27)) ?_
        refine lv_if_ne (tgt := 37) hx hb d_Model_step_30 (by decide) (fun c9 => absurd c9 (by decide)) (fun _ => ?_)
        refine lv_iconst (v := nI (1)) hx hb d_Model_step_33 (by decide) ?_
        refine lv_goto (tgt := 38) hx hb d_Model_step_34 (by decide) ?_
        have hFc := va_free (wc := (wM b cI v f w)) hD hS hA [0, 1, 2, 3, 4, 5, 6, 7, 8, 9, 10, 11, 12, 13] rfl
        refine va_calli (va_runV (As := [.int (nI (1)), .int (nI (1))]) (rest := []) ⟨hx, hb, hml, hown, hz⟩ (c_Model_throwing_11 l dC dI b cI v f w (s.heap).size ) (cwV (C := "CutLengthsModel") 2 hz (zgV tw_567 tw_569 tw_8 tw_20 tw_570) rfl rfl rfl (by decide +kernel) ⟨Nat.le_of_ble_eq_true rfl, Nat.le_of_ble_eq_true rfl⟩) ⟨(fun a U g mk q => by obtain ⟨q0, q1, qP, qK, qD⟩ := q; exact ⟨q0, q1, qP, va_K.moved (u := U) (U := U.calling g mk a) (Vm.Alike.refl U.vm) qK, qD⟩), va_recv hK hP (ci := 5) (q0 := 0) rfl rfl, fun U hU hW => ⟨rfl, by rw [hU], by rw [hU]; exact hP, va_K.moved hW.alike hK, hD.weaken (fun _ _ _ _ => trivial)⟩⟩ rfl rfl hl.1 rfl (lv_room (Nat.le_of_ble_eq_true rfl)) d_Model_step_38 ⟨Nat.zero_le _, Nat.zero_le _⟩) hS (fun q _ h => hFc q h) hFc (fun r_38 u9 t9 H1 locs ht hvm hw hB hz1 hk1 hS => ?_)
        obtain ⟨hP1, hK1, hD1⟩ := hB
        rw [ht] at hP1
        obtain ⟨hP, hD⟩ := va_join (wr := []) (w1 := (wM b cI (zu v 0 (1)) f w)) hP hD [0, 1, 2, 3, 4, 5, 6, 7, 8, 9, 10, 11, 12, 13] [] rfl rfl (by decide) (by decide) hk1 hFc hP1 hD1
        generalize H1 = H at hP hS ⊢
        have hP : va_P (dC, dI) vwCl (wM b cI (zu v 0 (1)) f w) H := hP
        have hD : va_D A (wM b cI (zu v 0 (1)) f w) := hD
        refine zz_top (hw) ?_
        refine lv_if_eq (tgt := 45) hx hb d_Model_step_41 (by decide) (fun c9 => absurd c9 (by decide)) (fun _ => ?_)
        exact W.vret hx hb hr (fun t9 ht hW => ⟨⟨((zu v 0 (1)), f, w), rfl, (Or.inr ⟨1, by decide, (by unfold k_step; rw [if_pos (by omega)]), rfl⟩), by rw [ht]; exact hP, va_K.moved hW.alike hK, hD⟩, hS.F ht⟩) hS.2.2 d_Model_step_44
    · refine zz_top (congrArg nI (if_neg q_17)) ?_
      refine lv_if_eq (tgt := 33) hx hb d_Model_step_20 (by decide) (fun _ => ?_) (fun c9 => absurd c9 (by decide))
      refine lv_iconst (v := nI (1)) hx hb d_Model_step_33 (by decide) ?_
      refine lv_goto (tgt := 38) hx hb d_Model_step_34 (by decide) ?_
      have hFc := va_free (wc := (wM b cI v f w)) hD hS hA [0, 1, 2, 3, 4, 5, 6, 7, 8, 9, 10, 11, 12, 13] rfl
      refine va_calli (va_runV (As := [.int (nI (1)), .int (nI (1))]) (rest := []) ⟨hx, hb, hml, hown, hz⟩ (c_Model_throwing_11 l dC dI b cI v f w (s.heap).size ) (cwV (C := "CutLengthsModel") 2 hz (zgV tw_567 tw_569 tw_8 tw_20 tw_570) rfl rfl rfl (by decide +kernel) ⟨Nat.le_of_ble_eq_true rfl, Nat.le_of_ble_eq_true rfl⟩) ⟨(fun a U g mk q => by obtain ⟨q0, q1, qP, qK, qD⟩ := q; exact ⟨q0, q1, qP, va_K.moved (u := U) (U := U.calling g mk a) (Vm.Alike.refl U.vm) qK, qD⟩), va_recv hK hP (ci := 5) (q0 := 0) rfl rfl, fun U hU hW => ⟨rfl, by rw [hU], by rw [hU]; exact hP, va_K.moved hW.alike hK, hD.weaken (fun _ _ _ _ => trivial)⟩⟩ rfl rfl hl.1 rfl (lv_room (Nat.le_of_ble_eq_true rfl)) d_Model_step_38 ⟨Nat.zero_le _, Nat.zero_le _⟩) hS (fun q _ h => hFc q h) hFc (fun r_38 u9 t9 H1 locs ht hvm hw hB hz1 hk1 hS => ?_)
      obtain ⟨hP1, hK1, hD1⟩ := hB
      rw [ht] at hP1
      obtain ⟨hP, hD⟩ := va_join (wr := []) (w1 := (wM b cI (zu v 0 (1)) f w)) hP hD [0, 1, 2, 3, 4, 5, 6, 7, 8, 9, 10, 11, 12, 13] [] rfl rfl (by decide) (by decide) hk1 hFc hP1 hD1
      generalize H1 = H at hP hS ⊢
      have hP : va_P (dC, dI) vwCl (wM b cI (zu v 0 (1)) f w) H := hP
      have hD : va_D A (wM b cI (zu v 0 (1)) f w) := hD
      refine zz_top (hw) ?_
      refine lv_if_eq (tgt := 45) hx hb d_Model_step_41 (by decide) (fun c9 => absurd c9 (by decide)) (fun _ => ?_)
      exact W.vret hx hb hr (fun t9 ht hW => ⟨⟨((zu v 0 (1)), f, w), rfl, (Or.inr ⟨1, by decide, (by unfold k_step; rw [if_pos (by omega)]), rfl⟩), by rw [ht]; exact hP, va_K.moved hW.alike hK, hD⟩, hS.F ht⟩) hS.2.2 d_Model_step_44
set_option maxHeartbeats 4000000 in
set_option maxRecDepth 100000 in
theorem c_Model_cast (l : Launch) (dC : Nat → ClassId) (dI : Nat → Nat → Nat) (b : Nat → Nat) (cI : ClassId) (v : Nat → Nat) (f : Nat → Nat → Nat) (w : Nat → Nat → Int32) (sz : Nat) (p0 : Int32) (z0 : Int) (h0 : p0.toInt = z0) (hJ : zJ v f) : Met l y_Model_cast (zw_Model_cast :: zW) ({ frames := 1, cells := 0, slots := 0, locals := 22 }) (va_Pc [.ref (b 0), .int (p0)] (fun U => U.heap.size = sz ∧ va_P (dC, dI) vwCl (wM b cI v f w) U.heap ∧ va_K (dC, dI) vwCl [(cI, .int)] U ∧ va_D (fun _ => True) (wM b cI v f w))) (va_Qi (fun (r : Int32) (u : ZS) => (k_cast (v 3) z0 = 0 ∧ u = ((zu (zu v 0 (0)) 3 (v 3 + z0.toNat)), f, w) ∧ r = nI (v 3 + z0.toNat)) ∨ (∃ c9, c9 ≠ 0 ∧ k_cast (v 3) z0 = c9 ∧ u = (zu v 0 c9, f, w))) (fun (u : ZS) t => match u with | (v9, f9, w9) => va_P (dC, dI) vwCl (wM b cI v9 f9 w9) t.heap ∧ va_K (dC, dI) vwCl [(cI, .int)] t ∧ va_D (va_A (wM b cI v f w) sz) (wM b cI v9 f9 w9)) (va_A (wM b cI v f w) sz)) 0 0 (va_A (wM b cI v f w) sz) := by
  refine Met.ofW (cc := prog_7_method_6_code) (maxL := 2) (ret := (some .int)) (by decide) rfl ?_
  intro p e s m args below meth c s₁ B hml hv
  obtain ⟨rfl, hsz, hP, hK, hD0⟩ := hv
  have hx := B.exec
  have hb := B.bytes
  have hr := B.returns
  have hz : ∀ w ∈ zW, w.before ([.ref (b 0), .int (p0)]).toArray s = true := fun w h => atoms_spec (ws := (zw_Model_cast :: zW)) B.pre w (List.mem_cons_of_mem _ h)
  have hown : s.vm.findClass "CutLengthsModel" = some m.cls := findClass_of_methodNamed B.named
  have hlocks := B.notSynchronized
  subst hsz
  have hD := hD0.self (sz := s.heap.size)
  generalize hAe : va_A (wM b cI v f w) s.heap.size = A at hD ⊢
  have hA : ∀ q : Nat, s.heap.size ≤ q → A q := fun q h => by rw [← hAe]; exact Or.inr h
  have hS : va_S A s.heap s.heap [] := va_S.rf
  have hP : va_P (dC, dI) vwCl (wM b cI v f w) s.heap := hP
  obtain ⟨j3, j4, j5, j6, j7, j8, j9, j10, j1, j2, jw, jb, jr, jsl⟩ := id hJ
  have hl := lv_entry ([.ref (b 0), .int (p0)]) (n := 2) (Nat.le_of_ble_eq_true rfl)
  rw [lg_entry_eq]
  generalize (lg_sl ([.ref (b 0), .int (p0)]) ++ List.replicate (2 - (lg_sl ([.ref (b 0), .int (p0)])).length) Slot.unset).toArray = ls at hl ⊢
  have hl : lv_has ls 2 [(0, .ref (b 0)), (1, .int (p0))] := hl
  refine lv_aload_n hx hb d_Model_cast_0 rfl (lv_at hl 0 rfl) ?_
  refine lv_iload_n hx hb d_Model_cast_1 rfl (lv_at hl 1 rfl) ?_
  refine lv_if_ge (tgt := 9) hx hb d_Model_cast_2 (by decide) (fun c_2 => ?_) (fun c_2 => ?_)
  · have c_2 : (0 : Int) ≤ z0 := (zz_le ((by decide)) (h0)).mp c_2
    refine lv_iconst (v := nI (0)) hx hb d_Model_cast_9 (by decide) ?_
    refine lv_iload_n hx hb d_Model_cast_10 rfl (lv_at hl 1 rfl) ?_
    refine lv_sipush (v := nI (300)) hx hb d_Model_cast_11 (by decide) ?_
    refine lv_aload_n hx hb d_Model_cast_14 rfl (lv_at hl 0 rfl) ?_
    refine va_get (D := (dC, dI)) (ci := 5) (v := .int (nI (v 3))) (C := "CutLengthsModel") (T := T_Model) (N := 24) hx hb hz i_Model hown hK hP 0 rfl rfl 3 (by decide) (hz _ tw_484) (fun _ h9 => h9) rfl d_Model_cast_15 ?_
    refine lv_isub hx hb d_Model_cast_18 ?_
    refine lv_icmp_le (tgt := 26) hx hb d_Model_cast_19 (by decide) (fun c_19 => ?_) (fun c_19 => ?_)
    · have c_19 : z0 ≤ ((300 : Nat) : Int) - ((v 3 : Nat) : Int) := (zz_le (h0) (pk_sub_toInt (by omega) (by omega))).mp c_19
      refine lv_iconst (v := nI (0)) hx hb d_Model_cast_26 (by decide) ?_
      have hFc := va_free (wc := (wM b cI v f w)) hD hS hA [0, 1, 2, 3, 4, 5, 6, 7, 8, 9, 10, 11, 12, 13] rfl
      refine va_calli (va_runV (As := [.int (nI (0)), .int (nI (0))]) (rest := []) ⟨hx, hb, hml, hown, hz⟩ (c_Model_throwing_00 l dC dI b cI v f w (s.heap).size ) (cwV (C := "CutLengthsModel") 2 hz (zgV tw_567 tw_569 tw_8 tw_20 tw_570) rfl rfl rfl (by decide +kernel) ⟨Nat.le_of_ble_eq_true rfl, Nat.le_of_ble_eq_true rfl⟩) ⟨(fun a U g mk q => by obtain ⟨q0, q1, qP, qK, qD⟩ := q; exact ⟨q0, q1, qP, va_K.moved (u := U) (U := U.calling g mk a) (Vm.Alike.refl U.vm) qK, qD⟩), va_recv hK hP (ci := 5) (q0 := 0) rfl rfl, fun U hU hW => ⟨rfl, by rw [hU], by rw [hU]; exact hP, va_K.moved hW.alike hK, hD.weaken (fun _ _ _ _ => trivial)⟩⟩ rfl rfl hl.1 rfl (lv_room (Nat.le_of_ble_eq_true rfl)) d_Model_cast_27 ⟨Nat.zero_le _, Nat.zero_le _⟩) hS (fun q _ h => hFc q h) hFc (fun r_27 u9 t9 H1 locs ht hvm hw hB hz1 hk1 hS => ?_)
      obtain ⟨hP1, hK1, hD1⟩ := hB
      rw [ht] at hP1
      obtain ⟨hP, hD⟩ := va_join (wr := []) (w1 := (wM b cI (zu v 0 (0)) f w)) hP hD [0, 1, 2, 3, 4, 5, 6, 7, 8, 9, 10, 11, 12, 13] [] rfl rfl (by decide) (by decide) hk1 hFc hP1 hD1
      generalize H1 = H at hP hS ⊢
      have hP : va_P (dC, dI) vwCl (wM b cI (zu v 0 (0)) f w) H := hP
      have hD : va_D A (wM b cI (zu v 0 (0)) f w) := hD
      refine zz_top (hw) ?_
      refine lv_if_eq (tgt := 35) hx hb d_Model_cast_30 (by decide) (fun _ => ?_) (fun c9 => absurd c9 (by decide))
      refine lv_aload_n hx hb d_Model_cast_35 rfl (lv_at hl 0 rfl) ?_
      refine lv_dup hx hb d_Model_cast_36 rfl ?_
      refine va_get (D := (dC, dI)) (ci := 5) (v := .int (nI (v 3))) (C := "CutLengthsModel") (T := T_Model) (N := 24) hx hb hz i_Model hown hK hP 0 rfl rfl 3 (by decide) (hz _ tw_484) (fun _ h9 => h9) rfl d_Model_cast_37 ?_
      refine lv_iload_n hx hb d_Model_cast_40 rfl (lv_at hl 1 rfl) ?_
      refine zz_top (zz_nat h0 (by omega)) ?_
      refine lv_iadd hx hb d_Model_cast_41 ?_
      refine zz_top (nI_add (v 3) (z0.toNat)) ?_
      refine va_put (D := (dC, dI)) (ci := 5) (v := .int (nI ((v 3) + z0.toNat))) (ty := .int) (C := "CutLengthsModel") (T := T_Model) (N := 24) hx hb hz i_Model t_Model t_Model_ok n_Model hown hK hP hD hS 0 rfl rfl 3 (by decide) (hz _ tw_484) (fun _ h9 => h9) rfl (by decide +kernel) rfl rfl (Nat.le_of_ble_eq_true rfl) d_Model_cast_42 (fun H locs hP hD hS => ?_)
      have hP : va_P (dC, dI) vwCl (wM b cI (zu (zu v 0 (0)) 3 ((v 3) + z0.toNat)) f w) H := hP
      have hD : va_D A (wM b cI (zu (zu v 0 (0)) 3 ((v 3) + z0.toNat)) f w) := hD
      refine lv_aload_n hx hb d_Model_cast_45 rfl (lv_at hl 0 rfl) ?_
      refine va_get (D := (dC, dI)) (ci := 5) (v := .int (nI ((v 3) + z0.toNat))) (C := "CutLengthsModel") (T := T_Model) (N := 24) hx hb hz i_Model hown hK hP 0 rfl rfl 3 (by decide) (hz _ tw_484) (fun _ h9 => h9) rfl d_Model_cast_46 ?_
      exact W.iret (v := nI ((v 3) + z0.toNat)) hx hb hr (fun t9 ht hW => ⟨⟨nI ((v 3) + z0.toNat), ((zu (zu v 0 (0)) 3 ((v 3) + z0.toNat)), f, w), rfl, (Or.inl ⟨(by unfold k_cast; rw [if_neg (by omega), if_neg (by omega)]), rfl, rfl⟩), by rw [ht]; exact hP, va_K.moved hW.alike hK, hD⟩, hS.F ht⟩) hS.2.2 d_Model_cast_49
    · have c_19 : ¬ (z0 ≤ ((300 : Nat) : Int) - ((v 3 : Nat) : Int)) := fun q => c_19 ((zz_le (h0) (pk_sub_toInt (by omega) (by omega))).mpr q)
      refine lv_iconst (v := nI (1)) hx hb d_Model_cast_22 (by decide) ?_
      refine lv_goto (tgt := 27) hx hb d_Model_cast_23 (by decide) ?_
      have hFc := va_free (wc := (wM b cI v f w)) hD hS hA [0, 1, 2, 3, 4, 5, 6, 7, 8, 9, 10, 11, 12, 13] rfl
      refine va_calli (va_runV (As := [.int (nI (0)), .int (nI (1))]) (rest := []) ⟨hx, hb, hml, hown, hz⟩ (c_Model_throwing_01 l dC dI b cI v f w (s.heap).size ) (cwV (C := "CutLengthsModel") 2 hz (zgV tw_567 tw_569 tw_8 tw_20 tw_570) rfl rfl rfl (by decide +kernel) ⟨Nat.le_of_ble_eq_true rfl, Nat.le_of_ble_eq_true rfl⟩) ⟨(fun a U g mk q => by obtain ⟨q0, q1, qP, qK, qD⟩ := q; exact ⟨q0, q1, qP, va_K.moved (u := U) (U := U.calling g mk a) (Vm.Alike.refl U.vm) qK, qD⟩), va_recv hK hP (ci := 5) (q0 := 0) rfl rfl, fun U hU hW => ⟨rfl, by rw [hU], by rw [hU]; exact hP, va_K.moved hW.alike hK, hD.weaken (fun _ _ _ _ => trivial)⟩⟩ rfl rfl hl.1 rfl (lv_room (Nat.le_of_ble_eq_true rfl)) d_Model_cast_27 ⟨Nat.zero_le _, Nat.zero_le _⟩) hS (fun q _ h => hFc q h) hFc (fun r_27 u9 t9 H1 locs ht hvm hw hB hz1 hk1 hS => ?_)
      obtain ⟨hP1, hK1, hD1⟩ := hB
      rw [ht] at hP1
      obtain ⟨hP, hD⟩ := va_join (wr := []) (w1 := (wM b cI (zu v 0 (2)) f w)) hP hD [0, 1, 2, 3, 4, 5, 6, 7, 8, 9, 10, 11, 12, 13] [] rfl rfl (by decide) (by decide) hk1 hFc hP1 hD1
      generalize H1 = H at hP hS ⊢
      have hP : va_P (dC, dI) vwCl (wM b cI (zu v 0 (2)) f w) H := hP
      have hD : va_D A (wM b cI (zu v 0 (2)) f w) := hD
      refine zz_top (hw) ?_
      refine lv_if_eq (tgt := 35) hx hb d_Model_cast_30 (by decide) (fun c9 => absurd c9 (by decide)) (fun _ => ?_)
      refine lv_iconst (v := nI (0)) hx hb d_Model_cast_33 (by decide) ?_
      exact W.iret (v := nI (0)) hx hb hr (fun t9 ht hW => ⟨⟨nI (0), ((zu v 0 (2)), f, w), rfl, (Or.inr ⟨2, by decide, (by unfold k_cast; rw [if_neg (by omega), if_pos (by omega)]), rfl⟩), by rw [ht]; exact hP, va_K.moved hW.alike hK, hD⟩, hS.F ht⟩) hS.2.2 d_Model_cast_34
  · have c_2 : ¬ ((0 : Int) ≤ z0) := fun q => c_2 ((zz_le ((by decide)) (h0)).mpr q)
    refine lv_iconst (v := nI (1)) hx hb d_Model_cast_5 (by decide) ?_
    refine lv_goto (tgt := 10) hx hb d_Model_cast_6 (by decide) ?_
    refine lv_iload_n hx hb d_Model_cast_10 rfl (lv_at hl 1 rfl) ?_
    refine lv_sipush (v := nI (300)) hx hb d_Model_cast_11 (by decide) ?_
    refine lv_aload_n hx hb d_Model_cast_14 rfl (lv_at hl 0 rfl) ?_
    refine va_get (D := (dC, dI)) (ci := 5) (v := .int (nI (v 3))) (C := "CutLengthsModel") (T := T_Model) (N := 24) hx hb hz i_Model hown hK hP 0 rfl rfl 3 (by decide) (hz _ tw_484) (fun _ h9 => h9) rfl d_Model_cast_15 ?_
    refine lv_isub hx hb d_Model_cast_18 ?_
    refine lv_icmp_le (tgt := 26) hx hb d_Model_cast_19 (by decide) (fun c_19 => ?_) (fun c_19 => ?_)
    · have c_19 : z0 ≤ ((300 : Nat) : Int) - ((v 3 : Nat) : Int) := (zz_le (h0) (pk_sub_toInt (by omega) (by omega))).mp c_19
      refine lv_iconst (v := nI (0)) hx hb d_Model_cast_26 (by decide) ?_
      have hFc := va_free (wc := (wM b cI v f w)) hD hS hA [0, 1, 2, 3, 4, 5, 6, 7, 8, 9, 10, 11, 12, 13] rfl
      refine va_calli (va_runV (As := [.int (nI (1)), .int (nI (0))]) (rest := []) ⟨hx, hb, hml, hown, hz⟩ (c_Model_throwing_10 l dC dI b cI v f w (s.heap).size ) (cwV (C := "CutLengthsModel") 2 hz (zgV tw_567 tw_569 tw_8 tw_20 tw_570) rfl rfl rfl (by decide +kernel) ⟨Nat.le_of_ble_eq_true rfl, Nat.le_of_ble_eq_true rfl⟩) ⟨(fun a U g mk q => by obtain ⟨q0, q1, qP, qK, qD⟩ := q; exact ⟨q0, q1, qP, va_K.moved (u := U) (U := U.calling g mk a) (Vm.Alike.refl U.vm) qK, qD⟩), va_recv hK hP (ci := 5) (q0 := 0) rfl rfl, fun U hU hW => ⟨rfl, by rw [hU], by rw [hU]; exact hP, va_K.moved hW.alike hK, hD.weaken (fun _ _ _ _ => trivial)⟩⟩ rfl rfl hl.1 rfl (lv_room (Nat.le_of_ble_eq_true rfl)) d_Model_cast_27 ⟨Nat.zero_le _, Nat.zero_le _⟩) hS (fun q _ h => hFc q h) hFc (fun r_27 u9 t9 H1 locs ht hvm hw hB hz1 hk1 hS => ?_)
      obtain ⟨hP1, hK1, hD1⟩ := hB
      rw [ht] at hP1
      obtain ⟨hP, hD⟩ := va_join (wr := []) (w1 := (wM b cI (zu v 0 (1)) f w)) hP hD [0, 1, 2, 3, 4, 5, 6, 7, 8, 9, 10, 11, 12, 13] [] rfl rfl (by decide) (by decide) hk1 hFc hP1 hD1
      generalize H1 = H at hP hS ⊢
      have hP : va_P (dC, dI) vwCl (wM b cI (zu v 0 (1)) f w) H := hP
      have hD : va_D A (wM b cI (zu v 0 (1)) f w) := hD
      refine zz_top (hw) ?_
      refine lv_if_eq (tgt := 35) hx hb d_Model_cast_30 (by decide) (fun c9 => absurd c9 (by decide)) (fun _ => ?_)
      refine lv_iconst (v := nI (0)) hx hb d_Model_cast_33 (by decide) ?_
      exact W.iret (v := nI (0)) hx hb hr (fun t9 ht hW => ⟨⟨nI (0), ((zu v 0 (1)), f, w), rfl, (Or.inr ⟨1, by decide, (by unfold k_cast; rw [if_pos (by omega)]), rfl⟩), by rw [ht]; exact hP, va_K.moved hW.alike hK, hD⟩, hS.F ht⟩) hS.2.2 d_Model_cast_34
    · have c_19 : ¬ (z0 ≤ ((300 : Nat) : Int) - ((v 3 : Nat) : Int)) := fun q => c_19 ((zz_le (h0) (pk_sub_toInt (by omega) (by omega))).mpr q)
      refine lv_iconst (v := nI (1)) hx hb d_Model_cast_22 (by decide) ?_
      refine lv_goto (tgt := 27) hx hb d_Model_cast_23 (by decide) ?_
      have hFc := va_free (wc := (wM b cI v f w)) hD hS hA [0, 1, 2, 3, 4, 5, 6, 7, 8, 9, 10, 11, 12, 13] rfl
      refine va_calli (va_runV (As := [.int (nI (1)), .int (nI (1))]) (rest := []) ⟨hx, hb, hml, hown, hz⟩ (c_Model_throwing_11 l dC dI b cI v f w (s.heap).size ) (cwV (C := "CutLengthsModel") 2 hz (zgV tw_567 tw_569 tw_8 tw_20 tw_570) rfl rfl rfl (by decide +kernel) ⟨Nat.le_of_ble_eq_true rfl, Nat.le_of_ble_eq_true rfl⟩) ⟨(fun a U g mk q => by obtain ⟨q0, q1, qP, qK, qD⟩ := q; exact ⟨q0, q1, qP, va_K.moved (u := U) (U := U.calling g mk a) (Vm.Alike.refl U.vm) qK, qD⟩), va_recv hK hP (ci := 5) (q0 := 0) rfl rfl, fun U hU hW => ⟨rfl, by rw [hU], by rw [hU]; exact hP, va_K.moved hW.alike hK, hD.weaken (fun _ _ _ _ => trivial)⟩⟩ rfl rfl hl.1 rfl (lv_room (Nat.le_of_ble_eq_true rfl)) d_Model_cast_27 ⟨Nat.zero_le _, Nat.zero_le _⟩) hS (fun q _ h => hFc q h) hFc (fun r_27 u9 t9 H1 locs ht hvm hw hB hz1 hk1 hS => ?_)
      obtain ⟨hP1, hK1, hD1⟩ := hB
      rw [ht] at hP1
      obtain ⟨hP, hD⟩ := va_join (wr := []) (w1 := (wM b cI (zu v 0 (1)) f w)) hP hD [0, 1, 2, 3, 4, 5, 6, 7, 8, 9, 10, 11, 12, 13] [] rfl rfl (by decide) (by decide) hk1 hFc hP1 hD1
      generalize H1 = H at hP hS ⊢
      have hP : va_P (dC, dI) vwCl (wM b cI (zu v 0 (1)) f w) H := hP
      have hD : va_D A (wM b cI (zu v 0 (1)) f w) := hD
      refine zz_top (hw) ?_
      refine lv_if_eq (tgt := 35) hx hb d_Model_cast_30 (by decide) (fun c9 => absurd c9 (by decide)) (fun _ => ?_)
      refine lv_iconst (v := nI (0)) hx hb d_Model_cast_33 (by decide) ?_
      exact W.iret (v := nI (0)) hx hb hr (fun t9 ht hW => ⟨⟨nI (0), ((zu v 0 (1)), f, w), rfl, (Or.inr ⟨1, by decide, (by unfold k_cast; rw [if_pos (by omega)]), rfl⟩), by rw [ht]; exact hP, va_K.moved hW.alike hK, hD⟩, hS.F ht⟩) hS.2.2 d_Model_cast_34
set_option maxHeartbeats 4000000 in
set_option maxRecDepth 100000 in
theorem c_Model_want (l : Launch) (dC : Nat → ClassId) (dI : Nat → Nat → Nat) (b : Nat → Nat) (cI : ClassId) (v : Nat → Nat) (f : Nat → Nat → Nat) (w : Nat → Nat → Int32) (sz : Nat) (p0 : Int32) (z0 : Int) (h0 : p0.toInt = z0) (p1 : Int32) (z1 : Int) (h1 : p1.toInt = z1) (hJ : zJ v f) : Met l y_Model_want (zw_Model_want :: zW) ({ frames := 2, cells := 0, slots := 0, locals := 43 }) (va_Pc [.ref (b 0), .int (p0), .int (p1)] (fun U => U.heap.size = sz ∧ va_P (dC, dI) vwCl (wM b cI v f w) U.heap ∧ va_K (dC, dI) vwCl [(cI, .int)] U ∧ va_D (fun _ => True) (wM b cI v f w))) (va_Qi (fun (r : Int32) (u : ZS) => (k_want (v 7) z0 z1 = 0 ∧ u = ((zu (zu v 0 (0)) 7 (v 7 + 1)), (zu (zu f 0 (va_up (f 0) (v 7) z0.toNat)) 1 (va_up (f 1) (v 7) z1.toNat)), w) ∧ r = nI (v 7)) ∨ (∃ c9, c9 ≠ 0 ∧ k_want (v 7) z0 z1 = c9 ∧ u = (zu v 0 c9, f, w))) (fun (u : ZS) t => match u with | (v9, f9, w9) => va_P (dC, dI) vwCl (wM b cI v9 f9 w9) t.heap ∧ va_K (dC, dI) vwCl [(cI, .int)] t ∧ va_D (va_A (wM b cI v f w) sz) (wM b cI v9 f9 w9)) (va_A (wM b cI v f w) sz)) 0 0 (va_A (wM b cI v f w) sz) := by
  refine Met.ofW (cc := prog_7_method_8_code) (maxL := 3) (ret := (some .int)) (by decide) rfl ?_
  intro p e s m args below meth c s₁ B hml hv
  obtain ⟨rfl, hsz, hP, hK, hD0⟩ := hv
  have hx := B.exec
  have hb := B.bytes
  have hr := B.returns
  have hz : ∀ w ∈ zW, w.before ([.ref (b 0), .int (p0), .int (p1)]).toArray s = true := fun w h => atoms_spec (ws := (zw_Model_want :: zW)) B.pre w (List.mem_cons_of_mem _ h)
  have hown : s.vm.findClass "CutLengthsModel" = some m.cls := findClass_of_methodNamed B.named
  have hlocks := B.notSynchronized
  subst hsz
  have hD := hD0.self (sz := s.heap.size)
  generalize hAe : va_A (wM b cI v f w) s.heap.size = A at hD ⊢
  have hA : ∀ q : Nat, s.heap.size ≤ q → A q := fun q h => by rw [← hAe]; exact Or.inr h
  have hS : va_S A s.heap s.heap [] := va_S.rf
  have hP : va_P (dC, dI) vwCl (wM b cI v f w) s.heap := hP
  obtain ⟨j3, j4, j5, j6, j7, j8, j9, j10, j1, j2, jw, jb, jr, jsl⟩ := id hJ
  have hl := lv_entry ([.ref (b 0), .int (p0), .int (p1)]) (n := 3) (Nat.le_of_ble_eq_true rfl)
  rw [lg_entry_eq]
  generalize (lg_sl ([.ref (b 0), .int (p0), .int (p1)]) ++ List.replicate (3 - (lg_sl ([.ref (b 0), .int (p0), .int (p1)])).length) Slot.unset).toArray = ls at hl ⊢
  have hl : lv_has ls 3 [(0, .ref (b 0)), (1, .int (p0)), (2, .int (p1))] := hl
  refine lv_aload_n hx hb d_Model_want_0 rfl (lv_at hl 0 rfl) ?_
  refine lv_aload_n hx hb d_Model_want_1 rfl (lv_at hl 0 rfl) ?_
  refine va_get (D := (dC, dI)) (ci := 5) (v := .int (nI (v 7))) (C := "CutLengthsModel") (T := T_Model) (N := 24) hx hb hz i_Model hown hK hP 0 rfl rfl 7 (by decide) (hz _ tw_488) (fun _ h9 => h9) rfl d_Model_want_2 ?_
  refine lv_bipush (v := nI (6)) hx hb d_Model_want_5 (by decide) ?_
  refine lv_icmp_ne (tgt := 14) hx hb d_Model_want_7 (by decide) (fun c_7 => ?_) (fun c_7 => ?_)
  · have c_7 : ¬ (((v 7 : Nat) : Int) = (6 : Int)) := fun q => c_7 ((zz_eq (nI_toInt (by omega)) ((by decide))).mpr q)
    refine lv_iconst (v := nI (0)) hx hb d_Model_want_14 (by decide) ?_
    refine lv_iload_n hx hb d_Model_want_15 rfl (lv_at hl 1 rfl) ?_
    refine lv_iload_n hx hb d_Model_want_16 rfl (lv_at hl 2 rfl) ?_
    refine zz_ro (va_runS (As := [.int (p0), .int (p1)]) (rest := [.int (nI (0)), .ref (b 0)]) ⟨hx, hb, hml, hown, hz⟩ (c_Model_isSpan l (p0) (p1) (z0) (z1) (h0) (h1)) (va_cwS 2 hz (zgS tw_579 tw_580 tw_20 tw_581) rfl rfl rfl (by decide +kernel) ⟨Nat.le_of_ble_eq_true rfl, Nat.le_of_ble_eq_true rfl⟩) ⟨fun _ _ _ _ q => q, fun U hU hW => ⟨rfl, trivial⟩⟩ rfl rfl hl.1 rfl (lv_room (Nat.le_of_ble_eq_true rfl)) d_Model_want_17 ⟨Nat.zero_le _, Nat.zero_le _⟩) ?_
    by_cases q_17 : (1 ≤ (z0) ∧ (z0) ≤ 60) ∧ (z0) ≤ (z1) ∧ (z1) ≤ 60
    · refine zz_top (congrArg nI (if_pos q_17)) ?_
      refine lv_if_ne (tgt := 27) hx hb d_Model_want_20 (by decide) (fun _ => ?_) (fun c9 => absurd c9 (by decide))
      refine lv_iconst (v := nI (0)) hx hb d_Model_want_27 (by decide) ?_
      have hFc := va_free (wc := (wM b cI v f w)) hD hS hA [0, 1, 2, 3, 4, 5, 6, 7, 8, 9, 10, 11, 12, 13] rfl
      refine va_calli (va_runV (As := [.int (nI (0)), .int (nI (0))]) (rest := []) ⟨hx, hb, hml, hown, hz⟩ (c_Model_throwing_00 l dC dI b cI v f w (s.heap).size ) (cwV (C := "CutLengthsModel") 2 hz (zgV tw_567 tw_569 tw_8 tw_20 tw_570) rfl rfl rfl (by decide +kernel) ⟨Nat.le_of_ble_eq_true rfl, Nat.le_of_ble_eq_true rfl⟩) ⟨(fun a U g mk q => by obtain ⟨q0, q1, qP, qK, qD⟩ := q; exact ⟨q0, q1, qP, va_K.moved (u := U) (U := U.calling g mk a) (Vm.Alike.refl U.vm) qK, qD⟩), va_recv hK hP (ci := 5) (q0 := 0) rfl rfl, fun U hU hW => ⟨rfl, by rw [hU], by rw [hU]; exact hP, va_K.moved hW.alike hK, hD.weaken (fun _ _ _ _ => trivial)⟩⟩ rfl rfl hl.1 rfl (lv_room (Nat.le_of_ble_eq_true rfl)) d_Model_want_28 ⟨Nat.zero_le _, Nat.zero_le _⟩) hS (fun q _ h => hFc q h) hFc (fun r_28 u9 t9 H1 locs ht hvm hw hB hz1 hk1 hS => ?_)
      obtain ⟨hP1, hK1, hD1⟩ := hB
      rw [ht] at hP1
      obtain ⟨hP, hD⟩ := va_join (wr := []) (w1 := (wM b cI (zu v 0 (0)) f w)) hP hD [0, 1, 2, 3, 4, 5, 6, 7, 8, 9, 10, 11, 12, 13] [] rfl rfl (by decide) (by decide) hk1 hFc hP1 hD1
      generalize H1 = H at hP hS ⊢
      have hP : va_P (dC, dI) vwCl (wM b cI (zu v 0 (0)) f w) H := hP
      have hD : va_D A (wM b cI (zu v 0 (0)) f w) := hD
      refine zz_top (hw) ?_
      refine lv_if_eq (tgt := 36) hx hb d_Model_want_31 (by decide) (fun _ => ?_) (fun c9 => absurd c9 (by decide))
      refine lv_aload_n hx hb d_Model_want_36 rfl (lv_at hl 0 rfl) ?_
      refine va_get (D := (dC, dI)) (ci := 5) (v := .ref (b 1)) (C := "CutLengthsModel") (T := T_Model) (N := 24) hx hb hz i_Model hown hK hP 0 rfl rfl 8 (by decide) (hz _ tw_489) (fun _ h9 => h9) rfl d_Model_want_37 ?_
      refine lv_aload_n hx hb d_Model_want_40 rfl (lv_at hl 0 rfl) ?_
      refine va_get (D := (dC, dI)) (ci := 5) (v := .int (nI (v 7))) (C := "CutLengthsModel") (T := T_Model) (N := 24) hx hb hz i_Model hown hK hP 0 rfl rfl 7 (by decide) (hz _ tw_488) (fun _ h9 => h9) rfl d_Model_want_41 ?_
      refine lv_iload_n hx hb d_Model_want_44 rfl (lv_at hl 1 rfl) ?_
      refine zz_top (zz_nat h0 (by omega)) ?_
      refine zz_nast hx hb hK hP hD hS 1 0 (f := f 0) (i := v 7) (x := z0.toNat) rfl rfl (by omega) (by decide) d_Model_want_45 (fun H locs hP hD hS => ?_)
      have hP : va_P (dC, dI) vwCl (wM b cI (zu v 0 (0)) (zu f 0 (va_up (f 0) (v 7) z0.toNat)) w) H := hP
      have hD : va_D A (wM b cI (zu v 0 (0)) (zu f 0 (va_up (f 0) (v 7) z0.toNat)) w) := hD
      refine lv_aload_n hx hb d_Model_want_46 rfl (lv_at hl 0 rfl) ?_
      refine va_get (D := (dC, dI)) (ci := 5) (v := .ref (b 2)) (C := "CutLengthsModel") (T := T_Model) (N := 24) hx hb hz i_Model hown hK hP 0 rfl rfl 9 (by decide) (hz _ tw_490) (fun _ h9 => h9) rfl d_Model_want_47 ?_
      refine lv_aload_n hx hb d_Model_want_50 rfl (lv_at hl 0 rfl) ?_
      refine va_get (D := (dC, dI)) (ci := 5) (v := .int (nI (v 7))) (C := "CutLengthsModel") (T := T_Model) (N := 24) hx hb hz i_Model hown hK hP 0 rfl rfl 7 (by decide) (hz _ tw_488) (fun _ h9 => h9) rfl d_Model_want_51 ?_
      refine lv_iload_n hx hb d_Model_want_54 rfl (lv_at hl 2 rfl) ?_
      refine zz_top (zz_nat h1 (by omega)) ?_
      refine zz_nast hx hb hK hP hD hS 2 0 (f := f 1) (i := v 7) (x := z1.toNat) rfl rfl (by omega) (by decide) d_Model_want_55 (fun H locs hP hD hS => ?_)
      have hP : va_P (dC, dI) vwCl (wM b cI (zu v 0 (0)) (zu (zu f 0 (va_up (f 0) (v 7) z0.toNat)) 1 (va_up (f 1) (v 7) z1.toNat)) w) H := hP
      have hD : va_D A (wM b cI (zu v 0 (0)) (zu (zu f 0 (va_up (f 0) (v 7) z0.toNat)) 1 (va_up (f 1) (v 7) z1.toNat)) w) := hD
      refine lv_aload_n hx hb d_Model_want_56 rfl (lv_at hl 0 rfl) ?_
      refine lv_dup hx hb d_Model_want_57 rfl ?_
      refine va_get (D := (dC, dI)) (ci := 5) (v := .int (nI (v 7))) (C := "CutLengthsModel") (T := T_Model) (N := 24) hx hb hz i_Model hown hK hP 0 rfl rfl 7 (by decide) (hz _ tw_488) (fun _ h9 => h9) rfl d_Model_want_58 ?_
      refine lv_iconst (v := nI (1)) hx hb d_Model_want_61 (by decide) ?_
      refine lv_iadd hx hb d_Model_want_62 ?_
      refine zz_top (nI_add (v 7) (1)) ?_
      refine va_put (D := (dC, dI)) (ci := 5) (v := .int (nI ((v 7) + 1))) (ty := .int) (C := "CutLengthsModel") (T := T_Model) (N := 24) hx hb hz i_Model t_Model t_Model_ok n_Model hown hK hP hD hS 0 rfl rfl 7 (by decide) (hz _ tw_488) (fun _ h9 => h9) rfl (by decide +kernel) rfl rfl (Nat.le_of_ble_eq_true rfl) d_Model_want_63 (fun H locs hP hD hS => ?_)
      have hP : va_P (dC, dI) vwCl (wM b cI (zu (zu v 0 (0)) 7 ((v 7) + 1)) (zu (zu f 0 (va_up (f 0) (v 7) z0.toNat)) 1 (va_up (f 1) (v 7) z1.toNat)) w) H := hP
      have hD : va_D A (wM b cI (zu (zu v 0 (0)) 7 ((v 7) + 1)) (zu (zu f 0 (va_up (f 0) (v 7) z0.toNat)) 1 (va_up (f 1) (v 7) z1.toNat)) w) := hD
      refine lv_aload_n hx hb d_Model_want_66 rfl (lv_at hl 0 rfl) ?_
      refine va_get (D := (dC, dI)) (ci := 5) (v := .int (nI ((v 7) + 1))) (C := "CutLengthsModel") (T := T_Model) (N := 24) hx hb hz i_Model hown hK hP 0 rfl rfl 7 (by decide) (hz _ tw_488) (fun _ h9 => h9) rfl d_Model_want_67 ?_
      refine lv_iconst (v := nI (1)) hx hb d_Model_want_70 (by decide) ?_
      refine lv_isub hx hb d_Model_want_71 ?_
      exact W.iret (v := nI ((v 7) + 1) - nI (1)) hx hb hr (fun t9 ht hW => ⟨⟨nI ((v 7) + 1) - nI (1), ((zu (zu v 0 (0)) 7 ((v 7) + 1)), (zu (zu f 0 (va_up (f 0) (v 7) z0.toNat)) 1 (va_up (f 1) (v 7) z1.toNat)), w), rfl, (Or.inl ⟨(by unfold k_want; rw [if_neg (by omega), if_neg (by omega)]), rfl, nI_pred (v 7)⟩), by rw [ht]; exact hP, va_K.moved hW.alike hK, hD⟩, hS.F ht⟩) hS.2.2 d_Model_want_72
    · refine zz_top (congrArg nI (if_neg q_17)) ?_
      refine lv_if_ne (tgt := 27) hx hb d_Model_want_20 (by decide) (fun c9 => absurd c9 (by decide)) (fun _ => ?_)
      refine lv_iconst (v := nI (1)) hx hb d_Model_want_23 (by decide) ?_
      refine lv_goto (tgt := 28) hx hb d_Model_want_24 (by decide) ?_
      have hFc := va_free (wc := (wM b cI v f w)) hD hS hA [0, 1, 2, 3, 4, 5, 6, 7, 8, 9, 10, 11, 12, 13] rfl
      refine va_calli (va_runV (As := [.int (nI (0)), .int (nI (1))]) (rest := []) ⟨hx, hb, hml, hown, hz⟩ (c_Model_throwing_01 l dC dI b cI v f w (s.heap).size ) (cwV (C := "CutLengthsModel") 2 hz (zgV tw_567 tw_569 tw_8 tw_20 tw_570) rfl rfl rfl (by decide +kernel) ⟨Nat.le_of_ble_eq_true rfl, Nat.le_of_ble_eq_true rfl⟩) ⟨(fun a U g mk q => by obtain ⟨q0, q1, qP, qK, qD⟩ := q; exact ⟨q0, q1, qP, va_K.moved (u := U) (U := U.calling g mk a) (Vm.Alike.refl U.vm) qK, qD⟩), va_recv hK hP (ci := 5) (q0 := 0) rfl rfl, fun U hU hW => ⟨rfl, by rw [hU], by rw [hU]; exact hP, va_K.moved hW.alike hK, hD.weaken (fun _ _ _ _ => trivial)⟩⟩ rfl rfl hl.1 rfl (lv_room (Nat.le_of_ble_eq_true rfl)) d_Model_want_28 ⟨Nat.zero_le _, Nat.zero_le _⟩) hS (fun q _ h => hFc q h) hFc (fun r_28 u9 t9 H1 locs ht hvm hw hB hz1 hk1 hS => ?_)
      obtain ⟨hP1, hK1, hD1⟩ := hB
      rw [ht] at hP1
      obtain ⟨hP, hD⟩ := va_join (wr := []) (w1 := (wM b cI (zu v 0 (2)) f w)) hP hD [0, 1, 2, 3, 4, 5, 6, 7, 8, 9, 10, 11, 12, 13] [] rfl rfl (by decide) (by decide) hk1 hFc hP1 hD1
      generalize H1 = H at hP hS ⊢
      have hP : va_P (dC, dI) vwCl (wM b cI (zu v 0 (2)) f w) H := hP
      have hD : va_D A (wM b cI (zu v 0 (2)) f w) := hD
      refine zz_top (hw) ?_
      refine lv_if_eq (tgt := 36) hx hb d_Model_want_31 (by decide) (fun c9 => absurd c9 (by decide)) (fun _ => ?_)
      refine lv_iconst (v := nI (0)) hx hb d_Model_want_34 (by decide) ?_
      exact W.iret (v := nI (0)) hx hb hr (fun t9 ht hW => ⟨⟨nI (0), ((zu v 0 (2)), f, w), rfl, (Or.inr ⟨2, by decide, (by unfold k_want; rw [if_neg (by omega), if_pos (by omega)]), rfl⟩), by rw [ht]; exact hP, va_K.moved hW.alike hK, hD⟩, hS.F ht⟩) hS.2.2 d_Model_want_35
  · have c_7 : ((v 7 : Nat) : Int) = (6 : Int) := (zz_eq (nI_toInt (by omega)) ((by decide))).mp c_7
    refine lv_iconst (v := nI (1)) hx hb d_Model_want_10 (by decide) ?_
    refine lv_goto (tgt := 15) hx hb d_Model_want_11 (by decide) ?_
    refine lv_iload_n hx hb d_Model_want_15 rfl (lv_at hl 1 rfl) ?_
    refine lv_iload_n hx hb d_Model_want_16 rfl (lv_at hl 2 rfl) ?_
    refine zz_ro (va_runS (As := [.int (p0), .int (p1)]) (rest := [.int (nI (1)), .ref (b 0)]) ⟨hx, hb, hml, hown, hz⟩ (c_Model_isSpan l (p0) (p1) (z0) (z1) (h0) (h1)) (va_cwS 2 hz (zgS tw_579 tw_580 tw_20 tw_581) rfl rfl rfl (by decide +kernel) ⟨Nat.le_of_ble_eq_true rfl, Nat.le_of_ble_eq_true rfl⟩) ⟨fun _ _ _ _ q => q, fun U hU hW => ⟨rfl, trivial⟩⟩ rfl rfl hl.1 rfl (lv_room (Nat.le_of_ble_eq_true rfl)) d_Model_want_17 ⟨Nat.zero_le _, Nat.zero_le _⟩) ?_
    by_cases q_17 : (1 ≤ (z0) ∧ (z0) ≤ 60) ∧ (z0) ≤ (z1) ∧ (z1) ≤ 60
    · refine zz_top (congrArg nI (if_pos q_17)) ?_
      refine lv_if_ne (tgt := 27) hx hb d_Model_want_20 (by decide) (fun _ => ?_) (fun c9 => absurd c9 (by decide))
      refine lv_iconst (v := nI (0)) hx hb d_Model_want_27 (by decide) ?_
      have hFc := va_free (wc := (wM b cI v f w)) hD hS hA [0, 1, 2, 3, 4, 5, 6, 7, 8, 9, 10, 11, 12, 13] rfl
      refine va_calli (va_runV (As := [.int (nI (1)), .int (nI (0))]) (rest := []) ⟨hx, hb, hml, hown, hz⟩ (c_Model_throwing_10 l dC dI b cI v f w (s.heap).size ) (cwV (C := "CutLengthsModel") 2 hz (zgV tw_567 tw_569 tw_8 tw_20 tw_570) rfl rfl rfl (by decide +kernel) ⟨Nat.le_of_ble_eq_true rfl, Nat.le_of_ble_eq_true rfl⟩) ⟨(fun a U g mk q => by obtain ⟨q0, q1, qP, qK, qD⟩ := q; exact ⟨q0, q1, qP, va_K.moved (u := U) (U := U.calling g mk a) (Vm.Alike.refl U.vm) qK, qD⟩), va_recv hK hP (ci := 5) (q0 := 0) rfl rfl, fun U hU hW => ⟨rfl, by rw [hU], by rw [hU]; exact hP, va_K.moved hW.alike hK, hD.weaken (fun _ _ _ _ => trivial)⟩⟩ rfl rfl hl.1 rfl (lv_room (Nat.le_of_ble_eq_true rfl)) d_Model_want_28 ⟨Nat.zero_le _, Nat.zero_le _⟩) hS (fun q _ h => hFc q h) hFc (fun r_28 u9 t9 H1 locs ht hvm hw hB hz1 hk1 hS => ?_)
      obtain ⟨hP1, hK1, hD1⟩ := hB
      rw [ht] at hP1
      obtain ⟨hP, hD⟩ := va_join (wr := []) (w1 := (wM b cI (zu v 0 (1)) f w)) hP hD [0, 1, 2, 3, 4, 5, 6, 7, 8, 9, 10, 11, 12, 13] [] rfl rfl (by decide) (by decide) hk1 hFc hP1 hD1
      generalize H1 = H at hP hS ⊢
      have hP : va_P (dC, dI) vwCl (wM b cI (zu v 0 (1)) f w) H := hP
      have hD : va_D A (wM b cI (zu v 0 (1)) f w) := hD
      refine zz_top (hw) ?_
      refine lv_if_eq (tgt := 36) hx hb d_Model_want_31 (by decide) (fun c9 => absurd c9 (by decide)) (fun _ => ?_)
      refine lv_iconst (v := nI (0)) hx hb d_Model_want_34 (by decide) ?_
      exact W.iret (v := nI (0)) hx hb hr (fun t9 ht hW => ⟨⟨nI (0), ((zu v 0 (1)), f, w), rfl, (Or.inr ⟨1, by decide, (by unfold k_want; rw [if_pos (by omega)]), rfl⟩), by rw [ht]; exact hP, va_K.moved hW.alike hK, hD⟩, hS.F ht⟩) hS.2.2 d_Model_want_35
    · refine zz_top (congrArg nI (if_neg q_17)) ?_
      refine lv_if_ne (tgt := 27) hx hb d_Model_want_20 (by decide) (fun c9 => absurd c9 (by decide)) (fun _ => ?_)
      refine lv_iconst (v := nI (1)) hx hb d_Model_want_23 (by decide) ?_
      refine lv_goto (tgt := 28) hx hb d_Model_want_24 (by decide) ?_
      have hFc := va_free (wc := (wM b cI v f w)) hD hS hA [0, 1, 2, 3, 4, 5, 6, 7, 8, 9, 10, 11, 12, 13] rfl
      refine va_calli (va_runV (As := [.int (nI (1)), .int (nI (1))]) (rest := []) ⟨hx, hb, hml, hown, hz⟩ (c_Model_throwing_11 l dC dI b cI v f w (s.heap).size ) (cwV (C := "CutLengthsModel") 2 hz (zgV tw_567 tw_569 tw_8 tw_20 tw_570) rfl rfl rfl (by decide +kernel) ⟨Nat.le_of_ble_eq_true rfl, Nat.le_of_ble_eq_true rfl⟩) ⟨(fun a U g mk q => by obtain ⟨q0, q1, qP, qK, qD⟩ := q; exact ⟨q0, q1, qP, va_K.moved (u := U) (U := U.calling g mk a) (Vm.Alike.refl U.vm) qK, qD⟩), va_recv hK hP (ci := 5) (q0 := 0) rfl rfl, fun U hU hW => ⟨rfl, by rw [hU], by rw [hU]; exact hP, va_K.moved hW.alike hK, hD.weaken (fun _ _ _ _ => trivial)⟩⟩ rfl rfl hl.1 rfl (lv_room (Nat.le_of_ble_eq_true rfl)) d_Model_want_28 ⟨Nat.zero_le _, Nat.zero_le _⟩) hS (fun q _ h => hFc q h) hFc (fun r_28 u9 t9 H1 locs ht hvm hw hB hz1 hk1 hS => ?_)
      obtain ⟨hP1, hK1, hD1⟩ := hB
      rw [ht] at hP1
      obtain ⟨hP, hD⟩ := va_join (wr := []) (w1 := (wM b cI (zu v 0 (1)) f w)) hP hD [0, 1, 2, 3, 4, 5, 6, 7, 8, 9, 10, 11, 12, 13] [] rfl rfl (by decide) (by decide) hk1 hFc hP1 hD1
      generalize H1 = H at hP hS ⊢
      have hP : va_P (dC, dI) vwCl (wM b cI (zu v 0 (1)) f w) H := hP
      have hD : va_D A (wM b cI (zu v 0 (1)) f w) := hD
      refine zz_top (hw) ?_
      refine lv_if_eq (tgt := 36) hx hb d_Model_want_31 (by decide) (fun c9 => absurd c9 (by decide)) (fun _ => ?_)
      refine lv_iconst (v := nI (0)) hx hb d_Model_want_34 (by decide) ?_
      exact W.iret (v := nI (0)) hx hb hr (fun t9 ht hW => ⟨⟨nI (0), ((zu v 0 (1)), f, w), rfl, (Or.inr ⟨1, by decide, (by unfold k_want; rw [if_pos (by omega)]), rfl⟩), by rw [ht]; exact hP, va_K.moved hW.alike hK, hD⟩, hS.F ht⟩) hS.2.2 d_Model_want_35
set_option maxHeartbeats 4000000 in
set_option maxRecDepth 100000 in
theorem c_Model_span (l : Launch) (dC : Nat → ClassId) (dI : Nat → Nat → Nat) (b : Nat → Nat) (cI : ClassId) (v : Nat → Nat) (f : Nat → Nat → Nat) (w : Nat → Nat → Int32) (sz : Nat) (p0 : Int32) (z0 : Int) (h0 : p0.toInt = z0) (p1 : Int32) (z1 : Int) (h1 : p1.toInt = z1) (p2 : Int32) (z2 : Int) (h2 : p2.toInt = z2) (hJ : zJ v f) : Met l y_Model_span (zw_Model_span :: zW) ({ frames := 2, cells := 0, slots := 0, locals := 43 }) (va_Pc [.ref (b 0), .int (p0), .int (p1), .int (p2)] (fun U => U.heap.size = sz ∧ va_P (dC, dI) vwCl (wM b cI v f w) U.heap ∧ va_K (dC, dI) vwCl [(cI, .int)] U ∧ va_D (fun _ => True) (wM b cI v f w))) (va_Qv (fun (u : ZS) => (k_span (v 7) z0 z1 z2 = 0 ∧ u = ((zu v 0 (0)), (zu (zu f 0 (va_up (f 0) z0.toNat z1.toNat)) 1 (va_up (f 1) z0.toNat z2.toNat)), w)) ∨ (∃ c9, c9 ≠ 0 ∧ k_span (v 7) z0 z1 z2 = c9 ∧ u = (zu v 0 c9, f, w))) (fun (u : ZS) t => match u with | (v9, f9, w9) => va_P (dC, dI) vwCl (wM b cI v9 f9 w9) t.heap ∧ va_K (dC, dI) vwCl [(cI, .int)] t ∧ va_D (va_A (wM b cI v f w) sz) (wM b cI v9 f9 w9)) (va_A (wM b cI v f w) sz)) 0 0 (va_A (wM b cI v f w) sz) := by
  refine Met.ofW (cc := prog_7_method_9_code) (maxL := 4) (ret := none) (by decide) rfl ?_
  intro p e s m args below meth c s₁ B hml hv
  obtain ⟨rfl, hsz, hP, hK, hD0⟩ := hv
  have hx := B.exec
  have hb := B.bytes
  have hr := B.returns
  have hz : ∀ w ∈ zW, w.before ([.ref (b 0), .int (p0), .int (p1), .int (p2)]).toArray s = true := fun w h => atoms_spec (ws := (zw_Model_span :: zW)) B.pre w (List.mem_cons_of_mem _ h)
  have hown : s.vm.findClass "CutLengthsModel" = some m.cls := findClass_of_methodNamed B.named
  have hlocks := B.notSynchronized
  subst hsz
  have hD := hD0.self (sz := s.heap.size)
  generalize hAe : va_A (wM b cI v f w) s.heap.size = A at hD ⊢
  have hA : ∀ q : Nat, s.heap.size ≤ q → A q := fun q h => by rw [← hAe]; exact Or.inr h
  have hS : va_S A s.heap s.heap [] := va_S.rf
  have hP : va_P (dC, dI) vwCl (wM b cI v f w) s.heap := hP
  obtain ⟨j3, j4, j5, j6, j7, j8, j9, j10, j1, j2, jw, jb, jr, jsl⟩ := id hJ
  have hl := lv_entry ([.ref (b 0), .int (p0), .int (p1), .int (p2)]) (n := 4) (Nat.le_of_ble_eq_true rfl)
  rw [lg_entry_eq]
  generalize (lg_sl ([.ref (b 0), .int (p0), .int (p1), .int (p2)]) ++ List.replicate (4 - (lg_sl ([.ref (b 0), .int (p0), .int (p1), .int (p2)])).length) Slot.unset).toArray = ls at hl ⊢
  have hl : lv_has ls 4 [(0, .ref (b 0)), (1, .int (p0)), (2, .int (p1)), (3, .int (p2))] := hl
  refine lv_aload_n hx hb d_Model_span_0 rfl (lv_at hl 0 rfl) ?_
  refine lv_iload_n hx hb d_Model_span_1 rfl (lv_at hl 1 rfl) ?_
  refine lv_iconst (v := nI (0)) hx hb d_Model_span_2 (by decide) ?_
  refine lv_aload_n hx hb d_Model_span_3 rfl (lv_at hl 0 rfl) ?_
  refine va_get (D := (dC, dI)) (ci := 5) (v := .int (nI (v 7))) (C := "CutLengthsModel") (T := T_Model) (N := 24) hx hb hz i_Model hown hK hP 0 rfl rfl 7 (by decide) (hz _ tw_488) (fun _ h9 => h9) rfl d_Model_span_4 ?_
  refine lv_iconst (v := nI (1)) hx hb d_Model_span_7 (by decide) ?_
  refine lv_isub hx hb d_Model_span_8 ?_
  refine zz_ro (va_runS (As := [.int (p0), .int (nI (0)), .int (nI (v 7) - nI (1))]) (rest := [.ref (b 0)]) ⟨hx, hb, hml, hown, hz⟩ (c_Model_in l (p0) (nI (0)) (nI (v 7) - nI (1)) (z0) ((0 : Int)) (((v 7 : Nat) : Int) - ((1 : Nat) : Int)) (h0) ((by decide)) (pk_sub_toInt (by omega) (by omega))) (va_cwS 3 hz (zgS tw_563 tw_564 tw_20 tw_565) rfl rfl rfl (by decide +kernel) ⟨Nat.le_of_ble_eq_true rfl, Nat.le_of_ble_eq_true rfl⟩) ⟨fun _ _ _ _ q => q, fun U hU hW => ⟨rfl, trivial⟩⟩ rfl rfl hl.1 rfl (lv_room (Nat.le_of_ble_eq_true rfl)) d_Model_span_9 ⟨Nat.zero_le _, Nat.zero_le _⟩) ?_
  by_cases q_9 : ((0 : Int)) ≤ (z0) ∧ (z0) ≤ (((v 7 : Nat) : Int) - ((1 : Nat) : Int))
  · refine zz_top (congrArg nI (if_pos q_9)) ?_
    refine lv_if_ne (tgt := 19) hx hb d_Model_span_12 (by decide) (fun _ => ?_) (fun c9 => absurd c9 (by decide))
    refine lv_iconst (v := nI (0)) hx hb d_Model_span_19 (by decide) ?_
    refine lv_iload_n hx hb d_Model_span_20 rfl (lv_at hl 2 rfl) ?_
    refine lv_iload_n hx hb d_Model_span_21 rfl (lv_at hl 3 rfl) ?_
    refine zz_ro (va_runS (As := [.int (p1), .int (p2)]) (rest := [.int (nI (0)), .ref (b 0)]) ⟨hx, hb, hml, hown, hz⟩ (c_Model_isSpan l (p1) (p2) (z1) (z2) (h1) (h2)) (va_cwS 2 hz (zgS tw_579 tw_580 tw_20 tw_581) rfl rfl rfl (by decide +kernel) ⟨Nat.le_of_ble_eq_true rfl, Nat.le_of_ble_eq_true rfl⟩) ⟨fun _ _ _ _ q => q, fun U hU hW => ⟨rfl, trivial⟩⟩ rfl rfl hl.1 rfl (lv_room (Nat.le_of_ble_eq_true rfl)) d_Model_span_22 ⟨Nat.zero_le _, Nat.zero_le _⟩) ?_
    by_cases q_22 : (1 ≤ (z1) ∧ (z1) ≤ 60) ∧ (z1) ≤ (z2) ∧ (z2) ≤ 60
    · refine zz_top (congrArg nI (if_pos q_22)) ?_
      refine lv_if_ne (tgt := 32) hx hb d_Model_span_25 (by decide) (fun _ => ?_) (fun c9 => absurd c9 (by decide))
      refine lv_iconst (v := nI (0)) hx hb d_Model_span_32 (by decide) ?_
      have hFc := va_free (wc := (wM b cI v f w)) hD hS hA [0, 1, 2, 3, 4, 5, 6, 7, 8, 9, 10, 11, 12, 13] rfl
      refine va_calli (va_runV (As := [.int (nI (0)), .int (nI (0))]) (rest := []) ⟨hx, hb, hml, hown, hz⟩ (c_Model_throwing_00 l dC dI b cI v f w (s.heap).size ) (cwV (C := "CutLengthsModel") 2 hz (zgV tw_567 tw_569 tw_8 tw_20 tw_570) rfl rfl rfl (by decide +kernel) ⟨Nat.le_of_ble_eq_true rfl, Nat.le_of_ble_eq_true rfl⟩) ⟨(fun a U g mk q => by obtain ⟨q0, q1, qP, qK, qD⟩ := q; exact ⟨q0, q1, qP, va_K.moved (u := U) (U := U.calling g mk a) (Vm.Alike.refl U.vm) qK, qD⟩), va_recv hK hP (ci := 5) (q0 := 0) rfl rfl, fun U hU hW => ⟨rfl, by rw [hU], by rw [hU]; exact hP, va_K.moved hW.alike hK, hD.weaken (fun _ _ _ _ => trivial)⟩⟩ rfl rfl hl.1 rfl (lv_room (Nat.le_of_ble_eq_true rfl)) d_Model_span_33 ⟨Nat.zero_le _, Nat.zero_le _⟩) hS (fun q _ h => hFc q h) hFc (fun r_33 u9 t9 H1 locs ht hvm hw hB hz1 hk1 hS => ?_)
      obtain ⟨hP1, hK1, hD1⟩ := hB
      rw [ht] at hP1
      obtain ⟨hP, hD⟩ := va_join (wr := []) (w1 := (wM b cI (zu v 0 (0)) f w)) hP hD [0, 1, 2, 3, 4, 5, 6, 7, 8, 9, 10, 11, 12, 13] [] rfl rfl (by decide) (by decide) hk1 hFc hP1 hD1
      generalize H1 = H at hP hS ⊢
      have hP : va_P (dC, dI) vwCl (wM b cI (zu v 0 (0)) f w) H := hP
      have hD : va_D A (wM b cI (zu v 0 (0)) f w) := hD
      refine zz_top (hw) ?_
      refine lv_if_eq (tgt := 40) hx hb d_Model_span_36 (by decide) (fun _ => ?_) (fun c9 => absurd c9 (by decide))
      refine lv_aload_n hx hb d_Model_span_40 rfl (lv_at hl 0 rfl) ?_
      refine va_get (D := (dC, dI)) (ci := 5) (v := .ref (b 1)) (C := "CutLengthsModel") (T := T_Model) (N := 24) hx hb hz i_Model hown hK hP 0 rfl rfl 8 (by decide) (hz _ tw_489) (fun _ h9 => h9) rfl d_Model_span_41 ?_
      refine lv_iload_n hx hb d_Model_span_44 rfl (lv_at hl 1 rfl) ?_
      refine zz_top (zz_nat h0 (by omega)) ?_
      refine lv_iload_n hx hb d_Model_span_45 rfl (lv_at hl 2 rfl) ?_
      refine zz_top (zz_nat h1 (by omega)) ?_
      refine zz_nast hx hb hK hP hD hS 1 0 (f := f 0) (i := z0.toNat) (x := z1.toNat) rfl rfl (by omega) (by decide) d_Model_span_46 (fun H locs hP hD hS => ?_)
      have hP : va_P (dC, dI) vwCl (wM b cI (zu v 0 (0)) (zu f 0 (va_up (f 0) z0.toNat z1.toNat)) w) H := hP
      have hD : va_D A (wM b cI (zu v 0 (0)) (zu f 0 (va_up (f 0) z0.toNat z1.toNat)) w) := hD
      refine lv_aload_n hx hb d_Model_span_47 rfl (lv_at hl 0 rfl) ?_
      refine va_get (D := (dC, dI)) (ci := 5) (v := .ref (b 2)) (C := "CutLengthsModel") (T := T_Model) (N := 24) hx hb hz i_Model hown hK hP 0 rfl rfl 9 (by decide) (hz _ tw_490) (fun _ h9 => h9) rfl d_Model_span_48 ?_
      refine lv_iload_n hx hb d_Model_span_51 rfl (lv_at hl 1 rfl) ?_
      refine zz_top (zz_nat h0 (by omega)) ?_
      refine lv_iload_n hx hb d_Model_span_52 rfl (lv_at hl 3 rfl) ?_
      refine zz_top (zz_nat h2 (by omega)) ?_
      refine zz_nast hx hb hK hP hD hS 2 0 (f := f 1) (i := z0.toNat) (x := z2.toNat) rfl rfl (by omega) (by decide) d_Model_span_53 (fun H locs hP hD hS => ?_)
      have hP : va_P (dC, dI) vwCl (wM b cI (zu v 0 (0)) (zu (zu f 0 (va_up (f 0) z0.toNat z1.toNat)) 1 (va_up (f 1) z0.toNat z2.toNat)) w) H := hP
      have hD : va_D A (wM b cI (zu v 0 (0)) (zu (zu f 0 (va_up (f 0) z0.toNat z1.toNat)) 1 (va_up (f 1) z0.toNat z2.toNat)) w) := hD
      exact W.vret hx hb hr (fun t9 ht hW => ⟨⟨((zu v 0 (0)), (zu (zu f 0 (va_up (f 0) z0.toNat z1.toNat)) 1 (va_up (f 1) z0.toNat z2.toNat)), w), rfl, (Or.inl ⟨(by unfold k_span; rw [if_neg (by omega), if_neg (by omega)]), rfl⟩), by rw [ht]; exact hP, va_K.moved hW.alike hK, hD⟩, hS.F ht⟩) hS.2.2 d_Model_span_54
    · refine zz_top (congrArg nI (if_neg q_22)) ?_
      refine lv_if_ne (tgt := 32) hx hb d_Model_span_25 (by decide) (fun c9 => absurd c9 (by decide)) (fun _ => ?_)
      refine lv_iconst (v := nI (1)) hx hb d_Model_span_28 (by decide) ?_
      refine lv_goto (tgt := 33) hx hb d_Model_span_29 (by decide) ?_
      have hFc := va_free (wc := (wM b cI v f w)) hD hS hA [0, 1, 2, 3, 4, 5, 6, 7, 8, 9, 10, 11, 12, 13] rfl
      refine va_calli (va_runV (As := [.int (nI (0)), .int (nI (1))]) (rest := []) ⟨hx, hb, hml, hown, hz⟩ (c_Model_throwing_01 l dC dI b cI v f w (s.heap).size ) (cwV (C := "CutLengthsModel") 2 hz (zgV tw_567 tw_569 tw_8 tw_20 tw_570) rfl rfl rfl (by decide +kernel) ⟨Nat.le_of_ble_eq_true rfl, Nat.le_of_ble_eq_true rfl⟩) ⟨(fun a U g mk q => by obtain ⟨q0, q1, qP, qK, qD⟩ := q; exact ⟨q0, q1, qP, va_K.moved (u := U) (U := U.calling g mk a) (Vm.Alike.refl U.vm) qK, qD⟩), va_recv hK hP (ci := 5) (q0 := 0) rfl rfl, fun U hU hW => ⟨rfl, by rw [hU], by rw [hU]; exact hP, va_K.moved hW.alike hK, hD.weaken (fun _ _ _ _ => trivial)⟩⟩ rfl rfl hl.1 rfl (lv_room (Nat.le_of_ble_eq_true rfl)) d_Model_span_33 ⟨Nat.zero_le _, Nat.zero_le _⟩) hS (fun q _ h => hFc q h) hFc (fun r_33 u9 t9 H1 locs ht hvm hw hB hz1 hk1 hS => ?_)
      obtain ⟨hP1, hK1, hD1⟩ := hB
      rw [ht] at hP1
      obtain ⟨hP, hD⟩ := va_join (wr := []) (w1 := (wM b cI (zu v 0 (2)) f w)) hP hD [0, 1, 2, 3, 4, 5, 6, 7, 8, 9, 10, 11, 12, 13] [] rfl rfl (by decide) (by decide) hk1 hFc hP1 hD1
      generalize H1 = H at hP hS ⊢
      have hP : va_P (dC, dI) vwCl (wM b cI (zu v 0 (2)) f w) H := hP
      have hD : va_D A (wM b cI (zu v 0 (2)) f w) := hD
      refine zz_top (hw) ?_
      refine lv_if_eq (tgt := 40) hx hb d_Model_span_36 (by decide) (fun c9 => absurd c9 (by decide)) (fun _ => ?_)
      exact W.vret hx hb hr (fun t9 ht hW => ⟨⟨((zu v 0 (2)), f, w), rfl, (Or.inr ⟨2, by decide, (by unfold k_span; rw [if_neg (by omega), if_pos (by omega)]), rfl⟩), by rw [ht]; exact hP, va_K.moved hW.alike hK, hD⟩, hS.F ht⟩) hS.2.2 d_Model_span_39
  · refine zz_top (congrArg nI (if_neg q_9)) ?_
    refine lv_if_ne (tgt := 19) hx hb d_Model_span_12 (by decide) (fun c9 => absurd c9 (by decide)) (fun _ => ?_)
    refine lv_iconst (v := nI (1)) hx hb d_Model_span_15 (by decide) ?_
    refine lv_goto (tgt := 20) hx hb d_Model_span_16 (by decide) ?_
    refine lv_iload_n hx hb d_Model_span_20 rfl (lv_at hl 2 rfl) ?_
    refine lv_iload_n hx hb d_Model_span_21 rfl (lv_at hl 3 rfl) ?_
    refine zz_ro (va_runS (As := [.int (p1), .int (p2)]) (rest := [.int (nI (1)), .ref (b 0)]) ⟨hx, hb, hml, hown, hz⟩ (c_Model_isSpan l (p1) (p2) (z1) (z2) (h1) (h2)) (va_cwS 2 hz (zgS tw_579 tw_580 tw_20 tw_581) rfl rfl rfl (by decide +kernel) ⟨Nat.le_of_ble_eq_true rfl, Nat.le_of_ble_eq_true rfl⟩) ⟨fun _ _ _ _ q => q, fun U hU hW => ⟨rfl, trivial⟩⟩ rfl rfl hl.1 rfl (lv_room (Nat.le_of_ble_eq_true rfl)) d_Model_span_22 ⟨Nat.zero_le _, Nat.zero_le _⟩) ?_
    by_cases q_22 : (1 ≤ (z1) ∧ (z1) ≤ 60) ∧ (z1) ≤ (z2) ∧ (z2) ≤ 60
    · refine zz_top (congrArg nI (if_pos q_22)) ?_
      refine lv_if_ne (tgt := 32) hx hb d_Model_span_25 (by decide) (fun _ => ?_) (fun c9 => absurd c9 (by decide))
      refine lv_iconst (v := nI (0)) hx hb d_Model_span_32 (by decide) ?_
      have hFc := va_free (wc := (wM b cI v f w)) hD hS hA [0, 1, 2, 3, 4, 5, 6, 7, 8, 9, 10, 11, 12, 13] rfl
      refine va_calli (va_runV (As := [.int (nI (1)), .int (nI (0))]) (rest := []) ⟨hx, hb, hml, hown, hz⟩ (c_Model_throwing_10 l dC dI b cI v f w (s.heap).size ) (cwV (C := "CutLengthsModel") 2 hz (zgV tw_567 tw_569 tw_8 tw_20 tw_570) rfl rfl rfl (by decide +kernel) ⟨Nat.le_of_ble_eq_true rfl, Nat.le_of_ble_eq_true rfl⟩) ⟨(fun a U g mk q => by obtain ⟨q0, q1, qP, qK, qD⟩ := q; exact ⟨q0, q1, qP, va_K.moved (u := U) (U := U.calling g mk a) (Vm.Alike.refl U.vm) qK, qD⟩), va_recv hK hP (ci := 5) (q0 := 0) rfl rfl, fun U hU hW => ⟨rfl, by rw [hU], by rw [hU]; exact hP, va_K.moved hW.alike hK, hD.weaken (fun _ _ _ _ => trivial)⟩⟩ rfl rfl hl.1 rfl (lv_room (Nat.le_of_ble_eq_true rfl)) d_Model_span_33 ⟨Nat.zero_le _, Nat.zero_le _⟩) hS (fun q _ h => hFc q h) hFc (fun r_33 u9 t9 H1 locs ht hvm hw hB hz1 hk1 hS => ?_)
      obtain ⟨hP1, hK1, hD1⟩ := hB
      rw [ht] at hP1
      obtain ⟨hP, hD⟩ := va_join (wr := []) (w1 := (wM b cI (zu v 0 (1)) f w)) hP hD [0, 1, 2, 3, 4, 5, 6, 7, 8, 9, 10, 11, 12, 13] [] rfl rfl (by decide) (by decide) hk1 hFc hP1 hD1
      generalize H1 = H at hP hS ⊢
      have hP : va_P (dC, dI) vwCl (wM b cI (zu v 0 (1)) f w) H := hP
      have hD : va_D A (wM b cI (zu v 0 (1)) f w) := hD
      refine zz_top (hw) ?_
      refine lv_if_eq (tgt := 40) hx hb d_Model_span_36 (by decide) (fun c9 => absurd c9 (by decide)) (fun _ => ?_)
      exact W.vret hx hb hr (fun t9 ht hW => ⟨⟨((zu v 0 (1)), f, w), rfl, (Or.inr ⟨1, by decide, (by unfold k_span; rw [if_pos (by omega)]), rfl⟩), by rw [ht]; exact hP, va_K.moved hW.alike hK, hD⟩, hS.F ht⟩) hS.2.2 d_Model_span_39
    · refine zz_top (congrArg nI (if_neg q_22)) ?_
      refine lv_if_ne (tgt := 32) hx hb d_Model_span_25 (by decide) (fun c9 => absurd c9 (by decide)) (fun _ => ?_)
      refine lv_iconst (v := nI (1)) hx hb d_Model_span_28 (by decide) ?_
      refine lv_goto (tgt := 33) hx hb d_Model_span_29 (by decide) ?_
      have hFc := va_free (wc := (wM b cI v f w)) hD hS hA [0, 1, 2, 3, 4, 5, 6, 7, 8, 9, 10, 11, 12, 13] rfl
      refine va_calli (va_runV (As := [.int (nI (1)), .int (nI (1))]) (rest := []) ⟨hx, hb, hml, hown, hz⟩ (c_Model_throwing_11 l dC dI b cI v f w (s.heap).size ) (cwV (C := "CutLengthsModel") 2 hz (zgV tw_567 tw_569 tw_8 tw_20 tw_570) rfl rfl rfl (by decide +kernel) ⟨Nat.le_of_ble_eq_true rfl, Nat.le_of_ble_eq_true rfl⟩) ⟨(fun a U g mk q => by obtain ⟨q0, q1, qP, qK, qD⟩ := q; exact ⟨q0, q1, qP, va_K.moved (u := U) (U := U.calling g mk a) (Vm.Alike.refl U.vm) qK, qD⟩), va_recv hK hP (ci := 5) (q0 := 0) rfl rfl, fun U hU hW => ⟨rfl, by rw [hU], by rw [hU]; exact hP, va_K.moved hW.alike hK, hD.weaken (fun _ _ _ _ => trivial)⟩⟩ rfl rfl hl.1 rfl (lv_room (Nat.le_of_ble_eq_true rfl)) d_Model_span_33 ⟨Nat.zero_le _, Nat.zero_le _⟩) hS (fun q _ h => hFc q h) hFc (fun r_33 u9 t9 H1 locs ht hvm hw hB hz1 hk1 hS => ?_)
      obtain ⟨hP1, hK1, hD1⟩ := hB
      rw [ht] at hP1
      obtain ⟨hP, hD⟩ := va_join (wr := []) (w1 := (wM b cI (zu v 0 (1)) f w)) hP hD [0, 1, 2, 3, 4, 5, 6, 7, 8, 9, 10, 11, 12, 13] [] rfl rfl (by decide) (by decide) hk1 hFc hP1 hD1
      generalize H1 = H at hP hS ⊢
      have hP : va_P (dC, dI) vwCl (wM b cI (zu v 0 (1)) f w) H := hP
      have hD : va_D A (wM b cI (zu v 0 (1)) f w) := hD
      refine zz_top (hw) ?_
      refine lv_if_eq (tgt := 40) hx hb d_Model_span_36 (by decide) (fun c9 => absurd c9 (by decide)) (fun _ => ?_)
      exact W.vret hx hb hr (fun t9 ht hW => ⟨⟨((zu v 0 (1)), f, w), rfl, (Or.inr ⟨1, by decide, (by unfold k_span; rw [if_pos (by omega)]), rfl⟩), by rw [ht]; exact hP, va_K.moved hW.alike hK, hD⟩, hS.F ht⟩) hS.2.2 d_Model_span_39
set_option maxHeartbeats 4000000 in
set_option maxRecDepth 100000 in
theorem c_Model_trim (l : Launch) (dC : Nat → ClassId) (dI : Nat → Nat → Nat) (b : Nat → Nat) (cI : ClassId) (v : Nat → Nat) (f : Nat → Nat → Nat) (w : Nat → Nat → Int32) (sz : Nat) (p0 : Int32) (z0 : Int) (h0 : p0.toInt = z0) (p1 : Int32) (z1 : Int) (h1 : p1.toInt = z1) (hJ : zJ v f) : Met l y_Model_trim (zw_Model_trim :: zW) ({ frames := 1, cells := 0, slots := 0, locals := 22 }) (va_Pc [.ref (b 0), .int (p0), .int (p1)] (fun U => U.heap.size = sz ∧ va_P (dC, dI) vwCl (wM b cI v f w) U.heap ∧ va_K (dC, dI) vwCl [(cI, .int)] U ∧ va_D (fun _ => True) (wM b cI v f w))) (va_Qv (fun (u : ZS) => (k_trim z0 z1 = 0 ∧ u = ((zu (zu (zu v 0 (0)) 5 (z0.toNat)) 6 (z1.toNat)), f, w)) ∨ (∃ c9, c9 ≠ 0 ∧ k_trim z0 z1 = c9 ∧ u = (zu v 0 c9, f, w))) (fun (u : ZS) t => match u with | (v9, f9, w9) => va_P (dC, dI) vwCl (wM b cI v9 f9 w9) t.heap ∧ va_K (dC, dI) vwCl [(cI, .int)] t ∧ va_D (va_A (wM b cI v f w) sz) (wM b cI v9 f9 w9)) (va_A (wM b cI v f w) sz)) 0 0 (va_A (wM b cI v f w) sz) := by
  refine Met.ofW (cc := prog_7_method_10_code) (maxL := 3) (ret := none) (by decide) rfl ?_
  intro p e s m args below meth c s₁ B hml hv
  obtain ⟨rfl, hsz, hP, hK, hD0⟩ := hv
  have hx := B.exec
  have hb := B.bytes
  have hr := B.returns
  have hz : ∀ w ∈ zW, w.before ([.ref (b 0), .int (p0), .int (p1)]).toArray s = true := fun w h => atoms_spec (ws := (zw_Model_trim :: zW)) B.pre w (List.mem_cons_of_mem _ h)
  have hown : s.vm.findClass "CutLengthsModel" = some m.cls := findClass_of_methodNamed B.named
  have hlocks := B.notSynchronized
  subst hsz
  have hD := hD0.self (sz := s.heap.size)
  generalize hAe : va_A (wM b cI v f w) s.heap.size = A at hD ⊢
  have hA : ∀ q : Nat, s.heap.size ≤ q → A q := fun q h => by rw [← hAe]; exact Or.inr h
  have hS : va_S A s.heap s.heap [] := va_S.rf
  have hP : va_P (dC, dI) vwCl (wM b cI v f w) s.heap := hP
  obtain ⟨j3, j4, j5, j6, j7, j8, j9, j10, j1, j2, jw, jb, jr, jsl⟩ := id hJ
  have hl := lv_entry ([.ref (b 0), .int (p0), .int (p1)]) (n := 3) (Nat.le_of_ble_eq_true rfl)
  rw [lg_entry_eq]
  generalize (lg_sl ([.ref (b 0), .int (p0), .int (p1)]) ++ List.replicate (3 - (lg_sl ([.ref (b 0), .int (p0), .int (p1)])).length) Slot.unset).toArray = ls at hl ⊢
  have hl : lv_has ls 3 [(0, .ref (b 0)), (1, .int (p0)), (2, .int (p1))] := hl
  refine lv_aload_n hx hb d_Model_trim_0 rfl (lv_at hl 0 rfl) ?_
  refine lv_iload_n hx hb d_Model_trim_1 rfl (lv_at hl 1 rfl) ?_
  refine lv_iconst (v := nI (0)) hx hb d_Model_trim_2 (by decide) ?_
  refine lv_sipush (v := nI (300)) hx hb d_Model_trim_3 (by decide) ?_
  refine zz_ro (va_runS (As := [.int (p0), .int (nI (0)), .int (nI (300))]) (rest := [.ref (b 0)]) ⟨hx, hb, hml, hown, hz⟩ (c_Model_in l (p0) (nI (0)) (nI (300)) (z0) ((0 : Int)) ((300 : Int)) (h0) ((by decide)) ((by decide))) (va_cwS 3 hz (zgS tw_563 tw_564 tw_20 tw_565) rfl rfl rfl (by decide +kernel) ⟨Nat.le_of_ble_eq_true rfl, Nat.le_of_ble_eq_true rfl⟩) ⟨fun _ _ _ _ q => q, fun U hU hW => ⟨rfl, trivial⟩⟩ rfl rfl hl.1 rfl (lv_room (Nat.le_of_ble_eq_true rfl)) d_Model_trim_6 ⟨Nat.zero_le _, Nat.zero_le _⟩) ?_
  by_cases q_6 : ((0 : Int)) ≤ (z0) ∧ (z0) ≤ ((300 : Int))
  · refine zz_top (congrArg nI (if_pos q_6)) ?_
    refine lv_if_eq (tgt := 23) hx hb d_Model_trim_9 (by decide) (fun c9 => absurd c9 (by decide)) (fun _ => ?_)
    refine lv_iload_n hx hb d_Model_trim_12 rfl (lv_at hl 2 rfl) ?_
    refine lv_iconst (v := nI (0)) hx hb d_Model_trim_13 (by decide) ?_
    refine lv_sipush (v := nI (300)) hx hb d_Model_trim_14 (by decide) ?_
    refine zz_ro (va_runS (As := [.int (p1), .int (nI (0)), .int (nI (300))]) (rest := [.ref (b 0)]) ⟨hx, hb, hml, hown, hz⟩ (c_Model_in l (p1) (nI (0)) (nI (300)) (z1) ((0 : Int)) ((300 : Int)) (h1) ((by decide)) ((by decide))) (va_cwS 3 hz (zgS tw_563 tw_564 tw_20 tw_565) rfl rfl rfl (by decide +kernel) ⟨Nat.le_of_ble_eq_true rfl, Nat.le_of_ble_eq_true rfl⟩) ⟨fun _ _ _ _ q => q, fun U hU hW => ⟨rfl, trivial⟩⟩ rfl rfl hl.1 rfl (lv_room (Nat.le_of_ble_eq_true rfl)) d_Model_trim_17 ⟨Nat.zero_le _, Nat.zero_le _⟩) ?_
    by_cases q_17 : ((0 : Int)) ≤ (z1) ∧ (z1) ≤ ((300 : Int))
    · refine zz_top (congrArg nI (if_pos q_17)) ?_
      refine lv_if_ne (tgt := 27) hx hb d_Model_trim_20 (by decide) (fun _ => ?_) (fun c9 => absurd c9 (by decide))
      refine lv_iconst (v := nI (0)) hx hb d_Model_trim_27 (by decide) ?_
      refine lv_iconst (v := nI (0)) hx hb d_Model_trim_28 (by decide) ?_
      have hFc := va_free (wc := (wM b cI v f w)) hD hS hA [0, 1, 2, 3, 4, 5, 6, 7, 8, 9, 10, 11, 12, 13] rfl
      refine va_calli (va_runV (As := [.int (nI (0)), .int (nI (0))]) (rest := []) ⟨hx, hb, hml, hown, hz⟩ (c_Model_throwing_00 l dC dI b cI v f w (s.heap).size ) (cwV (C := "CutLengthsModel") 2 hz (zgV tw_567 tw_569 tw_8 tw_20 tw_570) rfl rfl rfl (by decide +kernel) ⟨Nat.le_of_ble_eq_true rfl, Nat.le_of_ble_eq_true rfl⟩) ⟨(fun a U g mk q => by obtain ⟨q0, q1, qP, qK, qD⟩ := q; exact ⟨q0, q1, qP, va_K.moved (u := U) (U := U.calling g mk a) (Vm.Alike.refl U.vm) qK, qD⟩), va_recv hK hP (ci := 5) (q0 := 0) rfl rfl, fun U hU hW => ⟨rfl, by rw [hU], by rw [hU]; exact hP, va_K.moved hW.alike hK, hD.weaken (fun _ _ _ _ => trivial)⟩⟩ rfl rfl hl.1 rfl (lv_room (Nat.le_of_ble_eq_true rfl)) d_Model_trim_29 ⟨Nat.zero_le _, Nat.zero_le _⟩) hS (fun q _ h => hFc q h) hFc (fun r_29 u9 t9 H1 locs ht hvm hw hB hz1 hk1 hS => ?_)
      obtain ⟨hP1, hK1, hD1⟩ := hB
      rw [ht] at hP1
      obtain ⟨hP, hD⟩ := va_join (wr := []) (w1 := (wM b cI (zu v 0 (0)) f w)) hP hD [0, 1, 2, 3, 4, 5, 6, 7, 8, 9, 10, 11, 12, 13] [] rfl rfl (by decide) (by decide) hk1 hFc hP1 hD1
      generalize H1 = H at hP hS ⊢
      have hP : va_P (dC, dI) vwCl (wM b cI (zu v 0 (0)) f w) H := hP
      have hD : va_D A (wM b cI (zu v 0 (0)) f w) := hD
      refine zz_top (hw) ?_
      refine lv_if_eq (tgt := 36) hx hb d_Model_trim_32 (by decide) (fun _ => ?_) (fun c9 => absurd c9 (by decide))
      refine lv_aload_n hx hb d_Model_trim_36 rfl (lv_at hl 0 rfl) ?_
      refine lv_iload_n hx hb d_Model_trim_37 rfl (lv_at hl 1 rfl) ?_
      refine zz_top (zz_nat h0 (by omega)) ?_
      refine va_put (D := (dC, dI)) (ci := 5) (v := .int (nI (z0.toNat))) (ty := .int) (C := "CutLengthsModel") (T := T_Model) (N := 24) hx hb hz i_Model t_Model t_Model_ok n_Model hown hK hP hD hS 0 rfl rfl 5 (by decide) (hz _ tw_486) (fun _ h9 => h9) rfl (by decide +kernel) rfl rfl (Nat.le_of_ble_eq_true rfl) d_Model_trim_38 (fun H locs hP hD hS => ?_)
      have hP : va_P (dC, dI) vwCl (wM b cI (zu (zu v 0 (0)) 5 (z0.toNat)) f w) H := hP
      have hD : va_D A (wM b cI (zu (zu v 0 (0)) 5 (z0.toNat)) f w) := hD
      refine lv_aload_n hx hb d_Model_trim_41 rfl (lv_at hl 0 rfl) ?_
      refine lv_iload_n hx hb d_Model_trim_42 rfl (lv_at hl 2 rfl) ?_
      refine zz_top (zz_nat h1 (by omega)) ?_
      refine va_put (D := (dC, dI)) (ci := 5) (v := .int (nI (z1.toNat))) (ty := .int) (C := "CutLengthsModel") (T := T_Model) (N := 24) hx hb hz i_Model t_Model t_Model_ok n_Model hown hK hP hD hS 0 rfl rfl 6 (by decide) (hz _ tw_487) (fun _ h9 => h9) rfl (by decide +kernel) rfl rfl (Nat.le_of_ble_eq_true rfl) d_Model_trim_43 (fun H locs hP hD hS => ?_)
      have hP : va_P (dC, dI) vwCl (wM b cI (zu (zu (zu v 0 (0)) 5 (z0.toNat)) 6 (z1.toNat)) f w) H := hP
      have hD : va_D A (wM b cI (zu (zu (zu v 0 (0)) 5 (z0.toNat)) 6 (z1.toNat)) f w) := hD
      exact W.vret hx hb hr (fun t9 ht hW => ⟨⟨((zu (zu (zu v 0 (0)) 5 (z0.toNat)) 6 (z1.toNat)), f, w), rfl, (Or.inl ⟨(by unfold k_trim; rw [if_neg (by omega)]), rfl⟩), by rw [ht]; exact hP, va_K.moved hW.alike hK, hD⟩, hS.F ht⟩) hS.2.2 d_Model_trim_46
    · refine zz_top (congrArg nI (if_neg q_17)) ?_
      refine lv_if_ne (tgt := 27) hx hb d_Model_trim_20 (by decide) (fun c9 => absurd c9 (by decide)) (fun _ => ?_)
      refine lv_iconst (v := nI (1)) hx hb d_Model_trim_23 (by decide) ?_
      refine lv_goto (tgt := 28) hx hb d_Model_trim_24 (by decide) ?_
      refine lv_iconst (v := nI (0)) hx hb d_Model_trim_28 (by decide) ?_
      have hFc := va_free (wc := (wM b cI v f w)) hD hS hA [0, 1, 2, 3, 4, 5, 6, 7, 8, 9, 10, 11, 12, 13] rfl
      refine va_calli (va_runV (As := [.int (nI (1)), .int (nI (0))]) (rest := []) ⟨hx, hb, hml, hown, hz⟩ (c_Model_throwing_10 l dC dI b cI v f w (s.heap).size ) (cwV (C := "CutLengthsModel") 2 hz (zgV tw_567 tw_569 tw_8 tw_20 tw_570) rfl rfl rfl (by decide +kernel) ⟨Nat.le_of_ble_eq_true rfl, Nat.le_of_ble_eq_true rfl⟩) ⟨(fun a U g mk q => by obtain ⟨q0, q1, qP, qK, qD⟩ := q; exact ⟨q0, q1, qP, va_K.moved (u := U) (U := U.calling g mk a) (Vm.Alike.refl U.vm) qK, qD⟩), va_recv hK hP (ci := 5) (q0 := 0) rfl rfl, fun U hU hW => ⟨rfl, by rw [hU], by rw [hU]; exact hP, va_K.moved hW.alike hK, hD.weaken (fun _ _ _ _ => trivial)⟩⟩ rfl rfl hl.1 rfl (lv_room (Nat.le_of_ble_eq_true rfl)) d_Model_trim_29 ⟨Nat.zero_le _, Nat.zero_le _⟩) hS (fun q _ h => hFc q h) hFc (fun r_29 u9 t9 H1 locs ht hvm hw hB hz1 hk1 hS => ?_)
      obtain ⟨hP1, hK1, hD1⟩ := hB
      rw [ht] at hP1
      obtain ⟨hP, hD⟩ := va_join (wr := []) (w1 := (wM b cI (zu v 0 (1)) f w)) hP hD [0, 1, 2, 3, 4, 5, 6, 7, 8, 9, 10, 11, 12, 13] [] rfl rfl (by decide) (by decide) hk1 hFc hP1 hD1
      generalize H1 = H at hP hS ⊢
      have hP : va_P (dC, dI) vwCl (wM b cI (zu v 0 (1)) f w) H := hP
      have hD : va_D A (wM b cI (zu v 0 (1)) f w) := hD
      refine zz_top (hw) ?_
      refine lv_if_eq (tgt := 36) hx hb d_Model_trim_32 (by decide) (fun c9 => absurd c9 (by decide)) (fun _ => ?_)
      exact W.vret hx hb hr (fun t9 ht hW => ⟨⟨((zu v 0 (1)), f, w), rfl, (Or.inr ⟨1, by decide, (by unfold k_trim; rw [if_pos (by omega)]), rfl⟩), by rw [ht]; exact hP, va_K.moved hW.alike hK, hD⟩, hS.F ht⟩) hS.2.2 d_Model_trim_35
  · refine zz_top (congrArg nI (if_neg q_6)) ?_
    refine lv_if_eq (tgt := 23) hx hb d_Model_trim_9 (by decide) (fun _ => ?_) (fun c9 => absurd c9 (by decide))
    refine lv_iconst (v := nI (1)) hx hb d_Model_trim_23 (by decide) ?_
    refine lv_goto (tgt := 28) hx hb d_Model_trim_24 (by decide) ?_
    refine lv_iconst (v := nI (0)) hx hb d_Model_trim_28 (by decide) ?_
    have hFc := va_free (wc := (wM b cI v f w)) hD hS hA [0, 1, 2, 3, 4, 5, 6, 7, 8, 9, 10, 11, 12, 13] rfl
    refine va_calli (va_runV (As := [.int (nI (1)), .int (nI (0))]) (rest := []) ⟨hx, hb, hml, hown, hz⟩ (c_Model_throwing_10 l dC dI b cI v f w (s.heap).size ) (cwV (C := "CutLengthsModel") 2 hz (zgV tw_567 tw_569 tw_8 tw_20 tw_570) rfl rfl rfl (by decide +kernel) ⟨Nat.le_of_ble_eq_true rfl, Nat.le_of_ble_eq_true rfl⟩) ⟨(fun a U g mk q => by obtain ⟨q0, q1, qP, qK, qD⟩ := q; exact ⟨q0, q1, qP, va_K.moved (u := U) (U := U.calling g mk a) (Vm.Alike.refl U.vm) qK, qD⟩), va_recv hK hP (ci := 5) (q0 := 0) rfl rfl, fun U hU hW => ⟨rfl, by rw [hU], by rw [hU]; exact hP, va_K.moved hW.alike hK, hD.weaken (fun _ _ _ _ => trivial)⟩⟩ rfl rfl hl.1 rfl (lv_room (Nat.le_of_ble_eq_true rfl)) d_Model_trim_29 ⟨Nat.zero_le _, Nat.zero_le _⟩) hS (fun q _ h => hFc q h) hFc (fun r_29 u9 t9 H1 locs ht hvm hw hB hz1 hk1 hS => ?_)
    obtain ⟨hP1, hK1, hD1⟩ := hB
    rw [ht] at hP1
    obtain ⟨hP, hD⟩ := va_join (wr := []) (w1 := (wM b cI (zu v 0 (1)) f w)) hP hD [0, 1, 2, 3, 4, 5, 6, 7, 8, 9, 10, 11, 12, 13] [] rfl rfl (by decide) (by decide) hk1 hFc hP1 hD1
    generalize H1 = H at hP hS ⊢
    have hP : va_P (dC, dI) vwCl (wM b cI (zu v 0 (1)) f w) H := hP
    have hD : va_D A (wM b cI (zu v 0 (1)) f w) := hD
    refine zz_top (hw) ?_
    refine lv_if_eq (tgt := 36) hx hb d_Model_trim_32 (by decide) (fun c9 => absurd c9 (by decide)) (fun _ => ?_)
    exact W.vret hx hb hr (fun t9 ht hW => ⟨⟨((zu v 0 (1)), f, w), rfl, (Or.inr ⟨1, by decide, (by unfold k_trim; rw [if_pos (by omega)]), rfl⟩), by rw [ht]; exact hP, va_K.moved hW.alike hK, hD⟩, hS.F ht⟩) hS.2.2 d_Model_trim_35
set_option maxHeartbeats 4000000 in
set_option maxRecDepth 100000 in
theorem c_Model_bad (l : Launch) (dC : Nat → ClassId) (dI : Nat → Nat → Nat) (b : Nat → Nat) (cI : ClassId) (v : Nat → Nat) (f : Nat → Nat → Nat) (w : Nat → Nat → Int32) (sz : Nat) (p0 : Int32) (z0 : Int) (h0 : p0.toInt = z0) (p1 : Int32) (z1 : Int) (h1 : p1.toInt = z1) (hJ : zJ v f) : Met l y_Model_bad (zw_Model_bad :: zW) ({ frames := 2, cells := 0, slots := 0, locals := 43 }) (va_Pc [.ref (b 0), .int (p0), .int (p1)] (fun U => U.heap.size = sz ∧ va_P (dC, dI) vwCl (wM b cI v f w) U.heap ∧ va_K (dC, dI) vwCl [(cI, .int)] U ∧ va_D (fun _ => True) (wM b cI v f w))) (va_Qi (fun (r : Int32) (u : ZS) => (k_bad (v 8) z0 z1 = 0 ∧ u = ((zu (zu v 0 (0)) 8 (v 8 + 1)), (zu (zu f 2 (va_up (f 2) (v 8) z0.toNat)) 3 (va_up (f 3) (v 8) z1.toNat)), w) ∧ r = nI (v 8 + 1)) ∨ (∃ c9, c9 ≠ 0 ∧ k_bad (v 8) z0 z1 = c9 ∧ u = (zu v 0 c9, f, w))) (fun (u : ZS) t => match u with | (v9, f9, w9) => va_P (dC, dI) vwCl (wM b cI v9 f9 w9) t.heap ∧ va_K (dC, dI) vwCl [(cI, .int)] t ∧ va_D (va_A (wM b cI v f w) sz) (wM b cI v9 f9 w9)) (va_A (wM b cI v f w) sz)) 0 0 (va_A (wM b cI v f w) sz) := by
  refine Met.ofW (cc := prog_7_method_12_code) (maxL := 3) (ret := (some .int)) (by decide) rfl ?_
  intro p e s m args below meth c s₁ B hml hv
  obtain ⟨rfl, hsz, hP, hK, hD0⟩ := hv
  have hx := B.exec
  have hb := B.bytes
  have hr := B.returns
  have hz : ∀ w ∈ zW, w.before ([.ref (b 0), .int (p0), .int (p1)]).toArray s = true := fun w h => atoms_spec (ws := (zw_Model_bad :: zW)) B.pre w (List.mem_cons_of_mem _ h)
  have hown : s.vm.findClass "CutLengthsModel" = some m.cls := findClass_of_methodNamed B.named
  have hlocks := B.notSynchronized
  subst hsz
  have hD := hD0.self (sz := s.heap.size)
  generalize hAe : va_A (wM b cI v f w) s.heap.size = A at hD ⊢
  have hA : ∀ q : Nat, s.heap.size ≤ q → A q := fun q h => by rw [← hAe]; exact Or.inr h
  have hS : va_S A s.heap s.heap [] := va_S.rf
  have hP : va_P (dC, dI) vwCl (wM b cI v f w) s.heap := hP
  obtain ⟨j3, j4, j5, j6, j7, j8, j9, j10, j1, j2, jw, jb, jr, jsl⟩ := id hJ
  have hl := lv_entry ([.ref (b 0), .int (p0), .int (p1)]) (n := 3) (Nat.le_of_ble_eq_true rfl)
  rw [lg_entry_eq]
  generalize (lg_sl ([.ref (b 0), .int (p0), .int (p1)]) ++ List.replicate (3 - (lg_sl ([.ref (b 0), .int (p0), .int (p1)])).length) Slot.unset).toArray = ls at hl ⊢
  have hl : lv_has ls 3 [(0, .ref (b 0)), (1, .int (p0)), (2, .int (p1))] := hl
  refine lv_aload_n hx hb d_Model_bad_0 rfl (lv_at hl 0 rfl) ?_
  refine lv_aload_n hx hb d_Model_bad_1 rfl (lv_at hl 0 rfl) ?_
  refine va_get (D := (dC, dI)) (ci := 5) (v := .int (nI (v 8))) (C := "CutLengthsModel") (T := T_Model) (N := 24) hx hb hz i_Model hown hK hP 0 rfl rfl 10 (by decide) (hz _ tw_491) (fun _ h9 => h9) rfl d_Model_bad_2 ?_
  refine lv_bipush (v := nI (20)) hx hb d_Model_bad_5 (by decide) ?_
  refine lv_icmp_ne (tgt := 14) hx hb d_Model_bad_7 (by decide) (fun c_7 => ?_) (fun c_7 => ?_)
  · have c_7 : ¬ (((v 8 : Nat) : Int) = (20 : Int)) := fun q => c_7 ((zz_eq (nI_toInt (by omega)) ((by decide))).mpr q)
    refine lv_iconst (v := nI (0)) hx hb d_Model_bad_14 (by decide) ?_
    refine lv_iload_n hx hb d_Model_bad_15 rfl (lv_at hl 1 rfl) ?_
    refine lv_iload_n hx hb d_Model_bad_16 rfl (lv_at hl 2 rfl) ?_
    refine zz_ro (va_runS (As := [.int (p0), .int (p1)]) (rest := [.int (nI (0)), .ref (b 0)]) ⟨hx, hb, hml, hown, hz⟩ (c_Model_isRow l (p0) (p1) (z0) (z1) (h0) (h1)) (va_cwS 2 hz (zgS tw_594 tw_595 tw_20 tw_596) rfl rfl rfl (by decide +kernel) ⟨Nat.le_of_ble_eq_true rfl, Nat.le_of_ble_eq_true rfl⟩) ⟨fun _ _ _ _ q => q, fun U hU hW => ⟨rfl, trivial⟩⟩ rfl rfl hl.1 rfl (lv_room (Nat.le_of_ble_eq_true rfl)) d_Model_bad_17 ⟨Nat.zero_le _, Nat.zero_le _⟩) ?_
    by_cases q_17 : (0 ≤ (z0) ∧ (z0) ≤ 300) ∧ (z0) ≤ (z1) ∧ (z1) ≤ 300
    · refine zz_top (congrArg nI (if_pos q_17)) ?_
      refine lv_if_ne (tgt := 27) hx hb d_Model_bad_20 (by decide) (fun _ => ?_) (fun c9 => absurd c9 (by decide))
      refine lv_iconst (v := nI (0)) hx hb d_Model_bad_27 (by decide) ?_
      have hFc := va_free (wc := (wM b cI v f w)) hD hS hA [0, 1, 2, 3, 4, 5, 6, 7, 8, 9, 10, 11, 12, 13] rfl
      refine va_calli (va_runV (As := [.int (nI (0)), .int (nI (0))]) (rest := []) ⟨hx, hb, hml, hown, hz⟩ (c_Model_throwing_00 l dC dI b cI v f w (s.heap).size ) (cwV (C := "CutLengthsModel") 2 hz (zgV tw_567 tw_569 tw_8 tw_20 tw_570) rfl rfl rfl (by decide +kernel) ⟨Nat.le_of_ble_eq_true rfl, Nat.le_of_ble_eq_true rfl⟩) ⟨(fun a U g mk q => by obtain ⟨q0, q1, qP, qK, qD⟩ := q; exact ⟨q0, q1, qP, va_K.moved (u := U) (U := U.calling g mk a) (Vm.Alike.refl U.vm) qK, qD⟩), va_recv hK hP (ci := 5) (q0 := 0) rfl rfl, fun U hU hW => ⟨rfl, by rw [hU], by rw [hU]; exact hP, va_K.moved hW.alike hK, hD.weaken (fun _ _ _ _ => trivial)⟩⟩ rfl rfl hl.1 rfl (lv_room (Nat.le_of_ble_eq_true rfl)) d_Model_bad_28 ⟨Nat.zero_le _, Nat.zero_le _⟩) hS (fun q _ h => hFc q h) hFc (fun r_28 u9 t9 H1 locs ht hvm hw hB hz1 hk1 hS => ?_)
      obtain ⟨hP1, hK1, hD1⟩ := hB
      rw [ht] at hP1
      obtain ⟨hP, hD⟩ := va_join (wr := []) (w1 := (wM b cI (zu v 0 (0)) f w)) hP hD [0, 1, 2, 3, 4, 5, 6, 7, 8, 9, 10, 11, 12, 13] [] rfl rfl (by decide) (by decide) hk1 hFc hP1 hD1
      generalize H1 = H at hP hS ⊢
      have hP : va_P (dC, dI) vwCl (wM b cI (zu v 0 (0)) f w) H := hP
      have hD : va_D A (wM b cI (zu v 0 (0)) f w) := hD
      refine zz_top (hw) ?_
      refine lv_if_eq (tgt := 36) hx hb d_Model_bad_31 (by decide) (fun _ => ?_) (fun c9 => absurd c9 (by decide))
      refine lv_aload_n hx hb d_Model_bad_36 rfl (lv_at hl 0 rfl) ?_
      refine va_get (D := (dC, dI)) (ci := 5) (v := .ref (b 3)) (C := "CutLengthsModel") (T := T_Model) (N := 24) hx hb hz i_Model hown hK hP 0 rfl rfl 11 (by decide) (hz _ tw_492) (fun _ h9 => h9) rfl d_Model_bad_37 ?_
      refine lv_aload_n hx hb d_Model_bad_40 rfl (lv_at hl 0 rfl) ?_
      refine va_get (D := (dC, dI)) (ci := 5) (v := .int (nI (v 8))) (C := "CutLengthsModel") (T := T_Model) (N := 24) hx hb hz i_Model hown hK hP 0 rfl rfl 10 (by decide) (hz _ tw_491) (fun _ h9 => h9) rfl d_Model_bad_41 ?_
      refine lv_iload_n hx hb d_Model_bad_44 rfl (lv_at hl 1 rfl) ?_
      refine zz_top (zz_nat h0 (by omega)) ?_
      refine zz_nast hx hb hK hP hD hS 3 0 (f := f 2) (i := v 8) (x := z0.toNat) rfl rfl (by omega) (by decide) d_Model_bad_45 (fun H locs hP hD hS => ?_)
      have hP : va_P (dC, dI) vwCl (wM b cI (zu v 0 (0)) (zu f 2 (va_up (f 2) (v 8) z0.toNat)) w) H := hP
      have hD : va_D A (wM b cI (zu v 0 (0)) (zu f 2 (va_up (f 2) (v 8) z0.toNat)) w) := hD
      refine lv_aload_n hx hb d_Model_bad_46 rfl (lv_at hl 0 rfl) ?_
      refine va_get (D := (dC, dI)) (ci := 5) (v := .ref (b 4)) (C := "CutLengthsModel") (T := T_Model) (N := 24) hx hb hz i_Model hown hK hP 0 rfl rfl 12 (by decide) (hz _ tw_493) (fun _ h9 => h9) rfl d_Model_bad_47 ?_
      refine lv_aload_n hx hb d_Model_bad_50 rfl (lv_at hl 0 rfl) ?_
      refine va_get (D := (dC, dI)) (ci := 5) (v := .int (nI (v 8))) (C := "CutLengthsModel") (T := T_Model) (N := 24) hx hb hz i_Model hown hK hP 0 rfl rfl 10 (by decide) (hz _ tw_491) (fun _ h9 => h9) rfl d_Model_bad_51 ?_
      refine lv_iload_n hx hb d_Model_bad_54 rfl (lv_at hl 2 rfl) ?_
      refine zz_top (zz_nat h1 (by omega)) ?_
      refine zz_nast hx hb hK hP hD hS 4 0 (f := f 3) (i := v 8) (x := z1.toNat) rfl rfl (by omega) (by decide) d_Model_bad_55 (fun H locs hP hD hS => ?_)
      have hP : va_P (dC, dI) vwCl (wM b cI (zu v 0 (0)) (zu (zu f 2 (va_up (f 2) (v 8) z0.toNat)) 3 (va_up (f 3) (v 8) z1.toNat)) w) H := hP
      have hD : va_D A (wM b cI (zu v 0 (0)) (zu (zu f 2 (va_up (f 2) (v 8) z0.toNat)) 3 (va_up (f 3) (v 8) z1.toNat)) w) := hD
      refine lv_aload_n hx hb d_Model_bad_56 rfl (lv_at hl 0 rfl) ?_
      refine lv_dup hx hb d_Model_bad_57 rfl ?_
      refine va_get (D := (dC, dI)) (ci := 5) (v := .int (nI (v 8))) (C := "CutLengthsModel") (T := T_Model) (N := 24) hx hb hz i_Model hown hK hP 0 rfl rfl 10 (by decide) (hz _ tw_491) (fun _ h9 => h9) rfl d_Model_bad_58 ?_
      refine lv_iconst (v := nI (1)) hx hb d_Model_bad_61 (by decide) ?_
      refine lv_iadd hx hb d_Model_bad_62 ?_
      refine zz_top (nI_add (v 8) (1)) ?_
      refine va_put (D := (dC, dI)) (ci := 5) (v := .int (nI ((v 8) + 1))) (ty := .int) (C := "CutLengthsModel") (T := T_Model) (N := 24) hx hb hz i_Model t_Model t_Model_ok n_Model hown hK hP hD hS 0 rfl rfl 10 (by decide) (hz _ tw_491) (fun _ h9 => h9) rfl (by decide +kernel) rfl rfl (Nat.le_of_ble_eq_true rfl) d_Model_bad_63 (fun H locs hP hD hS => ?_)
      have hP : va_P (dC, dI) vwCl (wM b cI (zu (zu v 0 (0)) 8 ((v 8) + 1)) (zu (zu f 2 (va_up (f 2) (v 8) z0.toNat)) 3 (va_up (f 3) (v 8) z1.toNat)) w) H := hP
      have hD : va_D A (wM b cI (zu (zu v 0 (0)) 8 ((v 8) + 1)) (zu (zu f 2 (va_up (f 2) (v 8) z0.toNat)) 3 (va_up (f 3) (v 8) z1.toNat)) w) := hD
      refine lv_aload_n hx hb d_Model_bad_66 rfl (lv_at hl 0 rfl) ?_
      refine va_get (D := (dC, dI)) (ci := 5) (v := .int (nI ((v 8) + 1))) (C := "CutLengthsModel") (T := T_Model) (N := 24) hx hb hz i_Model hown hK hP 0 rfl rfl 10 (by decide) (hz _ tw_491) (fun _ h9 => h9) rfl d_Model_bad_67 ?_
      exact W.iret (v := nI ((v 8) + 1)) hx hb hr (fun t9 ht hW => ⟨⟨nI ((v 8) + 1), ((zu (zu v 0 (0)) 8 ((v 8) + 1)), (zu (zu f 2 (va_up (f 2) (v 8) z0.toNat)) 3 (va_up (f 3) (v 8) z1.toNat)), w), rfl, (Or.inl ⟨(by unfold k_bad; rw [if_neg (by omega), if_neg (by omega)]), rfl, rfl⟩), by rw [ht]; exact hP, va_K.moved hW.alike hK, hD⟩, hS.F ht⟩) hS.2.2 d_Model_bad_70
    · refine zz_top (congrArg nI (if_neg q_17)) ?_
      refine lv_if_ne (tgt := 27) hx hb d_Model_bad_20 (by decide) (fun c9 => absurd c9 (by decide)) (fun _ => ?_)
      refine lv_iconst (v := nI (1)) hx hb d_Model_bad_23 (by decide) ?_
      refine lv_goto (tgt := 28) hx hb d_Model_bad_24 (by decide) ?_
      have hFc := va_free (wc := (wM b cI v f w)) hD hS hA [0, 1, 2, 3, 4, 5, 6, 7, 8, 9, 10, 11, 12, 13] rfl
      refine va_calli (va_runV (As := [.int (nI (0)), .int (nI (1))]) (rest := []) ⟨hx, hb, hml, hown, hz⟩ (c_Model_throwing_01 l dC dI b cI v f w (s.heap).size ) (cwV (C := "CutLengthsModel") 2 hz (zgV tw_567 tw_569 tw_8 tw_20 tw_570) rfl rfl rfl (by decide +kernel) ⟨Nat.le_of_ble_eq_true rfl, Nat.le_of_ble_eq_true rfl⟩) ⟨(fun a U g mk q => by obtain ⟨q0, q1, qP, qK, qD⟩ := q; exact ⟨q0, q1, qP, va_K.moved (u := U) (U := U.calling g mk a) (Vm.Alike.refl U.vm) qK, qD⟩), va_recv hK hP (ci := 5) (q0 := 0) rfl rfl, fun U hU hW => ⟨rfl, by rw [hU], by rw [hU]; exact hP, va_K.moved hW.alike hK, hD.weaken (fun _ _ _ _ => trivial)⟩⟩ rfl rfl hl.1 rfl (lv_room (Nat.le_of_ble_eq_true rfl)) d_Model_bad_28 ⟨Nat.zero_le _, Nat.zero_le _⟩) hS (fun q _ h => hFc q h) hFc (fun r_28 u9 t9 H1 locs ht hvm hw hB hz1 hk1 hS => ?_)
      obtain ⟨hP1, hK1, hD1⟩ := hB
      rw [ht] at hP1
      obtain ⟨hP, hD⟩ := va_join (wr := []) (w1 := (wM b cI (zu v 0 (2)) f w)) hP hD [0, 1, 2, 3, 4, 5, 6, 7, 8, 9, 10, 11, 12, 13] [] rfl rfl (by decide) (by decide) hk1 hFc hP1 hD1
      generalize H1 = H at hP hS ⊢
      have hP : va_P (dC, dI) vwCl (wM b cI (zu v 0 (2)) f w) H := hP
      have hD : va_D A (wM b cI (zu v 0 (2)) f w) := hD
      refine zz_top (hw) ?_
      refine lv_if_eq (tgt := 36) hx hb d_Model_bad_31 (by decide) (fun c9 => absurd c9 (by decide)) (fun _ => ?_)
      refine lv_iconst (v := nI (0)) hx hb d_Model_bad_34 (by decide) ?_
      exact W.iret (v := nI (0)) hx hb hr (fun t9 ht hW => ⟨⟨nI (0), ((zu v 0 (2)), f, w), rfl, (Or.inr ⟨2, by decide, (by unfold k_bad; rw [if_neg (by omega), if_pos (by omega)]), rfl⟩), by rw [ht]; exact hP, va_K.moved hW.alike hK, hD⟩, hS.F ht⟩) hS.2.2 d_Model_bad_35
  · have c_7 : ((v 8 : Nat) : Int) = (20 : Int) := (zz_eq (nI_toInt (by omega)) ((by decide))).mp c_7
    refine lv_iconst (v := nI (1)) hx hb d_Model_bad_10 (by decide) ?_
    refine lv_goto (tgt := 15) hx hb d_Model_bad_11 (by decide) ?_
    refine lv_iload_n hx hb d_Model_bad_15 rfl (lv_at hl 1 rfl) ?_
    refine lv_iload_n hx hb d_Model_bad_16 rfl (lv_at hl 2 rfl) ?_
    refine zz_ro (va_runS (As := [.int (p0), .int (p1)]) (rest := [.int (nI (1)), .ref (b 0)]) ⟨hx, hb, hml, hown, hz⟩ (c_Model_isRow l (p0) (p1) (z0) (z1) (h0) (h1)) (va_cwS 2 hz (zgS tw_594 tw_595 tw_20 tw_596) rfl rfl rfl (by decide +kernel) ⟨Nat.le_of_ble_eq_true rfl, Nat.le_of_ble_eq_true rfl⟩) ⟨fun _ _ _ _ q => q, fun U hU hW => ⟨rfl, trivial⟩⟩ rfl rfl hl.1 rfl (lv_room (Nat.le_of_ble_eq_true rfl)) d_Model_bad_17 ⟨Nat.zero_le _, Nat.zero_le _⟩) ?_
    by_cases q_17 : (0 ≤ (z0) ∧ (z0) ≤ 300) ∧ (z0) ≤ (z1) ∧ (z1) ≤ 300
    · refine zz_top (congrArg nI (if_pos q_17)) ?_
      refine lv_if_ne (tgt := 27) hx hb d_Model_bad_20 (by decide) (fun _ => ?_) (fun c9 => absurd c9 (by decide))
      refine lv_iconst (v := nI (0)) hx hb d_Model_bad_27 (by decide) ?_
      have hFc := va_free (wc := (wM b cI v f w)) hD hS hA [0, 1, 2, 3, 4, 5, 6, 7, 8, 9, 10, 11, 12, 13] rfl
      refine va_calli (va_runV (As := [.int (nI (1)), .int (nI (0))]) (rest := []) ⟨hx, hb, hml, hown, hz⟩ (c_Model_throwing_10 l dC dI b cI v f w (s.heap).size ) (cwV (C := "CutLengthsModel") 2 hz (zgV tw_567 tw_569 tw_8 tw_20 tw_570) rfl rfl rfl (by decide +kernel) ⟨Nat.le_of_ble_eq_true rfl, Nat.le_of_ble_eq_true rfl⟩) ⟨(fun a U g mk q => by obtain ⟨q0, q1, qP, qK, qD⟩ := q; exact ⟨q0, q1, qP, va_K.moved (u := U) (U := U.calling g mk a) (Vm.Alike.refl U.vm) qK, qD⟩), va_recv hK hP (ci := 5) (q0 := 0) rfl rfl, fun U hU hW => ⟨rfl, by rw [hU], by rw [hU]; exact hP, va_K.moved hW.alike hK, hD.weaken (fun _ _ _ _ => trivial)⟩⟩ rfl rfl hl.1 rfl (lv_room (Nat.le_of_ble_eq_true rfl)) d_Model_bad_28 ⟨Nat.zero_le _, Nat.zero_le _⟩) hS (fun q _ h => hFc q h) hFc (fun r_28 u9 t9 H1 locs ht hvm hw hB hz1 hk1 hS => ?_)
      obtain ⟨hP1, hK1, hD1⟩ := hB
      rw [ht] at hP1
      obtain ⟨hP, hD⟩ := va_join (wr := []) (w1 := (wM b cI (zu v 0 (1)) f w)) hP hD [0, 1, 2, 3, 4, 5, 6, 7, 8, 9, 10, 11, 12, 13] [] rfl rfl (by decide) (by decide) hk1 hFc hP1 hD1
      generalize H1 = H at hP hS ⊢
      have hP : va_P (dC, dI) vwCl (wM b cI (zu v 0 (1)) f w) H := hP
      have hD : va_D A (wM b cI (zu v 0 (1)) f w) := hD
      refine zz_top (hw) ?_
      refine lv_if_eq (tgt := 36) hx hb d_Model_bad_31 (by decide) (fun c9 => absurd c9 (by decide)) (fun _ => ?_)
      refine lv_iconst (v := nI (0)) hx hb d_Model_bad_34 (by decide) ?_
      exact W.iret (v := nI (0)) hx hb hr (fun t9 ht hW => ⟨⟨nI (0), ((zu v 0 (1)), f, w), rfl, (Or.inr ⟨1, by decide, (by unfold k_bad; rw [if_pos (by omega)]), rfl⟩), by rw [ht]; exact hP, va_K.moved hW.alike hK, hD⟩, hS.F ht⟩) hS.2.2 d_Model_bad_35
    · refine zz_top (congrArg nI (if_neg q_17)) ?_
      refine lv_if_ne (tgt := 27) hx hb d_Model_bad_20 (by decide) (fun c9 => absurd c9 (by decide)) (fun _ => ?_)
      refine lv_iconst (v := nI (1)) hx hb d_Model_bad_23 (by decide) ?_
      refine lv_goto (tgt := 28) hx hb d_Model_bad_24 (by decide) ?_
      have hFc := va_free (wc := (wM b cI v f w)) hD hS hA [0, 1, 2, 3, 4, 5, 6, 7, 8, 9, 10, 11, 12, 13] rfl
      refine va_calli (va_runV (As := [.int (nI (1)), .int (nI (1))]) (rest := []) ⟨hx, hb, hml, hown, hz⟩ (c_Model_throwing_11 l dC dI b cI v f w (s.heap).size ) (cwV (C := "CutLengthsModel") 2 hz (zgV tw_567 tw_569 tw_8 tw_20 tw_570) rfl rfl rfl (by decide +kernel) ⟨Nat.le_of_ble_eq_true rfl, Nat.le_of_ble_eq_true rfl⟩) ⟨(fun a U g mk q => by obtain ⟨q0, q1, qP, qK, qD⟩ := q; exact ⟨q0, q1, qP, va_K.moved (u := U) (U := U.calling g mk a) (Vm.Alike.refl U.vm) qK, qD⟩), va_recv hK hP (ci := 5) (q0 := 0) rfl rfl, fun U hU hW => ⟨rfl, by rw [hU], by rw [hU]; exact hP, va_K.moved hW.alike hK, hD.weaken (fun _ _ _ _ => trivial)⟩⟩ rfl rfl hl.1 rfl (lv_room (Nat.le_of_ble_eq_true rfl)) d_Model_bad_28 ⟨Nat.zero_le _, Nat.zero_le _⟩) hS (fun q _ h => hFc q h) hFc (fun r_28 u9 t9 H1 locs ht hvm hw hB hz1 hk1 hS => ?_)
      obtain ⟨hP1, hK1, hD1⟩ := hB
      rw [ht] at hP1
      obtain ⟨hP, hD⟩ := va_join (wr := []) (w1 := (wM b cI (zu v 0 (1)) f w)) hP hD [0, 1, 2, 3, 4, 5, 6, 7, 8, 9, 10, 11, 12, 13] [] rfl rfl (by decide) (by decide) hk1 hFc hP1 hD1
      generalize H1 = H at hP hS ⊢
      have hP : va_P (dC, dI) vwCl (wM b cI (zu v 0 (1)) f w) H := hP
      have hD : va_D A (wM b cI (zu v 0 (1)) f w) := hD
      refine zz_top (hw) ?_
      refine lv_if_eq (tgt := 36) hx hb d_Model_bad_31 (by decide) (fun c9 => absurd c9 (by decide)) (fun _ => ?_)
      refine lv_iconst (v := nI (0)) hx hb d_Model_bad_34 (by decide) ?_
      exact W.iret (v := nI (0)) hx hb hr (fun t9 ht hW => ⟨⟨nI (0), ((zu v 0 (1)), f, w), rfl, (Or.inr ⟨1, by decide, (by unfold k_bad; rw [if_pos (by omega)]), rfl⟩), by rw [ht]; exact hP, va_K.moved hW.alike hK, hD⟩, hS.F ht⟩) hS.2.2 d_Model_bad_35
set_option maxHeartbeats 4000000 in
set_option maxRecDepth 100000 in
theorem c_Model_bar (l : Launch) (dC : Nat → ClassId) (dI : Nat → Nat → Nat) (b : Nat → Nat) (cI : ClassId) (v : Nat → Nat) (f : Nat → Nat → Nat) (w : Nat → Nat → Int32) (sz : Nat) (p0 : Int32) (z0 : Int) (h0 : p0.toInt = z0) (p1 : Int32) (z1 : Int) (h1 : p1.toInt = z1) (hJ : zJ v f) : Met l y_Model_bar (zw_Model_bar :: zW) ({ frames := 2, cells := 0, slots := 0, locals := 43 }) (va_Pc [.ref (b 0), .int (p0), .int (p1)] (fun U => U.heap.size = sz ∧ va_P (dC, dI) vwCl (wM b cI v f w) U.heap ∧ va_K (dC, dI) vwCl [(cI, .int)] U ∧ va_D (fun _ => True) (wM b cI v f w))) (va_Qi (fun (r : Int32) (u : ZS) => (k_bad (v 9) z0 z1 = 0 ∧ u = ((zu (zu v 0 (0)) 9 (v 9 + 1)), (zu (zu f 4 (va_up (f 4) (v 9) z0.toNat)) 5 (va_up (f 5) (v 9) z1.toNat)), w) ∧ r = nI (v 9 + 1)) ∨ (∃ c9, c9 ≠ 0 ∧ k_bad (v 9) z0 z1 = c9 ∧ u = (zu v 0 c9, f, w))) (fun (u : ZS) t => match u with | (v9, f9, w9) => va_P (dC, dI) vwCl (wM b cI v9 f9 w9) t.heap ∧ va_K (dC, dI) vwCl [(cI, .int)] t ∧ va_D (va_A (wM b cI v f w) sz) (wM b cI v9 f9 w9)) (va_A (wM b cI v f w) sz)) 0 0 (va_A (wM b cI v f w) sz) := by
  refine Met.ofW (cc := prog_7_method_13_code) (maxL := 3) (ret := (some .int)) (by decide) rfl ?_
  intro p e s m args below meth c s₁ B hml hv
  obtain ⟨rfl, hsz, hP, hK, hD0⟩ := hv
  have hx := B.exec
  have hb := B.bytes
  have hr := B.returns
  have hz : ∀ w ∈ zW, w.before ([.ref (b 0), .int (p0), .int (p1)]).toArray s = true := fun w h => atoms_spec (ws := (zw_Model_bar :: zW)) B.pre w (List.mem_cons_of_mem _ h)
  have hown : s.vm.findClass "CutLengthsModel" = some m.cls := findClass_of_methodNamed B.named
  have hlocks := B.notSynchronized
  subst hsz
  have hD := hD0.self (sz := s.heap.size)
  generalize hAe : va_A (wM b cI v f w) s.heap.size = A at hD ⊢
  have hA : ∀ q : Nat, s.heap.size ≤ q → A q := fun q h => by rw [← hAe]; exact Or.inr h
  have hS : va_S A s.heap s.heap [] := va_S.rf
  have hP : va_P (dC, dI) vwCl (wM b cI v f w) s.heap := hP
  obtain ⟨j3, j4, j5, j6, j7, j8, j9, j10, j1, j2, jw, jb, jr, jsl⟩ := id hJ
  have hl := lv_entry ([.ref (b 0), .int (p0), .int (p1)]) (n := 3) (Nat.le_of_ble_eq_true rfl)
  rw [lg_entry_eq]
  generalize (lg_sl ([.ref (b 0), .int (p0), .int (p1)]) ++ List.replicate (3 - (lg_sl ([.ref (b 0), .int (p0), .int (p1)])).length) Slot.unset).toArray = ls at hl ⊢
  have hl : lv_has ls 3 [(0, .ref (b 0)), (1, .int (p0)), (2, .int (p1))] := hl
  refine lv_aload_n hx hb d_Model_bar_0 rfl (lv_at hl 0 rfl) ?_
  refine lv_aload_n hx hb d_Model_bar_1 rfl (lv_at hl 0 rfl) ?_
  refine va_get (D := (dC, dI)) (ci := 5) (v := .int (nI (v 9))) (C := "CutLengthsModel") (T := T_Model) (N := 24) hx hb hz i_Model hown hK hP 0 rfl rfl 13 (by decide) (hz _ tw_494) (fun _ h9 => h9) rfl d_Model_bar_2 ?_
  refine lv_bipush (v := nI (20)) hx hb d_Model_bar_5 (by decide) ?_
  refine lv_icmp_ne (tgt := 14) hx hb d_Model_bar_7 (by decide) (fun c_7 => ?_) (fun c_7 => ?_)
  · have c_7 : ¬ (((v 9 : Nat) : Int) = (20 : Int)) := fun q => c_7 ((zz_eq (nI_toInt (by omega)) ((by decide))).mpr q)
    refine lv_iconst (v := nI (0)) hx hb d_Model_bar_14 (by decide) ?_
    refine lv_iload_n hx hb d_Model_bar_15 rfl (lv_at hl 1 rfl) ?_
    refine lv_iload_n hx hb d_Model_bar_16 rfl (lv_at hl 2 rfl) ?_
    refine zz_ro (va_runS (As := [.int (p0), .int (p1)]) (rest := [.int (nI (0)), .ref (b 0)]) ⟨hx, hb, hml, hown, hz⟩ (c_Model_isRow l (p0) (p1) (z0) (z1) (h0) (h1)) (va_cwS 2 hz (zgS tw_594 tw_595 tw_20 tw_596) rfl rfl rfl (by decide +kernel) ⟨Nat.le_of_ble_eq_true rfl, Nat.le_of_ble_eq_true rfl⟩) ⟨fun _ _ _ _ q => q, fun U hU hW => ⟨rfl, trivial⟩⟩ rfl rfl hl.1 rfl (lv_room (Nat.le_of_ble_eq_true rfl)) d_Model_bar_17 ⟨Nat.zero_le _, Nat.zero_le _⟩) ?_
    by_cases q_17 : (0 ≤ (z0) ∧ (z0) ≤ 300) ∧ (z0) ≤ (z1) ∧ (z1) ≤ 300
    · refine zz_top (congrArg nI (if_pos q_17)) ?_
      refine lv_if_ne (tgt := 27) hx hb d_Model_bar_20 (by decide) (fun _ => ?_) (fun c9 => absurd c9 (by decide))
      refine lv_iconst (v := nI (0)) hx hb d_Model_bar_27 (by decide) ?_
      have hFc := va_free (wc := (wM b cI v f w)) hD hS hA [0, 1, 2, 3, 4, 5, 6, 7, 8, 9, 10, 11, 12, 13] rfl
      refine va_calli (va_runV (As := [.int (nI (0)), .int (nI (0))]) (rest := []) ⟨hx, hb, hml, hown, hz⟩ (c_Model_throwing_00 l dC dI b cI v f w (s.heap).size ) (cwV (C := "CutLengthsModel") 2 hz (zgV tw_567 tw_569 tw_8 tw_20 tw_570) rfl rfl rfl (by decide +kernel) ⟨Nat.le_of_ble_eq_true rfl, Nat.le_of_ble_eq_true rfl⟩) ⟨(fun a U g mk q => by obtain ⟨q0, q1, qP, qK, qD⟩ := q; exact ⟨q0, q1, qP, va_K.moved (u := U) (U := U.calling g mk a) (Vm.Alike.refl U.vm) qK, qD⟩), va_recv hK hP (ci := 5) (q0 := 0) rfl rfl, fun U hU hW => ⟨rfl, by rw [hU], by rw [hU]; exact hP, va_K.moved hW.alike hK, hD.weaken (fun _ _ _ _ => trivial)⟩⟩ rfl rfl hl.1 rfl (lv_room (Nat.le_of_ble_eq_true rfl)) d_Model_bar_28 ⟨Nat.zero_le _, Nat.zero_le _⟩) hS (fun q _ h => hFc q h) hFc (fun r_28 u9 t9 H1 locs ht hvm hw hB hz1 hk1 hS => ?_)
      obtain ⟨hP1, hK1, hD1⟩ := hB
      rw [ht] at hP1
      obtain ⟨hP, hD⟩ := va_join (wr := []) (w1 := (wM b cI (zu v 0 (0)) f w)) hP hD [0, 1, 2, 3, 4, 5, 6, 7, 8, 9, 10, 11, 12, 13] [] rfl rfl (by decide) (by decide) hk1 hFc hP1 hD1
      generalize H1 = H at hP hS ⊢
      have hP : va_P (dC, dI) vwCl (wM b cI (zu v 0 (0)) f w) H := hP
      have hD : va_D A (wM b cI (zu v 0 (0)) f w) := hD
      refine zz_top (hw) ?_
      refine lv_if_eq (tgt := 36) hx hb d_Model_bar_31 (by decide) (fun _ => ?_) (fun c9 => absurd c9 (by decide))
      refine lv_aload_n hx hb d_Model_bar_36 rfl (lv_at hl 0 rfl) ?_
      refine va_get (D := (dC, dI)) (ci := 5) (v := .ref (b 5)) (C := "CutLengthsModel") (T := T_Model) (N := 24) hx hb hz i_Model hown hK hP 0 rfl rfl 14 (by decide) (hz _ tw_495) (fun _ h9 => h9) rfl d_Model_bar_37 ?_
      refine lv_aload_n hx hb d_Model_bar_40 rfl (lv_at hl 0 rfl) ?_
      refine va_get (D := (dC, dI)) (ci := 5) (v := .int (nI (v 9))) (C := "CutLengthsModel") (T := T_Model) (N := 24) hx hb hz i_Model hown hK hP 0 rfl rfl 13 (by decide) (hz _ tw_494) (fun _ h9 => h9) rfl d_Model_bar_41 ?_
      refine lv_iload_n hx hb d_Model_bar_44 rfl (lv_at hl 1 rfl) ?_
      refine zz_top (zz_nat h0 (by omega)) ?_
      refine zz_nast hx hb hK hP hD hS 5 0 (f := f 4) (i := v 9) (x := z0.toNat) rfl rfl (by omega) (by decide) d_Model_bar_45 (fun H locs hP hD hS => ?_)
      have hP : va_P (dC, dI) vwCl (wM b cI (zu v 0 (0)) (zu f 4 (va_up (f 4) (v 9) z0.toNat)) w) H := hP
      have hD : va_D A (wM b cI (zu v 0 (0)) (zu f 4 (va_up (f 4) (v 9) z0.toNat)) w) := hD
      refine lv_aload_n hx hb d_Model_bar_46 rfl (lv_at hl 0 rfl) ?_
      refine va_get (D := (dC, dI)) (ci := 5) (v := .ref (b 6)) (C := "CutLengthsModel") (T := T_Model) (N := 24) hx hb hz i_Model hown hK hP 0 rfl rfl 15 (by decide) (hz _ tw_496) (fun _ h9 => h9) rfl d_Model_bar_47 ?_
      refine lv_aload_n hx hb d_Model_bar_50 rfl (lv_at hl 0 rfl) ?_
      refine va_get (D := (dC, dI)) (ci := 5) (v := .int (nI (v 9))) (C := "CutLengthsModel") (T := T_Model) (N := 24) hx hb hz i_Model hown hK hP 0 rfl rfl 13 (by decide) (hz _ tw_494) (fun _ h9 => h9) rfl d_Model_bar_51 ?_
      refine lv_iload_n hx hb d_Model_bar_54 rfl (lv_at hl 2 rfl) ?_
      refine zz_top (zz_nat h1 (by omega)) ?_
      refine zz_nast hx hb hK hP hD hS 6 0 (f := f 5) (i := v 9) (x := z1.toNat) rfl rfl (by omega) (by decide) d_Model_bar_55 (fun H locs hP hD hS => ?_)
      have hP : va_P (dC, dI) vwCl (wM b cI (zu v 0 (0)) (zu (zu f 4 (va_up (f 4) (v 9) z0.toNat)) 5 (va_up (f 5) (v 9) z1.toNat)) w) H := hP
      have hD : va_D A (wM b cI (zu v 0 (0)) (zu (zu f 4 (va_up (f 4) (v 9) z0.toNat)) 5 (va_up (f 5) (v 9) z1.toNat)) w) := hD
      refine lv_aload_n hx hb d_Model_bar_56 rfl (lv_at hl 0 rfl) ?_
      refine lv_dup hx hb d_Model_bar_57 rfl ?_
      refine va_get (D := (dC, dI)) (ci := 5) (v := .int (nI (v 9))) (C := "CutLengthsModel") (T := T_Model) (N := 24) hx hb hz i_Model hown hK hP 0 rfl rfl 13 (by decide) (hz _ tw_494) (fun _ h9 => h9) rfl d_Model_bar_58 ?_
      refine lv_iconst (v := nI (1)) hx hb d_Model_bar_61 (by decide) ?_
      refine lv_iadd hx hb d_Model_bar_62 ?_
      refine zz_top (nI_add (v 9) (1)) ?_
      refine va_put (D := (dC, dI)) (ci := 5) (v := .int (nI ((v 9) + 1))) (ty := .int) (C := "CutLengthsModel") (T := T_Model) (N := 24) hx hb hz i_Model t_Model t_Model_ok n_Model hown hK hP hD hS 0 rfl rfl 13 (by decide) (hz _ tw_494) (fun _ h9 => h9) rfl (by decide +kernel) rfl rfl (Nat.le_of_ble_eq_true rfl) d_Model_bar_63 (fun H locs hP hD hS => ?_)
      have hP : va_P (dC, dI) vwCl (wM b cI (zu (zu v 0 (0)) 9 ((v 9) + 1)) (zu (zu f 4 (va_up (f 4) (v 9) z0.toNat)) 5 (va_up (f 5) (v 9) z1.toNat)) w) H := hP
      have hD : va_D A (wM b cI (zu (zu v 0 (0)) 9 ((v 9) + 1)) (zu (zu f 4 (va_up (f 4) (v 9) z0.toNat)) 5 (va_up (f 5) (v 9) z1.toNat)) w) := hD
      refine lv_aload_n hx hb d_Model_bar_66 rfl (lv_at hl 0 rfl) ?_
      refine va_get (D := (dC, dI)) (ci := 5) (v := .int (nI ((v 9) + 1))) (C := "CutLengthsModel") (T := T_Model) (N := 24) hx hb hz i_Model hown hK hP 0 rfl rfl 13 (by decide) (hz _ tw_494) (fun _ h9 => h9) rfl d_Model_bar_67 ?_
      exact W.iret (v := nI ((v 9) + 1)) hx hb hr (fun t9 ht hW => ⟨⟨nI ((v 9) + 1), ((zu (zu v 0 (0)) 9 ((v 9) + 1)), (zu (zu f 4 (va_up (f 4) (v 9) z0.toNat)) 5 (va_up (f 5) (v 9) z1.toNat)), w), rfl, (Or.inl ⟨(by unfold k_bad; rw [if_neg (by omega), if_neg (by omega)]), rfl, rfl⟩), by rw [ht]; exact hP, va_K.moved hW.alike hK, hD⟩, hS.F ht⟩) hS.2.2 d_Model_bar_70
    · refine zz_top (congrArg nI (if_neg q_17)) ?_
      refine lv_if_ne (tgt := 27) hx hb d_Model_bar_20 (by decide) (fun c9 => absurd c9 (by decide)) (fun _ => ?_)
      refine lv_iconst (v := nI (1)) hx hb d_Model_bar_23 (by decide) ?_
      refine lv_goto (tgt := 28) hx hb d_Model_bar_24 (by decide) ?_
      have hFc := va_free (wc := (wM b cI v f w)) hD hS hA [0, 1, 2, 3, 4, 5, 6, 7, 8, 9, 10, 11, 12, 13] rfl
      refine va_calli (va_runV (As := [.int (nI (0)), .int (nI (1))]) (rest := []) ⟨hx, hb, hml, hown, hz⟩ (c_Model_throwing_01 l dC dI b cI v f w (s.heap).size ) (cwV (C := "CutLengthsModel") 2 hz (zgV tw_567 tw_569 tw_8 tw_20 tw_570) rfl rfl rfl (by decide +kernel) ⟨Nat.le_of_ble_eq_true rfl, Nat.le_of_ble_eq_true rfl⟩) ⟨(fun a U g mk q => by obtain ⟨q0, q1, qP, qK, qD⟩ := q; exact ⟨q0, q1, qP, va_K.moved (u := U) (U := U.calling g mk a) (Vm.Alike.refl U.vm) qK, qD⟩), va_recv hK hP (ci := 5) (q0 := 0) rfl rfl, fun U hU hW => ⟨rfl, by rw [hU], by rw [hU]; exact hP, va_K.moved hW.alike hK, hD.weaken (fun _ _ _ _ => trivial)⟩⟩ rfl rfl hl.1 rfl (lv_room (Nat.le_of_ble_eq_true rfl)) d_Model_bar_28 ⟨Nat.zero_le _, Nat.zero_le _⟩) hS (fun q _ h => hFc q h) hFc (fun r_28 u9 t9 H1 locs ht hvm hw hB hz1 hk1 hS => ?_)
      obtain ⟨hP1, hK1, hD1⟩ := hB
      rw [ht] at hP1
      obtain ⟨hP, hD⟩ := va_join (wr := []) (w1 := (wM b cI (zu v 0 (2)) f w)) hP hD [0, 1, 2, 3, 4, 5, 6, 7, 8, 9, 10, 11, 12, 13] [] rfl rfl (by decide) (by decide) hk1 hFc hP1 hD1
      generalize H1 = H at hP hS ⊢
      have hP : va_P (dC, dI) vwCl (wM b cI (zu v 0 (2)) f w) H := hP
      have hD : va_D A (wM b cI (zu v 0 (2)) f w) := hD
      refine zz_top (hw) ?_
      refine lv_if_eq (tgt := 36) hx hb d_Model_bar_31 (by decide) (fun c9 => absurd c9 (by decide)) (fun _ => ?_)
      refine lv_iconst (v := nI (0)) hx hb d_Model_bar_34 (by decide) ?_
      exact W.iret (v := nI (0)) hx hb hr (fun t9 ht hW => ⟨⟨nI (0), ((zu v 0 (2)), f, w), rfl, (Or.inr ⟨2, by decide, (by unfold k_bad; rw [if_neg (by omega), if_pos (by omega)]), rfl⟩), by rw [ht]; exact hP, va_K.moved hW.alike hK, hD⟩, hS.F ht⟩) hS.2.2 d_Model_bar_35
  · have c_7 : ((v 9 : Nat) : Int) = (20 : Int) := (zz_eq (nI_toInt (by omega)) ((by decide))).mp c_7
    refine lv_iconst (v := nI (1)) hx hb d_Model_bar_10 (by decide) ?_
    refine lv_goto (tgt := 15) hx hb d_Model_bar_11 (by decide) ?_
    refine lv_iload_n hx hb d_Model_bar_15 rfl (lv_at hl 1 rfl) ?_
    refine lv_iload_n hx hb d_Model_bar_16 rfl (lv_at hl 2 rfl) ?_
    refine zz_ro (va_runS (As := [.int (p0), .int (p1)]) (rest := [.int (nI (1)), .ref (b 0)]) ⟨hx, hb, hml, hown, hz⟩ (c_Model_isRow l (p0) (p1) (z0) (z1) (h0) (h1)) (va_cwS 2 hz (zgS tw_594 tw_595 tw_20 tw_596) rfl rfl rfl (by decide +kernel) ⟨Nat.le_of_ble_eq_true rfl, Nat.le_of_ble_eq_true rfl⟩) ⟨fun _ _ _ _ q => q, fun U hU hW => ⟨rfl, trivial⟩⟩ rfl rfl hl.1 rfl (lv_room (Nat.le_of_ble_eq_true rfl)) d_Model_bar_17 ⟨Nat.zero_le _, Nat.zero_le _⟩) ?_
    by_cases q_17 : (0 ≤ (z0) ∧ (z0) ≤ 300) ∧ (z0) ≤ (z1) ∧ (z1) ≤ 300
    · refine zz_top (congrArg nI (if_pos q_17)) ?_
      refine lv_if_ne (tgt := 27) hx hb d_Model_bar_20 (by decide) (fun _ => ?_) (fun c9 => absurd c9 (by decide))
      refine lv_iconst (v := nI (0)) hx hb d_Model_bar_27 (by decide) ?_
      have hFc := va_free (wc := (wM b cI v f w)) hD hS hA [0, 1, 2, 3, 4, 5, 6, 7, 8, 9, 10, 11, 12, 13] rfl
      refine va_calli (va_runV (As := [.int (nI (1)), .int (nI (0))]) (rest := []) ⟨hx, hb, hml, hown, hz⟩ (c_Model_throwing_10 l dC dI b cI v f w (s.heap).size ) (cwV (C := "CutLengthsModel") 2 hz (zgV tw_567 tw_569 tw_8 tw_20 tw_570) rfl rfl rfl (by decide +kernel) ⟨Nat.le_of_ble_eq_true rfl, Nat.le_of_ble_eq_true rfl⟩) ⟨(fun a U g mk q => by obtain ⟨q0, q1, qP, qK, qD⟩ := q; exact ⟨q0, q1, qP, va_K.moved (u := U) (U := U.calling g mk a) (Vm.Alike.refl U.vm) qK, qD⟩), va_recv hK hP (ci := 5) (q0 := 0) rfl rfl, fun U hU hW => ⟨rfl, by rw [hU], by rw [hU]; exact hP, va_K.moved hW.alike hK, hD.weaken (fun _ _ _ _ => trivial)⟩⟩ rfl rfl hl.1 rfl (lv_room (Nat.le_of_ble_eq_true rfl)) d_Model_bar_28 ⟨Nat.zero_le _, Nat.zero_le _⟩) hS (fun q _ h => hFc q h) hFc (fun r_28 u9 t9 H1 locs ht hvm hw hB hz1 hk1 hS => ?_)
      obtain ⟨hP1, hK1, hD1⟩ := hB
      rw [ht] at hP1
      obtain ⟨hP, hD⟩ := va_join (wr := []) (w1 := (wM b cI (zu v 0 (1)) f w)) hP hD [0, 1, 2, 3, 4, 5, 6, 7, 8, 9, 10, 11, 12, 13] [] rfl rfl (by decide) (by decide) hk1 hFc hP1 hD1
      generalize H1 = H at hP hS ⊢
      have hP : va_P (dC, dI) vwCl (wM b cI (zu v 0 (1)) f w) H := hP
      have hD : va_D A (wM b cI (zu v 0 (1)) f w) := hD
      refine zz_top (hw) ?_
      refine lv_if_eq (tgt := 36) hx hb d_Model_bar_31 (by decide) (fun c9 => absurd c9 (by decide)) (fun _ => ?_)
      refine lv_iconst (v := nI (0)) hx hb d_Model_bar_34 (by decide) ?_
      exact W.iret (v := nI (0)) hx hb hr (fun t9 ht hW => ⟨⟨nI (0), ((zu v 0 (1)), f, w), rfl, (Or.inr ⟨1, by decide, (by unfold k_bad; rw [if_pos (by omega)]), rfl⟩), by rw [ht]; exact hP, va_K.moved hW.alike hK, hD⟩, hS.F ht⟩) hS.2.2 d_Model_bar_35
    · refine zz_top (congrArg nI (if_neg q_17)) ?_
      refine lv_if_ne (tgt := 27) hx hb d_Model_bar_20 (by decide) (fun c9 => absurd c9 (by decide)) (fun _ => ?_)
      refine lv_iconst (v := nI (1)) hx hb d_Model_bar_23 (by decide) ?_
      refine lv_goto (tgt := 28) hx hb d_Model_bar_24 (by decide) ?_
      have hFc := va_free (wc := (wM b cI v f w)) hD hS hA [0, 1, 2, 3, 4, 5, 6, 7, 8, 9, 10, 11, 12, 13] rfl
      refine va_calli (va_runV (As := [.int (nI (1)), .int (nI (1))]) (rest := []) ⟨hx, hb, hml, hown, hz⟩ (c_Model_throwing_11 l dC dI b cI v f w (s.heap).size ) (cwV (C := "CutLengthsModel") 2 hz (zgV tw_567 tw_569 tw_8 tw_20 tw_570) rfl rfl rfl (by decide +kernel) ⟨Nat.le_of_ble_eq_true rfl, Nat.le_of_ble_eq_true rfl⟩) ⟨(fun a U g mk q => by obtain ⟨q0, q1, qP, qK, qD⟩ := q; exact ⟨q0, q1, qP, va_K.moved (u := U) (U := U.calling g mk a) (Vm.Alike.refl U.vm) qK, qD⟩), va_recv hK hP (ci := 5) (q0 := 0) rfl rfl, fun U hU hW => ⟨rfl, by rw [hU], by rw [hU]; exact hP, va_K.moved hW.alike hK, hD.weaken (fun _ _ _ _ => trivial)⟩⟩ rfl rfl hl.1 rfl (lv_room (Nat.le_of_ble_eq_true rfl)) d_Model_bar_28 ⟨Nat.zero_le _, Nat.zero_le _⟩) hS (fun q _ h => hFc q h) hFc (fun r_28 u9 t9 H1 locs ht hvm hw hB hz1 hk1 hS => ?_)
      obtain ⟨hP1, hK1, hD1⟩ := hB
      rw [ht] at hP1
      obtain ⟨hP, hD⟩ := va_join (wr := []) (w1 := (wM b cI (zu v 0 (1)) f w)) hP hD [0, 1, 2, 3, 4, 5, 6, 7, 8, 9, 10, 11, 12, 13] [] rfl rfl (by decide) (by decide) hk1 hFc hP1 hD1
      generalize H1 = H at hP hS ⊢
      have hP : va_P (dC, dI) vwCl (wM b cI (zu v 0 (1)) f w) H := hP
      have hD : va_D A (wM b cI (zu v 0 (1)) f w) := hD
      refine zz_top (hw) ?_
      refine lv_if_eq (tgt := 36) hx hb d_Model_bar_31 (by decide) (fun c9 => absurd c9 (by decide)) (fun _ => ?_)
      refine lv_iconst (v := nI (0)) hx hb d_Model_bar_34 (by decide) ?_
      exact W.iret (v := nI (0)) hx hb hr (fun t9 ht hW => ⟨⟨nI (0), ((zu v 0 (1)), f, w), rfl, (Or.inr ⟨1, by decide, (by unfold k_bad; rw [if_pos (by omega)]), rfl⟩), by rw [ht]; exact hP, va_K.moved hW.alike hK, hD⟩, hS.F ht⟩) hS.2.2 d_Model_bar_35
set_option maxHeartbeats 4000000 in
set_option maxRecDepth 100000 in
theorem c_Model_slab (l : Launch) (dC : Nat → ClassId) (dI : Nat → Nat → Nat) (b : Nat → Nat) (cI : ClassId) (v : Nat → Nat) (f : Nat → Nat → Nat) (w : Nat → Nat → Int32) (sz : Nat) (p0 : Int32) (z0 : Int) (h0 : p0.toInt = z0) (p1 : Int32) (z1 : Int) (h1 : p1.toInt = z1) (hJ : zJ v f) : Met l y_Model_slab (zw_Model_slab :: zW) ({ frames := 1, cells := 0, slots := 0, locals := 22 }) (va_Pc [.ref (b 0), .int (p0), .int (p1)] (fun U => U.heap.size = sz ∧ va_P (dC, dI) vwCl (wM b cI v f w) U.heap ∧ va_K (dC, dI) vwCl [(cI, .int)] U ∧ va_D (fun _ => True) (wM b cI v f w))) (va_Qi (fun (r : Int32) (u : ZS) => (k_slab (v 10) z0 z1 = 0 ∧ u = ((zu v 0 (0)), f, w) ∧ r = (if z1 = 0 then w 0 z0.toNat else if z1 = 1 then nI (f 6 z0.toNat) else nI (f 7 z0.toNat))) ∨ (∃ c9, c9 ≠ 0 ∧ k_slab (v 10) z0 z1 = c9 ∧ u = (zu v 0 c9, f, w))) (fun (u : ZS) t => match u with | (v9, f9, w9) => va_P (dC, dI) vwCl (wM b cI v9 f9 w9) t.heap ∧ va_K (dC, dI) vwCl [(cI, .int)] t ∧ va_D (va_A (wM b cI v f w) sz) (wM b cI v9 f9 w9)) (va_A (wM b cI v f w) sz)) 0 0 (va_A (wM b cI v f w) sz) := by
  refine Met.ofW (cc := prog_7_method_22_code) (maxL := 3) (ret := (some .int)) (by decide) rfl ?_
  intro p e s m args below meth c s₁ B hml hv
  obtain ⟨rfl, hsz, hP, hK, hD0⟩ := hv
  have hx := B.exec
  have hb := B.bytes
  have hr := B.returns
  have hz : ∀ w ∈ zW, w.before ([.ref (b 0), .int (p0), .int (p1)]).toArray s = true := fun w h => atoms_spec (ws := (zw_Model_slab :: zW)) B.pre w (List.mem_cons_of_mem _ h)
  have hown : s.vm.findClass "CutLengthsModel" = some m.cls := findClass_of_methodNamed B.named
  have hlocks := B.notSynchronized
  subst hsz
  have hD := hD0.self (sz := s.heap.size)
  generalize hAe : va_A (wM b cI v f w) s.heap.size = A at hD ⊢
  have hA : ∀ q : Nat, s.heap.size ≤ q → A q := fun q h => by rw [← hAe]; exact Or.inr h
  have hS : va_S A s.heap s.heap [] := va_S.rf
  have hP : va_P (dC, dI) vwCl (wM b cI v f w) s.heap := hP
  obtain ⟨j3, j4, j5, j6, j7, j8, j9, j10, j1, j2, jw, jb, jr, jsl⟩ := id hJ
  have hl := lv_entry ([.ref (b 0), .int (p0), .int (p1)]) (n := 3) (Nat.le_of_ble_eq_true rfl)
  rw [lg_entry_eq]
  generalize (lg_sl ([.ref (b 0), .int (p0), .int (p1)]) ++ List.replicate (3 - (lg_sl ([.ref (b 0), .int (p0), .int (p1)])).length) Slot.unset).toArray = ls at hl ⊢
  have hl : lv_has ls 3 [(0, .ref (b 0)), (1, .int (p0)), (2, .int (p1))] := hl
  refine lv_aload_n hx hb d_Model_slab_0 rfl (lv_at hl 0 rfl) ?_
  refine lv_iload_n hx hb d_Model_slab_1 rfl (lv_at hl 1 rfl) ?_
  refine lv_iconst (v := nI (0)) hx hb d_Model_slab_2 (by decide) ?_
  refine lv_aload_n hx hb d_Model_slab_3 rfl (lv_at hl 0 rfl) ?_
  refine va_get (D := (dC, dI)) (ci := 5) (v := .int (nI (v 10))) (C := "CutLengthsModel") (T := T_Model) (N := 24) hx hb hz i_Model hown hK hP 0 rfl rfl 16 (by decide) (hz _ tw_497) (fun _ h9 => h9) rfl d_Model_slab_4 ?_
  refine lv_iconst (v := nI (1)) hx hb d_Model_slab_7 (by decide) ?_
  refine lv_isub hx hb d_Model_slab_8 ?_
  refine zz_ro (va_runS (As := [.int (p0), .int (nI (0)), .int (nI (v 10) - nI (1))]) (rest := [.ref (b 0)]) ⟨hx, hb, hml, hown, hz⟩ (c_Model_in l (p0) (nI (0)) (nI (v 10) - nI (1)) (z0) ((0 : Int)) (((v 10 : Nat) : Int) - ((1 : Nat) : Int)) (h0) ((by decide)) (pk_sub_toInt (by omega) (by omega))) (va_cwS 3 hz (zgS tw_563 tw_564 tw_20 tw_565) rfl rfl rfl (by decide +kernel) ⟨Nat.le_of_ble_eq_true rfl, Nat.le_of_ble_eq_true rfl⟩) ⟨fun _ _ _ _ q => q, fun U hU hW => ⟨rfl, trivial⟩⟩ rfl rfl hl.1 rfl (lv_room (Nat.le_of_ble_eq_true rfl)) d_Model_slab_9 ⟨Nat.zero_le _, Nat.zero_le _⟩) ?_
  by_cases q_9 : ((0 : Int)) ≤ (z0) ∧ (z0) ≤ (((v 10 : Nat) : Int) - ((1 : Nat) : Int))
  · refine zz_top (congrArg nI (if_pos q_9)) ?_
    refine lv_if_eq (tgt := 24) hx hb d_Model_slab_12 (by decide) (fun c9 => absurd c9 (by decide)) (fun _ => ?_)
    refine lv_iload_n hx hb d_Model_slab_15 rfl (lv_at hl 2 rfl) ?_
    refine lv_iconst (v := nI (0)) hx hb d_Model_slab_16 (by decide) ?_
    refine lv_iconst (v := nI (2)) hx hb d_Model_slab_17 (by decide) ?_
    refine zz_ro (va_runS (As := [.int (p1), .int (nI (0)), .int (nI (2))]) (rest := [.ref (b 0)]) ⟨hx, hb, hml, hown, hz⟩ (c_Model_in l (p1) (nI (0)) (nI (2)) (z1) ((0 : Int)) ((2 : Int)) (h1) ((by decide)) ((by decide))) (va_cwS 3 hz (zgS tw_563 tw_564 tw_20 tw_565) rfl rfl rfl (by decide +kernel) ⟨Nat.le_of_ble_eq_true rfl, Nat.le_of_ble_eq_true rfl⟩) ⟨fun _ _ _ _ q => q, fun U hU hW => ⟨rfl, trivial⟩⟩ rfl rfl hl.1 rfl (lv_room (Nat.le_of_ble_eq_true rfl)) d_Model_slab_18 ⟨Nat.zero_le _, Nat.zero_le _⟩) ?_
    by_cases q_18 : ((0 : Int)) ≤ (z1) ∧ (z1) ≤ ((2 : Int))
    · refine zz_top (congrArg nI (if_pos q_18)) ?_
      refine lv_if_ne (tgt := 28) hx hb d_Model_slab_21 (by decide) (fun _ => ?_) (fun c9 => absurd c9 (by decide))
      refine lv_iconst (v := nI (0)) hx hb d_Model_slab_28 (by decide) ?_
      refine lv_iconst (v := nI (0)) hx hb d_Model_slab_29 (by decide) ?_
      have hFc := va_free (wc := (wM b cI v f w)) hD hS hA [0, 1, 2, 3, 4, 5, 6, 7, 8, 9, 10, 11, 12, 13] rfl
      refine va_calli (va_runV (As := [.int (nI (0)), .int (nI (0))]) (rest := []) ⟨hx, hb, hml, hown, hz⟩ (c_Model_throwing_00 l dC dI b cI v f w (s.heap).size ) (cwV (C := "CutLengthsModel") 2 hz (zgV tw_567 tw_569 tw_8 tw_20 tw_570) rfl rfl rfl (by decide +kernel) ⟨Nat.le_of_ble_eq_true rfl, Nat.le_of_ble_eq_true rfl⟩) ⟨(fun a U g mk q => by obtain ⟨q0, q1, qP, qK, qD⟩ := q; exact ⟨q0, q1, qP, va_K.moved (u := U) (U := U.calling g mk a) (Vm.Alike.refl U.vm) qK, qD⟩), va_recv hK hP (ci := 5) (q0 := 0) rfl rfl, fun U hU hW => ⟨rfl, by rw [hU], by rw [hU]; exact hP, va_K.moved hW.alike hK, hD.weaken (fun _ _ _ _ => trivial)⟩⟩ rfl rfl hl.1 rfl (lv_room (Nat.le_of_ble_eq_true rfl)) d_Model_slab_30 ⟨Nat.zero_le _, Nat.zero_le _⟩) hS (fun q _ h => hFc q h) hFc (fun r_30 u9 t9 H1 locs ht hvm hw hB hz1 hk1 hS => ?_)
      obtain ⟨hP1, hK1, hD1⟩ := hB
      rw [ht] at hP1
      obtain ⟨hP, hD⟩ := va_join (wr := []) (w1 := (wM b cI (zu v 0 (0)) f w)) hP hD [0, 1, 2, 3, 4, 5, 6, 7, 8, 9, 10, 11, 12, 13] [] rfl rfl (by decide) (by decide) hk1 hFc hP1 hD1
      generalize H1 = H at hP hS ⊢
      have hP : va_P (dC, dI) vwCl (wM b cI (zu v 0 (0)) f w) H := hP
      have hD : va_D A (wM b cI (zu v 0 (0)) f w) := hD
      refine zz_top (hw) ?_
      refine lv_if_eq (tgt := 38) hx hb d_Model_slab_33 (by decide) (fun _ => ?_) (fun c9 => absurd c9 (by decide))
      refine lv_iload_n hx hb d_Model_slab_38 rfl (lv_at hl 2 rfl) ?_
      refine lv_if_ne (tgt := 51) hx hb d_Model_slab_39 (by decide) (fun c_39 => ?_) (fun c_39 => ?_)
      · have c_39 : ¬ (z1 = (0 : Int)) := fun q => c_39 ((zz_eq (h1) ((by decide))).mpr q)
        refine lv_iload_n hx hb d_Model_slab_51 rfl (lv_at hl 2 rfl) ?_
        refine lv_iconst (v := nI (1)) hx hb d_Model_slab_52 (by decide) ?_
        refine lv_icmp_ne (tgt := 65) hx hb d_Model_slab_53 (by decide) (fun c_53 => ?_) (fun c_53 => ?_)
        · have c_53 : ¬ (z1 = (1 : Int)) := fun q => c_53 ((zz_eq (h1) ((by decide))).mpr q)
          refine lv_aload_n hx hb d_Model_slab_65 rfl (lv_at hl 0 rfl) ?_
          refine va_get (D := (dC, dI)) (ci := 5) (v := .ref (b 9)) (C := "CutLengthsModel") (T := T_Model) (N := 24) hx hb hz i_Model hown hK hP 0 rfl rfl 19 (by decide) (hz _ tw_500) (fun _ h9 => h9) rfl d_Model_slab_66 ?_
          refine lv_iload_n hx hb d_Model_slab_69 rfl (lv_at hl 1 rfl) ?_
          refine zz_top (zz_nat h0 (by omega)) ?_
          refine zz_nald hx hb hK hP 9 0 (f := f 7) (i := z0.toNat) rfl rfl (by omega) (by decide) d_Model_slab_70 ?_
          exact W.iret (v := nI (f 7 z0.toNat)) hx hb hr (fun t9 ht hW => ⟨⟨nI (f 7 z0.toNat), ((zu v 0 (0)), f, w), rfl, (Or.inl ⟨(by unfold k_slab; rw [if_neg (by omega)]), rfl, (by first | rw [if_pos (show z1 = 0 from by omega)] | rw [if_neg (show ¬ z1 = 0 from by omega), if_pos (show z1 = 1 from by omega)] | rw [if_neg (show ¬ z1 = 0 from by omega), if_neg (show ¬ z1 = 1 from by omega)])⟩), by rw [ht]; exact hP, va_K.moved hW.alike hK, hD⟩, hS.F ht⟩) hS.2.2 d_Model_slab_71
        · have c_53 : z1 = (1 : Int) := (zz_eq (h1) ((by decide))).mp c_53
          refine lv_aload_n hx hb d_Model_slab_56 rfl (lv_at hl 0 rfl) ?_
          refine va_get (D := (dC, dI)) (ci := 5) (v := .ref (b 8)) (C := "CutLengthsModel") (T := T_Model) (N := 24) hx hb hz i_Model hown hK hP 0 rfl rfl 18 (by decide) (hz _ tw_499) (fun _ h9 => h9) rfl d_Model_slab_57 ?_
          refine lv_iload_n hx hb d_Model_slab_60 rfl (lv_at hl 1 rfl) ?_
          refine zz_top (zz_nat h0 (by omega)) ?_
          refine zz_nald hx hb hK hP 8 0 (f := f 6) (i := z0.toNat) rfl rfl (by omega) (by decide) d_Model_slab_61 ?_
          refine lv_goto (tgt := 71) hx hb d_Model_slab_62 (by decide) ?_
          exact W.iret (v := nI (f 6 z0.toNat)) hx hb hr (fun t9 ht hW => ⟨⟨nI (f 6 z0.toNat), ((zu v 0 (0)), f, w), rfl, (Or.inl ⟨(by unfold k_slab; rw [if_neg (by omega)]), rfl, (by first | rw [if_pos (show z1 = 0 from by omega)] | rw [if_neg (show ¬ z1 = 0 from by omega), if_pos (show z1 = 1 from by omega)] | rw [if_neg (show ¬ z1 = 0 from by omega), if_neg (show ¬ z1 = 1 from by omega)])⟩), by rw [ht]; exact hP, va_K.moved hW.alike hK, hD⟩, hS.F ht⟩) hS.2.2 d_Model_slab_71
      · have c_39 : z1 = (0 : Int) := (zz_eq (h1) ((by decide))).mp c_39
        refine lv_aload_n hx hb d_Model_slab_42 rfl (lv_at hl 0 rfl) ?_
        refine va_get (D := (dC, dI)) (ci := 5) (v := .ref (b 7)) (C := "CutLengthsModel") (T := T_Model) (N := 24) hx hb hz i_Model hown hK hP 0 rfl rfl 17 (by decide) (hz _ tw_498) (fun _ h9 => h9) rfl d_Model_slab_43 ?_
        refine lv_iload_n hx hb d_Model_slab_46 rfl (lv_at hl 1 rfl) ?_
        refine zz_top (zz_nat h0 (by omega)) ?_
        refine zz_iald hx hb hK hP 7 0 (f := w 0) (i := z0.toNat) rfl rfl (by omega) (by decide) d_Model_slab_47 ?_
        refine lv_goto (tgt := 71) hx hb d_Model_slab_48 (by decide) ?_
        exact W.iret (v := w 0 z0.toNat) hx hb hr (fun t9 ht hW => ⟨⟨w 0 z0.toNat, ((zu v 0 (0)), f, w), rfl, (Or.inl ⟨(by unfold k_slab; rw [if_neg (by omega)]), rfl, (by first | rw [if_pos (show z1 = 0 from by omega)] | rw [if_neg (show ¬ z1 = 0 from by omega), if_pos (show z1 = 1 from by omega)] | rw [if_neg (show ¬ z1 = 0 from by omega), if_neg (show ¬ z1 = 1 from by omega)])⟩), by rw [ht]; exact hP, va_K.moved hW.alike hK, hD⟩, hS.F ht⟩) hS.2.2 d_Model_slab_71
    · refine zz_top (congrArg nI (if_neg q_18)) ?_
      refine lv_if_ne (tgt := 28) hx hb d_Model_slab_21 (by decide) (fun c9 => absurd c9 (by decide)) (fun _ => ?_)
      refine lv_iconst (v := nI (1)) hx hb d_Model_slab_24 (by decide) ?_
      refine lv_goto (tgt := 29) hx hb d_Model_slab_25 (by decide) ?_
      refine lv_iconst (v := nI (0)) hx hb d_Model_slab_29 (by decide) ?_
      have hFc := va_free (wc := (wM b cI v f w)) hD hS hA [0, 1, 2, 3, 4, 5, 6, 7, 8, 9, 10, 11, 12, 13] rfl
      refine va_calli (va_runV (As := [.int (nI (1)), .int (nI (0))]) (rest := []) ⟨hx, hb, hml, hown, hz⟩ (c_Model_throwing_10 l dC dI b cI v f w (s.heap).size ) (cwV (C := "CutLengthsModel") 2 hz (zgV tw_567 tw_569 tw_8 tw_20 tw_570) rfl rfl rfl (by decide +kernel) ⟨Nat.le_of_ble_eq_true rfl, Nat.le_of_ble_eq_true rfl⟩) ⟨(fun a U g mk q => by obtain ⟨q0, q1, qP, qK, qD⟩ := q; exact ⟨q0, q1, qP, va_K.moved (u := U) (U := U.calling g mk a) (Vm.Alike.refl U.vm) qK, qD⟩), va_recv hK hP (ci := 5) (q0 := 0) rfl rfl, fun U hU hW => ⟨rfl, by rw [hU], by rw [hU]; exact hP, va_K.moved hW.alike hK, hD.weaken (fun _ _ _ _ => trivial)⟩⟩ rfl rfl hl.1 rfl (lv_room (Nat.le_of_ble_eq_true rfl)) d_Model_slab_30 ⟨Nat.zero_le _, Nat.zero_le _⟩) hS (fun q _ h => hFc q h) hFc (fun r_30 u9 t9 H1 locs ht hvm hw hB hz1 hk1 hS => ?_)
      obtain ⟨hP1, hK1, hD1⟩ := hB
      rw [ht] at hP1
      obtain ⟨hP, hD⟩ := va_join (wr := []) (w1 := (wM b cI (zu v 0 (1)) f w)) hP hD [0, 1, 2, 3, 4, 5, 6, 7, 8, 9, 10, 11, 12, 13] [] rfl rfl (by decide) (by decide) hk1 hFc hP1 hD1
      generalize H1 = H at hP hS ⊢
      have hP : va_P (dC, dI) vwCl (wM b cI (zu v 0 (1)) f w) H := hP
      have hD : va_D A (wM b cI (zu v 0 (1)) f w) := hD
      refine zz_top (hw) ?_
      refine lv_if_eq (tgt := 38) hx hb d_Model_slab_33 (by decide) (fun c9 => absurd c9 (by decide)) (fun _ => ?_)
      refine lv_iconst (v := nI (0)) hx hb d_Model_slab_36 (by decide) ?_
      exact W.iret (v := nI (0)) hx hb hr (fun t9 ht hW => ⟨⟨nI (0), ((zu v 0 (1)), f, w), rfl, (Or.inr ⟨1, by decide, (by unfold k_slab; rw [if_pos (by omega)]), rfl⟩), by rw [ht]; exact hP, va_K.moved hW.alike hK, hD⟩, hS.F ht⟩) hS.2.2 d_Model_slab_37
  · refine zz_top (congrArg nI (if_neg q_9)) ?_
    refine lv_if_eq (tgt := 24) hx hb d_Model_slab_12 (by decide) (fun _ => ?_) (fun c9 => absurd c9 (by decide))
    refine lv_iconst (v := nI (1)) hx hb d_Model_slab_24 (by decide) ?_
    refine lv_goto (tgt := 29) hx hb d_Model_slab_25 (by decide) ?_
    refine lv_iconst (v := nI (0)) hx hb d_Model_slab_29 (by decide) ?_
    have hFc := va_free (wc := (wM b cI v f w)) hD hS hA [0, 1, 2, 3, 4, 5, 6, 7, 8, 9, 10, 11, 12, 13] rfl
    refine va_calli (va_runV (As := [.int (nI (1)), .int (nI (0))]) (rest := []) ⟨hx, hb, hml, hown, hz⟩ (c_Model_throwing_10 l dC dI b cI v f w (s.heap).size ) (cwV (C := "CutLengthsModel") 2 hz (zgV tw_567 tw_569 tw_8 tw_20 tw_570) rfl rfl rfl (by decide +kernel) ⟨Nat.le_of_ble_eq_true rfl, Nat.le_of_ble_eq_true rfl⟩) ⟨(fun a U g mk q => by obtain ⟨q0, q1, qP, qK, qD⟩ := q; exact ⟨q0, q1, qP, va_K.moved (u := U) (U := U.calling g mk a) (Vm.Alike.refl U.vm) qK, qD⟩), va_recv hK hP (ci := 5) (q0 := 0) rfl rfl, fun U hU hW => ⟨rfl, by rw [hU], by rw [hU]; exact hP, va_K.moved hW.alike hK, hD.weaken (fun _ _ _ _ => trivial)⟩⟩ rfl rfl hl.1 rfl (lv_room (Nat.le_of_ble_eq_true rfl)) d_Model_slab_30 ⟨Nat.zero_le _, Nat.zero_le _⟩) hS (fun q _ h => hFc q h) hFc (fun r_30 u9 t9 H1 locs ht hvm hw hB hz1 hk1 hS => ?_)
    obtain ⟨hP1, hK1, hD1⟩ := hB
    rw [ht] at hP1
    obtain ⟨hP, hD⟩ := va_join (wr := []) (w1 := (wM b cI (zu v 0 (1)) f w)) hP hD [0, 1, 2, 3, 4, 5, 6, 7, 8, 9, 10, 11, 12, 13] [] rfl rfl (by decide) (by decide) hk1 hFc hP1 hD1
    generalize H1 = H at hP hS ⊢
    have hP : va_P (dC, dI) vwCl (wM b cI (zu v 0 (1)) f w) H := hP
    have hD : va_D A (wM b cI (zu v 0 (1)) f w) := hD
    refine zz_top (hw) ?_
    refine lv_if_eq (tgt := 38) hx hb d_Model_slab_33 (by decide) (fun c9 => absurd c9 (by decide)) (fun _ => ?_)
    refine lv_iconst (v := nI (0)) hx hb d_Model_slab_36 (by decide) ?_
    exact W.iret (v := nI (0)) hx hb hr (fun t9 ht hW => ⟨⟨nI (0), ((zu v 0 (1)), f, w), rfl, (Or.inr ⟨1, by decide, (by unfold k_slab; rw [if_pos (by omega)]), rfl⟩), by rw [ht]; exact hP, va_K.moved hW.alike hK, hD⟩, hS.F ht⟩) hS.2.2 d_Model_slab_37
set_option maxHeartbeats 4000000 in
set_option maxRecDepth 100000 in
theorem c_Model_weight (l : Launch) (dC : Nat → ClassId) (dI : Nat → Nat → Nat) (b : Nat → Nat) (cI : ClassId) (v : Nat → Nat) (f : Nat → Nat → Nat) (w : Nat → Nat → Int32) (sz : Nat) (p0 : Int32) (z0 : Int) (h0 : p0.toInt = z0) (hJ : zJ v f) : Met l y_Model_weight (zw_Model_weight :: zW) ({ frames := 1, cells := 0, slots := 0, locals := 22 }) (va_Pc [.ref (b 0), .int (p0)] (fun U => U.heap.size = sz ∧ va_P (dC, dI) vwCl (wM b cI v f w) U.heap ∧ va_K (dC, dI) vwCl [(cI, .int)] U ∧ va_D (fun _ => True) (wM b cI v f w))) (va_Ql (fun (r : Int64) (u : ZS) => (k_weight (v 10) z0 = 0 ∧ u = ((zu v 0 (0)), f, w) ∧ r = lN (f 7 z0.toNat) * lN (v 1) * lN (v 2) / 1000) ∨ (∃ c9, c9 ≠ 0 ∧ k_weight (v 10) z0 = c9 ∧ u = (zu v 0 c9, f, w))) (fun (u : ZS) t => match u with | (v9, f9, w9) => va_P (dC, dI) vwCl (wM b cI v9 f9 w9) t.heap ∧ va_K (dC, dI) vwCl [(cI, .int)] t ∧ va_D (va_A (wM b cI v f w) sz) (wM b cI v9 f9 w9)) (va_A (wM b cI v f w) sz)) 0 0 (va_A (wM b cI v f w) sz) := by
  refine Met.ofW (cc := prog_7_method_23_code) (maxL := 2) (ret := (some .long)) (by decide) rfl ?_
  intro p e s m args below meth c s₁ B hml hv
  obtain ⟨rfl, hsz, hP, hK, hD0⟩ := hv
  have hx := B.exec
  have hb := B.bytes
  have hr := B.returns
  have hz : ∀ w ∈ zW, w.before ([.ref (b 0), .int (p0)]).toArray s = true := fun w h => atoms_spec (ws := (zw_Model_weight :: zW)) B.pre w (List.mem_cons_of_mem _ h)
  have hown : s.vm.findClass "CutLengthsModel" = some m.cls := findClass_of_methodNamed B.named
  have hlocks := B.notSynchronized
  subst hsz
  have hD := hD0.self (sz := s.heap.size)
  generalize hAe : va_A (wM b cI v f w) s.heap.size = A at hD ⊢
  have hA : ∀ q : Nat, s.heap.size ≤ q → A q := fun q h => by rw [← hAe]; exact Or.inr h
  have hS : va_S A s.heap s.heap [] := va_S.rf
  have hP : va_P (dC, dI) vwCl (wM b cI v f w) s.heap := hP
  obtain ⟨j3, j4, j5, j6, j7, j8, j9, j10, j1, j2, jw, jb, jr, jsl⟩ := id hJ
  have hl := lv_entry ([.ref (b 0), .int (p0)]) (n := 2) (Nat.le_of_ble_eq_true rfl)
  rw [lg_entry_eq]
  generalize (lg_sl ([.ref (b 0), .int (p0)]) ++ List.replicate (2 - (lg_sl ([.ref (b 0), .int (p0)])).length) Slot.unset).toArray = ls at hl ⊢
  have hl : lv_has ls 2 [(0, .ref (b 0)), (1, .int (p0))] := hl
  refine lv_aload_n hx hb d_Model_weight_0 rfl (lv_at hl 0 rfl) ?_
  refine lv_iload_n hx hb d_Model_weight_1 rfl (lv_at hl 1 rfl) ?_
  refine lv_iconst (v := nI (0)) hx hb d_Model_weight_2 (by decide) ?_
  refine lv_aload_n hx hb d_Model_weight_3 rfl (lv_at hl 0 rfl) ?_
  refine va_get (D := (dC, dI)) (ci := 5) (v := .int (nI (v 10))) (C := "CutLengthsModel") (T := T_Model) (N := 24) hx hb hz i_Model hown hK hP 0 rfl rfl 16 (by decide) (hz _ tw_497) (fun _ h9 => h9) rfl d_Model_weight_4 ?_
  refine lv_iconst (v := nI (1)) hx hb d_Model_weight_7 (by decide) ?_
  refine lv_isub hx hb d_Model_weight_8 ?_
  refine zz_ro (va_runS (As := [.int (p0), .int (nI (0)), .int (nI (v 10) - nI (1))]) (rest := [.ref (b 0)]) ⟨hx, hb, hml, hown, hz⟩ (c_Model_in l (p0) (nI (0)) (nI (v 10) - nI (1)) (z0) ((0 : Int)) (((v 10 : Nat) : Int) - ((1 : Nat) : Int)) (h0) ((by decide)) (pk_sub_toInt (by omega) (by omega))) (va_cwS 3 hz (zgS tw_563 tw_564 tw_20 tw_565) rfl rfl rfl (by decide +kernel) ⟨Nat.le_of_ble_eq_true rfl, Nat.le_of_ble_eq_true rfl⟩) ⟨fun _ _ _ _ q => q, fun U hU hW => ⟨rfl, trivial⟩⟩ rfl rfl hl.1 rfl (lv_room (Nat.le_of_ble_eq_true rfl)) d_Model_weight_9 ⟨Nat.zero_le _, Nat.zero_le _⟩) ?_
  by_cases q_9 : ((0 : Int)) ≤ (z0) ∧ (z0) ≤ (((v 10 : Nat) : Int) - ((1 : Nat) : Int))
  · refine zz_top (congrArg nI (if_pos q_9)) ?_
    refine lv_if_ne (tgt := 19) hx hb d_Model_weight_12 (by decide) (fun _ => ?_) (fun c9 => absurd c9 (by decide))
    refine lv_iconst (v := nI (0)) hx hb d_Model_weight_19 (by decide) ?_
    refine lv_iconst (v := nI (0)) hx hb d_Model_weight_20 (by decide) ?_
    have hFc := va_free (wc := (wM b cI v f w)) hD hS hA [0, 1, 2, 3, 4, 5, 6, 7, 8, 9, 10, 11, 12, 13] rfl
    refine va_calli (va_runV (As := [.int (nI (0)), .int (nI (0))]) (rest := []) ⟨hx, hb, hml, hown, hz⟩ (c_Model_throwing_00 l dC dI b cI v f w (s.heap).size ) (cwV (C := "CutLengthsModel") 2 hz (zgV tw_567 tw_569 tw_8 tw_20 tw_570) rfl rfl rfl (by decide +kernel) ⟨Nat.le_of_ble_eq_true rfl, Nat.le_of_ble_eq_true rfl⟩) ⟨(fun a U g mk q => by obtain ⟨q0, q1, qP, qK, qD⟩ := q; exact ⟨q0, q1, qP, va_K.moved (u := U) (U := U.calling g mk a) (Vm.Alike.refl U.vm) qK, qD⟩), va_recv hK hP (ci := 5) (q0 := 0) rfl rfl, fun U hU hW => ⟨rfl, by rw [hU], by rw [hU]; exact hP, va_K.moved hW.alike hK, hD.weaken (fun _ _ _ _ => trivial)⟩⟩ rfl rfl hl.1 rfl (lv_room (Nat.le_of_ble_eq_true rfl)) d_Model_weight_21 ⟨Nat.zero_le _, Nat.zero_le _⟩) hS (fun q _ h => hFc q h) hFc (fun r_21 u9 t9 H1 locs ht hvm hw hB hz1 hk1 hS => ?_)
    obtain ⟨hP1, hK1, hD1⟩ := hB
    rw [ht] at hP1
    obtain ⟨hP, hD⟩ := va_join (wr := []) (w1 := (wM b cI (zu v 0 (0)) f w)) hP hD [0, 1, 2, 3, 4, 5, 6, 7, 8, 9, 10, 11, 12, 13] [] rfl rfl (by decide) (by decide) hk1 hFc hP1 hD1
    generalize H1 = H at hP hS ⊢
    have hP : va_P (dC, dI) vwCl (wM b cI (zu v 0 (0)) f w) H := hP
    have hD : va_D A (wM b cI (zu v 0 (0)) f w) := hD
    refine zz_top (hw) ?_
    refine lv_if_eq (tgt := 29) hx hb d_Model_weight_24 (by decide) (fun _ => ?_) (fun c9 => absurd c9 (by decide))
    have hs9 := jsl z0.toNat (by omega)
    refine lv_aload_n hx hb d_Model_weight_29 rfl (lv_at hl 0 rfl) ?_
    refine va_get (D := (dC, dI)) (ci := 5) (v := .ref (b 9)) (C := "CutLengthsModel") (T := T_Model) (N := 24) hx hb hz i_Model hown hK hP 0 rfl rfl 19 (by decide) (hz _ tw_500) (fun _ h9 => h9) rfl d_Model_weight_30 ?_
    refine lv_iload_n hx hb d_Model_weight_33 rfl (lv_at hl 1 rfl) ?_
    refine zz_top (zz_nat h0 (by omega)) ?_
    refine zz_nald hx hb hK hP 9 0 (f := f 7) (i := z0.toNat) rfl rfl (by omega) (by decide) d_Model_weight_34 ?_
    refine lv_i2l (v := lN (f 7 z0.toNat)) hx hb d_Model_weight_35 (nI_l (by omega)) ?_
    refine lv_aload_n hx hb d_Model_weight_36 rfl (lv_at hl 0 rfl) ?_
    refine va_get (D := (dC, dI)) (ci := 5) (v := .int (nI (v 1))) (C := "CutLengthsModel") (T := T_Model) (N := 24) hx hb hz i_Model hown hK hP 0 rfl rfl 1 (by decide) (hz _ tw_482) (fun _ h9 => h9) rfl d_Model_weight_37 ?_
    refine lv_i2l (v := lN (v 1)) hx hb d_Model_weight_40 (nI_l (by omega)) ?_
    refine lv_lmul hx hb d_Model_weight_41 ?_
    refine lv_aload_n hx hb d_Model_weight_42 rfl (lv_at hl 0 rfl) ?_
    refine va_get (D := (dC, dI)) (ci := 5) (v := .int (nI (v 2))) (C := "CutLengthsModel") (T := T_Model) (N := 24) hx hb hz i_Model hown hK hP 0 rfl rfl 2 (by decide) (hz _ tw_483) (fun _ h9 => h9) rfl d_Model_weight_43 ?_
    refine lv_i2l (v := lN (v 2)) hx hb d_Model_weight_46 (nI_l (by omega)) ?_
    refine lv_lmul hx hb d_Model_weight_47 ?_
    refine lv_ldc2 (v := 1000) hx hb hown (hz _ tw_641) d_Model_weight_48 ?_
    refine lv_ldiv hx hb d_Model_weight_51 (by decide) ?_
    exact W.lret (v := (((lN (f 7 z0.toNat)) * (lN (v 1))) * (lN (v 2))) / (1000)) hx hb hr (fun t9 ht hW => ⟨⟨(((lN (f 7 z0.toNat)) * (lN (v 1))) * (lN (v 2))) / (1000), ((zu v 0 (0)), f, w), rfl, (Or.inl ⟨(by unfold k_weight; rw [if_neg (by omega)]), rfl, rfl⟩), by rw [ht]; exact hP, va_K.moved hW.alike hK, hD⟩, hS.F ht⟩) hS.2.2 d_Model_weight_52
  · refine zz_top (congrArg nI (if_neg q_9)) ?_
    refine lv_if_ne (tgt := 19) hx hb d_Model_weight_12 (by decide) (fun c9 => absurd c9 (by decide)) (fun _ => ?_)
    refine lv_iconst (v := nI (1)) hx hb d_Model_weight_15 (by decide) ?_
    refine lv_goto (tgt := 20) hx hb d_Model_weight_16 (by decide) ?_
    refine lv_iconst (v := nI (0)) hx hb d_Model_weight_20 (by decide) ?_
    have hFc := va_free (wc := (wM b cI v f w)) hD hS hA [0, 1, 2, 3, 4, 5, 6, 7, 8, 9, 10, 11, 12, 13] rfl
    refine va_calli (va_runV (As := [.int (nI (1)), .int (nI (0))]) (rest := []) ⟨hx, hb, hml, hown, hz⟩ (c_Model_throwing_10 l dC dI b cI v f w (s.heap).size ) (cwV (C := "CutLengthsModel") 2 hz (zgV tw_567 tw_569 tw_8 tw_20 tw_570) rfl rfl rfl (by decide +kernel) ⟨Nat.le_of_ble_eq_true rfl, Nat.le_of_ble_eq_true rfl⟩) ⟨(fun a U g mk q => by obtain ⟨q0, q1, qP, qK, qD⟩ := q; exact ⟨q0, q1, qP, va_K.moved (u := U) (U := U.calling g mk a) (Vm.Alike.refl U.vm) qK, qD⟩), va_recv hK hP (ci := 5) (q0 := 0) rfl rfl, fun U hU hW => ⟨rfl, by rw [hU], by rw [hU]; exact hP, va_K.moved hW.alike hK, hD.weaken (fun _ _ _ _ => trivial)⟩⟩ rfl rfl hl.1 rfl (lv_room (Nat.le_of_ble_eq_true rfl)) d_Model_weight_21 ⟨Nat.zero_le _, Nat.zero_le _⟩) hS (fun q _ h => hFc q h) hFc (fun r_21 u9 t9 H1 locs ht hvm hw hB hz1 hk1 hS => ?_)
    obtain ⟨hP1, hK1, hD1⟩ := hB
    rw [ht] at hP1
    obtain ⟨hP, hD⟩ := va_join (wr := []) (w1 := (wM b cI (zu v 0 (1)) f w)) hP hD [0, 1, 2, 3, 4, 5, 6, 7, 8, 9, 10, 11, 12, 13] [] rfl rfl (by decide) (by decide) hk1 hFc hP1 hD1
    generalize H1 = H at hP hS ⊢
    have hP : va_P (dC, dI) vwCl (wM b cI (zu v 0 (1)) f w) H := hP
    have hD : va_D A (wM b cI (zu v 0 (1)) f w) := hD
    refine zz_top (hw) ?_
    refine lv_if_eq (tgt := 29) hx hb d_Model_weight_24 (by decide) (fun c9 => absurd c9 (by decide)) (fun _ => ?_)
    refine lv_lconst (v := 0) hx hb d_Model_weight_27 (by decide) ?_
    exact W.lret (v := 0) hx hb hr (fun t9 ht hW => ⟨⟨0, ((zu v 0 (1)), f, w), rfl, (Or.inr ⟨1, by decide, (by unfold k_weight; rw [if_pos (by omega)]), rfl⟩), by rw [ht]; exact hP, va_K.moved hW.alike hK, hD⟩, hS.F ht⟩) hS.2.2 d_Model_weight_28
set_option maxHeartbeats 4000000 in
set_option maxRecDepth 100000 in
theorem c_Model_count (l : Launch) (dC : Nat → ClassId) (dI : Nat → Nat → Nat) (b : Nat → Nat) (cI : ClassId) (v : Nat → Nat) (f : Nat → Nat → Nat) (w : Nat → Nat → Int32) (sz : Nat) (p0 : Int32) (z0 : Int) (h0 : p0.toInt = z0) (hJ : zJ v f) : Met l y_Model_count (zw_Model_count :: zW) ({ frames := 1, cells := 0, slots := 0, locals := 22 }) (va_Pc [.ref (b 0), .int (p0)] (fun U => U.heap.size = sz ∧ va_P (dC, dI) vwCl (wM b cI v f w) U.heap ∧ va_K (dC, dI) vwCl [(cI, .int)] U ∧ va_D (fun _ => True) (wM b cI v f w))) (va_Qi (fun (r : Int32) (u : ZS) => (k_count (v 7) z0 = 0 ∧ u = ((zu v 0 (0)), f, w) ∧ r = nI (zcnt (w 0) p0 (v 10))) ∨ (∃ c9, c9 ≠ 0 ∧ k_count (v 7) z0 = c9 ∧ u = (zu v 0 c9, f, w))) (fun (u : ZS) t => match u with | (v9, f9, w9) => va_P (dC, dI) vwCl (wM b cI v9 f9 w9) t.heap ∧ va_K (dC, dI) vwCl [(cI, .int)] t ∧ va_D (va_A (wM b cI v f w) sz) (wM b cI v9 f9 w9)) (va_A (wM b cI v f w) sz)) 0 0 (va_A (wM b cI v f w) sz) := by
  refine Met.ofW (cc := prog_7_method_24_code) (maxL := 4) (ret := (some .int)) (by decide) rfl ?_
  intro p e s m args below meth c s₁ B hml hv
  obtain ⟨rfl, hsz, hP, hK, hD0⟩ := hv
  have hx := B.exec
  have hb := B.bytes
  have hr := B.returns
  have hz : ∀ w ∈ zW, w.before ([.ref (b 0), .int (p0)]).toArray s = true := fun w h => atoms_spec (ws := (zw_Model_count :: zW)) B.pre w (List.mem_cons_of_mem _ h)
  have hown : s.vm.findClass "CutLengthsModel" = some m.cls := findClass_of_methodNamed B.named
  have hlocks := B.notSynchronized
  subst hsz
  have hD := hD0.self (sz := s.heap.size)
  generalize hAe : va_A (wM b cI v f w) s.heap.size = A at hD ⊢
  have hA : ∀ q : Nat, s.heap.size ≤ q → A q := fun q h => by rw [← hAe]; exact Or.inr h
  have hS : va_S A s.heap s.heap [] := va_S.rf
  have hP : va_P (dC, dI) vwCl (wM b cI v f w) s.heap := hP
  obtain ⟨j3, j4, j5, j6, j7, j8, j9, j10, j1, j2, jw, jb, jr, jsl⟩ := id hJ
  have hl := lv_entry ([.ref (b 0), .int (p0)]) (n := 4) (Nat.le_of_ble_eq_true rfl)
  rw [lg_entry_eq]
  generalize (lg_sl ([.ref (b 0), .int (p0)]) ++ List.replicate (4 - (lg_sl ([.ref (b 0), .int (p0)])).length) Slot.unset).toArray = ls at hl ⊢
  have hl : lv_has ls 4 [(0, .ref (b 0)), (1, .int (p0))] := hl
  refine lv_aload_n hx hb d_Model_count_0 rfl (lv_at hl 0 rfl) ?_
  refine lv_iload_n hx hb d_Model_count_1 rfl (lv_at hl 1 rfl) ?_
  refine lv_iconst (v := -1) hx hb d_Model_count_2 (by decide) ?_
  refine lv_aload_n hx hb d_Model_count_3 rfl (lv_at hl 0 rfl) ?_
  refine va_get (D := (dC, dI)) (ci := 5) (v := .int (nI (v 7))) (C := "CutLengthsModel") (T := T_Model) (N := 24) hx hb hz i_Model hown hK hP 0 rfl rfl 7 (by decide) (hz _ tw_488) (fun _ h9 => h9) rfl d_Model_count_4 ?_
  refine lv_iconst (v := nI (1)) hx hb d_Model_count_7 (by decide) ?_
  refine lv_isub hx hb d_Model_count_8 ?_
  refine zz_ro (va_runS (As := [.int (p0), .int (-1), .int (nI (v 7) - nI (1))]) (rest := [.ref (b 0)]) ⟨hx, hb, hml, hown, hz⟩ (c_Model_in l (p0) (-1) (nI (v 7) - nI (1)) (z0) ((-1 : Int)) (((v 7 : Nat) : Int) - ((1 : Nat) : Int)) (h0) ((by decide)) (pk_sub_toInt (by omega) (by omega))) (va_cwS 3 hz (zgS tw_563 tw_564 tw_20 tw_565) rfl rfl rfl (by decide +kernel) ⟨Nat.le_of_ble_eq_true rfl, Nat.le_of_ble_eq_true rfl⟩) ⟨fun _ _ _ _ q => q, fun U hU hW => ⟨rfl, trivial⟩⟩ rfl rfl hl.1 rfl (lv_room (Nat.le_of_ble_eq_true rfl)) d_Model_count_9 ⟨Nat.zero_le _, Nat.zero_le _⟩) ?_
  by_cases q_9 : ((-1 : Int)) ≤ (z0) ∧ (z0) ≤ (((v 7 : Nat) : Int) - ((1 : Nat) : Int))
  · refine zz_top (congrArg nI (if_pos q_9)) ?_
    refine lv_if_ne (tgt := 19) hx hb d_Model_count_12 (by decide) (fun _ => ?_) (fun c9 => absurd c9 (by decide))
    refine lv_iconst (v := nI (0)) hx hb d_Model_count_19 (by decide) ?_
    refine lv_iconst (v := nI (0)) hx hb d_Model_count_20 (by decide) ?_
    have hFc := va_free (wc := (wM b cI v f w)) hD hS hA [0, 1, 2, 3, 4, 5, 6, 7, 8, 9, 10, 11, 12, 13] rfl
    refine va_calli (va_runV (As := [.int (nI (0)), .int (nI (0))]) (rest := []) ⟨hx, hb, hml, hown, hz⟩ (c_Model_throwing_00 l dC dI b cI v f w (s.heap).size ) (cwV (C := "CutLengthsModel") 2 hz (zgV tw_567 tw_569 tw_8 tw_20 tw_570) rfl rfl rfl (by decide +kernel) ⟨Nat.le_of_ble_eq_true rfl, Nat.le_of_ble_eq_true rfl⟩) ⟨(fun a U g mk q => by obtain ⟨q0, q1, qP, qK, qD⟩ := q; exact ⟨q0, q1, qP, va_K.moved (u := U) (U := U.calling g mk a) (Vm.Alike.refl U.vm) qK, qD⟩), va_recv hK hP (ci := 5) (q0 := 0) rfl rfl, fun U hU hW => ⟨rfl, by rw [hU], by rw [hU]; exact hP, va_K.moved hW.alike hK, hD.weaken (fun _ _ _ _ => trivial)⟩⟩ rfl rfl hl.1 rfl (lv_room (Nat.le_of_ble_eq_true rfl)) d_Model_count_21 ⟨Nat.zero_le _, Nat.zero_le _⟩) hS (fun q _ h => hFc q h) hFc (fun r_21 u9 t9 H1 locs ht hvm hw hB hz1 hk1 hS => ?_)
    obtain ⟨hP1, hK1, hD1⟩ := hB
    rw [ht] at hP1
    obtain ⟨hP, hD⟩ := va_join (wr := []) (w1 := (wM b cI (zu v 0 (0)) f w)) hP hD [0, 1, 2, 3, 4, 5, 6, 7, 8, 9, 10, 11, 12, 13] [] rfl rfl (by decide) (by decide) hk1 hFc hP1 hD1
    generalize H1 = H at hP hS ⊢
    have hP : va_P (dC, dI) vwCl (wM b cI (zu v 0 (0)) f w) H := hP
    have hD : va_D A (wM b cI (zu v 0 (0)) f w) := hD
    refine zz_top (hw) ?_
    refine lv_if_eq (tgt := 29) hx hb d_Model_count_24 (by decide) (fun _ => ?_) (fun c9 => absurd c9 (by decide))
    refine lv_iconst (v := nI (0)) hx hb d_Model_count_29 (by decide) ?_
    refine lv_istore_n (lv' := [(2, .int (nI (0))), (0, .ref (b 0)), (1, .int (p0))]) hx hb d_Model_count_30 rfl hl (by decide) rfl (fun ls hl => ?_)
    refine lv_iconst (v := nI (0)) hx hb d_Model_count_31 (by decide) ?_
    refine lv_istore_n (lv' := [(3, .int (nI (0))), (2, .int (nI (0))), (0, .ref (b 0)), (1, .int (p0))]) hx hb d_Model_count_32 rfl hl (by decide) rfl (fun ls hl => ?_)
    have loop : ∀ (n : Nat) (i : Nat), (i ≤ v 10) → (v 10 < i + n) → ∀ (H : Heap) (locs : List Loc), va_P (dC, dI) vwCl (wM b cI (zu v 0 (0)) f w) H → va_D A (wM b cI (zu v 0 (0)) f w) → va_S A s.heap H locs → ∀ ls : Array Slot, lv_has ls 4 [(3, .int (nI (i))), (2, .int (nI (zcnt (w 0) p0 i))), (0, .ref (b 0)), (1, .int (p0))] → W p l e (headSpec (zw_Model_count :: zW) ({ frames := 1, cells := 0, slots := 0, locals := 22 })).room s m ([.ref (b 0), .int (p0)]).toArray below meth c H locs 0 0 (MQ below (va_Qi (fun (r : Int32) (u : ZS) => (k_count (v 7) z0 = 0 ∧ u = ((zu v 0 (0)), f, w) ∧ r = nI (zcnt (w 0) p0 (v 10))) ∨ (∃ c9, c9 ≠ 0 ∧ k_count (v 7) z0 = c9 ∧ u = (zu v 0 c9, f, w))) (fun (u : ZS) t => match u with | (v9, f9, w9) => va_P (dC, dI) vwCl (wM b cI v9 f9 w9) t.heap ∧ va_K (dC, dI) vwCl [(cI, .int)] t ∧ va_D A (wM b cI v9 f9 w9)) A) ([.ref (b 0), .int (p0)]).toArray s 0 0 A) (F0 m 33 ls []) := by
      intro n
      induction n with
      | zero =>
        intro i hi hn
        exact absurd hn (by omega)
      | succ n ih_loop =>
        intro i hi hn H locs hP hD hS ls hl
        have hz9 := zcnt_le (f := w 0) (x := p0) i
        refine lv_iload_n hx hb d_Model_count_33 rfl (lv_at hl 0 rfl) ?_
        refine lv_aload_n hx hb d_Model_count_34 rfl (lv_at hl 2 rfl) ?_
        refine va_get (D := (dC, dI)) (ci := 5) (v := .int (nI (v 10))) (C := "CutLengthsModel") (T := T_Model) (N := 24) hx hb hz i_Model hown hK hP 0 rfl rfl 16 (by decide) (hz _ tw_497) (fun _ h9 => h9) rfl d_Model_count_35 ?_
        refine lv_icmp_ge (tgt := 65) hx hb d_Model_count_38 (by decide) (fun c_38 => ?_) (fun c_38 => ?_)
        · have c_38 : ((v 10 : Nat) : Int) ≤ ((i : Nat) : Int) := (zz_le (nI_toInt (by omega)) (nI_toInt (by omega))).mp c_38
          refine lv_iload_n hx hb d_Model_count_65 rfl (lv_at hl 1 rfl) ?_
          exact W.iret (v := nI (zcnt (w 0) p0 i)) hx hb hr (fun t9 ht hW => ⟨⟨nI (zcnt (w 0) p0 i), ((zu v 0 (0)), f, w), rfl, (Or.inl ⟨(by unfold k_count; rw [if_neg (by omega)]), rfl, by rw [show i = v 10 from by omega]⟩), by rw [ht]; exact hP, va_K.moved hW.alike hK, hD⟩, hS.F ht⟩) hS.2.2 d_Model_count_66
        · have c_38 : ¬ (((v 10 : Nat) : Int) ≤ ((i : Nat) : Int)) := fun q => c_38 ((zz_le (nI_toInt (by omega)) (nI_toInt (by omega))).mpr q)
          refine lv_iload_n hx hb d_Model_count_41 rfl (lv_at hl 1 rfl) ?_
          refine lv_aload_n hx hb d_Model_count_42 rfl (lv_at hl 2 rfl) ?_
          refine va_get (D := (dC, dI)) (ci := 5) (v := .ref (b 7)) (C := "CutLengthsModel") (T := T_Model) (N := 24) hx hb hz i_Model hown hK hP 0 rfl rfl 17 (by decide) (hz _ tw_498) (fun _ h9 => h9) rfl d_Model_count_43 ?_
          refine lv_iload_n hx hb d_Model_count_46 rfl (lv_at hl 0 rfl) ?_
          refine zz_iald hx hb hK hP 7 0 (f := w 0) (i := i) rfl rfl (by omega) (by decide) d_Model_count_47 ?_
          refine lv_iload_n hx hb d_Model_count_48 rfl (lv_at hl 3 rfl) ?_
          refine lv_icmp_ne (tgt := 56) hx hb d_Model_count_49 (by decide) (fun c_49 => ?_) (fun c_49 => ?_)
          · have c_49 : ¬ (w 0 i = p0) := c_49
            refine lv_iconst (v := nI (0)) hx hb d_Model_count_56 (by decide) ?_
            refine lv_iadd hx hb d_Model_count_57 ?_
            refine zz_top (nI_add (zcnt (w 0) p0 i) (0)) ?_
            refine lv_istore_n (lv' := [(2, .int (nI ((zcnt (w 0) p0 i) + 0))), (3, .int (nI (i))), (0, .ref (b 0)), (1, .int (p0))]) hx hb d_Model_count_58 rfl hl (by decide) rfl (fun ls hl => ?_)
            refine lv_iinc (v := nI (i + 1)) (lv' := [(3, .int (nI (i + 1))), (2, .int (nI ((zcnt (w 0) p0 i) + 0))), (0, .ref (b 0)), (1, .int (p0))]) hx hb d_Model_count_59 hl (k := 1) rfl (zz_inc _) (by decide) rfl (fun ls hl => ?_)
            refine lv_goto (tgt := 33) hx hb d_Model_count_62 (by decide) ?_
            exact ih_loop (i + 1) (by omega) (by omega) H locs hP hD hS ls (by rw [show zcnt (w 0) p0 (i + 1) = (zcnt (w 0) p0 i) + 0 from if_neg c_49]; exact lv_sub hl [0, 1, 2, 3] rfl)
          · have c_49 : w 0 i = p0 := c_49
            refine lv_iconst (v := nI (1)) hx hb d_Model_count_52 (by decide) ?_
            refine lv_goto (tgt := 57) hx hb d_Model_count_53 (by decide) ?_
            refine lv_iadd hx hb d_Model_count_57 ?_
            refine zz_top (nI_add (zcnt (w 0) p0 i) (1)) ?_
            refine lv_istore_n (lv' := [(2, .int (nI ((zcnt (w 0) p0 i) + 1))), (3, .int (nI (i))), (0, .ref (b 0)), (1, .int (p0))]) hx hb d_Model_count_58 rfl hl (by decide) rfl (fun ls hl => ?_)
            refine lv_iinc (v := nI (i + 1)) (lv' := [(3, .int (nI (i + 1))), (2, .int (nI ((zcnt (w 0) p0 i) + 1))), (0, .ref (b 0)), (1, .int (p0))]) hx hb d_Model_count_59 hl (k := 1) rfl (zz_inc _) (by decide) rfl (fun ls hl => ?_)
            refine lv_goto (tgt := 33) hx hb d_Model_count_62 (by decide) ?_
            exact ih_loop (i + 1) (by omega) (by omega) H locs hP hD hS ls (by rw [show zcnt (w 0) p0 (i + 1) = (zcnt (w 0) p0 i) + 1 from if_pos c_49]; exact lv_sub hl [0, 1, 2, 3] rfl)
    exact loop (v 10 + 1) 0 (Nat.zero_le _) (by omega) H locs hP hD hS ls (lv_sub hl [0, 1, 2, 3] rfl)
  · refine zz_top (congrArg nI (if_neg q_9)) ?_
    refine lv_if_ne (tgt := 19) hx hb d_Model_count_12 (by decide) (fun c9 => absurd c9 (by decide)) (fun _ => ?_)
    refine lv_iconst (v := nI (1)) hx hb d_Model_count_15 (by decide) ?_
    refine lv_goto (tgt := 20) hx hb d_Model_count_16 (by decide) ?_
    refine lv_iconst (v := nI (0)) hx hb d_Model_count_20 (by decide) ?_
    have hFc := va_free (wc := (wM b cI v f w)) hD hS hA [0, 1, 2, 3, 4, 5, 6, 7, 8, 9, 10, 11, 12, 13] rfl
    refine va_calli (va_runV (As := [.int (nI (1)), .int (nI (0))]) (rest := []) ⟨hx, hb, hml, hown, hz⟩ (c_Model_throwing_10 l dC dI b cI v f w (s.heap).size ) (cwV (C := "CutLengthsModel") 2 hz (zgV tw_567 tw_569 tw_8 tw_20 tw_570) rfl rfl rfl (by decide +kernel) ⟨Nat.le_of_ble_eq_true rfl, Nat.le_of_ble_eq_true rfl⟩) ⟨(fun a U g mk q => by obtain ⟨q0, q1, qP, qK, qD⟩ := q; exact ⟨q0, q1, qP, va_K.moved (u := U) (U := U.calling g mk a) (Vm.Alike.refl U.vm) qK, qD⟩), va_recv hK hP (ci := 5) (q0 := 0) rfl rfl, fun U hU hW => ⟨rfl, by rw [hU], by rw [hU]; exact hP, va_K.moved hW.alike hK, hD.weaken (fun _ _ _ _ => trivial)⟩⟩ rfl rfl hl.1 rfl (lv_room (Nat.le_of_ble_eq_true rfl)) d_Model_count_21 ⟨Nat.zero_le _, Nat.zero_le _⟩) hS (fun q _ h => hFc q h) hFc (fun r_21 u9 t9 H1 locs ht hvm hw hB hz1 hk1 hS => ?_)
    obtain ⟨hP1, hK1, hD1⟩ := hB
    rw [ht] at hP1
    obtain ⟨hP, hD⟩ := va_join (wr := []) (w1 := (wM b cI (zu v 0 (1)) f w)) hP hD [0, 1, 2, 3, 4, 5, 6, 7, 8, 9, 10, 11, 12, 13] [] rfl rfl (by decide) (by decide) hk1 hFc hP1 hD1
    generalize H1 = H at hP hS ⊢
    have hP : va_P (dC, dI) vwCl (wM b cI (zu v 0 (1)) f w) H := hP
    have hD : va_D A (wM b cI (zu v 0 (1)) f w) := hD
    refine zz_top (hw) ?_
    refine lv_if_eq (tgt := 29) hx hb d_Model_count_24 (by decide) (fun c9 => absurd c9 (by decide)) (fun _ => ?_)
    refine lv_iconst (v := nI (0)) hx hb d_Model_count_27 (by decide) ?_
    exact W.iret (v := nI (0)) hx hb hr (fun t9 ht hW => ⟨⟨nI (0), ((zu v 0 (1)), f, w), rfl, (Or.inr ⟨1, by decide, (by unfold k_count; rw [if_pos (by omega)]), rfl⟩), by rw [ht]; exact hP, va_K.moved hW.alike hK, hD⟩, hS.F ht⟩) hS.2.2 d_Model_count_28
set_option maxHeartbeats 4000000 in
set_option maxRecDepth 100000 in
theorem c_Model_torch (l : Launch) (dC : Nat → ClassId) (dI : Nat → Nat → Nat) (b : Nat → Nat) (cI : ClassId) (v : Nat → Nat) (f : Nat → Nat → Nat) (w : Nat → Nat → Int32) (sz : Nat)  : Met l y_Model_torch (zw_Model_torch :: zW) ({ frames := 0, cells := 0, slots := 0, locals := 0 }) (va_Pc [.ref (b 0)] (fun U => U.heap.size = sz ∧ va_P (dC, dI) vwCl (wM b cI v f w) U.heap ∧ va_K (dC, dI) vwCl [(cI, .int)] U ∧ va_D (fun _ => True) (wM b cI v f w))) (va_Qi (fun (r : Int32) (u : Unit) => r = nI (v 4)) (fun (_ : Unit) t => va_P (dC, dI) vwCl (wM b cI (zu v 0 (0)) f w) t.heap ∧ va_K (dC, dI) vwCl [(cI, .int)] t ∧ va_D (va_A (wM b cI v f w) sz) (wM b cI (zu v 0 (0)) f w)) (va_A (wM b cI v f w) sz)) 0 0 (va_A (wM b cI v f w) sz) := by
  refine Met.ofW (cc := prog_7_method_25_code) (maxL := 1) (ret := (some .int)) (by decide) rfl ?_
  intro p e s m args below meth c s₁ B hml hv
  obtain ⟨rfl, hsz, hP, hK, hD0⟩ := hv
  have hx := B.exec
  have hb := B.bytes
  have hr := B.returns
  have hz : ∀ w ∈ zW, w.before ([.ref (b 0)]).toArray s = true := fun w h => atoms_spec (ws := (zw_Model_torch :: zW)) B.pre w (List.mem_cons_of_mem _ h)
  have hown : s.vm.findClass "CutLengthsModel" = some m.cls := findClass_of_methodNamed B.named
  have hlocks := B.notSynchronized
  subst hsz
  have hD := hD0.self (sz := s.heap.size)
  generalize hAe : va_A (wM b cI v f w) s.heap.size = A at hD ⊢
  have hA : ∀ q : Nat, s.heap.size ≤ q → A q := fun q h => by rw [← hAe]; exact Or.inr h
  have hS : va_S A s.heap s.heap [] := va_S.rf
  have hP : va_P (dC, dI) vwCl (wM b cI v f w) s.heap := hP
  have hl := lv_entry ([.ref (b 0)]) (n := 1) (Nat.le_of_ble_eq_true rfl)
  rw [lg_entry_eq]
  generalize (lg_sl ([.ref (b 0)]) ++ List.replicate (1 - (lg_sl ([.ref (b 0)])).length) Slot.unset).toArray = ls at hl ⊢
  have hl : lv_has ls 1 [(0, .ref (b 0))] := hl
  refine lv_aload_n hx hb d_Model_torch_0 rfl (lv_at hl 0 rfl) ?_
  refine lv_iconst (v := nI (0)) hx hb d_Model_torch_1 (by decide) ?_
  refine va_put (D := (dC, dI)) (ci := 5) (v := .int (nI (0))) (ty := .int) (C := "CutLengthsModel") (T := T_Model) (N := 24) hx hb hz i_Model t_Model t_Model_ok n_Model hown hK hP hD hS 0 rfl rfl 0 (by decide) (hz _ tw_481) (fun _ h9 => h9) rfl (by decide +kernel) rfl rfl (Nat.le_of_ble_eq_true rfl) d_Model_torch_2 (fun H locs hP hD hS => ?_)
  have hP : va_P (dC, dI) vwCl (wM b cI (zu v 0 (0)) f w) H := hP
  have hD : va_D A (wM b cI (zu v 0 (0)) f w) := hD
  refine lv_aload_n hx hb d_Model_torch_5 rfl (lv_at hl 0 rfl) ?_
  refine va_get (D := (dC, dI)) (ci := 5) (v := .int (nI (v 4))) (C := "CutLengthsModel") (T := T_Model) (N := 24) hx hb hz i_Model hown hK hP 0 rfl rfl 4 (by decide) (hz _ tw_485) (fun _ h9 => h9) rfl d_Model_torch_6 ?_
  exact W.iret (v := nI (v 4)) hx hb hr (fun t9 ht hW => ⟨⟨nI (v 4), (), rfl, rfl, by rw [ht]; exact hP, va_K.moved hW.alike hK, hD⟩, hS.F ht⟩) hS.2.2 d_Model_torch_9
