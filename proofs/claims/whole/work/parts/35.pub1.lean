/-! THE PUBLIC METHODS of the class (rows written by wip/whole/mk_class.py) -/
/-- each part of the plan has a step at least, and ends at the strand's end at the latest -/
theorem zCP_E {v : Nat → Nat} {f : Nat → Nat → Nat} {L S : Nat → Nat} {F : Nat → Int32} (hI : zI v f) (h : zCP v f L S F) : ∀ k p, k = v 3 - p → v 4 ≤ p → p < v 3 → p < p + S p ∧ p + S p ≤ v 3 := by
  obtain ⟨i3, i4, i5, i6, i7, i8, i9, i10, i2, i0, i1, iw, ib, ic, isl⟩ := hI
  intro k
  induction k with
  | zero => intro p hk h1 h2; omega
  | succ k ih =>
    intro p hk h1 h2
    rcases h.2.2.1 p h1 h2 with ⟨-, q2, -, -⟩ | ⟨w0, l0, -, c, -, q3, -⟩
    · rw [q2]
      unfold zS0
      split
      · rename_i e
        have hn : p + 1 ≠ v 3 := fun q => by
          rw [q, h.2.1] at e
          exact absurd e (by decide)
        have := ih (p + 1) (by omega) (by omega) (by omega)
        omega
      · omega
    · have h3 := zrun_le (G := zG v f) (n := v 3) (p := p)
      have h4 := (iw w0 c.2.1).1
      have h5 := c.2.2.1
      have h6 := c.2.2.2.2.1
      rw [q3]
      omega
/-- the answer of part -/
def zpart (n t : Nat) (S : Nat → Nat) (F : Nat → Int32) (i : Nat) (z1 : Int) : Int32 := if zit (fun p => p + S p) n (min i 300) t < n then (if z1 = 0 then F (zit (fun p => p + S p) n (min i 300) t) else if z1 = 1 then nI (zit (fun p => p + S p) n (min i 300) t) else nI (S (zit (fun p => p + S p) n (min i 300) t))) else -2
set_option maxHeartbeats 4000000 in
set_option maxRecDepth 100000 in
theorem c_Cut_step (l : Launch) (hl9 : l.stackTraces = false) (dC : Nat → ClassId) (dI : Nat → Nat → Nat) (a : Nat → Nat) (cI cZ : ClassId) (v : Nat → Nat) (f : Nat → Nat → Nat) (w : Nat → Nat → Int32) (sz : Nat) (p0 : Int32) (z0 : Int) (h0 : p0.toInt = z0) (p1 : Int32) (z1 : Int) (h1 : p1.toInt = z1) (hI : zI v f) : vx_Met l y_Cut_step (zw_Cut_step :: zW) ({ frames := 6, cells := 1, slots := 6, locals := 90 }) (va_Pc [.ref (a 0), .int (p0), .int (p1)] (fun U => U.heap.size = sz ∧ va_P (dC, dI) vwCl (wC a cI cZ v f w) U.heap ∧ va_K (dC, dI) vwCl [(cI, .int), (cZ, .boolean)] U ∧ va_D (fun _ => True) (wC a cI cZ v f w) ∧ zX (va_A (wC a cI cZ v f w) sz) U U.heap)) (va_Qv (fun (u : Unit) => k_step (v 10) z0 z1 = 0) (fun (_ : Unit) t => va_P (dC, dI) vwCl (wC a cI cZ (zu (zu v 0 (z0.toNat)) 1 (z1.toNat)) f w) t.heap ∧ va_K (dC, dI) vwCl [(cI, .int), (cZ, .boolean)] t ∧ va_D (va_A (wC a cI cZ v f w) sz) (wC a cI cZ (zu (zu v 0 (z0.toNat)) 1 (z1.toNat)) f w)) (va_A (wC a cI cZ v f w) sz)) (vx_X (fun _ : Unit => True) (fun E _ t => ((E = "java/lang/IllegalStateException" ∧ k_step (v 10) z0 z1 = 1) ∨ (E = "java/lang/IllegalArgumentException" ∧ k_step (v 10) z0 z1 = 2)) ∧ va_P (dC, dI) vwCl (wC a cI cZ v f w) t.heap ∧ va_K (dC, dI) vwCl [(cI, .int), (cZ, .boolean)] t ∧ va_D (va_A (wC a cI cZ v f w) sz) (wC a cI cZ v f w)) (va_A (wC a cI cZ v f w) sz)) 1 6 (va_A (wC a cI cZ v f w) sz) := by
  refine vx_ofW (cc := prog_1_method_2_code) (maxL := 3) (ret := none) (by decide) rfl ?_
  intro p e s m args below meth c s₁ B hml hno hv
  obtain ⟨rfl, hsz, hP, hK, hD0, hX9⟩ := hv
  have hx := B.exec
  have hb := B.bytes
  have hr := B.returns
  have hz : ∀ w ∈ zW, w.before ([.ref (a 0), .int (p0), .int (p1)]).toArray s = true := fun w h => atoms_spec (ws := (zw_Cut_step :: zW)) B.pre w (List.mem_cons_of_mem _ h)
  have hown : s.vm.findClass "CutLengths" = some m.cls := findClass_of_methodNamed B.named
  have hlocks := B.notSynchronized
  subst hsz
  have hD := hD0.self (sz := s.heap.size)
  generalize hAe : va_A (wC a cI cZ v f w) s.heap.size = A at hD hX9 ⊢
  have hA : ∀ q : Nat, s.heap.size ≤ q → A q := fun q h => by rw [← hAe]; exact Or.inr h
  have hS : va_S A s.heap s.heap [] := va_S.rf
  have hP : va_P (dC, dI) vwCl (wC a cI cZ v f w) s.heap := hP
  obtain ⟨hU9, hN9, hT9⟩ := hX9
  obtain ⟨i3, i4, i5, i6, i7, i8, i9, i10, i2, i0, i1, iw, ib, ic, isl⟩ := id hI
  have hl := lv_entry ([.ref (a 0), .int (p0), .int (p1)]) (n := 3) (Nat.le_of_ble_eq_true rfl)
  rw [lg_entry_eq]
  generalize (lg_sl ([.ref (a 0), .int (p0), .int (p1)]) ++ List.replicate (3 - (lg_sl ([.ref (a 0), .int (p0), .int (p1)])).length) Slot.unset).toArray = ls at hl ⊢
  have hl : lv_has ls 3 [(0, .ref (a 0)), (1, .int (p0)), (2, .int (p1))] := hl
  refine lv_aload_n hx hb d_Cut_step_0 rfl (lv_at hl 0 rfl) ?_
  refine va_get (D := (dC, dI)) (ci := 0) (v := .ref (a 11)) (C := "CutLengths") (T := T_Cut) (N := 7) hx hb hz i_Cut hown hK hP 0 rfl rfl 3 (by decide) (hz _ tw_145) (fun _ h9 => h9) rfl d_Cut_step_1 ?_
  refine va_get (D := (dC, dI)) (ci := 4) (v := .int (nI (v 10))) (C := "CutLengths$Slabs") (T := T_Slabs) (N := 4) hx hb hz i_Slabs hown hK hP 11 rfl rfl 0 (by decide) (hz _ tw_126) (fun _ h9 => h9) rfl d_Cut_step_4 ?_
  refine lv_if_le (tgt := 20) hx hb d_Cut_step_7 (by decide) (fun c_7 => ?_) (fun c_7 => ?_)
  · have c_7 : ((v 10 : Nat) : Int) ≤ (0 : Int) := (zz_le (nI_toInt (by omega)) ((by decide))).mp c_7
    refine lv_iload_n hx hb d_Cut_step_20 rfl (lv_at hl 1 rfl) ?_
    refine lv_iconst (v := nI (1)) hx hb d_Cut_step_21 (by decide) ?_
    refine lv_ldc (v := nI (65536)) hx hb hown (hz _ tw_289) d_Cut_step_22 ?_
    refine zz_ro (va_runS (As := [.int (p0), .int (nI (1)), .int (nI (65536))]) (rest := []) ⟨hx, hb, hml, hown, hz⟩ (c_Cut_isOutside l (p0) (nI (1)) (nI (65536)) (z0) ((1 : Int)) ((65536 : Int)) (h0) ((by decide)) ((by decide))) (va_cwS 3 hz (zgS tw_290 tw_291 tw_15 tw_292) rfl rfl rfl (by decide +kernel) ⟨Nat.le_of_ble_eq_true rfl, Nat.le_of_ble_eq_true rfl⟩) ⟨fun _ _ _ _ q => q, fun U hU hW => ⟨rfl, trivial⟩⟩ rfl rfl hl.1 rfl (lv_room (Nat.le_of_ble_eq_true rfl)) d_Cut_step_24 ⟨Nat.zero_le _, Nat.zero_le _⟩) ?_
    by_cases q_24 : (z0) < ((1 : Int)) ∨ ((65536 : Int)) < (z0)
    · refine zz_top (congrArg nI (if_pos q_24)) ?_
      refine lv_if_ne (tgt := 40) hx hb d_Cut_step_27 (by decide) (fun _ => ?_) (fun c9 => absurd c9 (by decide))
      obtain ⟨sa, hsa⟩ := hT9.2.1 (66, "no such step or kilos") (by decide)
      exact vx_throwS (cls := "java/lang/IllegalArgumentException") (names := ["java/lang/RuntimeException", "java/lang/Exception"]) (ik := 64) (is := 66) (ic := 68) hx hb hl9 hown (by decide) (by decide) (hz _ tw_294) (hz _ tw_25) hsa (zhat_IAE hz hT9) zgd_IAE hU9 hN9 hS (hl.1.trans hml.symm) d_Cut_step_40 d_Cut_step_43 d_Cut_step_44 d_Cut_step_46 d_Cut_step_49 (fun x hx9 => (hno x hx9).elim) (Nat.le_of_ble_eq_true rfl) (Nat.le_of_ble_eq_true rfl) (Nat.le_of_ble_eq_true rfl) (Nat.le_of_ble_eq_true rfl) hlocks (fun t9 ha hz9 hk9 => ⟨(), trivial, ⟨Or.inr ⟨rfl, (by unfold k_step; rw [if_neg (by omega), if_pos (by omega)])⟩, hP.kept (fun k q hk => hk9 q.1 (vx_lt hP hk)), va_K.moved ha hK, hD⟩, ⟨hz9, fun q h1 _ => hk9 q h1⟩⟩) hS.2.2 (Nat.le_of_ble_eq_true rfl) (Nat.le_of_ble_eq_true rfl)
    · refine zz_top (congrArg nI (if_neg q_24)) ?_
      refine lv_if_ne (tgt := 40) hx hb d_Cut_step_27 (by decide) (fun c9 => absurd c9 (by decide)) (fun _ => ?_)
      refine lv_iload_n hx hb d_Cut_step_30 rfl (lv_at hl 2 rfl) ?_
      refine lv_iconst (v := nI (1)) hx hb d_Cut_step_31 (by decide) ?_
      refine lv_ldc (v := nI (100000)) hx hb hown (hz _ tw_293) d_Cut_step_32 ?_
      refine zz_ro (va_runS (As := [.int (p1), .int (nI (1)), .int (nI (100000))]) (rest := []) ⟨hx, hb, hml, hown, hz⟩ (c_Cut_isOutside l (p1) (nI (1)) (nI (100000)) (z1) ((1 : Int)) ((100000 : Int)) (h1) ((by decide)) ((by decide))) (va_cwS 3 hz (zgS tw_290 tw_291 tw_15 tw_292) rfl rfl rfl (by decide +kernel) ⟨Nat.le_of_ble_eq_true rfl, Nat.le_of_ble_eq_true rfl⟩) ⟨fun _ _ _ _ q => q, fun U hU hW => ⟨rfl, trivial⟩⟩ rfl rfl hl.1 rfl (lv_room (Nat.le_of_ble_eq_true rfl)) d_Cut_step_34 ⟨Nat.zero_le _, Nat.zero_le _⟩) ?_
      by_cases q_34 : (z1) < ((1 : Int)) ∨ ((100000 : Int)) < (z1)
      · refine zz_top (congrArg nI (if_pos q_34)) ?_
        refine lv_if_eq (tgt := 50) hx hb d_Cut_step_37 (by decide) (fun c9 => absurd c9 (by decide)) (fun _ => ?_)
        obtain ⟨sa, hsa⟩ := hT9.2.1 (66, "no such step or kilos") (by decide)
        exact vx_throwS (cls := "java/lang/IllegalArgumentException") (names := ["java/lang/RuntimeException", "java/lang/Exception"]) (ik := 64) (is := 66) (ic := 68) hx hb hl9 hown (by decide) (by decide) (hz _ tw_294) (hz _ tw_25) hsa (zhat_IAE hz hT9) zgd_IAE hU9 hN9 hS (hl.1.trans hml.symm) d_Cut_step_40 d_Cut_step_43 d_Cut_step_44 d_Cut_step_46 d_Cut_step_49 (fun x hx9 => (hno x hx9).elim) (Nat.le_of_ble_eq_true rfl) (Nat.le_of_ble_eq_true rfl) (Nat.le_of_ble_eq_true rfl) (Nat.le_of_ble_eq_true rfl) hlocks (fun t9 ha hz9 hk9 => ⟨(), trivial, ⟨Or.inr ⟨rfl, (by unfold k_step; rw [if_neg (by omega), if_pos (by omega)])⟩, hP.kept (fun k q hk => hk9 q.1 (vx_lt hP hk)), va_K.moved ha hK, hD⟩, ⟨hz9, fun q h1 _ => hk9 q h1⟩⟩) hS.2.2 (Nat.le_of_ble_eq_true rfl) (Nat.le_of_ble_eq_true rfl)
      · refine zz_top (congrArg nI (if_neg q_34)) ?_
        refine lv_if_eq (tgt := 50) hx hb d_Cut_step_37 (by decide) (fun _ => ?_) (fun c9 => absurd c9 (by decide))
        refine lv_aload_n hx hb d_Cut_step_50 rfl (lv_at hl 0 rfl) ?_
        refine lv_iload_n hx hb d_Cut_step_51 rfl (lv_at hl 1 rfl) ?_
        refine zz_top (zz_nat h0 (by omega)) ?_
        refine va_put (D := (dC, dI)) (ci := 0) (v := .int (nI (z0.toNat))) (ty := .int) (C := "CutLengths") (T := T_Cut) (N := 7) hx hb hz i_Cut t_Cut t_Cut_ok n_Cut hown hK hP hD hS 0 rfl rfl 4 (by decide) (hz _ tw_146) (fun _ h9 => h9) rfl (by decide +kernel) rfl rfl (Nat.le_of_ble_eq_true rfl) d_Cut_step_52 (fun H locs hP hD hS => ?_)
        have hP : va_P (dC, dI) vwCl (wC a cI cZ (zu v 0 (z0.toNat)) f w) H := hP
        have hD : va_D A (wC a cI cZ (zu v 0 (z0.toNat)) f w) := hD
        refine lv_aload_n hx hb d_Cut_step_55 rfl (lv_at hl 0 rfl) ?_
        refine lv_iload_n hx hb d_Cut_step_56 rfl (lv_at hl 2 rfl) ?_
        refine zz_top (zz_nat h1 (by omega)) ?_
        refine va_put (D := (dC, dI)) (ci := 0) (v := .int (nI (z1.toNat))) (ty := .int) (C := "CutLengths") (T := T_Cut) (N := 7) hx hb hz i_Cut t_Cut t_Cut_ok n_Cut hown hK hP hD hS 0 rfl rfl 5 (by decide) (hz _ tw_147) (fun _ h9 => h9) rfl (by decide +kernel) rfl rfl (Nat.le_of_ble_eq_true rfl) d_Cut_step_57 (fun H locs hP hD hS => ?_)
        have hP : va_P (dC, dI) vwCl (wC a cI cZ (zu (zu v 0 (z0.toNat)) 1 (z1.toNat)) f w) H := hP
        have hD : va_D A (wC a cI cZ (zu (zu v 0 (z0.toNat)) 1 (z1.toNat)) f w) := hD
        refine W.widen (k := 1) (n := 6) (Nat.le_of_ble_eq_true rfl) (Nat.le_of_ble_eq_true rfl) ?_
        refine vx_ret ?_
        exact W.vret hx hb hr (fun t9 ht hW => ⟨⟨(), rfl, (by unfold k_step; rw [if_neg (by omega), if_neg (by omega)]), by rw [ht]; exact hP, va_K.moved hW.alike hK, hD⟩, hS.F ht⟩) hS.2.2 d_Cut_step_60
  · have c_7 : ¬ (((v 10 : Nat) : Int) ≤ (0 : Int)) := fun q => c_7 ((zz_le (nI_toInt (by omega)) ((by decide))).mpr q)
    obtain ⟨sa, hsa⟩ := hT9.2.1 (53, "something was cut") (by decide)
    exact vx_throwS (cls := "java/lang/IllegalStateException") (names := ["java/lang/RuntimeException", "java/lang/Exception"]) (ik := 51) (is := 53) (ic := 55) hx hb hl9 hown (by decide) (by decide) (hz _ tw_220) (hz _ tw_24) hsa (zhat_ISE hz hT9) zgd_ISE hU9 hN9 hS (hl.1.trans hml.symm) d_Cut_step_10 d_Cut_step_13 d_Cut_step_14 d_Cut_step_16 d_Cut_step_19 (fun x hx9 => (hno x hx9).elim) (Nat.le_of_ble_eq_true rfl) (Nat.le_of_ble_eq_true rfl) (Nat.le_of_ble_eq_true rfl) (Nat.le_of_ble_eq_true rfl) hlocks (fun t9 ha hz9 hk9 => ⟨(), trivial, ⟨Or.inl ⟨rfl, (by unfold k_step; rw [if_pos (by omega)])⟩, hP.kept (fun k q hk => hk9 q.1 (vx_lt hP hk)), va_K.moved ha hK, hD⟩, ⟨hz9, fun q h1 _ => hk9 q h1⟩⟩) hS.2.2 (Nat.le_of_ble_eq_true rfl) (Nat.le_of_ble_eq_true rfl)
set_option maxHeartbeats 4000000 in
set_option maxRecDepth 100000 in
theorem c_Cut_cast (l : Launch) (hl9 : l.stackTraces = false) (dC : Nat → ClassId) (dI : Nat → Nat → Nat) (a : Nat → Nat) (cI cZ : ClassId) (v : Nat → Nat) (f : Nat → Nat → Nat) (w : Nat → Nat → Int32) (sz : Nat) (p0 : Int32) (z0 : Int) (h0 : p0.toInt = z0) (hI : zI v f) : vx_Met l y_Cut_cast (zw_Cut_cast :: zW) ({ frames := 6, cells := 1, slots := 6, locals := 90 }) (va_Pc [.ref (a 0), .int (p0)] (fun U => U.heap.size = sz ∧ va_P (dC, dI) vwCl (wC a cI cZ v f w) U.heap ∧ va_K (dC, dI) vwCl [(cI, .int), (cZ, .boolean)] U ∧ va_D (fun _ => True) (wC a cI cZ v f w) ∧ zX (va_A (wC a cI cZ v f w) sz) U U.heap)) (va_Qi (fun (r : Int32) (u : Unit) => k_cast (v 3) z0 = 0 ∧ r = nI (v 3 + z0.toNat)) (fun (_ : Unit) t => va_P (dC, dI) vwCl (wC a cI cZ (zu (zu v 3 (v 3 + z0.toNat)) 2 (1)) f w) t.heap ∧ va_K (dC, dI) vwCl [(cI, .int), (cZ, .boolean)] t ∧ va_D (va_A (wC a cI cZ v f w) sz) (wC a cI cZ (zu (zu v 3 (v 3 + z0.toNat)) 2 (1)) f w)) (va_A (wC a cI cZ v f w) sz)) (vx_X (fun _ : Unit => True) (fun E _ t => ((E = "java/lang/IllegalArgumentException" ∧ k_cast (v 3) z0 = 1) ∨ (E = "java/lang/UnsupportedOperationException" ∧ k_cast (v 3) z0 = 2)) ∧ va_P (dC, dI) vwCl (wC a cI cZ v f w) t.heap ∧ va_K (dC, dI) vwCl [(cI, .int), (cZ, .boolean)] t ∧ va_D (va_A (wC a cI cZ v f w) sz) (wC a cI cZ v f w)) (va_A (wC a cI cZ v f w) sz)) 1 6 (va_A (wC a cI cZ v f w) sz) := by
  refine vx_ofW (cc := prog_1_method_3_code) (maxL := 2) (ret := (some .int)) (by decide) rfl ?_
  intro p e s m args below meth c s₁ B hml hno hv
  obtain ⟨rfl, hsz, hP, hK, hD0, hX9⟩ := hv
  have hx := B.exec
  have hb := B.bytes
  have hr := B.returns
  have hz : ∀ w ∈ zW, w.before ([.ref (a 0), .int (p0)]).toArray s = true := fun w h => atoms_spec (ws := (zw_Cut_cast :: zW)) B.pre w (List.mem_cons_of_mem _ h)
  have hown : s.vm.findClass "CutLengths" = some m.cls := findClass_of_methodNamed B.named
  have hlocks := B.notSynchronized
  subst hsz
  have hD := hD0.self (sz := s.heap.size)
  generalize hAe : va_A (wC a cI cZ v f w) s.heap.size = A at hD hX9 ⊢
  have hA : ∀ q : Nat, s.heap.size ≤ q → A q := fun q h => by rw [← hAe]; exact Or.inr h
  have hS : va_S A s.heap s.heap [] := va_S.rf
  have hP : va_P (dC, dI) vwCl (wC a cI cZ v f w) s.heap := hP
  obtain ⟨hU9, hN9, hT9⟩ := hX9
  obtain ⟨i3, i4, i5, i6, i7, i8, i9, i10, i2, i0, i1, iw, ib, ic, isl⟩ := id hI
  have hl := lv_entry ([.ref (a 0), .int (p0)]) (n := 2) (Nat.le_of_ble_eq_true rfl)
  rw [lg_entry_eq]
  generalize (lg_sl ([.ref (a 0), .int (p0)]) ++ List.replicate (2 - (lg_sl ([.ref (a 0), .int (p0)])).length) Slot.unset).toArray = ls at hl ⊢
  have hl : lv_has ls 2 [(0, .ref (a 0)), (1, .int (p0))] := hl
  refine lv_iload_n hx hb d_Cut_cast_0 rfl (lv_at hl 1 rfl) ?_
  refine lv_if_ge (tgt := 14) hx hb d_Cut_cast_1 (by decide) (fun c_1 => ?_) (fun c_1 => ?_)
  · have c_1 : (0 : Int) ≤ z0 := (zz_le ((by decide)) (h0)).mp c_1
    refine lv_iload_n hx hb d_Cut_cast_14 rfl (lv_at hl 1 rfl) ?_
    refine lv_sipush (v := nI (300)) hx hb d_Cut_cast_15 (by decide) ?_
    refine lv_aload_n hx hb d_Cut_cast_18 rfl (lv_at hl 0 rfl) ?_
    refine va_get (D := (dC, dI)) (ci := 0) (v := .ref (a 1)) (C := "CutLengths") (T := T_Cut) (N := 7) hx hb hz i_Cut hown hK hP 0 rfl rfl 0 (by decide) (hz _ tw_142) (fun _ h9 => h9) rfl d_Cut_cast_19 ?_
    refine va_get (D := (dC, dI)) (ci := 1) (v := .int (nI (v 3))) (C := "CutLengths$Strand") (T := T_Strand) (N := 8) hx hb hz i_Strand hown hK hP 1 rfl rfl 0 (by decide) (hz _ tw_45) (fun _ h9 => h9) rfl d_Cut_cast_22 ?_
    refine lv_isub hx hb d_Cut_cast_25 ?_
    refine lv_icmp_le (tgt := 39) hx hb d_Cut_cast_26 (by decide) (fun c_26 => ?_) (fun c_26 => ?_)
    · have c_26 : z0 ≤ ((300 : Nat) : Int) - ((v 3 : Nat) : Int) := (zz_le (h0) (pk_sub_toInt (by omega) (by omega))).mp c_26
      refine lv_aload_n hx hb d_Cut_cast_39 rfl (lv_at hl 0 rfl) ?_
      refine va_get (D := (dC, dI)) (ci := 0) (v := .ref (a 1)) (C := "CutLengths") (T := T_Cut) (N := 7) hx hb hz i_Cut hown hK hP 0 rfl rfl 0 (by decide) (hz _ tw_142) (fun _ h9 => h9) rfl d_Cut_cast_40 ?_
      refine lv_dup hx hb d_Cut_cast_43 rfl ?_
      refine va_get (D := (dC, dI)) (ci := 1) (v := .int (nI (v 3))) (C := "CutLengths$Strand") (T := T_Strand) (N := 8) hx hb hz i_Strand hown hK hP 1 rfl rfl 0 (by decide) (hz _ tw_45) (fun _ h9 => h9) rfl d_Cut_cast_44 ?_
      refine lv_iload_n hx hb d_Cut_cast_47 rfl (lv_at hl 1 rfl) ?_
      refine zz_top (zz_nat h0 (by omega)) ?_
      refine lv_iadd hx hb d_Cut_cast_48 ?_
      refine zz_top (nI_add (v 3) (z0.toNat)) ?_
      refine va_put (D := (dC, dI)) (ci := 1) (v := .int (nI ((v 3) + z0.toNat))) (ty := .int) (C := "CutLengths$Strand") (T := T_Strand) (N := 8) hx hb hz i_Strand t_Strand t_Strand_ok n_Strand hown hK hP hD hS 1 rfl rfl 0 (by decide) (hz _ tw_45) (fun _ h9 => h9) rfl (by decide +kernel) rfl rfl (Nat.le_of_ble_eq_true rfl) d_Cut_cast_49 (fun H locs hP hD hS => ?_)
      have hP : va_P (dC, dI) vwCl (wC a cI cZ (zu v 3 ((v 3) + z0.toNat)) f w) H := hP
      have hD : va_D A (wC a cI cZ (zu v 3 ((v 3) + z0.toNat)) f w) := hD
      refine lv_aload_n hx hb d_Cut_cast_52 rfl (lv_at hl 0 rfl) ?_
      refine lv_iconst (v := nI (1)) hx hb d_Cut_cast_53 (by decide) ?_
      refine va_put (D := (dC, dI)) (ci := 0) (v := .int (nI (1))) (ty := .boolean) (C := "CutLengths") (T := T_Cut) (N := 7) hx hb hz i_Cut t_Cut t_Cut_ok n_Cut hown hK hP hD hS 0 rfl rfl 6 (by decide) (hz _ tw_148) (fun _ h9 => h9) rfl (by decide +kernel) rfl rfl (Nat.le_of_ble_eq_true rfl) d_Cut_cast_54 (fun H locs hP hD hS => ?_)
      have hP : va_P (dC, dI) vwCl (wC a cI cZ (zu (zu v 3 ((v 3) + z0.toNat)) 2 (1)) f w) H := hP
      have hD : va_D A (wC a cI cZ (zu (zu v 3 ((v 3) + z0.toNat)) 2 (1)) f w) := hD
      refine lv_aload_n hx hb d_Cut_cast_57 rfl (lv_at hl 0 rfl) ?_
      refine va_get (D := (dC, dI)) (ci := 0) (v := .ref (a 1)) (C := "CutLengths") (T := T_Cut) (N := 7) hx hb hz i_Cut hown hK hP 0 rfl rfl 0 (by decide) (hz _ tw_142) (fun _ h9 => h9) rfl d_Cut_cast_58 ?_
      refine va_get (D := (dC, dI)) (ci := 1) (v := .int (nI ((v 3) + z0.toNat))) (C := "CutLengths$Strand") (T := T_Strand) (N := 8) hx hb hz i_Strand hown hK hP 1 rfl rfl 0 (by decide) (hz _ tw_45) (fun _ h9 => h9) rfl d_Cut_cast_61 ?_
      refine W.widen (k := 1) (n := 6) (Nat.le_of_ble_eq_true rfl) (Nat.le_of_ble_eq_true rfl) ?_
      refine vx_ret ?_
      exact W.iret (v := nI ((v 3) + z0.toNat)) hx hb hr (fun t9 ht hW => ⟨⟨nI ((v 3) + z0.toNat), (), rfl, ⟨(by unfold k_cast; rw [if_neg (by omega), if_neg (by omega)]), rfl⟩, by rw [ht]; exact hP, va_K.moved hW.alike hK, hD⟩, hS.F ht⟩) hS.2.2 d_Cut_cast_64
    · have c_26 : ¬ (z0 ≤ ((300 : Nat) : Int) - ((v 3 : Nat) : Int)) := fun q => c_26 ((zz_le (h0) (pk_sub_toInt (by omega) (by omega))).mpr q)
      obtain ⟨sa, hsa⟩ := hT9.2.1 (76, "the strand would be too long") (by decide)
      exact vx_throwS (cls := "java/lang/UnsupportedOperationException") (names := ["java/lang/RuntimeException", "java/lang/Exception"]) (ik := 74) (is := 76) (ic := 78) hx hb hl9 hown (by decide) (by decide) (hz _ tw_319) (hz _ tw_26) hsa (zhat_UOE hz hT9) zgd_UOE hU9 hN9 hS (hl.1.trans hml.symm) d_Cut_cast_29 d_Cut_cast_32 d_Cut_cast_33 d_Cut_cast_35 d_Cut_cast_38 (fun x hx9 => (hno x hx9).elim) (Nat.le_of_ble_eq_true rfl) (Nat.le_of_ble_eq_true rfl) (Nat.le_of_ble_eq_true rfl) (Nat.le_of_ble_eq_true rfl) hlocks (fun t9 ha hz9 hk9 => ⟨(), trivial, ⟨Or.inr ⟨rfl, (by unfold k_cast; rw [if_neg (by omega), if_pos (by omega)])⟩, hP.kept (fun k q hk => hk9 q.1 (vx_lt hP hk)), va_K.moved ha hK, hD⟩, ⟨hz9, fun q h1 _ => hk9 q h1⟩⟩) hS.2.2 (Nat.le_of_ble_eq_true rfl) (Nat.le_of_ble_eq_true rfl)
  · have c_1 : ¬ ((0 : Int) ≤ z0) := fun q => c_1 ((zz_le ((by decide)) (h0)).mpr q)
    obtain ⟨sa, hsa⟩ := hT9.2.1 (69, "steps below 0") (by decide)
    exact vx_throwS (cls := "java/lang/IllegalArgumentException") (names := ["java/lang/RuntimeException", "java/lang/Exception"]) (ik := 64) (is := 69) (ic := 68) hx hb hl9 hown (by decide) (by decide) (hz _ tw_294) (hz _ tw_25) hsa (zhat_IAE hz hT9) zgd_IAE hU9 hN9 hS (hl.1.trans hml.symm) d_Cut_cast_4 d_Cut_cast_7 d_Cut_cast_8 d_Cut_cast_10 d_Cut_cast_13 (fun x hx9 => (hno x hx9).elim) (Nat.le_of_ble_eq_true rfl) (Nat.le_of_ble_eq_true rfl) (Nat.le_of_ble_eq_true rfl) (Nat.le_of_ble_eq_true rfl) hlocks (fun t9 ha hz9 hk9 => ⟨(), trivial, ⟨Or.inl ⟨rfl, (by unfold k_cast; rw [if_pos (by omega)])⟩, hP.kept (fun k q hk => hk9 q.1 (vx_lt hP hk)), va_K.moved ha hK, hD⟩, ⟨hz9, fun q h1 _ => hk9 q h1⟩⟩) hS.2.2 (Nat.le_of_ble_eq_true rfl) (Nat.le_of_ble_eq_true rfl)
set_option maxHeartbeats 4000000 in
set_option maxRecDepth 100000 in
theorem c_Cut_want (l : Launch) (hl9 : l.stackTraces = false) (dC : Nat → ClassId) (dI : Nat → Nat → Nat) (a : Nat → Nat) (cI cZ : ClassId) (v : Nat → Nat) (f : Nat → Nat → Nat) (w : Nat → Nat → Int32) (sz : Nat) (p0 : Int32) (z0 : Int) (h0 : p0.toInt = z0) (p1 : Int32) (z1 : Int) (h1 : p1.toInt = z1) (hI : zI v f) : vx_Met l y_Cut_want (zw_Cut_want :: zW) ({ frames := 6, cells := 1, slots := 6, locals := 90 }) (va_Pc [.ref (a 0), .int (p0), .int (p1)] (fun U => U.heap.size = sz ∧ va_P (dC, dI) vwCl (wC a cI cZ v f w) U.heap ∧ va_K (dC, dI) vwCl [(cI, .int), (cZ, .boolean)] U ∧ va_D (fun _ => True) (wC a cI cZ v f w) ∧ zX (va_A (wC a cI cZ v f w) sz) U U.heap)) (va_Qi (fun (r : Int32) (u : Unit) => k_want (v 9) z0 z1 = 0 ∧ r = nI (v 9)) (fun (_ : Unit) t => va_P (dC, dI) vwCl (wC a cI cZ (zu (zu v 9 (v 9 + 1)) 2 (1)) (zu (zu f 2 (va_up (f 2) (v 9) z0.toNat)) 3 (va_up (f 3) (v 9) z1.toNat)) w) t.heap ∧ va_K (dC, dI) vwCl [(cI, .int), (cZ, .boolean)] t ∧ va_D (va_A (wC a cI cZ v f w) sz) (wC a cI cZ (zu (zu v 9 (v 9 + 1)) 2 (1)) (zu (zu f 2 (va_up (f 2) (v 9) z0.toNat)) 3 (va_up (f 3) (v 9) z1.toNat)) w)) (va_A (wC a cI cZ v f w) sz)) (vx_X (fun _ : Unit => True) (fun E _ t => ((E = "java/lang/IllegalStateException" ∧ k_want (v 9) z0 z1 = 1) ∨ (E = "java/lang/IllegalArgumentException" ∧ k_want (v 9) z0 z1 = 2)) ∧ va_P (dC, dI) vwCl (wC a cI cZ v f w) t.heap ∧ va_K (dC, dI) vwCl [(cI, .int), (cZ, .boolean)] t ∧ va_D (va_A (wC a cI cZ v f w) sz) (wC a cI cZ v f w)) (va_A (wC a cI cZ v f w) sz)) 1 6 (va_A (wC a cI cZ v f w) sz) := by
  refine vx_ofW (cc := prog_1_method_4_code) (maxL := 4) (ret := (some .int)) (by decide) rfl ?_
  intro p e s m args below meth c s₁ B hml hno hv
  obtain ⟨rfl, hsz, hP, hK, hD0, hX9⟩ := hv
  have hx := B.exec
  have hb := B.bytes
  have hr := B.returns
  have hz : ∀ w ∈ zW, w.before ([.ref (a 0), .int (p0), .int (p1)]).toArray s = true := fun w h => atoms_spec (ws := (zw_Cut_want :: zW)) B.pre w (List.mem_cons_of_mem _ h)
  have hown : s.vm.findClass "CutLengths" = some m.cls := findClass_of_methodNamed B.named
  have hlocks := B.notSynchronized
  subst hsz
  have hD := hD0.self (sz := s.heap.size)
  generalize hAe : va_A (wC a cI cZ v f w) s.heap.size = A at hD hX9 ⊢
  have hA : ∀ q : Nat, s.heap.size ≤ q → A q := fun q h => by rw [← hAe]; exact Or.inr h
  have hS : va_S A s.heap s.heap [] := va_S.rf
  have hP : va_P (dC, dI) vwCl (wC a cI cZ v f w) s.heap := hP
  obtain ⟨hU9, hN9, hT9⟩ := hX9
  obtain ⟨i3, i4, i5, i6, i7, i8, i9, i10, i2, i0, i1, iw, ib, ic, isl⟩ := id hI
  have hl := lv_entry ([.ref (a 0), .int (p0), .int (p1)]) (n := 4) (Nat.le_of_ble_eq_true rfl)
  rw [lg_entry_eq]
  generalize (lg_sl ([.ref (a 0), .int (p0), .int (p1)]) ++ List.replicate (4 - (lg_sl ([.ref (a 0), .int (p0), .int (p1)])).length) Slot.unset).toArray = ls at hl ⊢
  have hl : lv_has ls 4 [(0, .ref (a 0)), (1, .int (p0)), (2, .int (p1))] := hl
  refine lv_aload_n hx hb d_Cut_want_0 rfl (lv_at hl 0 rfl) ?_
  refine va_get (D := (dC, dI)) (ci := 0) (v := .ref (a 4)) (C := "CutLengths") (T := T_Cut) (N := 7) hx hb hz i_Cut hown hK hP 0 rfl rfl 1 (by decide) (hz _ tw_143) (fun _ h9 => h9) rfl d_Cut_want_1 ?_
  refine va_get (D := (dC, dI)) (ci := 2) (v := .int (nI (v 9))) (C := "CutLengths$WantedLengths") (T := T_Wanted) (N := 3) hx hb hz i_Wanted hown hK hP 4 rfl rfl 0 (by decide) (hz _ tw_84) (fun _ h9 => h9) rfl d_Cut_want_4 ?_
  refine lv_bipush (v := nI (6)) hx hb d_Cut_want_7 (by decide) ?_
  refine lv_icmp_lt (tgt := 22) hx hb d_Cut_want_9 (by decide) (fun c_9 => ?_) (fun c_9 => ?_)
  · have c_9 : ((v 9 : Nat) : Int) < (6 : Int) := (zz_lt (nI_toInt (by omega)) ((by decide))).mp c_9
    refine lv_iload_n hx hb d_Cut_want_22 rfl (lv_at hl 1 rfl) ?_
    refine lv_iload_n hx hb d_Cut_want_23 rfl (lv_at hl 2 rfl) ?_
    refine zz_ro (va_runS (As := [.int (p0), .int (p1)]) (rest := []) ⟨hx, hb, hml, hown, hz⟩ (c_Cut_isSpan l (p0) (p1) (z0) (z1) (h0) (h1)) (va_cwS 2 hz (zgS tw_343 tw_344 tw_15 tw_345) rfl rfl rfl (by decide +kernel) ⟨Nat.le_of_ble_eq_true rfl, Nat.le_of_ble_eq_true rfl⟩) ⟨fun _ _ _ _ q => q, fun U hU hW => ⟨rfl, trivial⟩⟩ rfl rfl hl.1 rfl (lv_room (Nat.le_of_ble_eq_true rfl)) d_Cut_want_24 ⟨Nat.zero_le _, Nat.zero_le _⟩) ?_
    by_cases q_24 : 1 ≤ (z0) ∧ (z0) ≤ (z1) ∧ (z1) ≤ 60
    · refine zz_top (congrArg nI (if_pos q_24)) ?_
      refine lv_if_ne (tgt := 40) hx hb d_Cut_want_27 (by decide) (fun _ => ?_) (fun c9 => absurd c9 (by decide))
      refine lv_aload_n hx hb d_Cut_want_40 rfl (lv_at hl 0 rfl) ?_
      refine va_get (D := (dC, dI)) (ci := 0) (v := .ref (a 4)) (C := "CutLengths") (T := T_Cut) (N := 7) hx hb hz i_Cut hown hK hP 0 rfl rfl 1 (by decide) (hz _ tw_143) (fun _ h9 => h9) rfl d_Cut_want_41 ?_
      refine va_get (D := (dC, dI)) (ci := 2) (v := .int (nI (v 9))) (C := "CutLengths$WantedLengths") (T := T_Wanted) (N := 3) hx hb hz i_Wanted hown hK hP 4 rfl rfl 0 (by decide) (hz _ tw_84) (fun _ h9 => h9) rfl d_Cut_want_44 ?_
      refine lv_istore_n (lv' := [(3, .int (nI (v 9))), (0, .ref (a 0)), (1, .int (p0)), (2, .int (p1))]) hx hb d_Cut_want_47 rfl hl (by decide) rfl (fun ls hl => ?_)
      refine lv_aload_n hx hb d_Cut_want_48 rfl (lv_at hl 1 rfl) ?_
      refine va_get (D := (dC, dI)) (ci := 0) (v := .ref (a 4)) (C := "CutLengths") (T := T_Cut) (N := 7) hx hb hz i_Cut hown hK hP 0 rfl rfl 1 (by decide) (hz _ tw_143) (fun _ h9 => h9) rfl d_Cut_want_49 ?_
      refine lv_dup hx hb d_Cut_want_52 rfl ?_
      refine va_get (D := (dC, dI)) (ci := 2) (v := .int (nI (v 9))) (C := "CutLengths$WantedLengths") (T := T_Wanted) (N := 3) hx hb hz i_Wanted hown hK hP 4 rfl rfl 0 (by decide) (hz _ tw_84) (fun _ h9 => h9) rfl d_Cut_want_53 ?_
      refine lv_iconst (v := nI (1)) hx hb d_Cut_want_56 (by decide) ?_
      refine lv_iadd hx hb d_Cut_want_57 ?_
      refine zz_top (nI_add (v 9) (1)) ?_
      refine va_put (D := (dC, dI)) (ci := 2) (v := .int (nI ((v 9) + 1))) (ty := .int) (C := "CutLengths$WantedLengths") (T := T_Wanted) (N := 3) hx hb hz i_Wanted t_Wanted t_Wanted_ok n_Wanted hown hK hP hD hS 4 rfl rfl 0 (by decide) (hz _ tw_84) (fun _ h9 => h9) rfl (by decide +kernel) rfl rfl (Nat.le_of_ble_eq_true rfl) d_Cut_want_58 (fun H locs hP hD hS => ?_)
      have hP : va_P (dC, dI) vwCl (wC a cI cZ (zu v 9 ((v 9) + 1)) f w) H := hP
      have hD : va_D A (wC a cI cZ (zu v 9 ((v 9) + 1)) f w) := hD
      refine lv_aload_n hx hb d_Cut_want_61 rfl (lv_at hl 1 rfl) ?_
      refine lv_iload_n hx hb d_Cut_want_62 rfl (lv_at hl 0 rfl) ?_
      refine lv_iload_n hx hb d_Cut_want_63 rfl (lv_at hl 2 rfl) ?_
      refine zz_top (zz_nat h0 (by omega)) ?_
      refine lv_iload_n hx hb d_Cut_want_64 rfl (lv_at hl 3 rfl) ?_
      refine zz_top (zz_nat h1 (by omega)) ?_
      have hFc := va_free (wc := (wC a cI cZ (zu v 9 ((v 9) + 1)) f w)) hD hS hA [0, 1, 2, 3, 4, 5, 6, 7, 8, 9, 10, 11, 12, 13, 14] rfl
      refine va_callv (va_runV (As := [.int (nI (v 9)), .int (nI (z0.toNat)), .int (nI (z1.toNat))]) (rest := []) ⟨hx, hb, hml, hown, hz⟩ (c_Cut_tellSpan l dC dI a cI cZ (zu v 9 ((v 9) + 1)) f w (H).size (v 9) (z0.toNat) (z1.toNat) (by omega)) (cwV (C := "CutLengths") 3 hz (zgV tw_347 tw_349 tw_6 tw_15 tw_350) rfl rfl rfl (by decide +kernel) ⟨Nat.le_of_ble_eq_true rfl, Nat.le_of_ble_eq_true rfl⟩) ⟨(fun a U g mk q => by obtain ⟨q0, q1, qP, qK, qD⟩ := q; exact ⟨q0, q1, qP, va_K.moved (u := U) (U := U.calling g mk a) (Vm.Alike.refl U.vm) qK, qD⟩), va_recv hK hP (ci := 0) (q0 := 0) rfl rfl, fun U hU hW => ⟨rfl, by rw [hU], by rw [hU]; exact hP, va_K.moved hW.alike hK, hD.weaken (fun _ _ _ _ => trivial)⟩⟩ rfl rfl hl.1 rfl (lv_room (Nat.le_of_ble_eq_true rfl)) d_Cut_want_65 ⟨Nat.zero_le _, Nat.zero_le _⟩) hS (fun q _ h => hFc q h) hFc (fun u9 t9 H1 locs ht hvm hw hB hz1 hk1 hS => ?_)
      obtain ⟨hP1, hK1, hD1⟩ := hB
      rw [ht] at hP1
      obtain ⟨hP, hD⟩ := va_join (wr := []) (w1 := (wC a cI cZ (zu (zu v 9 ((v 9) + 1)) 2 (1)) (zu (zu f 2 (va_up (f 2) (v 9) z0.toNat)) 3 (va_up (f 3) (v 9) z1.toNat)) w)) hP hD [0, 1, 2, 3, 4, 5, 6, 7, 8, 9, 10, 11, 12, 13, 14] [] rfl rfl (by decide) (by decide) hk1 hFc hP1 hD1
      generalize H1 = H at hP hS ⊢
      have hP : va_P (dC, dI) vwCl (wC a cI cZ (zu (zu v 9 ((v 9) + 1)) 2 (1)) (zu (zu f 2 (va_up (f 2) (v 9) z0.toNat)) 3 (va_up (f 3) (v 9) z1.toNat)) w) H := hP
      have hD : va_D A (wC a cI cZ (zu (zu v 9 ((v 9) + 1)) 2 (1)) (zu (zu f 2 (va_up (f 2) (v 9) z0.toNat)) 3 (va_up (f 3) (v 9) z1.toNat)) w) := hD
      refine lv_iload_n hx hb d_Cut_want_68 rfl (lv_at hl 0 rfl) ?_
      refine W.widen (k := 1) (n := 6) (Nat.le_of_ble_eq_true rfl) (Nat.le_of_ble_eq_true rfl) ?_
      refine vx_ret ?_
      exact W.iret (v := nI (v 9)) hx hb hr (fun t9 ht hW => ⟨⟨nI (v 9), (), rfl, ⟨(by unfold k_want; rw [if_neg (by omega), if_neg (by omega)]), rfl⟩, by rw [ht]; exact hP, va_K.moved hW.alike hK, hD⟩, hS.F ht⟩) hS.2.2 d_Cut_want_69
    · refine zz_top (congrArg nI (if_neg q_24)) ?_
      refine lv_if_ne (tgt := 40) hx hb d_Cut_want_27 (by decide) (fun c9 => absurd c9 (by decide)) (fun _ => ?_)
      obtain ⟨sa, hsa⟩ := hT9.2.1 (86, "no such span") (by decide)
      exact vx_throwS (cls := "java/lang/IllegalArgumentException") (names := ["java/lang/RuntimeException", "java/lang/Exception"]) (ik := 64) (is := 86) (ic := 68) hx hb hl9 hown (by decide) (by decide) (hz _ tw_294) (hz _ tw_25) hsa (zhat_IAE hz hT9) zgd_IAE hU9 hN9 hS (hl.1.trans hml.symm) d_Cut_want_30 d_Cut_want_33 d_Cut_want_34 d_Cut_want_36 d_Cut_want_39 (fun x hx9 => (hno x hx9).elim) (Nat.le_of_ble_eq_true rfl) (Nat.le_of_ble_eq_true rfl) (Nat.le_of_ble_eq_true rfl) (Nat.le_of_ble_eq_true rfl) hlocks (fun t9 ha hz9 hk9 => ⟨(), trivial, ⟨Or.inr ⟨rfl, (by unfold k_want; rw [if_neg (by omega), if_pos (by omega)])⟩, hP.kept (fun k q hk => hk9 q.1 (vx_lt hP hk)), va_K.moved ha hK, hD⟩, ⟨hz9, fun q h1 _ => hk9 q h1⟩⟩) hS.2.2 (Nat.le_of_ble_eq_true rfl) (Nat.le_of_ble_eq_true rfl)
  · have c_9 : ¬ (((v 9 : Nat) : Int) < (6 : Int)) := fun q => c_9 ((zz_lt (nI_toInt (by omega)) ((by decide))).mpr q)
    obtain ⟨sa, hsa⟩ := hT9.2.1 (80, "no more wanted lengths") (by decide)
    exact vx_throwS (cls := "java/lang/IllegalStateException") (names := ["java/lang/RuntimeException", "java/lang/Exception"]) (ik := 51) (is := 80) (ic := 55) hx hb hl9 hown (by decide) (by decide) (hz _ tw_220) (hz _ tw_24) hsa (zhat_ISE hz hT9) zgd_ISE hU9 hN9 hS (hl.1.trans hml.symm) d_Cut_want_12 d_Cut_want_15 d_Cut_want_16 d_Cut_want_18 d_Cut_want_21 (fun x hx9 => (hno x hx9).elim) (Nat.le_of_ble_eq_true rfl) (Nat.le_of_ble_eq_true rfl) (Nat.le_of_ble_eq_true rfl) (Nat.le_of_ble_eq_true rfl) hlocks (fun t9 ha hz9 hk9 => ⟨(), trivial, ⟨Or.inl ⟨rfl, (by unfold k_want; rw [if_pos (by omega)])⟩, hP.kept (fun k q hk => hk9 q.1 (vx_lt hP hk)), va_K.moved ha hK, hD⟩, ⟨hz9, fun q h1 _ => hk9 q h1⟩⟩) hS.2.2 (Nat.le_of_ble_eq_true rfl) (Nat.le_of_ble_eq_true rfl)
set_option maxHeartbeats 4000000 in
set_option maxRecDepth 100000 in
theorem c_Cut_span (l : Launch) (hl9 : l.stackTraces = false) (dC : Nat → ClassId) (dI : Nat → Nat → Nat) (a : Nat → Nat) (cI cZ : ClassId) (v : Nat → Nat) (f : Nat → Nat → Nat) (w : Nat → Nat → Int32) (sz : Nat) (p0 : Int32) (z0 : Int) (h0 : p0.toInt = z0) (p1 : Int32) (z1 : Int) (h1 : p1.toInt = z1) (p2 : Int32) (z2 : Int) (h2 : p2.toInt = z2) (hI : zI v f) : vx_Met l y_Cut_span (zw_Cut_span :: zW) ({ frames := 6, cells := 1, slots := 6, locals := 90 }) (va_Pc [.ref (a 0), .int (p0), .int (p1), .int (p2)] (fun U => U.heap.size = sz ∧ va_P (dC, dI) vwCl (wC a cI cZ v f w) U.heap ∧ va_K (dC, dI) vwCl [(cI, .int), (cZ, .boolean)] U ∧ va_D (fun _ => True) (wC a cI cZ v f w) ∧ zX (va_A (wC a cI cZ v f w) sz) U U.heap)) (va_Qv (fun (u : Unit) => k_span (v 9) z0 z1 z2 = 0) (fun (_ : Unit) t => va_P (dC, dI) vwCl (wC a cI cZ (zu v 2 (1)) (zu (zu f 2 (va_up (f 2) z0.toNat z1.toNat)) 3 (va_up (f 3) z0.toNat z2.toNat)) w) t.heap ∧ va_K (dC, dI) vwCl [(cI, .int), (cZ, .boolean)] t ∧ va_D (va_A (wC a cI cZ v f w) sz) (wC a cI cZ (zu v 2 (1)) (zu (zu f 2 (va_up (f 2) z0.toNat z1.toNat)) 3 (va_up (f 3) z0.toNat z2.toNat)) w)) (va_A (wC a cI cZ v f w) sz)) (vx_X (fun _ : Unit => True) (fun E _ t => ((E = "java/lang/IndexOutOfBoundsException" ∧ k_span (v 9) z0 z1 z2 = 1) ∨ (E = "java/lang/IllegalArgumentException" ∧ k_span (v 9) z0 z1 z2 = 2)) ∧ va_P (dC, dI) vwCl (wC a cI cZ v f w) t.heap ∧ va_K (dC, dI) vwCl [(cI, .int), (cZ, .boolean)] t ∧ va_D (va_A (wC a cI cZ v f w) sz) (wC a cI cZ v f w)) (va_A (wC a cI cZ v f w) sz)) 1 6 (va_A (wC a cI cZ v f w) sz) := by
  refine vx_ofW (cc := prog_1_method_5_code) (maxL := 4) (ret := none) (by decide) rfl ?_
  intro p e s m args below meth c s₁ B hml hno hv
  obtain ⟨rfl, hsz, hP, hK, hD0, hX9⟩ := hv
  have hx := B.exec
  have hb := B.bytes
  have hr := B.returns
  have hz : ∀ w ∈ zW, w.before ([.ref (a 0), .int (p0), .int (p1), .int (p2)]).toArray s = true := fun w h => atoms_spec (ws := (zw_Cut_span :: zW)) B.pre w (List.mem_cons_of_mem _ h)
  have hown : s.vm.findClass "CutLengths" = some m.cls := findClass_of_methodNamed B.named
  have hlocks := B.notSynchronized
  subst hsz
  have hD := hD0.self (sz := s.heap.size)
  generalize hAe : va_A (wC a cI cZ v f w) s.heap.size = A at hD hX9 ⊢
  have hA : ∀ q : Nat, s.heap.size ≤ q → A q := fun q h => by rw [← hAe]; exact Or.inr h
  have hS : va_S A s.heap s.heap [] := va_S.rf
  have hP : va_P (dC, dI) vwCl (wC a cI cZ v f w) s.heap := hP
  obtain ⟨hU9, hN9, hT9⟩ := hX9
  obtain ⟨i3, i4, i5, i6, i7, i8, i9, i10, i2, i0, i1, iw, ib, ic, isl⟩ := id hI
  have hl := lv_entry ([.ref (a 0), .int (p0), .int (p1), .int (p2)]) (n := 4) (Nat.le_of_ble_eq_true rfl)
  rw [lg_entry_eq]
  generalize (lg_sl ([.ref (a 0), .int (p0), .int (p1), .int (p2)]) ++ List.replicate (4 - (lg_sl ([.ref (a 0), .int (p0), .int (p1), .int (p2)])).length) Slot.unset).toArray = ls at hl ⊢
  have hl : lv_has ls 4 [(0, .ref (a 0)), (1, .int (p0)), (2, .int (p1)), (3, .int (p2))] := hl
  refine lv_iload_n hx hb d_Cut_span_0 rfl (lv_at hl 1 rfl) ?_
  refine lv_if_lt (tgt := 15) hx hb d_Cut_span_1 (by decide) (fun c_1 => ?_) (fun c_1 => ?_)
  · have c_1 : z0 < (0 : Int) := (zz_lt (h0) ((by decide))).mp c_1
    obtain ⟨sa, hsa⟩ := hT9.2.1 (94, "no such wanted length") (by decide)
    exact vx_throwS (cls := "java/lang/IndexOutOfBoundsException") (names := ["java/lang/RuntimeException", "java/lang/Exception"]) (ik := 92) (is := 94) (ic := 96) hx hb hl9 hown (by decide) (by decide) (hz _ tw_359) (hz _ tw_27) hsa (zhat_IOB hz hT9) zgd_IOB hU9 hN9 hS (hl.1.trans hml.symm) d_Cut_span_15 d_Cut_span_18 d_Cut_span_19 d_Cut_span_21 d_Cut_span_24 (fun x hx9 => (hno x hx9).elim) (Nat.le_of_ble_eq_true rfl) (Nat.le_of_ble_eq_true rfl) (Nat.le_of_ble_eq_true rfl) (Nat.le_of_ble_eq_true rfl) hlocks (fun t9 ha hz9 hk9 => ⟨(), trivial, ⟨Or.inl ⟨rfl, (by unfold k_span; rw [if_pos (by omega)])⟩, hP.kept (fun k q hk => hk9 q.1 (vx_lt hP hk)), va_K.moved ha hK, hD⟩, ⟨hz9, fun q h1 _ => hk9 q h1⟩⟩) hS.2.2 (Nat.le_of_ble_eq_true rfl) (Nat.le_of_ble_eq_true rfl)
  · have c_1 : ¬ (z0 < (0 : Int)) := fun q => c_1 ((zz_lt (h0) ((by decide))).mpr q)
    refine lv_iload_n hx hb d_Cut_span_4 rfl (lv_at hl 1 rfl) ?_
    refine lv_aload_n hx hb d_Cut_span_5 rfl (lv_at hl 0 rfl) ?_
    refine va_get (D := (dC, dI)) (ci := 0) (v := .ref (a 4)) (C := "CutLengths") (T := T_Cut) (N := 7) hx hb hz i_Cut hown hK hP 0 rfl rfl 1 (by decide) (hz _ tw_143) (fun _ h9 => h9) rfl d_Cut_span_6 ?_
    refine va_get (D := (dC, dI)) (ci := 2) (v := .int (nI (v 9))) (C := "CutLengths$WantedLengths") (T := T_Wanted) (N := 3) hx hb hz i_Wanted hown hK hP 4 rfl rfl 0 (by decide) (hz _ tw_84) (fun _ h9 => h9) rfl d_Cut_span_9 ?_
    refine lv_icmp_lt (tgt := 25) hx hb d_Cut_span_12 (by decide) (fun c_12 => ?_) (fun c_12 => ?_)
    · have c_12 : z0 < ((v 9 : Nat) : Int) := (zz_lt (h0) (nI_toInt (by omega))).mp c_12
      refine lv_iload_n hx hb d_Cut_span_25 rfl (lv_at hl 2 rfl) ?_
      refine lv_iload_n hx hb d_Cut_span_26 rfl (lv_at hl 3 rfl) ?_
      refine zz_ro (va_runS (As := [.int (p1), .int (p2)]) (rest := []) ⟨hx, hb, hml, hown, hz⟩ (c_Cut_isSpan l (p1) (p2) (z1) (z2) (h1) (h2)) (va_cwS 2 hz (zgS tw_343 tw_344 tw_15 tw_345) rfl rfl rfl (by decide +kernel) ⟨Nat.le_of_ble_eq_true rfl, Nat.le_of_ble_eq_true rfl⟩) ⟨fun _ _ _ _ q => q, fun U hU hW => ⟨rfl, trivial⟩⟩ rfl rfl hl.1 rfl (lv_room (Nat.le_of_ble_eq_true rfl)) d_Cut_span_27 ⟨Nat.zero_le _, Nat.zero_le _⟩) ?_
      by_cases q_27 : 1 ≤ (z1) ∧ (z1) ≤ (z2) ∧ (z2) ≤ 60
      · refine zz_top (congrArg nI (if_pos q_27)) ?_
        refine lv_if_ne (tgt := 43) hx hb d_Cut_span_30 (by decide) (fun _ => ?_) (fun c9 => absurd c9 (by decide))
        refine lv_aload_n hx hb d_Cut_span_43 rfl (lv_at hl 0 rfl) ?_
        refine lv_iload_n hx hb d_Cut_span_44 rfl (lv_at hl 1 rfl) ?_
        refine zz_top (zz_nat h0 (by omega)) ?_
        refine lv_iload_n hx hb d_Cut_span_45 rfl (lv_at hl 2 rfl) ?_
        refine zz_top (zz_nat h1 (by omega)) ?_
        refine lv_iload_n hx hb d_Cut_span_46 rfl (lv_at hl 3 rfl) ?_
        refine zz_top (zz_nat h2 (by omega)) ?_
        have hFc := va_free (wc := (wC a cI cZ v f w)) hD hS hA [0, 1, 2, 3, 4, 5, 6, 7, 8, 9, 10, 11, 12, 13, 14] rfl
        refine va_callv (va_runV (As := [.int (nI (z0.toNat)), .int (nI (z1.toNat)), .int (nI (z2.toNat))]) (rest := []) ⟨hx, hb, hml, hown, hz⟩ (c_Cut_tellSpan l dC dI a cI cZ v f w (s.heap).size (z0.toNat) (z1.toNat) (z2.toNat) (by omega)) (cwV (C := "CutLengths") 3 hz (zgV tw_347 tw_349 tw_6 tw_15 tw_350) rfl rfl rfl (by decide +kernel) ⟨Nat.le_of_ble_eq_true rfl, Nat.le_of_ble_eq_true rfl⟩) ⟨(fun a U g mk q => by obtain ⟨q0, q1, qP, qK, qD⟩ := q; exact ⟨q0, q1, qP, va_K.moved (u := U) (U := U.calling g mk a) (Vm.Alike.refl U.vm) qK, qD⟩), va_recv hK hP (ci := 0) (q0 := 0) rfl rfl, fun U hU hW => ⟨rfl, by rw [hU], by rw [hU]; exact hP, va_K.moved hW.alike hK, hD.weaken (fun _ _ _ _ => trivial)⟩⟩ rfl rfl hl.1 rfl (lv_room (Nat.le_of_ble_eq_true rfl)) d_Cut_span_47 ⟨Nat.zero_le _, Nat.zero_le _⟩) hS (fun q _ h => hFc q h) hFc (fun u9 t9 H1 locs ht hvm hw hB hz1 hk1 hS => ?_)
        obtain ⟨hP1, hK1, hD1⟩ := hB
        rw [ht] at hP1
        obtain ⟨hP, hD⟩ := va_join (wr := []) (w1 := (wC a cI cZ (zu v 2 (1)) (zu (zu f 2 (va_up (f 2) z0.toNat z1.toNat)) 3 (va_up (f 3) z0.toNat z2.toNat)) w)) hP hD [0, 1, 2, 3, 4, 5, 6, 7, 8, 9, 10, 11, 12, 13, 14] [] rfl rfl (by decide) (by decide) hk1 hFc hP1 hD1
        generalize H1 = H at hP hS ⊢
        have hP : va_P (dC, dI) vwCl (wC a cI cZ (zu v 2 (1)) (zu (zu f 2 (va_up (f 2) z0.toNat z1.toNat)) 3 (va_up (f 3) z0.toNat z2.toNat)) w) H := hP
        have hD : va_D A (wC a cI cZ (zu v 2 (1)) (zu (zu f 2 (va_up (f 2) z0.toNat z1.toNat)) 3 (va_up (f 3) z0.toNat z2.toNat)) w) := hD
        refine W.widen (k := 1) (n := 6) (Nat.le_of_ble_eq_true rfl) (Nat.le_of_ble_eq_true rfl) ?_
        refine vx_ret ?_
        exact W.vret hx hb hr (fun t9 ht hW => ⟨⟨(), rfl, (by unfold k_span; rw [if_neg (by omega), if_neg (by omega)]), by rw [ht]; exact hP, va_K.moved hW.alike hK, hD⟩, hS.F ht⟩) hS.2.2 d_Cut_span_50
      · refine zz_top (congrArg nI (if_neg q_27)) ?_
        refine lv_if_ne (tgt := 43) hx hb d_Cut_span_30 (by decide) (fun c9 => absurd c9 (by decide)) (fun _ => ?_)
        obtain ⟨sa, hsa⟩ := hT9.2.1 (86, "no such span") (by decide)
        exact vx_throwS (cls := "java/lang/IllegalArgumentException") (names := ["java/lang/RuntimeException", "java/lang/Exception"]) (ik := 64) (is := 86) (ic := 68) hx hb hl9 hown (by decide) (by decide) (hz _ tw_294) (hz _ tw_25) hsa (zhat_IAE hz hT9) zgd_IAE hU9 hN9 hS (hl.1.trans hml.symm) d_Cut_span_33 d_Cut_span_36 d_Cut_span_37 d_Cut_span_39 d_Cut_span_42 (fun x hx9 => (hno x hx9).elim) (Nat.le_of_ble_eq_true rfl) (Nat.le_of_ble_eq_true rfl) (Nat.le_of_ble_eq_true rfl) (Nat.le_of_ble_eq_true rfl) hlocks (fun t9 ha hz9 hk9 => ⟨(), trivial, ⟨Or.inr ⟨rfl, (by unfold k_span; rw [if_neg (by omega), if_pos (by omega)])⟩, hP.kept (fun k q hk => hk9 q.1 (vx_lt hP hk)), va_K.moved ha hK, hD⟩, ⟨hz9, fun q h1 _ => hk9 q h1⟩⟩) hS.2.2 (Nat.le_of_ble_eq_true rfl) (Nat.le_of_ble_eq_true rfl)
    · have c_12 : ¬ (z0 < ((v 9 : Nat) : Int)) := fun q => c_12 ((zz_lt (h0) (nI_toInt (by omega))).mpr q)
      obtain ⟨sa, hsa⟩ := hT9.2.1 (94, "no such wanted length") (by decide)
      exact vx_throwS (cls := "java/lang/IndexOutOfBoundsException") (names := ["java/lang/RuntimeException", "java/lang/Exception"]) (ik := 92) (is := 94) (ic := 96) hx hb hl9 hown (by decide) (by decide) (hz _ tw_359) (hz _ tw_27) hsa (zhat_IOB hz hT9) zgd_IOB hU9 hN9 hS (hl.1.trans hml.symm) d_Cut_span_15 d_Cut_span_18 d_Cut_span_19 d_Cut_span_21 d_Cut_span_24 (fun x hx9 => (hno x hx9).elim) (Nat.le_of_ble_eq_true rfl) (Nat.le_of_ble_eq_true rfl) (Nat.le_of_ble_eq_true rfl) (Nat.le_of_ble_eq_true rfl) hlocks (fun t9 ha hz9 hk9 => ⟨(), trivial, ⟨Or.inl ⟨rfl, (by unfold k_span; rw [if_pos (by omega)])⟩, hP.kept (fun k q hk => hk9 q.1 (vx_lt hP hk)), va_K.moved ha hK, hD⟩, ⟨hz9, fun q h1 _ => hk9 q h1⟩⟩) hS.2.2 (Nat.le_of_ble_eq_true rfl) (Nat.le_of_ble_eq_true rfl)
set_option maxHeartbeats 4000000 in
set_option maxRecDepth 100000 in
theorem c_Cut_trim (l : Launch) (hl9 : l.stackTraces = false) (dC : Nat → ClassId) (dI : Nat → Nat → Nat) (a : Nat → Nat) (cI cZ : ClassId) (v : Nat → Nat) (f : Nat → Nat → Nat) (w : Nat → Nat → Int32) (sz : Nat) (p0 : Int32) (z0 : Int) (h0 : p0.toInt = z0) (p1 : Int32) (z1 : Int) (h1 : p1.toInt = z1) (hI : zI v f) : vx_Met l y_Cut_trim (zw_Cut_trim :: zW) ({ frames := 6, cells := 1, slots := 6, locals := 90 }) (va_Pc [.ref (a 0), .int (p0), .int (p1)] (fun U => U.heap.size = sz ∧ va_P (dC, dI) vwCl (wC a cI cZ v f w) U.heap ∧ va_K (dC, dI) vwCl [(cI, .int), (cZ, .boolean)] U ∧ va_D (fun _ => True) (wC a cI cZ v f w) ∧ zX (va_A (wC a cI cZ v f w) sz) U U.heap)) (va_Qv (fun (u : Unit) => k_trim z0 z1 = 0) (fun (_ : Unit) t => va_P (dC, dI) vwCl (wC a cI cZ (zu (zu (zu v 5 (z0.toNat)) 6 (z1.toNat)) 2 (1)) f w) t.heap ∧ va_K (dC, dI) vwCl [(cI, .int), (cZ, .boolean)] t ∧ va_D (va_A (wC a cI cZ v f w) sz) (wC a cI cZ (zu (zu (zu v 5 (z0.toNat)) 6 (z1.toNat)) 2 (1)) f w)) (va_A (wC a cI cZ v f w) sz)) (vx_X (fun _ : Unit => True) (fun E _ t => ((E = "java/lang/IllegalArgumentException" ∧ k_trim z0 z1 = 1)) ∧ va_P (dC, dI) vwCl (wC a cI cZ v f w) t.heap ∧ va_K (dC, dI) vwCl [(cI, .int), (cZ, .boolean)] t ∧ va_D (va_A (wC a cI cZ v f w) sz) (wC a cI cZ v f w)) (va_A (wC a cI cZ v f w) sz)) 1 6 (va_A (wC a cI cZ v f w) sz) := by
  refine vx_ofW (cc := prog_1_method_6_code) (maxL := 3) (ret := none) (by decide) rfl ?_
  intro p e s m args below meth c s₁ B hml hno hv
  obtain ⟨rfl, hsz, hP, hK, hD0, hX9⟩ := hv
  have hx := B.exec
  have hb := B.bytes
  have hr := B.returns
  have hz : ∀ w ∈ zW, w.before ([.ref (a 0), .int (p0), .int (p1)]).toArray s = true := fun w h => atoms_spec (ws := (zw_Cut_trim :: zW)) B.pre w (List.mem_cons_of_mem _ h)
  have hown : s.vm.findClass "CutLengths" = some m.cls := findClass_of_methodNamed B.named
  have hlocks := B.notSynchronized
  subst hsz
  have hD := hD0.self (sz := s.heap.size)
  generalize hAe : va_A (wC a cI cZ v f w) s.heap.size = A at hD hX9 ⊢
  have hA : ∀ q : Nat, s.heap.size ≤ q → A q := fun q h => by rw [← hAe]; exact Or.inr h
  have hS : va_S A s.heap s.heap [] := va_S.rf
  have hP : va_P (dC, dI) vwCl (wC a cI cZ v f w) s.heap := hP
  obtain ⟨hU9, hN9, hT9⟩ := hX9
  obtain ⟨i3, i4, i5, i6, i7, i8, i9, i10, i2, i0, i1, iw, ib, ic, isl⟩ := id hI
  have hl := lv_entry ([.ref (a 0), .int (p0), .int (p1)]) (n := 3) (Nat.le_of_ble_eq_true rfl)
  rw [lg_entry_eq]
  generalize (lg_sl ([.ref (a 0), .int (p0), .int (p1)]) ++ List.replicate (3 - (lg_sl ([.ref (a 0), .int (p0), .int (p1)])).length) Slot.unset).toArray = ls at hl ⊢
  have hl : lv_has ls 3 [(0, .ref (a 0)), (1, .int (p0)), (2, .int (p1))] := hl
  refine lv_iload_n hx hb d_Cut_trim_0 rfl (lv_at hl 1 rfl) ?_
  refine lv_iconst (v := nI (0)) hx hb d_Cut_trim_1 (by decide) ?_
  refine lv_sipush (v := nI (300)) hx hb d_Cut_trim_2 (by decide) ?_
  refine zz_ro (va_runS (As := [.int (p0), .int (nI (0)), .int (nI (300))]) (rest := []) ⟨hx, hb, hml, hown, hz⟩ (c_Cut_isOutside l (p0) (nI (0)) (nI (300)) (z0) ((0 : Int)) ((300 : Int)) (h0) ((by decide)) ((by decide))) (va_cwS 3 hz (zgS tw_290 tw_291 tw_15 tw_292) rfl rfl rfl (by decide +kernel) ⟨Nat.le_of_ble_eq_true rfl, Nat.le_of_ble_eq_true rfl⟩) ⟨fun _ _ _ _ q => q, fun U hU hW => ⟨rfl, trivial⟩⟩ rfl rfl hl.1 rfl (lv_room (Nat.le_of_ble_eq_true rfl)) d_Cut_trim_5 ⟨Nat.zero_le _, Nat.zero_le _⟩) ?_
  by_cases q_5 : (z0) < ((0 : Int)) ∨ ((300 : Int)) < (z0)
  · refine zz_top (congrArg nI (if_pos q_5)) ?_
    refine lv_if_ne (tgt := 22) hx hb d_Cut_trim_8 (by decide) (fun _ => ?_) (fun c9 => absurd c9 (by decide))
    obtain ⟨sa, hsa⟩ := hT9.2.1 (97, "no such trims") (by decide)
    exact vx_throwS (cls := "java/lang/IllegalArgumentException") (names := ["java/lang/RuntimeException", "java/lang/Exception"]) (ik := 64) (is := 97) (ic := 68) hx hb hl9 hown (by decide) (by decide) (hz _ tw_294) (hz _ tw_25) hsa (zhat_IAE hz hT9) zgd_IAE hU9 hN9 hS (hl.1.trans hml.symm) d_Cut_trim_22 d_Cut_trim_25 d_Cut_trim_26 d_Cut_trim_28 d_Cut_trim_31 (fun x hx9 => (hno x hx9).elim) (Nat.le_of_ble_eq_true rfl) (Nat.le_of_ble_eq_true rfl) (Nat.le_of_ble_eq_true rfl) (Nat.le_of_ble_eq_true rfl) hlocks (fun t9 ha hz9 hk9 => ⟨(), trivial, ⟨⟨rfl, (by unfold k_trim; rw [if_pos (by omega)])⟩, hP.kept (fun k q hk => hk9 q.1 (vx_lt hP hk)), va_K.moved ha hK, hD⟩, ⟨hz9, fun q h1 _ => hk9 q h1⟩⟩) hS.2.2 (Nat.le_of_ble_eq_true rfl) (Nat.le_of_ble_eq_true rfl)
  · refine zz_top (congrArg nI (if_neg q_5)) ?_
    refine lv_if_ne (tgt := 22) hx hb d_Cut_trim_8 (by decide) (fun c9 => absurd c9 (by decide)) (fun _ => ?_)
    refine lv_iload_n hx hb d_Cut_trim_11 rfl (lv_at hl 2 rfl) ?_
    refine lv_iconst (v := nI (0)) hx hb d_Cut_trim_12 (by decide) ?_
    refine lv_sipush (v := nI (300)) hx hb d_Cut_trim_13 (by decide) ?_
    refine zz_ro (va_runS (As := [.int (p1), .int (nI (0)), .int (nI (300))]) (rest := []) ⟨hx, hb, hml, hown, hz⟩ (c_Cut_isOutside l (p1) (nI (0)) (nI (300)) (z1) ((0 : Int)) ((300 : Int)) (h1) ((by decide)) ((by decide))) (va_cwS 3 hz (zgS tw_290 tw_291 tw_15 tw_292) rfl rfl rfl (by decide +kernel) ⟨Nat.le_of_ble_eq_true rfl, Nat.le_of_ble_eq_true rfl⟩) ⟨fun _ _ _ _ q => q, fun U hU hW => ⟨rfl, trivial⟩⟩ rfl rfl hl.1 rfl (lv_room (Nat.le_of_ble_eq_true rfl)) d_Cut_trim_16 ⟨Nat.zero_le _, Nat.zero_le _⟩) ?_
    by_cases q_16 : (z1) < ((0 : Int)) ∨ ((300 : Int)) < (z1)
    · refine zz_top (congrArg nI (if_pos q_16)) ?_
      refine lv_if_eq (tgt := 32) hx hb d_Cut_trim_19 (by decide) (fun c9 => absurd c9 (by decide)) (fun _ => ?_)
      obtain ⟨sa, hsa⟩ := hT9.2.1 (97, "no such trims") (by decide)
      exact vx_throwS (cls := "java/lang/IllegalArgumentException") (names := ["java/lang/RuntimeException", "java/lang/Exception"]) (ik := 64) (is := 97) (ic := 68) hx hb hl9 hown (by decide) (by decide) (hz _ tw_294) (hz _ tw_25) hsa (zhat_IAE hz hT9) zgd_IAE hU9 hN9 hS (hl.1.trans hml.symm) d_Cut_trim_22 d_Cut_trim_25 d_Cut_trim_26 d_Cut_trim_28 d_Cut_trim_31 (fun x hx9 => (hno x hx9).elim) (Nat.le_of_ble_eq_true rfl) (Nat.le_of_ble_eq_true rfl) (Nat.le_of_ble_eq_true rfl) (Nat.le_of_ble_eq_true rfl) hlocks (fun t9 ha hz9 hk9 => ⟨(), trivial, ⟨⟨rfl, (by unfold k_trim; rw [if_pos (by omega)])⟩, hP.kept (fun k q hk => hk9 q.1 (vx_lt hP hk)), va_K.moved ha hK, hD⟩, ⟨hz9, fun q h1 _ => hk9 q h1⟩⟩) hS.2.2 (Nat.le_of_ble_eq_true rfl) (Nat.le_of_ble_eq_true rfl)
    · refine zz_top (congrArg nI (if_neg q_16)) ?_
      refine lv_if_eq (tgt := 32) hx hb d_Cut_trim_19 (by decide) (fun _ => ?_) (fun c9 => absurd c9 (by decide))
      refine lv_aload_n hx hb d_Cut_trim_32 rfl (lv_at hl 0 rfl) ?_
      refine va_get (D := (dC, dI)) (ci := 0) (v := .ref (a 1)) (C := "CutLengths") (T := T_Cut) (N := 7) hx hb hz i_Cut hown hK hP 0 rfl rfl 0 (by decide) (hz _ tw_142) (fun _ h9 => h9) rfl d_Cut_trim_33 ?_
      refine lv_iload_n hx hb d_Cut_trim_36 rfl (lv_at hl 1 rfl) ?_
      refine zz_top (zz_nat h0 (by omega)) ?_
      refine va_put (D := (dC, dI)) (ci := 1) (v := .int (nI (z0.toNat))) (ty := .int) (C := "CutLengths$Strand") (T := T_Strand) (N := 8) hx hb hz i_Strand t_Strand t_Strand_ok n_Strand hown hK hP hD hS 1 rfl rfl 2 (by decide) (hz _ tw_50) (fun _ h9 => h9) rfl (by decide +kernel) rfl rfl (Nat.le_of_ble_eq_true rfl) d_Cut_trim_37 (fun H locs hP hD hS => ?_)
      have hP : va_P (dC, dI) vwCl (wC a cI cZ (zu v 5 (z0.toNat)) f w) H := hP
      have hD : va_D A (wC a cI cZ (zu v 5 (z0.toNat)) f w) := hD
      refine lv_aload_n hx hb d_Cut_trim_40 rfl (lv_at hl 0 rfl) ?_
      refine va_get (D := (dC, dI)) (ci := 0) (v := .ref (a 1)) (C := "CutLengths") (T := T_Cut) (N := 7) hx hb hz i_Cut hown hK hP 0 rfl rfl 0 (by decide) (hz _ tw_142) (fun _ h9 => h9) rfl d_Cut_trim_41 ?_
      refine lv_iload_n hx hb d_Cut_trim_44 rfl (lv_at hl 2 rfl) ?_
      refine zz_top (zz_nat h1 (by omega)) ?_
      refine va_put (D := (dC, dI)) (ci := 1) (v := .int (nI (z1.toNat))) (ty := .int) (C := "CutLengths$Strand") (T := T_Strand) (N := 8) hx hb hz i_Strand t_Strand t_Strand_ok n_Strand hown hK hP hD hS 1 rfl rfl 3 (by decide) (hz _ tw_52) (fun _ h9 => h9) rfl (by decide +kernel) rfl rfl (Nat.le_of_ble_eq_true rfl) d_Cut_trim_45 (fun H locs hP hD hS => ?_)
      have hP : va_P (dC, dI) vwCl (wC a cI cZ (zu (zu v 5 (z0.toNat)) 6 (z1.toNat)) f w) H := hP
      have hD : va_D A (wC a cI cZ (zu (zu v 5 (z0.toNat)) 6 (z1.toNat)) f w) := hD
      refine lv_aload_n hx hb d_Cut_trim_48 rfl (lv_at hl 0 rfl) ?_
      refine lv_iconst (v := nI (1)) hx hb d_Cut_trim_49 (by decide) ?_
      refine va_put (D := (dC, dI)) (ci := 0) (v := .int (nI (1))) (ty := .boolean) (C := "CutLengths") (T := T_Cut) (N := 7) hx hb hz i_Cut t_Cut t_Cut_ok n_Cut hown hK hP hD hS 0 rfl rfl 6 (by decide) (hz _ tw_148) (fun _ h9 => h9) rfl (by decide +kernel) rfl rfl (Nat.le_of_ble_eq_true rfl) d_Cut_trim_50 (fun H locs hP hD hS => ?_)
      have hP : va_P (dC, dI) vwCl (wC a cI cZ (zu (zu (zu v 5 (z0.toNat)) 6 (z1.toNat)) 2 (1)) f w) H := hP
      have hD : va_D A (wC a cI cZ (zu (zu (zu v 5 (z0.toNat)) 6 (z1.toNat)) 2 (1)) f w) := hD
      refine W.widen (k := 1) (n := 6) (Nat.le_of_ble_eq_true rfl) (Nat.le_of_ble_eq_true rfl) ?_
      refine vx_ret ?_
      exact W.vret hx hb hr (fun t9 ht hW => ⟨⟨(), rfl, (by unfold k_trim; rw [if_neg (by omega)]), by rw [ht]; exact hP, va_K.moved hW.alike hK, hD⟩, hS.F ht⟩) hS.2.2 d_Cut_trim_53
set_option maxHeartbeats 4000000 in
set_option maxRecDepth 100000 in
theorem c_Cut_bad (l : Launch) (hl9 : l.stackTraces = false) (dC : Nat → ClassId) (dI : Nat → Nat → Nat) (a : Nat → Nat) (cI cZ : ClassId) (v : Nat → Nat) (f : Nat → Nat → Nat) (w : Nat → Nat → Int32) (sz : Nat) (p0 : Int32) (z0 : Int) (h0 : p0.toInt = z0) (p1 : Int32) (z1 : Int) (h1 : p1.toInt = z1) (hI : zI v f) : vx_Met l y_Cut_bad (zw_Cut_bad :: zW) ({ frames := 6, cells := 1, slots := 6, locals := 90 }) (va_Pc [.ref (a 0), .int (p0), .int (p1)] (fun U => U.heap.size = sz ∧ va_P (dC, dI) vwCl (wC a cI cZ v f w) U.heap ∧ va_K (dC, dI) vwCl [(cI, .int), (cZ, .boolean)] U ∧ va_D (fun _ => True) (wC a cI cZ v f w) ∧ zX (va_A (wC a cI cZ v f w) sz) U U.heap)) (va_Qi (fun (r : Int32) (u : Nat → Nat) => k_bad (v 7) z0 z1 = 0 ∧ r = nI (v 7 + 1) ∧ ∀ p, u p = if z0.toNat ≤ p ∧ p < z1.toNat then 1 else f 0 p) (fun (u : Nat → Nat) t => match u with | g => va_P (dC, dI) vwCl (wC a cI cZ (zu (zu v 7 (v 7 + 1)) 2 (1)) (zu f 0 (g)) w) t.heap ∧ va_K (dC, dI) vwCl [(cI, .int), (cZ, .boolean)] t ∧ va_D (va_A (wC a cI cZ v f w) sz) (wC a cI cZ (zu (zu v 7 (v 7 + 1)) 2 (1)) (zu f 0 (g)) w)) (va_A (wC a cI cZ v f w) sz)) (vx_X (fun _ : Unit => True) (fun E _ t => ((E = "java/lang/IllegalStateException" ∧ k_bad (v 7) z0 z1 = 1) ∨ (E = "java/lang/IllegalArgumentException" ∧ k_bad (v 7) z0 z1 = 2)) ∧ va_P (dC, dI) vwCl (wC a cI cZ v f w) t.heap ∧ va_K (dC, dI) vwCl [(cI, .int), (cZ, .boolean)] t ∧ va_D (va_A (wC a cI cZ v f w) sz) (wC a cI cZ v f w)) (va_A (wC a cI cZ v f w) sz)) 1 6 (va_A (wC a cI cZ v f w) sz) := by
  refine vx_ofW (cc := prog_1_method_7_code) (maxL := 3) (ret := (some .int)) (by decide) rfl ?_
  intro p e s m args below meth c s₁ B hml hno hv
  obtain ⟨rfl, hsz, hP, hK, hD0, hX9⟩ := hv
  have hx := B.exec
  have hb := B.bytes
  have hr := B.returns
  have hz : ∀ w ∈ zW, w.before ([.ref (a 0), .int (p0), .int (p1)]).toArray s = true := fun w h => atoms_spec (ws := (zw_Cut_bad :: zW)) B.pre w (List.mem_cons_of_mem _ h)
  have hown : s.vm.findClass "CutLengths" = some m.cls := findClass_of_methodNamed B.named
  have hlocks := B.notSynchronized
  subst hsz
  have hD := hD0.self (sz := s.heap.size)
  generalize hAe : va_A (wC a cI cZ v f w) s.heap.size = A at hD hX9 ⊢
  have hA : ∀ q : Nat, s.heap.size ≤ q → A q := fun q h => by rw [← hAe]; exact Or.inr h
  have hS : va_S A s.heap s.heap [] := va_S.rf
  have hP : va_P (dC, dI) vwCl (wC a cI cZ v f w) s.heap := hP
  obtain ⟨hU9, hN9, hT9⟩ := hX9
  obtain ⟨i3, i4, i5, i6, i7, i8, i9, i10, i2, i0, i1, iw, ib, ic, isl⟩ := id hI
  have hl := lv_entry ([.ref (a 0), .int (p0), .int (p1)]) (n := 3) (Nat.le_of_ble_eq_true rfl)
  rw [lg_entry_eq]
  generalize (lg_sl ([.ref (a 0), .int (p0), .int (p1)]) ++ List.replicate (3 - (lg_sl ([.ref (a 0), .int (p0), .int (p1)])).length) Slot.unset).toArray = ls at hl ⊢
  have hl : lv_has ls 3 [(0, .ref (a 0)), (1, .int (p0)), (2, .int (p1))] := hl
  refine lv_aload_n hx hb d_Cut_bad_0 rfl (lv_at hl 0 rfl) ?_
  refine va_get (D := (dC, dI)) (ci := 0) (v := .ref (a 1)) (C := "CutLengths") (T := T_Cut) (N := 7) hx hb hz i_Cut hown hK hP 0 rfl rfl 0 (by decide) (hz _ tw_142) (fun _ h9 => h9) rfl d_Cut_bad_1 ?_
  refine va_get (D := (dC, dI)) (ci := 1) (v := .int (nI (v 7))) (C := "CutLengths$Strand") (T := T_Strand) (N := 8) hx hb hz i_Strand hown hK hP 1 rfl rfl 4 (by decide) (hz _ tw_54) (fun _ h9 => h9) rfl d_Cut_bad_4 ?_
  refine lv_bipush (v := nI (20)) hx hb d_Cut_bad_7 (by decide) ?_
  refine lv_icmp_lt (tgt := 22) hx hb d_Cut_bad_9 (by decide) (fun c_9 => ?_) (fun c_9 => ?_)
  · have c_9 : ((v 7 : Nat) : Int) < (20 : Int) := (zz_lt (nI_toInt (by omega)) ((by decide))).mp c_9
    refine lv_iload_n hx hb d_Cut_bad_22 rfl (lv_at hl 1 rfl) ?_
    refine lv_iload_n hx hb d_Cut_bad_23 rfl (lv_at hl 2 rfl) ?_
    refine zz_ro (va_runS (As := [.int (p0), .int (p1)]) (rest := []) ⟨hx, hb, hml, hown, hz⟩ (c_Cut_isStretch l (p0) (p1) (z0) (z1) (h0) (h1)) (va_cwS 2 hz (zgS tw_391 tw_392 tw_15 tw_393) rfl rfl rfl (by decide +kernel) ⟨Nat.le_of_ble_eq_true rfl, Nat.le_of_ble_eq_true rfl⟩) ⟨fun _ _ _ _ q => q, fun U hU hW => ⟨rfl, trivial⟩⟩ rfl rfl hl.1 rfl (lv_room (Nat.le_of_ble_eq_true rfl)) d_Cut_bad_24 ⟨Nat.zero_le _, Nat.zero_le _⟩) ?_
    by_cases q_24 : 0 ≤ (z0) ∧ (z0) ≤ (z1) ∧ (z1) ≤ 300
    · refine zz_top (congrArg nI (if_pos q_24)) ?_
      refine lv_if_ne (tgt := 40) hx hb d_Cut_bad_27 (by decide) (fun _ => ?_) (fun c9 => absurd c9 (by decide))
      refine lv_aload_n hx hb d_Cut_bad_40 rfl (lv_at hl 0 rfl) ?_
      refine va_get (D := (dC, dI)) (ci := 0) (v := .ref (a 1)) (C := "CutLengths") (T := T_Cut) (N := 7) hx hb hz i_Cut hown hK hP 0 rfl rfl 0 (by decide) (hz _ tw_142) (fun _ h9 => h9) rfl d_Cut_bad_41 ?_
      refine lv_iload_n hx hb d_Cut_bad_44 rfl (lv_at hl 1 rfl) ?_
      refine zz_top (zz_nat h0 (by omega)) ?_
      refine lv_iload_n hx hb d_Cut_bad_45 rfl (lv_at hl 2 rfl) ?_
      refine zz_top (zz_nat h1 (by omega)) ?_
      have hFc := va_free (wc := (wC a cI cZ v f w)) hD hS hA [0, 1, 2, 3, 4, 5, 6, 7, 8, 9, 10, 11, 12, 13, 14] rfl
      refine va_callv (va_runV (As := [.int (nI (z0.toNat)), .int (nI (z1.toNat))]) (rest := []) ⟨hx, hb, hml, hown, hz⟩ (c_Strand_markBad l dC dI a cI cZ v f w (s.heap).size (z0.toNat) (z1.toNat) (by omega) (by omega) hI) (cwV (C := "CutLengths$Strand") 2 hz (zgV tw_395 tw_396 tw_397 tw_16 tw_398) rfl rfl rfl (by decide +kernel) ⟨Nat.le_of_ble_eq_true rfl, Nat.le_of_ble_eq_true rfl⟩) ⟨(fun a U g mk q => by obtain ⟨q0, q1, qP, qK, qD⟩ := q; exact ⟨q0, q1, qP, va_K.moved (u := U) (U := U.calling g mk a) (Vm.Alike.refl U.vm) qK, qD⟩), va_recv hK hP (ci := 1) (q0 := 1) rfl rfl, fun U hU hW => ⟨rfl, by rw [hU], by rw [hU]; exact hP, va_K.moved hW.alike hK, hD.weaken (fun _ _ _ _ => trivial)⟩⟩ rfl rfl hl.1 rfl (lv_room (Nat.le_of_ble_eq_true rfl)) d_Cut_bad_46 ⟨Nat.zero_le _, Nat.zero_le _⟩) hS (fun q _ h => hFc q h) hFc (fun u9 t9 H1 locs ht hvm hw hB hz1 hk1 hS => ?_)
      obtain ⟨g_46, rfl⟩ : ∃ z, z = u9 := ⟨_, rfl⟩
      obtain ⟨hP1, hK1, hD1⟩ := hB
      rw [ht] at hP1
      obtain ⟨hP, hD⟩ := va_join (wr := []) (w1 := (wC a cI cZ (zu v 7 ((v 7) + 1)) (zu f 0 (g_46)) w)) hP hD [0, 1, 2, 3, 4, 5, 6, 7, 8, 9, 10, 11, 12, 13, 14] [] rfl rfl (by decide) (by decide) hk1 hFc hP1 hD1
      generalize H1 = H at hP hS ⊢
      have hP : va_P (dC, dI) vwCl (wC a cI cZ (zu v 7 ((v 7) + 1)) (zu f 0 (g_46)) w) H := hP
      have hD : va_D A (wC a cI cZ (zu v 7 ((v 7) + 1)) (zu f 0 (g_46)) w) := hD
      refine lv_aload_n hx hb d_Cut_bad_49 rfl (lv_at hl 0 rfl) ?_
      refine lv_iconst (v := nI (1)) hx hb d_Cut_bad_50 (by decide) ?_
      refine va_put (D := (dC, dI)) (ci := 0) (v := .int (nI (1))) (ty := .boolean) (C := "CutLengths") (T := T_Cut) (N := 7) hx hb hz i_Cut t_Cut t_Cut_ok n_Cut hown hK hP hD hS 0 rfl rfl 6 (by decide) (hz _ tw_148) (fun _ h9 => h9) rfl (by decide +kernel) rfl rfl (Nat.le_of_ble_eq_true rfl) d_Cut_bad_51 (fun H locs hP hD hS => ?_)
      have hP : va_P (dC, dI) vwCl (wC a cI cZ (zu (zu v 7 ((v 7) + 1)) 2 (1)) (zu f 0 (g_46)) w) H := hP
      have hD : va_D A (wC a cI cZ (zu (zu v 7 ((v 7) + 1)) 2 (1)) (zu f 0 (g_46)) w) := hD
      refine lv_aload_n hx hb d_Cut_bad_54 rfl (lv_at hl 0 rfl) ?_
      refine va_get (D := (dC, dI)) (ci := 0) (v := .ref (a 1)) (C := "CutLengths") (T := T_Cut) (N := 7) hx hb hz i_Cut hown hK hP 0 rfl rfl 0 (by decide) (hz _ tw_142) (fun _ h9 => h9) rfl d_Cut_bad_55 ?_
      refine va_get (D := (dC, dI)) (ci := 1) (v := .int (nI ((v 7) + 1))) (C := "CutLengths$Strand") (T := T_Strand) (N := 8) hx hb hz i_Strand hown hK hP 1 rfl rfl 4 (by decide) (hz _ tw_54) (fun _ h9 => h9) rfl d_Cut_bad_58 ?_
      refine W.widen (k := 1) (n := 6) (Nat.le_of_ble_eq_true rfl) (Nat.le_of_ble_eq_true rfl) ?_
      refine vx_ret ?_
      exact W.iret (v := nI ((v 7) + 1)) hx hb hr (fun t9 ht hW => ⟨⟨nI ((v 7) + 1), g_46, rfl, ⟨(by unfold k_bad; rw [if_neg (by omega), if_neg (by omega)]), rfl, hw⟩, by rw [ht]; exact hP, va_K.moved hW.alike hK, hD⟩, hS.F ht⟩) hS.2.2 d_Cut_bad_61
    · refine zz_top (congrArg nI (if_neg q_24)) ?_
      refine lv_if_ne (tgt := 40) hx hb d_Cut_bad_27 (by decide) (fun c9 => absurd c9 (by decide)) (fun _ => ?_)
      obtain ⟨sa, hsa⟩ := hT9.2.1 (113, "no such steps") (by decide)
      exact vx_throwS (cls := "java/lang/IllegalArgumentException") (names := ["java/lang/RuntimeException", "java/lang/Exception"]) (ik := 64) (is := 113) (ic := 68) hx hb hl9 hown (by decide) (by decide) (hz _ tw_294) (hz _ tw_25) hsa (zhat_IAE hz hT9) zgd_IAE hU9 hN9 hS (hl.1.trans hml.symm) d_Cut_bad_30 d_Cut_bad_33 d_Cut_bad_34 d_Cut_bad_36 d_Cut_bad_39 (fun x hx9 => (hno x hx9).elim) (Nat.le_of_ble_eq_true rfl) (Nat.le_of_ble_eq_true rfl) (Nat.le_of_ble_eq_true rfl) (Nat.le_of_ble_eq_true rfl) hlocks (fun t9 ha hz9 hk9 => ⟨(), trivial, ⟨Or.inr ⟨rfl, (by unfold k_bad; rw [if_neg (by omega), if_pos (by omega)])⟩, hP.kept (fun k q hk => hk9 q.1 (vx_lt hP hk)), va_K.moved ha hK, hD⟩, ⟨hz9, fun q h1 _ => hk9 q h1⟩⟩) hS.2.2 (Nat.le_of_ble_eq_true rfl) (Nat.le_of_ble_eq_true rfl)
  · have c_9 : ¬ (((v 7 : Nat) : Int) < (20 : Int)) := fun q => c_9 ((zz_lt (nI_toInt (by omega)) ((by decide))).mpr q)
    obtain ⟨sa, hsa⟩ := hT9.2.1 (108, "no more bad parts") (by decide)
    exact vx_throwS (cls := "java/lang/IllegalStateException") (names := ["java/lang/RuntimeException", "java/lang/Exception"]) (ik := 51) (is := 108) (ic := 55) hx hb hl9 hown (by decide) (by decide) (hz _ tw_220) (hz _ tw_24) hsa (zhat_ISE hz hT9) zgd_ISE hU9 hN9 hS (hl.1.trans hml.symm) d_Cut_bad_12 d_Cut_bad_15 d_Cut_bad_16 d_Cut_bad_18 d_Cut_bad_21 (fun x hx9 => (hno x hx9).elim) (Nat.le_of_ble_eq_true rfl) (Nat.le_of_ble_eq_true rfl) (Nat.le_of_ble_eq_true rfl) (Nat.le_of_ble_eq_true rfl) hlocks (fun t9 ha hz9 hk9 => ⟨(), trivial, ⟨Or.inl ⟨rfl, (by unfold k_bad; rw [if_pos (by omega)])⟩, hP.kept (fun k q hk => hk9 q.1 (vx_lt hP hk)), va_K.moved ha hK, hD⟩, ⟨hz9, fun q h1 _ => hk9 q h1⟩⟩) hS.2.2 (Nat.le_of_ble_eq_true rfl) (Nat.le_of_ble_eq_true rfl)
set_option maxHeartbeats 4000000 in
set_option maxRecDepth 100000 in
theorem c_Cut_bar (l : Launch) (hl9 : l.stackTraces = false) (dC : Nat → ClassId) (dI : Nat → Nat → Nat) (a : Nat → Nat) (cI cZ : ClassId) (v : Nat → Nat) (f : Nat → Nat → Nat) (w : Nat → Nat → Int32) (sz : Nat) (p0 : Int32) (z0 : Int) (h0 : p0.toInt = z0) (p1 : Int32) (z1 : Int) (h1 : p1.toInt = z1) (hI : zI v f) : vx_Met l y_Cut_bar (zw_Cut_bar :: zW) ({ frames := 6, cells := 1, slots := 6, locals := 90 }) (va_Pc [.ref (a 0), .int (p0), .int (p1)] (fun U => U.heap.size = sz ∧ va_P (dC, dI) vwCl (wC a cI cZ v f w) U.heap ∧ va_K (dC, dI) vwCl [(cI, .int), (cZ, .boolean)] U ∧ va_D (fun _ => True) (wC a cI cZ v f w) ∧ zX (va_A (wC a cI cZ v f w) sz) U U.heap)) (va_Qi (fun (r : Int32) (u : Nat → Nat) => k_bad (v 8) z0 z1 = 0 ∧ r = nI (v 8 + 1) ∧ ∀ p, u p = if z0.toNat ≤ p ∧ p < (z1.toNat + 1) then 1 else f 1 p) (fun (u : Nat → Nat) t => match u with | g => va_P (dC, dI) vwCl (wC a cI cZ (zu (zu v 8 (v 8 + 1)) 2 (1)) (zu f 1 (g)) w) t.heap ∧ va_K (dC, dI) vwCl [(cI, .int), (cZ, .boolean)] t ∧ va_D (va_A (wC a cI cZ v f w) sz) (wC a cI cZ (zu (zu v 8 (v 8 + 1)) 2 (1)) (zu f 1 (g)) w)) (va_A (wC a cI cZ v f w) sz)) (vx_X (fun _ : Unit => True) (fun E _ t => ((E = "java/lang/IllegalStateException" ∧ k_bad (v 8) z0 z1 = 1) ∨ (E = "java/lang/IllegalArgumentException" ∧ k_bad (v 8) z0 z1 = 2)) ∧ va_P (dC, dI) vwCl (wC a cI cZ v f w) t.heap ∧ va_K (dC, dI) vwCl [(cI, .int), (cZ, .boolean)] t ∧ va_D (va_A (wC a cI cZ v f w) sz) (wC a cI cZ v f w)) (va_A (wC a cI cZ v f w) sz)) 1 6 (va_A (wC a cI cZ v f w) sz) := by
  refine vx_ofW (cc := prog_1_method_8_code) (maxL := 3) (ret := (some .int)) (by decide) rfl ?_
  intro p e s m args below meth c s₁ B hml hno hv
  obtain ⟨rfl, hsz, hP, hK, hD0, hX9⟩ := hv
  have hx := B.exec
  have hb := B.bytes
  have hr := B.returns
  have hz : ∀ w ∈ zW, w.before ([.ref (a 0), .int (p0), .int (p1)]).toArray s = true := fun w h => atoms_spec (ws := (zw_Cut_bar :: zW)) B.pre w (List.mem_cons_of_mem _ h)
  have hown : s.vm.findClass "CutLengths" = some m.cls := findClass_of_methodNamed B.named
  have hlocks := B.notSynchronized
  subst hsz
  have hD := hD0.self (sz := s.heap.size)
  generalize hAe : va_A (wC a cI cZ v f w) s.heap.size = A at hD hX9 ⊢
  have hA : ∀ q : Nat, s.heap.size ≤ q → A q := fun q h => by rw [← hAe]; exact Or.inr h
  have hS : va_S A s.heap s.heap [] := va_S.rf
  have hP : va_P (dC, dI) vwCl (wC a cI cZ v f w) s.heap := hP
  obtain ⟨hU9, hN9, hT9⟩ := hX9
  obtain ⟨i3, i4, i5, i6, i7, i8, i9, i10, i2, i0, i1, iw, ib, ic, isl⟩ := id hI
  have hl := lv_entry ([.ref (a 0), .int (p0), .int (p1)]) (n := 3) (Nat.le_of_ble_eq_true rfl)
  rw [lg_entry_eq]
  generalize (lg_sl ([.ref (a 0), .int (p0), .int (p1)]) ++ List.replicate (3 - (lg_sl ([.ref (a 0), .int (p0), .int (p1)])).length) Slot.unset).toArray = ls at hl ⊢
  have hl : lv_has ls 3 [(0, .ref (a 0)), (1, .int (p0)), (2, .int (p1))] := hl
  refine lv_aload_n hx hb d_Cut_bar_0 rfl (lv_at hl 0 rfl) ?_
  refine va_get (D := (dC, dI)) (ci := 0) (v := .ref (a 1)) (C := "CutLengths") (T := T_Cut) (N := 7) hx hb hz i_Cut hown hK hP 0 rfl rfl 0 (by decide) (hz _ tw_142) (fun _ h9 => h9) rfl d_Cut_bar_1 ?_
  refine va_get (D := (dC, dI)) (ci := 1) (v := .int (nI (v 8))) (C := "CutLengths$Strand") (T := T_Strand) (N := 8) hx hb hz i_Strand hown hK hP 1 rfl rfl 5 (by decide) (hz _ tw_56) (fun _ h9 => h9) rfl d_Cut_bar_4 ?_
  refine lv_bipush (v := nI (20)) hx hb d_Cut_bar_7 (by decide) ?_
  refine lv_icmp_lt (tgt := 22) hx hb d_Cut_bar_9 (by decide) (fun c_9 => ?_) (fun c_9 => ?_)
  · have c_9 : ((v 8 : Nat) : Int) < (20 : Int) := (zz_lt (nI_toInt (by omega)) ((by decide))).mp c_9
    refine lv_iload_n hx hb d_Cut_bar_22 rfl (lv_at hl 1 rfl) ?_
    refine lv_iload_n hx hb d_Cut_bar_23 rfl (lv_at hl 2 rfl) ?_
    refine zz_ro (va_runS (As := [.int (p0), .int (p1)]) (rest := []) ⟨hx, hb, hml, hown, hz⟩ (c_Cut_isStretch l (p0) (p1) (z0) (z1) (h0) (h1)) (va_cwS 2 hz (zgS tw_391 tw_392 tw_15 tw_393) rfl rfl rfl (by decide +kernel) ⟨Nat.le_of_ble_eq_true rfl, Nat.le_of_ble_eq_true rfl⟩) ⟨fun _ _ _ _ q => q, fun U hU hW => ⟨rfl, trivial⟩⟩ rfl rfl hl.1 rfl (lv_room (Nat.le_of_ble_eq_true rfl)) d_Cut_bar_24 ⟨Nat.zero_le _, Nat.zero_le _⟩) ?_
    by_cases q_24 : 0 ≤ (z0) ∧ (z0) ≤ (z1) ∧ (z1) ≤ 300
    · refine zz_top (congrArg nI (if_pos q_24)) ?_
      refine lv_if_ne (tgt := 40) hx hb d_Cut_bar_27 (by decide) (fun _ => ?_) (fun c9 => absurd c9 (by decide))
      refine lv_aload_n hx hb d_Cut_bar_40 rfl (lv_at hl 0 rfl) ?_
      refine va_get (D := (dC, dI)) (ci := 0) (v := .ref (a 1)) (C := "CutLengths") (T := T_Cut) (N := 7) hx hb hz i_Cut hown hK hP 0 rfl rfl 0 (by decide) (hz _ tw_142) (fun _ h9 => h9) rfl d_Cut_bar_41 ?_
      refine lv_iload_n hx hb d_Cut_bar_44 rfl (lv_at hl 1 rfl) ?_
      refine zz_top (zz_nat h0 (by omega)) ?_
      refine lv_iload_n hx hb d_Cut_bar_45 rfl (lv_at hl 2 rfl) ?_
      refine zz_top (zz_nat h1 (by omega)) ?_
      have hFc := va_free (wc := (wC a cI cZ v f w)) hD hS hA [0, 1, 2, 3, 4, 5, 6, 7, 8, 9, 10, 11, 12, 13, 14] rfl
      refine va_callv (va_runV (As := [.int (nI (z0.toNat)), .int (nI (z1.toNat))]) (rest := []) ⟨hx, hb, hml, hown, hz⟩ (c_Strand_markBarred l dC dI a cI cZ v f w (s.heap).size (z0.toNat) (z1.toNat) (by omega) (by omega) hI) (cwV (C := "CutLengths$Strand") 2 hz (zgV tw_408 tw_409 tw_410 tw_16 tw_411) rfl rfl rfl (by decide +kernel) ⟨Nat.le_of_ble_eq_true rfl, Nat.le_of_ble_eq_true rfl⟩) ⟨(fun a U g mk q => by obtain ⟨q0, q1, qP, qK, qD⟩ := q; exact ⟨q0, q1, qP, va_K.moved (u := U) (U := U.calling g mk a) (Vm.Alike.refl U.vm) qK, qD⟩), va_recv hK hP (ci := 1) (q0 := 1) rfl rfl, fun U hU hW => ⟨rfl, by rw [hU], by rw [hU]; exact hP, va_K.moved hW.alike hK, hD.weaken (fun _ _ _ _ => trivial)⟩⟩ rfl rfl hl.1 rfl (lv_room (Nat.le_of_ble_eq_true rfl)) d_Cut_bar_46 ⟨Nat.zero_le _, Nat.zero_le _⟩) hS (fun q _ h => hFc q h) hFc (fun u9 t9 H1 locs ht hvm hw hB hz1 hk1 hS => ?_)
      obtain ⟨g_46, rfl⟩ : ∃ z, z = u9 := ⟨_, rfl⟩
      obtain ⟨hP1, hK1, hD1⟩ := hB
      rw [ht] at hP1
      obtain ⟨hP, hD⟩ := va_join (wr := []) (w1 := (wC a cI cZ (zu v 8 ((v 8) + 1)) (zu f 1 (g_46)) w)) hP hD [0, 1, 2, 3, 4, 5, 6, 7, 8, 9, 10, 11, 12, 13, 14] [] rfl rfl (by decide) (by decide) hk1 hFc hP1 hD1
      generalize H1 = H at hP hS ⊢
      have hP : va_P (dC, dI) vwCl (wC a cI cZ (zu v 8 ((v 8) + 1)) (zu f 1 (g_46)) w) H := hP
      have hD : va_D A (wC a cI cZ (zu v 8 ((v 8) + 1)) (zu f 1 (g_46)) w) := hD
      refine lv_aload_n hx hb d_Cut_bar_49 rfl (lv_at hl 0 rfl) ?_
      refine lv_iconst (v := nI (1)) hx hb d_Cut_bar_50 (by decide) ?_
      refine va_put (D := (dC, dI)) (ci := 0) (v := .int (nI (1))) (ty := .boolean) (C := "CutLengths") (T := T_Cut) (N := 7) hx hb hz i_Cut t_Cut t_Cut_ok n_Cut hown hK hP hD hS 0 rfl rfl 6 (by decide) (hz _ tw_148) (fun _ h9 => h9) rfl (by decide +kernel) rfl rfl (Nat.le_of_ble_eq_true rfl) d_Cut_bar_51 (fun H locs hP hD hS => ?_)
      have hP : va_P (dC, dI) vwCl (wC a cI cZ (zu (zu v 8 ((v 8) + 1)) 2 (1)) (zu f 1 (g_46)) w) H := hP
      have hD : va_D A (wC a cI cZ (zu (zu v 8 ((v 8) + 1)) 2 (1)) (zu f 1 (g_46)) w) := hD
      refine lv_aload_n hx hb d_Cut_bar_54 rfl (lv_at hl 0 rfl) ?_
      refine va_get (D := (dC, dI)) (ci := 0) (v := .ref (a 1)) (C := "CutLengths") (T := T_Cut) (N := 7) hx hb hz i_Cut hown hK hP 0 rfl rfl 0 (by decide) (hz _ tw_142) (fun _ h9 => h9) rfl d_Cut_bar_55 ?_
      refine va_get (D := (dC, dI)) (ci := 1) (v := .int (nI ((v 8) + 1))) (C := "CutLengths$Strand") (T := T_Strand) (N := 8) hx hb hz i_Strand hown hK hP 1 rfl rfl 5 (by decide) (hz _ tw_56) (fun _ h9 => h9) rfl d_Cut_bar_58 ?_
      refine W.widen (k := 1) (n := 6) (Nat.le_of_ble_eq_true rfl) (Nat.le_of_ble_eq_true rfl) ?_
      refine vx_ret ?_
      exact W.iret (v := nI ((v 8) + 1)) hx hb hr (fun t9 ht hW => ⟨⟨nI ((v 8) + 1), g_46, rfl, ⟨(by unfold k_bad; rw [if_neg (by omega), if_neg (by omega)]), rfl, hw⟩, by rw [ht]; exact hP, va_K.moved hW.alike hK, hD⟩, hS.F ht⟩) hS.2.2 d_Cut_bar_61
    · refine zz_top (congrArg nI (if_neg q_24)) ?_
      refine lv_if_ne (tgt := 40) hx hb d_Cut_bar_27 (by decide) (fun c9 => absurd c9 (by decide)) (fun _ => ?_)
      obtain ⟨sa, hsa⟩ := hT9.2.1 (124, "no such places") (by decide)
      exact vx_throwS (cls := "java/lang/IllegalArgumentException") (names := ["java/lang/RuntimeException", "java/lang/Exception"]) (ik := 64) (is := 124) (ic := 68) hx hb hl9 hown (by decide) (by decide) (hz _ tw_294) (hz _ tw_25) hsa (zhat_IAE hz hT9) zgd_IAE hU9 hN9 hS (hl.1.trans hml.symm) d_Cut_bar_30 d_Cut_bar_33 d_Cut_bar_34 d_Cut_bar_36 d_Cut_bar_39 (fun x hx9 => (hno x hx9).elim) (Nat.le_of_ble_eq_true rfl) (Nat.le_of_ble_eq_true rfl) (Nat.le_of_ble_eq_true rfl) (Nat.le_of_ble_eq_true rfl) hlocks (fun t9 ha hz9 hk9 => ⟨(), trivial, ⟨Or.inr ⟨rfl, (by unfold k_bad; rw [if_neg (by omega), if_pos (by omega)])⟩, hP.kept (fun k q hk => hk9 q.1 (vx_lt hP hk)), va_K.moved ha hK, hD⟩, ⟨hz9, fun q h1 _ => hk9 q h1⟩⟩) hS.2.2 (Nat.le_of_ble_eq_true rfl) (Nat.le_of_ble_eq_true rfl)
  · have c_9 : ¬ (((v 8 : Nat) : Int) < (20 : Int)) := fun q => c_9 ((zz_lt (nI_toInt (by omega)) ((by decide))).mpr q)
    obtain ⟨sa, hsa⟩ := hT9.2.1 (122, "no more bars") (by decide)
    exact vx_throwS (cls := "java/lang/IllegalStateException") (names := ["java/lang/RuntimeException", "java/lang/Exception"]) (ik := 51) (is := 122) (ic := 55) hx hb hl9 hown (by decide) (by decide) (hz _ tw_220) (hz _ tw_24) hsa (zhat_ISE hz hT9) zgd_ISE hU9 hN9 hS (hl.1.trans hml.symm) d_Cut_bar_12 d_Cut_bar_15 d_Cut_bar_16 d_Cut_bar_18 d_Cut_bar_21 (fun x hx9 => (hno x hx9).elim) (Nat.le_of_ble_eq_true rfl) (Nat.le_of_ble_eq_true rfl) (Nat.le_of_ble_eq_true rfl) (Nat.le_of_ble_eq_true rfl) hlocks (fun t9 ha hz9 hk9 => ⟨(), trivial, ⟨Or.inl ⟨rfl, (by unfold k_bad; rw [if_pos (by omega)])⟩, hP.kept (fun k q hk => hk9 q.1 (vx_lt hP hk)), va_K.moved ha hK, hD⟩, ⟨hz9, fun q h1 _ => hk9 q h1⟩⟩) hS.2.2 (Nat.le_of_ble_eq_true rfl) (Nat.le_of_ble_eq_true rfl)
