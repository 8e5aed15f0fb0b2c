/-! THE PUBLIC METHODS of the class, second part (rows written by wip/whole/mk_class.py) -/
set_option maxHeartbeats 4000000 in
set_option maxRecDepth 100000 in
theorem c_Cut_loss (l : Launch) (dC : Nat → ClassId) (dI : Nat → Nat → Nat) (a : Nat → Nat) (cI cZ : ClassId) (v : Nat → Nat) (f : Nat → Nat → Nat) (w : Nat → Nat → Int32) (sz : Nat) (hI : zI v f) (hC : v 2 = 0 → zCP v f (f 4) (f 5) (w 0)) : Met l y_Cut_loss (zw_Cut_loss :: zW) ({ frames := 4, cells := 0, slots := 0, locals := 104 }) (va_Pc [.ref (a 0)] (fun U => U.heap.size = sz ∧ va_P (dC, dI) vwCl (wC a cI cZ v f w) U.heap ∧ va_K (dC, dI) vwCl [(cI, .int), (cZ, .boolean)] U ∧ va_D (fun _ => True) (wC a cI cZ v f w))) (va_Qi (fun (r : Int32) (u : (Nat → Nat) × (Nat → Nat) × (Nat → Int32)) => zCP v f u.1 u.2.1 u.2.2 ∧ r = nI (u.1 (v 4))) (fun (u : (Nat → Nat) × (Nat → Nat) × (Nat → Int32)) t => match u with | (L, S, F) => va_P (dC, dI) vwCl (wC a cI cZ (zu v 2 (0)) (zu (zu f 4 (L)) 5 (S)) (zu w 0 (F))) t.heap ∧ va_K (dC, dI) vwCl [(cI, .int), (cZ, .boolean)] t ∧ va_D (va_A (wC a cI cZ v f w) sz) (wC a cI cZ (zu v 2 (0)) (zu (zu f 4 (L)) 5 (S)) (zu w 0 (F)))) (va_A (wC a cI cZ v f w) sz)) 0 0 (va_A (wC a cI cZ v f w) sz) := by
  refine Met.ofW (cc := prog_1_method_9_code) (maxL := 1) (ret := (some .int)) (by decide) rfl ?_
  intro p e s m args below meth c s₁ B hml hv
  obtain ⟨rfl, hsz, hP, hK, hD0⟩ := hv
  have hx := B.exec
  have hb := B.bytes
  have hr := B.returns
  have hz : ∀ w ∈ zW, w.before ([.ref (a 0)]).toArray s = true := fun w h => atoms_spec (ws := (zw_Cut_loss :: zW)) B.pre w (List.mem_cons_of_mem _ h)
  have hown : s.vm.findClass "CutLengths" = some m.cls := findClass_of_methodNamed B.named
  have hlocks := B.notSynchronized
  subst hsz
  have hD := hD0.self (sz := s.heap.size)
  generalize hAe : va_A (wC a cI cZ v f w) s.heap.size = A at hD ⊢
  have hA : ∀ q : Nat, s.heap.size ≤ q → A q := fun q h => by rw [← hAe]; exact Or.inr h
  have hS : va_S A s.heap s.heap [] := va_S.rf
  have hP : va_P (dC, dI) vwCl (wC a cI cZ v f w) s.heap := hP
  obtain ⟨i3, i4, i5, i6, i7, i8, i9, i10, i2, i0, i1, iw, ib, ic, isl⟩ := id hI
  have hl := lv_entry ([.ref (a 0)]) (n := 1) (Nat.le_of_ble_eq_true rfl)
  rw [lg_entry_eq]
  generalize (lg_sl ([.ref (a 0)]) ++ List.replicate (1 - (lg_sl ([.ref (a 0)])).length) Slot.unset).toArray = ls at hl ⊢
  have hl : lv_has ls 1 [(0, .ref (a 0))] := hl
  refine lv_aload_n hx hb d_Cut_loss_0 rfl (lv_at hl 0 rfl) ?_
  have hFc := va_free (wc := (wC a cI cZ v f w)) hD hS hA [0, 1, 2, 3, 4, 5, 6, 7, 8, 9, 10, 11, 12, 13, 14] rfl
  refine va_callv (va_runV (As := []) (rest := []) ⟨hx, hb, hml, hown, hz⟩ (c_Cut_renewPlan l dC dI a cI cZ v f w (s.heap).size hI hC) (cwV (C := "CutLengths") 0 hz (zgV tw_168 tw_170 tw_0 tw_15 tw_171) rfl rfl rfl (by decide +kernel) ⟨Nat.le_of_ble_eq_true rfl, Nat.le_of_ble_eq_true rfl⟩) ⟨(fun a U g mk q => by obtain ⟨q0, q1, qP, qK, qD⟩ := q; exact ⟨q0, q1, qP, va_K.moved (u := U) (U := U.calling g mk a) (Vm.Alike.refl U.vm) qK, qD⟩), va_recv hK hP (ci := 0) (q0 := 0) rfl rfl, fun U hU hW => ⟨rfl, by rw [hU], by rw [hU]; exact hP, va_K.moved hW.alike hK, hD.weaken (fun _ _ _ _ => trivial)⟩⟩ rfl rfl hl.1 rfl (lv_room (Nat.le_of_ble_eq_true rfl)) d_Cut_loss_1 ⟨Nat.zero_le _, Nat.zero_le _⟩) hS (fun q _ h => hFc q h) hFc (fun u9 t9 H1 locs ht hvm hw hB hz1 hk1 hS => ?_)
  obtain ⟨L_1, S_1, F_1⟩ := u9
  obtain ⟨hP1, hK1, hD1⟩ := hB
  rw [ht] at hP1
  obtain ⟨hP, hD⟩ := va_join (wr := []) (w1 := (wC a cI cZ (zu v 2 (0)) (zu (zu f 4 (L_1)) 5 (S_1)) (zu w 0 (F_1)))) hP hD [0, 1, 2, 3, 4, 5, 6, 7, 8, 9, 10, 11, 12, 13, 14] [] rfl rfl (by decide) (by decide) hk1 hFc hP1 hD1
  generalize H1 = H at hP hS ⊢
  have hP : va_P (dC, dI) vwCl (wC a cI cZ (zu v 2 (0)) (zu (zu f 4 (L_1)) 5 (S_1)) (zu w 0 (F_1))) H := hP
  have hD : va_D A (wC a cI cZ (zu v 2 (0)) (zu (zu f 4 (L_1)) 5 (S_1)) (zu w 0 (F_1))) := hD
  refine lv_aload_n hx hb d_Cut_loss_4 rfl (lv_at hl 0 rfl) ?_
  refine va_get (D := (dC, dI)) (ci := 0) (v := .ref (a 7)) (C := "CutLengths") (T := T_Cut) (N := 7) hx hb hz i_Cut hown hK hP 0 rfl rfl 2 (by decide) (hz _ tw_144) (fun _ h9 => h9) rfl d_Cut_loss_5 ?_
  refine va_get (D := (dC, dI)) (ci := 3) (v := .ref (a 8)) (C := "CutLengths$Plan") (T := T_Plan) (N := 3) hx hb hz i_Plan hown hK hP 7 rfl rfl 0 (by decide) (hz _ tw_107) (fun _ h9 => h9) rfl d_Cut_loss_8 ?_
  refine lv_aload_n hx hb d_Cut_loss_11 rfl (lv_at hl 0 rfl) ?_
  refine va_get (D := (dC, dI)) (ci := 0) (v := .ref (a 1)) (C := "CutLengths") (T := T_Cut) (N := 7) hx hb hz i_Cut hown hK hP 0 rfl rfl 0 (by decide) (hz _ tw_142) (fun _ h9 => h9) rfl d_Cut_loss_12 ?_
  refine va_get (D := (dC, dI)) (ci := 1) (v := .int (nI (v 4))) (C := "CutLengths$Strand") (T := T_Strand) (N := 8) hx hb hz i_Strand hown hK hP 1 rfl rfl 1 (by decide) (hz _ tw_48) (fun _ h9 => h9) rfl d_Cut_loss_15 ?_
  refine zz_nald hx hb hK hP 8 0 (f := L_1) (i := v 4) rfl rfl (by omega) (by decide) d_Cut_loss_18 ?_
  exact W.iret (v := nI ((L_1) (v 4))) hx hb hr (fun t9 ht hW => ⟨⟨nI ((L_1) (v 4)), (L_1, S_1, F_1), rfl, ⟨hw, rfl⟩, by rw [ht]; exact hP, va_K.moved hW.alike hK, hD⟩, hS.F ht⟩) hS.2.2 d_Cut_loss_19
set_option maxHeartbeats 4000000 in
set_option maxRecDepth 100000 in
theorem c_Cut_part (l : Launch) (hl9 : l.stackTraces = false) (dC : Nat → ClassId) (dI : Nat → Nat → Nat) (a : Nat → Nat) (cI cZ : ClassId) (v : Nat → Nat) (f : Nat → Nat → Nat) (w : Nat → Nat → Int32) (sz : Nat) (p0 : Int32) (z0 : Int) (h0 : p0.toInt = z0) (p1 : Int32) (z1 : Int) (h1 : p1.toInt = z1) (hI : zI v f) (hC : v 2 = 0 → zCP v f (f 4) (f 5) (w 0)) : vx_Met l y_Cut_part (zw_Cut_part :: zW) ({ frames := 6, cells := 1, slots := 6, locals := 104 }) (va_Pc [.ref (a 0), .int (p0), .int (p1)] (fun U => U.heap.size = sz ∧ va_P (dC, dI) vwCl (wC a cI cZ v f w) U.heap ∧ va_K (dC, dI) vwCl [(cI, .int), (cZ, .boolean)] U ∧ va_D (fun _ => True) (wC a cI cZ v f w) ∧ zX (va_A (wC a cI cZ v f w) sz) U U.heap)) (va_Qi (fun (r : Int32) (u : (Nat → Nat) × (Nat → Nat) × (Nat → Int32)) => k_part z0 z1 = 0 ∧ zCP v f u.1 u.2.1 u.2.2 ∧ r = zpart (v 3) (v 4) u.2.1 u.2.2 z0.toNat z1) (fun (u : (Nat → Nat) × (Nat → Nat) × (Nat → Int32)) t => match u with | (L, S, F) => va_P (dC, dI) vwCl (wC a cI cZ (zu v 2 (0)) (zu (zu f 4 (L)) 5 (S)) (zu w 0 (F))) t.heap ∧ va_K (dC, dI) vwCl [(cI, .int), (cZ, .boolean)] t ∧ va_D (va_A (wC a cI cZ v f w) sz) (wC a cI cZ (zu v 2 (0)) (zu (zu f 4 (L)) 5 (S)) (zu w 0 (F)))) (va_A (wC a cI cZ v f w) sz)) (vx_X (fun _ : Unit => True) (fun E _ t => ((E = "java/lang/IndexOutOfBoundsException" ∧ k_part z0 z1 = 1)) ∧ va_P (dC, dI) vwCl (wC a cI cZ v f w) t.heap ∧ va_K (dC, dI) vwCl [(cI, .int), (cZ, .boolean)] t ∧ va_D (va_A (wC a cI cZ v f w) sz) (wC a cI cZ v f w)) (va_A (wC a cI cZ v f w) sz)) 1 6 (va_A (wC a cI cZ v f w) sz) := by
  refine vx_ofW (cc := prog_1_method_10_code) (maxL := 4) (ret := (some .int)) (by decide) rfl ?_
  intro p e s m args below meth c s₁ B hml hno hv
  obtain ⟨rfl, hsz, hP, hK, hD0, hX9⟩ := hv
  have hx := B.exec
  have hb := B.bytes
  have hr := B.returns
  have hz : ∀ w ∈ zW, w.before ([.ref (a 0), .int (p0), .int (p1)]).toArray s = true := fun w h => atoms_spec (ws := (zw_Cut_part :: zW)) B.pre w (List.mem_cons_of_mem _ h)
  have hown : s.vm.findClass "CutLengths" = some m.cls := findClass_of_methodNamed B.named
  have hlocks := B.notSynchronized
  subst hsz
  have hD := hD0.self (sz := s.heap.size)
  generalize hAe : va_A (wC a cI cZ v f w) s.heap.size = A at hD hX9 ⊢
  have hA : ∀ q : Nat, s.heap.size ≤ q → A q := fun q h => by rw [← hAe]; exact Or.inr h
  have hS : va_S A s.heap s.heap [] := va_S.rf
  have hP : va_P (dC, dI) vwCl (wC a cI cZ v f w) s.heap := hP
  obtain ⟨hU9, hN9, hT9⟩ := hX9
  obtain ⟨i3, i4, i5, i6, i7, i8, i9, i10, i2, i0, i1, iw, ib, ic, isl⟩ := id hI
  have hl := lv_entry ([.ref (a 0), .int (p0), .int (p1)]) (n := 4) (Nat.le_of_ble_eq_true rfl)
  rw [lg_entry_eq]
  generalize (lg_sl ([.ref (a 0), .int (p0), .int (p1)]) ++ List.replicate (4 - (lg_sl ([.ref (a 0), .int (p0), .int (p1)])).length) Slot.unset).toArray = ls at hl ⊢
  have hl : lv_has ls 4 [(0, .ref (a 0)), (1, .int (p0)), (2, .int (p1))] := hl
  refine lv_iload_n hx hb d_Cut_part_0 rfl (lv_at hl 1 rfl) ?_
  refine lv_if_lt (tgt := 11) hx hb d_Cut_part_1 (by decide) (fun c_1 => ?_) (fun c_1 => ?_)
  · have c_1 : z0 < (0 : Int) := (zz_lt (h0) ((by decide))).mp c_1
    obtain ⟨sa, hsa⟩ := hT9.2.1 (143, "no such part or what") (by decide)
    exact vx_throwS (cls := "java/lang/IndexOutOfBoundsException") (names := ["java/lang/RuntimeException", "java/lang/Exception"]) (ik := 92) (is := 143) (ic := 96) hx hb hl9 hown (by decide) (by decide) (hz _ tw_359) (hz _ tw_27) hsa (zhat_IOB hz hT9) zgd_IOB hU9 hN9 hS (hl.1.trans hml.symm) d_Cut_part_11 d_Cut_part_14 d_Cut_part_15 d_Cut_part_17 d_Cut_part_20 (fun x hx9 => (hno x hx9).elim) (Nat.le_of_ble_eq_true rfl) (Nat.le_of_ble_eq_true rfl) (Nat.le_of_ble_eq_true rfl) (Nat.le_of_ble_eq_true rfl) hlocks (fun t9 ha hz9 hk9 => ⟨(), trivial, ⟨⟨rfl, (by unfold k_part; rw [if_pos (by omega)])⟩, hP.kept (fun k q hk => hk9 q.1 (vx_lt hP hk)), va_K.moved ha hK, hD⟩, ⟨hz9, fun q h1 _ => hk9 q h1⟩⟩) hS.2.2 (Nat.le_of_ble_eq_true rfl) (Nat.le_of_ble_eq_true rfl)
  · have c_1 : ¬ (z0 < (0 : Int)) := fun q => c_1 ((zz_lt (h0) ((by decide))).mpr q)
    refine lv_iload_n hx hb d_Cut_part_4 rfl (lv_at hl 2 rfl) ?_
    refine zz_ro (va_runS (As := [.int (p1)]) (rest := []) ⟨hx, hb, hml, hown, hz⟩ (c_Cut_isWhat l (p1) (z1) (h1)) (va_cwS 1 hz (zgS tw_419 tw_420 tw_15 tw_421) rfl rfl rfl (by decide +kernel) ⟨Nat.le_of_ble_eq_true rfl, Nat.le_of_ble_eq_true rfl⟩) ⟨fun _ _ _ _ q => q, fun U hU hW => ⟨rfl, trivial⟩⟩ rfl rfl hl.1 rfl (lv_room (Nat.le_of_ble_eq_true rfl)) d_Cut_part_5 ⟨Nat.zero_le _, Nat.zero_le _⟩) ?_
    by_cases q_5 : 0 ≤ (z1) ∧ (z1) ≤ 2
    · refine zz_top (congrArg nI (if_pos q_5)) ?_
      refine lv_if_ne (tgt := 21) hx hb d_Cut_part_8 (by decide) (fun _ => ?_) (fun c9 => absurd c9 (by decide))
      have hz31 : z0 < 2 ^ 31 := by rw [← h0]; exact Int32.toInt_lt p0
      refine lv_aload_n hx hb d_Cut_part_21 rfl (lv_at hl 0 rfl) ?_
      have hFc := va_free (wc := (wC a cI cZ v f w)) hD hS hA [0, 1, 2, 3, 4, 5, 6, 7, 8, 9, 10, 11, 12, 13, 14] rfl
      refine va_callv (va_runV (As := []) (rest := []) ⟨hx, hb, hml, hown, hz⟩ (c_Cut_renewPlan l dC dI a cI cZ v f w (s.heap).size hI hC) (cwV (C := "CutLengths") 0 hz (zgV tw_168 tw_170 tw_0 tw_15 tw_171) rfl rfl rfl (by decide +kernel) ⟨Nat.le_of_ble_eq_true rfl, Nat.le_of_ble_eq_true rfl⟩) ⟨(fun a U g mk q => by obtain ⟨q0, q1, qP, qK, qD⟩ := q; exact ⟨q0, q1, qP, va_K.moved (u := U) (U := U.calling g mk a) (Vm.Alike.refl U.vm) qK, qD⟩), va_recv hK hP (ci := 0) (q0 := 0) rfl rfl, fun U hU hW => ⟨rfl, by rw [hU], by rw [hU]; exact hP, va_K.moved hW.alike hK, hD.weaken (fun _ _ _ _ => trivial)⟩⟩ rfl rfl hl.1 rfl (lv_room (Nat.le_of_ble_eq_true rfl)) d_Cut_part_22 ⟨Nat.zero_le _, Nat.zero_le _⟩) hS (fun q _ h => hFc q h) hFc (fun u9 t9 H1 locs ht hvm hw hB hz1 hk1 hS => ?_)
      obtain ⟨L_22, S_22, F_22⟩ := u9
      obtain ⟨hP1, hK1, hD1⟩ := hB
      rw [ht] at hP1
      obtain ⟨hP, hD⟩ := va_join (wr := []) (w1 := (wC a cI cZ (zu v 2 (0)) (zu (zu f 4 (L_22)) 5 (S_22)) (zu w 0 (F_22)))) hP hD [0, 1, 2, 3, 4, 5, 6, 7, 8, 9, 10, 11, 12, 13, 14] [] rfl rfl (by decide) (by decide) hk1 hFc hP1 hD1
      generalize H1 = H at hP hS ⊢
      have hP : va_P (dC, dI) vwCl (wC a cI cZ (zu v 2 (0)) (zu (zu f 4 (L_22)) 5 (S_22)) (zu w 0 (F_22))) H := hP
      have hD : va_D A (wC a cI cZ (zu v 2 (0)) (zu (zu f 4 (L_22)) 5 (S_22)) (zu w 0 (F_22))) := hD
      have hcp : zCP v f L_22 S_22 F_22 := hw
      have hI : zI (zu v 2 0) f := ⟨i3, i4, i5, i6, i7, i8, i9, i10, Nat.zero_le _, i0, i1, iw, ib, ic, isl⟩
      have hE : ∀ p, v 4 ≤ p → p < v 3 → p < p + S_22 p ∧ p + S_22 p ≤ v 3 := fun p h1 h2 => zCP_E (v := v) (f := f) ⟨i3, i4, i5, i6, i7, i8, i9, i10, i2, i0, i1, iw, ib, ic, isl⟩ hcp _ p rfl h1 h2
      refine lv_aload_n hx hb d_Cut_part_25 rfl (lv_at hl 0 rfl) ?_
      refine va_get (D := (dC, dI)) (ci := 0) (v := .ref (a 7)) (C := "CutLengths") (T := T_Cut) (N := 7) hx hb hz i_Cut hown hK hP 0 rfl rfl 2 (by decide) (hz _ tw_144) (fun _ h9 => h9) rfl d_Cut_part_26 ?_
      refine lv_iload_n hx hb d_Cut_part_29 rfl (lv_at hl 1 rfl) ?_
      refine zz_top (zz_nat h0 (by omega)) ?_
      refine lv_aload_n hx hb d_Cut_part_30 rfl (lv_at hl 0 rfl) ?_
      refine va_get (D := (dC, dI)) (ci := 0) (v := .ref (a 1)) (C := "CutLengths") (T := T_Cut) (N := 7) hx hb hz i_Cut hown hK hP 0 rfl rfl 0 (by decide) (hz _ tw_142) (fun _ h9 => h9) rfl d_Cut_part_31 ?_
      refine zz_ro (va_runV (As := [.int (nI (z0.toNat)), .ref (a 1)]) (rest := []) ⟨hx, hb, hml, hown, hz⟩ (c_Plan_beginOfPart l dC dI a cI cZ (zu v 2 (0)) (zu (zu f 4 (L_22)) 5 (S_22)) (zu w 0 (F_22)) (z0.toNat) (by omega) hI hE) (cwV (C := "CutLengths$Plan") 2 hz (zgV tw_423 tw_424 tw_425 tw_18 tw_426) rfl rfl rfl (by decide +kernel) ⟨Nat.le_of_ble_eq_true rfl, Nat.le_of_ble_eq_true rfl⟩) ⟨(fun a U g mk q => ⟨q.1, q.2.1, va_K.moved (u := U) (U := U.calling g mk a) (Vm.Alike.refl U.vm) q.2.2⟩), va_recv hK hP (ci := 3) (q0 := 7) rfl rfl, fun U hU hW => ⟨rfl, by rw [hU]; exact hP, va_K.moved hW.alike hK⟩⟩ rfl rfl hl.1 rfl (lv_room (Nat.le_of_ble_eq_true rfl)) d_Cut_part_34 ⟨Nat.zero_le _, Nat.zero_le _⟩) ?_
      obtain ⟨X, hX⟩ : ∃ X, X = zit (fun p => p + S_22 p) (v 3) (min z0.toNat 300) (v 4) := ⟨_, rfl⟩
      refine zz_top (congrArg nI hX.symm) ?_
      have hXi := zit_in hE (min z0.toNat 300) (v 4) (Nat.le_refl _) i4
      rw [← hX] at hXi
      refine lv_istore_n (lv' := [(3, .int (nI (X))), (0, .ref (a 0)), (1, .int (p0)), (2, .int (p1))]) hx hb d_Cut_part_37 rfl hl (by decide) rfl (fun ls hl => ?_)
      refine lv_iload_n hx hb d_Cut_part_38 rfl (lv_at hl 0 rfl) ?_
      refine lv_aload_n hx hb d_Cut_part_39 rfl (lv_at hl 1 rfl) ?_
      refine va_get (D := (dC, dI)) (ci := 0) (v := .ref (a 1)) (C := "CutLengths") (T := T_Cut) (N := 7) hx hb hz i_Cut hown hK hP 0 rfl rfl 0 (by decide) (hz _ tw_142) (fun _ h9 => h9) rfl d_Cut_part_40 ?_
      refine va_get (D := (dC, dI)) (ci := 1) (v := .int (nI (v 3))) (C := "CutLengths$Strand") (T := T_Strand) (N := 8) hx hb hz i_Strand hown hK hP 1 rfl rfl 0 (by decide) (hz _ tw_45) (fun _ h9 => h9) rfl d_Cut_part_43 ?_
      refine lv_icmp_lt (tgt := 52) hx hb d_Cut_part_46 (by decide) (fun c_46 => ?_) (fun c_46 => ?_)
      · have c_46 : ((X : Nat) : Int) < ((v 3 : Nat) : Int) := (zz_lt (nI_toInt (by omega)) (nI_toInt (by omega))).mp c_46
        refine lv_iload_n hx hb d_Cut_part_52 rfl (lv_at hl 3 rfl) ?_
        refine lv_aload_n hx hb d_Cut_part_53 rfl (lv_at hl 1 rfl) ?_
        refine va_get (D := (dC, dI)) (ci := 0) (v := .ref (a 7)) (C := "CutLengths") (T := T_Cut) (N := 7) hx hb hz i_Cut hown hK hP 0 rfl rfl 2 (by decide) (hz _ tw_144) (fun _ h9 => h9) rfl d_Cut_part_54 ?_
        refine va_get (D := (dC, dI)) (ci := 3) (v := .ref (a 9)) (C := "CutLengths$Plan") (T := T_Plan) (N := 3) hx hb hz i_Plan hown hK hP 7 rfl rfl 1 (by decide) (hz _ tw_109) (fun _ h9 => h9) rfl d_Cut_part_57 ?_
        refine lv_iload_n hx hb d_Cut_part_60 rfl (lv_at hl 0 rfl) ?_
        refine zz_iald hx hb hK hP 9 0 (f := F_22) (i := X) rfl rfl (by omega) (by decide) d_Cut_part_61 ?_
        refine lv_iload_n hx hb d_Cut_part_62 rfl (lv_at hl 0 rfl) ?_
        refine lv_aload_n hx hb d_Cut_part_63 rfl (lv_at hl 1 rfl) ?_
        refine va_get (D := (dC, dI)) (ci := 0) (v := .ref (a 7)) (C := "CutLengths") (T := T_Cut) (N := 7) hx hb hz i_Cut hown hK hP 0 rfl rfl 2 (by decide) (hz _ tw_144) (fun _ h9 => h9) rfl d_Cut_part_64 ?_
        refine va_get (D := (dC, dI)) (ci := 3) (v := .ref (a 10)) (C := "CutLengths$Plan") (T := T_Plan) (N := 3) hx hb hz i_Plan hown hK hP 7 rfl rfl 2 (by decide) (hz _ tw_111) (fun _ h9 => h9) rfl d_Cut_part_67 ?_
        refine lv_iload_n hx hb d_Cut_part_70 rfl (lv_at hl 0 rfl) ?_
        refine zz_nald hx hb hK hP 10 0 (f := S_22) (i := X) rfl rfl (by omega) (by decide) d_Cut_part_71 ?_
        refine zz_ro (va_runS (As := [.int (p1), .int ((F_22) X), .int (nI (X)), .int (nI ((S_22) X))]) (rest := []) ⟨hx, hb, hml, hown, hz⟩ (c_Cut_pick l (p1) ((F_22) X) (nI (X)) (nI ((S_22) X)) (z1) (h1)) (va_cwS 4 hz (zgS tw_427 tw_428 tw_15 tw_429) rfl rfl rfl (by decide +kernel) ⟨Nat.le_of_ble_eq_true rfl, Nat.le_of_ble_eq_true rfl⟩) ⟨fun _ _ _ _ q => q, fun U hU hW => ⟨rfl, trivial⟩⟩ rfl rfl hl.1 rfl (lv_room (Nat.le_of_ble_eq_true rfl)) d_Cut_part_72 ⟨Nat.zero_le _, Nat.zero_le _⟩) ?_
        refine W.widen (k := 1) (n := 6) (Nat.le_of_ble_eq_true rfl) (Nat.le_of_ble_eq_true rfl) ?_
        refine vx_ret ?_
        exact W.iret (v := (if (z1) = 0 then (F_22) X else if (z1) = 1 then nI (X) else nI ((S_22) X))) hx hb hr (fun t9 ht hW => ⟨⟨(if (z1) = 0 then (F_22) X else if (z1) = 1 then nI (X) else nI ((S_22) X)), (L_22, S_22, F_22), rfl, ⟨(by unfold k_part; rw [if_neg (by omega)]), hcp, by unfold zpart; rw [← hX, if_pos (show X < v 3 from by omega)]⟩, by rw [ht]; exact hP, va_K.moved hW.alike hK, hD⟩, hS.F ht⟩) hS.2.2 d_Cut_part_75
      · have c_46 : ¬ (((X : Nat) : Int) < ((v 3 : Nat) : Int)) := fun q => c_46 ((zz_lt (nI_toInt (by omega)) (nI_toInt (by omega))).mpr q)
        refine lv_bipush (v := -2) hx hb d_Cut_part_49 (by decide) ?_
        refine W.widen (k := 1) (n := 6) (Nat.le_of_ble_eq_true rfl) (Nat.le_of_ble_eq_true rfl) ?_
        refine vx_ret ?_
        exact W.iret (v := -2) hx hb hr (fun t9 ht hW => ⟨⟨-2, (L_22, S_22, F_22), rfl, ⟨(by unfold k_part; rw [if_neg (by omega)]), hcp, by unfold zpart; rw [← hX, if_neg (show ¬ X < v 3 from by omega)]⟩, by rw [ht]; exact hP, va_K.moved hW.alike hK, hD⟩, hS.F ht⟩) hS.2.2 d_Cut_part_51
    · refine zz_top (congrArg nI (if_neg q_5)) ?_
      refine lv_if_ne (tgt := 21) hx hb d_Cut_part_8 (by decide) (fun c9 => absurd c9 (by decide)) (fun _ => ?_)
      obtain ⟨sa, hsa⟩ := hT9.2.1 (143, "no such part or what") (by decide)
      exact vx_throwS (cls := "java/lang/IndexOutOfBoundsException") (names := ["java/lang/RuntimeException", "java/lang/Exception"]) (ik := 92) (is := 143) (ic := 96) hx hb hl9 hown (by decide) (by decide) (hz _ tw_359) (hz _ tw_27) hsa (zhat_IOB hz hT9) zgd_IOB hU9 hN9 hS (hl.1.trans hml.symm) d_Cut_part_11 d_Cut_part_14 d_Cut_part_15 d_Cut_part_17 d_Cut_part_20 (fun x hx9 => (hno x hx9).elim) (Nat.le_of_ble_eq_true rfl) (Nat.le_of_ble_eq_true rfl) (Nat.le_of_ble_eq_true rfl) (Nat.le_of_ble_eq_true rfl) hlocks (fun t9 ha hz9 hk9 => ⟨(), trivial, ⟨⟨rfl, (by unfold k_part; rw [if_pos (by omega)])⟩, hP.kept (fun k q hk => hk9 q.1 (vx_lt hP hk)), va_K.moved ha hK, hD⟩, ⟨hz9, fun q h1 _ => hk9 q h1⟩⟩) hS.2.2 (Nat.le_of_ble_eq_true rfl) (Nat.le_of_ble_eq_true rfl)
set_option maxHeartbeats 4000000 in
set_option maxRecDepth 100000 in
theorem c_Cut_cut (l : Launch) (hl9 : l.stackTraces = false) (dC : Nat → ClassId) (dI : Nat → Nat → Nat) (a : Nat → Nat) (cI cZ : ClassId) (v : Nat → Nat) (f : Nat → Nat → Nat) (w : Nat → Nat → Int32) (sz : Nat)  (hI : zI v f) (hC : v 2 = 0 → zCP v f (f 4) (f 5) (w 0)) : vx_Met l y_Cut_cut (zw_Cut_cut :: zW) ({ frames := 6, cells := 1, slots := 6, locals := 104 }) (va_Pc [.ref (a 0)] (fun U => U.heap.size = sz ∧ va_P (dC, dI) vwCl (wC a cI cZ v f w) U.heap ∧ va_K (dC, dI) vwCl [(cI, .int), (cZ, .boolean)] U ∧ va_D (fun _ => True) (wC a cI cZ v f w) ∧ zX (va_A (wC a cI cZ v f w) sz) U U.heap)) (va_Qi (fun (r : Int32) (u : (Nat → Nat) × (Nat → Nat) × (Nat → Int32)) => k_cut (v 4) (v 3) (v 10) = 0 ∧ zCP v f u.1 u.2.1 u.2.2 ∧ r = nI (v 10)) (fun (u : (Nat → Nat) × (Nat → Nat) × (Nat → Int32)) t => match u with | (L, S, F) => va_P (dC, dI) vwCl (wC a cI cZ (zu (zu (zu v 2 (0)) 10 (v 10 + 1)) 4 (v 4 + S (v 4))) (zu (zu (zu (zu f 4 (L)) 5 (S)) 6 (va_up (f 6) (v 10) (v 4))) 7 (va_up (f 7) (v 10) (S (v 4)))) (zu (zu w 0 (F)) 1 (va_up (w 1) (v 10) (F (v 4))))) t.heap ∧ va_K (dC, dI) vwCl [(cI, .int), (cZ, .boolean)] t ∧ va_D (va_A (wC a cI cZ v f w) sz) (wC a cI cZ (zu (zu (zu v 2 (0)) 10 (v 10 + 1)) 4 (v 4 + S (v 4))) (zu (zu (zu (zu f 4 (L)) 5 (S)) 6 (va_up (f 6) (v 10) (v 4))) 7 (va_up (f 7) (v 10) (S (v 4)))) (zu (zu w 0 (F)) 1 (va_up (w 1) (v 10) (F (v 4)))))) (va_A (wC a cI cZ v f w) sz)) (vx_X (fun _ : Unit => True) (fun E _ t => ((E = "java/lang/IllegalStateException" ∧ k_cut (v 4) (v 3) (v 10) = 1) ∨ (E = "java/lang/UnsupportedOperationException" ∧ k_cut (v 4) (v 3) (v 10) = 2)) ∧ va_P (dC, dI) vwCl (wC a cI cZ v f w) t.heap ∧ va_K (dC, dI) vwCl [(cI, .int), (cZ, .boolean)] t ∧ va_D (va_A (wC a cI cZ v f w) sz) (wC a cI cZ v f w)) (va_A (wC a cI cZ v f w) sz)) 1 6 (va_A (wC a cI cZ v f w) sz) := by
  refine vx_ofW (cc := prog_1_method_11_code) (maxL := 3) (ret := (some .int)) (by decide) rfl ?_
  intro p e s m args below meth c s₁ B hml hno hv
  obtain ⟨rfl, hsz, hP, hK, hD0, hX9⟩ := hv
  have hx := B.exec
  have hb := B.bytes
  have hr := B.returns
  have hz : ∀ w ∈ zW, w.before ([.ref (a 0)]).toArray s = true := fun w h => atoms_spec (ws := (zw_Cut_cut :: zW)) B.pre w (List.mem_cons_of_mem _ h)
  have hown : s.vm.findClass "CutLengths" = some m.cls := findClass_of_methodNamed B.named
  have hlocks := B.notSynchronized
  subst hsz
  have hD := hD0.self (sz := s.heap.size)
  generalize hAe : va_A (wC a cI cZ v f w) s.heap.size = A at hD hX9 ⊢
  have hA : ∀ q : Nat, s.heap.size ≤ q → A q := fun q h => by rw [← hAe]; exact Or.inr h
  have hS : va_S A s.heap s.heap [] := va_S.rf
  have hP : va_P (dC, dI) vwCl (wC a cI cZ v f w) s.heap := hP
  obtain ⟨hU9, hN9, hT9⟩ := hX9
  obtain ⟨i3, i4, i5, i6, i7, i8, i9, i10, i2, i0, i1, iw, ib, ic, isl⟩ := id hI
  have hl := lv_entry ([.ref (a 0)]) (n := 3) (Nat.le_of_ble_eq_true rfl)
  rw [lg_entry_eq]
  generalize (lg_sl ([.ref (a 0)]) ++ List.replicate (3 - (lg_sl ([.ref (a 0)])).length) Slot.unset).toArray = ls at hl ⊢
  have hl : lv_has ls 3 [(0, .ref (a 0))] := hl
  refine lv_aload_n hx hb d_Cut_cut_0 rfl (lv_at hl 0 rfl) ?_
  refine va_get (D := (dC, dI)) (ci := 0) (v := .ref (a 1)) (C := "CutLengths") (T := T_Cut) (N := 7) hx hb hz i_Cut hown hK hP 0 rfl rfl 0 (by decide) (hz _ tw_142) (fun _ h9 => h9) rfl d_Cut_cut_1 ?_
  refine va_get (D := (dC, dI)) (ci := 1) (v := .int (nI (v 4))) (C := "CutLengths$Strand") (T := T_Strand) (N := 8) hx hb hz i_Strand hown hK hP 1 rfl rfl 1 (by decide) (hz _ tw_48) (fun _ h9 => h9) rfl d_Cut_cut_4 ?_
  refine lv_aload_n hx hb d_Cut_cut_7 rfl (lv_at hl 0 rfl) ?_
  refine va_get (D := (dC, dI)) (ci := 0) (v := .ref (a 1)) (C := "CutLengths") (T := T_Cut) (N := 7) hx hb hz i_Cut hown hK hP 0 rfl rfl 0 (by decide) (hz _ tw_142) (fun _ h9 => h9) rfl d_Cut_cut_8 ?_
  refine va_get (D := (dC, dI)) (ci := 1) (v := .int (nI (v 3))) (C := "CutLengths$Strand") (T := T_Strand) (N := 8) hx hb hz i_Strand hown hK hP 1 rfl rfl 0 (by decide) (hz _ tw_45) (fun _ h9 => h9) rfl d_Cut_cut_11 ?_
  refine lv_icmp_lt (tgt := 27) hx hb d_Cut_cut_14 (by decide) (fun c_14 => ?_) (fun c_14 => ?_)
  · have c_14 : ((v 4 : Nat) : Int) < ((v 3 : Nat) : Int) := (zz_lt (nI_toInt (by omega)) (nI_toInt (by omega))).mp c_14
    refine lv_aload_n hx hb d_Cut_cut_27 rfl (lv_at hl 0 rfl) ?_
    refine va_get (D := (dC, dI)) (ci := 0) (v := .ref (a 11)) (C := "CutLengths") (T := T_Cut) (N := 7) hx hb hz i_Cut hown hK hP 0 rfl rfl 3 (by decide) (hz _ tw_145) (fun _ h9 => h9) rfl d_Cut_cut_28 ?_
    refine va_get (D := (dC, dI)) (ci := 4) (v := .int (nI (v 10))) (C := "CutLengths$Slabs") (T := T_Slabs) (N := 4) hx hb hz i_Slabs hown hK hP 11 rfl rfl 0 (by decide) (hz _ tw_126) (fun _ h9 => h9) rfl d_Cut_cut_31 ?_
    refine lv_bipush (v := nI (100)) hx hb d_Cut_cut_34 (by decide) ?_
    refine lv_icmp_lt (tgt := 49) hx hb d_Cut_cut_36 (by decide) (fun c_36 => ?_) (fun c_36 => ?_)
    · have c_36 : ((v 10 : Nat) : Int) < (100 : Int) := (zz_lt (nI_toInt (by omega)) ((by decide))).mp c_36
      refine lv_aload_n hx hb d_Cut_cut_49 rfl (lv_at hl 0 rfl) ?_
      have hFc := va_free (wc := (wC a cI cZ v f w)) hD hS hA [0, 1, 2, 3, 4, 5, 6, 7, 8, 9, 10, 11, 12, 13, 14] rfl
      refine va_callv (va_runV (As := []) (rest := []) ⟨hx, hb, hml, hown, hz⟩ (c_Cut_renewPlan l dC dI a cI cZ v f w (s.heap).size hI hC) (cwV (C := "CutLengths") 0 hz (zgV tw_168 tw_170 tw_0 tw_15 tw_171) rfl rfl rfl (by decide +kernel) ⟨Nat.le_of_ble_eq_true rfl, Nat.le_of_ble_eq_true rfl⟩) ⟨(fun a U g mk q => by obtain ⟨q0, q1, qP, qK, qD⟩ := q; exact ⟨q0, q1, qP, va_K.moved (u := U) (U := U.calling g mk a) (Vm.Alike.refl U.vm) qK, qD⟩), va_recv hK hP (ci := 0) (q0 := 0) rfl rfl, fun U hU hW => ⟨rfl, by rw [hU], by rw [hU]; exact hP, va_K.moved hW.alike hK, hD.weaken (fun _ _ _ _ => trivial)⟩⟩ rfl rfl hl.1 rfl (lv_room (Nat.le_of_ble_eq_true rfl)) d_Cut_cut_50 ⟨Nat.zero_le _, Nat.zero_le _⟩) hS (fun q _ h => hFc q h) hFc (fun u9 t9 H1 locs ht hvm hw hB hz1 hk1 hS => ?_)
      obtain ⟨L_50, S_50, F_50⟩ := u9
      obtain ⟨hP1, hK1, hD1⟩ := hB
      rw [ht] at hP1
      obtain ⟨hP, hD⟩ := va_join (wr := []) (w1 := (wC a cI cZ (zu v 2 (0)) (zu (zu f 4 (L_50)) 5 (S_50)) (zu w 0 (F_50)))) hP hD [0, 1, 2, 3, 4, 5, 6, 7, 8, 9, 10, 11, 12, 13, 14] [] rfl rfl (by decide) (by decide) hk1 hFc hP1 hD1
      generalize H1 = H at hP hS ⊢
      have hP : va_P (dC, dI) vwCl (wC a cI cZ (zu v 2 (0)) (zu (zu f 4 (L_50)) 5 (S_50)) (zu w 0 (F_50))) H := hP
      have hD : va_D A (wC a cI cZ (zu v 2 (0)) (zu (zu f 4 (L_50)) 5 (S_50)) (zu w 0 (F_50))) := hD
      have hcp : zCP v f L_50 S_50 F_50 := hw
      have hI : zI (zu v 2 0) f := ⟨i3, i4, i5, i6, i7, i8, i9, i10, Nat.zero_le _, i0, i1, iw, ib, ic, isl⟩
      have hE : ∀ p, v 4 ≤ p → p < v 3 → p < p + S_50 p ∧ p + S_50 p ≤ v 3 := fun p h1 h2 => zCP_E (v := v) (f := f) ⟨i3, i4, i5, i6, i7, i8, i9, i10, i2, i0, i1, iw, ib, ic, isl⟩ hcp _ p rfl h1 h2
      refine lv_aload_n hx hb d_Cut_cut_53 rfl (lv_at hl 0 rfl) ?_
      refine va_get (D := (dC, dI)) (ci := 0) (v := .ref (a 1)) (C := "CutLengths") (T := T_Cut) (N := 7) hx hb hz i_Cut hown hK hP 0 rfl rfl 0 (by decide) (hz _ tw_142) (fun _ h9 => h9) rfl d_Cut_cut_54 ?_
      refine va_get (D := (dC, dI)) (ci := 1) (v := .int (nI (v 4))) (C := "CutLengths$Strand") (T := T_Strand) (N := 8) hx hb hz i_Strand hown hK hP 1 rfl rfl 1 (by decide) (hz _ tw_48) (fun _ h9 => h9) rfl d_Cut_cut_57 ?_
      refine lv_istore_n (lv' := [(1, .int (nI (v 4))), (0, .ref (a 0))]) hx hb d_Cut_cut_60 rfl hl (by decide) rfl (fun ls hl => ?_)
      refine lv_aload_n hx hb d_Cut_cut_61 rfl (lv_at hl 1 rfl) ?_
      refine va_get (D := (dC, dI)) (ci := 0) (v := .ref (a 11)) (C := "CutLengths") (T := T_Cut) (N := 7) hx hb hz i_Cut hown hK hP 0 rfl rfl 3 (by decide) (hz _ tw_145) (fun _ h9 => h9) rfl d_Cut_cut_62 ?_
      refine va_get (D := (dC, dI)) (ci := 4) (v := .int (nI (v 10))) (C := "CutLengths$Slabs") (T := T_Slabs) (N := 4) hx hb hz i_Slabs hown hK hP 11 rfl rfl 0 (by decide) (hz _ tw_126) (fun _ h9 => h9) rfl d_Cut_cut_65 ?_
      refine lv_istore_n (lv' := [(2, .int (nI (v 10))), (1, .int (nI (v 4))), (0, .ref (a 0))]) hx hb d_Cut_cut_68 rfl hl (by decide) rfl (fun ls hl => ?_)
      refine lv_aload_n hx hb d_Cut_cut_69 rfl (lv_at hl 2 rfl) ?_
      refine va_get (D := (dC, dI)) (ci := 0) (v := .ref (a 11)) (C := "CutLengths") (T := T_Cut) (N := 7) hx hb hz i_Cut hown hK hP 0 rfl rfl 3 (by decide) (hz _ tw_145) (fun _ h9 => h9) rfl d_Cut_cut_70 ?_
      refine lv_aload_n hx hb d_Cut_cut_73 rfl (lv_at hl 2 rfl) ?_
      refine va_get (D := (dC, dI)) (ci := 0) (v := .ref (a 7)) (C := "CutLengths") (T := T_Cut) (N := 7) hx hb hz i_Cut hown hK hP 0 rfl rfl 2 (by decide) (hz _ tw_144) (fun _ h9 => h9) rfl d_Cut_cut_74 ?_
      refine va_get (D := (dC, dI)) (ci := 3) (v := .ref (a 9)) (C := "CutLengths$Plan") (T := T_Plan) (N := 3) hx hb hz i_Plan hown hK hP 7 rfl rfl 1 (by decide) (hz _ tw_109) (fun _ h9 => h9) rfl d_Cut_cut_77 ?_
      refine lv_iload_n hx hb d_Cut_cut_80 rfl (lv_at hl 1 rfl) ?_
      refine zz_iald hx hb hK hP 9 0 (f := F_50) (i := v 4) rfl rfl (by omega) (by decide) d_Cut_cut_81 ?_
      refine lv_iload_n hx hb d_Cut_cut_82 rfl (lv_at hl 1 rfl) ?_
      refine lv_aload_n hx hb d_Cut_cut_83 rfl (lv_at hl 2 rfl) ?_
      refine va_get (D := (dC, dI)) (ci := 0) (v := .ref (a 7)) (C := "CutLengths") (T := T_Cut) (N := 7) hx hb hz i_Cut hown hK hP 0 rfl rfl 2 (by decide) (hz _ tw_144) (fun _ h9 => h9) rfl d_Cut_cut_84 ?_
      refine va_get (D := (dC, dI)) (ci := 3) (v := .ref (a 10)) (C := "CutLengths$Plan") (T := T_Plan) (N := 3) hx hb hz i_Plan hown hK hP 7 rfl rfl 2 (by decide) (hz _ tw_111) (fun _ h9 => h9) rfl d_Cut_cut_87 ?_
      refine lv_iload_n hx hb d_Cut_cut_90 rfl (lv_at hl 1 rfl) ?_
      refine zz_nald hx hb hK hP 10 0 (f := S_50) (i := v 4) rfl rfl (by omega) (by decide) d_Cut_cut_91 ?_
      have hFc := va_free (wc := (wC a cI cZ (zu v 2 (0)) (zu (zu f 4 (L_50)) 5 (S_50)) (zu w 0 (F_50)))) hD hS hA [0, 1, 2, 3, 4, 5, 6, 7, 8, 9, 10, 11, 12, 13, 14] rfl
      refine va_callv (va_runV (As := [.int ((F_50) (v 4)), .int (nI (v 4)), .int (nI ((S_50) (v 4)))]) (rest := []) ⟨hx, hb, hml, hown, hz⟩ (c_Slabs_append l dC dI a cI cZ (zu v 2 (0)) (zu (zu f 4 (L_50)) 5 (S_50)) (zu w 0 (F_50)) (H).size ((F_50) (v 4)) (v 4) ((S_50) (v 4)) (show v 10 < 100 from by omega)) (cwV (C := "CutLengths$Slabs") 3 hz (zgV tw_439 tw_440 tw_441 tw_19 tw_442) rfl rfl rfl (by decide +kernel) ⟨Nat.le_of_ble_eq_true rfl, Nat.le_of_ble_eq_true rfl⟩) ⟨(fun a U g mk q => by obtain ⟨q0, q1, qP, qK, qD⟩ := q; exact ⟨q0, q1, qP, va_K.moved (u := U) (U := U.calling g mk a) (Vm.Alike.refl U.vm) qK, qD⟩), va_recv hK hP (ci := 4) (q0 := 11) rfl rfl, fun U hU hW => ⟨rfl, by rw [hU], by rw [hU]; exact hP, va_K.moved hW.alike hK, hD.weaken (fun _ _ _ _ => trivial)⟩⟩ rfl rfl hl.1 rfl (lv_room (Nat.le_of_ble_eq_true rfl)) d_Cut_cut_92 ⟨Nat.zero_le _, Nat.zero_le _⟩) hS (fun q _ h => hFc q h) hFc (fun u9 t9 H1 locs ht hvm hw hB hz1 hk1 hS => ?_)
      obtain ⟨hP1, hK1, hD1⟩ := hB
      rw [ht] at hP1
      obtain ⟨hP, hD⟩ := va_join (wr := []) (w1 := (wC a cI cZ (zu (zu v 2 (0)) 10 ((v 10) + 1)) (zu (zu (zu (zu f 4 (L_50)) 5 (S_50)) 6 (va_up (f 6) (v 10) (v 4))) 7 (va_up (f 7) (v 10) ((S_50) (v 4)))) (zu (zu w 0 (F_50)) 1 (va_up (w 1) (v 10) ((F_50) (v 4)))))) hP hD [0, 1, 2, 3, 4, 5, 6, 7, 8, 9, 10, 11, 12, 13, 14] [] rfl rfl (by decide) (by decide) hk1 hFc hP1 hD1
      generalize H1 = H at hP hS ⊢
      have hP : va_P (dC, dI) vwCl (wC a cI cZ (zu (zu v 2 (0)) 10 ((v 10) + 1)) (zu (zu (zu (zu f 4 (L_50)) 5 (S_50)) 6 (va_up (f 6) (v 10) (v 4))) 7 (va_up (f 7) (v 10) ((S_50) (v 4)))) (zu (zu w 0 (F_50)) 1 (va_up (w 1) (v 10) ((F_50) (v 4))))) H := hP
      have hD : va_D A (wC a cI cZ (zu (zu v 2 (0)) 10 ((v 10) + 1)) (zu (zu (zu (zu f 4 (L_50)) 5 (S_50)) 6 (va_up (f 6) (v 10) (v 4))) 7 (va_up (f 7) (v 10) ((S_50) (v 4)))) (zu (zu w 0 (F_50)) 1 (va_up (w 1) (v 10) ((F_50) (v 4))))) := hD
      refine lv_aload_n hx hb d_Cut_cut_95 rfl (lv_at hl 2 rfl) ?_
      refine va_get (D := (dC, dI)) (ci := 0) (v := .ref (a 1)) (C := "CutLengths") (T := T_Cut) (N := 7) hx hb hz i_Cut hown hK hP 0 rfl rfl 0 (by decide) (hz _ tw_142) (fun _ h9 => h9) rfl d_Cut_cut_96 ?_
      refine lv_iload_n hx hb d_Cut_cut_99 rfl (lv_at hl 1 rfl) ?_
      refine lv_aload_n hx hb d_Cut_cut_100 rfl (lv_at hl 2 rfl) ?_
      refine va_get (D := (dC, dI)) (ci := 0) (v := .ref (a 7)) (C := "CutLengths") (T := T_Cut) (N := 7) hx hb hz i_Cut hown hK hP 0 rfl rfl 2 (by decide) (hz _ tw_144) (fun _ h9 => h9) rfl d_Cut_cut_101 ?_
      refine va_get (D := (dC, dI)) (ci := 3) (v := .ref (a 10)) (C := "CutLengths$Plan") (T := T_Plan) (N := 3) hx hb hz i_Plan hown hK hP 7 rfl rfl 2 (by decide) (hz _ tw_111) (fun _ h9 => h9) rfl d_Cut_cut_104 ?_
      refine lv_iload_n hx hb d_Cut_cut_107 rfl (lv_at hl 1 rfl) ?_
      refine zz_nald hx hb hK hP 10 0 (f := S_50) (i := v 4) rfl rfl (by omega) (by decide) d_Cut_cut_108 ?_
      refine lv_iadd hx hb d_Cut_cut_109 ?_
      refine zz_top (nI_add (v 4) ((S_50) (v 4))) ?_
      refine va_put (D := (dC, dI)) (ci := 1) (v := .int (nI ((v 4) + ((S_50) (v 4))))) (ty := .int) (C := "CutLengths$Strand") (T := T_Strand) (N := 8) hx hb hz i_Strand t_Strand t_Strand_ok n_Strand hown hK hP hD hS 1 rfl rfl 1 (by decide) (hz _ tw_48) (fun _ h9 => h9) rfl (by decide +kernel) rfl rfl (Nat.le_of_ble_eq_true rfl) d_Cut_cut_110 (fun H locs hP hD hS => ?_)
      have hP : va_P (dC, dI) vwCl (wC a cI cZ (zu (zu (zu v 2 (0)) 10 ((v 10) + 1)) 4 ((v 4) + ((S_50) (v 4)))) (zu (zu (zu (zu f 4 (L_50)) 5 (S_50)) 6 (va_up (f 6) (v 10) (v 4))) 7 (va_up (f 7) (v 10) ((S_50) (v 4)))) (zu (zu w 0 (F_50)) 1 (va_up (w 1) (v 10) ((F_50) (v 4))))) H := hP
      have hD : va_D A (wC a cI cZ (zu (zu (zu v 2 (0)) 10 ((v 10) + 1)) 4 ((v 4) + ((S_50) (v 4)))) (zu (zu (zu (zu f 4 (L_50)) 5 (S_50)) 6 (va_up (f 6) (v 10) (v 4))) 7 (va_up (f 7) (v 10) ((S_50) (v 4)))) (zu (zu w 0 (F_50)) 1 (va_up (w 1) (v 10) ((F_50) (v 4))))) := hD
      refine lv_iload_n hx hb d_Cut_cut_113 rfl (lv_at hl 0 rfl) ?_
      refine W.widen (k := 1) (n := 6) (Nat.le_of_ble_eq_true rfl) (Nat.le_of_ble_eq_true rfl) ?_
      refine vx_ret ?_
      exact W.iret (v := nI (v 10)) hx hb hr (fun t9 ht hW => ⟨⟨nI (v 10), (L_50, S_50, F_50), rfl, ⟨(by unfold k_cut; rw [if_neg (by omega), if_neg (by omega)]), hcp, rfl⟩, by rw [ht]; exact hP, va_K.moved hW.alike hK, hD⟩, hS.F ht⟩) hS.2.2 d_Cut_cut_114
    · have c_36 : ¬ (((v 10 : Nat) : Int) < (100 : Int)) := fun q => c_36 ((zz_lt (nI_toInt (by omega)) ((by decide))).mpr q)
      obtain ⟨sa, hsa⟩ := hT9.2.1 (161, "no more slabs") (by decide)
      exact vx_throwS (cls := "java/lang/UnsupportedOperationException") (names := ["java/lang/RuntimeException", "java/lang/Exception"]) (ik := 74) (is := 161) (ic := 78) hx hb hl9 hown (by decide) (by decide) (hz _ tw_319) (hz _ tw_26) hsa (zhat_UOE hz hT9) zgd_UOE hU9 hN9 hS (hl.1.trans hml.symm) d_Cut_cut_39 d_Cut_cut_42 d_Cut_cut_43 d_Cut_cut_45 d_Cut_cut_48 (fun x hx9 => (hno x hx9).elim) (Nat.le_of_ble_eq_true rfl) (Nat.le_of_ble_eq_true rfl) (Nat.le_of_ble_eq_true rfl) (Nat.le_of_ble_eq_true rfl) hlocks (fun t9 ha hz9 hk9 => ⟨(), trivial, ⟨Or.inr ⟨rfl, (by unfold k_cut; rw [if_neg (by omega), if_pos (by omega)])⟩, hP.kept (fun k q hk => hk9 q.1 (vx_lt hP hk)), va_K.moved ha hK, hD⟩, ⟨hz9, fun q h1 _ => hk9 q h1⟩⟩) hS.2.2 (Nat.le_of_ble_eq_true rfl) (Nat.le_of_ble_eq_true rfl)
  · have c_14 : ¬ (((v 4 : Nat) : Int) < ((v 3 : Nat) : Int)) := fun q => c_14 ((zz_lt (nI_toInt (by omega)) (nI_toInt (by omega))).mpr q)
    obtain ⟨sa, hsa⟩ := hT9.2.1 (159, "nothing is ahead of the torch") (by decide)
    exact vx_throwS (cls := "java/lang/IllegalStateException") (names := ["java/lang/RuntimeException", "java/lang/Exception"]) (ik := 51) (is := 159) (ic := 55) hx hb hl9 hown (by decide) (by decide) (hz _ tw_220) (hz _ tw_24) hsa (zhat_ISE hz hT9) zgd_ISE hU9 hN9 hS (hl.1.trans hml.symm) d_Cut_cut_17 d_Cut_cut_20 d_Cut_cut_21 d_Cut_cut_23 d_Cut_cut_26 (fun x hx9 => (hno x hx9).elim) (Nat.le_of_ble_eq_true rfl) (Nat.le_of_ble_eq_true rfl) (Nat.le_of_ble_eq_true rfl) (Nat.le_of_ble_eq_true rfl) hlocks (fun t9 ha hz9 hk9 => ⟨(), trivial, ⟨Or.inl ⟨rfl, (by unfold k_cut; rw [if_pos (by omega)])⟩, hP.kept (fun k q hk => hk9 q.1 (vx_lt hP hk)), va_K.moved ha hK, hD⟩, ⟨hz9, fun q h1 _ => hk9 q h1⟩⟩) hS.2.2 (Nat.le_of_ble_eq_true rfl) (Nat.le_of_ble_eq_true rfl)
set_option maxHeartbeats 4000000 in
set_option maxRecDepth 100000 in
theorem c_Cut_slab (l : Launch) (hl9 : l.stackTraces = false) (dC : Nat → ClassId) (dI : Nat → Nat → Nat) (a : Nat → Nat) (cI cZ : ClassId) (v : Nat → Nat) (f : Nat → Nat → Nat) (w : Nat → Nat → Int32) (sz : Nat) (p0 : Int32) (z0 : Int) (h0 : p0.toInt = z0) (p1 : Int32) (z1 : Int) (h1 : p1.toInt = z1) (hI : zI v f) : vx_Met l y_Cut_slab (zw_Cut_slab :: zW) ({ frames := 6, cells := 1, slots := 6, locals := 90 }) (va_Pc [.ref (a 0), .int (p0), .int (p1)] (fun U => U.heap.size = sz ∧ va_P (dC, dI) vwCl (wC a cI cZ v f w) U.heap ∧ va_K (dC, dI) vwCl [(cI, .int), (cZ, .boolean)] U ∧ va_D (fun _ => True) (wC a cI cZ v f w) ∧ zX (va_A (wC a cI cZ v f w) sz) U U.heap)) (va_Qi (fun (r : Int32) (u : Unit) => k_slab (v 10) z0 z1 = 0 ∧ r = if z1 = 0 then w 1 z0.toNat else if z1 = 1 then nI (f 6 z0.toNat) else nI (f 7 z0.toNat)) (fun (_ : Unit) t => va_P (dC, dI) vwCl (wC a cI cZ v f w) t.heap ∧ va_K (dC, dI) vwCl [(cI, .int), (cZ, .boolean)] t ∧ va_D (va_A (wC a cI cZ v f w) sz) (wC a cI cZ v f w)) (va_A (wC a cI cZ v f w) sz)) (vx_X (fun _ : Unit => True) (fun E _ t => ((E = "java/lang/IndexOutOfBoundsException" ∧ k_slab (v 10) z0 z1 = 1)) ∧ va_P (dC, dI) vwCl (wC a cI cZ v f w) t.heap ∧ va_K (dC, dI) vwCl [(cI, .int), (cZ, .boolean)] t ∧ va_D (va_A (wC a cI cZ v f w) sz) (wC a cI cZ v f w)) (va_A (wC a cI cZ v f w) sz)) 1 6 (va_A (wC a cI cZ v f w) sz) := by
  refine vx_ofW (cc := prog_1_method_12_code) (maxL := 3) (ret := (some .int)) (by decide) rfl ?_
  intro p e s m args below meth c s₁ B hml hno hv
  obtain ⟨rfl, hsz, hP, hK, hD0, hX9⟩ := hv
  have hx := B.exec
  have hb := B.bytes
  have hr := B.returns
  have hz : ∀ w ∈ zW, w.before ([.ref (a 0), .int (p0), .int (p1)]).toArray s = true := fun w h => atoms_spec (ws := (zw_Cut_slab :: zW)) B.pre w (List.mem_cons_of_mem _ h)
  have hown : s.vm.findClass "CutLengths" = some m.cls := findClass_of_methodNamed B.named
  have hlocks := B.notSynchronized
  subst hsz
  have hD := hD0.self (sz := s.heap.size)
  generalize hAe : va_A (wC a cI cZ v f w) s.heap.size = A at hD hX9 ⊢
  have hA : ∀ q : Nat, s.heap.size ≤ q → A q := fun q h => by rw [← hAe]; exact Or.inr h
  have hS : va_S A s.heap s.heap [] := va_S.rf
  have hP : va_P (dC, dI) vwCl (wC a cI cZ v f w) s.heap := hP
  obtain ⟨hU9, hN9, hT9⟩ := hX9
  obtain ⟨i3, i4, i5, i6, i7, i8, i9, i10, i2, i0, i1, iw, ib, ic, isl⟩ := id hI
  have hl := lv_entry ([.ref (a 0), .int (p0), .int (p1)]) (n := 3) (Nat.le_of_ble_eq_true rfl)
  rw [lg_entry_eq]
  generalize (lg_sl ([.ref (a 0), .int (p0), .int (p1)]) ++ List.replicate (3 - (lg_sl ([.ref (a 0), .int (p0), .int (p1)])).length) Slot.unset).toArray = ls at hl ⊢
  have hl : lv_has ls 3 [(0, .ref (a 0)), (1, .int (p0)), (2, .int (p1))] := hl
  refine lv_aload_n hx hb d_Cut_slab_0 rfl (lv_at hl 0 rfl) ?_
  refine lv_iload_n hx hb d_Cut_slab_1 rfl (lv_at hl 1 rfl) ?_
  refine zz_ro (va_runV (As := [.int (p0)]) (rest := []) ⟨hx, hb, hml, hown, hz⟩ (c_Cut_isSlab l dC dI a cI cZ v f w (p0) (z0) (h0) hI) (cwV (C := "CutLengths") 1 hz (zgV tw_450 tw_452 tw_7 tw_15 tw_453) rfl rfl rfl (by decide +kernel) ⟨Nat.le_of_ble_eq_true rfl, Nat.le_of_ble_eq_true rfl⟩) ⟨(fun a U g mk q => ⟨q.1, q.2.1, va_K.moved (u := U) (U := U.calling g mk a) (Vm.Alike.refl U.vm) q.2.2⟩), va_recv hK hP (ci := 0) (q0 := 0) rfl rfl, fun U hU hW => ⟨rfl, by rw [hU]; exact hP, va_K.moved hW.alike hK⟩⟩ rfl rfl hl.1 rfl (lv_room (Nat.le_of_ble_eq_true rfl)) d_Cut_slab_2 ⟨Nat.zero_le _, Nat.zero_le _⟩) ?_
  by_cases q_2 : 0 ≤ z0 ∧ z0 < (v 10 : Nat)
  · refine zz_top (congrArg nI (if_pos q_2)) ?_
    refine lv_if_eq (tgt := 15) hx hb d_Cut_slab_5 (by decide) (fun c9 => absurd c9 (by decide)) (fun _ => ?_)
    refine lv_iload_n hx hb d_Cut_slab_8 rfl (lv_at hl 2 rfl) ?_
    refine zz_ro (va_runS (As := [.int (p1)]) (rest := []) ⟨hx, hb, hml, hown, hz⟩ (c_Cut_isWhat l (p1) (z1) (h1)) (va_cwS 1 hz (zgS tw_419 tw_420 tw_15 tw_421) rfl rfl rfl (by decide +kernel) ⟨Nat.le_of_ble_eq_true rfl, Nat.le_of_ble_eq_true rfl⟩) ⟨fun _ _ _ _ q => q, fun U hU hW => ⟨rfl, trivial⟩⟩ rfl rfl hl.1 rfl (lv_room (Nat.le_of_ble_eq_true rfl)) d_Cut_slab_9 ⟨Nat.zero_le _, Nat.zero_le _⟩) ?_
    by_cases q_9 : 0 ≤ (z1) ∧ (z1) ≤ 2
    · refine zz_top (congrArg nI (if_pos q_9)) ?_
      refine lv_if_ne (tgt := 25) hx hb d_Cut_slab_12 (by decide) (fun _ => ?_) (fun c9 => absurd c9 (by decide))
      refine lv_iload_n hx hb d_Cut_slab_25 rfl (lv_at hl 2 rfl) ?_
      refine lv_aload_n hx hb d_Cut_slab_26 rfl (lv_at hl 0 rfl) ?_
      refine va_get (D := (dC, dI)) (ci := 0) (v := .ref (a 11)) (C := "CutLengths") (T := T_Cut) (N := 7) hx hb hz i_Cut hown hK hP 0 rfl rfl 3 (by decide) (hz _ tw_145) (fun _ h9 => h9) rfl d_Cut_slab_27 ?_
      refine va_get (D := (dC, dI)) (ci := 4) (v := .ref (a 12)) (C := "CutLengths$Slabs") (T := T_Slabs) (N := 4) hx hb hz i_Slabs hown hK hP 11 rfl rfl 1 (by decide) (hz _ tw_128) (fun _ h9 => h9) rfl d_Cut_slab_30 ?_
      refine lv_iload_n hx hb d_Cut_slab_33 rfl (lv_at hl 1 rfl) ?_
      refine zz_top (zz_nat h0 (by omega)) ?_
      refine zz_iald hx hb hK hP 12 0 (f := w 1) (i := z0.toNat) rfl rfl (by omega) (by decide) d_Cut_slab_34 ?_
      refine lv_aload_n hx hb d_Cut_slab_35 rfl (lv_at hl 0 rfl) ?_
      refine va_get (D := (dC, dI)) (ci := 0) (v := .ref (a 11)) (C := "CutLengths") (T := T_Cut) (N := 7) hx hb hz i_Cut hown hK hP 0 rfl rfl 3 (by decide) (hz _ tw_145) (fun _ h9 => h9) rfl d_Cut_slab_36 ?_
      refine va_get (D := (dC, dI)) (ci := 4) (v := .ref (a 13)) (C := "CutLengths$Slabs") (T := T_Slabs) (N := 4) hx hb hz i_Slabs hown hK hP 11 rfl rfl 2 (by decide) (hz _ tw_130) (fun _ h9 => h9) rfl d_Cut_slab_39 ?_
      refine lv_iload_n hx hb d_Cut_slab_42 rfl (lv_at hl 1 rfl) ?_
      refine zz_top (zz_nat h0 (by omega)) ?_
      refine zz_nald hx hb hK hP 13 0 (f := f 6) (i := z0.toNat) rfl rfl (by omega) (by decide) d_Cut_slab_43 ?_
      refine lv_aload_n hx hb d_Cut_slab_44 rfl (lv_at hl 0 rfl) ?_
      refine va_get (D := (dC, dI)) (ci := 0) (v := .ref (a 11)) (C := "CutLengths") (T := T_Cut) (N := 7) hx hb hz i_Cut hown hK hP 0 rfl rfl 3 (by decide) (hz _ tw_145) (fun _ h9 => h9) rfl d_Cut_slab_45 ?_
      refine va_get (D := (dC, dI)) (ci := 4) (v := .ref (a 14)) (C := "CutLengths$Slabs") (T := T_Slabs) (N := 4) hx hb hz i_Slabs hown hK hP 11 rfl rfl 3 (by decide) (hz _ tw_132) (fun _ h9 => h9) rfl d_Cut_slab_48 ?_
      refine lv_iload_n hx hb d_Cut_slab_51 rfl (lv_at hl 1 rfl) ?_
      refine zz_top (zz_nat h0 (by omega)) ?_
      refine zz_nald hx hb hK hP 14 0 (f := f 7) (i := z0.toNat) rfl rfl (by omega) (by decide) d_Cut_slab_52 ?_
      refine zz_ro (va_runS (As := [.int (p1), .int (w 1 z0.toNat), .int (nI (f 6 z0.toNat)), .int (nI (f 7 z0.toNat))]) (rest := []) ⟨hx, hb, hml, hown, hz⟩ (c_Cut_pick l (p1) (w 1 z0.toNat) (nI (f 6 z0.toNat)) (nI (f 7 z0.toNat)) (z1) (h1)) (va_cwS 4 hz (zgS tw_427 tw_428 tw_15 tw_429) rfl rfl rfl (by decide +kernel) ⟨Nat.le_of_ble_eq_true rfl, Nat.le_of_ble_eq_true rfl⟩) ⟨fun _ _ _ _ q => q, fun U hU hW => ⟨rfl, trivial⟩⟩ rfl rfl hl.1 rfl (lv_room (Nat.le_of_ble_eq_true rfl)) d_Cut_slab_53 ⟨Nat.zero_le _, Nat.zero_le _⟩) ?_
      refine W.widen (k := 1) (n := 6) (Nat.le_of_ble_eq_true rfl) (Nat.le_of_ble_eq_true rfl) ?_
      refine vx_ret ?_
      exact W.iret (v := (if (z1) = 0 then w 1 z0.toNat else if (z1) = 1 then nI (f 6 z0.toNat) else nI (f 7 z0.toNat))) hx hb hr (fun t9 ht hW => ⟨⟨(if (z1) = 0 then w 1 z0.toNat else if (z1) = 1 then nI (f 6 z0.toNat) else nI (f 7 z0.toNat)), (), rfl, ⟨(by unfold k_slab; rw [if_neg (by omega)]), rfl⟩, by rw [ht]; exact hP, va_K.moved hW.alike hK, hD⟩, hS.F ht⟩) hS.2.2 d_Cut_slab_56
    · refine zz_top (congrArg nI (if_neg q_9)) ?_
      refine lv_if_ne (tgt := 25) hx hb d_Cut_slab_12 (by decide) (fun c9 => absurd c9 (by decide)) (fun _ => ?_)
      obtain ⟨sa, hsa⟩ := hT9.2.1 (169, "no such slab or what") (by decide)
      exact vx_throwS (cls := "java/lang/IndexOutOfBoundsException") (names := ["java/lang/RuntimeException", "java/lang/Exception"]) (ik := 92) (is := 169) (ic := 96) hx hb hl9 hown (by decide) (by decide) (hz _ tw_359) (hz _ tw_27) hsa (zhat_IOB hz hT9) zgd_IOB hU9 hN9 hS (hl.1.trans hml.symm) d_Cut_slab_15 d_Cut_slab_18 d_Cut_slab_19 d_Cut_slab_21 d_Cut_slab_24 (fun x hx9 => (hno x hx9).elim) (Nat.le_of_ble_eq_true rfl) (Nat.le_of_ble_eq_true rfl) (Nat.le_of_ble_eq_true rfl) (Nat.le_of_ble_eq_true rfl) hlocks (fun t9 ha hz9 hk9 => ⟨(), trivial, ⟨⟨rfl, (by unfold k_slab; rw [if_pos (by omega)])⟩, hP.kept (fun k q hk => hk9 q.1 (vx_lt hP hk)), va_K.moved ha hK, hD⟩, ⟨hz9, fun q h1 _ => hk9 q h1⟩⟩) hS.2.2 (Nat.le_of_ble_eq_true rfl) (Nat.le_of_ble_eq_true rfl)
  · refine zz_top (congrArg nI (if_neg q_2)) ?_
    refine lv_if_eq (tgt := 15) hx hb d_Cut_slab_5 (by decide) (fun _ => ?_) (fun c9 => absurd c9 (by decide))
    obtain ⟨sa, hsa⟩ := hT9.2.1 (169, "no such slab or what") (by decide)
    exact vx_throwS (cls := "java/lang/IndexOutOfBoundsException") (names := ["java/lang/RuntimeException", "java/lang/Exception"]) (ik := 92) (is := 169) (ic := 96) hx hb hl9 hown (by decide) (by decide) (hz _ tw_359) (hz _ tw_27) hsa (zhat_IOB hz hT9) zgd_IOB hU9 hN9 hS (hl.1.trans hml.symm) d_Cut_slab_15 d_Cut_slab_18 d_Cut_slab_19 d_Cut_slab_21 d_Cut_slab_24 (fun x hx9 => (hno x hx9).elim) (Nat.le_of_ble_eq_true rfl) (Nat.le_of_ble_eq_true rfl) (Nat.le_of_ble_eq_true rfl) (Nat.le_of_ble_eq_true rfl) hlocks (fun t9 ha hz9 hk9 => ⟨(), trivial, ⟨⟨rfl, (by unfold k_slab; rw [if_pos (by omega)])⟩, hP.kept (fun k q hk => hk9 q.1 (vx_lt hP hk)), va_K.moved ha hK, hD⟩, ⟨hz9, fun q h1 _ => hk9 q h1⟩⟩) hS.2.2 (Nat.le_of_ble_eq_true rfl) (Nat.le_of_ble_eq_true rfl)
set_option maxHeartbeats 4000000 in
set_option maxRecDepth 100000 in
theorem c_Cut_weight (l : Launch) (hl9 : l.stackTraces = false) (dC : Nat → ClassId) (dI : Nat → Nat → Nat) (a : Nat → Nat) (cI cZ : ClassId) (v : Nat → Nat) (f : Nat → Nat → Nat) (w : Nat → Nat → Int32) (sz : Nat) (p0 : Int32) (z0 : Int) (h0 : p0.toInt = z0) (hI : zI v f) : vx_Met l y_Cut_weight (zw_Cut_weight :: zW) ({ frames := 6, cells := 1, slots := 6, locals := 90 }) (va_Pc [.ref (a 0), .int (p0)] (fun U => U.heap.size = sz ∧ va_P (dC, dI) vwCl (wC a cI cZ v f w) U.heap ∧ va_K (dC, dI) vwCl [(cI, .int), (cZ, .boolean)] U ∧ va_D (fun _ => True) (wC a cI cZ v f w) ∧ zX (va_A (wC a cI cZ v f w) sz) U U.heap)) (va_Ql (fun (r : Int64) (u : Unit) => k_weight (v 10) z0 = 0 ∧ r = lN (f 7 z0.toNat) * lN (v 0) * lN (v 1) / 1000) (fun (_ : Unit) t => va_P (dC, dI) vwCl (wC a cI cZ v f w) t.heap ∧ va_K (dC, dI) vwCl [(cI, .int), (cZ, .boolean)] t ∧ va_D (va_A (wC a cI cZ v f w) sz) (wC a cI cZ v f w)) (va_A (wC a cI cZ v f w) sz)) (vx_X (fun _ : Unit => True) (fun E _ t => ((E = "java/lang/IndexOutOfBoundsException" ∧ k_weight (v 10) z0 = 1)) ∧ va_P (dC, dI) vwCl (wC a cI cZ v f w) t.heap ∧ va_K (dC, dI) vwCl [(cI, .int), (cZ, .boolean)] t ∧ va_D (va_A (wC a cI cZ v f w) sz) (wC a cI cZ v f w)) (va_A (wC a cI cZ v f w) sz)) 1 6 (va_A (wC a cI cZ v f w) sz) := by
  refine vx_ofW (cc := prog_1_method_13_code) (maxL := 4) (ret := (some .long)) (by decide) rfl ?_
  intro p e s m args below meth c s₁ B hml hno hv
  obtain ⟨rfl, hsz, hP, hK, hD0, hX9⟩ := hv
  have hx := B.exec
  have hb := B.bytes
  have hr := B.returns
  have hz : ∀ w ∈ zW, w.before ([.ref (a 0), .int (p0)]).toArray s = true := fun w h => atoms_spec (ws := (zw_Cut_weight :: zW)) B.pre w (List.mem_cons_of_mem _ h)
  have hown : s.vm.findClass "CutLengths" = some m.cls := findClass_of_methodNamed B.named
  have hlocks := B.notSynchronized
  subst hsz
  have hD := hD0.self (sz := s.heap.size)
  generalize hAe : va_A (wC a cI cZ v f w) s.heap.size = A at hD hX9 ⊢
  have hA : ∀ q : Nat, s.heap.size ≤ q → A q := fun q h => by rw [← hAe]; exact Or.inr h
  have hS : va_S A s.heap s.heap [] := va_S.rf
  have hP : va_P (dC, dI) vwCl (wC a cI cZ v f w) s.heap := hP
  obtain ⟨hU9, hN9, hT9⟩ := hX9
  obtain ⟨i3, i4, i5, i6, i7, i8, i9, i10, i2, i0, i1, iw, ib, ic, isl⟩ := id hI
  have hl := lv_entry ([.ref (a 0), .int (p0)]) (n := 4) (Nat.le_of_ble_eq_true rfl)
  rw [lg_entry_eq]
  generalize (lg_sl ([.ref (a 0), .int (p0)]) ++ List.replicate (4 - (lg_sl ([.ref (a 0), .int (p0)])).length) Slot.unset).toArray = ls at hl ⊢
  have hl : lv_has ls 4 [(0, .ref (a 0)), (1, .int (p0))] := hl
  refine lv_aload_n hx hb d_Cut_weight_0 rfl (lv_at hl 0 rfl) ?_
  refine lv_iload_n hx hb d_Cut_weight_1 rfl (lv_at hl 1 rfl) ?_
  refine zz_ro (va_runV (As := [.int (p0)]) (rest := []) ⟨hx, hb, hml, hown, hz⟩ (c_Cut_isSlab l dC dI a cI cZ v f w (p0) (z0) (h0) hI) (cwV (C := "CutLengths") 1 hz (zgV tw_450 tw_452 tw_7 tw_15 tw_453) rfl rfl rfl (by decide +kernel) ⟨Nat.le_of_ble_eq_true rfl, Nat.le_of_ble_eq_true rfl⟩) ⟨(fun a U g mk q => ⟨q.1, q.2.1, va_K.moved (u := U) (U := U.calling g mk a) (Vm.Alike.refl U.vm) q.2.2⟩), va_recv hK hP (ci := 0) (q0 := 0) rfl rfl, fun U hU hW => ⟨rfl, by rw [hU]; exact hP, va_K.moved hW.alike hK⟩⟩ rfl rfl hl.1 rfl (lv_room (Nat.le_of_ble_eq_true rfl)) d_Cut_weight_2 ⟨Nat.zero_le _, Nat.zero_le _⟩) ?_
  by_cases q_2 : 0 ≤ z0 ∧ z0 < (v 10 : Nat)
  · refine zz_top (congrArg nI (if_pos q_2)) ?_
    refine lv_if_ne (tgt := 18) hx hb d_Cut_weight_5 (by decide) (fun _ => ?_) (fun c9 => absurd c9 (by decide))
    have hs9 := isl z0.toNat (by omega)
    refine lv_aload_n hx hb d_Cut_weight_18 rfl (lv_at hl 0 rfl) ?_
    refine va_get (D := (dC, dI)) (ci := 0) (v := .ref (a 11)) (C := "CutLengths") (T := T_Cut) (N := 7) hx hb hz i_Cut hown hK hP 0 rfl rfl 3 (by decide) (hz _ tw_145) (fun _ h9 => h9) rfl d_Cut_weight_19 ?_
    refine va_get (D := (dC, dI)) (ci := 4) (v := .ref (a 14)) (C := "CutLengths$Slabs") (T := T_Slabs) (N := 4) hx hb hz i_Slabs hown hK hP 11 rfl rfl 3 (by decide) (hz _ tw_132) (fun _ h9 => h9) rfl d_Cut_weight_22 ?_
    refine lv_iload_n hx hb d_Cut_weight_25 rfl (lv_at hl 1 rfl) ?_
    refine zz_top (zz_nat h0 (by omega)) ?_
    refine zz_nald hx hb hK hP 14 0 (f := f 7) (i := z0.toNat) rfl rfl (by omega) (by decide) d_Cut_weight_26 ?_
    refine lv_i2l (v := lN (f 7 z0.toNat)) hx hb d_Cut_weight_27 (nI_l (by omega)) ?_
    refine lv_aload_n hx hb d_Cut_weight_28 rfl (lv_at hl 0 rfl) ?_
    refine va_get (D := (dC, dI)) (ci := 0) (v := .int (nI (v 0))) (C := "CutLengths") (T := T_Cut) (N := 7) hx hb hz i_Cut hown hK hP 0 rfl rfl 4 (by decide) (hz _ tw_146) (fun _ h9 => h9) rfl d_Cut_weight_29 ?_
    refine lv_i2l (v := lN (v 0)) hx hb d_Cut_weight_32 (nI_l (by omega)) ?_
    refine lv_lmul hx hb d_Cut_weight_33 ?_
    refine lv_lstore_n (lv' := [(2, .long ((lN (f 7 z0.toNat)) * (lN (v 0)))), (0, .ref (a 0)), (1, .int (p0))]) hx hb d_Cut_weight_34 rfl hl (by decide) rfl (fun ls hl => ?_)
    refine lv_lload_n hx hb d_Cut_weight_35 rfl (lv_at hl 0 rfl) ?_
    refine lv_aload_n hx hb d_Cut_weight_36 rfl (lv_at hl 1 rfl) ?_
    refine va_get (D := (dC, dI)) (ci := 0) (v := .int (nI (v 1))) (C := "CutLengths") (T := T_Cut) (N := 7) hx hb hz i_Cut hown hK hP 0 rfl rfl 5 (by decide) (hz _ tw_147) (fun _ h9 => h9) rfl d_Cut_weight_37 ?_
    refine lv_i2l (v := lN (v 1)) hx hb d_Cut_weight_40 (nI_l (by omega)) ?_
    refine lv_lmul hx hb d_Cut_weight_41 ?_
    refine lv_ldc2 (v := 1000) hx hb hown (hz _ tw_463) d_Cut_weight_42 ?_
    refine lv_ldiv hx hb d_Cut_weight_45 (by decide) ?_
    refine W.widen (k := 1) (n := 6) (Nat.le_of_ble_eq_true rfl) (Nat.le_of_ble_eq_true rfl) ?_
    refine vx_ret ?_
    exact W.lret (v := (((lN (f 7 z0.toNat)) * (lN (v 0))) * (lN (v 1))) / (1000)) hx hb hr (fun t9 ht hW => ⟨⟨(((lN (f 7 z0.toNat)) * (lN (v 0))) * (lN (v 1))) / (1000), (), rfl, ⟨(by unfold k_weight; rw [if_neg (by omega)]), rfl⟩, by rw [ht]; exact hP, va_K.moved hW.alike hK, hD⟩, hS.F ht⟩) hS.2.2 d_Cut_weight_46
  · refine zz_top (congrArg nI (if_neg q_2)) ?_
    refine lv_if_ne (tgt := 18) hx hb d_Cut_weight_5 (by decide) (fun c9 => absurd c9 (by decide)) (fun _ => ?_)
    obtain ⟨sa, hsa⟩ := hT9.2.1 (176, "no such slab") (by decide)
    exact vx_throwS (cls := "java/lang/IndexOutOfBoundsException") (names := ["java/lang/RuntimeException", "java/lang/Exception"]) (ik := 92) (is := 176) (ic := 96) hx hb hl9 hown (by decide) (by decide) (hz _ tw_359) (hz _ tw_27) hsa (zhat_IOB hz hT9) zgd_IOB hU9 hN9 hS (hl.1.trans hml.symm) d_Cut_weight_8 d_Cut_weight_11 d_Cut_weight_12 d_Cut_weight_14 d_Cut_weight_17 (fun x hx9 => (hno x hx9).elim) (Nat.le_of_ble_eq_true rfl) (Nat.le_of_ble_eq_true rfl) (Nat.le_of_ble_eq_true rfl) (Nat.le_of_ble_eq_true rfl) hlocks (fun t9 ha hz9 hk9 => ⟨(), trivial, ⟨⟨rfl, (by unfold k_weight; rw [if_pos (by omega)])⟩, hP.kept (fun k q hk => hk9 q.1 (vx_lt hP hk)), va_K.moved ha hK, hD⟩, ⟨hz9, fun q h1 _ => hk9 q h1⟩⟩) hS.2.2 (Nat.le_of_ble_eq_true rfl) (Nat.le_of_ble_eq_true rfl)
set_option maxHeartbeats 4000000 in
set_option maxRecDepth 100000 in
theorem c_Cut_count (l : Launch) (hl9 : l.stackTraces = false) (dC : Nat → ClassId) (dI : Nat → Nat → Nat) (a : Nat → Nat) (cI cZ : ClassId) (v : Nat → Nat) (f : Nat → Nat → Nat) (w : Nat → Nat → Int32) (sz : Nat) (p0 : Int32) (z0 : Int) (h0 : p0.toInt = z0) (hI : zI v f) : vx_Met l y_Cut_count (zw_Cut_count :: zW) ({ frames := 6, cells := 1, slots := 6, locals := 90 }) (va_Pc [.ref (a 0), .int (p0)] (fun U => U.heap.size = sz ∧ va_P (dC, dI) vwCl (wC a cI cZ v f w) U.heap ∧ va_K (dC, dI) vwCl [(cI, .int), (cZ, .boolean)] U ∧ va_D (fun _ => True) (wC a cI cZ v f w) ∧ zX (va_A (wC a cI cZ v f w) sz) U U.heap)) (va_Qi (fun (r : Int32) (u : Unit) => k_count (v 9) z0 = 0 ∧ r = nI (zcnt (w 1) p0 (v 10))) (fun (_ : Unit) t => va_P (dC, dI) vwCl (wC a cI cZ v f w) t.heap ∧ va_K (dC, dI) vwCl [(cI, .int), (cZ, .boolean)] t ∧ va_D (va_A (wC a cI cZ v f w) sz) (wC a cI cZ v f w)) (va_A (wC a cI cZ v f w) sz)) (vx_X (fun _ : Unit => True) (fun E _ t => ((E = "java/lang/IndexOutOfBoundsException" ∧ k_count (v 9) z0 = 1)) ∧ va_P (dC, dI) vwCl (wC a cI cZ v f w) t.heap ∧ va_K (dC, dI) vwCl [(cI, .int), (cZ, .boolean)] t ∧ va_D (va_A (wC a cI cZ v f w) sz) (wC a cI cZ v f w)) (va_A (wC a cI cZ v f w) sz)) 1 6 (va_A (wC a cI cZ v f w) sz) := by
  refine vx_ofW (cc := prog_1_method_14_code) (maxL := 2) (ret := (some .int)) (by decide) rfl ?_
  intro p e s m args below meth c s₁ B hml hno hv
  obtain ⟨rfl, hsz, hP, hK, hD0, hX9⟩ := hv
  have hx := B.exec
  have hb := B.bytes
  have hr := B.returns
  have hz : ∀ w ∈ zW, w.before ([.ref (a 0), .int (p0)]).toArray s = true := fun w h => atoms_spec (ws := (zw_Cut_count :: zW)) B.pre w (List.mem_cons_of_mem _ h)
  have hown : s.vm.findClass "CutLengths" = some m.cls := findClass_of_methodNamed B.named
  have hlocks := B.notSynchronized
  subst hsz
  have hD := hD0.self (sz := s.heap.size)
  generalize hAe : va_A (wC a cI cZ v f w) s.heap.size = A at hD hX9 ⊢
  have hA : ∀ q : Nat, s.heap.size ≤ q → A q := fun q h => by rw [← hAe]; exact Or.inr h
  have hS : va_S A s.heap s.heap [] := va_S.rf
  have hP : va_P (dC, dI) vwCl (wC a cI cZ v f w) s.heap := hP
  obtain ⟨hU9, hN9, hT9⟩ := hX9
  obtain ⟨i3, i4, i5, i6, i7, i8, i9, i10, i2, i0, i1, iw, ib, ic, isl⟩ := id hI
  have hl := lv_entry ([.ref (a 0), .int (p0)]) (n := 2) (Nat.le_of_ble_eq_true rfl)
  rw [lg_entry_eq]
  generalize (lg_sl ([.ref (a 0), .int (p0)]) ++ List.replicate (2 - (lg_sl ([.ref (a 0), .int (p0)])).length) Slot.unset).toArray = ls at hl ⊢
  have hl : lv_has ls 2 [(0, .ref (a 0)), (1, .int (p0))] := hl
  refine lv_iload_n hx hb d_Cut_count_0 rfl (lv_at hl 1 rfl) ?_
  refine lv_iconst (v := -1) hx hb d_Cut_count_1 (by decide) ?_
  refine lv_icmp_lt (tgt := 16) hx hb d_Cut_count_2 (by decide) (fun c_2 => ?_) (fun c_2 => ?_)
  · have c_2 : z0 < (-1 : Int) := (zz_lt (h0) ((by decide))).mp c_2
    obtain ⟨sa, hsa⟩ := hT9.2.1 (94, "no such wanted length") (by decide)
    exact vx_throwS (cls := "java/lang/IndexOutOfBoundsException") (names := ["java/lang/RuntimeException", "java/lang/Exception"]) (ik := 92) (is := 94) (ic := 96) hx hb hl9 hown (by decide) (by decide) (hz _ tw_359) (hz _ tw_27) hsa (zhat_IOB hz hT9) zgd_IOB hU9 hN9 hS (hl.1.trans hml.symm) d_Cut_count_16 d_Cut_count_19 d_Cut_count_20 d_Cut_count_22 d_Cut_count_25 (fun x hx9 => (hno x hx9).elim) (Nat.le_of_ble_eq_true rfl) (Nat.le_of_ble_eq_true rfl) (Nat.le_of_ble_eq_true rfl) (Nat.le_of_ble_eq_true rfl) hlocks (fun t9 ha hz9 hk9 => ⟨(), trivial, ⟨⟨rfl, (by unfold k_count; rw [if_pos (by omega)])⟩, hP.kept (fun k q hk => hk9 q.1 (vx_lt hP hk)), va_K.moved ha hK, hD⟩, ⟨hz9, fun q h1 _ => hk9 q h1⟩⟩) hS.2.2 (Nat.le_of_ble_eq_true rfl) (Nat.le_of_ble_eq_true rfl)
  · have c_2 : ¬ (z0 < (-1 : Int)) := fun q => c_2 ((zz_lt (h0) ((by decide))).mpr q)
    refine lv_iload_n hx hb d_Cut_count_5 rfl (lv_at hl 1 rfl) ?_
    refine lv_aload_n hx hb d_Cut_count_6 rfl (lv_at hl 0 rfl) ?_
    refine va_get (D := (dC, dI)) (ci := 0) (v := .ref (a 4)) (C := "CutLengths") (T := T_Cut) (N := 7) hx hb hz i_Cut hown hK hP 0 rfl rfl 1 (by decide) (hz _ tw_143) (fun _ h9 => h9) rfl d_Cut_count_7 ?_
    refine va_get (D := (dC, dI)) (ci := 2) (v := .int (nI (v 9))) (C := "CutLengths$WantedLengths") (T := T_Wanted) (N := 3) hx hb hz i_Wanted hown hK hP 4 rfl rfl 0 (by decide) (hz _ tw_84) (fun _ h9 => h9) rfl d_Cut_count_10 ?_
    refine lv_icmp_lt (tgt := 26) hx hb d_Cut_count_13 (by decide) (fun c_13 => ?_) (fun c_13 => ?_)
    · have c_13 : z0 < ((v 9 : Nat) : Int) := (zz_lt (h0) (nI_toInt (by omega))).mp c_13
      refine lv_aload_n hx hb d_Cut_count_26 rfl (lv_at hl 0 rfl) ?_
      refine va_get (D := (dC, dI)) (ci := 0) (v := .ref (a 11)) (C := "CutLengths") (T := T_Cut) (N := 7) hx hb hz i_Cut hown hK hP 0 rfl rfl 3 (by decide) (hz _ tw_145) (fun _ h9 => h9) rfl d_Cut_count_27 ?_
      refine lv_iload_n hx hb d_Cut_count_30 rfl (lv_at hl 1 rfl) ?_
      refine zz_ro (va_runV (As := [.int (p0)]) (rest := []) ⟨hx, hb, hml, hown, hz⟩ (c_Slabs_howManyOf l dC dI a cI cZ v f w (p0) hI) (cwV (C := "CutLengths$Slabs") 1 hz (zgV tw_471 tw_472 tw_473 tw_19 tw_474) rfl rfl rfl (by decide +kernel) ⟨Nat.le_of_ble_eq_true rfl, Nat.le_of_ble_eq_true rfl⟩) ⟨(fun a U g mk q => ⟨q.1, q.2.1, va_K.moved (u := U) (U := U.calling g mk a) (Vm.Alike.refl U.vm) q.2.2⟩), va_recv hK hP (ci := 4) (q0 := 11) rfl rfl, fun U hU hW => ⟨rfl, by rw [hU]; exact hP, va_K.moved hW.alike hK⟩⟩ rfl rfl hl.1 rfl (lv_room (Nat.le_of_ble_eq_true rfl)) d_Cut_count_31 ⟨Nat.zero_le _, Nat.zero_le _⟩) ?_
      refine W.widen (k := 1) (n := 6) (Nat.le_of_ble_eq_true rfl) (Nat.le_of_ble_eq_true rfl) ?_
      refine vx_ret ?_
      exact W.iret (v := nI (zcnt (w 1) (p0) (v 10))) hx hb hr (fun t9 ht hW => ⟨⟨nI (zcnt (w 1) (p0) (v 10)), (), rfl, ⟨(by unfold k_count; rw [if_neg (by omega)]), rfl⟩, by rw [ht]; exact hP, va_K.moved hW.alike hK, hD⟩, hS.F ht⟩) hS.2.2 d_Cut_count_34
    · have c_13 : ¬ (z0 < ((v 9 : Nat) : Int)) := fun q => c_13 ((zz_lt (h0) (nI_toInt (by omega))).mpr q)
      obtain ⟨sa, hsa⟩ := hT9.2.1 (94, "no such wanted length") (by decide)
      exact vx_throwS (cls := "java/lang/IndexOutOfBoundsException") (names := ["java/lang/RuntimeException", "java/lang/Exception"]) (ik := 92) (is := 94) (ic := 96) hx hb hl9 hown (by decide) (by decide) (hz _ tw_359) (hz _ tw_27) hsa (zhat_IOB hz hT9) zgd_IOB hU9 hN9 hS (hl.1.trans hml.symm) d_Cut_count_16 d_Cut_count_19 d_Cut_count_20 d_Cut_count_22 d_Cut_count_25 (fun x hx9 => (hno x hx9).elim) (Nat.le_of_ble_eq_true rfl) (Nat.le_of_ble_eq_true rfl) (Nat.le_of_ble_eq_true rfl) (Nat.le_of_ble_eq_true rfl) hlocks (fun t9 ha hz9 hk9 => ⟨(), trivial, ⟨⟨rfl, (by unfold k_count; rw [if_pos (by omega)])⟩, hP.kept (fun k q hk => hk9 q.1 (vx_lt hP hk)), va_K.moved ha hK, hD⟩, ⟨hz9, fun q h1 _ => hk9 q h1⟩⟩) hS.2.2 (Nat.le_of_ble_eq_true rfl) (Nat.le_of_ble_eq_true rfl)
