theorem zz_up0 (g : Nat → Int64) (x : Int64) : vp_updL g (nI 0).toNatClampNeg x 0 = x := by
  unfold vp_updL
  rw [nI_clamp (by decide), if_pos rfl]
/-! THE LAW: its twelve callers of the class, which catch (rows written by wip/whole/mk_law.py) -/
abbrev wCo (a : Nat → Nat) (o : Nat) (cI cZ cJ : ClassId) (v : Nat → Nat) (f : Nat → Nat → Nat) (w : Nat → Nat → Int32) (g : Nat → Int64) : va_W := wC a cI cZ v f w ++ [(o, .inl (cJ, 1, .inr (.inl g)))]
set_option maxHeartbeats 4000000 in
set_option maxRecDepth 100000 in
theorem c_Law_step (l : Launch) (hl9 : l.stackTraces = false) (dC : Nat → ClassId) (dI : Nat → Nat → Nat) (a : Nat → Nat) (o : Nat) (cI cZ cJ : ClassId) (v : Nat → Nat) (f : Nat → Nat → Nat) (w : Nat → Nat → Int32) (g : Nat → Int64) (sz : Nat) (p0 : Int32) (z0 : Int) (h0 : p0.toInt = z0) (p1 : Int32) (z1 : Int) (h1 : p1.toInt = z1) (hI : zI v f) : Met l y_Law_step (zw_Law_step :: zW) ({ frames := 7, cells := 1, slots := 6, locals := 112 }) (va_Pc [.ref (a 0), .int (p0), .int (p1)] (fun U => U.heap.size = sz ∧ va_P (dC, dI) vwCl (wCo a o cI cZ cJ v f w g) U.heap ∧ va_K (dC, dI) vwCl [(cI, .int), (cZ, .boolean), (cJ, .long)] U ∧ va_D (fun _ => True) (wCo a o cI cZ cJ v f w g) ∧ zX (va_A (wCo a o cI cZ cJ v f w g) sz) U U.heap)) (va_Qi (fun (r : Int32) (u : ZS × (Nat → Int64)) => (k_step (v 10) z0 z1 = 0 ∧ r = nI 0 ∧ u.1 = ((zu (zu v 0 (z0.toNat)) 1 (z1.toNat)), f, w)) ∨ (∃ c9, c9 ≠ 0 ∧ k_step (v 10) z0 z1 = c9 ∧ r = nI c9 ∧ u.1 = (v, f, w))) (fun (u : ZS × (Nat → Int64)) t => match u with | ((v9, f9, w9), g9) => va_P (dC, dI) vwCl (wCo a o cI cZ cJ v9 f9 w9 g9) t.heap ∧ va_K (dC, dI) vwCl [(cI, .int), (cZ, .boolean), (cJ, .long)] t ∧ va_D (va_A (wCo a o cI cZ cJ v f w g) sz) (wCo a o cI cZ cJ v9 f9 w9 g9)) (va_A (wCo a o cI cZ cJ v f w g) sz)) 1 6 (va_A (wCo a o cI cZ cJ v f w g) sz) := by
  refine va_MetW (cc := method_3_code) (maxL := 4) (ret := some .int) (hh := [(0, 6, 9, 13), (0, 6, 12, 15)]) (by decide) rfl ?_
  intro p e s m args below meth c s₁ B hml hv
  obtain ⟨rfl, hsz, hP, hK, hD0, hX9⟩ := hv
  have hx := B.exec
  have hb := B.bytes
  have hr := B.returns
  have hz : ∀ w ∈ zW, w.before ([.ref (a 0), .int (p0), .int (p1)]).toArray s = true := fun w h => atoms_spec (ws := (zw_Law_step :: zW)) B.pre w (List.mem_cons_of_mem _ h)
  have hown : s.vm.findClass "CutLengthsLaw" = some m.cls := findClass_of_methodNamed B.named
  have hlocks := B.notSynchronized
  have htb : c.exceptionTable.toList = tableOf [(0, 6, 9, 13), (0, 6, 12, 15)] := vx_table (x := y_Law_step) B (hz _ tw_213)
  subst hsz
  have hD := hD0.self (sz := s.heap.size)
  generalize hAe : va_A (wCo a o cI cZ cJ v f w g) s.heap.size = A at hD hX9 ⊢
  have hA : ∀ q : Nat, s.heap.size ≤ q → A q := fun q h => by rw [← hAe]; exact Or.inr h
  have hS : va_S A s.heap s.heap [] := va_S.rf
  have hP : va_P (dC, dI) vwCl (wCo a o cI cZ cJ v f w g) s.heap := hP
  have hl := lv_entry ([.ref (a 0), .int (p0), .int (p1)]) (n := 4) (Nat.le_of_ble_eq_true rfl)
  rw [lg_entry_eq]
  generalize (lg_sl ([.ref (a 0), .int (p0), .int (p1)]) ++ List.replicate (4 - (lg_sl ([.ref (a 0), .int (p0), .int (p1)])).length) Slot.unset).toArray = ls at hl ⊢
  have hl : lv_has ls 4 [(0, .ref (a 0)), (1, .int (p0)), (2, .int (p1))] := hl
  refine lv_aload_n hx hb d_Law_step_0 rfl (lv_at hl 0 rfl) ?_
  refine lv_iload_n hx hb d_Law_step_1 rfl (lv_at hl 1 rfl) ?_
  refine lv_iload_n hx hb d_Law_step_2 rfl (lv_at hl 2 rfl) ?_
  have hPc := hP.sub (ws' := (wC a cI cZ v f w)) [0, 1, 2, 3, 4, 5, 6, 7, 8, 9, 10, 11, 12, 13, 14] rfl
  have hDc := hD.sub (ws' := (wC a cI cZ v f w)) [0, 1, 2, 3, 4, 5, 6, 7, 8, 9, 10, 11, 12, 13, 14] (by decide) rfl
  have hKc := hK.sub (tys' := [(cI, .int), (cZ, .boolean)]) [0, 1] rfl
  have hFc := va_free (wc := (wC a cI cZ v f w)) hD hS hA [0, 1, 2, 3, 4, 5, 6, 7, 8, 9, 10, 11, 12, 13, 14] rfl
  refine vx_callv (vx_runV (As := [.int (p0), .int (p1)]) (rest := []) ⟨hx, hb, hml, hown, hz⟩ (c_Cut_step l hl9 dC dI a cI cZ v f w s.heap.size p0 z0 h0 p1 z1 h1 hI) (cwV (C := "CutLengths") 2 hz (zgV tw_216 tw_217 tw_218 tw_15 tw_219) rfl rfl rfl (by decide +kernel) ⟨Nat.le_of_ble_eq_true rfl, Nat.le_of_ble_eq_true rfl⟩) ⟨(fun a U g mk q => by obtain ⟨q0, q1, qP, qK, qD, qX⟩ := q; exact ⟨q0, q1, qP, va_K.moved (u := U) (U := U.calling g mk a) (Vm.Alike.refl U.vm) qK, qD, zX.call qX⟩), va_recv hKc hPc (ci := 0) (q0 := 0) rfl rfl, fun U hU hW => ⟨rfl, by rw [hU], by rw [hU]; exact hPc, va_K.moved hW.alike hKc, hDc.weaken (fun _ _ _ _ => trivial), hX9.go hS hU hW hFc⟩⟩ rfl rfl hl.1 rfl (lv_room (Nat.le_of_ble_eq_true rfl)) d_Law_step_3 ⟨Nat.le_of_ble_eq_true rfl, Nat.le_of_ble_eq_true rfl⟩) hS (fun q _ h => hFc q h) hFc (fun q _ h => hFc q h) (fun E ce q9 u9 t9 H1 locs ht hvm hpx hB hz1 hk1 hS hce hcv hcl => ?_) (fun u9 t9 H1 locs ht hvm hw hB hz1 hk1 hS => ?_)
  · obtain ⟨hth, hP1, hK1, hD1⟩ := hB
    rw [ht] at hP1
    obtain ⟨hP, hD⟩ := va_join (wr := [(o, .inl (cJ, 1, .inr (.inl g)))]) (w1 := (wC a cI cZ v f w)) hP hD [0, 1, 2, 3, 4, 5, 6, 7, 8, 9, 10, 11, 12, 13, 14] [15] rfl rfl (by decide) (by decide) hk1 hFc hP1 hD1
    have hP := hP.sub (ws' := (wCo a o cI cZ cJ v f w g)) [1, 2, 3, 4, 5, 6, 7, 8, 9, 10, 11, 12, 13, 14, 15, 0] rfl
    have hD := hD.sub (ws' := (wCo a o cI cZ cJ v f w g)) [1, 2, 3, 4, 5, 6, 7, 8, 9, 10, 11, 12, 13, 14, 15, 0] (by decide) rfl
    rcases hth with ⟨rfl, hk⟩ | ⟨rfl, hk⟩
    · refine vx_catch (own := "CutLengthsLaw") (name := "java/lang/IllegalStateException") hown [] { startPc := 0, endPc := 6, handlerPc := 9, catchType := 13 } [{ startPc := 0, endPc := 6, handlerPc := 12, catchType := 15 }] (htb.trans rfl) (fun z hz9 => absurd hz9 List.not_mem_nil) (by decide) (by decide) (hz _ tw_214) (zNG_use hX9.2.2 _ (by decide)) hce hcv hcl ?_
      refine lv_astore_n (lv' := [(3, .ref (q9)), (0, .ref (a 0)), (1, .int (p0)), (2, .int (p1))]) hx hb d_Law_step_9 rfl hl (by decide) rfl (fun ls hl => ?_)
      refine lv_iconst (v := nI 1) hx hb d_Law_step_10 (by decide) ?_
      refine W.widen (k := 1) (n := 6) (Nat.le_of_ble_eq_true rfl) (Nat.le_of_ble_eq_true rfl) ?_
      exact W.iret (v := nI 1) hx hb hr (fun t9 ht hW => ⟨⟨nI 1, ((v, f, w), g), rfl, Or.inr ⟨1, by decide, hk, rfl, rfl⟩, by rw [ht]; exact hP, va_K.moved hW.alike hK, hD⟩, hS.F ht⟩) hS.2.2 d_Law_step_11
    · refine vx_catch (own := "CutLengthsLaw") (name := "java/lang/IllegalArgumentException") hown [{ startPc := 0, endPc := 6, handlerPc := 9, catchType := 13 }] { startPc := 0, endPc := 6, handlerPc := 12, catchType := 15 } [] (htb.trans rfl) (fun z hz9 => by rw [List.mem_singleton.mp hz9]; exact Or.inr ⟨by decide, "java/lang/IllegalStateException", hz _ tw_214, hX9.2.2.2.2 ("java/lang/IllegalArgumentException", "java/lang/IllegalStateException") (by decide)⟩) (by decide) (by decide) (hz _ tw_215) (zNG_use hX9.2.2 _ (by decide)) hce hcv hcl ?_
      refine lv_astore_n (lv' := [(3, .ref (q9)), (0, .ref (a 0)), (1, .int (p0)), (2, .int (p1))]) hx hb d_Law_step_12 rfl hl (by decide) rfl (fun ls hl => ?_)
      refine lv_iconst (v := nI 2) hx hb d_Law_step_13 (by decide) ?_
      refine W.widen (k := 1) (n := 6) (Nat.le_of_ble_eq_true rfl) (Nat.le_of_ble_eq_true rfl) ?_
      exact W.iret (v := nI 2) hx hb hr (fun t9 ht hW => ⟨⟨nI 2, ((v, f, w), g), rfl, Or.inr ⟨2, by decide, hk, rfl, rfl⟩, by rw [ht]; exact hP, va_K.moved hW.alike hK, hD⟩, hS.F ht⟩) hS.2.2 d_Law_step_14
  · skip
    obtain ⟨hP1, hK1, hD1⟩ := hB
    rw [ht] at hP1
    obtain ⟨hP, hD⟩ := va_join (wr := [(o, .inl (cJ, 1, .inr (.inl g)))]) (w1 := (wC a cI cZ (zu (zu v 0 (z0.toNat)) 1 (z1.toNat)) f w)) hP hD [0, 1, 2, 3, 4, 5, 6, 7, 8, 9, 10, 11, 12, 13, 14] [15] rfl rfl (by decide) (by decide) hk1 hFc hP1 hD1
    have hP := hP.sub (ws' := (wCo a o cI cZ cJ (zu (zu v 0 (z0.toNat)) 1 (z1.toNat)) f w g)) [1, 2, 3, 4, 5, 6, 7, 8, 9, 10, 11, 12, 13, 14, 15, 0] rfl
    have hD := hD.sub (ws' := (wCo a o cI cZ cJ (zu (zu v 0 (z0.toNat)) 1 (z1.toNat)) f w g)) [1, 2, 3, 4, 5, 6, 7, 8, 9, 10, 11, 12, 13, 14, 15, 0] (by decide) rfl
    have hk := hw
    refine lv_goto (tgt := 15) hx hb d_Law_step_6 (by decide) ?_
    refine lv_iconst (v := nI 0) hx hb d_Law_step_15 (by decide) ?_
    refine W.widen (k := 1) (n := 6) (Nat.le_of_ble_eq_true rfl) (Nat.le_of_ble_eq_true rfl) ?_
    exact W.iret (v := nI 0) hx hb hr (fun t9 ht hW => ⟨⟨nI 0, (((zu (zu v 0 (z0.toNat)) 1 (z1.toNat)), f, w), g), rfl, Or.inl ⟨hk, rfl, rfl⟩, by rw [ht]; exact hP, va_K.moved hW.alike hK, hD⟩, hS.F ht⟩) hS.2.2 d_Law_step_16
set_option maxHeartbeats 4000000 in
set_option maxRecDepth 100000 in
theorem c_Law_cast (l : Launch) (hl9 : l.stackTraces = false) (dC : Nat → ClassId) (dI : Nat → Nat → Nat) (a : Nat → Nat) (o : Nat) (cI cZ cJ : ClassId) (v : Nat → Nat) (f : Nat → Nat → Nat) (w : Nat → Nat → Int32) (g : Nat → Int64) (sz : Nat) (p0 : Int32) (z0 : Int) (h0 : p0.toInt = z0) (hI : zI v f) : Met l y_Law_cast (zw_Law_cast :: zW) ({ frames := 7, cells := 1, slots := 6, locals := 111 }) (va_Pc [.ref (a 0), .int (p0), .ref (o)] (fun U => U.heap.size = sz ∧ va_P (dC, dI) vwCl (wCo a o cI cZ cJ v f w g) U.heap ∧ va_K (dC, dI) vwCl [(cI, .int), (cZ, .boolean), (cJ, .long)] U ∧ va_D (fun _ => True) (wCo a o cI cZ cJ v f w g) ∧ zX (va_A (wCo a o cI cZ cJ v f w g) sz) U U.heap)) (va_Qi (fun (r : Int32) (u : ZS × (Nat → Int64)) => (k_cast (v 3) z0 = 0 ∧ r = nI 0 ∧ u.1 = ((zu (zu v 3 (v 3 + z0.toNat)) 2 (1)), f, w) ∧ u.2 0 = (nI (v 3 + z0.toNat)).toInt64) ∨ (∃ c9, c9 ≠ 0 ∧ k_cast (v 3) z0 = c9 ∧ r = nI c9 ∧ u.1 = (v, f, w))) (fun (u : ZS × (Nat → Int64)) t => match u with | ((v9, f9, w9), g9) => va_P (dC, dI) vwCl (wCo a o cI cZ cJ v9 f9 w9 g9) t.heap ∧ va_K (dC, dI) vwCl [(cI, .int), (cZ, .boolean), (cJ, .long)] t ∧ va_D (va_A (wCo a o cI cZ cJ v f w g) sz) (wCo a o cI cZ cJ v9 f9 w9 g9)) (va_A (wCo a o cI cZ cJ v f w g) sz)) 1 6 (va_A (wCo a o cI cZ cJ v f w g) sz) := by
  refine va_MetW (cc := method_4_code) (maxL := 4) (ret := some .int) (hh := [(0, 9, 12, 15), (0, 9, 15, 21)]) (by decide) rfl ?_
  intro p e s m args below meth c s₁ B hml hv
  obtain ⟨rfl, hsz, hP, hK, hD0, hX9⟩ := hv
  have hx := B.exec
  have hb := B.bytes
  have hr := B.returns
  have hz : ∀ w ∈ zW, w.before ([.ref (a 0), .int (p0), .ref (o)]).toArray s = true := fun w h => atoms_spec (ws := (zw_Law_cast :: zW)) B.pre w (List.mem_cons_of_mem _ h)
  have hown : s.vm.findClass "CutLengthsLaw" = some m.cls := findClass_of_methodNamed B.named
  have hlocks := B.notSynchronized
  have htb : c.exceptionTable.toList = tableOf [(0, 9, 12, 15), (0, 9, 15, 21)] := vx_table (x := y_Law_cast) B (hz _ tw_312)
  subst hsz
  have hD := hD0.self (sz := s.heap.size)
  generalize hAe : va_A (wCo a o cI cZ cJ v f w g) s.heap.size = A at hD hX9 ⊢
  have hA : ∀ q : Nat, s.heap.size ≤ q → A q := fun q h => by rw [← hAe]; exact Or.inr h
  have hS : va_S A s.heap s.heap [] := va_S.rf
  have hP : va_P (dC, dI) vwCl (wCo a o cI cZ cJ v f w g) s.heap := hP
  have hl := lv_entry ([.ref (a 0), .int (p0), .ref (o)]) (n := 4) (Nat.le_of_ble_eq_true rfl)
  rw [lg_entry_eq]
  generalize (lg_sl ([.ref (a 0), .int (p0), .ref (o)]) ++ List.replicate (4 - (lg_sl ([.ref (a 0), .int (p0), .ref (o)])).length) Slot.unset).toArray = ls at hl ⊢
  have hl : lv_has ls 4 [(0, .ref (a 0)), (1, .int (p0)), (2, .ref (o))] := hl
  refine lv_aload_n hx hb d_Law_cast_0 rfl (lv_at hl 2 rfl) ?_
  refine lv_iconst (v := nI 0) hx hb d_Law_cast_1 (by decide) ?_
  refine lv_aload_n hx hb d_Law_cast_2 rfl (lv_at hl 0 rfl) ?_
  refine lv_iload_n hx hb d_Law_cast_3 rfl (lv_at hl 1 rfl) ?_
  have hPc := hP.sub (ws' := (wC a cI cZ v f w)) [0, 1, 2, 3, 4, 5, 6, 7, 8, 9, 10, 11, 12, 13, 14] rfl
  have hDc := hD.sub (ws' := (wC a cI cZ v f w)) [0, 1, 2, 3, 4, 5, 6, 7, 8, 9, 10, 11, 12, 13, 14] (by decide) rfl
  have hKc := hK.sub (tys' := [(cI, .int), (cZ, .boolean)]) [0, 1] rfl
  have hFc := va_free (wc := (wC a cI cZ v f w)) hD hS hA [0, 1, 2, 3, 4, 5, 6, 7, 8, 9, 10, 11, 12, 13, 14] rfl
  refine vx_calli (vx_runV (As := [.int (p0)]) (rest := [.int (nI (0)), .ref (o)]) ⟨hx, hb, hml, hown, hz⟩ (c_Cut_cast l hl9 dC dI a cI cZ v f w s.heap.size p0 z0 h0 hI) (cwV (C := "CutLengths") 1 hz (zgV tw_314 tw_315 tw_316 tw_15 tw_317) rfl rfl rfl (by decide +kernel) ⟨Nat.le_of_ble_eq_true rfl, Nat.le_of_ble_eq_true rfl⟩) ⟨(fun a U g mk q => by obtain ⟨q0, q1, qP, qK, qD, qX⟩ := q; exact ⟨q0, q1, qP, va_K.moved (u := U) (U := U.calling g mk a) (Vm.Alike.refl U.vm) qK, qD, zX.call qX⟩), va_recv hKc hPc (ci := 0) (q0 := 0) rfl rfl, fun U hU hW => ⟨rfl, by rw [hU], by rw [hU]; exact hPc, va_K.moved hW.alike hKc, hDc.weaken (fun _ _ _ _ => trivial), hX9.go hS hU hW hFc⟩⟩ rfl rfl hl.1 rfl (lv_room (Nat.le_of_ble_eq_true rfl)) d_Law_cast_4 ⟨Nat.le_of_ble_eq_true rfl, Nat.le_of_ble_eq_true rfl⟩) hS (fun q _ h => hFc q h) hFc (fun q _ h => hFc q h) (fun E ce q9 u9 t9 H1 locs ht hvm hpx hB hz1 hk1 hS hce hcv hcl => ?_) (fun r9 u9 t9 H1 locs ht hvm hw hB hz1 hk1 hS => ?_)
  · obtain ⟨hth, hP1, hK1, hD1⟩ := hB
    rw [ht] at hP1
    obtain ⟨hP, hD⟩ := va_join (wr := [(o, .inl (cJ, 1, .inr (.inl g)))]) (w1 := (wC a cI cZ v f w)) hP hD [0, 1, 2, 3, 4, 5, 6, 7, 8, 9, 10, 11, 12, 13, 14] [15] rfl rfl (by decide) (by decide) hk1 hFc hP1 hD1
    have hP := hP.sub (ws' := (wCo a o cI cZ cJ v f w g)) [1, 2, 3, 4, 5, 6, 7, 8, 9, 10, 11, 12, 13, 14, 15, 0] rfl
    have hD := hD.sub (ws' := (wCo a o cI cZ cJ v f w g)) [1, 2, 3, 4, 5, 6, 7, 8, 9, 10, 11, 12, 13, 14, 15, 0] (by decide) rfl
    rcases hth with ⟨rfl, hk⟩ | ⟨rfl, hk⟩
    · refine vx_catch (own := "CutLengthsLaw") (name := "java/lang/IllegalArgumentException") hown [] { startPc := 0, endPc := 9, handlerPc := 12, catchType := 15 } [{ startPc := 0, endPc := 9, handlerPc := 15, catchType := 21 }] (htb.trans rfl) (fun z hz9 => absurd hz9 List.not_mem_nil) (by decide) (by decide) (hz _ tw_215) (zNG_use hX9.2.2 _ (by decide)) hce hcv hcl ?_
      refine lv_astore_n (lv' := [(3, .ref (q9)), (0, .ref (a 0)), (1, .int (p0)), (2, .ref (o))]) hx hb d_Law_cast_12 rfl hl (by decide) rfl (fun ls hl => ?_)
      refine lv_iconst (v := nI 1) hx hb d_Law_cast_13 (by decide) ?_
      refine W.widen (k := 1) (n := 6) (Nat.le_of_ble_eq_true rfl) (Nat.le_of_ble_eq_true rfl) ?_
      exact W.iret (v := nI 1) hx hb hr (fun t9 ht hW => ⟨⟨nI 1, ((v, f, w), g), rfl, Or.inr ⟨1, by decide, hk, rfl, rfl⟩, by rw [ht]; exact hP, va_K.moved hW.alike hK, hD⟩, hS.F ht⟩) hS.2.2 d_Law_cast_14
    · refine vx_catch (own := "CutLengthsLaw") (name := "java/lang/UnsupportedOperationException") hown [{ startPc := 0, endPc := 9, handlerPc := 12, catchType := 15 }] { startPc := 0, endPc := 9, handlerPc := 15, catchType := 21 } [] (htb.trans rfl) (fun z hz9 => by rw [List.mem_singleton.mp hz9]; exact Or.inr ⟨by decide, "java/lang/IllegalArgumentException", hz _ tw_215, hX9.2.2.2.2 ("java/lang/UnsupportedOperationException", "java/lang/IllegalArgumentException") (by decide)⟩) (by decide) (by decide) (hz _ tw_313) (zNG_use hX9.2.2 _ (by decide)) hce hcv hcl ?_
      refine lv_astore_n (lv' := [(3, .ref (q9)), (0, .ref (a 0)), (1, .int (p0)), (2, .ref (o))]) hx hb d_Law_cast_15 rfl hl (by decide) rfl (fun ls hl => ?_)
      refine lv_iconst (v := nI 2) hx hb d_Law_cast_16 (by decide) ?_
      refine W.widen (k := 1) (n := 6) (Nat.le_of_ble_eq_true rfl) (Nat.le_of_ble_eq_true rfl) ?_
      exact W.iret (v := nI 2) hx hb hr (fun t9 ht hW => ⟨⟨nI 2, ((v, f, w), g), rfl, Or.inr ⟨2, by decide, hk, rfl, rfl⟩, by rw [ht]; exact hP, va_K.moved hW.alike hK, hD⟩, hS.F ht⟩) hS.2.2 d_Law_cast_17
  · skip
    obtain ⟨hP1, hK1, hD1⟩ := hB
    rw [ht] at hP1
    obtain ⟨hP, hD⟩ := va_join (wr := [(o, .inl (cJ, 1, .inr (.inl g)))]) (w1 := (wC a cI cZ (zu (zu v 3 (v 3 + z0.toNat)) 2 (1)) f w)) hP hD [0, 1, 2, 3, 4, 5, 6, 7, 8, 9, 10, 11, 12, 13, 14] [15] rfl rfl (by decide) (by decide) hk1 hFc hP1 hD1
    have hP := hP.sub (ws' := (wCo a o cI cZ cJ (zu (zu v 3 (v 3 + z0.toNat)) 2 (1)) f w g)) [1, 2, 3, 4, 5, 6, 7, 8, 9, 10, 11, 12, 13, 14, 15, 0] rfl
    have hD := hD.sub (ws' := (wCo a o cI cZ cJ (zu (zu v 3 (v 3 + z0.toNat)) 2 (1)) f w g)) [1, 2, 3, 4, 5, 6, 7, 8, 9, 10, 11, 12, 13, 14, 15, 0] (by decide) rfl
    obtain ⟨hk, hr9⟩ := hw
    subst hr9
    refine lv_i2l (v := (nI (v 3 + z0.toNat)).toInt64) hx hb d_Law_cast_7 rfl ?_
    refine va_last (x := (nI (v 3 + z0.toNat)).toInt64) hx hb hK hP hD hS 15 2 rfl rfl (vp_in_nI (by decide) (by decide)) d_Law_cast_8 (fun H locs hP hD hS => ?_)
    have hP : va_P (dC, dI) vwCl (wCo a o cI cZ cJ (zu (zu v 3 (v 3 + z0.toNat)) 2 (1)) f w (vp_updL g (nI 0).toNatClampNeg ((nI (v 3 + z0.toNat)).toInt64))) H := hP
    have hD : va_D A (wCo a o cI cZ cJ (zu (zu v 3 (v 3 + z0.toNat)) 2 (1)) f w (vp_updL g (nI 0).toNatClampNeg ((nI (v 3 + z0.toNat)).toInt64))) := hD
    refine lv_goto (tgt := 18) hx hb d_Law_cast_9 (by decide) ?_
    refine lv_iconst (v := nI 0) hx hb d_Law_cast_18 (by decide) ?_
    refine W.widen (k := 1) (n := 6) (Nat.le_of_ble_eq_true rfl) (Nat.le_of_ble_eq_true rfl) ?_
    exact W.iret (v := nI 0) hx hb hr (fun t9 ht hW => ⟨⟨nI 0, (((zu (zu v 3 (v 3 + z0.toNat)) 2 (1)), f, w), (vp_updL g (nI 0).toNatClampNeg ((nI (v 3 + z0.toNat)).toInt64))), rfl, Or.inl ⟨hk, rfl, rfl, zz_up0 g _⟩, by rw [ht]; exact hP, va_K.moved hW.alike hK, hD⟩, hS.F ht⟩) hS.2.2 d_Law_cast_19
set_option maxHeartbeats 4000000 in
set_option maxRecDepth 100000 in
theorem c_Law_want (l : Launch) (hl9 : l.stackTraces = false) (dC : Nat → ClassId) (dI : Nat → Nat → Nat) (a : Nat → Nat) (o : Nat) (cI cZ cJ : ClassId) (v : Nat → Nat) (f : Nat → Nat → Nat) (w : Nat → Nat → Int32) (g : Nat → Int64) (sz : Nat) (p0 : Int32) (z0 : Int) (h0 : p0.toInt = z0) (p1 : Int32) (z1 : Int) (h1 : p1.toInt = z1) (hI : zI v f) : Met l y_Law_want (zw_Law_want :: zW) ({ frames := 7, cells := 1, slots := 6, locals := 113 }) (va_Pc [.ref (a 0), .int (p0), .int (p1), .ref (o)] (fun U => U.heap.size = sz ∧ va_P (dC, dI) vwCl (wCo a o cI cZ cJ v f w g) U.heap ∧ va_K (dC, dI) vwCl [(cI, .int), (cZ, .boolean), (cJ, .long)] U ∧ va_D (fun _ => True) (wCo a o cI cZ cJ v f w g) ∧ zX (va_A (wCo a o cI cZ cJ v f w g) sz) U U.heap)) (va_Qi (fun (r : Int32) (u : ZS × (Nat → Int64)) => (k_want (v 9) z0 z1 = 0 ∧ r = nI 0 ∧ u.1 = ((zu (zu v 9 (v 9 + 1)) 2 (1)), (zu (zu f 2 (va_up (f 2) (v 9) z0.toNat)) 3 (va_up (f 3) (v 9) z1.toNat)), w) ∧ u.2 0 = (nI (v 9)).toInt64) ∨ (∃ c9, c9 ≠ 0 ∧ k_want (v 9) z0 z1 = c9 ∧ r = nI c9 ∧ u.1 = (v, f, w))) (fun (u : ZS × (Nat → Int64)) t => match u with | ((v9, f9, w9), g9) => va_P (dC, dI) vwCl (wCo a o cI cZ cJ v9 f9 w9 g9) t.heap ∧ va_K (dC, dI) vwCl [(cI, .int), (cZ, .boolean), (cJ, .long)] t ∧ va_D (va_A (wCo a o cI cZ cJ v f w g) sz) (wCo a o cI cZ cJ v9 f9 w9 g9)) (va_A (wCo a o cI cZ cJ v f w g) sz)) 1 6 (va_A (wCo a o cI cZ cJ v f w g) sz) := by
  refine va_MetW (cc := method_5_code) (maxL := 5) (ret := some .int) (hh := [(0, 10, 13, 13), (0, 10, 17, 15)]) (by decide) rfl ?_
  intro p e s m args below meth c s₁ B hml hv
  obtain ⟨rfl, hsz, hP, hK, hD0, hX9⟩ := hv
  have hx := B.exec
  have hb := B.bytes
  have hr := B.returns
  have hz : ∀ w ∈ zW, w.before ([.ref (a 0), .int (p0), .int (p1), .ref (o)]).toArray s = true := fun w h => atoms_spec (ws := (zw_Law_want :: zW)) B.pre w (List.mem_cons_of_mem _ h)
  have hown : s.vm.findClass "CutLengthsLaw" = some m.cls := findClass_of_methodNamed B.named
  have hlocks := B.notSynchronized
  have htb : c.exceptionTable.toList = tableOf [(0, 10, 13, 13), (0, 10, 17, 15)] := vx_table (x := y_Law_want) B (hz _ tw_337)
  subst hsz
  have hD := hD0.self (sz := s.heap.size)
  generalize hAe : va_A (wCo a o cI cZ cJ v f w g) s.heap.size = A at hD hX9 ⊢
  have hA : ∀ q : Nat, s.heap.size ≤ q → A q := fun q h => by rw [← hAe]; exact Or.inr h
  have hS : va_S A s.heap s.heap [] := va_S.rf
  have hP : va_P (dC, dI) vwCl (wCo a o cI cZ cJ v f w g) s.heap := hP
  have hl := lv_entry ([.ref (a 0), .int (p0), .int (p1), .ref (o)]) (n := 5) (Nat.le_of_ble_eq_true rfl)
  rw [lg_entry_eq]
  generalize (lg_sl ([.ref (a 0), .int (p0), .int (p1), .ref (o)]) ++ List.replicate (5 - (lg_sl ([.ref (a 0), .int (p0), .int (p1), .ref (o)])).length) Slot.unset).toArray = ls at hl ⊢
  have hl : lv_has ls 5 [(0, .ref (a 0)), (1, .int (p0)), (2, .int (p1)), (3, .ref (o))] := hl
  refine lv_aload_n hx hb d_Law_want_0 rfl (lv_at hl 3 rfl) ?_
  refine lv_iconst (v := nI 0) hx hb d_Law_want_1 (by decide) ?_
  refine lv_aload_n hx hb d_Law_want_2 rfl (lv_at hl 0 rfl) ?_
  refine lv_iload_n hx hb d_Law_want_3 rfl (lv_at hl 1 rfl) ?_
  refine lv_iload_n hx hb d_Law_want_4 rfl (lv_at hl 2 rfl) ?_
  have hPc := hP.sub (ws' := (wC a cI cZ v f w)) [0, 1, 2, 3, 4, 5, 6, 7, 8, 9, 10, 11, 12, 13, 14] rfl
  have hDc := hD.sub (ws' := (wC a cI cZ v f w)) [0, 1, 2, 3, 4, 5, 6, 7, 8, 9, 10, 11, 12, 13, 14] (by decide) rfl
  have hKc := hK.sub (tys' := [(cI, .int), (cZ, .boolean)]) [0, 1] rfl
  have hFc := va_free (wc := (wC a cI cZ v f w)) hD hS hA [0, 1, 2, 3, 4, 5, 6, 7, 8, 9, 10, 11, 12, 13, 14] rfl
  refine vx_calli (vx_runV (As := [.int (p0), .int (p1)]) (rest := [.int (nI (0)), .ref (o)]) ⟨hx, hb, hml, hown, hz⟩ (c_Cut_want l hl9 dC dI a cI cZ v f w s.heap.size p0 z0 h0 p1 z1 h1 hI) (cwV (C := "CutLengths") 2 hz (zgV tw_338 tw_339 tw_340 tw_15 tw_341) rfl rfl rfl (by decide +kernel) ⟨Nat.le_of_ble_eq_true rfl, Nat.le_of_ble_eq_true rfl⟩) ⟨(fun a U g mk q => by obtain ⟨q0, q1, qP, qK, qD, qX⟩ := q; exact ⟨q0, q1, qP, va_K.moved (u := U) (U := U.calling g mk a) (Vm.Alike.refl U.vm) qK, qD, zX.call qX⟩), va_recv hKc hPc (ci := 0) (q0 := 0) rfl rfl, fun U hU hW => ⟨rfl, by rw [hU], by rw [hU]; exact hPc, va_K.moved hW.alike hKc, hDc.weaken (fun _ _ _ _ => trivial), hX9.go hS hU hW hFc⟩⟩ rfl rfl hl.1 rfl (lv_room (Nat.le_of_ble_eq_true rfl)) d_Law_want_5 ⟨Nat.le_of_ble_eq_true rfl, Nat.le_of_ble_eq_true rfl⟩) hS (fun q _ h => hFc q h) hFc (fun q _ h => hFc q h) (fun E ce q9 u9 t9 H1 locs ht hvm hpx hB hz1 hk1 hS hce hcv hcl => ?_) (fun r9 u9 t9 H1 locs ht hvm hw hB hz1 hk1 hS => ?_)
  · obtain ⟨hth, hP1, hK1, hD1⟩ := hB
    rw [ht] at hP1
    obtain ⟨hP, hD⟩ := va_join (wr := [(o, .inl (cJ, 1, .inr (.inl g)))]) (w1 := (wC a cI cZ v f w)) hP hD [0, 1, 2, 3, 4, 5, 6, 7, 8, 9, 10, 11, 12, 13, 14] [15] rfl rfl (by decide) (by decide) hk1 hFc hP1 hD1
    have hP := hP.sub (ws' := (wCo a o cI cZ cJ v f w g)) [1, 2, 3, 4, 5, 6, 7, 8, 9, 10, 11, 12, 13, 14, 15, 0] rfl
    have hD := hD.sub (ws' := (wCo a o cI cZ cJ v f w g)) [1, 2, 3, 4, 5, 6, 7, 8, 9, 10, 11, 12, 13, 14, 15, 0] (by decide) rfl
    rcases hth with ⟨rfl, hk⟩ | ⟨rfl, hk⟩
    · refine vx_catch (own := "CutLengthsLaw") (name := "java/lang/IllegalStateException") hown [] { startPc := 0, endPc := 10, handlerPc := 13, catchType := 13 } [{ startPc := 0, endPc := 10, handlerPc := 17, catchType := 15 }] (htb.trans rfl) (fun z hz9 => absurd hz9 List.not_mem_nil) (by decide) (by decide) (hz _ tw_214) (zNG_use hX9.2.2 _ (by decide)) hce hcv hcl ?_
      refine lv_astore (lv' := [(4, .ref (q9)), (0, .ref (a 0)), (1, .int (p0)), (2, .int (p1)), (3, .ref (o))]) hx hb d_Law_want_13 hl (by decide) rfl (fun ls hl => ?_)
      refine lv_iconst (v := nI 1) hx hb d_Law_want_15 (by decide) ?_
      refine W.widen (k := 1) (n := 6) (Nat.le_of_ble_eq_true rfl) (Nat.le_of_ble_eq_true rfl) ?_
      exact W.iret (v := nI 1) hx hb hr (fun t9 ht hW => ⟨⟨nI 1, ((v, f, w), g), rfl, Or.inr ⟨1, by decide, hk, rfl, rfl⟩, by rw [ht]; exact hP, va_K.moved hW.alike hK, hD⟩, hS.F ht⟩) hS.2.2 d_Law_want_16
    · refine vx_catch (own := "CutLengthsLaw") (name := "java/lang/IllegalArgumentException") hown [{ startPc := 0, endPc := 10, handlerPc := 13, catchType := 13 }] { startPc := 0, endPc := 10, handlerPc := 17, catchType := 15 } [] (htb.trans rfl) (fun z hz9 => by rw [List.mem_singleton.mp hz9]; exact Or.inr ⟨by decide, "java/lang/IllegalStateException", hz _ tw_214, hX9.2.2.2.2 ("java/lang/IllegalArgumentException", "java/lang/IllegalStateException") (by decide)⟩) (by decide) (by decide) (hz _ tw_215) (zNG_use hX9.2.2 _ (by decide)) hce hcv hcl ?_
      refine lv_astore (lv' := [(4, .ref (q9)), (0, .ref (a 0)), (1, .int (p0)), (2, .int (p1)), (3, .ref (o))]) hx hb d_Law_want_17 hl (by decide) rfl (fun ls hl => ?_)
      refine lv_iconst (v := nI 2) hx hb d_Law_want_19 (by decide) ?_
      refine W.widen (k := 1) (n := 6) (Nat.le_of_ble_eq_true rfl) (Nat.le_of_ble_eq_true rfl) ?_
      exact W.iret (v := nI 2) hx hb hr (fun t9 ht hW => ⟨⟨nI 2, ((v, f, w), g), rfl, Or.inr ⟨2, by decide, hk, rfl, rfl⟩, by rw [ht]; exact hP, va_K.moved hW.alike hK, hD⟩, hS.F ht⟩) hS.2.2 d_Law_want_20
  · skip
    obtain ⟨hP1, hK1, hD1⟩ := hB
    rw [ht] at hP1
    obtain ⟨hP, hD⟩ := va_join (wr := [(o, .inl (cJ, 1, .inr (.inl g)))]) (w1 := (wC a cI cZ (zu (zu v 9 (v 9 + 1)) 2 (1)) (zu (zu f 2 (va_up (f 2) (v 9) z0.toNat)) 3 (va_up (f 3) (v 9) z1.toNat)) w)) hP hD [0, 1, 2, 3, 4, 5, 6, 7, 8, 9, 10, 11, 12, 13, 14] [15] rfl rfl (by decide) (by decide) hk1 hFc hP1 hD1
    have hP := hP.sub (ws' := (wCo a o cI cZ cJ (zu (zu v 9 (v 9 + 1)) 2 (1)) (zu (zu f 2 (va_up (f 2) (v 9) z0.toNat)) 3 (va_up (f 3) (v 9) z1.toNat)) w g)) [1, 2, 3, 4, 5, 6, 7, 8, 9, 10, 11, 12, 13, 14, 15, 0] rfl
    have hD := hD.sub (ws' := (wCo a o cI cZ cJ (zu (zu v 9 (v 9 + 1)) 2 (1)) (zu (zu f 2 (va_up (f 2) (v 9) z0.toNat)) 3 (va_up (f 3) (v 9) z1.toNat)) w g)) [1, 2, 3, 4, 5, 6, 7, 8, 9, 10, 11, 12, 13, 14, 15, 0] (by decide) rfl
    obtain ⟨hk, hr9⟩ := hw
    subst hr9
    refine lv_i2l (v := (nI (v 9)).toInt64) hx hb d_Law_want_8 rfl ?_
    refine va_last (x := (nI (v 9)).toInt64) hx hb hK hP hD hS 15 2 rfl rfl (vp_in_nI (by decide) (by decide)) d_Law_want_9 (fun H locs hP hD hS => ?_)
    have hP : va_P (dC, dI) vwCl (wCo a o cI cZ cJ (zu (zu v 9 (v 9 + 1)) 2 (1)) (zu (zu f 2 (va_up (f 2) (v 9) z0.toNat)) 3 (va_up (f 3) (v 9) z1.toNat)) w (vp_updL g (nI 0).toNatClampNeg ((nI (v 9)).toInt64))) H := hP
    have hD : va_D A (wCo a o cI cZ cJ (zu (zu v 9 (v 9 + 1)) 2 (1)) (zu (zu f 2 (va_up (f 2) (v 9) z0.toNat)) 3 (va_up (f 3) (v 9) z1.toNat)) w (vp_updL g (nI 0).toNatClampNeg ((nI (v 9)).toInt64))) := hD
    refine lv_goto (tgt := 21) hx hb d_Law_want_10 (by decide) ?_
    refine lv_iconst (v := nI 0) hx hb d_Law_want_21 (by decide) ?_
    refine W.widen (k := 1) (n := 6) (Nat.le_of_ble_eq_true rfl) (Nat.le_of_ble_eq_true rfl) ?_
    exact W.iret (v := nI 0) hx hb hr (fun t9 ht hW => ⟨⟨nI 0, (((zu (zu v 9 (v 9 + 1)) 2 (1)), (zu (zu f 2 (va_up (f 2) (v 9) z0.toNat)) 3 (va_up (f 3) (v 9) z1.toNat)), w), (vp_updL g (nI 0).toNatClampNeg ((nI (v 9)).toInt64))), rfl, Or.inl ⟨hk, rfl, rfl, zz_up0 g _⟩, by rw [ht]; exact hP, va_K.moved hW.alike hK, hD⟩, hS.F ht⟩) hS.2.2 d_Law_want_22
set_option maxHeartbeats 4000000 in
set_option maxRecDepth 100000 in
theorem c_Law_span (l : Launch) (hl9 : l.stackTraces = false) (dC : Nat → ClassId) (dI : Nat → Nat → Nat) (a : Nat → Nat) (o : Nat) (cI cZ cJ : ClassId) (v : Nat → Nat) (f : Nat → Nat → Nat) (w : Nat → Nat → Int32) (g : Nat → Int64) (sz : Nat) (p0 : Int32) (z0 : Int) (h0 : p0.toInt = z0) (p1 : Int32) (z1 : Int) (h1 : p1.toInt = z1) (p2 : Int32) (z2 : Int) (h2 : p2.toInt = z2) (hI : zI v f) : Met l y_Law_span (zw_Law_span :: zW) ({ frames := 7, cells := 1, slots := 6, locals := 113 }) (va_Pc [.ref (a 0), .int (p0), .int (p1), .int (p2)] (fun U => U.heap.size = sz ∧ va_P (dC, dI) vwCl (wCo a o cI cZ cJ v f w g) U.heap ∧ va_K (dC, dI) vwCl [(cI, .int), (cZ, .boolean), (cJ, .long)] U ∧ va_D (fun _ => True) (wCo a o cI cZ cJ v f w g) ∧ zX (va_A (wCo a o cI cZ cJ v f w g) sz) U U.heap)) (va_Qi (fun (r : Int32) (u : ZS × (Nat → Int64)) => (k_span (v 9) z0 z1 z2 = 0 ∧ r = nI 0 ∧ u.1 = ((zu v 2 (1)), (zu (zu f 2 (va_up (f 2) z0.toNat z1.toNat)) 3 (va_up (f 3) z0.toNat z2.toNat)), w)) ∨ (∃ c9, c9 ≠ 0 ∧ k_span (v 9) z0 z1 z2 = c9 ∧ r = nI c9 ∧ u.1 = (v, f, w))) (fun (u : ZS × (Nat → Int64)) t => match u with | ((v9, f9, w9), g9) => va_P (dC, dI) vwCl (wCo a o cI cZ cJ v9 f9 w9 g9) t.heap ∧ va_K (dC, dI) vwCl [(cI, .int), (cZ, .boolean), (cJ, .long)] t ∧ va_D (va_A (wCo a o cI cZ cJ v f w g) sz) (wCo a o cI cZ cJ v9 f9 w9 g9)) (va_A (wCo a o cI cZ cJ v f w g) sz)) 1 6 (va_A (wCo a o cI cZ cJ v f w g) sz) := by
  refine va_MetW (cc := method_6_code) (maxL := 5) (ret := some .int) (hh := [(0, 7, 10, 31), (0, 7, 14, 15)]) (by decide) rfl ?_
  intro p e s m args below meth c s₁ B hml hv
  obtain ⟨rfl, hsz, hP, hK, hD0, hX9⟩ := hv
  have hx := B.exec
  have hb := B.bytes
  have hr := B.returns
  have hz : ∀ w ∈ zW, w.before ([.ref (a 0), .int (p0), .int (p1), .int (p2)]).toArray s = true := fun w h => atoms_spec (ws := (zw_Law_span :: zW)) B.pre w (List.mem_cons_of_mem _ h)
  have hown : s.vm.findClass "CutLengthsLaw" = some m.cls := findClass_of_methodNamed B.named
  have hlocks := B.notSynchronized
  have htb : c.exceptionTable.toList = tableOf [(0, 7, 10, 31), (0, 7, 14, 15)] := vx_table (x := y_Law_span) B (hz _ tw_353)
  subst hsz
  have hD := hD0.self (sz := s.heap.size)
  generalize hAe : va_A (wCo a o cI cZ cJ v f w g) s.heap.size = A at hD hX9 ⊢
  have hA : ∀ q : Nat, s.heap.size ≤ q → A q := fun q h => by rw [← hAe]; exact Or.inr h
  have hS : va_S A s.heap s.heap [] := va_S.rf
  have hP : va_P (dC, dI) vwCl (wCo a o cI cZ cJ v f w g) s.heap := hP
  have hl := lv_entry ([.ref (a 0), .int (p0), .int (p1), .int (p2)]) (n := 5) (Nat.le_of_ble_eq_true rfl)
  rw [lg_entry_eq]
  generalize (lg_sl ([.ref (a 0), .int (p0), .int (p1), .int (p2)]) ++ List.replicate (5 - (lg_sl ([.ref (a 0), .int (p0), .int (p1), .int (p2)])).length) Slot.unset).toArray = ls at hl ⊢
  have hl : lv_has ls 5 [(0, .ref (a 0)), (1, .int (p0)), (2, .int (p1)), (3, .int (p2))] := hl
  refine lv_aload_n hx hb d_Law_span_0 rfl (lv_at hl 0 rfl) ?_
  refine lv_iload_n hx hb d_Law_span_1 rfl (lv_at hl 1 rfl) ?_
  refine lv_iload_n hx hb d_Law_span_2 rfl (lv_at hl 2 rfl) ?_
  refine lv_iload_n hx hb d_Law_span_3 rfl (lv_at hl 3 rfl) ?_
  have hPc := hP.sub (ws' := (wC a cI cZ v f w)) [0, 1, 2, 3, 4, 5, 6, 7, 8, 9, 10, 11, 12, 13, 14] rfl
  have hDc := hD.sub (ws' := (wC a cI cZ v f w)) [0, 1, 2, 3, 4, 5, 6, 7, 8, 9, 10, 11, 12, 13, 14] (by decide) rfl
  have hKc := hK.sub (tys' := [(cI, .int), (cZ, .boolean)]) [0, 1] rfl
  have hFc := va_free (wc := (wC a cI cZ v f w)) hD hS hA [0, 1, 2, 3, 4, 5, 6, 7, 8, 9, 10, 11, 12, 13, 14] rfl
  refine vx_callv (vx_runV (As := [.int (p0), .int (p1), .int (p2)]) (rest := []) ⟨hx, hb, hml, hown, hz⟩ (c_Cut_span l hl9 dC dI a cI cZ v f w s.heap.size p0 z0 h0 p1 z1 h1 p2 z2 h2 hI) (cwV (C := "CutLengths") 3 hz (zgV tw_355 tw_356 tw_357 tw_15 tw_358) rfl rfl rfl (by decide +kernel) ⟨Nat.le_of_ble_eq_true rfl, Nat.le_of_ble_eq_true rfl⟩) ⟨(fun a U g mk q => by obtain ⟨q0, q1, qP, qK, qD, qX⟩ := q; exact ⟨q0, q1, qP, va_K.moved (u := U) (U := U.calling g mk a) (Vm.Alike.refl U.vm) qK, qD, zX.call qX⟩), va_recv hKc hPc (ci := 0) (q0 := 0) rfl rfl, fun U hU hW => ⟨rfl, by rw [hU], by rw [hU]; exact hPc, va_K.moved hW.alike hKc, hDc.weaken (fun _ _ _ _ => trivial), hX9.go hS hU hW hFc⟩⟩ rfl rfl hl.1 rfl (lv_room (Nat.le_of_ble_eq_true rfl)) d_Law_span_4 ⟨Nat.le_of_ble_eq_true rfl, Nat.le_of_ble_eq_true rfl⟩) hS (fun q _ h => hFc q h) hFc (fun q _ h => hFc q h) (fun E ce q9 u9 t9 H1 locs ht hvm hpx hB hz1 hk1 hS hce hcv hcl => ?_) (fun u9 t9 H1 locs ht hvm hw hB hz1 hk1 hS => ?_)
  · obtain ⟨hth, hP1, hK1, hD1⟩ := hB
    rw [ht] at hP1
    obtain ⟨hP, hD⟩ := va_join (wr := [(o, .inl (cJ, 1, .inr (.inl g)))]) (w1 := (wC a cI cZ v f w)) hP hD [0, 1, 2, 3, 4, 5, 6, 7, 8, 9, 10, 11, 12, 13, 14] [15] rfl rfl (by decide) (by decide) hk1 hFc hP1 hD1
    have hP := hP.sub (ws' := (wCo a o cI cZ cJ v f w g)) [1, 2, 3, 4, 5, 6, 7, 8, 9, 10, 11, 12, 13, 14, 15, 0] rfl
    have hD := hD.sub (ws' := (wCo a o cI cZ cJ v f w g)) [1, 2, 3, 4, 5, 6, 7, 8, 9, 10, 11, 12, 13, 14, 15, 0] (by decide) rfl
    rcases hth with ⟨rfl, hk⟩ | ⟨rfl, hk⟩
    · refine vx_catch (own := "CutLengthsLaw") (name := "java/lang/IndexOutOfBoundsException") hown [] { startPc := 0, endPc := 7, handlerPc := 10, catchType := 31 } [{ startPc := 0, endPc := 7, handlerPc := 14, catchType := 15 }] (htb.trans rfl) (fun z hz9 => absurd hz9 List.not_mem_nil) (by decide) (by decide) (hz _ tw_354) (zNG_use hX9.2.2 _ (by decide)) hce hcv hcl ?_
      refine lv_astore (lv' := [(4, .ref (q9)), (0, .ref (a 0)), (1, .int (p0)), (2, .int (p1)), (3, .int (p2))]) hx hb d_Law_span_10 hl (by decide) rfl (fun ls hl => ?_)
      refine lv_iconst (v := nI 1) hx hb d_Law_span_12 (by decide) ?_
      refine W.widen (k := 1) (n := 6) (Nat.le_of_ble_eq_true rfl) (Nat.le_of_ble_eq_true rfl) ?_
      exact W.iret (v := nI 1) hx hb hr (fun t9 ht hW => ⟨⟨nI 1, ((v, f, w), g), rfl, Or.inr ⟨1, by decide, hk, rfl, rfl⟩, by rw [ht]; exact hP, va_K.moved hW.alike hK, hD⟩, hS.F ht⟩) hS.2.2 d_Law_span_13
    · refine vx_catch (own := "CutLengthsLaw") (name := "java/lang/IllegalArgumentException") hown [{ startPc := 0, endPc := 7, handlerPc := 10, catchType := 31 }] { startPc := 0, endPc := 7, handlerPc := 14, catchType := 15 } [] (htb.trans rfl) (fun z hz9 => by rw [List.mem_singleton.mp hz9]; exact Or.inr ⟨by decide, "java/lang/IndexOutOfBoundsException", hz _ tw_354, hX9.2.2.2.2 ("java/lang/IllegalArgumentException", "java/lang/IndexOutOfBoundsException") (by decide)⟩) (by decide) (by decide) (hz _ tw_215) (zNG_use hX9.2.2 _ (by decide)) hce hcv hcl ?_
      refine lv_astore (lv' := [(4, .ref (q9)), (0, .ref (a 0)), (1, .int (p0)), (2, .int (p1)), (3, .int (p2))]) hx hb d_Law_span_14 hl (by decide) rfl (fun ls hl => ?_)
      refine lv_iconst (v := nI 2) hx hb d_Law_span_16 (by decide) ?_
      refine W.widen (k := 1) (n := 6) (Nat.le_of_ble_eq_true rfl) (Nat.le_of_ble_eq_true rfl) ?_
      exact W.iret (v := nI 2) hx hb hr (fun t9 ht hW => ⟨⟨nI 2, ((v, f, w), g), rfl, Or.inr ⟨2, by decide, hk, rfl, rfl⟩, by rw [ht]; exact hP, va_K.moved hW.alike hK, hD⟩, hS.F ht⟩) hS.2.2 d_Law_span_17
  · skip
    obtain ⟨hP1, hK1, hD1⟩ := hB
    rw [ht] at hP1
    obtain ⟨hP, hD⟩ := va_join (wr := [(o, .inl (cJ, 1, .inr (.inl g)))]) (w1 := (wC a cI cZ (zu v 2 (1)) (zu (zu f 2 (va_up (f 2) z0.toNat z1.toNat)) 3 (va_up (f 3) z0.toNat z2.toNat)) w)) hP hD [0, 1, 2, 3, 4, 5, 6, 7, 8, 9, 10, 11, 12, 13, 14] [15] rfl rfl (by decide) (by decide) hk1 hFc hP1 hD1
    have hP := hP.sub (ws' := (wCo a o cI cZ cJ (zu v 2 (1)) (zu (zu f 2 (va_up (f 2) z0.toNat z1.toNat)) 3 (va_up (f 3) z0.toNat z2.toNat)) w g)) [1, 2, 3, 4, 5, 6, 7, 8, 9, 10, 11, 12, 13, 14, 15, 0] rfl
    have hD := hD.sub (ws' := (wCo a o cI cZ cJ (zu v 2 (1)) (zu (zu f 2 (va_up (f 2) z0.toNat z1.toNat)) 3 (va_up (f 3) z0.toNat z2.toNat)) w g)) [1, 2, 3, 4, 5, 6, 7, 8, 9, 10, 11, 12, 13, 14, 15, 0] (by decide) rfl
    have hk := hw
    refine lv_goto (tgt := 18) hx hb d_Law_span_7 (by decide) ?_
    refine lv_iconst (v := nI 0) hx hb d_Law_span_18 (by decide) ?_
    refine W.widen (k := 1) (n := 6) (Nat.le_of_ble_eq_true rfl) (Nat.le_of_ble_eq_true rfl) ?_
    exact W.iret (v := nI 0) hx hb hr (fun t9 ht hW => ⟨⟨nI 0, (((zu v 2 (1)), (zu (zu f 2 (va_up (f 2) z0.toNat z1.toNat)) 3 (va_up (f 3) z0.toNat z2.toNat)), w), g), rfl, Or.inl ⟨hk, rfl, rfl⟩, by rw [ht]; exact hP, va_K.moved hW.alike hK, hD⟩, hS.F ht⟩) hS.2.2 d_Law_span_19
set_option maxHeartbeats 4000000 in
set_option maxRecDepth 100000 in
theorem c_Law_trim (l : Launch) (hl9 : l.stackTraces = false) (dC : Nat → ClassId) (dI : Nat → Nat → Nat) (a : Nat → Nat) (o : Nat) (cI cZ cJ : ClassId) (v : Nat → Nat) (f : Nat → Nat → Nat) (w : Nat → Nat → Int32) (g : Nat → Int64) (sz : Nat) (p0 : Int32) (z0 : Int) (h0 : p0.toInt = z0) (p1 : Int32) (z1 : Int) (h1 : p1.toInt = z1) (hI : zI v f) : Met l y_Law_trim (zw_Law_trim :: zW) ({ frames := 7, cells := 1, slots := 6, locals := 112 }) (va_Pc [.ref (a 0), .int (p0), .int (p1)] (fun U => U.heap.size = sz ∧ va_P (dC, dI) vwCl (wCo a o cI cZ cJ v f w g) U.heap ∧ va_K (dC, dI) vwCl [(cI, .int), (cZ, .boolean), (cJ, .long)] U ∧ va_D (fun _ => True) (wCo a o cI cZ cJ v f w g) ∧ zX (va_A (wCo a o cI cZ cJ v f w g) sz) U U.heap)) (va_Qi (fun (r : Int32) (u : ZS × (Nat → Int64)) => (k_trim z0 z1 = 0 ∧ r = nI 0 ∧ u.1 = ((zu (zu (zu v 5 (z0.toNat)) 6 (z1.toNat)) 2 (1)), f, w)) ∨ (∃ c9, c9 ≠ 0 ∧ k_trim z0 z1 = c9 ∧ r = nI c9 ∧ u.1 = (v, f, w))) (fun (u : ZS × (Nat → Int64)) t => match u with | ((v9, f9, w9), g9) => va_P (dC, dI) vwCl (wCo a o cI cZ cJ v9 f9 w9 g9) t.heap ∧ va_K (dC, dI) vwCl [(cI, .int), (cZ, .boolean), (cJ, .long)] t ∧ va_D (va_A (wCo a o cI cZ cJ v f w g) sz) (wCo a o cI cZ cJ v9 f9 w9 g9)) (va_A (wCo a o cI cZ cJ v f w g) sz)) 1 6 (va_A (wCo a o cI cZ cJ v f w g) sz) := by
  refine va_MetW (cc := method_7_code) (maxL := 4) (ret := some .int) (hh := [(0, 6, 9, 15)]) (by decide) rfl ?_
  intro p e s m args below meth c s₁ B hml hv
  obtain ⟨rfl, hsz, hP, hK, hD0, hX9⟩ := hv
  have hx := B.exec
  have hb := B.bytes
  have hr := B.returns
  have hz : ∀ w ∈ zW, w.before ([.ref (a 0), .int (p0), .int (p1)]).toArray s = true := fun w h => atoms_spec (ws := (zw_Law_trim :: zW)) B.pre w (List.mem_cons_of_mem _ h)
  have hown : s.vm.findClass "CutLengthsLaw" = some m.cls := findClass_of_methodNamed B.named
  have hlocks := B.notSynchronized
  have htb : c.exceptionTable.toList = tableOf [(0, 6, 9, 15)] := vx_table (x := y_Law_trim) B (hz _ tw_377)
  subst hsz
  have hD := hD0.self (sz := s.heap.size)
  generalize hAe : va_A (wCo a o cI cZ cJ v f w g) s.heap.size = A at hD hX9 ⊢
  have hA : ∀ q : Nat, s.heap.size ≤ q → A q := fun q h => by rw [← hAe]; exact Or.inr h
  have hS : va_S A s.heap s.heap [] := va_S.rf
  have hP : va_P (dC, dI) vwCl (wCo a o cI cZ cJ v f w g) s.heap := hP
  have hl := lv_entry ([.ref (a 0), .int (p0), .int (p1)]) (n := 4) (Nat.le_of_ble_eq_true rfl)
  rw [lg_entry_eq]
  generalize (lg_sl ([.ref (a 0), .int (p0), .int (p1)]) ++ List.replicate (4 - (lg_sl ([.ref (a 0), .int (p0), .int (p1)])).length) Slot.unset).toArray = ls at hl ⊢
  have hl : lv_has ls 4 [(0, .ref (a 0)), (1, .int (p0)), (2, .int (p1))] := hl
  refine lv_aload_n hx hb d_Law_trim_0 rfl (lv_at hl 0 rfl) ?_
  refine lv_iload_n hx hb d_Law_trim_1 rfl (lv_at hl 1 rfl) ?_
  refine lv_iload_n hx hb d_Law_trim_2 rfl (lv_at hl 2 rfl) ?_
  have hPc := hP.sub (ws' := (wC a cI cZ v f w)) [0, 1, 2, 3, 4, 5, 6, 7, 8, 9, 10, 11, 12, 13, 14] rfl
  have hDc := hD.sub (ws' := (wC a cI cZ v f w)) [0, 1, 2, 3, 4, 5, 6, 7, 8, 9, 10, 11, 12, 13, 14] (by decide) rfl
  have hKc := hK.sub (tys' := [(cI, .int), (cZ, .boolean)]) [0, 1] rfl
  have hFc := va_free (wc := (wC a cI cZ v f w)) hD hS hA [0, 1, 2, 3, 4, 5, 6, 7, 8, 9, 10, 11, 12, 13, 14] rfl
  refine vx_callv (vx_runV (As := [.int (p0), .int (p1)]) (rest := []) ⟨hx, hb, hml, hown, hz⟩ (c_Cut_trim l hl9 dC dI a cI cZ v f w s.heap.size p0 z0 h0 p1 z1 h1 hI) (cwV (C := "CutLengths") 2 hz (zgV tw_378 tw_379 tw_380 tw_15 tw_381) rfl rfl rfl (by decide +kernel) ⟨Nat.le_of_ble_eq_true rfl, Nat.le_of_ble_eq_true rfl⟩) ⟨(fun a U g mk q => by obtain ⟨q0, q1, qP, qK, qD, qX⟩ := q; exact ⟨q0, q1, qP, va_K.moved (u := U) (U := U.calling g mk a) (Vm.Alike.refl U.vm) qK, qD, zX.call qX⟩), va_recv hKc hPc (ci := 0) (q0 := 0) rfl rfl, fun U hU hW => ⟨rfl, by rw [hU], by rw [hU]; exact hPc, va_K.moved hW.alike hKc, hDc.weaken (fun _ _ _ _ => trivial), hX9.go hS hU hW hFc⟩⟩ rfl rfl hl.1 rfl (lv_room (Nat.le_of_ble_eq_true rfl)) d_Law_trim_3 ⟨Nat.le_of_ble_eq_true rfl, Nat.le_of_ble_eq_true rfl⟩) hS (fun q _ h => hFc q h) hFc (fun q _ h => hFc q h) (fun E ce q9 u9 t9 H1 locs ht hvm hpx hB hz1 hk1 hS hce hcv hcl => ?_) (fun u9 t9 H1 locs ht hvm hw hB hz1 hk1 hS => ?_)
  · obtain ⟨hth, hP1, hK1, hD1⟩ := hB
    rw [ht] at hP1
    obtain ⟨hP, hD⟩ := va_join (wr := [(o, .inl (cJ, 1, .inr (.inl g)))]) (w1 := (wC a cI cZ v f w)) hP hD [0, 1, 2, 3, 4, 5, 6, 7, 8, 9, 10, 11, 12, 13, 14] [15] rfl rfl (by decide) (by decide) hk1 hFc hP1 hD1
    have hP := hP.sub (ws' := (wCo a o cI cZ cJ v f w g)) [1, 2, 3, 4, 5, 6, 7, 8, 9, 10, 11, 12, 13, 14, 15, 0] rfl
    have hD := hD.sub (ws' := (wCo a o cI cZ cJ v f w g)) [1, 2, 3, 4, 5, 6, 7, 8, 9, 10, 11, 12, 13, 14, 15, 0] (by decide) rfl
    obtain ⟨rfl, hk⟩ := hth
    refine vx_catch (own := "CutLengthsLaw") (name := "java/lang/IllegalArgumentException") hown [] { startPc := 0, endPc := 6, handlerPc := 9, catchType := 15 } [] (htb.trans rfl) (fun z hz9 => absurd hz9 List.not_mem_nil) (by decide) (by decide) (hz _ tw_215) (zNG_use hX9.2.2 _ (by decide)) hce hcv hcl ?_
    refine lv_astore_n (lv' := [(3, .ref (q9)), (0, .ref (a 0)), (1, .int (p0)), (2, .int (p1))]) hx hb d_Law_trim_9 rfl hl (by decide) rfl (fun ls hl => ?_)
    refine lv_iconst (v := nI 1) hx hb d_Law_trim_10 (by decide) ?_
    refine W.widen (k := 1) (n := 6) (Nat.le_of_ble_eq_true rfl) (Nat.le_of_ble_eq_true rfl) ?_
    exact W.iret (v := nI 1) hx hb hr (fun t9 ht hW => ⟨⟨nI 1, ((v, f, w), g), rfl, Or.inr ⟨1, by decide, hk, rfl, rfl⟩, by rw [ht]; exact hP, va_K.moved hW.alike hK, hD⟩, hS.F ht⟩) hS.2.2 d_Law_trim_11
  · skip
    obtain ⟨hP1, hK1, hD1⟩ := hB
    rw [ht] at hP1
    obtain ⟨hP, hD⟩ := va_join (wr := [(o, .inl (cJ, 1, .inr (.inl g)))]) (w1 := (wC a cI cZ (zu (zu (zu v 5 (z0.toNat)) 6 (z1.toNat)) 2 (1)) f w)) hP hD [0, 1, 2, 3, 4, 5, 6, 7, 8, 9, 10, 11, 12, 13, 14] [15] rfl rfl (by decide) (by decide) hk1 hFc hP1 hD1
    have hP := hP.sub (ws' := (wCo a o cI cZ cJ (zu (zu (zu v 5 (z0.toNat)) 6 (z1.toNat)) 2 (1)) f w g)) [1, 2, 3, 4, 5, 6, 7, 8, 9, 10, 11, 12, 13, 14, 15, 0] rfl
    have hD := hD.sub (ws' := (wCo a o cI cZ cJ (zu (zu (zu v 5 (z0.toNat)) 6 (z1.toNat)) 2 (1)) f w g)) [1, 2, 3, 4, 5, 6, 7, 8, 9, 10, 11, 12, 13, 14, 15, 0] (by decide) rfl
    have hk := hw
    refine lv_goto (tgt := 12) hx hb d_Law_trim_6 (by decide) ?_
    refine lv_iconst (v := nI 0) hx hb d_Law_trim_12 (by decide) ?_
    refine W.widen (k := 1) (n := 6) (Nat.le_of_ble_eq_true rfl) (Nat.le_of_ble_eq_true rfl) ?_
    exact W.iret (v := nI 0) hx hb hr (fun t9 ht hW => ⟨⟨nI 0, (((zu (zu (zu v 5 (z0.toNat)) 6 (z1.toNat)) 2 (1)), f, w), g), rfl, Or.inl ⟨hk, rfl, rfl⟩, by rw [ht]; exact hP, va_K.moved hW.alike hK, hD⟩, hS.F ht⟩) hS.2.2 d_Law_trim_13
set_option maxHeartbeats 4000000 in
set_option maxRecDepth 100000 in
theorem c_Law_bad (l : Launch) (hl9 : l.stackTraces = false) (dC : Nat → ClassId) (dI : Nat → Nat → Nat) (a : Nat → Nat) (o : Nat) (cI cZ cJ : ClassId) (v : Nat → Nat) (f : Nat → Nat → Nat) (w : Nat → Nat → Int32) (g : Nat → Int64) (sz : Nat) (p0 : Int32) (z0 : Int) (h0 : p0.toInt = z0) (p1 : Int32) (z1 : Int) (h1 : p1.toInt = z1) (hI : zI v f) : Met l y_Law_bad (zw_Law_bad :: zW) ({ frames := 7, cells := 1, slots := 6, locals := 112 }) (va_Pc [.ref (a 0), .int (p0), .int (p1), .ref (o)] (fun U => U.heap.size = sz ∧ va_P (dC, dI) vwCl (wCo a o cI cZ cJ v f w g) U.heap ∧ va_K (dC, dI) vwCl [(cI, .int), (cZ, .boolean), (cJ, .long)] U ∧ va_D (fun _ => True) (wCo a o cI cZ cJ v f w g) ∧ zX (va_A (wCo a o cI cZ cJ v f w g) sz) U U.heap)) (va_Qi (fun (r : Int32) (u : ZS × (Nat → Int64)) => (∃ g9 : Nat → Nat, k_bad (v 7) z0 z1 = 0 ∧ (∀ p, g9 p = if z0.toNat ≤ p ∧ p < z1.toNat then 1 else f 0 p) ∧ r = nI 0 ∧ u.1 = ((zu (zu v 7 (v 7 + 1)) 2 (1)), (zu f 0 (g9)), w) ∧ u.2 0 = (nI (v 7 + 1)).toInt64) ∨ (∃ c9, c9 ≠ 0 ∧ k_bad (v 7) z0 z1 = c9 ∧ r = nI c9 ∧ u.1 = (v, f, w))) (fun (u : ZS × (Nat → Int64)) t => match u with | ((v9, f9, w9), g9) => va_P (dC, dI) vwCl (wCo a o cI cZ cJ v9 f9 w9 g9) t.heap ∧ va_K (dC, dI) vwCl [(cI, .int), (cZ, .boolean), (cJ, .long)] t ∧ va_D (va_A (wCo a o cI cZ cJ v f w g) sz) (wCo a o cI cZ cJ v9 f9 w9 g9)) (va_A (wCo a o cI cZ cJ v f w g) sz)) 1 6 (va_A (wCo a o cI cZ cJ v f w g) sz) := by
  refine va_MetW (cc := method_8_code) (maxL := 5) (ret := some .int) (hh := [(0, 10, 13, 13), (0, 10, 17, 15)]) (by decide) rfl ?_
  intro p e s m args below meth c s₁ B hml hv
  obtain ⟨rfl, hsz, hP, hK, hD0, hX9⟩ := hv
  have hx := B.exec
  have hb := B.bytes
  have hr := B.returns
  have hz : ∀ w ∈ zW, w.before ([.ref (a 0), .int (p0), .int (p1), .ref (o)]).toArray s = true := fun w h => atoms_spec (ws := (zw_Law_bad :: zW)) B.pre w (List.mem_cons_of_mem _ h)
  have hown : s.vm.findClass "CutLengthsLaw" = some m.cls := findClass_of_methodNamed B.named
  have hlocks := B.notSynchronized
  have htb : c.exceptionTable.toList = tableOf [(0, 10, 13, 13), (0, 10, 17, 15)] := vx_table (x := y_Law_bad) B (hz _ tw_385)
  subst hsz
  have hD := hD0.self (sz := s.heap.size)
  generalize hAe : va_A (wCo a o cI cZ cJ v f w g) s.heap.size = A at hD hX9 ⊢
  have hA : ∀ q : Nat, s.heap.size ≤ q → A q := fun q h => by rw [← hAe]; exact Or.inr h
  have hS : va_S A s.heap s.heap [] := va_S.rf
  have hP : va_P (dC, dI) vwCl (wCo a o cI cZ cJ v f w g) s.heap := hP
  have hl := lv_entry ([.ref (a 0), .int (p0), .int (p1), .ref (o)]) (n := 5) (Nat.le_of_ble_eq_true rfl)
  rw [lg_entry_eq]
  generalize (lg_sl ([.ref (a 0), .int (p0), .int (p1), .ref (o)]) ++ List.replicate (5 - (lg_sl ([.ref (a 0), .int (p0), .int (p1), .ref (o)])).length) Slot.unset).toArray = ls at hl ⊢
  have hl : lv_has ls 5 [(0, .ref (a 0)), (1, .int (p0)), (2, .int (p1)), (3, .ref (o))] := hl
  refine lv_aload_n hx hb d_Law_bad_0 rfl (lv_at hl 3 rfl) ?_
  refine lv_iconst (v := nI 0) hx hb d_Law_bad_1 (by decide) ?_
  refine lv_aload_n hx hb d_Law_bad_2 rfl (lv_at hl 0 rfl) ?_
  refine lv_iload_n hx hb d_Law_bad_3 rfl (lv_at hl 1 rfl) ?_
  refine lv_iload_n hx hb d_Law_bad_4 rfl (lv_at hl 2 rfl) ?_
  have hPc := hP.sub (ws' := (wC a cI cZ v f w)) [0, 1, 2, 3, 4, 5, 6, 7, 8, 9, 10, 11, 12, 13, 14] rfl
  have hDc := hD.sub (ws' := (wC a cI cZ v f w)) [0, 1, 2, 3, 4, 5, 6, 7, 8, 9, 10, 11, 12, 13, 14] (by decide) rfl
  have hKc := hK.sub (tys' := [(cI, .int), (cZ, .boolean)]) [0, 1] rfl
  have hFc := va_free (wc := (wC a cI cZ v f w)) hD hS hA [0, 1, 2, 3, 4, 5, 6, 7, 8, 9, 10, 11, 12, 13, 14] rfl
  refine vx_calli (vx_runV (As := [.int (p0), .int (p1)]) (rest := [.int (nI (0)), .ref (o)]) ⟨hx, hb, hml, hown, hz⟩ (c_Cut_bad l hl9 dC dI a cI cZ v f w s.heap.size p0 z0 h0 p1 z1 h1 hI) (cwV (C := "CutLengths") 2 hz (zgV tw_386 tw_387 tw_388 tw_15 tw_389) rfl rfl rfl (by decide +kernel) ⟨Nat.le_of_ble_eq_true rfl, Nat.le_of_ble_eq_true rfl⟩) ⟨(fun a U g mk q => by obtain ⟨q0, q1, qP, qK, qD, qX⟩ := q; exact ⟨q0, q1, qP, va_K.moved (u := U) (U := U.calling g mk a) (Vm.Alike.refl U.vm) qK, qD, zX.call qX⟩), va_recv hKc hPc (ci := 0) (q0 := 0) rfl rfl, fun U hU hW => ⟨rfl, by rw [hU], by rw [hU]; exact hPc, va_K.moved hW.alike hKc, hDc.weaken (fun _ _ _ _ => trivial), hX9.go hS hU hW hFc⟩⟩ rfl rfl hl.1 rfl (lv_room (Nat.le_of_ble_eq_true rfl)) d_Law_bad_5 ⟨Nat.le_of_ble_eq_true rfl, Nat.le_of_ble_eq_true rfl⟩) hS (fun q _ h => hFc q h) hFc (fun q _ h => hFc q h) (fun E ce q9 u9 t9 H1 locs ht hvm hpx hB hz1 hk1 hS hce hcv hcl => ?_) (fun r9 u9 t9 H1 locs ht hvm hw hB hz1 hk1 hS => ?_)
  · obtain ⟨hth, hP1, hK1, hD1⟩ := hB
    rw [ht] at hP1
    obtain ⟨hP, hD⟩ := va_join (wr := [(o, .inl (cJ, 1, .inr (.inl g)))]) (w1 := (wC a cI cZ v f w)) hP hD [0, 1, 2, 3, 4, 5, 6, 7, 8, 9, 10, 11, 12, 13, 14] [15] rfl rfl (by decide) (by decide) hk1 hFc hP1 hD1
    have hP := hP.sub (ws' := (wCo a o cI cZ cJ v f w g)) [1, 2, 3, 4, 5, 6, 7, 8, 9, 10, 11, 12, 13, 14, 15, 0] rfl
    have hD := hD.sub (ws' := (wCo a o cI cZ cJ v f w g)) [1, 2, 3, 4, 5, 6, 7, 8, 9, 10, 11, 12, 13, 14, 15, 0] (by decide) rfl
    rcases hth with ⟨rfl, hk⟩ | ⟨rfl, hk⟩
    · refine vx_catch (own := "CutLengthsLaw") (name := "java/lang/IllegalStateException") hown [] { startPc := 0, endPc := 10, handlerPc := 13, catchType := 13 } [{ startPc := 0, endPc := 10, handlerPc := 17, catchType := 15 }] (htb.trans rfl) (fun z hz9 => absurd hz9 List.not_mem_nil) (by decide) (by decide) (hz _ tw_214) (zNG_use hX9.2.2 _ (by decide)) hce hcv hcl ?_
      refine lv_astore (lv' := [(4, .ref (q9)), (0, .ref (a 0)), (1, .int (p0)), (2, .int (p1)), (3, .ref (o))]) hx hb d_Law_bad_13 hl (by decide) rfl (fun ls hl => ?_)
      refine lv_iconst (v := nI 1) hx hb d_Law_bad_15 (by decide) ?_
      refine W.widen (k := 1) (n := 6) (Nat.le_of_ble_eq_true rfl) (Nat.le_of_ble_eq_true rfl) ?_
      exact W.iret (v := nI 1) hx hb hr (fun t9 ht hW => ⟨⟨nI 1, ((v, f, w), g), rfl, Or.inr ⟨1, by decide, hk, rfl, rfl⟩, by rw [ht]; exact hP, va_K.moved hW.alike hK, hD⟩, hS.F ht⟩) hS.2.2 d_Law_bad_16
    · refine vx_catch (own := "CutLengthsLaw") (name := "java/lang/IllegalArgumentException") hown [{ startPc := 0, endPc := 10, handlerPc := 13, catchType := 13 }] { startPc := 0, endPc := 10, handlerPc := 17, catchType := 15 } [] (htb.trans rfl) (fun z hz9 => by rw [List.mem_singleton.mp hz9]; exact Or.inr ⟨by decide, "java/lang/IllegalStateException", hz _ tw_214, hX9.2.2.2.2 ("java/lang/IllegalArgumentException", "java/lang/IllegalStateException") (by decide)⟩) (by decide) (by decide) (hz _ tw_215) (zNG_use hX9.2.2 _ (by decide)) hce hcv hcl ?_
      refine lv_astore (lv' := [(4, .ref (q9)), (0, .ref (a 0)), (1, .int (p0)), (2, .int (p1)), (3, .ref (o))]) hx hb d_Law_bad_17 hl (by decide) rfl (fun ls hl => ?_)
      refine lv_iconst (v := nI 2) hx hb d_Law_bad_19 (by decide) ?_
      refine W.widen (k := 1) (n := 6) (Nat.le_of_ble_eq_true rfl) (Nat.le_of_ble_eq_true rfl) ?_
      exact W.iret (v := nI 2) hx hb hr (fun t9 ht hW => ⟨⟨nI 2, ((v, f, w), g), rfl, Or.inr ⟨2, by decide, hk, rfl, rfl⟩, by rw [ht]; exact hP, va_K.moved hW.alike hK, hD⟩, hS.F ht⟩) hS.2.2 d_Law_bad_20
  · obtain ⟨g9, rfl⟩ : ∃ z, z = u9 := ⟨_, rfl⟩
    obtain ⟨hP1, hK1, hD1⟩ := hB
    rw [ht] at hP1
    obtain ⟨hP, hD⟩ := va_join (wr := [(o, .inl (cJ, 1, .inr (.inl g)))]) (w1 := (wC a cI cZ (zu (zu v 7 (v 7 + 1)) 2 (1)) (zu f 0 (g9)) w)) hP hD [0, 1, 2, 3, 4, 5, 6, 7, 8, 9, 10, 11, 12, 13, 14] [15] rfl rfl (by decide) (by decide) hk1 hFc hP1 hD1
    have hP := hP.sub (ws' := (wCo a o cI cZ cJ (zu (zu v 7 (v 7 + 1)) 2 (1)) (zu f 0 (g9)) w g)) [1, 2, 3, 4, 5, 6, 7, 8, 9, 10, 11, 12, 13, 14, 15, 0] rfl
    have hD := hD.sub (ws' := (wCo a o cI cZ cJ (zu (zu v 7 (v 7 + 1)) 2 (1)) (zu f 0 (g9)) w g)) [1, 2, 3, 4, 5, 6, 7, 8, 9, 10, 11, 12, 13, 14, 15, 0] (by decide) rfl
    obtain ⟨hk, hr9, hf9⟩ := hw
    subst hr9
    refine lv_i2l (v := (nI (v 7 + 1)).toInt64) hx hb d_Law_bad_8 rfl ?_
    refine va_last (x := (nI (v 7 + 1)).toInt64) hx hb hK hP hD hS 15 2 rfl rfl (vp_in_nI (by decide) (by decide)) d_Law_bad_9 (fun H locs hP hD hS => ?_)
    have hP : va_P (dC, dI) vwCl (wCo a o cI cZ cJ (zu (zu v 7 (v 7 + 1)) 2 (1)) (zu f 0 (g9)) w (vp_updL g (nI 0).toNatClampNeg ((nI (v 7 + 1)).toInt64))) H := hP
    have hD : va_D A (wCo a o cI cZ cJ (zu (zu v 7 (v 7 + 1)) 2 (1)) (zu f 0 (g9)) w (vp_updL g (nI 0).toNatClampNeg ((nI (v 7 + 1)).toInt64))) := hD
    refine lv_goto (tgt := 21) hx hb d_Law_bad_10 (by decide) ?_
    refine lv_iconst (v := nI 0) hx hb d_Law_bad_21 (by decide) ?_
    refine W.widen (k := 1) (n := 6) (Nat.le_of_ble_eq_true rfl) (Nat.le_of_ble_eq_true rfl) ?_
    exact W.iret (v := nI 0) hx hb hr (fun t9 ht hW => ⟨⟨nI 0, (((zu (zu v 7 (v 7 + 1)) 2 (1)), (zu f 0 (g9)), w), (vp_updL g (nI 0).toNatClampNeg ((nI (v 7 + 1)).toInt64))), rfl, Or.inl ⟨g9, hk, hf9, rfl, rfl, zz_up0 g _⟩, by rw [ht]; exact hP, va_K.moved hW.alike hK, hD⟩, hS.F ht⟩) hS.2.2 d_Law_bad_22
set_option maxHeartbeats 4000000 in
set_option maxRecDepth 100000 in
theorem c_Law_bar (l : Launch) (hl9 : l.stackTraces = false) (dC : Nat → ClassId) (dI : Nat → Nat → Nat) (a : Nat → Nat) (o : Nat) (cI cZ cJ : ClassId) (v : Nat → Nat) (f : Nat → Nat → Nat) (w : Nat → Nat → Int32) (g : Nat → Int64) (sz : Nat) (p0 : Int32) (z0 : Int) (h0 : p0.toInt = z0) (p1 : Int32) (z1 : Int) (h1 : p1.toInt = z1) (hI : zI v f) : Met l y_Law_bar (zw_Law_bar :: zW) ({ frames := 7, cells := 1, slots := 6, locals := 112 }) (va_Pc [.ref (a 0), .int (p0), .int (p1), .ref (o)] (fun U => U.heap.size = sz ∧ va_P (dC, dI) vwCl (wCo a o cI cZ cJ v f w g) U.heap ∧ va_K (dC, dI) vwCl [(cI, .int), (cZ, .boolean), (cJ, .long)] U ∧ va_D (fun _ => True) (wCo a o cI cZ cJ v f w g) ∧ zX (va_A (wCo a o cI cZ cJ v f w g) sz) U U.heap)) (va_Qi (fun (r : Int32) (u : ZS × (Nat → Int64)) => (∃ g9 : Nat → Nat, k_bad (v 8) z0 z1 = 0 ∧ (∀ p, g9 p = if z0.toNat ≤ p ∧ p < (z1.toNat + 1) then 1 else f 1 p) ∧ r = nI 0 ∧ u.1 = ((zu (zu v 8 (v 8 + 1)) 2 (1)), (zu f 1 (g9)), w) ∧ u.2 0 = (nI (v 8 + 1)).toInt64) ∨ (∃ c9, c9 ≠ 0 ∧ k_bad (v 8) z0 z1 = c9 ∧ r = nI c9 ∧ u.1 = (v, f, w))) (fun (u : ZS × (Nat → Int64)) t => match u with | ((v9, f9, w9), g9) => va_P (dC, dI) vwCl (wCo a o cI cZ cJ v9 f9 w9 g9) t.heap ∧ va_K (dC, dI) vwCl [(cI, .int), (cZ, .boolean), (cJ, .long)] t ∧ va_D (va_A (wCo a o cI cZ cJ v f w g) sz) (wCo a o cI cZ cJ v9 f9 w9 g9)) (va_A (wCo a o cI cZ cJ v f w g) sz)) 1 6 (va_A (wCo a o cI cZ cJ v f w g) sz) := by
  refine va_MetW (cc := method_9_code) (maxL := 5) (ret := some .int) (hh := [(0, 10, 13, 13), (0, 10, 17, 15)]) (by decide) rfl ?_
  intro p e s m args below meth c s₁ B hml hv
  obtain ⟨rfl, hsz, hP, hK, hD0, hX9⟩ := hv
  have hx := B.exec
  have hb := B.bytes
  have hr := B.returns
  have hz : ∀ w ∈ zW, w.before ([.ref (a 0), .int (p0), .int (p1), .ref (o)]).toArray s = true := fun w h => atoms_spec (ws := (zw_Law_bar :: zW)) B.pre w (List.mem_cons_of_mem _ h)
  have hown : s.vm.findClass "CutLengthsLaw" = some m.cls := findClass_of_methodNamed B.named
  have hlocks := B.notSynchronized
  have htb : c.exceptionTable.toList = tableOf [(0, 10, 13, 13), (0, 10, 17, 15)] := vx_table (x := y_Law_bar) B (hz _ tw_401)
  subst hsz
  have hD := hD0.self (sz := s.heap.size)
  generalize hAe : va_A (wCo a o cI cZ cJ v f w g) s.heap.size = A at hD hX9 ⊢
  have hA : ∀ q : Nat, s.heap.size ≤ q → A q := fun q h => by rw [← hAe]; exact Or.inr h
  have hS : va_S A s.heap s.heap [] := va_S.rf
  have hP : va_P (dC, dI) vwCl (wCo a o cI cZ cJ v f w g) s.heap := hP
  have hl := lv_entry ([.ref (a 0), .int (p0), .int (p1), .ref (o)]) (n := 5) (Nat.le_of_ble_eq_true rfl)
  rw [lg_entry_eq]
  generalize (lg_sl ([.ref (a 0), .int (p0), .int (p1), .ref (o)]) ++ List.replicate (5 - (lg_sl ([.ref (a 0), .int (p0), .int (p1), .ref (o)])).length) Slot.unset).toArray = ls at hl ⊢
  have hl : lv_has ls 5 [(0, .ref (a 0)), (1, .int (p0)), (2, .int (p1)), (3, .ref (o))] := hl
  refine lv_aload_n hx hb d_Law_bar_0 rfl (lv_at hl 3 rfl) ?_
  refine lv_iconst (v := nI 0) hx hb d_Law_bar_1 (by decide) ?_
  refine lv_aload_n hx hb d_Law_bar_2 rfl (lv_at hl 0 rfl) ?_
  refine lv_iload_n hx hb d_Law_bar_3 rfl (lv_at hl 1 rfl) ?_
  refine lv_iload_n hx hb d_Law_bar_4 rfl (lv_at hl 2 rfl) ?_
  have hPc := hP.sub (ws' := (wC a cI cZ v f w)) [0, 1, 2, 3, 4, 5, 6, 7, 8, 9, 10, 11, 12, 13, 14] rfl
  have hDc := hD.sub (ws' := (wC a cI cZ v f w)) [0, 1, 2, 3, 4, 5, 6, 7, 8, 9, 10, 11, 12, 13, 14] (by decide) rfl
  have hKc := hK.sub (tys' := [(cI, .int), (cZ, .boolean)]) [0, 1] rfl
  have hFc := va_free (wc := (wC a cI cZ v f w)) hD hS hA [0, 1, 2, 3, 4, 5, 6, 7, 8, 9, 10, 11, 12, 13, 14] rfl
  refine vx_calli (vx_runV (As := [.int (p0), .int (p1)]) (rest := [.int (nI (0)), .ref (o)]) ⟨hx, hb, hml, hown, hz⟩ (c_Cut_bar l hl9 dC dI a cI cZ v f w s.heap.size p0 z0 h0 p1 z1 h1 hI) (cwV (C := "CutLengths") 2 hz (zgV tw_402 tw_403 tw_404 tw_15 tw_405) rfl rfl rfl (by decide +kernel) ⟨Nat.le_of_ble_eq_true rfl, Nat.le_of_ble_eq_true rfl⟩) ⟨(fun a U g mk q => by obtain ⟨q0, q1, qP, qK, qD, qX⟩ := q; exact ⟨q0, q1, qP, va_K.moved (u := U) (U := U.calling g mk a) (Vm.Alike.refl U.vm) qK, qD, zX.call qX⟩), va_recv hKc hPc (ci := 0) (q0 := 0) rfl rfl, fun U hU hW => ⟨rfl, by rw [hU], by rw [hU]; exact hPc, va_K.moved hW.alike hKc, hDc.weaken (fun _ _ _ _ => trivial), hX9.go hS hU hW hFc⟩⟩ rfl rfl hl.1 rfl (lv_room (Nat.le_of_ble_eq_true rfl)) d_Law_bar_5 ⟨Nat.le_of_ble_eq_true rfl, Nat.le_of_ble_eq_true rfl⟩) hS (fun q _ h => hFc q h) hFc (fun q _ h => hFc q h) (fun E ce q9 u9 t9 H1 locs ht hvm hpx hB hz1 hk1 hS hce hcv hcl => ?_) (fun r9 u9 t9 H1 locs ht hvm hw hB hz1 hk1 hS => ?_)
  · obtain ⟨hth, hP1, hK1, hD1⟩ := hB
    rw [ht] at hP1
    obtain ⟨hP, hD⟩ := va_join (wr := [(o, .inl (cJ, 1, .inr (.inl g)))]) (w1 := (wC a cI cZ v f w)) hP hD [0, 1, 2, 3, 4, 5, 6, 7, 8, 9, 10, 11, 12, 13, 14] [15] rfl rfl (by decide) (by decide) hk1 hFc hP1 hD1
    have hP := hP.sub (ws' := (wCo a o cI cZ cJ v f w g)) [1, 2, 3, 4, 5, 6, 7, 8, 9, 10, 11, 12, 13, 14, 15, 0] rfl
    have hD := hD.sub (ws' := (wCo a o cI cZ cJ v f w g)) [1, 2, 3, 4, 5, 6, 7, 8, 9, 10, 11, 12, 13, 14, 15, 0] (by decide) rfl
    rcases hth with ⟨rfl, hk⟩ | ⟨rfl, hk⟩
    · refine vx_catch (own := "CutLengthsLaw") (name := "java/lang/IllegalStateException") hown [] { startPc := 0, endPc := 10, handlerPc := 13, catchType := 13 } [{ startPc := 0, endPc := 10, handlerPc := 17, catchType := 15 }] (htb.trans rfl) (fun z hz9 => absurd hz9 List.not_mem_nil) (by decide) (by decide) (hz _ tw_214) (zNG_use hX9.2.2 _ (by decide)) hce hcv hcl ?_
      refine lv_astore (lv' := [(4, .ref (q9)), (0, .ref (a 0)), (1, .int (p0)), (2, .int (p1)), (3, .ref (o))]) hx hb d_Law_bar_13 hl (by decide) rfl (fun ls hl => ?_)
      refine lv_iconst (v := nI 1) hx hb d_Law_bar_15 (by decide) ?_
      refine W.widen (k := 1) (n := 6) (Nat.le_of_ble_eq_true rfl) (Nat.le_of_ble_eq_true rfl) ?_
      exact W.iret (v := nI 1) hx hb hr (fun t9 ht hW => ⟨⟨nI 1, ((v, f, w), g), rfl, Or.inr ⟨1, by decide, hk, rfl, rfl⟩, by rw [ht]; exact hP, va_K.moved hW.alike hK, hD⟩, hS.F ht⟩) hS.2.2 d_Law_bar_16
    · refine vx_catch (own := "CutLengthsLaw") (name := "java/lang/IllegalArgumentException") hown [{ startPc := 0, endPc := 10, handlerPc := 13, catchType := 13 }] { startPc := 0, endPc := 10, handlerPc := 17, catchType := 15 } [] (htb.trans rfl) (fun z hz9 => by rw [List.mem_singleton.mp hz9]; exact Or.inr ⟨by decide, "java/lang/IllegalStateException", hz _ tw_214, hX9.2.2.2.2 ("java/lang/IllegalArgumentException", "java/lang/IllegalStateException") (by decide)⟩) (by decide) (by decide) (hz _ tw_215) (zNG_use hX9.2.2 _ (by decide)) hce hcv hcl ?_
      refine lv_astore (lv' := [(4, .ref (q9)), (0, .ref (a 0)), (1, .int (p0)), (2, .int (p1)), (3, .ref (o))]) hx hb d_Law_bar_17 hl (by decide) rfl (fun ls hl => ?_)
      refine lv_iconst (v := nI 2) hx hb d_Law_bar_19 (by decide) ?_
      refine W.widen (k := 1) (n := 6) (Nat.le_of_ble_eq_true rfl) (Nat.le_of_ble_eq_true rfl) ?_
      exact W.iret (v := nI 2) hx hb hr (fun t9 ht hW => ⟨⟨nI 2, ((v, f, w), g), rfl, Or.inr ⟨2, by decide, hk, rfl, rfl⟩, by rw [ht]; exact hP, va_K.moved hW.alike hK, hD⟩, hS.F ht⟩) hS.2.2 d_Law_bar_20
  · obtain ⟨g9, rfl⟩ : ∃ z, z = u9 := ⟨_, rfl⟩
    obtain ⟨hP1, hK1, hD1⟩ := hB
    rw [ht] at hP1
    obtain ⟨hP, hD⟩ := va_join (wr := [(o, .inl (cJ, 1, .inr (.inl g)))]) (w1 := (wC a cI cZ (zu (zu v 8 (v 8 + 1)) 2 (1)) (zu f 1 (g9)) w)) hP hD [0, 1, 2, 3, 4, 5, 6, 7, 8, 9, 10, 11, 12, 13, 14] [15] rfl rfl (by decide) (by decide) hk1 hFc hP1 hD1
    have hP := hP.sub (ws' := (wCo a o cI cZ cJ (zu (zu v 8 (v 8 + 1)) 2 (1)) (zu f 1 (g9)) w g)) [1, 2, 3, 4, 5, 6, 7, 8, 9, 10, 11, 12, 13, 14, 15, 0] rfl
    have hD := hD.sub (ws' := (wCo a o cI cZ cJ (zu (zu v 8 (v 8 + 1)) 2 (1)) (zu f 1 (g9)) w g)) [1, 2, 3, 4, 5, 6, 7, 8, 9, 10, 11, 12, 13, 14, 15, 0] (by decide) rfl
    obtain ⟨hk, hr9, hf9⟩ := hw
    subst hr9
    refine lv_i2l (v := (nI (v 8 + 1)).toInt64) hx hb d_Law_bar_8 rfl ?_
    refine va_last (x := (nI (v 8 + 1)).toInt64) hx hb hK hP hD hS 15 2 rfl rfl (vp_in_nI (by decide) (by decide)) d_Law_bar_9 (fun H locs hP hD hS => ?_)
    have hP : va_P (dC, dI) vwCl (wCo a o cI cZ cJ (zu (zu v 8 (v 8 + 1)) 2 (1)) (zu f 1 (g9)) w (vp_updL g (nI 0).toNatClampNeg ((nI (v 8 + 1)).toInt64))) H := hP
    have hD : va_D A (wCo a o cI cZ cJ (zu (zu v 8 (v 8 + 1)) 2 (1)) (zu f 1 (g9)) w (vp_updL g (nI 0).toNatClampNeg ((nI (v 8 + 1)).toInt64))) := hD
    refine lv_goto (tgt := 21) hx hb d_Law_bar_10 (by decide) ?_
    refine lv_iconst (v := nI 0) hx hb d_Law_bar_21 (by decide) ?_
    refine W.widen (k := 1) (n := 6) (Nat.le_of_ble_eq_true rfl) (Nat.le_of_ble_eq_true rfl) ?_
    exact W.iret (v := nI 0) hx hb hr (fun t9 ht hW => ⟨⟨nI 0, (((zu (zu v 8 (v 8 + 1)) 2 (1)), (zu f 1 (g9)), w), (vp_updL g (nI 0).toNatClampNeg ((nI (v 8 + 1)).toInt64))), rfl, Or.inl ⟨g9, hk, hf9, rfl, rfl, zz_up0 g _⟩, by rw [ht]; exact hP, va_K.moved hW.alike hK, hD⟩, hS.F ht⟩) hS.2.2 d_Law_bar_22
set_option maxHeartbeats 4000000 in
set_option maxRecDepth 100000 in
theorem c_Law_part (l : Launch) (hl9 : l.stackTraces = false) (dC : Nat → ClassId) (dI : Nat → Nat → Nat) (a : Nat → Nat) (o : Nat) (cI cZ cJ : ClassId) (v : Nat → Nat) (f : Nat → Nat → Nat) (w : Nat → Nat → Int32) (g : Nat → Int64) (sz : Nat) (p0 : Int32) (z0 : Int) (h0 : p0.toInt = z0) (p1 : Int32) (z1 : Int) (h1 : p1.toInt = z1) (hI : zI v f) (hC : v 2 = 0 → zCP v f (f 4) (f 5) (w 0)) : Met l y_Law_part (zw_Law_part :: zW) ({ frames := 7, cells := 1, slots := 6, locals := 127 }) (va_Pc [.ref (a 0), .int (p0), .int (p1), .ref (o)] (fun U => U.heap.size = sz ∧ va_P (dC, dI) vwCl (wCo a o cI cZ cJ v f w g) U.heap ∧ va_K (dC, dI) vwCl [(cI, .int), (cZ, .boolean), (cJ, .long)] U ∧ va_D (fun _ => True) (wCo a o cI cZ cJ v f w g) ∧ zX (va_A (wCo a o cI cZ cJ v f w g) sz) U U.heap)) (va_Qi (fun (r : Int32) (u : ZS × (Nat → Int64)) => (∃ (L S : Nat → Nat) (F : Nat → Int32), k_part z0 z1 = 0 ∧ zCP v f L S F ∧ r = nI 0 ∧ u.1 = ((zu v 2 (0)), (zu (zu f 4 (L)) 5 (S)), (zu w 0 (F))) ∧ u.2 0 = (zpart (v 3) (v 4) S F z0.toNat z1).toInt64) ∨ (∃ c9, c9 ≠ 0 ∧ k_part z0 z1 = c9 ∧ r = nI c9 ∧ u.1 = (v, f, w))) (fun (u : ZS × (Nat → Int64)) t => match u with | ((v9, f9, w9), g9) => va_P (dC, dI) vwCl (wCo a o cI cZ cJ v9 f9 w9 g9) t.heap ∧ va_K (dC, dI) vwCl [(cI, .int), (cZ, .boolean), (cJ, .long)] t ∧ va_D (va_A (wCo a o cI cZ cJ v f w g) sz) (wCo a o cI cZ cJ v9 f9 w9 g9)) (va_A (wCo a o cI cZ cJ v f w g) sz)) 1 6 (va_A (wCo a o cI cZ cJ v f w g) sz) := by
  refine va_MetW (cc := method_10_code) (maxL := 5) (ret := some .int) (hh := [(0, 10, 13, 31)]) (by decide) rfl ?_
  intro p e s m args below meth c s₁ B hml hv
  obtain ⟨rfl, hsz, hP, hK, hD0, hX9⟩ := hv
  have hx := B.exec
  have hb := B.bytes
  have hr := B.returns
  have hz : ∀ w ∈ zW, w.before ([.ref (a 0), .int (p0), .int (p1), .ref (o)]).toArray s = true := fun w h => atoms_spec (ws := (zw_Law_part :: zW)) B.pre w (List.mem_cons_of_mem _ h)
  have hown : s.vm.findClass "CutLengthsLaw" = some m.cls := findClass_of_methodNamed B.named
  have hlocks := B.notSynchronized
  have htb : c.exceptionTable.toList = tableOf [(0, 10, 13, 31)] := vx_table (x := y_Law_part) B (hz _ tw_414)
  subst hsz
  have hD := hD0.self (sz := s.heap.size)
  generalize hAe : va_A (wCo a o cI cZ cJ v f w g) s.heap.size = A at hD hX9 ⊢
  have hA : ∀ q : Nat, s.heap.size ≤ q → A q := fun q h => by rw [← hAe]; exact Or.inr h
  have hS : va_S A s.heap s.heap [] := va_S.rf
  have hP : va_P (dC, dI) vwCl (wCo a o cI cZ cJ v f w g) s.heap := hP
  have hl := lv_entry ([.ref (a 0), .int (p0), .int (p1), .ref (o)]) (n := 5) (Nat.le_of_ble_eq_true rfl)
  rw [lg_entry_eq]
  generalize (lg_sl ([.ref (a 0), .int (p0), .int (p1), .ref (o)]) ++ List.replicate (5 - (lg_sl ([.ref (a 0), .int (p0), .int (p1), .ref (o)])).length) Slot.unset).toArray = ls at hl ⊢
  have hl : lv_has ls 5 [(0, .ref (a 0)), (1, .int (p0)), (2, .int (p1)), (3, .ref (o))] := hl
  refine lv_aload_n hx hb d_Law_part_0 rfl (lv_at hl 3 rfl) ?_
  refine lv_iconst (v := nI 0) hx hb d_Law_part_1 (by decide) ?_
  refine lv_aload_n hx hb d_Law_part_2 rfl (lv_at hl 0 rfl) ?_
  refine lv_iload_n hx hb d_Law_part_3 rfl (lv_at hl 1 rfl) ?_
  refine lv_iload_n hx hb d_Law_part_4 rfl (lv_at hl 2 rfl) ?_
  have hPc := hP.sub (ws' := (wC a cI cZ v f w)) [0, 1, 2, 3, 4, 5, 6, 7, 8, 9, 10, 11, 12, 13, 14] rfl
  have hDc := hD.sub (ws' := (wC a cI cZ v f w)) [0, 1, 2, 3, 4, 5, 6, 7, 8, 9, 10, 11, 12, 13, 14] (by decide) rfl
  have hKc := hK.sub (tys' := [(cI, .int), (cZ, .boolean)]) [0, 1] rfl
  have hFc := va_free (wc := (wC a cI cZ v f w)) hD hS hA [0, 1, 2, 3, 4, 5, 6, 7, 8, 9, 10, 11, 12, 13, 14] rfl
  refine vx_calli (vx_runV (As := [.int (p0), .int (p1)]) (rest := [.int (nI (0)), .ref (o)]) ⟨hx, hb, hml, hown, hz⟩ (c_Cut_part l hl9 dC dI a cI cZ v f w s.heap.size p0 z0 h0 p1 z1 h1 hI hC) (cwV (C := "CutLengths") 2 hz (zgV tw_415 tw_416 tw_417 tw_15 tw_418) rfl rfl rfl (by decide +kernel) ⟨Nat.le_of_ble_eq_true rfl, Nat.le_of_ble_eq_true rfl⟩) ⟨(fun a U g mk q => by obtain ⟨q0, q1, qP, qK, qD, qX⟩ := q; exact ⟨q0, q1, qP, va_K.moved (u := U) (U := U.calling g mk a) (Vm.Alike.refl U.vm) qK, qD, zX.call qX⟩), va_recv hKc hPc (ci := 0) (q0 := 0) rfl rfl, fun U hU hW => ⟨rfl, by rw [hU], by rw [hU]; exact hPc, va_K.moved hW.alike hKc, hDc.weaken (fun _ _ _ _ => trivial), hX9.go hS hU hW hFc⟩⟩ rfl rfl hl.1 rfl (lv_room (Nat.le_of_ble_eq_true rfl)) d_Law_part_5 ⟨Nat.le_of_ble_eq_true rfl, Nat.le_of_ble_eq_true rfl⟩) hS (fun q _ h => hFc q h) hFc (fun q _ h => hFc q h) (fun E ce q9 u9 t9 H1 locs ht hvm hpx hB hz1 hk1 hS hce hcv hcl => ?_) (fun r9 u9 t9 H1 locs ht hvm hw hB hz1 hk1 hS => ?_)
  · obtain ⟨hth, hP1, hK1, hD1⟩ := hB
    rw [ht] at hP1
    obtain ⟨hP, hD⟩ := va_join (wr := [(o, .inl (cJ, 1, .inr (.inl g)))]) (w1 := (wC a cI cZ v f w)) hP hD [0, 1, 2, 3, 4, 5, 6, 7, 8, 9, 10, 11, 12, 13, 14] [15] rfl rfl (by decide) (by decide) hk1 hFc hP1 hD1
    have hP := hP.sub (ws' := (wCo a o cI cZ cJ v f w g)) [1, 2, 3, 4, 5, 6, 7, 8, 9, 10, 11, 12, 13, 14, 15, 0] rfl
    have hD := hD.sub (ws' := (wCo a o cI cZ cJ v f w g)) [1, 2, 3, 4, 5, 6, 7, 8, 9, 10, 11, 12, 13, 14, 15, 0] (by decide) rfl
    obtain ⟨rfl, hk⟩ := hth
    refine vx_catch (own := "CutLengthsLaw") (name := "java/lang/IndexOutOfBoundsException") hown [] { startPc := 0, endPc := 10, handlerPc := 13, catchType := 31 } [] (htb.trans rfl) (fun z hz9 => absurd hz9 List.not_mem_nil) (by decide) (by decide) (hz _ tw_354) (zNG_use hX9.2.2 _ (by decide)) hce hcv hcl ?_
    refine lv_astore (lv' := [(4, .ref (q9)), (0, .ref (a 0)), (1, .int (p0)), (2, .int (p1)), (3, .ref (o))]) hx hb d_Law_part_13 hl (by decide) rfl (fun ls hl => ?_)
    refine lv_iconst (v := nI 1) hx hb d_Law_part_15 (by decide) ?_
    refine W.widen (k := 1) (n := 6) (Nat.le_of_ble_eq_true rfl) (Nat.le_of_ble_eq_true rfl) ?_
    exact W.iret (v := nI 1) hx hb hr (fun t9 ht hW => ⟨⟨nI 1, ((v, f, w), g), rfl, Or.inr ⟨1, by decide, hk, rfl, rfl⟩, by rw [ht]; exact hP, va_K.moved hW.alike hK, hD⟩, hS.F ht⟩) hS.2.2 d_Law_part_16
  · obtain ⟨L, S, F⟩ := u9
    obtain ⟨hP1, hK1, hD1⟩ := hB
    rw [ht] at hP1
    obtain ⟨hP, hD⟩ := va_join (wr := [(o, .inl (cJ, 1, .inr (.inl g)))]) (w1 := (wC a cI cZ (zu v 2 (0)) (zu (zu f 4 (L)) 5 (S)) (zu w 0 (F)))) hP hD [0, 1, 2, 3, 4, 5, 6, 7, 8, 9, 10, 11, 12, 13, 14] [15] rfl rfl (by decide) (by decide) hk1 hFc hP1 hD1
    have hP := hP.sub (ws' := (wCo a o cI cZ cJ (zu v 2 (0)) (zu (zu f 4 (L)) 5 (S)) (zu w 0 (F)) g)) [1, 2, 3, 4, 5, 6, 7, 8, 9, 10, 11, 12, 13, 14, 15, 0] rfl
    have hD := hD.sub (ws' := (wCo a o cI cZ cJ (zu v 2 (0)) (zu (zu f 4 (L)) 5 (S)) (zu w 0 (F)) g)) [1, 2, 3, 4, 5, 6, 7, 8, 9, 10, 11, 12, 13, 14, 15, 0] (by decide) rfl
    obtain ⟨hk, hf9, hr9⟩ := hw
    subst hr9
    refine lv_i2l (v := (zpart (v 3) (v 4) S F z0.toNat z1).toInt64) hx hb d_Law_part_8 rfl ?_
    refine va_last (x := (zpart (v 3) (v 4) S F z0.toNat z1).toInt64) hx hb hK hP hD hS 15 2 rfl rfl (vp_in_nI (by decide) (by decide)) d_Law_part_9 (fun H locs hP hD hS => ?_)
    have hP : va_P (dC, dI) vwCl (wCo a o cI cZ cJ (zu v 2 (0)) (zu (zu f 4 (L)) 5 (S)) (zu w 0 (F)) (vp_updL g (nI 0).toNatClampNeg ((zpart (v 3) (v 4) S F z0.toNat z1).toInt64))) H := hP
    have hD : va_D A (wCo a o cI cZ cJ (zu v 2 (0)) (zu (zu f 4 (L)) 5 (S)) (zu w 0 (F)) (vp_updL g (nI 0).toNatClampNeg ((zpart (v 3) (v 4) S F z0.toNat z1).toInt64))) := hD
    refine lv_goto (tgt := 17) hx hb d_Law_part_10 (by decide) ?_
    refine lv_iconst (v := nI 0) hx hb d_Law_part_17 (by decide) ?_
    refine W.widen (k := 1) (n := 6) (Nat.le_of_ble_eq_true rfl) (Nat.le_of_ble_eq_true rfl) ?_
    exact W.iret (v := nI 0) hx hb hr (fun t9 ht hW => ⟨⟨nI 0, (((zu v 2 (0)), (zu (zu f 4 (L)) 5 (S)), (zu w 0 (F))), (vp_updL g (nI 0).toNatClampNeg ((zpart (v 3) (v 4) S F z0.toNat z1).toInt64))), rfl, Or.inl ⟨L, S, F, hk, hf9, rfl, rfl, zz_up0 g _⟩, by rw [ht]; exact hP, va_K.moved hW.alike hK, hD⟩, hS.F ht⟩) hS.2.2 d_Law_part_18
set_option maxHeartbeats 4000000 in
set_option maxRecDepth 100000 in
theorem c_Law_cut (l : Launch) (hl9 : l.stackTraces = false) (dC : Nat → ClassId) (dI : Nat → Nat → Nat) (a : Nat → Nat) (o : Nat) (cI cZ cJ : ClassId) (v : Nat → Nat) (f : Nat → Nat → Nat) (w : Nat → Nat → Int32) (g : Nat → Int64) (sz : Nat)  (hI : zI v f) (hC : v 2 = 0 → zCP v f (f 4) (f 5) (w 0)) : Met l y_Law_cut (zw_Law_cut :: zW) ({ frames := 7, cells := 1, slots := 6, locals := 126 }) (va_Pc [.ref (a 0), .ref (o)] (fun U => U.heap.size = sz ∧ va_P (dC, dI) vwCl (wCo a o cI cZ cJ v f w g) U.heap ∧ va_K (dC, dI) vwCl [(cI, .int), (cZ, .boolean), (cJ, .long)] U ∧ va_D (fun _ => True) (wCo a o cI cZ cJ v f w g) ∧ zX (va_A (wCo a o cI cZ cJ v f w g) sz) U U.heap)) (va_Qi (fun (r : Int32) (u : ZS × (Nat → Int64)) => (∃ (L S : Nat → Nat) (F : Nat → Int32), k_cut (v 4) (v 3) (v 10) = 0 ∧ zCP v f L S F ∧ r = nI 0 ∧ u.1 = ((zu (zu (zu v 2 (0)) 10 (v 10 + 1)) 4 (v 4 + S (v 4))), (zu (zu (zu (zu f 4 (L)) 5 (S)) 6 (va_up (f 6) (v 10) (v 4))) 7 (va_up (f 7) (v 10) (S (v 4)))), (zu (zu w 0 (F)) 1 (va_up (w 1) (v 10) (F (v 4))))) ∧ u.2 0 = (nI (v 10)).toInt64) ∨ (∃ c9, c9 ≠ 0 ∧ k_cut (v 4) (v 3) (v 10) = c9 ∧ r = nI c9 ∧ u.1 = (v, f, w))) (fun (u : ZS × (Nat → Int64)) t => match u with | ((v9, f9, w9), g9) => va_P (dC, dI) vwCl (wCo a o cI cZ cJ v9 f9 w9 g9) t.heap ∧ va_K (dC, dI) vwCl [(cI, .int), (cZ, .boolean), (cJ, .long)] t ∧ va_D (va_A (wCo a o cI cZ cJ v f w g) sz) (wCo a o cI cZ cJ v9 f9 w9 g9)) (va_A (wCo a o cI cZ cJ v f w g) sz)) 1 6 (va_A (wCo a o cI cZ cJ v f w g) sz) := by
  refine va_MetW (cc := method_11_code) (maxL := 3) (ret := some .int) (hh := [(0, 8, 11, 13), (0, 8, 14, 21)]) (by decide) rfl ?_
  intro p e s m args below meth c s₁ B hml hv
  obtain ⟨rfl, hsz, hP, hK, hD0, hX9⟩ := hv
  have hx := B.exec
  have hb := B.bytes
  have hr := B.returns
  have hz : ∀ w ∈ zW, w.before ([.ref (a 0), .ref (o)]).toArray s = true := fun w h => atoms_spec (ws := (zw_Law_cut :: zW)) B.pre w (List.mem_cons_of_mem _ h)
  have hown : s.vm.findClass "CutLengthsLaw" = some m.cls := findClass_of_methodNamed B.named
  have hlocks := B.notSynchronized
  have htb : c.exceptionTable.toList = tableOf [(0, 8, 11, 13), (0, 8, 14, 21)] := vx_table (x := y_Law_cut) B (hz _ tw_432)
  subst hsz
  have hD := hD0.self (sz := s.heap.size)
  generalize hAe : va_A (wCo a o cI cZ cJ v f w g) s.heap.size = A at hD hX9 ⊢
  have hA : ∀ q : Nat, s.heap.size ≤ q → A q := fun q h => by rw [← hAe]; exact Or.inr h
  have hS : va_S A s.heap s.heap [] := va_S.rf
  have hP : va_P (dC, dI) vwCl (wCo a o cI cZ cJ v f w g) s.heap := hP
  have hl := lv_entry ([.ref (a 0), .ref (o)]) (n := 3) (Nat.le_of_ble_eq_true rfl)
  rw [lg_entry_eq]
  generalize (lg_sl ([.ref (a 0), .ref (o)]) ++ List.replicate (3 - (lg_sl ([.ref (a 0), .ref (o)])).length) Slot.unset).toArray = ls at hl ⊢
  have hl : lv_has ls 3 [(0, .ref (a 0)), (1, .ref (o))] := hl
  refine lv_aload_n hx hb d_Law_cut_0 rfl (lv_at hl 1 rfl) ?_
  refine lv_iconst (v := nI 0) hx hb d_Law_cut_1 (by decide) ?_
  refine lv_aload_n hx hb d_Law_cut_2 rfl (lv_at hl 0 rfl) ?_
  have hPc := hP.sub (ws' := (wC a cI cZ v f w)) [0, 1, 2, 3, 4, 5, 6, 7, 8, 9, 10, 11, 12, 13, 14] rfl
  have hDc := hD.sub (ws' := (wC a cI cZ v f w)) [0, 1, 2, 3, 4, 5, 6, 7, 8, 9, 10, 11, 12, 13, 14] (by decide) rfl
  have hKc := hK.sub (tys' := [(cI, .int), (cZ, .boolean)]) [0, 1] rfl
  have hFc := va_free (wc := (wC a cI cZ v f w)) hD hS hA [0, 1, 2, 3, 4, 5, 6, 7, 8, 9, 10, 11, 12, 13, 14] rfl
  refine vx_calli (vx_runV (As := []) (rest := [.int (nI (0)), .ref (o)]) ⟨hx, hb, hml, hown, hz⟩ (c_Cut_cut l hl9 dC dI a cI cZ v f w s.heap.size  hI hC) (cwV (C := "CutLengths") 0 hz (zgV tw_433 tw_434 tw_435 tw_15 tw_436) rfl rfl rfl (by decide +kernel) ⟨Nat.le_of_ble_eq_true rfl, Nat.le_of_ble_eq_true rfl⟩) ⟨(fun a U g mk q => by obtain ⟨q0, q1, qP, qK, qD, qX⟩ := q; exact ⟨q0, q1, qP, va_K.moved (u := U) (U := U.calling g mk a) (Vm.Alike.refl U.vm) qK, qD, zX.call qX⟩), va_recv hKc hPc (ci := 0) (q0 := 0) rfl rfl, fun U hU hW => ⟨rfl, by rw [hU], by rw [hU]; exact hPc, va_K.moved hW.alike hKc, hDc.weaken (fun _ _ _ _ => trivial), hX9.go hS hU hW hFc⟩⟩ rfl rfl hl.1 rfl (lv_room (Nat.le_of_ble_eq_true rfl)) d_Law_cut_3 ⟨Nat.le_of_ble_eq_true rfl, Nat.le_of_ble_eq_true rfl⟩) hS (fun q _ h => hFc q h) hFc (fun q _ h => hFc q h) (fun E ce q9 u9 t9 H1 locs ht hvm hpx hB hz1 hk1 hS hce hcv hcl => ?_) (fun r9 u9 t9 H1 locs ht hvm hw hB hz1 hk1 hS => ?_)
  · obtain ⟨hth, hP1, hK1, hD1⟩ := hB
    rw [ht] at hP1
    obtain ⟨hP, hD⟩ := va_join (wr := [(o, .inl (cJ, 1, .inr (.inl g)))]) (w1 := (wC a cI cZ v f w)) hP hD [0, 1, 2, 3, 4, 5, 6, 7, 8, 9, 10, 11, 12, 13, 14] [15] rfl rfl (by decide) (by decide) hk1 hFc hP1 hD1
    have hP := hP.sub (ws' := (wCo a o cI cZ cJ v f w g)) [1, 2, 3, 4, 5, 6, 7, 8, 9, 10, 11, 12, 13, 14, 15, 0] rfl
    have hD := hD.sub (ws' := (wCo a o cI cZ cJ v f w g)) [1, 2, 3, 4, 5, 6, 7, 8, 9, 10, 11, 12, 13, 14, 15, 0] (by decide) rfl
    rcases hth with ⟨rfl, hk⟩ | ⟨rfl, hk⟩
    · refine vx_catch (own := "CutLengthsLaw") (name := "java/lang/IllegalStateException") hown [] { startPc := 0, endPc := 8, handlerPc := 11, catchType := 13 } [{ startPc := 0, endPc := 8, handlerPc := 14, catchType := 21 }] (htb.trans rfl) (fun z hz9 => absurd hz9 List.not_mem_nil) (by decide) (by decide) (hz _ tw_214) (zNG_use hX9.2.2 _ (by decide)) hce hcv hcl ?_
      refine lv_astore_n (lv' := [(2, .ref (q9)), (0, .ref (a 0)), (1, .ref (o))]) hx hb d_Law_cut_11 rfl hl (by decide) rfl (fun ls hl => ?_)
      refine lv_iconst (v := nI 1) hx hb d_Law_cut_12 (by decide) ?_
      refine W.widen (k := 1) (n := 6) (Nat.le_of_ble_eq_true rfl) (Nat.le_of_ble_eq_true rfl) ?_
      exact W.iret (v := nI 1) hx hb hr (fun t9 ht hW => ⟨⟨nI 1, ((v, f, w), g), rfl, Or.inr ⟨1, by decide, hk, rfl, rfl⟩, by rw [ht]; exact hP, va_K.moved hW.alike hK, hD⟩, hS.F ht⟩) hS.2.2 d_Law_cut_13
    · refine vx_catch (own := "CutLengthsLaw") (name := "java/lang/UnsupportedOperationException") hown [{ startPc := 0, endPc := 8, handlerPc := 11, catchType := 13 }] { startPc := 0, endPc := 8, handlerPc := 14, catchType := 21 } [] (htb.trans rfl) (fun z hz9 => by rw [List.mem_singleton.mp hz9]; exact Or.inr ⟨by decide, "java/lang/IllegalStateException", hz _ tw_214, hX9.2.2.2.2 ("java/lang/UnsupportedOperationException", "java/lang/IllegalStateException") (by decide)⟩) (by decide) (by decide) (hz _ tw_313) (zNG_use hX9.2.2 _ (by decide)) hce hcv hcl ?_
      refine lv_astore_n (lv' := [(2, .ref (q9)), (0, .ref (a 0)), (1, .ref (o))]) hx hb d_Law_cut_14 rfl hl (by decide) rfl (fun ls hl => ?_)
      refine lv_iconst (v := nI 2) hx hb d_Law_cut_15 (by decide) ?_
      refine W.widen (k := 1) (n := 6) (Nat.le_of_ble_eq_true rfl) (Nat.le_of_ble_eq_true rfl) ?_
      exact W.iret (v := nI 2) hx hb hr (fun t9 ht hW => ⟨⟨nI 2, ((v, f, w), g), rfl, Or.inr ⟨2, by decide, hk, rfl, rfl⟩, by rw [ht]; exact hP, va_K.moved hW.alike hK, hD⟩, hS.F ht⟩) hS.2.2 d_Law_cut_16
  · obtain ⟨L, S, F⟩ := u9
    obtain ⟨hP1, hK1, hD1⟩ := hB
    rw [ht] at hP1
    obtain ⟨hP, hD⟩ := va_join (wr := [(o, .inl (cJ, 1, .inr (.inl g)))]) (w1 := (wC a cI cZ (zu (zu (zu v 2 (0)) 10 (v 10 + 1)) 4 (v 4 + S (v 4))) (zu (zu (zu (zu f 4 (L)) 5 (S)) 6 (va_up (f 6) (v 10) (v 4))) 7 (va_up (f 7) (v 10) (S (v 4)))) (zu (zu w 0 (F)) 1 (va_up (w 1) (v 10) (F (v 4)))))) hP hD [0, 1, 2, 3, 4, 5, 6, 7, 8, 9, 10, 11, 12, 13, 14] [15] rfl rfl (by decide) (by decide) hk1 hFc hP1 hD1
    have hP := hP.sub (ws' := (wCo a o cI cZ cJ (zu (zu (zu v 2 (0)) 10 (v 10 + 1)) 4 (v 4 + S (v 4))) (zu (zu (zu (zu f 4 (L)) 5 (S)) 6 (va_up (f 6) (v 10) (v 4))) 7 (va_up (f 7) (v 10) (S (v 4)))) (zu (zu w 0 (F)) 1 (va_up (w 1) (v 10) (F (v 4)))) g)) [1, 2, 3, 4, 5, 6, 7, 8, 9, 10, 11, 12, 13, 14, 15, 0] rfl
    have hD := hD.sub (ws' := (wCo a o cI cZ cJ (zu (zu (zu v 2 (0)) 10 (v 10 + 1)) 4 (v 4 + S (v 4))) (zu (zu (zu (zu f 4 (L)) 5 (S)) 6 (va_up (f 6) (v 10) (v 4))) 7 (va_up (f 7) (v 10) (S (v 4)))) (zu (zu w 0 (F)) 1 (va_up (w 1) (v 10) (F (v 4)))) g)) [1, 2, 3, 4, 5, 6, 7, 8, 9, 10, 11, 12, 13, 14, 15, 0] (by decide) rfl
    obtain ⟨hk, hf9, hr9⟩ := hw
    subst hr9
    refine lv_i2l (v := (nI (v 10)).toInt64) hx hb d_Law_cut_6 rfl ?_
    refine va_last (x := (nI (v 10)).toInt64) hx hb hK hP hD hS 15 2 rfl rfl (vp_in_nI (by decide) (by decide)) d_Law_cut_7 (fun H locs hP hD hS => ?_)
    have hP : va_P (dC, dI) vwCl (wCo a o cI cZ cJ (zu (zu (zu v 2 (0)) 10 (v 10 + 1)) 4 (v 4 + S (v 4))) (zu (zu (zu (zu f 4 (L)) 5 (S)) 6 (va_up (f 6) (v 10) (v 4))) 7 (va_up (f 7) (v 10) (S (v 4)))) (zu (zu w 0 (F)) 1 (va_up (w 1) (v 10) (F (v 4)))) (vp_updL g (nI 0).toNatClampNeg ((nI (v 10)).toInt64))) H := hP
    have hD : va_D A (wCo a o cI cZ cJ (zu (zu (zu v 2 (0)) 10 (v 10 + 1)) 4 (v 4 + S (v 4))) (zu (zu (zu (zu f 4 (L)) 5 (S)) 6 (va_up (f 6) (v 10) (v 4))) 7 (va_up (f 7) (v 10) (S (v 4)))) (zu (zu w 0 (F)) 1 (va_up (w 1) (v 10) (F (v 4)))) (vp_updL g (nI 0).toNatClampNeg ((nI (v 10)).toInt64))) := hD
    refine lv_goto (tgt := 17) hx hb d_Law_cut_8 (by decide) ?_
    refine lv_iconst (v := nI 0) hx hb d_Law_cut_17 (by decide) ?_
    refine W.widen (k := 1) (n := 6) (Nat.le_of_ble_eq_true rfl) (Nat.le_of_ble_eq_true rfl) ?_
    exact W.iret (v := nI 0) hx hb hr (fun t9 ht hW => ⟨⟨nI 0, (((zu (zu (zu v 2 (0)) 10 (v 10 + 1)) 4 (v 4 + S (v 4))), (zu (zu (zu (zu f 4 (L)) 5 (S)) 6 (va_up (f 6) (v 10) (v 4))) 7 (va_up (f 7) (v 10) (S (v 4)))), (zu (zu w 0 (F)) 1 (va_up (w 1) (v 10) (F (v 4))))), (vp_updL g (nI 0).toNatClampNeg ((nI (v 10)).toInt64))), rfl, Or.inl ⟨L, S, F, hk, hf9, rfl, rfl, zz_up0 g _⟩, by rw [ht]; exact hP, va_K.moved hW.alike hK, hD⟩, hS.F ht⟩) hS.2.2 d_Law_cut_18
set_option maxHeartbeats 4000000 in
set_option maxRecDepth 100000 in
theorem c_Law_slab (l : Launch) (hl9 : l.stackTraces = false) (dC : Nat → ClassId) (dI : Nat → Nat → Nat) (a : Nat → Nat) (o : Nat) (cI cZ cJ : ClassId) (v : Nat → Nat) (f : Nat → Nat → Nat) (w : Nat → Nat → Int32) (g : Nat → Int64) (sz : Nat) (p0 : Int32) (z0 : Int) (h0 : p0.toInt = z0) (p1 : Int32) (z1 : Int) (h1 : p1.toInt = z1) (hI : zI v f) : Met l y_Law_slab (zw_Law_slab :: zW) ({ frames := 7, cells := 1, slots := 6, locals := 112 }) (va_Pc [.ref (a 0), .int (p0), .int (p1), .ref (o)] (fun U => U.heap.size = sz ∧ va_P (dC, dI) vwCl (wCo a o cI cZ cJ v f w g) U.heap ∧ va_K (dC, dI) vwCl [(cI, .int), (cZ, .boolean), (cJ, .long)] U ∧ va_D (fun _ => True) (wCo a o cI cZ cJ v f w g) ∧ zX (va_A (wCo a o cI cZ cJ v f w g) sz) U U.heap)) (va_Qi (fun (r : Int32) (u : ZS × (Nat → Int64)) => (k_slab (v 10) z0 z1 = 0 ∧ r = nI 0 ∧ u.1 = (v, f, w) ∧ u.2 0 = ((if z1 = 0 then w 1 z0.toNat else if z1 = 1 then nI (f 6 z0.toNat) else nI (f 7 z0.toNat))).toInt64) ∨ (∃ c9, c9 ≠ 0 ∧ k_slab (v 10) z0 z1 = c9 ∧ r = nI c9 ∧ u.1 = (v, f, w))) (fun (u : ZS × (Nat → Int64)) t => match u with | ((v9, f9, w9), g9) => va_P (dC, dI) vwCl (wCo a o cI cZ cJ v9 f9 w9 g9) t.heap ∧ va_K (dC, dI) vwCl [(cI, .int), (cZ, .boolean), (cJ, .long)] t ∧ va_D (va_A (wCo a o cI cZ cJ v f w g) sz) (wCo a o cI cZ cJ v9 f9 w9 g9)) (va_A (wCo a o cI cZ cJ v f w g) sz)) 1 6 (va_A (wCo a o cI cZ cJ v f w g) sz) := by
  refine va_MetW (cc := method_12_code) (maxL := 5) (ret := some .int) (hh := [(0, 10, 13, 31)]) (by decide) rfl ?_
  intro p e s m args below meth c s₁ B hml hv
  obtain ⟨rfl, hsz, hP, hK, hD0, hX9⟩ := hv
  have hx := B.exec
  have hb := B.bytes
  have hr := B.returns
  have hz : ∀ w ∈ zW, w.before ([.ref (a 0), .int (p0), .int (p1), .ref (o)]).toArray s = true := fun w h => atoms_spec (ws := (zw_Law_slab :: zW)) B.pre w (List.mem_cons_of_mem _ h)
  have hown : s.vm.findClass "CutLengthsLaw" = some m.cls := findClass_of_methodNamed B.named
  have hlocks := B.notSynchronized
  have htb : c.exceptionTable.toList = tableOf [(0, 10, 13, 31)] := vx_table (x := y_Law_slab) B (hz _ tw_445)
  subst hsz
  have hD := hD0.self (sz := s.heap.size)
  generalize hAe : va_A (wCo a o cI cZ cJ v f w g) s.heap.size = A at hD hX9 ⊢
  have hA : ∀ q : Nat, s.heap.size ≤ q → A q := fun q h => by rw [← hAe]; exact Or.inr h
  have hS : va_S A s.heap s.heap [] := va_S.rf
  have hP : va_P (dC, dI) vwCl (wCo a o cI cZ cJ v f w g) s.heap := hP
  have hl := lv_entry ([.ref (a 0), .int (p0), .int (p1), .ref (o)]) (n := 5) (Nat.le_of_ble_eq_true rfl)
  rw [lg_entry_eq]
  generalize (lg_sl ([.ref (a 0), .int (p0), .int (p1), .ref (o)]) ++ List.replicate (5 - (lg_sl ([.ref (a 0), .int (p0), .int (p1), .ref (o)])).length) Slot.unset).toArray = ls at hl ⊢
  have hl : lv_has ls 5 [(0, .ref (a 0)), (1, .int (p0)), (2, .int (p1)), (3, .ref (o))] := hl
  refine lv_aload_n hx hb d_Law_slab_0 rfl (lv_at hl 3 rfl) ?_
  refine lv_iconst (v := nI 0) hx hb d_Law_slab_1 (by decide) ?_
  refine lv_aload_n hx hb d_Law_slab_2 rfl (lv_at hl 0 rfl) ?_
  refine lv_iload_n hx hb d_Law_slab_3 rfl (lv_at hl 1 rfl) ?_
  refine lv_iload_n hx hb d_Law_slab_4 rfl (lv_at hl 2 rfl) ?_
  have hPc := hP.sub (ws' := (wC a cI cZ v f w)) [0, 1, 2, 3, 4, 5, 6, 7, 8, 9, 10, 11, 12, 13, 14] rfl
  have hDc := hD.sub (ws' := (wC a cI cZ v f w)) [0, 1, 2, 3, 4, 5, 6, 7, 8, 9, 10, 11, 12, 13, 14] (by decide) rfl
  have hKc := hK.sub (tys' := [(cI, .int), (cZ, .boolean)]) [0, 1] rfl
  have hFc := va_free (wc := (wC a cI cZ v f w)) hD hS hA [0, 1, 2, 3, 4, 5, 6, 7, 8, 9, 10, 11, 12, 13, 14] rfl
  refine vx_calli (vx_runV (As := [.int (p0), .int (p1)]) (rest := [.int (nI (0)), .ref (o)]) ⟨hx, hb, hml, hown, hz⟩ (c_Cut_slab l hl9 dC dI a cI cZ v f w s.heap.size p0 z0 h0 p1 z1 h1 hI) (cwV (C := "CutLengths") 2 hz (zgV tw_446 tw_447 tw_448 tw_15 tw_449) rfl rfl rfl (by decide +kernel) ⟨Nat.le_of_ble_eq_true rfl, Nat.le_of_ble_eq_true rfl⟩) ⟨(fun a U g mk q => by obtain ⟨q0, q1, qP, qK, qD, qX⟩ := q; exact ⟨q0, q1, qP, va_K.moved (u := U) (U := U.calling g mk a) (Vm.Alike.refl U.vm) qK, qD, zX.call qX⟩), va_recv hKc hPc (ci := 0) (q0 := 0) rfl rfl, fun U hU hW => ⟨rfl, by rw [hU], by rw [hU]; exact hPc, va_K.moved hW.alike hKc, hDc.weaken (fun _ _ _ _ => trivial), hX9.go hS hU hW hFc⟩⟩ rfl rfl hl.1 rfl (lv_room (Nat.le_of_ble_eq_true rfl)) d_Law_slab_5 ⟨Nat.le_of_ble_eq_true rfl, Nat.le_of_ble_eq_true rfl⟩) hS (fun q _ h => hFc q h) hFc (fun q _ h => hFc q h) (fun E ce q9 u9 t9 H1 locs ht hvm hpx hB hz1 hk1 hS hce hcv hcl => ?_) (fun r9 u9 t9 H1 locs ht hvm hw hB hz1 hk1 hS => ?_)
  · obtain ⟨hth, hP1, hK1, hD1⟩ := hB
    rw [ht] at hP1
    obtain ⟨hP, hD⟩ := va_join (wr := [(o, .inl (cJ, 1, .inr (.inl g)))]) (w1 := (wC a cI cZ v f w)) hP hD [0, 1, 2, 3, 4, 5, 6, 7, 8, 9, 10, 11, 12, 13, 14] [15] rfl rfl (by decide) (by decide) hk1 hFc hP1 hD1
    have hP := hP.sub (ws' := (wCo a o cI cZ cJ v f w g)) [1, 2, 3, 4, 5, 6, 7, 8, 9, 10, 11, 12, 13, 14, 15, 0] rfl
    have hD := hD.sub (ws' := (wCo a o cI cZ cJ v f w g)) [1, 2, 3, 4, 5, 6, 7, 8, 9, 10, 11, 12, 13, 14, 15, 0] (by decide) rfl
    obtain ⟨rfl, hk⟩ := hth
    refine vx_catch (own := "CutLengthsLaw") (name := "java/lang/IndexOutOfBoundsException") hown [] { startPc := 0, endPc := 10, handlerPc := 13, catchType := 31 } [] (htb.trans rfl) (fun z hz9 => absurd hz9 List.not_mem_nil) (by decide) (by decide) (hz _ tw_354) (zNG_use hX9.2.2 _ (by decide)) hce hcv hcl ?_
    refine lv_astore (lv' := [(4, .ref (q9)), (0, .ref (a 0)), (1, .int (p0)), (2, .int (p1)), (3, .ref (o))]) hx hb d_Law_slab_13 hl (by decide) rfl (fun ls hl => ?_)
    refine lv_iconst (v := nI 1) hx hb d_Law_slab_15 (by decide) ?_
    refine W.widen (k := 1) (n := 6) (Nat.le_of_ble_eq_true rfl) (Nat.le_of_ble_eq_true rfl) ?_
    exact W.iret (v := nI 1) hx hb hr (fun t9 ht hW => ⟨⟨nI 1, ((v, f, w), g), rfl, Or.inr ⟨1, by decide, hk, rfl, rfl⟩, by rw [ht]; exact hP, va_K.moved hW.alike hK, hD⟩, hS.F ht⟩) hS.2.2 d_Law_slab_16
  · skip
    obtain ⟨hP1, hK1, hD1⟩ := hB
    rw [ht] at hP1
    obtain ⟨hP, hD⟩ := va_join (wr := [(o, .inl (cJ, 1, .inr (.inl g)))]) (w1 := (wC a cI cZ v f w)) hP hD [0, 1, 2, 3, 4, 5, 6, 7, 8, 9, 10, 11, 12, 13, 14] [15] rfl rfl (by decide) (by decide) hk1 hFc hP1 hD1
    have hP := hP.sub (ws' := (wCo a o cI cZ cJ v f w g)) [1, 2, 3, 4, 5, 6, 7, 8, 9, 10, 11, 12, 13, 14, 15, 0] rfl
    have hD := hD.sub (ws' := (wCo a o cI cZ cJ v f w g)) [1, 2, 3, 4, 5, 6, 7, 8, 9, 10, 11, 12, 13, 14, 15, 0] (by decide) rfl
    obtain ⟨hk, hr9⟩ := hw
    subst hr9
    refine lv_i2l (v := ((if z1 = 0 then w 1 z0.toNat else if z1 = 1 then nI (f 6 z0.toNat) else nI (f 7 z0.toNat))).toInt64) hx hb d_Law_slab_8 rfl ?_
    refine va_last (x := ((if z1 = 0 then w 1 z0.toNat else if z1 = 1 then nI (f 6 z0.toNat) else nI (f 7 z0.toNat))).toInt64) hx hb hK hP hD hS 15 2 rfl rfl (vp_in_nI (by decide) (by decide)) d_Law_slab_9 (fun H locs hP hD hS => ?_)
    have hP : va_P (dC, dI) vwCl (wCo a o cI cZ cJ v f w (vp_updL g (nI 0).toNatClampNeg (((if z1 = 0 then w 1 z0.toNat else if z1 = 1 then nI (f 6 z0.toNat) else nI (f 7 z0.toNat))).toInt64))) H := hP
    have hD : va_D A (wCo a o cI cZ cJ v f w (vp_updL g (nI 0).toNatClampNeg (((if z1 = 0 then w 1 z0.toNat else if z1 = 1 then nI (f 6 z0.toNat) else nI (f 7 z0.toNat))).toInt64))) := hD
    refine lv_goto (tgt := 17) hx hb d_Law_slab_10 (by decide) ?_
    refine lv_iconst (v := nI 0) hx hb d_Law_slab_17 (by decide) ?_
    refine W.widen (k := 1) (n := 6) (Nat.le_of_ble_eq_true rfl) (Nat.le_of_ble_eq_true rfl) ?_
    exact W.iret (v := nI 0) hx hb hr (fun t9 ht hW => ⟨⟨nI 0, ((v, f, w), (vp_updL g (nI 0).toNatClampNeg (((if z1 = 0 then w 1 z0.toNat else if z1 = 1 then nI (f 6 z0.toNat) else nI (f 7 z0.toNat))).toInt64))), rfl, Or.inl ⟨hk, rfl, rfl, zz_up0 g _⟩, by rw [ht]; exact hP, va_K.moved hW.alike hK, hD⟩, hS.F ht⟩) hS.2.2 d_Law_slab_18
set_option maxHeartbeats 4000000 in
set_option maxRecDepth 100000 in
theorem c_Law_weight (l : Launch) (hl9 : l.stackTraces = false) (dC : Nat → ClassId) (dI : Nat → Nat → Nat) (a : Nat → Nat) (o : Nat) (cI cZ cJ : ClassId) (v : Nat → Nat) (f : Nat → Nat → Nat) (w : Nat → Nat → Int32) (g : Nat → Int64) (sz : Nat) (p0 : Int32) (z0 : Int) (h0 : p0.toInt = z0) (hI : zI v f) : Met l y_Law_weight (zw_Law_weight :: zW) ({ frames := 7, cells := 1, slots := 6, locals := 113 }) (va_Pc [.ref (a 0), .int (p0), .ref (o)] (fun U => U.heap.size = sz ∧ va_P (dC, dI) vwCl (wCo a o cI cZ cJ v f w g) U.heap ∧ va_K (dC, dI) vwCl [(cI, .int), (cZ, .boolean), (cJ, .long)] U ∧ va_D (fun _ => True) (wCo a o cI cZ cJ v f w g) ∧ zX (va_A (wCo a o cI cZ cJ v f w g) sz) U U.heap)) (va_Qi (fun (r : Int32) (u : ZS × (Nat → Int64)) => (k_weight (v 10) z0 = 0 ∧ r = nI 0 ∧ u.1 = (v, f, w) ∧ u.2 0 = lN (f 7 z0.toNat) * lN (v 0) * lN (v 1) / 1000) ∨ (∃ c9, c9 ≠ 0 ∧ k_weight (v 10) z0 = c9 ∧ r = nI c9 ∧ u.1 = (v, f, w))) (fun (u : ZS × (Nat → Int64)) t => match u with | ((v9, f9, w9), g9) => va_P (dC, dI) vwCl (wCo a o cI cZ cJ v9 f9 w9 g9) t.heap ∧ va_K (dC, dI) vwCl [(cI, .int), (cZ, .boolean), (cJ, .long)] t ∧ va_D (va_A (wCo a o cI cZ cJ v f w g) sz) (wCo a o cI cZ cJ v9 f9 w9 g9)) (va_A (wCo a o cI cZ cJ v f w g) sz)) 1 6 (va_A (wCo a o cI cZ cJ v f w g) sz) := by
  refine va_MetW (cc := method_13_code) (maxL := 4) (ret := some .int) (hh := [(0, 8, 11, 31)]) (by decide) rfl ?_
  intro p e s m args below meth c s₁ B hml hv
  obtain ⟨rfl, hsz, hP, hK, hD0, hX9⟩ := hv
  have hx := B.exec
  have hb := B.bytes
  have hr := B.returns
  have hz : ∀ w ∈ zW, w.before ([.ref (a 0), .int (p0), .ref (o)]).toArray s = true := fun w h => atoms_spec (ws := (zw_Law_weight :: zW)) B.pre w (List.mem_cons_of_mem _ h)
  have hown : s.vm.findClass "CutLengthsLaw" = some m.cls := findClass_of_methodNamed B.named
  have hlocks := B.notSynchronized
  have htb : c.exceptionTable.toList = tableOf [(0, 8, 11, 31)] := vx_table (x := y_Law_weight) B (hz _ tw_457)
  subst hsz
  have hD := hD0.self (sz := s.heap.size)
  generalize hAe : va_A (wCo a o cI cZ cJ v f w g) s.heap.size = A at hD hX9 ⊢
  have hA : ∀ q : Nat, s.heap.size ≤ q → A q := fun q h => by rw [← hAe]; exact Or.inr h
  have hS : va_S A s.heap s.heap [] := va_S.rf
  have hP : va_P (dC, dI) vwCl (wCo a o cI cZ cJ v f w g) s.heap := hP
  have hl := lv_entry ([.ref (a 0), .int (p0), .ref (o)]) (n := 4) (Nat.le_of_ble_eq_true rfl)
  rw [lg_entry_eq]
  generalize (lg_sl ([.ref (a 0), .int (p0), .ref (o)]) ++ List.replicate (4 - (lg_sl ([.ref (a 0), .int (p0), .ref (o)])).length) Slot.unset).toArray = ls at hl ⊢
  have hl : lv_has ls 4 [(0, .ref (a 0)), (1, .int (p0)), (2, .ref (o))] := hl
  refine lv_aload_n hx hb d_Law_weight_0 rfl (lv_at hl 2 rfl) ?_
  refine lv_iconst (v := nI 0) hx hb d_Law_weight_1 (by decide) ?_
  refine lv_aload_n hx hb d_Law_weight_2 rfl (lv_at hl 0 rfl) ?_
  refine lv_iload_n hx hb d_Law_weight_3 rfl (lv_at hl 1 rfl) ?_
  have hPc := hP.sub (ws' := (wC a cI cZ v f w)) [0, 1, 2, 3, 4, 5, 6, 7, 8, 9, 10, 11, 12, 13, 14] rfl
  have hDc := hD.sub (ws' := (wC a cI cZ v f w)) [0, 1, 2, 3, 4, 5, 6, 7, 8, 9, 10, 11, 12, 13, 14] (by decide) rfl
  have hKc := hK.sub (tys' := [(cI, .int), (cZ, .boolean)]) [0, 1] rfl
  have hFc := va_free (wc := (wC a cI cZ v f w)) hD hS hA [0, 1, 2, 3, 4, 5, 6, 7, 8, 9, 10, 11, 12, 13, 14] rfl
  refine vx_calll (vx_runV (As := [.int (p0)]) (rest := [.int (nI (0)), .ref (o)]) ⟨hx, hb, hml, hown, hz⟩ (c_Cut_weight l hl9 dC dI a cI cZ v f w s.heap.size p0 z0 h0 hI) (cwV (C := "CutLengths") 1 hz (zgV tw_458 tw_459 tw_460 tw_15 tw_461) rfl rfl rfl (by decide +kernel) ⟨Nat.le_of_ble_eq_true rfl, Nat.le_of_ble_eq_true rfl⟩) ⟨(fun a U g mk q => by obtain ⟨q0, q1, qP, qK, qD, qX⟩ := q; exact ⟨q0, q1, qP, va_K.moved (u := U) (U := U.calling g mk a) (Vm.Alike.refl U.vm) qK, qD, zX.call qX⟩), va_recv hKc hPc (ci := 0) (q0 := 0) rfl rfl, fun U hU hW => ⟨rfl, by rw [hU], by rw [hU]; exact hPc, va_K.moved hW.alike hKc, hDc.weaken (fun _ _ _ _ => trivial), hX9.go hS hU hW hFc⟩⟩ rfl rfl hl.1 rfl (lv_room (Nat.le_of_ble_eq_true rfl)) d_Law_weight_4 ⟨Nat.le_of_ble_eq_true rfl, Nat.le_of_ble_eq_true rfl⟩) hS (fun q _ h => hFc q h) hFc (fun q _ h => hFc q h) (fun E ce q9 u9 t9 H1 locs ht hvm hpx hB hz1 hk1 hS hce hcv hcl => ?_) (fun r9 u9 t9 H1 locs ht hvm hw hB hz1 hk1 hS => ?_)
  · obtain ⟨hth, hP1, hK1, hD1⟩ := hB
    rw [ht] at hP1
    obtain ⟨hP, hD⟩ := va_join (wr := [(o, .inl (cJ, 1, .inr (.inl g)))]) (w1 := (wC a cI cZ v f w)) hP hD [0, 1, 2, 3, 4, 5, 6, 7, 8, 9, 10, 11, 12, 13, 14] [15] rfl rfl (by decide) (by decide) hk1 hFc hP1 hD1
    have hP := hP.sub (ws' := (wCo a o cI cZ cJ v f w g)) [1, 2, 3, 4, 5, 6, 7, 8, 9, 10, 11, 12, 13, 14, 15, 0] rfl
    have hD := hD.sub (ws' := (wCo a o cI cZ cJ v f w g)) [1, 2, 3, 4, 5, 6, 7, 8, 9, 10, 11, 12, 13, 14, 15, 0] (by decide) rfl
    obtain ⟨rfl, hk⟩ := hth
    refine vx_catch (own := "CutLengthsLaw") (name := "java/lang/IndexOutOfBoundsException") hown [] { startPc := 0, endPc := 8, handlerPc := 11, catchType := 31 } [] (htb.trans rfl) (fun z hz9 => absurd hz9 List.not_mem_nil) (by decide) (by decide) (hz _ tw_354) (zNG_use hX9.2.2 _ (by decide)) hce hcv hcl ?_
    refine lv_astore_n (lv' := [(3, .ref (q9)), (0, .ref (a 0)), (1, .int (p0)), (2, .ref (o))]) hx hb d_Law_weight_11 rfl hl (by decide) rfl (fun ls hl => ?_)
    refine lv_iconst (v := nI 1) hx hb d_Law_weight_12 (by decide) ?_
    refine W.widen (k := 1) (n := 6) (Nat.le_of_ble_eq_true rfl) (Nat.le_of_ble_eq_true rfl) ?_
    exact W.iret (v := nI 1) hx hb hr (fun t9 ht hW => ⟨⟨nI 1, ((v, f, w), g), rfl, Or.inr ⟨1, by decide, hk, rfl, rfl⟩, by rw [ht]; exact hP, va_K.moved hW.alike hK, hD⟩, hS.F ht⟩) hS.2.2 d_Law_weight_13
  · skip
    obtain ⟨hP1, hK1, hD1⟩ := hB
    rw [ht] at hP1
    obtain ⟨hP, hD⟩ := va_join (wr := [(o, .inl (cJ, 1, .inr (.inl g)))]) (w1 := (wC a cI cZ v f w)) hP hD [0, 1, 2, 3, 4, 5, 6, 7, 8, 9, 10, 11, 12, 13, 14] [15] rfl rfl (by decide) (by decide) hk1 hFc hP1 hD1
    have hP := hP.sub (ws' := (wCo a o cI cZ cJ v f w g)) [1, 2, 3, 4, 5, 6, 7, 8, 9, 10, 11, 12, 13, 14, 15, 0] rfl
    have hD := hD.sub (ws' := (wCo a o cI cZ cJ v f w g)) [1, 2, 3, 4, 5, 6, 7, 8, 9, 10, 11, 12, 13, 14, 15, 0] (by decide) rfl
    obtain ⟨hk, hr9⟩ := hw
    subst hr9
    refine va_last (x := lN (f 7 z0.toNat) * lN (v 0) * lN (v 1) / 1000) hx hb hK hP hD hS 15 2 rfl rfl (vp_in_nI (by decide) (by decide)) d_Law_weight_7 (fun H locs hP hD hS => ?_)
    have hP : va_P (dC, dI) vwCl (wCo a o cI cZ cJ v f w (vp_updL g (nI 0).toNatClampNeg (lN (f 7 z0.toNat) * lN (v 0) * lN (v 1) / 1000))) H := hP
    have hD : va_D A (wCo a o cI cZ cJ v f w (vp_updL g (nI 0).toNatClampNeg (lN (f 7 z0.toNat) * lN (v 0) * lN (v 1) / 1000))) := hD
    refine lv_goto (tgt := 14) hx hb d_Law_weight_8 (by decide) ?_
    refine lv_iconst (v := nI 0) hx hb d_Law_weight_14 (by decide) ?_
    refine W.widen (k := 1) (n := 6) (Nat.le_of_ble_eq_true rfl) (Nat.le_of_ble_eq_true rfl) ?_
    exact W.iret (v := nI 0) hx hb hr (fun t9 ht hW => ⟨⟨nI 0, ((v, f, w), (vp_updL g (nI 0).toNatClampNeg (lN (f 7 z0.toNat) * lN (v 0) * lN (v 1) / 1000))), rfl, Or.inl ⟨hk, rfl, rfl, zz_up0 g _⟩, by rw [ht]; exact hP, va_K.moved hW.alike hK, hD⟩, hS.F ht⟩) hS.2.2 d_Law_weight_15
set_option maxHeartbeats 4000000 in
set_option maxRecDepth 100000 in
theorem c_Law_count (l : Launch) (hl9 : l.stackTraces = false) (dC : Nat → ClassId) (dI : Nat → Nat → Nat) (a : Nat → Nat) (o : Nat) (cI cZ cJ : ClassId) (v : Nat → Nat) (f : Nat → Nat → Nat) (w : Nat → Nat → Int32) (g : Nat → Int64) (sz : Nat) (p0 : Int32) (z0 : Int) (h0 : p0.toInt = z0) (hI : zI v f) : Met l y_Law_count (zw_Law_count :: zW) ({ frames := 7, cells := 1, slots := 6, locals := 111 }) (va_Pc [.ref (a 0), .int (p0), .ref (o)] (fun U => U.heap.size = sz ∧ va_P (dC, dI) vwCl (wCo a o cI cZ cJ v f w g) U.heap ∧ va_K (dC, dI) vwCl [(cI, .int), (cZ, .boolean), (cJ, .long)] U ∧ va_D (fun _ => True) (wCo a o cI cZ cJ v f w g) ∧ zX (va_A (wCo a o cI cZ cJ v f w g) sz) U U.heap)) (va_Qi (fun (r : Int32) (u : ZS × (Nat → Int64)) => (k_count (v 9) z0 = 0 ∧ r = nI 0 ∧ u.1 = (v, f, w) ∧ u.2 0 = (nI (zcnt (w 1) p0 (v 10))).toInt64) ∨ (∃ c9, c9 ≠ 0 ∧ k_count (v 9) z0 = c9 ∧ r = nI c9 ∧ u.1 = (v, f, w))) (fun (u : ZS × (Nat → Int64)) t => match u with | ((v9, f9, w9), g9) => va_P (dC, dI) vwCl (wCo a o cI cZ cJ v9 f9 w9 g9) t.heap ∧ va_K (dC, dI) vwCl [(cI, .int), (cZ, .boolean), (cJ, .long)] t ∧ va_D (va_A (wCo a o cI cZ cJ v f w g) sz) (wCo a o cI cZ cJ v9 f9 w9 g9)) (va_A (wCo a o cI cZ cJ v f w g) sz)) 1 6 (va_A (wCo a o cI cZ cJ v f w g) sz) := by
  refine va_MetW (cc := method_14_code) (maxL := 4) (ret := some .int) (hh := [(0, 9, 12, 31)]) (by decide) rfl ?_
  intro p e s m args below meth c s₁ B hml hv
  obtain ⟨rfl, hsz, hP, hK, hD0, hX9⟩ := hv
  have hx := B.exec
  have hb := B.bytes
  have hr := B.returns
  have hz : ∀ w ∈ zW, w.before ([.ref (a 0), .int (p0), .ref (o)]).toArray s = true := fun w h => atoms_spec (ws := (zw_Law_count :: zW)) B.pre w (List.mem_cons_of_mem _ h)
  have hown : s.vm.findClass "CutLengthsLaw" = some m.cls := findClass_of_methodNamed B.named
  have hlocks := B.notSynchronized
  have htb : c.exceptionTable.toList = tableOf [(0, 9, 12, 31)] := vx_table (x := y_Law_count) B (hz _ tw_466)
  subst hsz
  have hD := hD0.self (sz := s.heap.size)
  generalize hAe : va_A (wCo a o cI cZ cJ v f w g) s.heap.size = A at hD hX9 ⊢
  have hA : ∀ q : Nat, s.heap.size ≤ q → A q := fun q h => by rw [← hAe]; exact Or.inr h
  have hS : va_S A s.heap s.heap [] := va_S.rf
  have hP : va_P (dC, dI) vwCl (wCo a o cI cZ cJ v f w g) s.heap := hP
  have hl := lv_entry ([.ref (a 0), .int (p0), .ref (o)]) (n := 4) (Nat.le_of_ble_eq_true rfl)
  rw [lg_entry_eq]
  generalize (lg_sl ([.ref (a 0), .int (p0), .ref (o)]) ++ List.replicate (4 - (lg_sl ([.ref (a 0), .int (p0), .ref (o)])).length) Slot.unset).toArray = ls at hl ⊢
  have hl : lv_has ls 4 [(0, .ref (a 0)), (1, .int (p0)), (2, .ref (o))] := hl
  refine lv_aload_n hx hb d_Law_count_0 rfl (lv_at hl 2 rfl) ?_
  refine lv_iconst (v := nI 0) hx hb d_Law_count_1 (by decide) ?_
  refine lv_aload_n hx hb d_Law_count_2 rfl (lv_at hl 0 rfl) ?_
  refine lv_iload_n hx hb d_Law_count_3 rfl (lv_at hl 1 rfl) ?_
  have hPc := hP.sub (ws' := (wC a cI cZ v f w)) [0, 1, 2, 3, 4, 5, 6, 7, 8, 9, 10, 11, 12, 13, 14] rfl
  have hDc := hD.sub (ws' := (wC a cI cZ v f w)) [0, 1, 2, 3, 4, 5, 6, 7, 8, 9, 10, 11, 12, 13, 14] (by decide) rfl
  have hKc := hK.sub (tys' := [(cI, .int), (cZ, .boolean)]) [0, 1] rfl
  have hFc := va_free (wc := (wC a cI cZ v f w)) hD hS hA [0, 1, 2, 3, 4, 5, 6, 7, 8, 9, 10, 11, 12, 13, 14] rfl
  refine vx_calli (vx_runV (As := [.int (p0)]) (rest := [.int (nI (0)), .ref (o)]) ⟨hx, hb, hml, hown, hz⟩ (c_Cut_count l hl9 dC dI a cI cZ v f w s.heap.size p0 z0 h0 hI) (cwV (C := "CutLengths") 1 hz (zgV tw_467 tw_468 tw_469 tw_15 tw_470) rfl rfl rfl (by decide +kernel) ⟨Nat.le_of_ble_eq_true rfl, Nat.le_of_ble_eq_true rfl⟩) ⟨(fun a U g mk q => by obtain ⟨q0, q1, qP, qK, qD, qX⟩ := q; exact ⟨q0, q1, qP, va_K.moved (u := U) (U := U.calling g mk a) (Vm.Alike.refl U.vm) qK, qD, zX.call qX⟩), va_recv hKc hPc (ci := 0) (q0 := 0) rfl rfl, fun U hU hW => ⟨rfl, by rw [hU], by rw [hU]; exact hPc, va_K.moved hW.alike hKc, hDc.weaken (fun _ _ _ _ => trivial), hX9.go hS hU hW hFc⟩⟩ rfl rfl hl.1 rfl (lv_room (Nat.le_of_ble_eq_true rfl)) d_Law_count_4 ⟨Nat.le_of_ble_eq_true rfl, Nat.le_of_ble_eq_true rfl⟩) hS (fun q _ h => hFc q h) hFc (fun q _ h => hFc q h) (fun E ce q9 u9 t9 H1 locs ht hvm hpx hB hz1 hk1 hS hce hcv hcl => ?_) (fun r9 u9 t9 H1 locs ht hvm hw hB hz1 hk1 hS => ?_)
  · obtain ⟨hth, hP1, hK1, hD1⟩ := hB
    rw [ht] at hP1
    obtain ⟨hP, hD⟩ := va_join (wr := [(o, .inl (cJ, 1, .inr (.inl g)))]) (w1 := (wC a cI cZ v f w)) hP hD [0, 1, 2, 3, 4, 5, 6, 7, 8, 9, 10, 11, 12, 13, 14] [15] rfl rfl (by decide) (by decide) hk1 hFc hP1 hD1
    have hP := hP.sub (ws' := (wCo a o cI cZ cJ v f w g)) [1, 2, 3, 4, 5, 6, 7, 8, 9, 10, 11, 12, 13, 14, 15, 0] rfl
    have hD := hD.sub (ws' := (wCo a o cI cZ cJ v f w g)) [1, 2, 3, 4, 5, 6, 7, 8, 9, 10, 11, 12, 13, 14, 15, 0] (by decide) rfl
    obtain ⟨rfl, hk⟩ := hth
    refine vx_catch (own := "CutLengthsLaw") (name := "java/lang/IndexOutOfBoundsException") hown [] { startPc := 0, endPc := 9, handlerPc := 12, catchType := 31 } [] (htb.trans rfl) (fun z hz9 => absurd hz9 List.not_mem_nil) (by decide) (by decide) (hz _ tw_354) (zNG_use hX9.2.2 _ (by decide)) hce hcv hcl ?_
    refine lv_astore_n (lv' := [(3, .ref (q9)), (0, .ref (a 0)), (1, .int (p0)), (2, .ref (o))]) hx hb d_Law_count_12 rfl hl (by decide) rfl (fun ls hl => ?_)
    refine lv_iconst (v := nI 1) hx hb d_Law_count_13 (by decide) ?_
    refine W.widen (k := 1) (n := 6) (Nat.le_of_ble_eq_true rfl) (Nat.le_of_ble_eq_true rfl) ?_
    exact W.iret (v := nI 1) hx hb hr (fun t9 ht hW => ⟨⟨nI 1, ((v, f, w), g), rfl, Or.inr ⟨1, by decide, hk, rfl, rfl⟩, by rw [ht]; exact hP, va_K.moved hW.alike hK, hD⟩, hS.F ht⟩) hS.2.2 d_Law_count_14
  · skip
    obtain ⟨hP1, hK1, hD1⟩ := hB
    rw [ht] at hP1
    obtain ⟨hP, hD⟩ := va_join (wr := [(o, .inl (cJ, 1, .inr (.inl g)))]) (w1 := (wC a cI cZ v f w)) hP hD [0, 1, 2, 3, 4, 5, 6, 7, 8, 9, 10, 11, 12, 13, 14] [15] rfl rfl (by decide) (by decide) hk1 hFc hP1 hD1
    have hP := hP.sub (ws' := (wCo a o cI cZ cJ v f w g)) [1, 2, 3, 4, 5, 6, 7, 8, 9, 10, 11, 12, 13, 14, 15, 0] rfl
    have hD := hD.sub (ws' := (wCo a o cI cZ cJ v f w g)) [1, 2, 3, 4, 5, 6, 7, 8, 9, 10, 11, 12, 13, 14, 15, 0] (by decide) rfl
    obtain ⟨hk, hr9⟩ := hw
    subst hr9
    refine lv_i2l (v := (nI (zcnt (w 1) p0 (v 10))).toInt64) hx hb d_Law_count_7 rfl ?_
    refine va_last (x := (nI (zcnt (w 1) p0 (v 10))).toInt64) hx hb hK hP hD hS 15 2 rfl rfl (vp_in_nI (by decide) (by decide)) d_Law_count_8 (fun H locs hP hD hS => ?_)
    have hP : va_P (dC, dI) vwCl (wCo a o cI cZ cJ v f w (vp_updL g (nI 0).toNatClampNeg ((nI (zcnt (w 1) p0 (v 10))).toInt64))) H := hP
    have hD : va_D A (wCo a o cI cZ cJ v f w (vp_updL g (nI 0).toNatClampNeg ((nI (zcnt (w 1) p0 (v 10))).toInt64))) := hD
    refine lv_goto (tgt := 15) hx hb d_Law_count_9 (by decide) ?_
    refine lv_iconst (v := nI 0) hx hb d_Law_count_15 (by decide) ?_
    refine W.widen (k := 1) (n := 6) (Nat.le_of_ble_eq_true rfl) (Nat.le_of_ble_eq_true rfl) ?_
    exact W.iret (v := nI 0) hx hb hr (fun t9 ht hW => ⟨⟨nI 0, ((v, f, w), (vp_updL g (nI 0).toNatClampNeg ((nI (zcnt (w 1) p0 (v 10))).toInt64))), rfl, Or.inl ⟨hk, rfl, rfl, zz_up0 g _⟩, by rw [ht]; exact hP, va_K.moved hW.alike hK, hD⟩, hS.F ht⟩) hS.2.2 d_Law_count_16
