/-! WRITING METHODS of the class, the small ones (rows written by wip/whole/mk_class.py) -/
theorem zmark {g h : Nat → Nat} {i k : Nat} (hg : ∀ p, g p = if i ≤ p ∧ p < k then 1 else h p) (hi : i ≤ k) : ∀ p, va_up g k 1 p = if i ≤ p ∧ p < k + 1 then 1 else h p := by
  intro p
  by_cases e : p = k
  · rw [e, va_up_self, if_pos (by omega)]
  · rw [va_up_ne _ _ e, hg p]
    by_cases q : i ≤ p ∧ p < k
    · rw [if_pos q, if_pos (by omega)]
    · rw [if_neg q, if_neg (by omega)]
theorem zz_decn {t : Nat} (h : 0 < t) : nI t + Int32.ofInt (-1) = nI (t - 1) := by rw [zz_dec]; exact zz_pred h
set_option maxHeartbeats 4000000 in
set_option maxRecDepth 100000 in
theorem c_Strand_markBad (l : Launch) (dC : Nat → ClassId) (dI : Nat → Nat → Nat) (a : Nat → Nat) (cI cZ : ClassId) (v : Nat → Nat) (f : Nat → Nat → Nat) (w : Nat → Nat → Int32) (sz : Nat) (i j : Nat) (hij : i ≤ j) (hj : j ≤ 300) (hI : zI v f) : Met l y_Strand_markBad (zw_Strand_markBad :: zW) ({ frames := 0, cells := 0, slots := 0, locals := 0 }) (va_Pc [.ref (a 1), .int (nI (i)), .int (nI (j))] (fun U => U.heap.size = sz ∧ va_P (dC, dI) vwCl (wC a cI cZ v f w) U.heap ∧ va_K (dC, dI) vwCl [(cI, .int), (cZ, .boolean)] U ∧ va_D (fun _ => True) (wC a cI cZ v f w))) (va_Qv (fun (u : Nat → Nat) => ∀ p, u p = if i ≤ p ∧ p < j then 1 else f 0 p) (fun (u : Nat → Nat) t => match u with | g => va_P (dC, dI) vwCl (wC a cI cZ (zu v 7 (v 7 + 1)) (zu f 0 (g)) w) t.heap ∧ va_K (dC, dI) vwCl [(cI, .int), (cZ, .boolean)] t ∧ va_D (va_A (wC a cI cZ v f w) sz) (wC a cI cZ (zu v 7 (v 7 + 1)) (zu f 0 (g)) w)) (va_A (wC a cI cZ v f w) sz)) 0 0 (va_A (wC a cI cZ v f w) sz) := by
  refine Met.ofW (cc := prog_4_method_2_code) (maxL := 4) (ret := none) (by decide) rfl ?_
  intro p e s m args below meth c s₁ B hml hv
  obtain ⟨rfl, hsz, hP, hK, hD0⟩ := hv
  have hx := B.exec
  have hb := B.bytes
  have hr := B.returns
  have hz : ∀ w ∈ zW, w.before ([.ref (a 1), .int (nI (i)), .int (nI (j))]).toArray s = true := fun w h => atoms_spec (ws := (zw_Strand_markBad :: zW)) B.pre w (List.mem_cons_of_mem _ h)
  have hown : s.vm.findClass "CutLengths$Strand" = some m.cls := findClass_of_methodNamed B.named
  have hlocks := B.notSynchronized
  subst hsz
  have hD := hD0.self (sz := s.heap.size)
  generalize hAe : va_A (wC a cI cZ v f w) s.heap.size = A at hD ⊢
  have hA : ∀ q : Nat, s.heap.size ≤ q → A q := fun q h => by rw [← hAe]; exact Or.inr h
  have hS : va_S A s.heap s.heap [] := va_S.rf
  have hP : va_P (dC, dI) vwCl (wC a cI cZ v f w) s.heap := hP
  obtain ⟨i3, i4, i5, i6, i7, i8, i9, i10, i2, i0, i1, iw, ib, ic, isl⟩ := id hI
  have hl := lv_entry ([.ref (a 1), .int (nI (i)), .int (nI (j))]) (n := 4) (Nat.le_of_ble_eq_true rfl)
  rw [lg_entry_eq]
  generalize (lg_sl ([.ref (a 1), .int (nI (i)), .int (nI (j))]) ++ List.replicate (4 - (lg_sl ([.ref (a 1), .int (nI (i)), .int (nI (j))])).length) Slot.unset).toArray = ls at hl ⊢
  have hl : lv_has ls 4 [(0, .ref (a 1)), (1, .int (nI (i))), (2, .int (nI (j)))] := hl
  refine lv_iload_n hx hb d_Strand_markBad_0 rfl (lv_at hl 1 rfl) ?_
  refine lv_istore_n (lv' := [(3, .int (nI (i))), (0, .ref (a 1)), (1, .int (nI (i))), (2, .int (nI (j)))]) hx hb d_Strand_markBad_1 rfl hl (by decide) rfl (fun ls hl => ?_)
  have loop : ∀ (n : Nat) (k : Nat) (g : Nat → Nat), (i ≤ k) → (k ≤ j) → (∀ p, g p = if i ≤ p ∧ p < k then 1 else f 0 p) → (j < k + n) → ∀ (H : Heap) (locs : List Loc), va_P (dC, dI) vwCl (wC a cI cZ v (zu f 0 (g)) w) H → va_D A (wC a cI cZ v (zu f 0 (g)) w) → va_S A s.heap H locs → ∀ ls : Array Slot, lv_has ls 4 [(3, .int (nI (k))), (0, .ref (a 1)), (1, .int (nI (i))), (2, .int (nI (j)))] → W p l e (headSpec (zw_Strand_markBad :: zW) ({ frames := 0, cells := 0, slots := 0, locals := 0 })).room s m ([.ref (a 1), .int (nI (i)), .int (nI (j))]).toArray below meth c H locs 0 0 (MQ below (va_Qv (fun (u : Nat → Nat) => ∀ p, u p = if i ≤ p ∧ p < j then 1 else f 0 p) (fun (u : Nat → Nat) t => match u with | g => va_P (dC, dI) vwCl (wC a cI cZ (zu v 7 (v 7 + 1)) (zu f 0 (g)) w) t.heap ∧ va_K (dC, dI) vwCl [(cI, .int), (cZ, .boolean)] t ∧ va_D A (wC a cI cZ (zu v 7 (v 7 + 1)) (zu f 0 (g)) w)) A) ([.ref (a 1), .int (nI (i)), .int (nI (j))]).toArray s 0 0 A) (F0 m 2 ls []) := by
    intro n
    induction n with
    | zero =>
      intro k g hk1 hk2 hg hn
      exact absurd hn (by omega)
    | succ n ih_loop =>
      intro k g hk1 hk2 hg hn H locs hP hD hS ls hl
      refine lv_iload_n hx hb d_Strand_markBad_2 rfl (lv_at hl 0 rfl) ?_
      refine lv_iload_n hx hb d_Strand_markBad_3 rfl (lv_at hl 3 rfl) ?_
      refine lv_icmp_ge (tgt := 20) hx hb d_Strand_markBad_4 (by decide) (fun c_4 => ?_) (fun c_4 => ?_)
      · have c_4 : ((j : Nat) : Int) ≤ ((k : Nat) : Int) := (zz_le (nI_toInt (by omega)) (nI_toInt (by omega))).mp c_4
        refine lv_aload_n hx hb d_Strand_markBad_20 rfl (lv_at hl 1 rfl) ?_
        refine lv_dup hx hb d_Strand_markBad_21 rfl ?_
        refine va_get (D := (dC, dI)) (ci := 1) (v := .int (nI (v 7))) (C := "CutLengths$Strand") (T := T_Strand) (N := 8) hx hb hz i_Strand hown hK hP 1 rfl rfl 4 (by decide) (hz _ tw_53) (fun _ h9 => h9) rfl d_Strand_markBad_22 ?_
        refine lv_iconst (v := nI (1)) hx hb d_Strand_markBad_25 (by decide) ?_
        refine lv_iadd hx hb d_Strand_markBad_26 ?_
        refine zz_top (nI_add (v 7) (1)) ?_
        refine va_put (D := (dC, dI)) (ci := 1) (v := .int (nI ((v 7) + 1))) (ty := .int) (C := "CutLengths$Strand") (T := T_Strand) (N := 8) hx hb hz i_Strand t_Strand t_Strand_ok n_Strand hown hK hP hD hS 1 rfl rfl 4 (by decide) (hz _ tw_53) (fun _ h9 => h9) rfl (by decide +kernel) rfl rfl (Nat.le_of_ble_eq_true rfl) d_Strand_markBad_27 (fun H locs hP hD hS => ?_)
        have hP : va_P (dC, dI) vwCl (wC a cI cZ (zu v 7 ((v 7) + 1)) (zu f 0 (g)) w) H := hP
        have hD : va_D A (wC a cI cZ (zu v 7 ((v 7) + 1)) (zu f 0 (g)) w) := hD
        exact W.vret hx hb hr (fun t9 ht hW => ⟨⟨g, rfl, (by rw [show j = k from by omega]; exact hg), by rw [ht]; exact hP, va_K.moved hW.alike hK, hD⟩, hS.F ht⟩) hS.2.2 d_Strand_markBad_30
      · have c_4 : ¬ (((j : Nat) : Int) ≤ ((k : Nat) : Int)) := fun q => c_4 ((zz_le (nI_toInt (by omega)) (nI_toInt (by omega))).mpr q)
        refine lv_aload_n hx hb d_Strand_markBad_7 rfl (lv_at hl 1 rfl) ?_
        refine va_get (D := (dC, dI)) (ci := 1) (v := .ref (a 2)) (C := "CutLengths$Strand") (T := T_Strand) (N := 8) hx hb hz i_Strand hown hK hP 1 rfl rfl 6 (by decide) (hz _ tw_57) (fun _ h9 => h9) rfl d_Strand_markBad_8 ?_
        refine lv_iload_n hx hb d_Strand_markBad_11 rfl (lv_at hl 0 rfl) ?_
        refine lv_iconst (v := nI (1)) hx hb d_Strand_markBad_12 (by decide) ?_
        refine zz_zast hx hb hK hP hD hS 2 1 (f := g) (i := k) rfl rfl (by omega) (by decide) d_Strand_markBad_13 (fun H locs hP hD hS => ?_)
        have hP : va_P (dC, dI) vwCl (wC a cI cZ v (zu f 0 (va_up g k 1)) w) H := hP
        have hD : va_D A (wC a cI cZ v (zu f 0 (va_up g k 1)) w) := hD
        refine lv_iinc (v := nI (k + 1)) (lv' := [(3, .int (nI (k + 1))), (0, .ref (a 1)), (1, .int (nI (i))), (2, .int (nI (j)))]) hx hb d_Strand_markBad_14 hl (k := 0) rfl (zz_inc _) (by decide) rfl (fun ls hl => ?_)
        refine lv_goto (tgt := 2) hx hb d_Strand_markBad_17 (by decide) ?_
        exact ih_loop (k + 1) (va_up g k 1) (by omega) (by omega) (zmark hg hk1) (by omega) H locs hP hD hS ls (lv_sub hl [0, 1, 2, 3] rfl)
  exact loop (j + 1) i (f 0) (Nat.le_refl _) (by omega) (fun p => (if_neg (by omega)).symm) (by omega) s.heap [] hP hD hS ls (lv_sub hl [0, 1, 2, 3] rfl)
set_option maxHeartbeats 4000000 in
set_option maxRecDepth 100000 in
theorem c_Strand_markBarred (l : Launch) (dC : Nat → ClassId) (dI : Nat → Nat → Nat) (a : Nat → Nat) (cI cZ : ClassId) (v : Nat → Nat) (f : Nat → Nat → Nat) (w : Nat → Nat → Int32) (sz : Nat) (i j : Nat) (hij : i ≤ j) (hj : j ≤ 300) (hI : zI v f) : Met l y_Strand_markBarred (zw_Strand_markBarred :: zW) ({ frames := 0, cells := 0, slots := 0, locals := 0 }) (va_Pc [.ref (a 1), .int (nI (i)), .int (nI (j))] (fun U => U.heap.size = sz ∧ va_P (dC, dI) vwCl (wC a cI cZ v f w) U.heap ∧ va_K (dC, dI) vwCl [(cI, .int), (cZ, .boolean)] U ∧ va_D (fun _ => True) (wC a cI cZ v f w))) (va_Qv (fun (u : Nat → Nat) => ∀ p, u p = if i ≤ p ∧ p < (j + 1) then 1 else f 1 p) (fun (u : Nat → Nat) t => match u with | g => va_P (dC, dI) vwCl (wC a cI cZ (zu v 8 (v 8 + 1)) (zu f 1 (g)) w) t.heap ∧ va_K (dC, dI) vwCl [(cI, .int), (cZ, .boolean)] t ∧ va_D (va_A (wC a cI cZ v f w) sz) (wC a cI cZ (zu v 8 (v 8 + 1)) (zu f 1 (g)) w)) (va_A (wC a cI cZ v f w) sz)) 0 0 (va_A (wC a cI cZ v f w) sz) := by
  refine Met.ofW (cc := prog_4_method_3_code) (maxL := 4) (ret := none) (by decide) rfl ?_
  intro p e s m args below meth c s₁ B hml hv
  obtain ⟨rfl, hsz, hP, hK, hD0⟩ := hv
  have hx := B.exec
  have hb := B.bytes
  have hr := B.returns
  have hz : ∀ w ∈ zW, w.before ([.ref (a 1), .int (nI (i)), .int (nI (j))]).toArray s = true := fun w h => atoms_spec (ws := (zw_Strand_markBarred :: zW)) B.pre w (List.mem_cons_of_mem _ h)
  have hown : s.vm.findClass "CutLengths$Strand" = some m.cls := findClass_of_methodNamed B.named
  have hlocks := B.notSynchronized
  subst hsz
  have hD := hD0.self (sz := s.heap.size)
  generalize hAe : va_A (wC a cI cZ v f w) s.heap.size = A at hD ⊢
  have hA : ∀ q : Nat, s.heap.size ≤ q → A q := fun q h => by rw [← hAe]; exact Or.inr h
  have hS : va_S A s.heap s.heap [] := va_S.rf
  have hP : va_P (dC, dI) vwCl (wC a cI cZ v f w) s.heap := hP
  obtain ⟨i3, i4, i5, i6, i7, i8, i9, i10, i2, i0, i1, iw, ib, ic, isl⟩ := id hI
  have hl := lv_entry ([.ref (a 1), .int (nI (i)), .int (nI (j))]) (n := 4) (Nat.le_of_ble_eq_true rfl)
  rw [lg_entry_eq]
  generalize (lg_sl ([.ref (a 1), .int (nI (i)), .int (nI (j))]) ++ List.replicate (4 - (lg_sl ([.ref (a 1), .int (nI (i)), .int (nI (j))])).length) Slot.unset).toArray = ls at hl ⊢
  have hl : lv_has ls 4 [(0, .ref (a 1)), (1, .int (nI (i))), (2, .int (nI (j)))] := hl
  refine lv_iload_n hx hb d_Strand_markBarred_0 rfl (lv_at hl 1 rfl) ?_
  refine lv_istore_n (lv' := [(3, .int (nI (i))), (0, .ref (a 1)), (1, .int (nI (i))), (2, .int (nI (j)))]) hx hb d_Strand_markBarred_1 rfl hl (by decide) rfl (fun ls hl => ?_)
  have loop : ∀ (n : Nat) (k : Nat) (g : Nat → Nat), (i ≤ k) → (k ≤ (j + 1)) → (∀ p, g p = if i ≤ p ∧ p < k then 1 else f 1 p) → ((j + 1) < k + n) → ∀ (H : Heap) (locs : List Loc), va_P (dC, dI) vwCl (wC a cI cZ v (zu f 1 (g)) w) H → va_D A (wC a cI cZ v (zu f 1 (g)) w) → va_S A s.heap H locs → ∀ ls : Array Slot, lv_has ls 4 [(3, .int (nI (k))), (0, .ref (a 1)), (1, .int (nI (i))), (2, .int (nI (j)))] → W p l e (headSpec (zw_Strand_markBarred :: zW) ({ frames := 0, cells := 0, slots := 0, locals := 0 })).room s m ([.ref (a 1), .int (nI (i)), .int (nI (j))]).toArray below meth c H locs 0 0 (MQ below (va_Qv (fun (u : Nat → Nat) => ∀ p, u p = if i ≤ p ∧ p < (j + 1) then 1 else f 1 p) (fun (u : Nat → Nat) t => match u with | g => va_P (dC, dI) vwCl (wC a cI cZ (zu v 8 (v 8 + 1)) (zu f 1 (g)) w) t.heap ∧ va_K (dC, dI) vwCl [(cI, .int), (cZ, .boolean)] t ∧ va_D A (wC a cI cZ (zu v 8 (v 8 + 1)) (zu f 1 (g)) w)) A) ([.ref (a 1), .int (nI (i)), .int (nI (j))]).toArray s 0 0 A) (F0 m 2 ls []) := by
    intro n
    induction n with
    | zero =>
      intro k g hk1 hk2 hg hn
      exact absurd hn (by omega)
    | succ n ih_loop =>
      intro k g hk1 hk2 hg hn H locs hP hD hS ls hl
      refine lv_iload_n hx hb d_Strand_markBarred_2 rfl (lv_at hl 0 rfl) ?_
      refine lv_iload_n hx hb d_Strand_markBarred_3 rfl (lv_at hl 3 rfl) ?_
      refine lv_icmp_gt (tgt := 20) hx hb d_Strand_markBarred_4 (by decide) (fun c_4 => ?_) (fun c_4 => ?_)
      · have c_4 : ((j : Nat) : Int) < ((k : Nat) : Int) := (zz_lt (nI_toInt (by omega)) (nI_toInt (by omega))).mp c_4
        refine lv_aload_n hx hb d_Strand_markBarred_20 rfl (lv_at hl 1 rfl) ?_
        refine lv_dup hx hb d_Strand_markBarred_21 rfl ?_
        refine va_get (D := (dC, dI)) (ci := 1) (v := .int (nI (v 8))) (C := "CutLengths$Strand") (T := T_Strand) (N := 8) hx hb hz i_Strand hown hK hP 1 rfl rfl 5 (by decide) (hz _ tw_55) (fun _ h9 => h9) rfl d_Strand_markBarred_22 ?_
        refine lv_iconst (v := nI (1)) hx hb d_Strand_markBarred_25 (by decide) ?_
        refine lv_iadd hx hb d_Strand_markBarred_26 ?_
        refine zz_top (nI_add (v 8) (1)) ?_
        refine va_put (D := (dC, dI)) (ci := 1) (v := .int (nI ((v 8) + 1))) (ty := .int) (C := "CutLengths$Strand") (T := T_Strand) (N := 8) hx hb hz i_Strand t_Strand t_Strand_ok n_Strand hown hK hP hD hS 1 rfl rfl 5 (by decide) (hz _ tw_55) (fun _ h9 => h9) rfl (by decide +kernel) rfl rfl (Nat.le_of_ble_eq_true rfl) d_Strand_markBarred_27 (fun H locs hP hD hS => ?_)
        have hP : va_P (dC, dI) vwCl (wC a cI cZ (zu v 8 ((v 8) + 1)) (zu f 1 (g)) w) H := hP
        have hD : va_D A (wC a cI cZ (zu v 8 ((v 8) + 1)) (zu f 1 (g)) w) := hD
        exact W.vret hx hb hr (fun t9 ht hW => ⟨⟨g, rfl, (by rw [show (j + 1) = k from by omega]; exact hg), by rw [ht]; exact hP, va_K.moved hW.alike hK, hD⟩, hS.F ht⟩) hS.2.2 d_Strand_markBarred_30
      · have c_4 : ¬ (((j : Nat) : Int) < ((k : Nat) : Int)) := fun q => c_4 ((zz_lt (nI_toInt (by omega)) (nI_toInt (by omega))).mpr q)
        refine lv_aload_n hx hb d_Strand_markBarred_7 rfl (lv_at hl 1 rfl) ?_
        refine va_get (D := (dC, dI)) (ci := 1) (v := .ref (a 3)) (C := "CutLengths$Strand") (T := T_Strand) (N := 8) hx hb hz i_Strand hown hK hP 1 rfl rfl 7 (by decide) (hz _ tw_58) (fun _ h9 => h9) rfl d_Strand_markBarred_8 ?_
        refine lv_iload_n hx hb d_Strand_markBarred_11 rfl (lv_at hl 0 rfl) ?_
        refine lv_iconst (v := nI (1)) hx hb d_Strand_markBarred_12 (by decide) ?_
        refine zz_zast hx hb hK hP hD hS 3 1 (f := g) (i := k) rfl rfl (by omega) (by decide) d_Strand_markBarred_13 (fun H locs hP hD hS => ?_)
        have hP : va_P (dC, dI) vwCl (wC a cI cZ v (zu f 1 (va_up g k 1)) w) H := hP
        have hD : va_D A (wC a cI cZ v (zu f 1 (va_up g k 1)) w) := hD
        refine lv_iinc (v := nI (k + 1)) (lv' := [(3, .int (nI (k + 1))), (0, .ref (a 1)), (1, .int (nI (i))), (2, .int (nI (j)))]) hx hb d_Strand_markBarred_14 hl (k := 0) rfl (zz_inc _) (by decide) rfl (fun ls hl => ?_)
        refine lv_goto (tgt := 2) hx hb d_Strand_markBarred_17 (by decide) ?_
        exact ih_loop (k + 1) (va_up g k 1) (by omega) (by omega) (zmark hg hk1) (by omega) H locs hP hD hS ls (lv_sub hl [0, 1, 2, 3] rfl)
  exact loop ((j + 1) + 1) i (f 1) (Nat.le_refl _) (by omega) (fun p => (if_neg (by omega)).symm) (by omega) s.heap [] hP hD hS ls (lv_sub hl [0, 1, 2, 3] rfl)
set_option maxHeartbeats 4000000 in
set_option maxRecDepth 100000 in
theorem c_Plan_takeScrap (l : Launch) (dC : Nat → ClassId) (dI : Nat → Nat → Nat) (a : Nat → Nat) (cI cZ : ClassId) (v : Nat → Nat) (f : Nat → Nat → Nat) (w : Nat → Nat → Int32) (sz : Nat) (j : Nat) (hj : j < 300) : Met l y_Plan_takeScrap (zw_Plan_takeScrap :: zW) ({ frames := 0, cells := 0, slots := 0, locals := 0 }) (va_Pc [.ref (a 7), .int (nI (j))] (fun U => U.heap.size = sz ∧ va_P (dC, dI) vwCl (wC a cI cZ v f w) U.heap ∧ va_K (dC, dI) vwCl [(cI, .int), (cZ, .boolean)] U ∧ va_D (fun _ => True) (wC a cI cZ v f w))) (va_Qv (fun (u : Nat) => u = if w 0 (j + 1) = -1 then f 5 (j + 1) + 1 else 1) (fun (u : Nat) t => match u with | x => va_P (dC, dI) vwCl (wC a cI cZ v (zu (zu f 4 (va_up (f 4) j (f 4 (j + 1) + 1))) 5 (va_up (f 5) j x)) (zu w 0 (va_up (w 0) j (-1)))) t.heap ∧ va_K (dC, dI) vwCl [(cI, .int), (cZ, .boolean)] t ∧ va_D (va_A (wC a cI cZ v f w) sz) (wC a cI cZ v (zu (zu f 4 (va_up (f 4) j (f 4 (j + 1) + 1))) 5 (va_up (f 5) j x)) (zu w 0 (va_up (w 0) j (-1))))) (va_A (wC a cI cZ v f w) sz)) 0 0 (va_A (wC a cI cZ v f w) sz) := by
  refine Met.ofW (cc := prog_2_method_4_code) (maxL := 3) (ret := none) (by decide) rfl ?_
  intro p e s m args below meth c s₁ B hml hv
  obtain ⟨rfl, hsz, hP, hK, hD0⟩ := hv
  have hx := B.exec
  have hb := B.bytes
  have hr := B.returns
  have hz : ∀ w ∈ zW, w.before ([.ref (a 7), .int (nI (j))]).toArray s = true := fun w h => atoms_spec (ws := (zw_Plan_takeScrap :: zW)) B.pre w (List.mem_cons_of_mem _ h)
  have hown : s.vm.findClass "CutLengths$Plan" = some m.cls := findClass_of_methodNamed B.named
  have hlocks := B.notSynchronized
  subst hsz
  have hD := hD0.self (sz := s.heap.size)
  generalize hAe : va_A (wC a cI cZ v f w) s.heap.size = A at hD ⊢
  have hA : ∀ q : Nat, s.heap.size ≤ q → A q := fun q h => by rw [← hAe]; exact Or.inr h
  have hS : va_S A s.heap s.heap [] := va_S.rf
  have hP : va_P (dC, dI) vwCl (wC a cI cZ v f w) s.heap := hP
  have hl := lv_entry ([.ref (a 7), .int (nI (j))]) (n := 3) (Nat.le_of_ble_eq_true rfl)
  rw [lg_entry_eq]
  generalize (lg_sl ([.ref (a 7), .int (nI (j))]) ++ List.replicate (3 - (lg_sl ([.ref (a 7), .int (nI (j))])).length) Slot.unset).toArray = ls at hl ⊢
  have hl : lv_has ls 3 [(0, .ref (a 7)), (1, .int (nI (j)))] := hl
  refine lv_aload_n hx hb d_Plan_takeScrap_0 rfl (lv_at hl 0 rfl) ?_
  refine va_get (D := (dC, dI)) (ci := 3) (v := .ref (a 9)) (C := "CutLengths$Plan") (T := T_Plan) (N := 3) hx hb hz i_Plan hown hK hP 7 rfl rfl 1 (by decide) (hz _ tw_108) (fun _ h9 => h9) rfl d_Plan_takeScrap_1 ?_
  refine lv_iload_n hx hb d_Plan_takeScrap_4 rfl (lv_at hl 1 rfl) ?_
  refine lv_iconst (v := nI (1)) hx hb d_Plan_takeScrap_5 (by decide) ?_
  refine lv_iadd hx hb d_Plan_takeScrap_6 ?_
  refine zz_top (nI_add (j) (1)) ?_
  refine zz_iald hx hb hK hP 9 0 (f := w 0) (i := j + 1) rfl rfl (by omega) (by decide) d_Plan_takeScrap_7 ?_
  refine lv_iconst (v := -1) hx hb d_Plan_takeScrap_8 (by decide) ?_
  refine lv_icmp_ne (tgt := 16) hx hb d_Plan_takeScrap_9 (by decide) (fun c_9 => ?_) (fun c_9 => ?_)
  · have c_9 : ¬ (w 0 (j + 1) = -1) := c_9
    refine lv_iconst (v := nI (0)) hx hb d_Plan_takeScrap_16 (by decide) ?_
    refine lv_istore_n (lv' := [(2, .int (nI (0))), (0, .ref (a 7)), (1, .int (nI (j)))]) hx hb d_Plan_takeScrap_17 rfl hl (by decide) rfl (fun ls hl => ?_)
    refine lv_aload_n hx hb d_Plan_takeScrap_18 rfl (lv_at hl 1 rfl) ?_
    refine va_get (D := (dC, dI)) (ci := 3) (v := .ref (a 8)) (C := "CutLengths$Plan") (T := T_Plan) (N := 3) hx hb hz i_Plan hown hK hP 7 rfl rfl 0 (by decide) (hz _ tw_106) (fun _ h9 => h9) rfl d_Plan_takeScrap_19 ?_
    refine lv_iload_n hx hb d_Plan_takeScrap_22 rfl (lv_at hl 2 rfl) ?_
    refine lv_aload_n hx hb d_Plan_takeScrap_23 rfl (lv_at hl 1 rfl) ?_
    refine va_get (D := (dC, dI)) (ci := 3) (v := .ref (a 8)) (C := "CutLengths$Plan") (T := T_Plan) (N := 3) hx hb hz i_Plan hown hK hP 7 rfl rfl 0 (by decide) (hz _ tw_106) (fun _ h9 => h9) rfl d_Plan_takeScrap_24 ?_
    refine lv_iload_n hx hb d_Plan_takeScrap_27 rfl (lv_at hl 2 rfl) ?_
    refine lv_iconst (v := nI (1)) hx hb d_Plan_takeScrap_28 (by decide) ?_
    refine lv_iadd hx hb d_Plan_takeScrap_29 ?_
    refine zz_top (nI_add (j) (1)) ?_
    refine zz_nald hx hb hK hP 8 0 (f := f 4) (i := j + 1) rfl rfl (by omega) (by decide) d_Plan_takeScrap_30 ?_
    refine lv_iconst (v := nI (1)) hx hb d_Plan_takeScrap_31 (by decide) ?_
    refine lv_iadd hx hb d_Plan_takeScrap_32 ?_
    refine zz_top (nI_add (f 4 (j + 1)) (1)) ?_
    refine zz_nast hx hb hK hP hD hS 8 0 (f := f 4) (i := j) (x := (f 4 (j + 1)) + 1) rfl rfl (by omega) (by decide) d_Plan_takeScrap_33 (fun H locs hP hD hS => ?_)
    have hP : va_P (dC, dI) vwCl (wC a cI cZ v (zu f 4 (va_up (f 4) j ((f 4 (j + 1)) + 1))) w) H := hP
    have hD : va_D A (wC a cI cZ v (zu f 4 (va_up (f 4) j ((f 4 (j + 1)) + 1))) w) := hD
    refine lv_aload_n hx hb d_Plan_takeScrap_34 rfl (lv_at hl 1 rfl) ?_
    refine va_get (D := (dC, dI)) (ci := 3) (v := .ref (a 9)) (C := "CutLengths$Plan") (T := T_Plan) (N := 3) hx hb hz i_Plan hown hK hP 7 rfl rfl 1 (by decide) (hz _ tw_108) (fun _ h9 => h9) rfl d_Plan_takeScrap_35 ?_
    refine lv_iload_n hx hb d_Plan_takeScrap_38 rfl (lv_at hl 2 rfl) ?_
    refine lv_iconst (v := -1) hx hb d_Plan_takeScrap_39 (by decide) ?_
    refine zz_iast hx hb hK hP hD hS 9 0 (f := w 0) (i := j) (x := -1) rfl rfl (by omega) (by decide) d_Plan_takeScrap_40 (fun H locs hP hD hS => ?_)
    have hP : va_P (dC, dI) vwCl (wC a cI cZ v (zu f 4 (va_up (f 4) j ((f 4 (j + 1)) + 1))) (zu w 0 (va_up (w 0) j (-1)))) H := hP
    have hD : va_D A (wC a cI cZ v (zu f 4 (va_up (f 4) j ((f 4 (j + 1)) + 1))) (zu w 0 (va_up (w 0) j (-1)))) := hD
    refine lv_aload_n hx hb d_Plan_takeScrap_41 rfl (lv_at hl 1 rfl) ?_
    refine va_get (D := (dC, dI)) (ci := 3) (v := .ref (a 10)) (C := "CutLengths$Plan") (T := T_Plan) (N := 3) hx hb hz i_Plan hown hK hP 7 rfl rfl 2 (by decide) (hz _ tw_110) (fun _ h9 => h9) rfl d_Plan_takeScrap_42 ?_
    refine lv_iload_n hx hb d_Plan_takeScrap_45 rfl (lv_at hl 2 rfl) ?_
    refine lv_iload_n hx hb d_Plan_takeScrap_46 rfl (lv_at hl 0 rfl) ?_
    refine lv_if_eq (tgt := 63) hx hb d_Plan_takeScrap_47 (by decide) (fun _ => ?_) (fun c9 => absurd c9 (by decide))
    refine lv_iconst (v := nI (1)) hx hb d_Plan_takeScrap_63 (by decide) ?_
    refine zz_nast hx hb hK hP hD hS 10 0 (f := f 5) (i := j) (x := 1) rfl rfl (by omega) (by decide) d_Plan_takeScrap_64 (fun H locs hP hD hS => ?_)
    have hP : va_P (dC, dI) vwCl (wC a cI cZ v (zu (zu f 4 (va_up (f 4) j ((f 4 (j + 1)) + 1))) 5 (va_up (f 5) j 1)) (zu w 0 (va_up (w 0) j (-1)))) H := hP
    have hD : va_D A (wC a cI cZ v (zu (zu f 4 (va_up (f 4) j ((f 4 (j + 1)) + 1))) 5 (va_up (f 5) j 1)) (zu w 0 (va_up (w 0) j (-1)))) := hD
    exact W.vret hx hb hr (fun t9 ht hW => ⟨⟨1, rfl, (if_neg c_9).symm, by rw [ht]; exact hP, va_K.moved hW.alike hK, hD⟩, hS.F ht⟩) hS.2.2 d_Plan_takeScrap_65
  · have c_9 : w 0 (j + 1) = -1 := c_9
    refine lv_iconst (v := nI (1)) hx hb d_Plan_takeScrap_12 (by decide) ?_
    refine lv_goto (tgt := 17) hx hb d_Plan_takeScrap_13 (by decide) ?_
    refine lv_istore_n (lv' := [(2, .int (nI (1))), (0, .ref (a 7)), (1, .int (nI (j)))]) hx hb d_Plan_takeScrap_17 rfl hl (by decide) rfl (fun ls hl => ?_)
    refine lv_aload_n hx hb d_Plan_takeScrap_18 rfl (lv_at hl 1 rfl) ?_
    refine va_get (D := (dC, dI)) (ci := 3) (v := .ref (a 8)) (C := "CutLengths$Plan") (T := T_Plan) (N := 3) hx hb hz i_Plan hown hK hP 7 rfl rfl 0 (by decide) (hz _ tw_106) (fun _ h9 => h9) rfl d_Plan_takeScrap_19 ?_
    refine lv_iload_n hx hb d_Plan_takeScrap_22 rfl (lv_at hl 2 rfl) ?_
    refine lv_aload_n hx hb d_Plan_takeScrap_23 rfl (lv_at hl 1 rfl) ?_
    refine va_get (D := (dC, dI)) (ci := 3) (v := .ref (a 8)) (C := "CutLengths$Plan") (T := T_Plan) (N := 3) hx hb hz i_Plan hown hK hP 7 rfl rfl 0 (by decide) (hz _ tw_106) (fun _ h9 => h9) rfl d_Plan_takeScrap_24 ?_
    refine lv_iload_n hx hb d_Plan_takeScrap_27 rfl (lv_at hl 2 rfl) ?_
    refine lv_iconst (v := nI (1)) hx hb d_Plan_takeScrap_28 (by decide) ?_
    refine lv_iadd hx hb d_Plan_takeScrap_29 ?_
    refine zz_top (nI_add (j) (1)) ?_
    refine zz_nald hx hb hK hP 8 0 (f := f 4) (i := j + 1) rfl rfl (by omega) (by decide) d_Plan_takeScrap_30 ?_
    refine lv_iconst (v := nI (1)) hx hb d_Plan_takeScrap_31 (by decide) ?_
    refine lv_iadd hx hb d_Plan_takeScrap_32 ?_
    refine zz_top (nI_add (f 4 (j + 1)) (1)) ?_
    refine zz_nast hx hb hK hP hD hS 8 0 (f := f 4) (i := j) (x := (f 4 (j + 1)) + 1) rfl rfl (by omega) (by decide) d_Plan_takeScrap_33 (fun H locs hP hD hS => ?_)
    have hP : va_P (dC, dI) vwCl (wC a cI cZ v (zu f 4 (va_up (f 4) j ((f 4 (j + 1)) + 1))) w) H := hP
    have hD : va_D A (wC a cI cZ v (zu f 4 (va_up (f 4) j ((f 4 (j + 1)) + 1))) w) := hD
    refine lv_aload_n hx hb d_Plan_takeScrap_34 rfl (lv_at hl 1 rfl) ?_
    refine va_get (D := (dC, dI)) (ci := 3) (v := .ref (a 9)) (C := "CutLengths$Plan") (T := T_Plan) (N := 3) hx hb hz i_Plan hown hK hP 7 rfl rfl 1 (by decide) (hz _ tw_108) (fun _ h9 => h9) rfl d_Plan_takeScrap_35 ?_
    refine lv_iload_n hx hb d_Plan_takeScrap_38 rfl (lv_at hl 2 rfl) ?_
    refine lv_iconst (v := -1) hx hb d_Plan_takeScrap_39 (by decide) ?_
    refine zz_iast hx hb hK hP hD hS 9 0 (f := w 0) (i := j) (x := -1) rfl rfl (by omega) (by decide) d_Plan_takeScrap_40 (fun H locs hP hD hS => ?_)
    have hP : va_P (dC, dI) vwCl (wC a cI cZ v (zu f 4 (va_up (f 4) j ((f 4 (j + 1)) + 1))) (zu w 0 (va_up (w 0) j (-1)))) H := hP
    have hD : va_D A (wC a cI cZ v (zu f 4 (va_up (f 4) j ((f 4 (j + 1)) + 1))) (zu w 0 (va_up (w 0) j (-1)))) := hD
    refine lv_aload_n hx hb d_Plan_takeScrap_41 rfl (lv_at hl 1 rfl) ?_
    refine va_get (D := (dC, dI)) (ci := 3) (v := .ref (a 10)) (C := "CutLengths$Plan") (T := T_Plan) (N := 3) hx hb hz i_Plan hown hK hP 7 rfl rfl 2 (by decide) (hz _ tw_110) (fun _ h9 => h9) rfl d_Plan_takeScrap_42 ?_
    refine lv_iload_n hx hb d_Plan_takeScrap_45 rfl (lv_at hl 2 rfl) ?_
    refine lv_iload_n hx hb d_Plan_takeScrap_46 rfl (lv_at hl 0 rfl) ?_
    refine lv_if_eq (tgt := 63) hx hb d_Plan_takeScrap_47 (by decide) (fun c9 => absurd c9 (by decide)) (fun _ => ?_)
    refine lv_aload_n hx hb d_Plan_takeScrap_50 rfl (lv_at hl 1 rfl) ?_
    refine va_get (D := (dC, dI)) (ci := 3) (v := .ref (a 10)) (C := "CutLengths$Plan") (T := T_Plan) (N := 3) hx hb hz i_Plan hown hK hP 7 rfl rfl 2 (by decide) (hz _ tw_110) (fun _ h9 => h9) rfl d_Plan_takeScrap_51 ?_
    refine lv_iload_n hx hb d_Plan_takeScrap_54 rfl (lv_at hl 2 rfl) ?_
    refine lv_iconst (v := nI (1)) hx hb d_Plan_takeScrap_55 (by decide) ?_
    refine lv_iadd hx hb d_Plan_takeScrap_56 ?_
    refine zz_top (nI_add (j) (1)) ?_
    refine zz_nald hx hb hK hP 10 0 (f := f 5) (i := j + 1) rfl rfl (by omega) (by decide) d_Plan_takeScrap_57 ?_
    refine lv_iconst (v := nI (1)) hx hb d_Plan_takeScrap_58 (by decide) ?_
    refine lv_iadd hx hb d_Plan_takeScrap_59 ?_
    refine zz_top (nI_add (f 5 (j + 1)) (1)) ?_
    refine lv_goto (tgt := 64) hx hb d_Plan_takeScrap_60 (by decide) ?_
    refine zz_nast hx hb hK hP hD hS 10 0 (f := f 5) (i := j) (x := (f 5 (j + 1)) + 1) rfl rfl (by omega) (by decide) d_Plan_takeScrap_64 (fun H locs hP hD hS => ?_)
    have hP : va_P (dC, dI) vwCl (wC a cI cZ v (zu (zu f 4 (va_up (f 4) j ((f 4 (j + 1)) + 1))) 5 (va_up (f 5) j ((f 5 (j + 1)) + 1))) (zu w 0 (va_up (w 0) j (-1)))) H := hP
    have hD : va_D A (wC a cI cZ v (zu (zu f 4 (va_up (f 4) j ((f 4 (j + 1)) + 1))) 5 (va_up (f 5) j ((f 5 (j + 1)) + 1))) (zu w 0 (va_up (w 0) j (-1)))) := hD
    exact W.vret hx hb hr (fun t9 ht hW => ⟨⟨(f 5 (j + 1) + 1), rfl, (if_pos c_9).symm, by rw [ht]; exact hP, va_K.moved hW.alike hK, hD⟩, hS.F ht⟩) hS.2.2 d_Plan_takeScrap_65
set_option maxHeartbeats 4000000 in
set_option maxRecDepth 100000 in
theorem c_Plan_takePiece (l : Launch) (dC : Nat → ClassId) (dI : Nat → Nat → Nat) (a : Nat → Nat) (cI cZ : ClassId) (v : Nat → Nat) (f : Nat → Nat → Nat) (w : Nat → Nat → Int32) (sz : Nat) (j k : Nat) (x : Int32) (hj : j + k < 301) : Met l y_Plan_takePiece (zw_Plan_takePiece :: zW) ({ frames := 0, cells := 0, slots := 0, locals := 0 }) (va_Pc [.ref (a 7), .int (nI (j)), .int (x), .int (nI (k))] (fun U => U.heap.size = sz ∧ va_P (dC, dI) vwCl (wC a cI cZ v f w) U.heap ∧ va_K (dC, dI) vwCl [(cI, .int), (cZ, .boolean)] U ∧ va_D (fun _ => True) (wC a cI cZ v f w))) (va_Qv (fun (u : Unit) => True) (fun (_ : Unit) t => va_P (dC, dI) vwCl (wC a cI cZ v (zu (zu f 4 (va_up (f 4) j (f 4 (j + k)))) 5 (va_up (f 5) j k)) (zu w 0 (va_up (w 0) j x))) t.heap ∧ va_K (dC, dI) vwCl [(cI, .int), (cZ, .boolean)] t ∧ va_D (va_A (wC a cI cZ v f w) sz) (wC a cI cZ v (zu (zu f 4 (va_up (f 4) j (f 4 (j + k)))) 5 (va_up (f 5) j k)) (zu w 0 (va_up (w 0) j x)))) (va_A (wC a cI cZ v f w) sz)) 0 0 (va_A (wC a cI cZ v f w) sz) := by
  refine Met.ofW (cc := prog_2_method_6_code) (maxL := 4) (ret := none) (by decide) rfl ?_
  intro p e s m args below meth c s₁ B hml hv
  obtain ⟨rfl, hsz, hP, hK, hD0⟩ := hv
  have hx := B.exec
  have hb := B.bytes
  have hr := B.returns
  have hz : ∀ w ∈ zW, w.before ([.ref (a 7), .int (nI (j)), .int (x), .int (nI (k))]).toArray s = true := fun w h => atoms_spec (ws := (zw_Plan_takePiece :: zW)) B.pre w (List.mem_cons_of_mem _ h)
  have hown : s.vm.findClass "CutLengths$Plan" = some m.cls := findClass_of_methodNamed B.named
  have hlocks := B.notSynchronized
  subst hsz
  have hD := hD0.self (sz := s.heap.size)
  generalize hAe : va_A (wC a cI cZ v f w) s.heap.size = A at hD ⊢
  have hA : ∀ q : Nat, s.heap.size ≤ q → A q := fun q h => by rw [← hAe]; exact Or.inr h
  have hS : va_S A s.heap s.heap [] := va_S.rf
  have hP : va_P (dC, dI) vwCl (wC a cI cZ v f w) s.heap := hP
  have hl := lv_entry ([.ref (a 7), .int (nI (j)), .int (x), .int (nI (k))]) (n := 4) (Nat.le_of_ble_eq_true rfl)
  rw [lg_entry_eq]
  generalize (lg_sl ([.ref (a 7), .int (nI (j)), .int (x), .int (nI (k))]) ++ List.replicate (4 - (lg_sl ([.ref (a 7), .int (nI (j)), .int (x), .int (nI (k))])).length) Slot.unset).toArray = ls at hl ⊢
  have hl : lv_has ls 4 [(0, .ref (a 7)), (1, .int (nI (j))), (2, .int (x)), (3, .int (nI (k)))] := hl
  refine lv_aload_n hx hb d_Plan_takePiece_0 rfl (lv_at hl 0 rfl) ?_
  refine va_get (D := (dC, dI)) (ci := 3) (v := .ref (a 8)) (C := "CutLengths$Plan") (T := T_Plan) (N := 3) hx hb hz i_Plan hown hK hP 7 rfl rfl 0 (by decide) (hz _ tw_106) (fun _ h9 => h9) rfl d_Plan_takePiece_1 ?_
  refine lv_iload_n hx hb d_Plan_takePiece_4 rfl (lv_at hl 1 rfl) ?_
  refine lv_aload_n hx hb d_Plan_takePiece_5 rfl (lv_at hl 0 rfl) ?_
  refine va_get (D := (dC, dI)) (ci := 3) (v := .ref (a 8)) (C := "CutLengths$Plan") (T := T_Plan) (N := 3) hx hb hz i_Plan hown hK hP 7 rfl rfl 0 (by decide) (hz _ tw_106) (fun _ h9 => h9) rfl d_Plan_takePiece_6 ?_
  refine lv_iload_n hx hb d_Plan_takePiece_9 rfl (lv_at hl 1 rfl) ?_
  refine lv_iload_n hx hb d_Plan_takePiece_10 rfl (lv_at hl 3 rfl) ?_
  refine lv_iadd hx hb d_Plan_takePiece_11 ?_
  refine zz_top (nI_add (j) (k)) ?_
  refine zz_nald hx hb hK hP 8 0 (f := f 4) (i := j + k) rfl rfl (by omega) (by decide) d_Plan_takePiece_12 ?_
  refine zz_nast hx hb hK hP hD hS 8 0 (f := f 4) (i := j) (x := f 4 (j + k)) rfl rfl (by omega) (by decide) d_Plan_takePiece_13 (fun H locs hP hD hS => ?_)
  have hP : va_P (dC, dI) vwCl (wC a cI cZ v (zu f 4 (va_up (f 4) j (f 4 (j + k)))) w) H := hP
  have hD : va_D A (wC a cI cZ v (zu f 4 (va_up (f 4) j (f 4 (j + k)))) w) := hD
  refine lv_aload_n hx hb d_Plan_takePiece_14 rfl (lv_at hl 0 rfl) ?_
  refine va_get (D := (dC, dI)) (ci := 3) (v := .ref (a 9)) (C := "CutLengths$Plan") (T := T_Plan) (N := 3) hx hb hz i_Plan hown hK hP 7 rfl rfl 1 (by decide) (hz _ tw_108) (fun _ h9 => h9) rfl d_Plan_takePiece_15 ?_
  refine lv_iload_n hx hb d_Plan_takePiece_18 rfl (lv_at hl 1 rfl) ?_
  refine lv_iload_n hx hb d_Plan_takePiece_19 rfl (lv_at hl 2 rfl) ?_
  refine zz_iast hx hb hK hP hD hS 9 0 (f := w 0) (i := j) (x := x) rfl rfl (by omega) (by decide) d_Plan_takePiece_20 (fun H locs hP hD hS => ?_)
  have hP : va_P (dC, dI) vwCl (wC a cI cZ v (zu f 4 (va_up (f 4) j (f 4 (j + k)))) (zu w 0 (va_up (w 0) j x))) H := hP
  have hD : va_D A (wC a cI cZ v (zu f 4 (va_up (f 4) j (f 4 (j + k)))) (zu w 0 (va_up (w 0) j x))) := hD
  refine lv_aload_n hx hb d_Plan_takePiece_21 rfl (lv_at hl 0 rfl) ?_
  refine va_get (D := (dC, dI)) (ci := 3) (v := .ref (a 10)) (C := "CutLengths$Plan") (T := T_Plan) (N := 3) hx hb hz i_Plan hown hK hP 7 rfl rfl 2 (by decide) (hz _ tw_110) (fun _ h9 => h9) rfl d_Plan_takePiece_22 ?_
  refine lv_iload_n hx hb d_Plan_takePiece_25 rfl (lv_at hl 1 rfl) ?_
  refine lv_iload_n hx hb d_Plan_takePiece_26 rfl (lv_at hl 3 rfl) ?_
  refine zz_nast hx hb hK hP hD hS 10 0 (f := f 5) (i := j) (x := k) rfl rfl (by omega) (by decide) d_Plan_takePiece_27 (fun H locs hP hD hS => ?_)
  have hP : va_P (dC, dI) vwCl (wC a cI cZ v (zu (zu f 4 (va_up (f 4) j (f 4 (j + k)))) 5 (va_up (f 5) j k)) (zu w 0 (va_up (w 0) j x))) H := hP
  have hD : va_D A (wC a cI cZ v (zu (zu f 4 (va_up (f 4) j (f 4 (j + k)))) 5 (va_up (f 5) j k)) (zu w 0 (va_up (w 0) j x))) := hD
  exact W.vret hx hb hr (fun t9 ht hW => ⟨⟨(), rfl, trivial, by rw [ht]; exact hP, va_K.moved hW.alike hK, hD⟩, hS.F ht⟩) hS.2.2 d_Plan_takePiece_28
set_option maxHeartbeats 4000000 in
set_option maxRecDepth 100000 in
theorem c_Slabs_append (l : Launch) (dC : Nat → ClassId) (dI : Nat → Nat → Nat) (a : Nat → Nat) (cI cZ : ClassId) (v : Nat → Nat) (f : Nat → Nat → Nat) (w : Nat → Nat → Int32) (sz : Nat) (x : Int32) (i j : Nat) (h10 : v 10 < 100) : Met l y_Slabs_append (zw_Slabs_append :: zW) ({ frames := 0, cells := 0, slots := 0, locals := 0 }) (va_Pc [.ref (a 11), .int (x), .int (nI (i)), .int (nI (j))] (fun U => U.heap.size = sz ∧ va_P (dC, dI) vwCl (wC a cI cZ v f w) U.heap ∧ va_K (dC, dI) vwCl [(cI, .int), (cZ, .boolean)] U ∧ va_D (fun _ => True) (wC a cI cZ v f w))) (va_Qv (fun (u : Unit) => True) (fun (_ : Unit) t => va_P (dC, dI) vwCl (wC a cI cZ (zu v 10 (v 10 + 1)) (zu (zu f 6 (va_up (f 6) (v 10) i)) 7 (va_up (f 7) (v 10) j)) (zu w 1 (va_up (w 1) (v 10) x))) t.heap ∧ va_K (dC, dI) vwCl [(cI, .int), (cZ, .boolean)] t ∧ va_D (va_A (wC a cI cZ v f w) sz) (wC a cI cZ (zu v 10 (v 10 + 1)) (zu (zu f 6 (va_up (f 6) (v 10) i)) 7 (va_up (f 7) (v 10) j)) (zu w 1 (va_up (w 1) (v 10) x)))) (va_A (wC a cI cZ v f w) sz)) 0 0 (va_A (wC a cI cZ v f w) sz) := by
  refine Met.ofW (cc := prog_3_method_2_code) (maxL := 4) (ret := none) (by decide) rfl ?_
  intro p e s m args below meth c s₁ B hml hv
  obtain ⟨rfl, hsz, hP, hK, hD0⟩ := hv
  have hx := B.exec
  have hb := B.bytes
  have hr := B.returns
  have hz : ∀ w ∈ zW, w.before ([.ref (a 11), .int (x), .int (nI (i)), .int (nI (j))]).toArray s = true := fun w h => atoms_spec (ws := (zw_Slabs_append :: zW)) B.pre w (List.mem_cons_of_mem _ h)
  have hown : s.vm.findClass "CutLengths$Slabs" = some m.cls := findClass_of_methodNamed B.named
  have hlocks := B.notSynchronized
  subst hsz
  have hD := hD0.self (sz := s.heap.size)
  generalize hAe : va_A (wC a cI cZ v f w) s.heap.size = A at hD ⊢
  have hA : ∀ q : Nat, s.heap.size ≤ q → A q := fun q h => by rw [← hAe]; exact Or.inr h
  have hS : va_S A s.heap s.heap [] := va_S.rf
  have hP : va_P (dC, dI) vwCl (wC a cI cZ v f w) s.heap := hP
  have hl := lv_entry ([.ref (a 11), .int (x), .int (nI (i)), .int (nI (j))]) (n := 4) (Nat.le_of_ble_eq_true rfl)
  rw [lg_entry_eq]
  generalize (lg_sl ([.ref (a 11), .int (x), .int (nI (i)), .int (nI (j))]) ++ List.replicate (4 - (lg_sl ([.ref (a 11), .int (x), .int (nI (i)), .int (nI (j))])).length) Slot.unset).toArray = ls at hl ⊢
  have hl : lv_has ls 4 [(0, .ref (a 11)), (1, .int (x)), (2, .int (nI (i))), (3, .int (nI (j)))] := hl
  refine lv_aload_n hx hb d_Slabs_append_0 rfl (lv_at hl 0 rfl) ?_
  refine va_get (D := (dC, dI)) (ci := 4) (v := .ref (a 12)) (C := "CutLengths$Slabs") (T := T_Slabs) (N := 4) hx hb hz i_Slabs hown hK hP 11 rfl rfl 1 (by decide) (hz _ tw_127) (fun _ h9 => h9) rfl d_Slabs_append_1 ?_
  refine lv_aload_n hx hb d_Slabs_append_4 rfl (lv_at hl 0 rfl) ?_
  refine va_get (D := (dC, dI)) (ci := 4) (v := .int (nI (v 10))) (C := "CutLengths$Slabs") (T := T_Slabs) (N := 4) hx hb hz i_Slabs hown hK hP 11 rfl rfl 0 (by decide) (hz _ tw_125) (fun _ h9 => h9) rfl d_Slabs_append_5 ?_
  refine lv_iload_n hx hb d_Slabs_append_8 rfl (lv_at hl 1 rfl) ?_
  refine zz_iast hx hb hK hP hD hS 12 0 (f := w 1) (i := v 10) (x := x) rfl rfl (by omega) (by decide) d_Slabs_append_9 (fun H locs hP hD hS => ?_)
  have hP : va_P (dC, dI) vwCl (wC a cI cZ v f (zu w 1 (va_up (w 1) (v 10) x))) H := hP
  have hD : va_D A (wC a cI cZ v f (zu w 1 (va_up (w 1) (v 10) x))) := hD
  refine lv_aload_n hx hb d_Slabs_append_10 rfl (lv_at hl 0 rfl) ?_
  refine va_get (D := (dC, dI)) (ci := 4) (v := .ref (a 13)) (C := "CutLengths$Slabs") (T := T_Slabs) (N := 4) hx hb hz i_Slabs hown hK hP 11 rfl rfl 2 (by decide) (hz _ tw_129) (fun _ h9 => h9) rfl d_Slabs_append_11 ?_
  refine lv_aload_n hx hb d_Slabs_append_14 rfl (lv_at hl 0 rfl) ?_
  refine va_get (D := (dC, dI)) (ci := 4) (v := .int (nI (v 10))) (C := "CutLengths$Slabs") (T := T_Slabs) (N := 4) hx hb hz i_Slabs hown hK hP 11 rfl rfl 0 (by decide) (hz _ tw_125) (fun _ h9 => h9) rfl d_Slabs_append_15 ?_
  refine lv_iload_n hx hb d_Slabs_append_18 rfl (lv_at hl 2 rfl) ?_
  refine zz_nast hx hb hK hP hD hS 13 0 (f := f 6) (i := v 10) (x := i) rfl rfl (by omega) (by decide) d_Slabs_append_19 (fun H locs hP hD hS => ?_)
  have hP : va_P (dC, dI) vwCl (wC a cI cZ v (zu f 6 (va_up (f 6) (v 10) i)) (zu w 1 (va_up (w 1) (v 10) x))) H := hP
  have hD : va_D A (wC a cI cZ v (zu f 6 (va_up (f 6) (v 10) i)) (zu w 1 (va_up (w 1) (v 10) x))) := hD
  refine lv_aload_n hx hb d_Slabs_append_20 rfl (lv_at hl 0 rfl) ?_
  refine va_get (D := (dC, dI)) (ci := 4) (v := .ref (a 14)) (C := "CutLengths$Slabs") (T := T_Slabs) (N := 4) hx hb hz i_Slabs hown hK hP 11 rfl rfl 3 (by decide) (hz _ tw_131) (fun _ h9 => h9) rfl d_Slabs_append_21 ?_
  refine lv_aload_n hx hb d_Slabs_append_24 rfl (lv_at hl 0 rfl) ?_
  refine va_get (D := (dC, dI)) (ci := 4) (v := .int (nI (v 10))) (C := "CutLengths$Slabs") (T := T_Slabs) (N := 4) hx hb hz i_Slabs hown hK hP 11 rfl rfl 0 (by decide) (hz _ tw_125) (fun _ h9 => h9) rfl d_Slabs_append_25 ?_
  refine lv_iload_n hx hb d_Slabs_append_28 rfl (lv_at hl 3 rfl) ?_
  refine zz_nast hx hb hK hP hD hS 14 0 (f := f 7) (i := v 10) (x := j) rfl rfl (by omega) (by decide) d_Slabs_append_29 (fun H locs hP hD hS => ?_)
  have hP : va_P (dC, dI) vwCl (wC a cI cZ v (zu (zu f 6 (va_up (f 6) (v 10) i)) 7 (va_up (f 7) (v 10) j)) (zu w 1 (va_up (w 1) (v 10) x))) H := hP
  have hD : va_D A (wC a cI cZ v (zu (zu f 6 (va_up (f 6) (v 10) i)) 7 (va_up (f 7) (v 10) j)) (zu w 1 (va_up (w 1) (v 10) x))) := hD
  refine lv_aload_n hx hb d_Slabs_append_30 rfl (lv_at hl 0 rfl) ?_
  refine lv_dup hx hb d_Slabs_append_31 rfl ?_
  refine va_get (D := (dC, dI)) (ci := 4) (v := .int (nI (v 10))) (C := "CutLengths$Slabs") (T := T_Slabs) (N := 4) hx hb hz i_Slabs hown hK hP 11 rfl rfl 0 (by decide) (hz _ tw_125) (fun _ h9 => h9) rfl d_Slabs_append_32 ?_
  refine lv_iconst (v := nI (1)) hx hb d_Slabs_append_35 (by decide) ?_
  refine lv_iadd hx hb d_Slabs_append_36 ?_
  refine zz_top (nI_add (v 10) (1)) ?_
  refine va_put (D := (dC, dI)) (ci := 4) (v := .int (nI ((v 10) + 1))) (ty := .int) (C := "CutLengths$Slabs") (T := T_Slabs) (N := 4) hx hb hz i_Slabs t_Slabs t_Slabs_ok n_Slabs hown hK hP hD hS 11 rfl rfl 0 (by decide) (hz _ tw_125) (fun _ h9 => h9) rfl (by decide +kernel) rfl rfl (Nat.le_of_ble_eq_true rfl) d_Slabs_append_37 (fun H locs hP hD hS => ?_)
  have hP : va_P (dC, dI) vwCl (wC a cI cZ (zu v 10 ((v 10) + 1)) (zu (zu f 6 (va_up (f 6) (v 10) i)) 7 (va_up (f 7) (v 10) j)) (zu w 1 (va_up (w 1) (v 10) x))) H := hP
  have hD : va_D A (wC a cI cZ (zu v 10 ((v 10) + 1)) (zu (zu f 6 (va_up (f 6) (v 10) i)) 7 (va_up (f 7) (v 10) j)) (zu w 1 (va_up (w 1) (v 10) x))) := hD
  exact W.vret hx hb hr (fun t9 ht hW => ⟨⟨(), rfl, trivial, by rw [ht]; exact hP, va_K.moved hW.alike hK, hD⟩, hS.F ht⟩) hS.2.2 d_Slabs_append_40
set_option maxHeartbeats 4000000 in
set_option maxRecDepth 100000 in
theorem c_Cut_tellSpan (l : Launch) (dC : Nat → ClassId) (dI : Nat → Nat → Nat) (a : Nat → Nat) (cI cZ : ClassId) (v : Nat → Nat) (f : Nat → Nat → Nat) (w : Nat → Nat → Int32) (sz : Nat) (k i j : Nat) (hk : k < 6) : Met l y_Cut_tellSpan (zw_Cut_tellSpan :: zW) ({ frames := 0, cells := 0, slots := 0, locals := 0 }) (va_Pc [.ref (a 0), .int (nI (k)), .int (nI (i)), .int (nI (j))] (fun U => U.heap.size = sz ∧ va_P (dC, dI) vwCl (wC a cI cZ v f w) U.heap ∧ va_K (dC, dI) vwCl [(cI, .int), (cZ, .boolean)] U ∧ va_D (fun _ => True) (wC a cI cZ v f w))) (va_Qv (fun (u : Unit) => True) (fun (_ : Unit) t => va_P (dC, dI) vwCl (wC a cI cZ (zu v 2 (1)) (zu (zu f 2 (va_up (f 2) k i)) 3 (va_up (f 3) k j)) w) t.heap ∧ va_K (dC, dI) vwCl [(cI, .int), (cZ, .boolean)] t ∧ va_D (va_A (wC a cI cZ v f w) sz) (wC a cI cZ (zu v 2 (1)) (zu (zu f 2 (va_up (f 2) k i)) 3 (va_up (f 3) k j)) w)) (va_A (wC a cI cZ v f w) sz)) 0 0 (va_A (wC a cI cZ v f w) sz) := by
  refine Met.ofW (cc := prog_1_method_16_code) (maxL := 4) (ret := none) (by decide) rfl ?_
  intro p e s m args below meth c s₁ B hml hv
  obtain ⟨rfl, hsz, hP, hK, hD0⟩ := hv
  have hx := B.exec
  have hb := B.bytes
  have hr := B.returns
  have hz : ∀ w ∈ zW, w.before ([.ref (a 0), .int (nI (k)), .int (nI (i)), .int (nI (j))]).toArray s = true := fun w h => atoms_spec (ws := (zw_Cut_tellSpan :: zW)) B.pre w (List.mem_cons_of_mem _ h)
  have hown : s.vm.findClass "CutLengths" = some m.cls := findClass_of_methodNamed B.named
  have hlocks := B.notSynchronized
  subst hsz
  have hD := hD0.self (sz := s.heap.size)
  generalize hAe : va_A (wC a cI cZ v f w) s.heap.size = A at hD ⊢
  have hA : ∀ q : Nat, s.heap.size ≤ q → A q := fun q h => by rw [← hAe]; exact Or.inr h
  have hS : va_S A s.heap s.heap [] := va_S.rf
  have hP : va_P (dC, dI) vwCl (wC a cI cZ v f w) s.heap := hP
  have hl := lv_entry ([.ref (a 0), .int (nI (k)), .int (nI (i)), .int (nI (j))]) (n := 4) (Nat.le_of_ble_eq_true rfl)
  rw [lg_entry_eq]
  generalize (lg_sl ([.ref (a 0), .int (nI (k)), .int (nI (i)), .int (nI (j))]) ++ List.replicate (4 - (lg_sl ([.ref (a 0), .int (nI (k)), .int (nI (i)), .int (nI (j))])).length) Slot.unset).toArray = ls at hl ⊢
  have hl : lv_has ls 4 [(0, .ref (a 0)), (1, .int (nI (k))), (2, .int (nI (i))), (3, .int (nI (j)))] := hl
  refine lv_aload_n hx hb d_Cut_tellSpan_0 rfl (lv_at hl 0 rfl) ?_
  refine va_get (D := (dC, dI)) (ci := 0) (v := .ref (a 4)) (C := "CutLengths") (T := T_Cut) (N := 7) hx hb hz i_Cut hown hK hP 0 rfl rfl 1 (by decide) (hz _ tw_143) (fun _ h9 => h9) rfl d_Cut_tellSpan_1 ?_
  refine va_get (D := (dC, dI)) (ci := 2) (v := .ref (a 5)) (C := "CutLengths$WantedLengths") (T := T_Wanted) (N := 3) hx hb hz i_Wanted hown hK hP 4 rfl rfl 1 (by decide) (hz _ tw_88) (fun _ h9 => h9) rfl d_Cut_tellSpan_4 ?_
  refine lv_iload_n hx hb d_Cut_tellSpan_7 rfl (lv_at hl 1 rfl) ?_
  refine lv_iload_n hx hb d_Cut_tellSpan_8 rfl (lv_at hl 2 rfl) ?_
  refine zz_nast hx hb hK hP hD hS 5 0 (f := f 2) (i := k) (x := i) rfl rfl (by omega) (by decide) d_Cut_tellSpan_9 (fun H locs hP hD hS => ?_)
  have hP : va_P (dC, dI) vwCl (wC a cI cZ v (zu f 2 (va_up (f 2) k i)) w) H := hP
  have hD : va_D A (wC a cI cZ v (zu f 2 (va_up (f 2) k i)) w) := hD
  refine lv_aload_n hx hb d_Cut_tellSpan_10 rfl (lv_at hl 0 rfl) ?_
  refine va_get (D := (dC, dI)) (ci := 0) (v := .ref (a 4)) (C := "CutLengths") (T := T_Cut) (N := 7) hx hb hz i_Cut hown hK hP 0 rfl rfl 1 (by decide) (hz _ tw_143) (fun _ h9 => h9) rfl d_Cut_tellSpan_11 ?_
  refine va_get (D := (dC, dI)) (ci := 2) (v := .ref (a 6)) (C := "CutLengths$WantedLengths") (T := T_Wanted) (N := 3) hx hb hz i_Wanted hown hK hP 4 rfl rfl 2 (by decide) (hz _ tw_91) (fun _ h9 => h9) rfl d_Cut_tellSpan_14 ?_
  refine lv_iload_n hx hb d_Cut_tellSpan_17 rfl (lv_at hl 1 rfl) ?_
  refine lv_iload_n hx hb d_Cut_tellSpan_18 rfl (lv_at hl 3 rfl) ?_
  refine zz_nast hx hb hK hP hD hS 6 0 (f := f 3) (i := k) (x := j) rfl rfl (by omega) (by decide) d_Cut_tellSpan_19 (fun H locs hP hD hS => ?_)
  have hP : va_P (dC, dI) vwCl (wC a cI cZ v (zu (zu f 2 (va_up (f 2) k i)) 3 (va_up (f 3) k j)) w) H := hP
  have hD : va_D A (wC a cI cZ v (zu (zu f 2 (va_up (f 2) k i)) 3 (va_up (f 3) k j)) w) := hD
  refine lv_aload_n hx hb d_Cut_tellSpan_20 rfl (lv_at hl 0 rfl) ?_
  refine lv_iconst (v := nI (1)) hx hb d_Cut_tellSpan_21 (by decide) ?_
  refine va_put (D := (dC, dI)) (ci := 0) (v := .int (nI (1))) (ty := .boolean) (C := "CutLengths") (T := T_Cut) (N := 7) hx hb hz i_Cut t_Cut t_Cut_ok n_Cut hown hK hP hD hS 0 rfl rfl 6 (by decide) (hz _ tw_148) (fun _ h9 => h9) rfl (by decide +kernel) rfl rfl (Nat.le_of_ble_eq_true rfl) d_Cut_tellSpan_22 (fun H locs hP hD hS => ?_)
  have hP : va_P (dC, dI) vwCl (wC a cI cZ (zu v 2 (1)) (zu (zu f 2 (va_up (f 2) k i)) 3 (va_up (f 3) k j)) w) H := hP
  have hD : va_D A (wC a cI cZ (zu v 2 (1)) (zu (zu f 2 (va_up (f 2) k i)) 3 (va_up (f 3) k j)) w) := hD
  exact W.vret hx hb hr (fun t9 ht hW => ⟨⟨(), rfl, trivial, by rw [ht]; exact hP, va_K.moved hW.alike hK, hD⟩, hS.F ht⟩) hS.2.2 d_Cut_tellSpan_25
