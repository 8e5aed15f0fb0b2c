/-! READING METHODS of the class (rows written by wip/whole/mk_class.py) -/
/-- what always holds of the class's numbers -/
def zI (v : Nat → Nat) (f : Nat → Nat → Nat) : Prop :=
  v 3 ≤ 300 ∧ v 4 ≤ v 3 ∧ v 5 ≤ 300 ∧ v 6 ≤ 300 ∧ v 7 ≤ 20 ∧ v 8 ≤ 20 ∧ v 9 ≤ 6 ∧ v 10 ≤ 100 ∧ v 2 ≤ 1 ∧ v 0 ≤ 65536 ∧ v 1 ≤ 100000 ∧
  (∀ k, k < v 9 → 1 ≤ f 2 k ∧ f 2 k ≤ f 3 k ∧ f 3 k ≤ 60) ∧ (∀ p, f 0 p ≤ 1) ∧ (∀ p, f 1 p ≤ 1) ∧ ∀ k, k < v 10 → f 6 k ≤ 300 ∧ f 7 k ≤ 300
set_option maxHeartbeats 4000000 in
set_option maxRecDepth 100000 in
theorem c_Strand_isSound (l : Launch) (dC : Nat → ClassId) (dI : Nat → Nat → Nat) (a : Nat → Nat) (cI cZ : ClassId) (v : Nat → Nat) (f : Nat → Nat → Nat) (w : Nat → Nat → Int32) (j : Nat) (hj : j < 300) (hI : zI v f) : Met l y_Strand_isSound (zw_Strand_isSound :: zW) ({ frames := 0, cells := 0, slots := 0, locals := 0 }) (va_Pc [.ref (a 1), .int (nI (j))] (fun U => va_P (dC, dI) vwCl (wC a cI cZ v f w) U.heap ∧ va_K (dC, dI) vwCl [(cI, .int), (cZ, .boolean)] U)) (zr (nI (if v 5 ≤ j ∧ j + v 6 < v 3 ∧ f 0 j = 0 then 1 else 0))) 0 0 (fun _ => False) := by
  refine Met.ofW (cc := prog_4_method_4_code) (maxL := 2) (ret := (some .boolean)) (by decide) rfl ?_
  intro p e s m args below meth c s₁ B hml hv
  obtain ⟨rfl, hP, hK⟩ := hv
  have hx := B.exec
  have hb := B.bytes
  have hr := B.returns
  have hz : ∀ w ∈ zW, w.before ([.ref (a 1), .int (nI (j))]).toArray s = true := fun w h => atoms_spec (ws := (zw_Strand_isSound :: zW)) B.pre w (List.mem_cons_of_mem _ h)
  have hown : s.vm.findClass "CutLengths$Strand" = some m.cls := findClass_of_methodNamed B.named
  have hlocks := B.notSynchronized
  obtain ⟨i3, i4, i5, i6, i7, i8, i9, i10, i2, i0, i1, iw, ib, ic, isl⟩ := id hI
  have hb9 := ib j
  have hl := lv_entry ([.ref (a 1), .int (nI (j))]) (n := 2) (Nat.le_of_ble_eq_true rfl)
  rw [lg_entry_eq]
  generalize (lg_sl ([.ref (a 1), .int (nI (j))]) ++ List.replicate (2 - (lg_sl ([.ref (a 1), .int (nI (j))])).length) Slot.unset).toArray = ls at hl ⊢
  have hl : lv_has ls 2 [(0, .ref (a 1)), (1, .int (nI (j)))] := hl
  refine lv_iload_n hx hb d_Strand_isSound_0 rfl (lv_at hl 1 rfl) ?_
  refine lv_aload_n hx hb d_Strand_isSound_1 rfl (lv_at hl 0 rfl) ?_
  refine va_get (D := (dC, dI)) (ci := 1) (v := .int (nI (v 5))) (C := "CutLengths$Strand") (T := T_Strand) (N := 8) hx hb hz i_Strand hown hK hP 1 rfl rfl 2 (by decide) (hz _ tw_49) (fun _ h9 => h9) rfl d_Strand_isSound_2 ?_
  refine lv_icmp_lt (tgt := 34) hx hb d_Strand_isSound_5 (by decide) (fun c_5 => ?_) (fun c_5 => ?_)
  · have c_5 : ((j : Nat) : Int) < ((v 5 : Nat) : Int) := (zz_lt (nI_toInt (by omega)) (nI_toInt (by omega))).mp c_5
    refine lv_iconst (v := nI (0)) hx hb d_Strand_isSound_34 (by decide) ?_
    exact W.zret (v := nI (0)) hx hb hr (rfl) (fun t9 ht hW => zz_r (congrArg nI (if_neg (by omega)).symm) ht) (fun q h => by cases h) d_Strand_isSound_35
  · have c_5 : ¬ (((j : Nat) : Int) < ((v 5 : Nat) : Int)) := fun q => c_5 ((zz_lt (nI_toInt (by omega)) (nI_toInt (by omega))).mpr q)
    refine lv_iload_n hx hb d_Strand_isSound_8 rfl (lv_at hl 1 rfl) ?_
    refine lv_aload_n hx hb d_Strand_isSound_9 rfl (lv_at hl 0 rfl) ?_
    refine va_get (D := (dC, dI)) (ci := 1) (v := .int (nI (v 3))) (C := "CutLengths$Strand") (T := T_Strand) (N := 8) hx hb hz i_Strand hown hK hP 1 rfl rfl 0 (by decide) (hz _ tw_43) (fun _ h9 => h9) rfl d_Strand_isSound_10 ?_
    refine lv_aload_n hx hb d_Strand_isSound_13 rfl (lv_at hl 0 rfl) ?_
    refine va_get (D := (dC, dI)) (ci := 1) (v := .int (nI (v 6))) (C := "CutLengths$Strand") (T := T_Strand) (N := 8) hx hb hz i_Strand hown hK hP 1 rfl rfl 3 (by decide) (hz _ tw_51) (fun _ h9 => h9) rfl d_Strand_isSound_14 ?_
    refine lv_isub hx hb d_Strand_isSound_17 ?_
    refine lv_icmp_ge (tgt := 34) hx hb d_Strand_isSound_18 (by decide) (fun c_18 => ?_) (fun c_18 => ?_)
    · have c_18 : ((v 3 : Nat) : Int) - ((v 6 : Nat) : Int) ≤ ((j : Nat) : Int) := (zz_le (pk_sub_toInt (by omega) (by omega)) (nI_toInt (by omega))).mp c_18
      refine lv_iconst (v := nI (0)) hx hb d_Strand_isSound_34 (by decide) ?_
      exact W.zret (v := nI (0)) hx hb hr (rfl) (fun t9 ht hW => zz_r (congrArg nI (if_neg (by omega)).symm) ht) (fun q h => by cases h) d_Strand_isSound_35
    · have c_18 : ¬ (((v 3 : Nat) : Int) - ((v 6 : Nat) : Int) ≤ ((j : Nat) : Int)) := fun q => c_18 ((zz_le (pk_sub_toInt (by omega) (by omega)) (nI_toInt (by omega))).mpr q)
      refine lv_aload_n hx hb d_Strand_isSound_21 rfl (lv_at hl 0 rfl) ?_
      refine va_get (D := (dC, dI)) (ci := 1) (v := .ref (a 2)) (C := "CutLengths$Strand") (T := T_Strand) (N := 8) hx hb hz i_Strand hown hK hP 1 rfl rfl 6 (by decide) (hz _ tw_57) (fun _ h9 => h9) rfl d_Strand_isSound_22 ?_
      refine lv_iload_n hx hb d_Strand_isSound_25 rfl (lv_at hl 1 rfl) ?_
      refine zz_zald hx hb hK hP 2 1 (f := f 0) (i := j) rfl rfl (by omega) (by decide) d_Strand_isSound_26 ?_
      refine lv_if_ne (tgt := 34) hx hb d_Strand_isSound_27 (by decide) (fun c_27 => ?_) (fun c_27 => ?_)
      · have c_27 : ¬ (((f 0 j : Nat) : Int) = (0 : Int)) := fun q => c_27 ((zz_eq (nI_toInt (by omega)) ((by decide))).mpr q)
        refine lv_iconst (v := nI (0)) hx hb d_Strand_isSound_34 (by decide) ?_
        exact W.zret (v := nI (0)) hx hb hr (rfl) (fun t9 ht hW => zz_r (congrArg nI (if_neg (by omega)).symm) ht) (fun q h => by cases h) d_Strand_isSound_35
      · have c_27 : ((f 0 j : Nat) : Int) = (0 : Int) := (zz_eq (nI_toInt (by omega)) ((by decide))).mp c_27
        refine lv_iconst (v := nI (1)) hx hb d_Strand_isSound_30 (by decide) ?_
        refine lv_goto (tgt := 35) hx hb d_Strand_isSound_31 (by decide) ?_
        exact W.zret (v := nI (1)) hx hb hr (rfl) (fun t9 ht hW => zz_r (congrArg nI (if_pos (by omega)).symm) ht) (fun q h => by cases h) d_Strand_isSound_35
set_option maxHeartbeats 4000000 in
set_option maxRecDepth 100000 in
theorem c_Strand_pieceMayBegin (l : Launch) (dC : Nat → ClassId) (dI : Nat → Nat → Nat) (a : Nat → Nat) (cI cZ : ClassId) (v : Nat → Nat) (f : Nat → Nat → Nat) (w : Nat → Nat → Int32) (j : Nat) (hj : j < 301) (hI : zI v f) : Met l y_Strand_pieceMayBegin (zw_Strand_pieceMayBegin :: zW) ({ frames := 0, cells := 0, slots := 0, locals := 0 }) (va_Pc [.ref (a 1), .int (nI (j))] (fun U => va_P (dC, dI) vwCl (wC a cI cZ v f w) U.heap ∧ va_K (dC, dI) vwCl [(cI, .int), (cZ, .boolean)] U)) (zr (nI (if j = v 4 ∨ f 1 j = 0 then 1 else 0))) 0 0 (fun _ => False) := by
  refine Met.ofW (cc := prog_4_method_5_code) (maxL := 2) (ret := (some .boolean)) (by decide) rfl ?_
  intro p e s m args below meth c s₁ B hml hv
  obtain ⟨rfl, hP, hK⟩ := hv
  have hx := B.exec
  have hb := B.bytes
  have hr := B.returns
  have hz : ∀ w ∈ zW, w.before ([.ref (a 1), .int (nI (j))]).toArray s = true := fun w h => atoms_spec (ws := (zw_Strand_pieceMayBegin :: zW)) B.pre w (List.mem_cons_of_mem _ h)
  have hown : s.vm.findClass "CutLengths$Strand" = some m.cls := findClass_of_methodNamed B.named
  have hlocks := B.notSynchronized
  obtain ⟨i3, i4, i5, i6, i7, i8, i9, i10, i2, i0, i1, iw, ib, ic, isl⟩ := id hI
  have hb9 := ic j
  have hl := lv_entry ([.ref (a 1), .int (nI (j))]) (n := 2) (Nat.le_of_ble_eq_true rfl)
  rw [lg_entry_eq]
  generalize (lg_sl ([.ref (a 1), .int (nI (j))]) ++ List.replicate (2 - (lg_sl ([.ref (a 1), .int (nI (j))])).length) Slot.unset).toArray = ls at hl ⊢
  have hl : lv_has ls 2 [(0, .ref (a 1)), (1, .int (nI (j)))] := hl
  refine lv_iload_n hx hb d_Strand_pieceMayBegin_0 rfl (lv_at hl 1 rfl) ?_
  refine lv_aload_n hx hb d_Strand_pieceMayBegin_1 rfl (lv_at hl 0 rfl) ?_
  refine va_get (D := (dC, dI)) (ci := 1) (v := .int (nI (v 4))) (C := "CutLengths$Strand") (T := T_Strand) (N := 8) hx hb hz i_Strand hown hK hP 1 rfl rfl 1 (by decide) (hz _ tw_46) (fun _ h9 => h9) rfl d_Strand_pieceMayBegin_2 ?_
  refine lv_icmp_eq (tgt := 17) hx hb d_Strand_pieceMayBegin_5 (by decide) (fun c_5 => ?_) (fun c_5 => ?_)
  · have c_5 : ((j : Nat) : Int) = ((v 4 : Nat) : Int) := (zz_eq (nI_toInt (by omega)) (nI_toInt (by omega))).mp c_5
    refine lv_iconst (v := nI (1)) hx hb d_Strand_pieceMayBegin_17 (by decide) ?_
    refine lv_goto (tgt := 22) hx hb d_Strand_pieceMayBegin_18 (by decide) ?_
    exact W.zret (v := nI (1)) hx hb hr (rfl) (fun t9 ht hW => zz_r (congrArg nI (if_pos (by omega)).symm) ht) (fun q h => by cases h) d_Strand_pieceMayBegin_22
  · have c_5 : ¬ (((j : Nat) : Int) = ((v 4 : Nat) : Int)) := fun q => c_5 ((zz_eq (nI_toInt (by omega)) (nI_toInt (by omega))).mpr q)
    refine lv_aload_n hx hb d_Strand_pieceMayBegin_8 rfl (lv_at hl 0 rfl) ?_
    refine va_get (D := (dC, dI)) (ci := 1) (v := .ref (a 3)) (C := "CutLengths$Strand") (T := T_Strand) (N := 8) hx hb hz i_Strand hown hK hP 1 rfl rfl 7 (by decide) (hz _ tw_58) (fun _ h9 => h9) rfl d_Strand_pieceMayBegin_9 ?_
    refine lv_iload_n hx hb d_Strand_pieceMayBegin_12 rfl (lv_at hl 1 rfl) ?_
    refine zz_zald hx hb hK hP 3 1 (f := f 1) (i := j) rfl rfl (by omega) (by decide) d_Strand_pieceMayBegin_13 ?_
    refine lv_if_ne (tgt := 21) hx hb d_Strand_pieceMayBegin_14 (by decide) (fun c_14 => ?_) (fun c_14 => ?_)
    · have c_14 : ¬ (((f 1 j : Nat) : Int) = (0 : Int)) := fun q => c_14 ((zz_eq (nI_toInt (by omega)) ((by decide))).mpr q)
      refine lv_iconst (v := nI (0)) hx hb d_Strand_pieceMayBegin_21 (by decide) ?_
      exact W.zret (v := nI (0)) hx hb hr (rfl) (fun t9 ht hW => zz_r (congrArg nI (if_neg (by omega)).symm) ht) (fun q h => by cases h) d_Strand_pieceMayBegin_22
    · have c_14 : ((f 1 j : Nat) : Int) = (0 : Int) := (zz_eq (nI_toInt (by omega)) ((by decide))).mp c_14
      refine lv_iconst (v := nI (1)) hx hb d_Strand_pieceMayBegin_17 (by decide) ?_
      refine lv_goto (tgt := 22) hx hb d_Strand_pieceMayBegin_18 (by decide) ?_
      exact W.zret (v := nI (1)) hx hb hr (rfl) (fun t9 ht hW => zz_r (congrArg nI (if_pos (by omega)).symm) ht) (fun q h => by cases h) d_Strand_pieceMayBegin_22
set_option maxHeartbeats 4000000 in
set_option maxRecDepth 100000 in
theorem c_Strand_pieceMayEnd (l : Launch) (dC : Nat → ClassId) (dI : Nat → Nat → Nat) (a : Nat → Nat) (cI cZ : ClassId) (v : Nat → Nat) (f : Nat → Nat → Nat) (w : Nat → Nat → Int32) (j : Nat) (hj : j < 301) (hI : zI v f) : Met l y_Strand_pieceMayEnd (zw_Strand_pieceMayEnd :: zW) ({ frames := 0, cells := 0, slots := 0, locals := 0 }) (va_Pc [.ref (a 1), .int (nI (j))] (fun U => va_P (dC, dI) vwCl (wC a cI cZ v f w) U.heap ∧ va_K (dC, dI) vwCl [(cI, .int), (cZ, .boolean)] U)) (zr (nI (if j = v 3 ∨ f 1 j = 0 then 1 else 0))) 0 0 (fun _ => False) := by
  refine Met.ofW (cc := prog_4_method_6_code) (maxL := 2) (ret := (some .boolean)) (by decide) rfl ?_
  intro p e s m args below meth c s₁ B hml hv
  obtain ⟨rfl, hP, hK⟩ := hv
  have hx := B.exec
  have hb := B.bytes
  have hr := B.returns
  have hz : ∀ w ∈ zW, w.before ([.ref (a 1), .int (nI (j))]).toArray s = true := fun w h => atoms_spec (ws := (zw_Strand_pieceMayEnd :: zW)) B.pre w (List.mem_cons_of_mem _ h)
  have hown : s.vm.findClass "CutLengths$Strand" = some m.cls := findClass_of_methodNamed B.named
  have hlocks := B.notSynchronized
  obtain ⟨i3, i4, i5, i6, i7, i8, i9, i10, i2, i0, i1, iw, ib, ic, isl⟩ := id hI
  have hb9 := ic j
  have hl := lv_entry ([.ref (a 1), .int (nI (j))]) (n := 2) (Nat.le_of_ble_eq_true rfl)
  rw [lg_entry_eq]
  generalize (lg_sl ([.ref (a 1), .int (nI (j))]) ++ List.replicate (2 - (lg_sl ([.ref (a 1), .int (nI (j))])).length) Slot.unset).toArray = ls at hl ⊢
  have hl : lv_has ls 2 [(0, .ref (a 1)), (1, .int (nI (j)))] := hl
  refine lv_iload_n hx hb d_Strand_pieceMayEnd_0 rfl (lv_at hl 1 rfl) ?_
  refine lv_aload_n hx hb d_Strand_pieceMayEnd_1 rfl (lv_at hl 0 rfl) ?_
  refine va_get (D := (dC, dI)) (ci := 1) (v := .int (nI (v 3))) (C := "CutLengths$Strand") (T := T_Strand) (N := 8) hx hb hz i_Strand hown hK hP 1 rfl rfl 0 (by decide) (hz _ tw_43) (fun _ h9 => h9) rfl d_Strand_pieceMayEnd_2 ?_
  refine lv_icmp_eq (tgt := 17) hx hb d_Strand_pieceMayEnd_5 (by decide) (fun c_5 => ?_) (fun c_5 => ?_)
  · have c_5 : ((j : Nat) : Int) = ((v 3 : Nat) : Int) := (zz_eq (nI_toInt (by omega)) (nI_toInt (by omega))).mp c_5
    refine lv_iconst (v := nI (1)) hx hb d_Strand_pieceMayEnd_17 (by decide) ?_
    refine lv_goto (tgt := 22) hx hb d_Strand_pieceMayEnd_18 (by decide) ?_
    exact W.zret (v := nI (1)) hx hb hr (rfl) (fun t9 ht hW => zz_r (congrArg nI (if_pos (by omega)).symm) ht) (fun q h => by cases h) d_Strand_pieceMayEnd_22
  · have c_5 : ¬ (((j : Nat) : Int) = ((v 3 : Nat) : Int)) := fun q => c_5 ((zz_eq (nI_toInt (by omega)) (nI_toInt (by omega))).mpr q)
    refine lv_aload_n hx hb d_Strand_pieceMayEnd_8 rfl (lv_at hl 0 rfl) ?_
    refine va_get (D := (dC, dI)) (ci := 1) (v := .ref (a 3)) (C := "CutLengths$Strand") (T := T_Strand) (N := 8) hx hb hz i_Strand hown hK hP 1 rfl rfl 7 (by decide) (hz _ tw_58) (fun _ h9 => h9) rfl d_Strand_pieceMayEnd_9 ?_
    refine lv_iload_n hx hb d_Strand_pieceMayEnd_12 rfl (lv_at hl 1 rfl) ?_
    refine zz_zald hx hb hK hP 3 1 (f := f 1) (i := j) rfl rfl (by omega) (by decide) d_Strand_pieceMayEnd_13 ?_
    refine lv_if_ne (tgt := 21) hx hb d_Strand_pieceMayEnd_14 (by decide) (fun c_14 => ?_) (fun c_14 => ?_)
    · have c_14 : ¬ (((f 1 j : Nat) : Int) = (0 : Int)) := fun q => c_14 ((zz_eq (nI_toInt (by omega)) ((by decide))).mpr q)
      refine lv_iconst (v := nI (0)) hx hb d_Strand_pieceMayEnd_21 (by decide) ?_
      exact W.zret (v := nI (0)) hx hb hr (rfl) (fun t9 ht hW => zz_r (congrArg nI (if_neg (by omega)).symm) ht) (fun q h => by cases h) d_Strand_pieceMayEnd_22
    · have c_14 : ((f 1 j : Nat) : Int) = (0 : Int) := (zz_eq (nI_toInt (by omega)) ((by decide))).mp c_14
      refine lv_iconst (v := nI (1)) hx hb d_Strand_pieceMayEnd_17 (by decide) ?_
      refine lv_goto (tgt := 22) hx hb d_Strand_pieceMayEnd_18 (by decide) ?_
      exact W.zret (v := nI (1)) hx hb hr (rfl) (fun t9 ht hW => zz_r (congrArg nI (if_pos (by omega)).symm) ht) (fun q h => by cases h) d_Strand_pieceMayEnd_22
set_option maxHeartbeats 4000000 in
set_option maxRecDepth 100000 in
theorem c_Plan_isBetter (l : Launch) (dC : Nat → ClassId) (dI : Nat → Nat → Nat) (a : Nat → Nat) (cI cZ : ClassId) (v : Nat → Nat) (f : Nat → Nat → Nat) (w : Nat → Nat → Int32) (j k : Nat) (hj : j < 301) (hk : k < 301) (hLj : f 4 j ≤ 300) (hLk : f 4 k ≤ 300) : Met l y_Plan_isBetter (zw_Plan_isBetter :: zW) ({ frames := 0, cells := 0, slots := 0, locals := 0 }) (va_Pc [.ref (a 7), .int (nI (j)), .int (nI (k))] (fun U => va_P (dC, dI) vwCl (wC a cI cZ v f w) U.heap ∧ va_K (dC, dI) vwCl [(cI, .int), (cZ, .boolean)] U)) (zr (nI (if f 4 k < f 4 j ∨ (f 4 k = f 4 j ∧ w 0 j = -1) then 1 else 0))) 0 0 (fun _ => False) := by
  refine Met.ofW (cc := prog_2_method_7_code) (maxL := 5) (ret := (some .boolean)) (by decide) rfl ?_
  intro p e s m args below meth c s₁ B hml hv
  obtain ⟨rfl, hP, hK⟩ := hv
  have hx := B.exec
  have hb := B.bytes
  have hr := B.returns
  have hz : ∀ w ∈ zW, w.before ([.ref (a 7), .int (nI (j)), .int (nI (k))]).toArray s = true := fun w h => atoms_spec (ws := (zw_Plan_isBetter :: zW)) B.pre w (List.mem_cons_of_mem _ h)
  have hown : s.vm.findClass "CutLengths$Plan" = some m.cls := findClass_of_methodNamed B.named
  have hlocks := B.notSynchronized
  have hl := lv_entry ([.ref (a 7), .int (nI (j)), .int (nI (k))]) (n := 5) (Nat.le_of_ble_eq_true rfl)
  rw [lg_entry_eq]
  generalize (lg_sl ([.ref (a 7), .int (nI (j)), .int (nI (k))]) ++ List.replicate (5 - (lg_sl ([.ref (a 7), .int (nI (j)), .int (nI (k))])).length) Slot.unset).toArray = ls at hl ⊢
  have hl : lv_has ls 5 [(0, .ref (a 7)), (1, .int (nI (j))), (2, .int (nI (k)))] := hl
  refine lv_aload_n hx hb d_Plan_isBetter_0 rfl (lv_at hl 0 rfl) ?_
  refine va_get (D := (dC, dI)) (ci := 3) (v := .ref (a 8)) (C := "CutLengths$Plan") (T := T_Plan) (N := 3) hx hb hz i_Plan hown hK hP 7 rfl rfl 0 (by decide) (hz _ tw_106) (fun _ h9 => h9) rfl d_Plan_isBetter_1 ?_
  refine lv_iload_n hx hb d_Plan_isBetter_4 rfl (lv_at hl 2 rfl) ?_
  refine zz_nald hx hb hK hP 8 0 (f := f 4) (i := k) rfl rfl (by omega) (by decide) d_Plan_isBetter_5 ?_
  refine lv_aload_n hx hb d_Plan_isBetter_6 rfl (lv_at hl 0 rfl) ?_
  refine va_get (D := (dC, dI)) (ci := 3) (v := .ref (a 8)) (C := "CutLengths$Plan") (T := T_Plan) (N := 3) hx hb hz i_Plan hown hK hP 7 rfl rfl 0 (by decide) (hz _ tw_106) (fun _ h9 => h9) rfl d_Plan_isBetter_7 ?_
  refine lv_iload_n hx hb d_Plan_isBetter_10 rfl (lv_at hl 1 rfl) ?_
  refine zz_nald hx hb hK hP 8 0 (f := f 4) (i := j) rfl rfl (by omega) (by decide) d_Plan_isBetter_11 ?_
  refine lv_icmp_ge (tgt := 19) hx hb d_Plan_isBetter_12 (by decide) (fun c_12 => ?_) (fun c_12 => ?_)
  · have c_12 : ((f 4 j : Nat) : Int) ≤ ((f 4 k : Nat) : Int) := (zz_le (nI_toInt (by omega)) (nI_toInt (by omega))).mp c_12
    refine lv_iconst (v := nI (0)) hx hb d_Plan_isBetter_19 (by decide) ?_
    refine lv_istore_n (lv' := [(3, .int (nI (0))), (0, .ref (a 7)), (1, .int (nI (j))), (2, .int (nI (k)))]) hx hb d_Plan_isBetter_20 rfl hl (by decide) rfl (fun ls hl => ?_)
    refine lv_aload_n hx hb d_Plan_isBetter_21 rfl (lv_at hl 1 rfl) ?_
    refine va_get (D := (dC, dI)) (ci := 3) (v := .ref (a 8)) (C := "CutLengths$Plan") (T := T_Plan) (N := 3) hx hb hz i_Plan hown hK hP 7 rfl rfl 0 (by decide) (hz _ tw_106) (fun _ h9 => h9) rfl d_Plan_isBetter_22 ?_
    refine lv_iload_n hx hb d_Plan_isBetter_25 rfl (lv_at hl 3 rfl) ?_
    refine zz_nald hx hb hK hP 8 0 (f := f 4) (i := k) rfl rfl (by omega) (by decide) d_Plan_isBetter_26 ?_
    refine lv_aload_n hx hb d_Plan_isBetter_27 rfl (lv_at hl 1 rfl) ?_
    refine va_get (D := (dC, dI)) (ci := 3) (v := .ref (a 8)) (C := "CutLengths$Plan") (T := T_Plan) (N := 3) hx hb hz i_Plan hown hK hP 7 rfl rfl 0 (by decide) (hz _ tw_106) (fun _ h9 => h9) rfl d_Plan_isBetter_28 ?_
    refine lv_iload_n hx hb d_Plan_isBetter_31 rfl (lv_at hl 2 rfl) ?_
    refine zz_nald hx hb hK hP 8 0 (f := f 4) (i := j) rfl rfl (by omega) (by decide) d_Plan_isBetter_32 ?_
    refine lv_icmp_ne (tgt := 50) hx hb d_Plan_isBetter_33 (by decide) (fun c_33 => ?_) (fun c_33 => ?_)
    · have c_33 : ¬ (((f 4 k : Nat) : Int) = ((f 4 j : Nat) : Int)) := fun q => c_33 ((zz_eq (nI_toInt (by omega)) (nI_toInt (by omega))).mpr q)
      refine lv_iconst (v := nI (0)) hx hb d_Plan_isBetter_50 (by decide) ?_
      refine lv_istore (lv' := [(4, .int (nI (0))), (3, .int (nI (0))), (0, .ref (a 7)), (1, .int (nI (j))), (2, .int (nI (k)))]) hx hb d_Plan_isBetter_51 hl (by decide) rfl (fun ls hl => ?_)
      refine lv_iload_n hx hb d_Plan_isBetter_53 rfl (lv_at hl 1 rfl) ?_
      refine lv_if_ne (tgt := 62) hx hb d_Plan_isBetter_54 (by decide) (fun c9 => absurd c9 (by decide)) (fun _ => ?_)
      refine lv_iload hx hb d_Plan_isBetter_57 (lv_at hl 0 rfl) ?_
      refine lv_if_eq (tgt := 66) hx hb d_Plan_isBetter_59 (by decide) (fun _ => ?_) (fun c9 => absurd c9 (by decide))
      refine lv_iconst (v := nI (0)) hx hb d_Plan_isBetter_66 (by decide) ?_
      exact W.zret (v := nI (0)) hx hb hr (rfl) (fun t9 ht hW => zz_r (congrArg nI (if_neg (fun q => by rcases q with q | ⟨q1, q2⟩ <;> first | omega | exact absurd q2 (by assumption))).symm) ht) (fun q h => by cases h) d_Plan_isBetter_67
    · have c_33 : ((f 4 k : Nat) : Int) = ((f 4 j : Nat) : Int) := (zz_eq (nI_toInt (by omega)) (nI_toInt (by omega))).mp c_33
      refine lv_aload_n hx hb d_Plan_isBetter_36 rfl (lv_at hl 1 rfl) ?_
      refine va_get (D := (dC, dI)) (ci := 3) (v := .ref (a 9)) (C := "CutLengths$Plan") (T := T_Plan) (N := 3) hx hb hz i_Plan hown hK hP 7 rfl rfl 1 (by decide) (hz _ tw_108) (fun _ h9 => h9) rfl d_Plan_isBetter_37 ?_
      refine lv_iload_n hx hb d_Plan_isBetter_40 rfl (lv_at hl 2 rfl) ?_
      refine zz_iald hx hb hK hP 9 0 (f := w 0) (i := j) rfl rfl (by omega) (by decide) d_Plan_isBetter_41 ?_
      refine lv_iconst (v := -1) hx hb d_Plan_isBetter_42 (by decide) ?_
      refine lv_icmp_ne (tgt := 50) hx hb d_Plan_isBetter_43 (by decide) (fun c_43 => ?_) (fun c_43 => ?_)
      · have c_43 : ¬ (w 0 j = -1) := c_43
        refine lv_iconst (v := nI (0)) hx hb d_Plan_isBetter_50 (by decide) ?_
        refine lv_istore (lv' := [(4, .int (nI (0))), (3, .int (nI (0))), (0, .ref (a 7)), (1, .int (nI (j))), (2, .int (nI (k)))]) hx hb d_Plan_isBetter_51 hl (by decide) rfl (fun ls hl => ?_)
        refine lv_iload_n hx hb d_Plan_isBetter_53 rfl (lv_at hl 1 rfl) ?_
        refine lv_if_ne (tgt := 62) hx hb d_Plan_isBetter_54 (by decide) (fun c9 => absurd c9 (by decide)) (fun _ => ?_)
        refine lv_iload hx hb d_Plan_isBetter_57 (lv_at hl 0 rfl) ?_
        refine lv_if_eq (tgt := 66) hx hb d_Plan_isBetter_59 (by decide) (fun _ => ?_) (fun c9 => absurd c9 (by decide))
        refine lv_iconst (v := nI (0)) hx hb d_Plan_isBetter_66 (by decide) ?_
        exact W.zret (v := nI (0)) hx hb hr (rfl) (fun t9 ht hW => zz_r (congrArg nI (if_neg (fun q => by rcases q with q | ⟨q1, q2⟩ <;> first | omega | exact absurd q2 (by assumption))).symm) ht) (fun q h => by cases h) d_Plan_isBetter_67
      · have c_43 : w 0 j = -1 := c_43
        refine lv_iconst (v := nI (1)) hx hb d_Plan_isBetter_46 (by decide) ?_
        refine lv_goto (tgt := 51) hx hb d_Plan_isBetter_47 (by decide) ?_
        refine lv_istore (lv' := [(4, .int (nI (1))), (3, .int (nI (0))), (0, .ref (a 7)), (1, .int (nI (j))), (2, .int (nI (k)))]) hx hb d_Plan_isBetter_51 hl (by decide) rfl (fun ls hl => ?_)
        refine lv_iload_n hx hb d_Plan_isBetter_53 rfl (lv_at hl 1 rfl) ?_
        refine lv_if_ne (tgt := 62) hx hb d_Plan_isBetter_54 (by decide) (fun c9 => absurd c9 (by decide)) (fun _ => ?_)
        refine lv_iload hx hb d_Plan_isBetter_57 (lv_at hl 0 rfl) ?_
        refine lv_if_eq (tgt := 66) hx hb d_Plan_isBetter_59 (by decide) (fun c9 => absurd c9 (by decide)) (fun _ => ?_)
        refine lv_iconst (v := nI (1)) hx hb d_Plan_isBetter_62 (by decide) ?_
        refine lv_goto (tgt := 67) hx hb d_Plan_isBetter_63 (by decide) ?_
        exact W.zret (v := nI (1)) hx hb hr (rfl) (fun t9 ht hW => zz_r (congrArg nI (if_pos (by first | exact Or.inl (by omega) | exact Or.inr ⟨by omega, by assumption⟩)).symm) ht) (fun q h => by cases h) d_Plan_isBetter_67
  · have c_12 : ¬ (((f 4 j : Nat) : Int) ≤ ((f 4 k : Nat) : Int)) := fun q => c_12 ((zz_le (nI_toInt (by omega)) (nI_toInt (by omega))).mpr q)
    refine lv_iconst (v := nI (1)) hx hb d_Plan_isBetter_15 (by decide) ?_
    refine lv_goto (tgt := 20) hx hb d_Plan_isBetter_16 (by decide) ?_
    refine lv_istore_n (lv' := [(3, .int (nI (1))), (0, .ref (a 7)), (1, .int (nI (j))), (2, .int (nI (k)))]) hx hb d_Plan_isBetter_20 rfl hl (by decide) rfl (fun ls hl => ?_)
    refine lv_aload_n hx hb d_Plan_isBetter_21 rfl (lv_at hl 1 rfl) ?_
    refine va_get (D := (dC, dI)) (ci := 3) (v := .ref (a 8)) (C := "CutLengths$Plan") (T := T_Plan) (N := 3) hx hb hz i_Plan hown hK hP 7 rfl rfl 0 (by decide) (hz _ tw_106) (fun _ h9 => h9) rfl d_Plan_isBetter_22 ?_
    refine lv_iload_n hx hb d_Plan_isBetter_25 rfl (lv_at hl 3 rfl) ?_
    refine zz_nald hx hb hK hP 8 0 (f := f 4) (i := k) rfl rfl (by omega) (by decide) d_Plan_isBetter_26 ?_
    refine lv_aload_n hx hb d_Plan_isBetter_27 rfl (lv_at hl 1 rfl) ?_
    refine va_get (D := (dC, dI)) (ci := 3) (v := .ref (a 8)) (C := "CutLengths$Plan") (T := T_Plan) (N := 3) hx hb hz i_Plan hown hK hP 7 rfl rfl 0 (by decide) (hz _ tw_106) (fun _ h9 => h9) rfl d_Plan_isBetter_28 ?_
    refine lv_iload_n hx hb d_Plan_isBetter_31 rfl (lv_at hl 2 rfl) ?_
    refine zz_nald hx hb hK hP 8 0 (f := f 4) (i := j) rfl rfl (by omega) (by decide) d_Plan_isBetter_32 ?_
    refine lv_icmp_ne (tgt := 50) hx hb d_Plan_isBetter_33 (by decide) (fun c_33 => ?_) (fun c_33 => ?_)
    · have c_33 : ¬ (((f 4 k : Nat) : Int) = ((f 4 j : Nat) : Int)) := fun q => c_33 ((zz_eq (nI_toInt (by omega)) (nI_toInt (by omega))).mpr q)
      refine lv_iconst (v := nI (0)) hx hb d_Plan_isBetter_50 (by decide) ?_
      refine lv_istore (lv' := [(4, .int (nI (0))), (3, .int (nI (1))), (0, .ref (a 7)), (1, .int (nI (j))), (2, .int (nI (k)))]) hx hb d_Plan_isBetter_51 hl (by decide) rfl (fun ls hl => ?_)
      refine lv_iload_n hx hb d_Plan_isBetter_53 rfl (lv_at hl 1 rfl) ?_
      refine lv_if_ne (tgt := 62) hx hb d_Plan_isBetter_54 (by decide) (fun _ => ?_) (fun c9 => absurd c9 (by decide))
      refine lv_iconst (v := nI (1)) hx hb d_Plan_isBetter_62 (by decide) ?_
      refine lv_goto (tgt := 67) hx hb d_Plan_isBetter_63 (by decide) ?_
      exact W.zret (v := nI (1)) hx hb hr (rfl) (fun t9 ht hW => zz_r (congrArg nI (if_pos (by first | exact Or.inl (by omega) | exact Or.inr ⟨by omega, by assumption⟩)).symm) ht) (fun q h => by cases h) d_Plan_isBetter_67
    · have c_33 : ((f 4 k : Nat) : Int) = ((f 4 j : Nat) : Int) := (zz_eq (nI_toInt (by omega)) (nI_toInt (by omega))).mp c_33
      refine lv_aload_n hx hb d_Plan_isBetter_36 rfl (lv_at hl 1 rfl) ?_
      refine va_get (D := (dC, dI)) (ci := 3) (v := .ref (a 9)) (C := "CutLengths$Plan") (T := T_Plan) (N := 3) hx hb hz i_Plan hown hK hP 7 rfl rfl 1 (by decide) (hz _ tw_108) (fun _ h9 => h9) rfl d_Plan_isBetter_37 ?_
      refine lv_iload_n hx hb d_Plan_isBetter_40 rfl (lv_at hl 2 rfl) ?_
      refine zz_iald hx hb hK hP 9 0 (f := w 0) (i := j) rfl rfl (by omega) (by decide) d_Plan_isBetter_41 ?_
      refine lv_iconst (v := -1) hx hb d_Plan_isBetter_42 (by decide) ?_
      refine lv_icmp_ne (tgt := 50) hx hb d_Plan_isBetter_43 (by decide) (fun c_43 => ?_) (fun c_43 => ?_)
      · have c_43 : ¬ (w 0 j = -1) := c_43
        refine lv_iconst (v := nI (0)) hx hb d_Plan_isBetter_50 (by decide) ?_
        refine lv_istore (lv' := [(4, .int (nI (0))), (3, .int (nI (1))), (0, .ref (a 7)), (1, .int (nI (j))), (2, .int (nI (k)))]) hx hb d_Plan_isBetter_51 hl (by decide) rfl (fun ls hl => ?_)
        refine lv_iload_n hx hb d_Plan_isBetter_53 rfl (lv_at hl 1 rfl) ?_
        refine lv_if_ne (tgt := 62) hx hb d_Plan_isBetter_54 (by decide) (fun _ => ?_) (fun c9 => absurd c9 (by decide))
        refine lv_iconst (v := nI (1)) hx hb d_Plan_isBetter_62 (by decide) ?_
        refine lv_goto (tgt := 67) hx hb d_Plan_isBetter_63 (by decide) ?_
        exact W.zret (v := nI (1)) hx hb hr (rfl) (fun t9 ht hW => zz_r (congrArg nI (if_pos (by first | exact Or.inl (by omega) | exact Or.inr ⟨by omega, by assumption⟩)).symm) ht) (fun q h => by cases h) d_Plan_isBetter_67
      · have c_43 : w 0 j = -1 := c_43
        refine lv_iconst (v := nI (1)) hx hb d_Plan_isBetter_46 (by decide) ?_
        refine lv_goto (tgt := 51) hx hb d_Plan_isBetter_47 (by decide) ?_
        refine lv_istore (lv' := [(4, .int (nI (1))), (3, .int (nI (1))), (0, .ref (a 7)), (1, .int (nI (j))), (2, .int (nI (k)))]) hx hb d_Plan_isBetter_51 hl (by decide) rfl (fun ls hl => ?_)
        refine lv_iload_n hx hb d_Plan_isBetter_53 rfl (lv_at hl 1 rfl) ?_
        refine lv_if_ne (tgt := 62) hx hb d_Plan_isBetter_54 (by decide) (fun _ => ?_) (fun c9 => absurd c9 (by decide))
        refine lv_iconst (v := nI (1)) hx hb d_Plan_isBetter_62 (by decide) ?_
        refine lv_goto (tgt := 67) hx hb d_Plan_isBetter_63 (by decide) ?_
        exact W.zret (v := nI (1)) hx hb hr (rfl) (fun t9 ht hW => zz_r (congrArg nI (if_pos (by first | exact Or.inl (by omega) | exact Or.inr ⟨by omega, by assumption⟩)).symm) ht) (fun q h => by cases h) d_Plan_isBetter_67
set_option maxHeartbeats 4000000 in
set_option maxRecDepth 100000 in
theorem c_Cut_isSlab (l : Launch) (dC : Nat → ClassId) (dI : Nat → Nat → Nat) (a : Nat → Nat) (cI cZ : ClassId) (v : Nat → Nat) (f : Nat → Nat → Nat) (w : Nat → Nat → Int32) (p0 : Int32) (z0 : Int) (h0 : p0.toInt = z0) (hI : zI v f) : Met l y_Cut_isSlab (zw_Cut_isSlab :: zW) ({ frames := 0, cells := 0, slots := 0, locals := 0 }) (va_Pc [.ref (a 0), .int (p0)] (fun U => va_P (dC, dI) vwCl (wC a cI cZ v f w) U.heap ∧ va_K (dC, dI) vwCl [(cI, .int), (cZ, .boolean)] U)) (zr (nI (if 0 ≤ z0 ∧ z0 < (v 10 : Nat) then 1 else 0))) 0 0 (fun _ => False) := by
  refine Met.ofW (cc := prog_1_method_18_code) (maxL := 2) (ret := (some .boolean)) (by decide) rfl ?_
  intro p e s m args below meth c s₁ B hml hv
  obtain ⟨rfl, hP, hK⟩ := hv
  have hx := B.exec
  have hb := B.bytes
  have hr := B.returns
  have hz : ∀ w ∈ zW, w.before ([.ref (a 0), .int (p0)]).toArray s = true := fun w h => atoms_spec (ws := (zw_Cut_isSlab :: zW)) B.pre w (List.mem_cons_of_mem _ h)
  have hown : s.vm.findClass "CutLengths" = some m.cls := findClass_of_methodNamed B.named
  have hlocks := B.notSynchronized
  obtain ⟨i3, i4, i5, i6, i7, i8, i9, i10, i2, i0, i1, iw, ib, ic, isl⟩ := id hI
  have hl := lv_entry ([.ref (a 0), .int (p0)]) (n := 2) (Nat.le_of_ble_eq_true rfl)
  rw [lg_entry_eq]
  generalize (lg_sl ([.ref (a 0), .int (p0)]) ++ List.replicate (2 - (lg_sl ([.ref (a 0), .int (p0)])).length) Slot.unset).toArray = ls at hl ⊢
  have hl : lv_has ls 2 [(0, .ref (a 0)), (1, .int (p0))] := hl
  refine lv_iload_n hx hb d_Cut_isSlab_0 rfl (lv_at hl 1 rfl) ?_
  refine lv_if_lt (tgt := 19) hx hb d_Cut_isSlab_1 (by decide) (fun c_1 => ?_) (fun c_1 => ?_)
  · have c_1 : z0 < (0 : Int) := (zz_lt (h0) ((by decide))).mp c_1
    refine lv_iconst (v := nI (0)) hx hb d_Cut_isSlab_19 (by decide) ?_
    exact W.zret (v := nI (0)) hx hb hr (rfl) (fun t9 ht hW => zz_r (congrArg nI (if_neg (by omega)).symm) ht) (fun q h => by cases h) d_Cut_isSlab_20
  · have c_1 : ¬ (z0 < (0 : Int)) := fun q => c_1 ((zz_lt (h0) ((by decide))).mpr q)
    refine lv_iload_n hx hb d_Cut_isSlab_4 rfl (lv_at hl 1 rfl) ?_
    refine lv_aload_n hx hb d_Cut_isSlab_5 rfl (lv_at hl 0 rfl) ?_
    refine va_get (D := (dC, dI)) (ci := 0) (v := .ref (a 11)) (C := "CutLengths") (T := T_Cut) (N := 7) hx hb hz i_Cut hown hK hP 0 rfl rfl 3 (by decide) (hz _ tw_145) (fun _ h9 => h9) rfl d_Cut_isSlab_6 ?_
    refine va_get (D := (dC, dI)) (ci := 4) (v := .int (nI (v 10))) (C := "CutLengths$Slabs") (T := T_Slabs) (N := 4) hx hb hz i_Slabs hown hK hP 11 rfl rfl 0 (by decide) (hz _ tw_126) (fun _ h9 => h9) rfl d_Cut_isSlab_9 ?_
    refine lv_icmp_ge (tgt := 19) hx hb d_Cut_isSlab_12 (by decide) (fun c_12 => ?_) (fun c_12 => ?_)
    · have c_12 : ((v 10 : Nat) : Int) ≤ z0 := (zz_le (nI_toInt (by omega)) (h0)).mp c_12
      refine lv_iconst (v := nI (0)) hx hb d_Cut_isSlab_19 (by decide) ?_
      exact W.zret (v := nI (0)) hx hb hr (rfl) (fun t9 ht hW => zz_r (congrArg nI (if_neg (by omega)).symm) ht) (fun q h => by cases h) d_Cut_isSlab_20
    · have c_12 : ¬ (((v 10 : Nat) : Int) ≤ z0) := fun q => c_12 ((zz_le (nI_toInt (by omega)) (h0)).mpr q)
      refine lv_iconst (v := nI (1)) hx hb d_Cut_isSlab_15 (by decide) ?_
      refine lv_goto (tgt := 20) hx hb d_Cut_isSlab_16 (by decide) ?_
      exact W.zret (v := nI (1)) hx hb hr (rfl) (fun t9 ht hW => zz_r (congrArg nI (if_pos (by omega)).symm) ht) (fun q h => by cases h) d_Cut_isSlab_20
set_option maxHeartbeats 4000000 in
set_option maxRecDepth 100000 in
theorem c_Cut_torch (l : Launch) (dC : Nat → ClassId) (dI : Nat → Nat → Nat) (a : Nat → Nat) (cI cZ : ClassId) (v : Nat → Nat) (f : Nat → Nat → Nat) (w : Nat → Nat → Int32)  : Met l y_Cut_torch (zw_Cut_torch :: zW) ({ frames := 0, cells := 0, slots := 0, locals := 0 }) (va_Pc [.ref (a 0)] (fun U => va_P (dC, dI) vwCl (wC a cI cZ v f w) U.heap ∧ va_K (dC, dI) vwCl [(cI, .int), (cZ, .boolean)] U)) (zr (nI (v 4))) 0 0 (fun _ => False) := by
  refine Met.ofW (cc := prog_1_method_15_code) (maxL := 1) (ret := (some .int)) (by decide) rfl ?_
  intro p e s m args below meth c s₁ B hml hv
  obtain ⟨rfl, hP, hK⟩ := hv
  have hx := B.exec
  have hb := B.bytes
  have hr := B.returns
  have hz : ∀ w ∈ zW, w.before ([.ref (a 0)]).toArray s = true := fun w h => atoms_spec (ws := (zw_Cut_torch :: zW)) B.pre w (List.mem_cons_of_mem _ h)
  have hown : s.vm.findClass "CutLengths" = some m.cls := findClass_of_methodNamed B.named
  have hlocks := B.notSynchronized
  have hl := lv_entry ([.ref (a 0)]) (n := 1) (Nat.le_of_ble_eq_true rfl)
  rw [lg_entry_eq]
  generalize (lg_sl ([.ref (a 0)]) ++ List.replicate (1 - (lg_sl ([.ref (a 0)])).length) Slot.unset).toArray = ls at hl ⊢
  have hl : lv_has ls 1 [(0, .ref (a 0))] := hl
  refine lv_aload_n hx hb d_Cut_torch_0 rfl (lv_at hl 0 rfl) ?_
  refine va_get (D := (dC, dI)) (ci := 0) (v := .ref (a 1)) (C := "CutLengths") (T := T_Cut) (N := 7) hx hb hz i_Cut hown hK hP 0 rfl rfl 0 (by decide) (hz _ tw_142) (fun _ h9 => h9) rfl d_Cut_torch_1 ?_
  refine va_get (D := (dC, dI)) (ci := 1) (v := .int (nI (v 4))) (C := "CutLengths$Strand") (T := T_Strand) (N := 8) hx hb hz i_Strand hown hK hP 1 rfl rfl 1 (by decide) (hz _ tw_48) (fun _ h9 => h9) rfl d_Cut_torch_4 ?_
  exact W.iret (v := nI (v 4)) hx hb hr (fun t9 ht hW => zz_r (rfl) ht) (fun q h => by cases h) d_Cut_torch_7
set_option maxHeartbeats 4000000 in
set_option maxRecDepth 100000 in
theorem c_Slabs_howManyOf (l : Launch) (dC : Nat → ClassId) (dI : Nat → Nat → Nat) (a : Nat → Nat) (cI cZ : ClassId) (v : Nat → Nat) (f : Nat → Nat → Nat) (w : Nat → Nat → Int32) (x : Int32) (hI : zI v f) : Met l y_Slabs_howManyOf (zw_Slabs_howManyOf :: zW) ({ frames := 0, cells := 0, slots := 0, locals := 0 }) (va_Pc [.ref (a 11), .int (x)] (fun U => va_P (dC, dI) vwCl (wC a cI cZ v f w) U.heap ∧ va_K (dC, dI) vwCl [(cI, .int), (cZ, .boolean)] U)) (zr (nI (zcnt (w 1) x (v 10)))) 0 0 (fun _ => False) := by
  refine Met.ofW (cc := prog_3_method_3_code) (maxL := 4) (ret := (some .int)) (by decide) rfl ?_
  intro p e s m args below meth c s₁ B hml hv
  obtain ⟨rfl, hP, hK⟩ := hv
  have hx := B.exec
  have hb := B.bytes
  have hr := B.returns
  have hz : ∀ w ∈ zW, w.before ([.ref (a 11), .int (x)]).toArray s = true := fun w h => atoms_spec (ws := (zw_Slabs_howManyOf :: zW)) B.pre w (List.mem_cons_of_mem _ h)
  have hown : s.vm.findClass "CutLengths$Slabs" = some m.cls := findClass_of_methodNamed B.named
  have hlocks := B.notSynchronized
  obtain ⟨i3, i4, i5, i6, i7, i8, i9, i10, i2, i0, i1, iw, ib, ic, isl⟩ := id hI
  have hl := lv_entry ([.ref (a 11), .int (x)]) (n := 4) (Nat.le_of_ble_eq_true rfl)
  rw [lg_entry_eq]
  generalize (lg_sl ([.ref (a 11), .int (x)]) ++ List.replicate (4 - (lg_sl ([.ref (a 11), .int (x)])).length) Slot.unset).toArray = ls at hl ⊢
  have hl : lv_has ls 4 [(0, .ref (a 11)), (1, .int (x))] := hl
  refine lv_iconst (v := nI (0)) hx hb d_Slabs_howManyOf_0 (by decide) ?_
  refine lv_istore_n (lv' := [(2, .int (nI (0))), (0, .ref (a 11)), (1, .int (x))]) hx hb d_Slabs_howManyOf_1 rfl hl (by decide) rfl (fun ls hl => ?_)
  refine lv_iconst (v := nI (0)) hx hb d_Slabs_howManyOf_2 (by decide) ?_
  refine lv_istore_n (lv' := [(3, .int (nI (0))), (2, .int (nI (0))), (0, .ref (a 11)), (1, .int (x))]) hx hb d_Slabs_howManyOf_3 rfl hl (by decide) rfl (fun ls hl => ?_)
  have loop : ∀ (n : Nat) (i : Nat), (i ≤ v 10) → (v 10 < i + n) → ∀ ls : Array Slot, lv_has ls 4 [(3, .int (nI (i))), (2, .int (nI (zcnt (w 1) x i))), (0, .ref (a 11)), (1, .int (x))] → W p l e (headSpec (zw_Slabs_howManyOf :: zW) ({ frames := 0, cells := 0, slots := 0, locals := 0 })).room s m ([.ref (a 11), .int (x)]).toArray below meth c s.heap [] 0 0 (MQ below (zr (nI (zcnt (w 1) x (v 10)))) ([.ref (a 11), .int (x)]).toArray s 0 0 (fun _ => False)) (F0 m 4 ls []) := by
    intro n
    induction n with
    | zero =>
      intro i hi hn
      exact absurd hn (by omega)
    | succ n ih_loop =>
      intro i hi hn ls hl
      have hz9 := zcnt_le (f := w 1) (x := x) i
      refine lv_iload_n hx hb d_Slabs_howManyOf_4 rfl (lv_at hl 0 rfl) ?_
      refine lv_aload_n hx hb d_Slabs_howManyOf_5 rfl (lv_at hl 2 rfl) ?_
      refine va_get (D := (dC, dI)) (ci := 4) (v := .int (nI (v 10))) (C := "CutLengths$Slabs") (T := T_Slabs) (N := 4) hx hb hz i_Slabs hown hK hP 11 rfl rfl 0 (by decide) (hz _ tw_125) (fun _ h9 => h9) rfl d_Slabs_howManyOf_6 ?_
      refine lv_icmp_ge (tgt := 31) hx hb d_Slabs_howManyOf_9 (by decide) (fun c_9 => ?_) (fun c_9 => ?_)
      · have c_9 : ((v 10 : Nat) : Int) ≤ ((i : Nat) : Int) := (zz_le (nI_toInt (by omega)) (nI_toInt (by omega))).mp c_9
        refine lv_iload_n hx hb d_Slabs_howManyOf_31 rfl (lv_at hl 1 rfl) ?_
        exact W.iret (v := nI (zcnt (w 1) x i)) hx hb hr (fun t9 ht hW => zz_r (by rw [show i = v 10 from by omega]) ht) (fun q h => by cases h) d_Slabs_howManyOf_32
      · have c_9 : ¬ (((v 10 : Nat) : Int) ≤ ((i : Nat) : Int)) := fun q => c_9 ((zz_le (nI_toInt (by omega)) (nI_toInt (by omega))).mpr q)
        refine lv_aload_n hx hb d_Slabs_howManyOf_12 rfl (lv_at hl 2 rfl) ?_
        refine va_get (D := (dC, dI)) (ci := 4) (v := .ref (a 12)) (C := "CutLengths$Slabs") (T := T_Slabs) (N := 4) hx hb hz i_Slabs hown hK hP 11 rfl rfl 1 (by decide) (hz _ tw_127) (fun _ h9 => h9) rfl d_Slabs_howManyOf_13 ?_
        refine lv_iload_n hx hb d_Slabs_howManyOf_16 rfl (lv_at hl 0 rfl) ?_
        refine zz_iald hx hb hK hP 12 0 (f := w 1) (i := i) rfl rfl (by omega) (by decide) d_Slabs_howManyOf_17 ?_
        refine lv_iload_n hx hb d_Slabs_howManyOf_18 rfl (lv_at hl 3 rfl) ?_
        refine lv_icmp_ne (tgt := 25) hx hb d_Slabs_howManyOf_19 (by decide) (fun c_19 => ?_) (fun c_19 => ?_)
        · have c_19 : ¬ (w 1 i = x) := c_19
          refine lv_iinc (v := nI (i + 1)) (lv' := [(3, .int (nI (i + 1))), (2, .int (nI (zcnt (w 1) x i))), (0, .ref (a 11)), (1, .int (x))]) hx hb d_Slabs_howManyOf_25 hl (k := 0) rfl (zz_inc _) (by decide) rfl (fun ls hl => ?_)
          refine lv_goto (tgt := 4) hx hb d_Slabs_howManyOf_28 (by decide) ?_
          exact ih_loop (i + 1) (by omega) (by omega) ls (by rw [show zcnt (w 1) x (i + 1) = zcnt (w 1) x i from if_neg c_19]; exact lv_sub hl [0, 1, 2, 3] rfl)
        · have c_19 : w 1 i = x := c_19
          refine lv_iinc (v := nI (zcnt (w 1) x i + 1)) (lv' := [(2, .int (nI (zcnt (w 1) x i + 1))), (3, .int (nI (i))), (0, .ref (a 11)), (1, .int (x))]) hx hb d_Slabs_howManyOf_22 hl (k := 1) rfl (zz_inc _) (by decide) rfl (fun ls hl => ?_)
          refine lv_iinc (v := nI (i + 1)) (lv' := [(3, .int (nI (i + 1))), (2, .int (nI (zcnt (w 1) x i + 1))), (0, .ref (a 11)), (1, .int (x))]) hx hb d_Slabs_howManyOf_25 hl (k := 1) rfl (zz_inc _) (by decide) rfl (fun ls hl => ?_)
          refine lv_goto (tgt := 4) hx hb d_Slabs_howManyOf_28 (by decide) ?_
          exact ih_loop (i + 1) (by omega) (by omega) ls (by rw [show zcnt (w 1) x (i + 1) = zcnt (w 1) x i + 1 from if_pos c_19]; exact lv_sub hl [0, 1, 2, 3] rfl)
  exact loop (v 10 + 1) 0 (Nat.zero_le _) (by omega) ls (lv_sub hl [0, 1, 2, 3] rfl)
set_option maxHeartbeats 4000000 in
set_option maxRecDepth 100000 in
theorem c_Plan_beginOfPart (l : Launch) (dC : Nat → ClassId) (dI : Nat → Nat → Nat) (a : Nat → Nat) (cI cZ : ClassId) (v : Nat → Nat) (f : Nat → Nat → Nat) (w : Nat → Nat → Int32) (i : Nat) (hi : i < 2 ^ 31) (hI : zI v f) (hE : ∀ p, v 4 ≤ p → p < v 3 → p < p + f 5 p ∧ p + f 5 p ≤ v 3) : Met l y_Plan_beginOfPart (zw_Plan_beginOfPart :: zW) ({ frames := 1, cells := 0, slots := 0, locals := 30 }) (va_Pc [.ref (a 7), .int (nI (i)), .ref (a 1)] (fun U => va_P (dC, dI) vwCl (wC a cI cZ v f w) U.heap ∧ va_K (dC, dI) vwCl [(cI, .int), (cZ, .boolean)] U)) (zr (nI (zit (fun p => p + f 5 p) (v 3) (min i 300) (v 4)))) 0 0 (fun _ => False) := by
  refine Met.ofW (cc := prog_2_method_3_code) (maxL := 6) (ret := (some .int)) (by decide) rfl ?_
  intro p e s m args below meth c s₁ B hml hv
  obtain ⟨rfl, hP, hK⟩ := hv
  have hx := B.exec
  have hb := B.bytes
  have hr := B.returns
  have hz : ∀ w ∈ zW, w.before ([.ref (a 7), .int (nI (i)), .ref (a 1)]).toArray s = true := fun w h => atoms_spec (ws := (zw_Plan_beginOfPart :: zW)) B.pre w (List.mem_cons_of_mem _ h)
  have hown : s.vm.findClass "CutLengths$Plan" = some m.cls := findClass_of_methodNamed B.named
  have hlocks := B.notSynchronized
  obtain ⟨i3, i4, i5, i6, i7, i8, i9, i10, i2, i0, i1, iw, ib, ic, isl⟩ := id hI
  have hz0 := hz
  have m9 : min i 300 ≤ 300 := Nat.min_le_right _ _
  have hl := lv_entry ([.ref (a 7), .int (nI (i)), .ref (a 1)]) (n := 6) (Nat.le_of_ble_eq_true rfl)
  rw [lg_entry_eq]
  generalize (lg_sl ([.ref (a 7), .int (nI (i)), .ref (a 1)]) ++ List.replicate (6 - (lg_sl ([.ref (a 7), .int (nI (i)), .ref (a 1)])).length) Slot.unset).toArray = ls at hl ⊢
  have hl : lv_has ls 6 [(0, .ref (a 7)), (1, .int (nI (i))), (2, .ref (a 1))] := hl
  refine lv_iload_n hx hb d_Plan_beginOfPart_0 rfl (lv_at hl 1 rfl) ?_
  refine lv_sipush (v := nI (300)) hx hb d_Plan_beginOfPart_1 (by decide) ?_
  refine va_mmin hx hb (by rw [hml]; exact hl.1.symm) hown (hz _ tw_192) (hz _ tw_193) (hz _ tw_28) (hz _ tw_min) (Nat.le_of_ble_eq_true rfl) (Nat.le_of_ble_eq_true rfl) (Nat.zero_le _) (Nat.zero_le _) d_Plan_beginOfPart_4 ?_
  refine zz_top (zz_min (by omega) (by omega)) ?_
  refine lv_istore_n (lv' := [(3, .int (nI (min (i) (300)))), (0, .ref (a 7)), (1, .int (nI (i))), (2, .ref (a 1))]) hx hb d_Plan_beginOfPart_7 rfl hl (by decide) rfl (fun ls hl => ?_)
  refine lv_aload_n hx hb d_Plan_beginOfPart_8 rfl (lv_at hl 3 rfl) ?_
  refine va_get (D := (dC, dI)) (ci := 1) (v := .int (nI (v 4))) (C := "CutLengths$Strand") (T := T_Strand) (N := 8) hx hb hz i_Strand hown hK hP 1 rfl rfl 1 (by decide) (hz _ tw_47) (fun _ h9 => h9) rfl d_Plan_beginOfPart_9 ?_
  refine lv_istore (lv' := [(4, .int (nI (v 4))), (3, .int (nI (min (i) (300)))), (0, .ref (a 7)), (1, .int (nI (i))), (2, .ref (a 1))]) hx hb d_Plan_beginOfPart_12 hl (by decide) rfl (fun ls hl => ?_)
  refine lv_iconst (v := nI (0)) hx hb d_Plan_beginOfPart_14 (by decide) ?_
  refine lv_istore (lv' := [(5, .int (nI (0))), (4, .int (nI (v 4))), (3, .int (nI (min (i) (300)))), (0, .ref (a 7)), (1, .int (nI (i))), (2, .ref (a 1))]) hx hb d_Plan_beginOfPart_15 hl (by decide) rfl (fun ls hl => ?_)
  have loop : ∀ (n : Nat) (k x : Nat), (k ≤ min i 300) → (v 4 ≤ x) → (x ≤ v 3) → (zit (fun p => p + f 5 p) (v 3) (min i 300 - k) x = zit (fun p => p + f 5 p) (v 3) (min i 300) (v 4)) → (min i 300 < k + n) → ∀ ls : Array Slot, lv_has ls 6 [(5, .int (nI (k))), (4, .int (nI (x))), (3, .int (nI (min i 300))), (0, .ref (a 7)), (1, .int (nI (i))), (2, .ref (a 1))] → W p l e (headSpec (zw_Plan_beginOfPart :: zW) ({ frames := 1, cells := 0, slots := 0, locals := 30 })).room s m ([.ref (a 7), .int (nI (i)), .ref (a 1)]).toArray below meth c s.heap [] 0 0 (MQ below (zr (nI (zit (fun p => p + f 5 p) (v 3) (min i 300) (v 4)))) ([.ref (a 7), .int (nI (i)), .ref (a 1)]).toArray s 0 0 (fun _ => False)) (F0 m 17 ls []) := by
    intro n
    induction n with
    | zero =>
      intro k x hk hx1 hx2 hz hn
      exact absurd hn (by omega)
    | succ n ih_loop =>
      intro k x hk hx1 hx2 hz hn ls hl
      have hzz := hz
      clear hz
      have hz : ∀ w ∈ zW, w.before ([.ref (a 7), .int (nI (i)), .ref (a 1)]).toArray s = true := hz0
      have hEx := hE x hx1
      refine lv_iload hx hb d_Plan_beginOfPart_17 (lv_at hl 0 rfl) ?_
      refine lv_iload_n hx hb d_Plan_beginOfPart_19 rfl (lv_at hl 2 rfl) ?_
      refine lv_icmp_ge (tgt := 50) hx hb d_Plan_beginOfPart_20 (by decide) (fun c_20 => ?_) (fun c_20 => ?_)
      · have c_20 : ((min i 300 : Nat) : Int) ≤ ((k : Nat) : Int) := (zz_le (nI_toInt (by omega)) (nI_toInt (by omega))).mp c_20
        refine lv_iload hx hb d_Plan_beginOfPart_50 (lv_at hl 1 rfl) ?_
        exact W.iret (v := nI (x)) hx hb hr (fun t9 ht hW => zz_r (by rw [← hzz]; first | (rw [show min i 300 - k = 0 from by omega]; done) | (rw [zit_n (by omega)]; done) | (rw [show min i 300 - k = 0 from by omega]; rfl) | (rw [zit_n (by omega)])) ht) (fun q h => by cases h) d_Plan_beginOfPart_52
      · have c_20 : ¬ (((min i 300 : Nat) : Int) ≤ ((k : Nat) : Int)) := fun q => c_20 ((zz_le (nI_toInt (by omega)) (nI_toInt (by omega))).mpr q)
        refine lv_iload hx hb d_Plan_beginOfPart_23 (lv_at hl 1 rfl) ?_
        refine lv_aload_n hx hb d_Plan_beginOfPart_25 rfl (lv_at hl 5 rfl) ?_
        refine va_get (D := (dC, dI)) (ci := 1) (v := .int (nI (v 3))) (C := "CutLengths$Strand") (T := T_Strand) (N := 8) hx hb hz i_Strand hown hK hP 1 rfl rfl 0 (by decide) (hz _ tw_44) (fun _ h9 => h9) rfl d_Plan_beginOfPart_26 ?_
        refine lv_icmp_ge (tgt := 50) hx hb d_Plan_beginOfPart_29 (by decide) (fun c_29 => ?_) (fun c_29 => ?_)
        · have c_29 : ((v 3 : Nat) : Int) ≤ ((x : Nat) : Int) := (zz_le (nI_toInt (by omega)) (nI_toInt (by omega))).mp c_29
          refine lv_iload hx hb d_Plan_beginOfPart_50 (lv_at hl 1 rfl) ?_
          exact W.iret (v := nI (x)) hx hb hr (fun t9 ht hW => zz_r (by rw [← hzz]; first | (rw [show min i 300 - k = 0 from by omega]; done) | (rw [zit_n (by omega)]; done) | (rw [show min i 300 - k = 0 from by omega]; rfl) | (rw [zit_n (by omega)])) ht) (fun q h => by cases h) d_Plan_beginOfPart_52
        · have c_29 : ¬ (((v 3 : Nat) : Int) ≤ ((x : Nat) : Int)) := fun q => c_29 ((zz_le (nI_toInt (by omega)) (nI_toInt (by omega))).mpr q)
          refine lv_iload hx hb d_Plan_beginOfPart_32 (lv_at hl 1 rfl) ?_
          refine lv_aload_n hx hb d_Plan_beginOfPart_34 rfl (lv_at hl 3 rfl) ?_
          refine va_get (D := (dC, dI)) (ci := 3) (v := .ref (a 10)) (C := "CutLengths$Plan") (T := T_Plan) (N := 3) hx hb hz i_Plan hown hK hP 7 rfl rfl 2 (by decide) (hz _ tw_110) (fun _ h9 => h9) rfl d_Plan_beginOfPart_35 ?_
          refine lv_iload hx hb d_Plan_beginOfPart_38 (lv_at hl 1 rfl) ?_
          refine zz_nald hx hb hK hP 10 0 (f := f 5) (i := x) rfl rfl (by omega) (by decide) d_Plan_beginOfPart_40 ?_
          refine lv_iadd hx hb d_Plan_beginOfPart_41 ?_
          refine zz_top (nI_add (x) (f 5 x)) ?_
          refine lv_istore (lv' := [(4, .int (nI (x + (f 5 x)))), (5, .int (nI (k))), (3, .int (nI (min i 300))), (0, .ref (a 7)), (1, .int (nI (i))), (2, .ref (a 1))]) hx hb d_Plan_beginOfPart_42 hl (by decide) rfl (fun ls hl => ?_)
          refine lv_iinc (v := nI (k + 1)) (lv' := [(5, .int (nI (k + 1))), (4, .int (nI (x + (f 5 x)))), (3, .int (nI (min i 300))), (0, .ref (a 7)), (1, .int (nI (i))), (2, .ref (a 1))]) hx hb d_Plan_beginOfPart_44 hl (k := 1) rfl (zz_inc _) (by decide) rfl (fun ls hl => ?_)
          refine lv_goto (tgt := 17) hx hb d_Plan_beginOfPart_47 (by decide) ?_
          exact ih_loop (k + 1) (x + f 5 x) (by omega) (by omega) (by omega) (by rw [← hzz, show min i 300 - k = (min i 300 - (k + 1)) + 1 from by omega]; exact (if_pos (by omega)).symm) (by omega) ls (lv_sub hl [0, 1, 2, 3, 4, 5] rfl)
  exact loop (min i 300 + 1) 0 (v 4) (Nat.zero_le _) (Nat.le_refl _) i4 rfl (by omega) ls (lv_sub hl [0, 1, 2, 3, 4, 5] rfl)
