/-! STATIC TESTS of the class and of the reference (rows written by wip/whole/mk_class.py) -/
theorem tw_min : Cond.code Lib.Math.min.name Lib.Math.min.code 2 (some .int) ∈ zW := zW_in 194 (by decide +kernel) (by decide +kernel)
set_option maxHeartbeats 4000000 in
set_option maxRecDepth 100000 in
theorem c_Cut_isOutside (l : Launch)  (p0 p1 p2 : Int32) (z0 z1 z2 : Int) (h0 : p0.toInt = z0) (h1 : p1.toInt = z1) (h2 : p2.toInt = z2) : Met l y_Cut_isOutside (zw_Cut_isOutside :: zW) ({ frames := 0, cells := 0, slots := 0, locals := 0 }) (va_Pc [.int (p0), .int (p1), .int (p2)] (fun U => True)) (zr (nI (if z0 < z1 ∨ z2 < z0 then 1 else 0))) 0 0 (fun _ => False) := by
  refine Met.ofW (cc := prog_1_method_19_code) (maxL := 3) (ret := (some .boolean)) (by decide) rfl ?_
  intro p e s m args below meth c s₁ B hml hv
  obtain ⟨rfl, -⟩ := hv
  have hx := B.exec
  have hb := B.bytes
  have hr := B.returns
  have hz : ∀ w ∈ zW, w.before ([.int (p0), .int (p1), .int (p2)]).toArray s = true := fun w h => atoms_spec (ws := (zw_Cut_isOutside :: zW)) B.pre w (List.mem_cons_of_mem _ h)
  have hown : s.vm.findClass "CutLengths" = some m.cls := findClass_of_methodNamed B.named
  have hlocks := B.notSynchronized
  have hl := lv_entry ([.int (p0), .int (p1), .int (p2)]) (n := 3) (Nat.le_of_ble_eq_true rfl)
  rw [lg_entry_eq]
  generalize (lg_sl ([.int (p0), .int (p1), .int (p2)]) ++ List.replicate (3 - (lg_sl ([.int (p0), .int (p1), .int (p2)])).length) Slot.unset).toArray = ls at hl ⊢
  have hl : lv_has ls 3 [(0, .int (p0)), (1, .int (p1)), (2, .int (p2))] := hl
  refine lv_iload_n hx hb d_Cut_isOutside_0 rfl (lv_at hl 0 rfl) ?_
  refine lv_iload_n hx hb d_Cut_isOutside_1 rfl (lv_at hl 1 rfl) ?_
  refine lv_icmp_lt (tgt := 10) hx hb d_Cut_isOutside_2 (by decide) (fun c_2 => ?_) (fun c_2 => ?_)
  · have c_2 : z0 < z1 := (zz_lt (h0) (h1)).mp c_2
    refine lv_iconst (v := nI (1)) hx hb d_Cut_isOutside_10 (by decide) ?_
    refine lv_goto (tgt := 15) hx hb d_Cut_isOutside_11 (by decide) ?_
    exact W.zret (v := nI (1)) hx hb hr (rfl) (fun t9 ht hW => zz_r (congrArg nI (if_pos (by omega)).symm) ht) (fun q h => by cases h) d_Cut_isOutside_15
  · have c_2 : ¬ (z0 < z1) := fun q => c_2 ((zz_lt (h0) (h1)).mpr q)
    refine lv_iload_n hx hb d_Cut_isOutside_5 rfl (lv_at hl 0 rfl) ?_
    refine lv_iload_n hx hb d_Cut_isOutside_6 rfl (lv_at hl 2 rfl) ?_
    refine lv_icmp_le (tgt := 14) hx hb d_Cut_isOutside_7 (by decide) (fun c_7 => ?_) (fun c_7 => ?_)
    · have c_7 : z0 ≤ z2 := (zz_le (h0) (h2)).mp c_7
      refine lv_iconst (v := nI (0)) hx hb d_Cut_isOutside_14 (by decide) ?_
      exact W.zret (v := nI (0)) hx hb hr (rfl) (fun t9 ht hW => zz_r (congrArg nI (if_neg (by omega)).symm) ht) (fun q h => by cases h) d_Cut_isOutside_15
    · have c_7 : ¬ (z0 ≤ z2) := fun q => c_7 ((zz_le (h0) (h2)).mpr q)
      refine lv_iconst (v := nI (1)) hx hb d_Cut_isOutside_10 (by decide) ?_
      refine lv_goto (tgt := 15) hx hb d_Cut_isOutside_11 (by decide) ?_
      exact W.zret (v := nI (1)) hx hb hr (rfl) (fun t9 ht hW => zz_r (congrArg nI (if_pos (by omega)).symm) ht) (fun q h => by cases h) d_Cut_isOutside_15
set_option maxHeartbeats 4000000 in
set_option maxRecDepth 100000 in
theorem c_Cut_isSpan (l : Launch)  (p0 p1 : Int32) (z0 z1 : Int) (h0 : p0.toInt = z0) (h1 : p1.toInt = z1) : Met l y_Cut_isSpan (zw_Cut_isSpan :: zW) ({ frames := 0, cells := 0, slots := 0, locals := 0 }) (va_Pc [.int (p0), .int (p1)] (fun U => True)) (zr (nI (if 1 ≤ z0 ∧ z0 ≤ z1 ∧ z1 ≤ 60 then 1 else 0))) 0 0 (fun _ => False) := by
  refine Met.ofW (cc := prog_1_method_20_code) (maxL := 2) (ret := (some .boolean)) (by decide) rfl ?_
  intro p e s m args below meth c s₁ B hml hv
  obtain ⟨rfl, -⟩ := hv
  have hx := B.exec
  have hb := B.bytes
  have hr := B.returns
  have hz : ∀ w ∈ zW, w.before ([.int (p0), .int (p1)]).toArray s = true := fun w h => atoms_spec (ws := (zw_Cut_isSpan :: zW)) B.pre w (List.mem_cons_of_mem _ h)
  have hown : s.vm.findClass "CutLengths" = some m.cls := findClass_of_methodNamed B.named
  have hlocks := B.notSynchronized
  have hl := lv_entry ([.int (p0), .int (p1)]) (n := 2) (Nat.le_of_ble_eq_true rfl)
  rw [lg_entry_eq]
  generalize (lg_sl ([.int (p0), .int (p1)]) ++ List.replicate (2 - (lg_sl ([.int (p0), .int (p1)])).length) Slot.unset).toArray = ls at hl ⊢
  have hl : lv_has ls 2 [(0, .int (p0)), (1, .int (p1))] := hl
  refine lv_iload_n hx hb d_Cut_isSpan_0 rfl (lv_at hl 0 rfl) ?_
  refine lv_iconst (v := nI (1)) hx hb d_Cut_isSpan_1 (by decide) ?_
  refine lv_icmp_lt (tgt := 20) hx hb d_Cut_isSpan_2 (by decide) (fun c_2 => ?_) (fun c_2 => ?_)
  · have c_2 : z0 < (1 : Int) := (zz_lt (h0) ((by decide))).mp c_2
    refine lv_iconst (v := nI (0)) hx hb d_Cut_isSpan_20 (by decide) ?_
    exact W.zret (v := nI (0)) hx hb hr (rfl) (fun t9 ht hW => zz_r (congrArg nI (if_neg (by omega)).symm) ht) (fun q h => by cases h) d_Cut_isSpan_21
  · have c_2 : ¬ (z0 < (1 : Int)) := fun q => c_2 ((zz_lt (h0) ((by decide))).mpr q)
    refine lv_iload_n hx hb d_Cut_isSpan_5 rfl (lv_at hl 0 rfl) ?_
    refine lv_iload_n hx hb d_Cut_isSpan_6 rfl (lv_at hl 1 rfl) ?_
    refine lv_icmp_gt (tgt := 20) hx hb d_Cut_isSpan_7 (by decide) (fun c_7 => ?_) (fun c_7 => ?_)
    · have c_7 : z1 < z0 := (zz_lt (h1) (h0)).mp c_7
      refine lv_iconst (v := nI (0)) hx hb d_Cut_isSpan_20 (by decide) ?_
      exact W.zret (v := nI (0)) hx hb hr (rfl) (fun t9 ht hW => zz_r (congrArg nI (if_neg (by omega)).symm) ht) (fun q h => by cases h) d_Cut_isSpan_21
    · have c_7 : ¬ (z1 < z0) := fun q => c_7 ((zz_lt (h1) (h0)).mpr q)
      refine lv_iload_n hx hb d_Cut_isSpan_10 rfl (lv_at hl 1 rfl) ?_
      refine lv_bipush (v := nI (60)) hx hb d_Cut_isSpan_11 (by decide) ?_
      refine lv_icmp_gt (tgt := 20) hx hb d_Cut_isSpan_13 (by decide) (fun c_13 => ?_) (fun c_13 => ?_)
      · have c_13 : (60 : Int) < z1 := (zz_lt ((by decide)) (h1)).mp c_13
        refine lv_iconst (v := nI (0)) hx hb d_Cut_isSpan_20 (by decide) ?_
        exact W.zret (v := nI (0)) hx hb hr (rfl) (fun t9 ht hW => zz_r (congrArg nI (if_neg (by omega)).symm) ht) (fun q h => by cases h) d_Cut_isSpan_21
      · have c_13 : ¬ ((60 : Int) < z1) := fun q => c_13 ((zz_lt ((by decide)) (h1)).mpr q)
        refine lv_iconst (v := nI (1)) hx hb d_Cut_isSpan_16 (by decide) ?_
        refine lv_goto (tgt := 21) hx hb d_Cut_isSpan_17 (by decide) ?_
        exact W.zret (v := nI (1)) hx hb hr (rfl) (fun t9 ht hW => zz_r (congrArg nI (if_pos (by omega)).symm) ht) (fun q h => by cases h) d_Cut_isSpan_21
set_option maxHeartbeats 4000000 in
set_option maxRecDepth 100000 in
theorem c_Cut_isStretch (l : Launch)  (p0 p1 : Int32) (z0 z1 : Int) (h0 : p0.toInt = z0) (h1 : p1.toInt = z1) : Met l y_Cut_isStretch (zw_Cut_isStretch :: zW) ({ frames := 0, cells := 0, slots := 0, locals := 0 }) (va_Pc [.int (p0), .int (p1)] (fun U => True)) (zr (nI (if 0 ≤ z0 ∧ z0 ≤ z1 ∧ z1 ≤ 300 then 1 else 0))) 0 0 (fun _ => False) := by
  refine Met.ofW (cc := prog_1_method_21_code) (maxL := 2) (ret := (some .boolean)) (by decide) rfl ?_
  intro p e s m args below meth c s₁ B hml hv
  obtain ⟨rfl, -⟩ := hv
  have hx := B.exec
  have hb := B.bytes
  have hr := B.returns
  have hz : ∀ w ∈ zW, w.before ([.int (p0), .int (p1)]).toArray s = true := fun w h => atoms_spec (ws := (zw_Cut_isStretch :: zW)) B.pre w (List.mem_cons_of_mem _ h)
  have hown : s.vm.findClass "CutLengths" = some m.cls := findClass_of_methodNamed B.named
  have hlocks := B.notSynchronized
  have hl := lv_entry ([.int (p0), .int (p1)]) (n := 2) (Nat.le_of_ble_eq_true rfl)
  rw [lg_entry_eq]
  generalize (lg_sl ([.int (p0), .int (p1)]) ++ List.replicate (2 - (lg_sl ([.int (p0), .int (p1)])).length) Slot.unset).toArray = ls at hl ⊢
  have hl : lv_has ls 2 [(0, .int (p0)), (1, .int (p1))] := hl
  refine lv_iload_n hx hb d_Cut_isStretch_0 rfl (lv_at hl 0 rfl) ?_
  refine lv_if_lt (tgt := 20) hx hb d_Cut_isStretch_1 (by decide) (fun c_1 => ?_) (fun c_1 => ?_)
  · have c_1 : z0 < (0 : Int) := (zz_lt (h0) ((by decide))).mp c_1
    refine lv_iconst (v := nI (0)) hx hb d_Cut_isStretch_20 (by decide) ?_
    exact W.zret (v := nI (0)) hx hb hr (rfl) (fun t9 ht hW => zz_r (congrArg nI (if_neg (by omega)).symm) ht) (fun q h => by cases h) d_Cut_isStretch_21
  · have c_1 : ¬ (z0 < (0 : Int)) := fun q => c_1 ((zz_lt (h0) ((by decide))).mpr q)
    refine lv_iload_n hx hb d_Cut_isStretch_4 rfl (lv_at hl 0 rfl) ?_
    refine lv_iload_n hx hb d_Cut_isStretch_5 rfl (lv_at hl 1 rfl) ?_
    refine lv_icmp_gt (tgt := 20) hx hb d_Cut_isStretch_6 (by decide) (fun c_6 => ?_) (fun c_6 => ?_)
    · have c_6 : z1 < z0 := (zz_lt (h1) (h0)).mp c_6
      refine lv_iconst (v := nI (0)) hx hb d_Cut_isStretch_20 (by decide) ?_
      exact W.zret (v := nI (0)) hx hb hr (rfl) (fun t9 ht hW => zz_r (congrArg nI (if_neg (by omega)).symm) ht) (fun q h => by cases h) d_Cut_isStretch_21
    · have c_6 : ¬ (z1 < z0) := fun q => c_6 ((zz_lt (h1) (h0)).mpr q)
      refine lv_iload_n hx hb d_Cut_isStretch_9 rfl (lv_at hl 1 rfl) ?_
      refine lv_sipush (v := nI (300)) hx hb d_Cut_isStretch_10 (by decide) ?_
      refine lv_icmp_gt (tgt := 20) hx hb d_Cut_isStretch_13 (by decide) (fun c_13 => ?_) (fun c_13 => ?_)
      · have c_13 : (300 : Int) < z1 := (zz_lt ((by decide)) (h1)).mp c_13
        refine lv_iconst (v := nI (0)) hx hb d_Cut_isStretch_20 (by decide) ?_
        exact W.zret (v := nI (0)) hx hb hr (rfl) (fun t9 ht hW => zz_r (congrArg nI (if_neg (by omega)).symm) ht) (fun q h => by cases h) d_Cut_isStretch_21
      · have c_13 : ¬ ((300 : Int) < z1) := fun q => c_13 ((zz_lt ((by decide)) (h1)).mpr q)
        refine lv_iconst (v := nI (1)) hx hb d_Cut_isStretch_16 (by decide) ?_
        refine lv_goto (tgt := 21) hx hb d_Cut_isStretch_17 (by decide) ?_
        exact W.zret (v := nI (1)) hx hb hr (rfl) (fun t9 ht hW => zz_r (congrArg nI (if_pos (by omega)).symm) ht) (fun q h => by cases h) d_Cut_isStretch_21
set_option maxHeartbeats 4000000 in
set_option maxRecDepth 100000 in
theorem c_Cut_isWhat (l : Launch)  (p0 : Int32) (z0 : Int) (h0 : p0.toInt = z0) : Met l y_Cut_isWhat (zw_Cut_isWhat :: zW) ({ frames := 0, cells := 0, slots := 0, locals := 0 }) (va_Pc [.int (p0)] (fun U => True)) (zr (nI (if 0 ≤ z0 ∧ z0 ≤ 2 then 1 else 0))) 0 0 (fun _ => False) := by
  refine Met.ofW (cc := prog_1_method_22_code) (maxL := 1) (ret := (some .boolean)) (by decide) rfl ?_
  intro p e s m args below meth c s₁ B hml hv
  obtain ⟨rfl, -⟩ := hv
  have hx := B.exec
  have hb := B.bytes
  have hr := B.returns
  have hz : ∀ w ∈ zW, w.before ([.int (p0)]).toArray s = true := fun w h => atoms_spec (ws := (zw_Cut_isWhat :: zW)) B.pre w (List.mem_cons_of_mem _ h)
  have hown : s.vm.findClass "CutLengths" = some m.cls := findClass_of_methodNamed B.named
  have hlocks := B.notSynchronized
  have hl := lv_entry ([.int (p0)]) (n := 1) (Nat.le_of_ble_eq_true rfl)
  rw [lg_entry_eq]
  generalize (lg_sl ([.int (p0)]) ++ List.replicate (1 - (lg_sl ([.int (p0)])).length) Slot.unset).toArray = ls at hl ⊢
  have hl : lv_has ls 1 [(0, .int (p0))] := hl
  refine lv_iload_n hx hb d_Cut_isWhat_0 rfl (lv_at hl 0 rfl) ?_
  refine lv_if_lt (tgt := 13) hx hb d_Cut_isWhat_1 (by decide) (fun c_1 => ?_) (fun c_1 => ?_)
  · have c_1 : z0 < (0 : Int) := (zz_lt (h0) ((by decide))).mp c_1
    refine lv_iconst (v := nI (0)) hx hb d_Cut_isWhat_13 (by decide) ?_
    exact W.zret (v := nI (0)) hx hb hr (rfl) (fun t9 ht hW => zz_r (congrArg nI (if_neg (by omega)).symm) ht) (fun q h => by cases h) d_Cut_isWhat_14
  · have c_1 : ¬ (z0 < (0 : Int)) := fun q => c_1 ((zz_lt (h0) ((by decide))).mpr q)
    refine lv_iload_n hx hb d_Cut_isWhat_4 rfl (lv_at hl 0 rfl) ?_
    refine lv_iconst (v := nI (2)) hx hb d_Cut_isWhat_5 (by decide) ?_
    refine lv_icmp_gt (tgt := 13) hx hb d_Cut_isWhat_6 (by decide) (fun c_6 => ?_) (fun c_6 => ?_)
    · have c_6 : (2 : Int) < z0 := (zz_lt ((by decide)) (h0)).mp c_6
      refine lv_iconst (v := nI (0)) hx hb d_Cut_isWhat_13 (by decide) ?_
      exact W.zret (v := nI (0)) hx hb hr (rfl) (fun t9 ht hW => zz_r (congrArg nI (if_neg (by omega)).symm) ht) (fun q h => by cases h) d_Cut_isWhat_14
    · have c_6 : ¬ ((2 : Int) < z0) := fun q => c_6 ((zz_lt ((by decide)) (h0)).mpr q)
      refine lv_iconst (v := nI (1)) hx hb d_Cut_isWhat_9 (by decide) ?_
      refine lv_goto (tgt := 14) hx hb d_Cut_isWhat_10 (by decide) ?_
      exact W.zret (v := nI (1)) hx hb hr (rfl) (fun t9 ht hW => zz_r (congrArg nI (if_pos (by omega)).symm) ht) (fun q h => by cases h) d_Cut_isWhat_14
set_option maxHeartbeats 4000000 in
set_option maxRecDepth 100000 in
theorem c_Cut_pick (l : Launch)  (p0 p1 p2 p3 : Int32) (z0 : Int) (h0 : p0.toInt = z0) : Met l y_Cut_pick (zw_Cut_pick :: zW) ({ frames := 0, cells := 0, slots := 0, locals := 0 }) (va_Pc [.int (p0), .int (p1), .int (p2), .int (p3)] (fun U => True)) (zr (if z0 = 0 then p1 else if z0 = 1 then p2 else p3)) 0 0 (fun _ => False) := by
  refine Met.ofW (cc := prog_1_method_23_code) (maxL := 4) (ret := (some .int)) (by decide) rfl ?_
  intro p e s m args below meth c s₁ B hml hv
  obtain ⟨rfl, -⟩ := hv
  have hx := B.exec
  have hb := B.bytes
  have hr := B.returns
  have hz : ∀ w ∈ zW, w.before ([.int (p0), .int (p1), .int (p2), .int (p3)]).toArray s = true := fun w h => atoms_spec (ws := (zw_Cut_pick :: zW)) B.pre w (List.mem_cons_of_mem _ h)
  have hown : s.vm.findClass "CutLengths" = some m.cls := findClass_of_methodNamed B.named
  have hlocks := B.notSynchronized
  have hl := lv_entry ([.int (p0), .int (p1), .int (p2), .int (p3)]) (n := 4) (Nat.le_of_ble_eq_true rfl)
  rw [lg_entry_eq]
  generalize (lg_sl ([.int (p0), .int (p1), .int (p2), .int (p3)]) ++ List.replicate (4 - (lg_sl ([.int (p0), .int (p1), .int (p2), .int (p3)])).length) Slot.unset).toArray = ls at hl ⊢
  have hl : lv_has ls 4 [(0, .int (p0)), (1, .int (p1)), (2, .int (p2)), (3, .int (p3))] := hl
  refine lv_iload_n hx hb d_Cut_pick_0 rfl (lv_at hl 0 rfl) ?_
  refine lv_if_ne (tgt := 6) hx hb d_Cut_pick_1 (by decide) (fun c_1 => ?_) (fun c_1 => ?_)
  · have c_1 : ¬ (z0 = (0 : Int)) := fun q => c_1 ((zz_eq (h0) ((by decide))).mpr q)
    refine lv_iload_n hx hb d_Cut_pick_6 rfl (lv_at hl 0 rfl) ?_
    refine lv_iconst (v := nI (1)) hx hb d_Cut_pick_7 (by decide) ?_
    refine lv_icmp_ne (tgt := 15) hx hb d_Cut_pick_8 (by decide) (fun c_8 => ?_) (fun c_8 => ?_)
    · have c_8 : ¬ (z0 = (1 : Int)) := fun q => c_8 ((zz_eq (h0) ((by decide))).mpr q)
      refine lv_iload_n hx hb d_Cut_pick_15 rfl (lv_at hl 3 rfl) ?_
      exact W.iret (v := p3) hx hb hr (fun t9 ht hW => zz_r ((by first | rw [if_pos (by omega)] | rw [if_neg (by omega), if_pos (by omega)] | rw [if_neg (by omega), if_neg (by omega)])) ht) (fun q h => by cases h) d_Cut_pick_16
    · have c_8 : z0 = (1 : Int) := (zz_eq (h0) ((by decide))).mp c_8
      refine lv_iload_n hx hb d_Cut_pick_11 rfl (lv_at hl 2 rfl) ?_
      refine lv_goto (tgt := 16) hx hb d_Cut_pick_12 (by decide) ?_
      exact W.iret (v := p2) hx hb hr (fun t9 ht hW => zz_r ((by first | rw [if_pos (by omega)] | rw [if_neg (by omega), if_pos (by omega)] | rw [if_neg (by omega), if_neg (by omega)])) ht) (fun q h => by cases h) d_Cut_pick_16
  · have c_1 : z0 = (0 : Int) := (zz_eq (h0) ((by decide))).mp c_1
    refine lv_iload_n hx hb d_Cut_pick_4 rfl (lv_at hl 1 rfl) ?_
    exact W.iret (v := p1) hx hb hr (fun t9 ht hW => zz_r ((by first | rw [if_pos (by omega)] | rw [if_neg (by omega), if_pos (by omega)] | rw [if_neg (by omega), if_neg (by omega)])) ht) (fun q h => by cases h) d_Cut_pick_5
set_option maxHeartbeats 4000000 in
set_option maxRecDepth 100000 in
theorem c_Model_in (l : Launch)  (p0 p1 p2 : Int32) (z0 z1 z2 : Int) (h0 : p0.toInt = z0) (h1 : p1.toInt = z1) (h2 : p2.toInt = z2) : Met l y_Model_in (zw_Model_in :: zW) ({ frames := 0, cells := 0, slots := 0, locals := 0 }) (va_Pc [.int (p0), .int (p1), .int (p2)] (fun U => True)) (zr (nI (if z1 ≤ z0 ∧ z0 ≤ z2 then 1 else 0))) 0 0 (fun _ => False) := by
  refine Met.ofW (cc := prog_7_method_4_code) (maxL := 3) (ret := (some .boolean)) (by decide) rfl ?_
  intro p e s m args below meth c s₁ B hml hv
  obtain ⟨rfl, -⟩ := hv
  have hx := B.exec
  have hb := B.bytes
  have hr := B.returns
  have hz : ∀ w ∈ zW, w.before ([.int (p0), .int (p1), .int (p2)]).toArray s = true := fun w h => atoms_spec (ws := (zw_Model_in :: zW)) B.pre w (List.mem_cons_of_mem _ h)
  have hown : s.vm.findClass "CutLengthsModel" = some m.cls := findClass_of_methodNamed B.named
  have hlocks := B.notSynchronized
  have hl := lv_entry ([.int (p0), .int (p1), .int (p2)]) (n := 3) (Nat.le_of_ble_eq_true rfl)
  rw [lg_entry_eq]
  generalize (lg_sl ([.int (p0), .int (p1), .int (p2)]) ++ List.replicate (3 - (lg_sl ([.int (p0), .int (p1), .int (p2)])).length) Slot.unset).toArray = ls at hl ⊢
  have hl : lv_has ls 3 [(0, .int (p0)), (1, .int (p1)), (2, .int (p2))] := hl
  refine lv_iload_n hx hb d_Model_in_0 rfl (lv_at hl 0 rfl) ?_
  refine lv_iload_n hx hb d_Model_in_1 rfl (lv_at hl 1 rfl) ?_
  refine lv_icmp_lt (tgt := 14) hx hb d_Model_in_2 (by decide) (fun c_2 => ?_) (fun c_2 => ?_)
  · have c_2 : z0 < z1 := (zz_lt (h0) (h1)).mp c_2
    refine lv_iconst (v := nI (0)) hx hb d_Model_in_14 (by decide) ?_
    exact W.zret (v := nI (0)) hx hb hr (rfl) (fun t9 ht hW => zz_r (congrArg nI (if_neg (by omega)).symm) ht) (fun q h => by cases h) d_Model_in_15
  · have c_2 : ¬ (z0 < z1) := fun q => c_2 ((zz_lt (h0) (h1)).mpr q)
    refine lv_iload_n hx hb d_Model_in_5 rfl (lv_at hl 0 rfl) ?_
    refine lv_iload_n hx hb d_Model_in_6 rfl (lv_at hl 2 rfl) ?_
    refine lv_icmp_gt (tgt := 14) hx hb d_Model_in_7 (by decide) (fun c_7 => ?_) (fun c_7 => ?_)
    · have c_7 : z2 < z0 := (zz_lt (h2) (h0)).mp c_7
      refine lv_iconst (v := nI (0)) hx hb d_Model_in_14 (by decide) ?_
      exact W.zret (v := nI (0)) hx hb hr (rfl) (fun t9 ht hW => zz_r (congrArg nI (if_neg (by omega)).symm) ht) (fun q h => by cases h) d_Model_in_15
    · have c_7 : ¬ (z2 < z0) := fun q => c_7 ((zz_lt (h2) (h0)).mpr q)
      refine lv_iconst (v := nI (1)) hx hb d_Model_in_10 (by decide) ?_
      refine lv_goto (tgt := 15) hx hb d_Model_in_11 (by decide) ?_
      exact W.zret (v := nI (1)) hx hb hr (rfl) (fun t9 ht hW => zz_r (congrArg nI (if_pos (by omega)).symm) ht) (fun q h => by cases h) d_Model_in_15
set_option maxHeartbeats 4000000 in
set_option maxRecDepth 100000 in
theorem c_Model_isSpan (l : Launch)  (p0 p1 : Int32) (z0 z1 : Int) (h0 : p0.toInt = z0) (h1 : p1.toInt = z1) : Met l y_Model_isSpan (zw_Model_isSpan :: zW) ({ frames := 1, cells := 0, slots := 0, locals := 22 }) (va_Pc [.int (p0), .int (p1)] (fun U => True)) (zr (nI (if (1 ≤ z0 ∧ z0 ≤ 60) ∧ z0 ≤ z1 ∧ z1 ≤ 60 then 1 else 0))) 0 0 (fun _ => False) := by
  refine Met.ofW (cc := prog_7_method_7_code) (maxL := 2) (ret := (some .boolean)) (by decide) rfl ?_
  intro p e s m args below meth c s₁ B hml hv
  obtain ⟨rfl, -⟩ := hv
  have hx := B.exec
  have hb := B.bytes
  have hr := B.returns
  have hz : ∀ w ∈ zW, w.before ([.int (p0), .int (p1)]).toArray s = true := fun w h => atoms_spec (ws := (zw_Model_isSpan :: zW)) B.pre w (List.mem_cons_of_mem _ h)
  have hown : s.vm.findClass "CutLengthsModel" = some m.cls := findClass_of_methodNamed B.named
  have hlocks := B.notSynchronized
  have hl := lv_entry ([.int (p0), .int (p1)]) (n := 2) (Nat.le_of_ble_eq_true rfl)
  rw [lg_entry_eq]
  generalize (lg_sl ([.int (p0), .int (p1)]) ++ List.replicate (2 - (lg_sl ([.int (p0), .int (p1)])).length) Slot.unset).toArray = ls at hl ⊢
  have hl : lv_has ls 2 [(0, .int (p0)), (1, .int (p1))] := hl
  refine lv_iload_n hx hb d_Model_isSpan_0 rfl (lv_at hl 0 rfl) ?_
  refine lv_iconst (v := nI (1)) hx hb d_Model_isSpan_1 (by decide) ?_
  refine lv_bipush (v := nI (60)) hx hb d_Model_isSpan_2 (by decide) ?_
  refine zz_ro (va_runS (As := [.int (p0), .int (nI (1)), .int (nI (60))]) (rest := []) ⟨hx, hb, hml, hown, hz⟩ (c_Model_in l (p0) (nI (1)) (nI (60)) (z0) ((1 : Int)) ((60 : Int)) (h0) ((by decide)) ((by decide))) (va_cwS 3 hz (zgS tw_563 tw_564 tw_20 tw_565) rfl rfl rfl (by decide +kernel) ⟨Nat.le_of_ble_eq_true rfl, Nat.le_of_ble_eq_true rfl⟩) ⟨fun _ _ _ _ q => q, fun U hU hW => ⟨rfl, trivial⟩⟩ rfl rfl hl.1 rfl (lv_room (Nat.le_of_ble_eq_true rfl)) d_Model_isSpan_4 ⟨Nat.zero_le _, Nat.zero_le _⟩) ?_
  by_cases q_4 : ((1 : Int)) ≤ (z0) ∧ (z0) ≤ ((60 : Int))
  · refine zz_top (congrArg nI (if_pos q_4)) ?_
    refine lv_if_eq (tgt := 24) hx hb d_Model_isSpan_7 (by decide) (fun c9 => absurd c9 (by decide)) (fun _ => ?_)
    refine lv_iload_n hx hb d_Model_isSpan_10 rfl (lv_at hl 1 rfl) ?_
    refine lv_iload_n hx hb d_Model_isSpan_11 rfl (lv_at hl 0 rfl) ?_
    refine lv_bipush (v := nI (60)) hx hb d_Model_isSpan_12 (by decide) ?_
    refine zz_ro (va_runS (As := [.int (p1), .int (p0), .int (nI (60))]) (rest := []) ⟨hx, hb, hml, hown, hz⟩ (c_Model_in l (p1) (p0) (nI (60)) (z1) (z0) ((60 : Int)) (h1) (h0) ((by decide))) (va_cwS 3 hz (zgS tw_563 tw_564 tw_20 tw_565) rfl rfl rfl (by decide +kernel) ⟨Nat.le_of_ble_eq_true rfl, Nat.le_of_ble_eq_true rfl⟩) ⟨fun _ _ _ _ q => q, fun U hU hW => ⟨rfl, trivial⟩⟩ rfl rfl hl.1 rfl (lv_room (Nat.le_of_ble_eq_true rfl)) d_Model_isSpan_14 ⟨Nat.zero_le _, Nat.zero_le _⟩) ?_
    by_cases q_14 : (z0) ≤ (z1) ∧ (z1) ≤ ((60 : Int))
    · refine zz_top (congrArg nI (if_pos q_14)) ?_
      refine lv_if_eq (tgt := 24) hx hb d_Model_isSpan_17 (by decide) (fun c9 => absurd c9 (by decide)) (fun _ => ?_)
      refine lv_iconst (v := nI (1)) hx hb d_Model_isSpan_20 (by decide) ?_
      refine lv_goto (tgt := 25) hx hb d_Model_isSpan_21 (by decide) ?_
      exact W.zret (v := nI (1)) hx hb hr (rfl) (fun t9 ht hW => zz_r (congrArg nI (if_pos (by omega)).symm) ht) (fun q h => by cases h) d_Model_isSpan_25
    · refine zz_top (congrArg nI (if_neg q_14)) ?_
      refine lv_if_eq (tgt := 24) hx hb d_Model_isSpan_17 (by decide) (fun _ => ?_) (fun c9 => absurd c9 (by decide))
      refine lv_iconst (v := nI (0)) hx hb d_Model_isSpan_24 (by decide) ?_
      exact W.zret (v := nI (0)) hx hb hr (rfl) (fun t9 ht hW => zz_r (congrArg nI (if_neg (by omega)).symm) ht) (fun q h => by cases h) d_Model_isSpan_25
  · refine zz_top (congrArg nI (if_neg q_4)) ?_
    refine lv_if_eq (tgt := 24) hx hb d_Model_isSpan_7 (by decide) (fun _ => ?_) (fun c9 => absurd c9 (by decide))
    refine lv_iconst (v := nI (0)) hx hb d_Model_isSpan_24 (by decide) ?_
    exact W.zret (v := nI (0)) hx hb hr (rfl) (fun t9 ht hW => zz_r (congrArg nI (if_neg (by omega)).symm) ht) (fun q h => by cases h) d_Model_isSpan_25
set_option maxHeartbeats 4000000 in
set_option maxRecDepth 100000 in
theorem c_Model_isRow (l : Launch)  (p0 p1 : Int32) (z0 z1 : Int) (h0 : p0.toInt = z0) (h1 : p1.toInt = z1) : Met l y_Model_isRow (zw_Model_isRow :: zW) ({ frames := 1, cells := 0, slots := 0, locals := 22 }) (va_Pc [.int (p0), .int (p1)] (fun U => True)) (zr (nI (if (0 ≤ z0 ∧ z0 ≤ 300) ∧ z0 ≤ z1 ∧ z1 ≤ 300 then 1 else 0))) 0 0 (fun _ => False) := by
  refine Met.ofW (cc := prog_7_method_11_code) (maxL := 2) (ret := (some .boolean)) (by decide) rfl ?_
  intro p e s m args below meth c s₁ B hml hv
  obtain ⟨rfl, -⟩ := hv
  have hx := B.exec
  have hb := B.bytes
  have hr := B.returns
  have hz : ∀ w ∈ zW, w.before ([.int (p0), .int (p1)]).toArray s = true := fun w h => atoms_spec (ws := (zw_Model_isRow :: zW)) B.pre w (List.mem_cons_of_mem _ h)
  have hown : s.vm.findClass "CutLengthsModel" = some m.cls := findClass_of_methodNamed B.named
  have hlocks := B.notSynchronized
  have hl := lv_entry ([.int (p0), .int (p1)]) (n := 2) (Nat.le_of_ble_eq_true rfl)
  rw [lg_entry_eq]
  generalize (lg_sl ([.int (p0), .int (p1)]) ++ List.replicate (2 - (lg_sl ([.int (p0), .int (p1)])).length) Slot.unset).toArray = ls at hl ⊢
  have hl : lv_has ls 2 [(0, .int (p0)), (1, .int (p1))] := hl
  refine lv_iload_n hx hb d_Model_isRow_0 rfl (lv_at hl 0 rfl) ?_
  refine lv_iconst (v := nI (0)) hx hb d_Model_isRow_1 (by decide) ?_
  refine lv_sipush (v := nI (300)) hx hb d_Model_isRow_2 (by decide) ?_
  refine zz_ro (va_runS (As := [.int (p0), .int (nI (0)), .int (nI (300))]) (rest := []) ⟨hx, hb, hml, hown, hz⟩ (c_Model_in l (p0) (nI (0)) (nI (300)) (z0) ((0 : Int)) ((300 : Int)) (h0) ((by decide)) ((by decide))) (va_cwS 3 hz (zgS tw_563 tw_564 tw_20 tw_565) rfl rfl rfl (by decide +kernel) ⟨Nat.le_of_ble_eq_true rfl, Nat.le_of_ble_eq_true rfl⟩) ⟨fun _ _ _ _ q => q, fun U hU hW => ⟨rfl, trivial⟩⟩ rfl rfl hl.1 rfl (lv_room (Nat.le_of_ble_eq_true rfl)) d_Model_isRow_5 ⟨Nat.zero_le _, Nat.zero_le _⟩) ?_
  by_cases q_5 : ((0 : Int)) ≤ (z0) ∧ (z0) ≤ ((300 : Int))
  · refine zz_top (congrArg nI (if_pos q_5)) ?_
    refine lv_if_eq (tgt := 26) hx hb d_Model_isRow_8 (by decide) (fun c9 => absurd c9 (by decide)) (fun _ => ?_)
    refine lv_iload_n hx hb d_Model_isRow_11 rfl (lv_at hl 1 rfl) ?_
    refine lv_iload_n hx hb d_Model_isRow_12 rfl (lv_at hl 0 rfl) ?_
    refine lv_sipush (v := nI (300)) hx hb d_Model_isRow_13 (by decide) ?_
    refine zz_ro (va_runS (As := [.int (p1), .int (p0), .int (nI (300))]) (rest := []) ⟨hx, hb, hml, hown, hz⟩ (c_Model_in l (p1) (p0) (nI (300)) (z1) (z0) ((300 : Int)) (h1) (h0) ((by decide))) (va_cwS 3 hz (zgS tw_563 tw_564 tw_20 tw_565) rfl rfl rfl (by decide +kernel) ⟨Nat.le_of_ble_eq_true rfl, Nat.le_of_ble_eq_true rfl⟩) ⟨fun _ _ _ _ q => q, fun U hU hW => ⟨rfl, trivial⟩⟩ rfl rfl hl.1 rfl (lv_room (Nat.le_of_ble_eq_true rfl)) d_Model_isRow_16 ⟨Nat.zero_le _, Nat.zero_le _⟩) ?_
    by_cases q_16 : (z0) ≤ (z1) ∧ (z1) ≤ ((300 : Int))
    · refine zz_top (congrArg nI (if_pos q_16)) ?_
      refine lv_if_eq (tgt := 26) hx hb d_Model_isRow_19 (by decide) (fun c9 => absurd c9 (by decide)) (fun _ => ?_)
      refine lv_iconst (v := nI (1)) hx hb d_Model_isRow_22 (by decide) ?_
      refine lv_goto (tgt := 27) hx hb d_Model_isRow_23 (by decide) ?_
      exact W.zret (v := nI (1)) hx hb hr (rfl) (fun t9 ht hW => zz_r (congrArg nI (if_pos (by omega)).symm) ht) (fun q h => by cases h) d_Model_isRow_27
    · refine zz_top (congrArg nI (if_neg q_16)) ?_
      refine lv_if_eq (tgt := 26) hx hb d_Model_isRow_19 (by decide) (fun _ => ?_) (fun c9 => absurd c9 (by decide))
      refine lv_iconst (v := nI (0)) hx hb d_Model_isRow_26 (by decide) ?_
      exact W.zret (v := nI (0)) hx hb hr (rfl) (fun t9 ht hW => zz_r (congrArg nI (if_neg (by omega)).symm) ht) (fun q h => by cases h) d_Model_isRow_27
  · refine zz_top (congrArg nI (if_neg q_5)) ?_
    refine lv_if_eq (tgt := 26) hx hb d_Model_isRow_8 (by decide) (fun _ => ?_) (fun c9 => absurd c9 (by decide))
    refine lv_iconst (v := nI (0)) hx hb d_Model_isRow_26 (by decide) ?_
    exact W.zret (v := nI (0)) hx hb hr (rfl) (fun t9 ht hW => zz_r (congrArg nI (if_neg (by omega)).symm) ht) (fun q h => by cases h) d_Model_isRow_27
