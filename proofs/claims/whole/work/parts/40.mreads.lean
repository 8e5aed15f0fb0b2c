/-! THE REFERENCE: reading methods (rows written by wip/whole/mk_model.py) -/
theorem zz_bool {k : Nat} (h : k ≤ 1) : narrow .boolean (.int (nI k)) = .int (nI k) := by
  rcases (show k = 0 ∨ k = 1 by omega) with rfl | rfl <;> rfl
set_option maxHeartbeats 4000000 in
set_option maxRecDepth 100000 in
theorem c_Model_thrown (l : Launch) (dC : Nat → ClassId) (dI : Nat → Nat → Nat) (b : Nat → Nat) (cI : ClassId) (v : Nat → Nat) (f : Nat → Nat → Nat) (w : Nat → Nat → Int32)  : Met l y_Model_thrown (zw_Model_thrown :: zW) ({ frames := 0, cells := 0, slots := 0, locals := 0 }) (va_Pc [.ref (b 0)] (fun U => va_P (dC, dI) vwCl (wM b cI v f w) U.heap ∧ va_K (dC, dI) vwCl [(cI, .int)] U)) (zr (nI (v 0))) 0 0 (fun _ => False) := by
  refine Met.ofW (cc := prog_7_method_2_code) (maxL := 1) (ret := (some .int)) (by decide) rfl ?_
  intro p e s m args below meth c s₁ B hml hv
  obtain ⟨rfl, hP, hK⟩ := hv
  have hx := B.exec
  have hb := B.bytes
  have hr := B.returns
  have hz : ∀ w ∈ zW, w.before ([.ref (b 0)]).toArray s = true := fun w h => atoms_spec (ws := (zw_Model_thrown :: zW)) B.pre w (List.mem_cons_of_mem _ h)
  have hown : s.vm.findClass "CutLengthsModel" = some m.cls := findClass_of_methodNamed B.named
  have hlocks := B.notSynchronized
  have hl := lv_entry ([.ref (b 0)]) (n := 1) (Nat.le_of_ble_eq_true rfl)
  rw [lg_entry_eq]
  generalize (lg_sl ([.ref (b 0)]) ++ List.replicate (1 - (lg_sl ([.ref (b 0)])).length) Slot.unset).toArray = ls at hl ⊢
  have hl : lv_has ls 1 [(0, .ref (b 0))] := hl
  refine lv_aload_n hx hb d_Model_thrown_0 rfl (lv_at hl 0 rfl) ?_
  refine va_get (D := (dC, dI)) (ci := 5) (v := .int (nI (v 0))) (C := "CutLengthsModel") (T := T_Model) (N := 24) hx hb hz i_Model hown hK hP 0 rfl rfl 0 (by decide) (hz _ tw_481) (fun _ h9 => h9) rfl d_Model_thrown_1 ?_
  exact W.iret (v := nI (v 0)) hx hb hr (fun t9 ht hW => zz_r (rfl) ht) (fun q h => by cases h) d_Model_thrown_4
set_option maxHeartbeats 4000000 in
set_option maxRecDepth 100000 in
theorem c_Model_isGood (l : Launch) (dC : Nat → ClassId) (dI : Nat → Nat → Nat) (b : Nat → Nat) (cI : ClassId) (v : Nat → Nat) (f : Nat → Nat → Nat) (w : Nat → Nat → Int32) (j : Nat) (hj : j < 300) (hJ : zJ v f) : Met l y_Model_isGood (zw_Model_isGood :: zW) ({ frames := 1, cells := 0, slots := 0, locals := 22 }) (va_Pc [.ref (b 0), .int (nI (j))] (fun U => va_P (dC, dI) vwCl (wM b cI v f w) U.heap ∧ va_K (dC, dI) vwCl [(cI, .int)] U)) (zr (nI (zMG v f j))) 0 0 (fun _ => False) := by
  refine Met.ofW (cc := prog_7_method_14_code) (maxL := 4) (ret := (some .boolean)) (by decide) rfl ?_
  intro p e s m args below meth c s₁ B hml hv
  obtain ⟨rfl, hP, hK⟩ := hv
  have hx := B.exec
  have hb := B.bytes
  have hr := B.returns
  have hz : ∀ w ∈ zW, w.before ([.ref (b 0), .int (nI (j))]).toArray s = true := fun w h => atoms_spec (ws := (zw_Model_isGood :: zW)) B.pre w (List.mem_cons_of_mem _ h)
  have hown : s.vm.findClass "CutLengthsModel" = some m.cls := findClass_of_methodNamed B.named
  have hlocks := B.notSynchronized
  obtain ⟨j3, j4, j5, j6, j7, j8, j9, j10, j1, j2, jw, jb, jr, jsl⟩ := id hJ
  have hl := lv_entry ([.ref (b 0), .int (nI (j))]) (n := 4) (Nat.le_of_ble_eq_true rfl)
  rw [lg_entry_eq]
  generalize (lg_sl ([.ref (b 0), .int (nI (j))]) ++ List.replicate (4 - (lg_sl ([.ref (b 0), .int (nI (j))])).length) Slot.unset).toArray = ls at hl ⊢
  have hl : lv_has ls 4 [(0, .ref (b 0)), (1, .int (nI (j)))] := hl
  refine lv_iload_n hx hb d_Model_isGood_0 rfl (lv_at hl 1 rfl) ?_
  refine lv_aload_n hx hb d_Model_isGood_1 rfl (lv_at hl 0 rfl) ?_
  refine va_get (D := (dC, dI)) (ci := 5) (v := .int (nI (v 5))) (C := "CutLengthsModel") (T := T_Model) (N := 24) hx hb hz i_Model hown hK hP 0 rfl rfl 5 (by decide) (hz _ tw_486) (fun _ h9 => h9) rfl d_Model_isGood_2 ?_
  refine lv_icmp_lt (tgt := 25) hx hb d_Model_isGood_5 (by decide) (fun c_5 => ?_) (fun c_5 => ?_)
  · have c_5 : ((j : Nat) : Int) < ((v 5 : Nat) : Int) := (zz_lt (nI_toInt (by omega)) (nI_toInt (by omega))).mp c_5
    refine lv_iconst (v := nI (0)) hx hb d_Model_isGood_25 (by decide) ?_
    refine lv_istore_n (lv' := [(2, .int (nI (0))), (0, .ref (b 0)), (1, .int (nI (j)))]) hx hb d_Model_isGood_26 rfl hl (by decide) rfl (fun ls hl => ?_)
    refine lv_iconst (v := nI (0)) hx hb d_Model_isGood_27 (by decide) ?_
    refine lv_istore_n (lv' := [(3, .int (nI (0))), (2, .int (nI (0))), (0, .ref (b 0)), (1, .int (nI (j)))]) hx hb d_Model_isGood_28 rfl hl (by decide) rfl (fun ls hl => ?_)
    have loop : ∀ (n : Nat) (i : Nat), (i ≤ v 8) → (v 8 < i + n) → ∀ ls : Array Slot, lv_has ls 4 [(3, .int (nI (i))), (2, .int (nI (zgd (if v 5 ≤ j ∧ j + v 6 < v 3 then 1 else 0) (f 2) (f 3) j i))), (0, .ref (b 0)), (1, .int (nI (j)))] → W p l e (headSpec (zw_Model_isGood :: zW) ({ frames := 1, cells := 0, slots := 0, locals := 22 })).room s m ([.ref (b 0), .int (nI (j))]).toArray below meth c s.heap [] 0 0 (MQ below (zr (nI (zMG v f j))) ([.ref (b 0), .int (nI (j))]).toArray s 0 0 (fun _ => False)) (F0 m 29 ls []) := by
      intro n
      induction n with
      | zero =>
        intro i hi hn
        exact absurd hn (by omega)
      | succ n ih_loop =>
        intro i hi hn ls hl
        have hz9 := zgd_le (g0 := (if v 5 ≤ j ∧ j + v 6 < v 3 then 1 else 0)) (fr := f 2) (to := f 3) (p := j) (by split <;> omega) i
        refine lv_iload_n hx hb d_Model_isGood_29 rfl (lv_at hl 0 rfl) ?_
        refine lv_aload_n hx hb d_Model_isGood_30 rfl (lv_at hl 2 rfl) ?_
        refine va_get (D := (dC, dI)) (ci := 5) (v := .int (nI (v 8))) (C := "CutLengthsModel") (T := T_Model) (N := 24) hx hb hz i_Model hown hK hP 0 rfl rfl 10 (by decide) (hz _ tw_491) (fun _ h9 => h9) rfl d_Model_isGood_31 ?_
        refine lv_icmp_ge (tgt := 74) hx hb d_Model_isGood_34 (by decide) (fun c_34 => ?_) (fun c_34 => ?_)
        · have c_34 : ((v 8 : Nat) : Int) ≤ ((i : Nat) : Int) := (zz_le (nI_toInt (by omega)) (nI_toInt (by omega))).mp c_34
          refine lv_iload_n hx hb d_Model_isGood_74 rfl (lv_at hl 1 rfl) ?_
          exact W.zret (v := nI (zgd (if v 5 ≤ j ∧ j + v 6 < v 3 then 1 else 0) (f 2) (f 3) j i)) hx hb hr (zz_bool (by omega)) (fun t9 ht hW => zz_r (by rw [show i = v 8 from by omega]; rfl) ht) (fun q h => by cases h) d_Model_isGood_75
        · have c_34 : ¬ (((v 8 : Nat) : Int) ≤ ((i : Nat) : Int)) := fun q => c_34 ((zz_le (nI_toInt (by omega)) (nI_toInt (by omega))).mpr q)
          refine lv_iload_n hx hb d_Model_isGood_37 rfl (lv_at hl 1 rfl) ?_
          refine lv_if_eq (tgt := 66) hx hb d_Model_isGood_38 (by decide) (fun c_38 => ?_) (fun c_38 => ?_)
          · have c_38 : ((zgd (if v 5 ≤ j ∧ j + v 6 < v 3 then 1 else 0) (f 2) (f 3) j i : Nat) : Int) = (0 : Int) := (zz_eq (nI_toInt (by omega)) ((by decide))).mp c_38
            refine lv_iconst (v := nI (0)) hx hb d_Model_isGood_66 (by decide) ?_
            refine lv_istore_n (lv' := [(2, .int (nI (0))), (3, .int (nI (i))), (0, .ref (b 0)), (1, .int (nI (j)))]) hx hb d_Model_isGood_67 rfl hl (by decide) rfl (fun ls hl => ?_)
            refine lv_iinc (v := nI (i + 1)) (lv' := [(3, .int (nI (i + 1))), (2, .int (nI (0))), (0, .ref (b 0)), (1, .int (nI (j)))]) hx hb d_Model_isGood_68 hl (k := 1) rfl (zz_inc _) (by decide) rfl (fun ls hl => ?_)
            refine lv_goto (tgt := 29) hx hb d_Model_isGood_71 (by decide) ?_
            exact ih_loop (i + 1) (by omega) (by omega) ls (by rw [show zgd (if v 5 ≤ j ∧ j + v 6 < v 3 then 1 else 0) (f 2) (f 3) j (i + 1) = 0 from if_pos (by omega)]; exact lv_sub hl [0, 1, 2, 3] rfl)
          · have c_38 : ¬ (((zgd (if v 5 ≤ j ∧ j + v 6 < v 3 then 1 else 0) (f 2) (f 3) j i : Nat) : Int) = (0 : Int)) := fun q => c_38 ((zz_eq (nI_toInt (by omega)) ((by decide))).mpr q)
            have hb9 := jb i (by omega)
            refine lv_iload_n hx hb d_Model_isGood_41 rfl (lv_at hl 3 rfl) ?_
            refine lv_aload_n hx hb d_Model_isGood_42 rfl (lv_at hl 2 rfl) ?_
            refine va_get (D := (dC, dI)) (ci := 5) (v := .ref (b 3)) (C := "CutLengthsModel") (T := T_Model) (N := 24) hx hb hz i_Model hown hK hP 0 rfl rfl 11 (by decide) (hz _ tw_492) (fun _ h9 => h9) rfl d_Model_isGood_43 ?_
            refine lv_iload_n hx hb d_Model_isGood_46 rfl (lv_at hl 0 rfl) ?_
            refine zz_nald hx hb hK hP 3 0 (f := f 2) (i := i) rfl rfl (by omega) (by decide) d_Model_isGood_47 ?_
            refine lv_aload_n hx hb d_Model_isGood_48 rfl (lv_at hl 2 rfl) ?_
            refine va_get (D := (dC, dI)) (ci := 5) (v := .ref (b 4)) (C := "CutLengthsModel") (T := T_Model) (N := 24) hx hb hz i_Model hown hK hP 0 rfl rfl 12 (by decide) (hz _ tw_493) (fun _ h9 => h9) rfl d_Model_isGood_49 ?_
            refine lv_iload_n hx hb d_Model_isGood_52 rfl (lv_at hl 0 rfl) ?_
            refine zz_nald hx hb hK hP 4 0 (f := f 3) (i := i) rfl rfl (by omega) (by decide) d_Model_isGood_53 ?_
            refine lv_iconst (v := nI (1)) hx hb d_Model_isGood_54 (by decide) ?_
            refine lv_isub hx hb d_Model_isGood_55 ?_
            refine zz_ro (va_runS (As := [.int (nI (j)), .int (nI (f 2 i)), .int (nI (f 3 i) - nI (1))]) (rest := []) ⟨hx, hb, hml, hown, hz⟩ (c_Model_in l (nI (j)) (nI (f 2 i)) (nI (f 3 i) - nI (1)) (((j : Nat) : Int)) (((f 2 i : Nat) : Int)) (((f 3 i : Nat) : Int) - ((1 : Nat) : Int)) (nI_toInt (by omega)) (nI_toInt (by omega)) (pk_sub_toInt (by omega) (by omega))) (va_cwS 3 hz (zgS tw_563 tw_564 tw_20 tw_565) rfl rfl rfl (by decide +kernel) ⟨Nat.le_of_ble_eq_true rfl, Nat.le_of_ble_eq_true rfl⟩) ⟨fun _ _ _ _ q => q, fun U hU hW => ⟨rfl, trivial⟩⟩ rfl rfl hl.1 rfl (lv_room (Nat.le_of_ble_eq_true rfl)) d_Model_isGood_56 ⟨Nat.zero_le _, Nat.zero_le _⟩) ?_
            by_cases q_56 : (((f 2 i : Nat) : Int)) ≤ (((j : Nat) : Int)) ∧ (((j : Nat) : Int)) ≤ (((f 3 i : Nat) : Int) - ((1 : Nat) : Int))
            · refine zz_top (congrArg nI (if_pos q_56)) ?_
              refine lv_if_ne (tgt := 66) hx hb d_Model_isGood_59 (by decide) (fun _ => ?_) (fun c9 => absurd c9 (by decide))
              refine lv_iconst (v := nI (0)) hx hb d_Model_isGood_66 (by decide) ?_
              refine lv_istore_n (lv' := [(2, .int (nI (0))), (3, .int (nI (i))), (0, .ref (b 0)), (1, .int (nI (j)))]) hx hb d_Model_isGood_67 rfl hl (by decide) rfl (fun ls hl => ?_)
              refine lv_iinc (v := nI (i + 1)) (lv' := [(3, .int (nI (i + 1))), (2, .int (nI (0))), (0, .ref (b 0)), (1, .int (nI (j)))]) hx hb d_Model_isGood_68 hl (k := 1) rfl (zz_inc _) (by decide) rfl (fun ls hl => ?_)
              refine lv_goto (tgt := 29) hx hb d_Model_isGood_71 (by decide) ?_
              exact ih_loop (i + 1) (by omega) (by omega) ls (by rw [show zgd (if v 5 ≤ j ∧ j + v 6 < v 3 then 1 else 0) (f 2) (f 3) j (i + 1) = 0 from if_pos (by omega)]; exact lv_sub hl [0, 1, 2, 3] rfl)
            · refine zz_top (congrArg nI (if_neg q_56)) ?_
              refine lv_if_ne (tgt := 66) hx hb d_Model_isGood_59 (by decide) (fun c9 => absurd c9 (by decide)) (fun _ => ?_)
              refine lv_iconst (v := nI (1)) hx hb d_Model_isGood_62 (by decide) ?_
              refine lv_goto (tgt := 67) hx hb d_Model_isGood_63 (by decide) ?_
              refine lv_istore_n (lv' := [(2, .int (nI (1))), (3, .int (nI (i))), (0, .ref (b 0)), (1, .int (nI (j)))]) hx hb d_Model_isGood_67 rfl hl (by decide) rfl (fun ls hl => ?_)
              refine lv_iinc (v := nI (i + 1)) (lv' := [(3, .int (nI (i + 1))), (2, .int (nI (1))), (0, .ref (b 0)), (1, .int (nI (j)))]) hx hb d_Model_isGood_68 hl (k := 1) rfl (zz_inc _) (by decide) rfl (fun ls hl => ?_)
              refine lv_goto (tgt := 29) hx hb d_Model_isGood_71 (by decide) ?_
              exact ih_loop (i + 1) (by omega) (by omega) ls (by rw [show zgd (if v 5 ≤ j ∧ j + v 6 < v 3 then 1 else 0) (f 2) (f 3) j (i + 1) = 1 from if_neg (by omega)]; exact lv_sub hl [0, 1, 2, 3] rfl)
    exact loop (v 8 + 1) 0 (Nat.zero_le _) (by omega) ls (by rw [show zgd (if v 5 ≤ j ∧ j + v 6 < v 3 then 1 else 0) (f 2) (f 3) j 0 = 0 from if_neg (by omega)]; exact lv_sub hl [0, 1, 2, 3] rfl)
  · have c_5 : ¬ (((j : Nat) : Int) < ((v 5 : Nat) : Int)) := fun q => c_5 ((zz_lt (nI_toInt (by omega)) (nI_toInt (by omega))).mpr q)
    refine lv_iload_n hx hb d_Model_isGood_8 rfl (lv_at hl 1 rfl) ?_
    refine lv_aload_n hx hb d_Model_isGood_9 rfl (lv_at hl 0 rfl) ?_
    refine va_get (D := (dC, dI)) (ci := 5) (v := .int (nI (v 3))) (C := "CutLengthsModel") (T := T_Model) (N := 24) hx hb hz i_Model hown hK hP 0 rfl rfl 3 (by decide) (hz _ tw_484) (fun _ h9 => h9) rfl d_Model_isGood_10 ?_
    refine lv_aload_n hx hb d_Model_isGood_13 rfl (lv_at hl 0 rfl) ?_
    refine va_get (D := (dC, dI)) (ci := 5) (v := .int (nI (v 6))) (C := "CutLengthsModel") (T := T_Model) (N := 24) hx hb hz i_Model hown hK hP 0 rfl rfl 6 (by decide) (hz _ tw_487) (fun _ h9 => h9) rfl d_Model_isGood_14 ?_
    refine lv_isub hx hb d_Model_isGood_17 ?_
    refine lv_icmp_ge (tgt := 25) hx hb d_Model_isGood_18 (by decide) (fun c_18 => ?_) (fun c_18 => ?_)
    · have c_18 : ((v 3 : Nat) : Int) - ((v 6 : Nat) : Int) ≤ ((j : Nat) : Int) := (zz_le (pk_sub_toInt (by omega) (by omega)) (nI_toInt (by omega))).mp c_18
      refine lv_iconst (v := nI (0)) hx hb d_Model_isGood_25 (by decide) ?_
      refine lv_istore_n (lv' := [(2, .int (nI (0))), (0, .ref (b 0)), (1, .int (nI (j)))]) hx hb d_Model_isGood_26 rfl hl (by decide) rfl (fun ls hl => ?_)
      refine lv_iconst (v := nI (0)) hx hb d_Model_isGood_27 (by decide) ?_
      refine lv_istore_n (lv' := [(3, .int (nI (0))), (2, .int (nI (0))), (0, .ref (b 0)), (1, .int (nI (j)))]) hx hb d_Model_isGood_28 rfl hl (by decide) rfl (fun ls hl => ?_)
      have loop : ∀ (n : Nat) (i : Nat), (i ≤ v 8) → (v 8 < i + n) → ∀ ls : Array Slot, lv_has ls 4 [(3, .int (nI (i))), (2, .int (nI (zgd (if v 5 ≤ j ∧ j + v 6 < v 3 then 1 else 0) (f 2) (f 3) j i))), (0, .ref (b 0)), (1, .int (nI (j)))] → W p l e (headSpec (zw_Model_isGood :: zW) ({ frames := 1, cells := 0, slots := 0, locals := 22 })).room s m ([.ref (b 0), .int (nI (j))]).toArray below meth c s.heap [] 0 0 (MQ below (zr (nI (zMG v f j))) ([.ref (b 0), .int (nI (j))]).toArray s 0 0 (fun _ => False)) (F0 m 29 ls []) := by
        intro n
        induction n with
        | zero =>
          intro i hi hn
          exact absurd hn (by omega)
        | succ n ih_loop =>
          intro i hi hn ls hl
          have hz9 := zgd_le (g0 := (if v 5 ≤ j ∧ j + v 6 < v 3 then 1 else 0)) (fr := f 2) (to := f 3) (p := j) (by split <;> omega) i
          refine lv_iload_n hx hb d_Model_isGood_29 rfl (lv_at hl 0 rfl) ?_
          refine lv_aload_n hx hb d_Model_isGood_30 rfl (lv_at hl 2 rfl) ?_
          refine va_get (D := (dC, dI)) (ci := 5) (v := .int (nI (v 8))) (C := "CutLengthsModel") (T := T_Model) (N := 24) hx hb hz i_Model hown hK hP 0 rfl rfl 10 (by decide) (hz _ tw_491) (fun _ h9 => h9) rfl d_Model_isGood_31 ?_
          refine lv_icmp_ge (tgt := 74) hx hb d_Model_isGood_34 (by decide) (fun c_34 => ?_) (fun c_34 => ?_)
          · have c_34 : ((v 8 : Nat) : Int) ≤ ((i : Nat) : Int) := (zz_le (nI_toInt (by omega)) (nI_toInt (by omega))).mp c_34
            refine lv_iload_n hx hb d_Model_isGood_74 rfl (lv_at hl 1 rfl) ?_
            exact W.zret (v := nI (zgd (if v 5 ≤ j ∧ j + v 6 < v 3 then 1 else 0) (f 2) (f 3) j i)) hx hb hr (zz_bool (by omega)) (fun t9 ht hW => zz_r (by rw [show i = v 8 from by omega]; rfl) ht) (fun q h => by cases h) d_Model_isGood_75
          · have c_34 : ¬ (((v 8 : Nat) : Int) ≤ ((i : Nat) : Int)) := fun q => c_34 ((zz_le (nI_toInt (by omega)) (nI_toInt (by omega))).mpr q)
            refine lv_iload_n hx hb d_Model_isGood_37 rfl (lv_at hl 1 rfl) ?_
            refine lv_if_eq (tgt := 66) hx hb d_Model_isGood_38 (by decide) (fun c_38 => ?_) (fun c_38 => ?_)
            · have c_38 : ((zgd (if v 5 ≤ j ∧ j + v 6 < v 3 then 1 else 0) (f 2) (f 3) j i : Nat) : Int) = (0 : Int) := (zz_eq (nI_toInt (by omega)) ((by decide))).mp c_38
              refine lv_iconst (v := nI (0)) hx hb d_Model_isGood_66 (by decide) ?_
              refine lv_istore_n (lv' := [(2, .int (nI (0))), (3, .int (nI (i))), (0, .ref (b 0)), (1, .int (nI (j)))]) hx hb d_Model_isGood_67 rfl hl (by decide) rfl (fun ls hl => ?_)
              refine lv_iinc (v := nI (i + 1)) (lv' := [(3, .int (nI (i + 1))), (2, .int (nI (0))), (0, .ref (b 0)), (1, .int (nI (j)))]) hx hb d_Model_isGood_68 hl (k := 1) rfl (zz_inc _) (by decide) rfl (fun ls hl => ?_)
              refine lv_goto (tgt := 29) hx hb d_Model_isGood_71 (by decide) ?_
              exact ih_loop (i + 1) (by omega) (by omega) ls (by rw [show zgd (if v 5 ≤ j ∧ j + v 6 < v 3 then 1 else 0) (f 2) (f 3) j (i + 1) = 0 from if_pos (by omega)]; exact lv_sub hl [0, 1, 2, 3] rfl)
            · have c_38 : ¬ (((zgd (if v 5 ≤ j ∧ j + v 6 < v 3 then 1 else 0) (f 2) (f 3) j i : Nat) : Int) = (0 : Int)) := fun q => c_38 ((zz_eq (nI_toInt (by omega)) ((by decide))).mpr q)
              have hb9 := jb i (by omega)
              refine lv_iload_n hx hb d_Model_isGood_41 rfl (lv_at hl 3 rfl) ?_
              refine lv_aload_n hx hb d_Model_isGood_42 rfl (lv_at hl 2 rfl) ?_
              refine va_get (D := (dC, dI)) (ci := 5) (v := .ref (b 3)) (C := "CutLengthsModel") (T := T_Model) (N := 24) hx hb hz i_Model hown hK hP 0 rfl rfl 11 (by decide) (hz _ tw_492) (fun _ h9 => h9) rfl d_Model_isGood_43 ?_
              refine lv_iload_n hx hb d_Model_isGood_46 rfl (lv_at hl 0 rfl) ?_
              refine zz_nald hx hb hK hP 3 0 (f := f 2) (i := i) rfl rfl (by omega) (by decide) d_Model_isGood_47 ?_
              refine lv_aload_n hx hb d_Model_isGood_48 rfl (lv_at hl 2 rfl) ?_
              refine va_get (D := (dC, dI)) (ci := 5) (v := .ref (b 4)) (C := "CutLengthsModel") (T := T_Model) (N := 24) hx hb hz i_Model hown hK hP 0 rfl rfl 12 (by decide) (hz _ tw_493) (fun _ h9 => h9) rfl d_Model_isGood_49 ?_
              refine lv_iload_n hx hb d_Model_isGood_52 rfl (lv_at hl 0 rfl) ?_
              refine zz_nald hx hb hK hP 4 0 (f := f 3) (i := i) rfl rfl (by omega) (by decide) d_Model_isGood_53 ?_
              refine lv_iconst (v := nI (1)) hx hb d_Model_isGood_54 (by decide) ?_
              refine lv_isub hx hb d_Model_isGood_55 ?_
              refine zz_ro (va_runS (As := [.int (nI (j)), .int (nI (f 2 i)), .int (nI (f 3 i) - nI (1))]) (rest := []) ⟨hx, hb, hml, hown, hz⟩ (c_Model_in l (nI (j)) (nI (f 2 i)) (nI (f 3 i) - nI (1)) (((j : Nat) : Int)) (((f 2 i : Nat) : Int)) (((f 3 i : Nat) : Int) - ((1 : Nat) : Int)) (nI_toInt (by omega)) (nI_toInt (by omega)) (pk_sub_toInt (by omega) (by omega))) (va_cwS 3 hz (zgS tw_563 tw_564 tw_20 tw_565) rfl rfl rfl (by decide +kernel) ⟨Nat.le_of_ble_eq_true rfl, Nat.le_of_ble_eq_true rfl⟩) ⟨fun _ _ _ _ q => q, fun U hU hW => ⟨rfl, trivial⟩⟩ rfl rfl hl.1 rfl (lv_room (Nat.le_of_ble_eq_true rfl)) d_Model_isGood_56 ⟨Nat.zero_le _, Nat.zero_le _⟩) ?_
              by_cases q_56 : (((f 2 i : Nat) : Int)) ≤ (((j : Nat) : Int)) ∧ (((j : Nat) : Int)) ≤ (((f 3 i : Nat) : Int) - ((1 : Nat) : Int))
              · refine zz_top (congrArg nI (if_pos q_56)) ?_
                refine lv_if_ne (tgt := 66) hx hb d_Model_isGood_59 (by decide) (fun _ => ?_) (fun c9 => absurd c9 (by decide))
                refine lv_iconst (v := nI (0)) hx hb d_Model_isGood_66 (by decide) ?_
                refine lv_istore_n (lv' := [(2, .int (nI (0))), (3, .int (nI (i))), (0, .ref (b 0)), (1, .int (nI (j)))]) hx hb d_Model_isGood_67 rfl hl (by decide) rfl (fun ls hl => ?_)
                refine lv_iinc (v := nI (i + 1)) (lv' := [(3, .int (nI (i + 1))), (2, .int (nI (0))), (0, .ref (b 0)), (1, .int (nI (j)))]) hx hb d_Model_isGood_68 hl (k := 1) rfl (zz_inc _) (by decide) rfl (fun ls hl => ?_)
                refine lv_goto (tgt := 29) hx hb d_Model_isGood_71 (by decide) ?_
                exact ih_loop (i + 1) (by omega) (by omega) ls (by rw [show zgd (if v 5 ≤ j ∧ j + v 6 < v 3 then 1 else 0) (f 2) (f 3) j (i + 1) = 0 from if_pos (by omega)]; exact lv_sub hl [0, 1, 2, 3] rfl)
              · refine zz_top (congrArg nI (if_neg q_56)) ?_
                refine lv_if_ne (tgt := 66) hx hb d_Model_isGood_59 (by decide) (fun c9 => absurd c9 (by decide)) (fun _ => ?_)
                refine lv_iconst (v := nI (1)) hx hb d_Model_isGood_62 (by decide) ?_
                refine lv_goto (tgt := 67) hx hb d_Model_isGood_63 (by decide) ?_
                refine lv_istore_n (lv' := [(2, .int (nI (1))), (3, .int (nI (i))), (0, .ref (b 0)), (1, .int (nI (j)))]) hx hb d_Model_isGood_67 rfl hl (by decide) rfl (fun ls hl => ?_)
                refine lv_iinc (v := nI (i + 1)) (lv' := [(3, .int (nI (i + 1))), (2, .int (nI (1))), (0, .ref (b 0)), (1, .int (nI (j)))]) hx hb d_Model_isGood_68 hl (k := 1) rfl (zz_inc _) (by decide) rfl (fun ls hl => ?_)
                refine lv_goto (tgt := 29) hx hb d_Model_isGood_71 (by decide) ?_
                exact ih_loop (i + 1) (by omega) (by omega) ls (by rw [show zgd (if v 5 ≤ j ∧ j + v 6 < v 3 then 1 else 0) (f 2) (f 3) j (i + 1) = 1 from if_neg (by omega)]; exact lv_sub hl [0, 1, 2, 3] rfl)
      exact loop (v 8 + 1) 0 (Nat.zero_le _) (by omega) ls (by rw [show zgd (if v 5 ≤ j ∧ j + v 6 < v 3 then 1 else 0) (f 2) (f 3) j 0 = 0 from if_neg (by omega)]; exact lv_sub hl [0, 1, 2, 3] rfl)
    · have c_18 : ¬ (((v 3 : Nat) : Int) - ((v 6 : Nat) : Int) ≤ ((j : Nat) : Int)) := fun q => c_18 ((zz_le (pk_sub_toInt (by omega) (by omega)) (nI_toInt (by omega))).mpr q)
      refine lv_iconst (v := nI (1)) hx hb d_Model_isGood_21 (by decide) ?_
      refine lv_goto (tgt := 26) hx hb d_Model_isGood_22 (by decide) ?_
      refine lv_istore_n (lv' := [(2, .int (nI (1))), (0, .ref (b 0)), (1, .int (nI (j)))]) hx hb d_Model_isGood_26 rfl hl (by decide) rfl (fun ls hl => ?_)
      refine lv_iconst (v := nI (0)) hx hb d_Model_isGood_27 (by decide) ?_
      refine lv_istore_n (lv' := [(3, .int (nI (0))), (2, .int (nI (1))), (0, .ref (b 0)), (1, .int (nI (j)))]) hx hb d_Model_isGood_28 rfl hl (by decide) rfl (fun ls hl => ?_)
      have loop : ∀ (n : Nat) (i : Nat), (i ≤ v 8) → (v 8 < i + n) → ∀ ls : Array Slot, lv_has ls 4 [(3, .int (nI (i))), (2, .int (nI (zgd (if v 5 ≤ j ∧ j + v 6 < v 3 then 1 else 0) (f 2) (f 3) j i))), (0, .ref (b 0)), (1, .int (nI (j)))] → W p l e (headSpec (zw_Model_isGood :: zW) ({ frames := 1, cells := 0, slots := 0, locals := 22 })).room s m ([.ref (b 0), .int (nI (j))]).toArray below meth c s.heap [] 0 0 (MQ below (zr (nI (zMG v f j))) ([.ref (b 0), .int (nI (j))]).toArray s 0 0 (fun _ => False)) (F0 m 29 ls []) := by
        intro n
        induction n with
        | zero =>
          intro i hi hn
          exact absurd hn (by omega)
        | succ n ih_loop =>
          intro i hi hn ls hl
          have hz9 := zgd_le (g0 := (if v 5 ≤ j ∧ j + v 6 < v 3 then 1 else 0)) (fr := f 2) (to := f 3) (p := j) (by split <;> omega) i
          refine lv_iload_n hx hb d_Model_isGood_29 rfl (lv_at hl 0 rfl) ?_
          refine lv_aload_n hx hb d_Model_isGood_30 rfl (lv_at hl 2 rfl) ?_
          refine va_get (D := (dC, dI)) (ci := 5) (v := .int (nI (v 8))) (C := "CutLengthsModel") (T := T_Model) (N := 24) hx hb hz i_Model hown hK hP 0 rfl rfl 10 (by decide) (hz _ tw_491) (fun _ h9 => h9) rfl d_Model_isGood_31 ?_
          refine lv_icmp_ge (tgt := 74) hx hb d_Model_isGood_34 (by decide) (fun c_34 => ?_) (fun c_34 => ?_)
          · have c_34 : ((v 8 : Nat) : Int) ≤ ((i : Nat) : Int) := (zz_le (nI_toInt (by omega)) (nI_toInt (by omega))).mp c_34
            refine lv_iload_n hx hb d_Model_isGood_74 rfl (lv_at hl 1 rfl) ?_
            exact W.zret (v := nI (zgd (if v 5 ≤ j ∧ j + v 6 < v 3 then 1 else 0) (f 2) (f 3) j i)) hx hb hr (zz_bool (by omega)) (fun t9 ht hW => zz_r (by rw [show i = v 8 from by omega]; rfl) ht) (fun q h => by cases h) d_Model_isGood_75
          · have c_34 : ¬ (((v 8 : Nat) : Int) ≤ ((i : Nat) : Int)) := fun q => c_34 ((zz_le (nI_toInt (by omega)) (nI_toInt (by omega))).mpr q)
            refine lv_iload_n hx hb d_Model_isGood_37 rfl (lv_at hl 1 rfl) ?_
            refine lv_if_eq (tgt := 66) hx hb d_Model_isGood_38 (by decide) (fun c_38 => ?_) (fun c_38 => ?_)
            · have c_38 : ((zgd (if v 5 ≤ j ∧ j + v 6 < v 3 then 1 else 0) (f 2) (f 3) j i : Nat) : Int) = (0 : Int) := (zz_eq (nI_toInt (by omega)) ((by decide))).mp c_38
              refine lv_iconst (v := nI (0)) hx hb d_Model_isGood_66 (by decide) ?_
              refine lv_istore_n (lv' := [(2, .int (nI (0))), (3, .int (nI (i))), (0, .ref (b 0)), (1, .int (nI (j)))]) hx hb d_Model_isGood_67 rfl hl (by decide) rfl (fun ls hl => ?_)
              refine lv_iinc (v := nI (i + 1)) (lv' := [(3, .int (nI (i + 1))), (2, .int (nI (0))), (0, .ref (b 0)), (1, .int (nI (j)))]) hx hb d_Model_isGood_68 hl (k := 1) rfl (zz_inc _) (by decide) rfl (fun ls hl => ?_)
              refine lv_goto (tgt := 29) hx hb d_Model_isGood_71 (by decide) ?_
              exact ih_loop (i + 1) (by omega) (by omega) ls (by rw [show zgd (if v 5 ≤ j ∧ j + v 6 < v 3 then 1 else 0) (f 2) (f 3) j (i + 1) = 0 from if_pos (by omega)]; exact lv_sub hl [0, 1, 2, 3] rfl)
            · have c_38 : ¬ (((zgd (if v 5 ≤ j ∧ j + v 6 < v 3 then 1 else 0) (f 2) (f 3) j i : Nat) : Int) = (0 : Int)) := fun q => c_38 ((zz_eq (nI_toInt (by omega)) ((by decide))).mpr q)
              have hb9 := jb i (by omega)
              refine lv_iload_n hx hb d_Model_isGood_41 rfl (lv_at hl 3 rfl) ?_
              refine lv_aload_n hx hb d_Model_isGood_42 rfl (lv_at hl 2 rfl) ?_
              refine va_get (D := (dC, dI)) (ci := 5) (v := .ref (b 3)) (C := "CutLengthsModel") (T := T_Model) (N := 24) hx hb hz i_Model hown hK hP 0 rfl rfl 11 (by decide) (hz _ tw_492) (fun _ h9 => h9) rfl d_Model_isGood_43 ?_
              refine lv_iload_n hx hb d_Model_isGood_46 rfl (lv_at hl 0 rfl) ?_
              refine zz_nald hx hb hK hP 3 0 (f := f 2) (i := i) rfl rfl (by omega) (by decide) d_Model_isGood_47 ?_
              refine lv_aload_n hx hb d_Model_isGood_48 rfl (lv_at hl 2 rfl) ?_
              refine va_get (D := (dC, dI)) (ci := 5) (v := .ref (b 4)) (C := "CutLengthsModel") (T := T_Model) (N := 24) hx hb hz i_Model hown hK hP 0 rfl rfl 12 (by decide) (hz _ tw_493) (fun _ h9 => h9) rfl d_Model_isGood_49 ?_
              refine lv_iload_n hx hb d_Model_isGood_52 rfl (lv_at hl 0 rfl) ?_
              refine zz_nald hx hb hK hP 4 0 (f := f 3) (i := i) rfl rfl (by omega) (by decide) d_Model_isGood_53 ?_
              refine lv_iconst (v := nI (1)) hx hb d_Model_isGood_54 (by decide) ?_
              refine lv_isub hx hb d_Model_isGood_55 ?_
              refine zz_ro (va_runS (As := [.int (nI (j)), .int (nI (f 2 i)), .int (nI (f 3 i) - nI (1))]) (rest := []) ⟨hx, hb, hml, hown, hz⟩ (c_Model_in l (nI (j)) (nI (f 2 i)) (nI (f 3 i) - nI (1)) (((j : Nat) : Int)) (((f 2 i : Nat) : Int)) (((f 3 i : Nat) : Int) - ((1 : Nat) : Int)) (nI_toInt (by omega)) (nI_toInt (by omega)) (pk_sub_toInt (by omega) (by omega))) (va_cwS 3 hz (zgS tw_563 tw_564 tw_20 tw_565) rfl rfl rfl (by decide +kernel) ⟨Nat.le_of_ble_eq_true rfl, Nat.le_of_ble_eq_true rfl⟩) ⟨fun _ _ _ _ q => q, fun U hU hW => ⟨rfl, trivial⟩⟩ rfl rfl hl.1 rfl (lv_room (Nat.le_of_ble_eq_true rfl)) d_Model_isGood_56 ⟨Nat.zero_le _, Nat.zero_le _⟩) ?_
              by_cases q_56 : (((f 2 i : Nat) : Int)) ≤ (((j : Nat) : Int)) ∧ (((j : Nat) : Int)) ≤ (((f 3 i : Nat) : Int) - ((1 : Nat) : Int))
              · refine zz_top (congrArg nI (if_pos q_56)) ?_
                refine lv_if_ne (tgt := 66) hx hb d_Model_isGood_59 (by decide) (fun _ => ?_) (fun c9 => absurd c9 (by decide))
                refine lv_iconst (v := nI (0)) hx hb d_Model_isGood_66 (by decide) ?_
                refine lv_istore_n (lv' := [(2, .int (nI (0))), (3, .int (nI (i))), (0, .ref (b 0)), (1, .int (nI (j)))]) hx hb d_Model_isGood_67 rfl hl (by decide) rfl (fun ls hl => ?_)
                refine lv_iinc (v := nI (i + 1)) (lv' := [(3, .int (nI (i + 1))), (2, .int (nI (0))), (0, .ref (b 0)), (1, .int (nI (j)))]) hx hb d_Model_isGood_68 hl (k := 1) rfl (zz_inc _) (by decide) rfl (fun ls hl => ?_)
                refine lv_goto (tgt := 29) hx hb d_Model_isGood_71 (by decide) ?_
                exact ih_loop (i + 1) (by omega) (by omega) ls (by rw [show zgd (if v 5 ≤ j ∧ j + v 6 < v 3 then 1 else 0) (f 2) (f 3) j (i + 1) = 0 from if_pos (by omega)]; exact lv_sub hl [0, 1, 2, 3] rfl)
              · refine zz_top (congrArg nI (if_neg q_56)) ?_
                refine lv_if_ne (tgt := 66) hx hb d_Model_isGood_59 (by decide) (fun c9 => absurd c9 (by decide)) (fun _ => ?_)
                refine lv_iconst (v := nI (1)) hx hb d_Model_isGood_62 (by decide) ?_
                refine lv_goto (tgt := 67) hx hb d_Model_isGood_63 (by decide) ?_
                refine lv_istore_n (lv' := [(2, .int (nI (1))), (3, .int (nI (i))), (0, .ref (b 0)), (1, .int (nI (j)))]) hx hb d_Model_isGood_67 rfl hl (by decide) rfl (fun ls hl => ?_)
                refine lv_iinc (v := nI (i + 1)) (lv' := [(3, .int (nI (i + 1))), (2, .int (nI (1))), (0, .ref (b 0)), (1, .int (nI (j)))]) hx hb d_Model_isGood_68 hl (k := 1) rfl (zz_inc _) (by decide) rfl (fun ls hl => ?_)
                refine lv_goto (tgt := 29) hx hb d_Model_isGood_71 (by decide) ?_
                exact ih_loop (i + 1) (by omega) (by omega) ls (by rw [show zgd (if v 5 ≤ j ∧ j + v 6 < v 3 then 1 else 0) (f 2) (f 3) j (i + 1) = 1 from if_neg (by omega)]; exact lv_sub hl [0, 1, 2, 3] rfl)
      exact loop (v 8 + 1) 0 (Nat.zero_le _) (by omega) ls (by rw [show zgd (if v 5 ≤ j ∧ j + v 6 < v 3 then 1 else 0) (f 2) (f 3) j 0 = 1 from if_pos (by omega)]; exact lv_sub hl [0, 1, 2, 3] rfl)
set_option maxHeartbeats 4000000 in
set_option maxRecDepth 100000 in
theorem c_Model_isBarred (l : Launch) (dC : Nat → ClassId) (dI : Nat → Nat → Nat) (b : Nat → Nat) (cI : ClassId) (v : Nat → Nat) (f : Nat → Nat → Nat) (w : Nat → Nat → Int32) (j : Nat) (hj : j < 301) (hJ : zJ v f) : Met l y_Model_isBarred (zw_Model_isBarred :: zW) ({ frames := 1, cells := 0, slots := 0, locals := 22 }) (va_Pc [.ref (b 0), .int (nI (j))] (fun U => va_P (dC, dI) vwCl (wM b cI v f w) U.heap ∧ va_K (dC, dI) vwCl [(cI, .int)] U)) (zr (nI (zMB v f j))) 0 0 (fun _ => False) := by
  refine Met.ofW (cc := prog_7_method_15_code) (maxL := 4) (ret := (some .boolean)) (by decide) rfl ?_
  intro p e s m args below meth c s₁ B hml hv
  obtain ⟨rfl, hP, hK⟩ := hv
  have hx := B.exec
  have hb := B.bytes
  have hr := B.returns
  have hz : ∀ w ∈ zW, w.before ([.ref (b 0), .int (nI (j))]).toArray s = true := fun w h => atoms_spec (ws := (zw_Model_isBarred :: zW)) B.pre w (List.mem_cons_of_mem _ h)
  have hown : s.vm.findClass "CutLengthsModel" = some m.cls := findClass_of_methodNamed B.named
  have hlocks := B.notSynchronized
  obtain ⟨j3, j4, j5, j6, j7, j8, j9, j10, j1, j2, jw, jb, jr, jsl⟩ := id hJ
  have hl := lv_entry ([.ref (b 0), .int (nI (j))]) (n := 4) (Nat.le_of_ble_eq_true rfl)
  rw [lg_entry_eq]
  generalize (lg_sl ([.ref (b 0), .int (nI (j))]) ++ List.replicate (4 - (lg_sl ([.ref (b 0), .int (nI (j))])).length) Slot.unset).toArray = ls at hl ⊢
  have hl : lv_has ls 4 [(0, .ref (b 0)), (1, .int (nI (j)))] := hl
  refine lv_iconst (v := nI (0)) hx hb d_Model_isBarred_0 (by decide) ?_
  refine lv_istore_n (lv' := [(2, .int (nI (0))), (0, .ref (b 0)), (1, .int (nI (j)))]) hx hb d_Model_isBarred_1 rfl hl (by decide) rfl (fun ls hl => ?_)
  refine lv_iconst (v := nI (0)) hx hb d_Model_isBarred_2 (by decide) ?_
  refine lv_istore_n (lv' := [(3, .int (nI (0))), (2, .int (nI (0))), (0, .ref (b 0)), (1, .int (nI (j)))]) hx hb d_Model_isBarred_3 rfl hl (by decide) rfl (fun ls hl => ?_)
  have loop : ∀ (n : Nat) (i : Nat), (i ≤ v 9) → (v 9 < i + n) → ∀ ls : Array Slot, lv_has ls 4 [(3, .int (nI (i))), (2, .int (nI (zbar (f 4) (f 5) j i))), (0, .ref (b 0)), (1, .int (nI (j)))] → W p l e (headSpec (zw_Model_isBarred :: zW) ({ frames := 1, cells := 0, slots := 0, locals := 22 })).room s m ([.ref (b 0), .int (nI (j))]).toArray below meth c s.heap [] 0 0 (MQ below (zr (nI (zMB v f j))) ([.ref (b 0), .int (nI (j))]).toArray s 0 0 (fun _ => False)) (F0 m 4 ls []) := by
    intro n
    induction n with
    | zero =>
      intro i hi hn
      exact absurd hn (by omega)
    | succ n ih_loop =>
      intro i hi hn ls hl
      have hz9 := zbar_le (fr := f 4) (to := f 5) (p := j) i
      refine lv_iload_n hx hb d_Model_isBarred_4 rfl (lv_at hl 0 rfl) ?_
      refine lv_aload_n hx hb d_Model_isBarred_5 rfl (lv_at hl 2 rfl) ?_
      refine va_get (D := (dC, dI)) (ci := 5) (v := .int (nI (v 9))) (C := "CutLengthsModel") (T := T_Model) (N := 24) hx hb hz i_Model hown hK hP 0 rfl rfl 13 (by decide) (hz _ tw_494) (fun _ h9 => h9) rfl d_Model_isBarred_6 ?_
      refine lv_icmp_ge (tgt := 47) hx hb d_Model_isBarred_9 (by decide) (fun c_9 => ?_) (fun c_9 => ?_)
      · have c_9 : ((v 9 : Nat) : Int) ≤ ((i : Nat) : Int) := (zz_le (nI_toInt (by omega)) (nI_toInt (by omega))).mp c_9
        refine lv_iload_n hx hb d_Model_isBarred_47 rfl (lv_at hl 1 rfl) ?_
        exact W.zret (v := nI (zbar (f 4) (f 5) j i)) hx hb hr (zz_bool (by omega)) (fun t9 ht hW => zz_r (by rw [show i = v 9 from by omega]; rfl) ht) (fun q h => by cases h) d_Model_isBarred_48
      · have c_9 : ¬ (((v 9 : Nat) : Int) ≤ ((i : Nat) : Int)) := fun q => c_9 ((zz_le (nI_toInt (by omega)) (nI_toInt (by omega))).mpr q)
        refine lv_iload_n hx hb d_Model_isBarred_12 rfl (lv_at hl 1 rfl) ?_
        refine lv_if_ne (tgt := 35) hx hb d_Model_isBarred_13 (by decide) (fun c_13 => ?_) (fun c_13 => ?_)
        · have c_13 : ¬ (((zbar (f 4) (f 5) j i : Nat) : Int) = (0 : Int)) := fun q => c_13 ((zz_eq (nI_toInt (by omega)) ((by decide))).mpr q)
          refine lv_iconst (v := nI (1)) hx hb d_Model_isBarred_35 (by decide) ?_
          refine lv_goto (tgt := 40) hx hb d_Model_isBarred_36 (by decide) ?_
          refine lv_istore_n (lv' := [(2, .int (nI (1))), (3, .int (nI (i))), (0, .ref (b 0)), (1, .int (nI (j)))]) hx hb d_Model_isBarred_40 rfl hl (by decide) rfl (fun ls hl => ?_)
          refine lv_iinc (v := nI (i + 1)) (lv' := [(3, .int (nI (i + 1))), (2, .int (nI (1))), (0, .ref (b 0)), (1, .int (nI (j)))]) hx hb d_Model_isBarred_41 hl (k := 1) rfl (zz_inc _) (by decide) rfl (fun ls hl => ?_)
          refine lv_goto (tgt := 4) hx hb d_Model_isBarred_44 (by decide) ?_
          exact ih_loop (i + 1) (by omega) (by omega) ls (by rw [show zbar (f 4) (f 5) j (i + 1) = 1 from if_neg (by omega)]; exact lv_sub hl [0, 1, 2, 3] rfl)
        · have c_13 : ((zbar (f 4) (f 5) j i : Nat) : Int) = (0 : Int) := (zz_eq (nI_toInt (by omega)) ((by decide))).mp c_13
          have hb9 := jr i (by omega)
          refine lv_iload_n hx hb d_Model_isBarred_16 rfl (lv_at hl 3 rfl) ?_
          refine lv_aload_n hx hb d_Model_isBarred_17 rfl (lv_at hl 2 rfl) ?_
          refine va_get (D := (dC, dI)) (ci := 5) (v := .ref (b 5)) (C := "CutLengthsModel") (T := T_Model) (N := 24) hx hb hz i_Model hown hK hP 0 rfl rfl 14 (by decide) (hz _ tw_495) (fun _ h9 => h9) rfl d_Model_isBarred_18 ?_
          refine lv_iload_n hx hb d_Model_isBarred_21 rfl (lv_at hl 0 rfl) ?_
          refine zz_nald hx hb hK hP 5 0 (f := f 4) (i := i) rfl rfl (by omega) (by decide) d_Model_isBarred_22 ?_
          refine lv_aload_n hx hb d_Model_isBarred_23 rfl (lv_at hl 2 rfl) ?_
          refine va_get (D := (dC, dI)) (ci := 5) (v := .ref (b 6)) (C := "CutLengthsModel") (T := T_Model) (N := 24) hx hb hz i_Model hown hK hP 0 rfl rfl 15 (by decide) (hz _ tw_496) (fun _ h9 => h9) rfl d_Model_isBarred_24 ?_
          refine lv_iload_n hx hb d_Model_isBarred_27 rfl (lv_at hl 0 rfl) ?_
          refine zz_nald hx hb hK hP 6 0 (f := f 5) (i := i) rfl rfl (by omega) (by decide) d_Model_isBarred_28 ?_
          refine zz_ro (va_runS (As := [.int (nI (j)), .int (nI (f 4 i)), .int (nI (f 5 i))]) (rest := []) ⟨hx, hb, hml, hown, hz⟩ (c_Model_in l (nI (j)) (nI (f 4 i)) (nI (f 5 i)) (((j : Nat) : Int)) (((f 4 i : Nat) : Int)) (((f 5 i : Nat) : Int)) (nI_toInt (by omega)) (nI_toInt (by omega)) (nI_toInt (by omega))) (va_cwS 3 hz (zgS tw_563 tw_564 tw_20 tw_565) rfl rfl rfl (by decide +kernel) ⟨Nat.le_of_ble_eq_true rfl, Nat.le_of_ble_eq_true rfl⟩) ⟨fun _ _ _ _ q => q, fun U hU hW => ⟨rfl, trivial⟩⟩ rfl rfl hl.1 rfl (lv_room (Nat.le_of_ble_eq_true rfl)) d_Model_isBarred_29 ⟨Nat.zero_le _, Nat.zero_le _⟩) ?_
          by_cases q_29 : (((f 4 i : Nat) : Int)) ≤ (((j : Nat) : Int)) ∧ (((j : Nat) : Int)) ≤ (((f 5 i : Nat) : Int))
          · refine zz_top (congrArg nI (if_pos q_29)) ?_
            refine lv_if_eq (tgt := 39) hx hb d_Model_isBarred_32 (by decide) (fun c9 => absurd c9 (by decide)) (fun _ => ?_)
            refine lv_iconst (v := nI (1)) hx hb d_Model_isBarred_35 (by decide) ?_
            refine lv_goto (tgt := 40) hx hb d_Model_isBarred_36 (by decide) ?_
            refine lv_istore_n (lv' := [(2, .int (nI (1))), (3, .int (nI (i))), (0, .ref (b 0)), (1, .int (nI (j)))]) hx hb d_Model_isBarred_40 rfl hl (by decide) rfl (fun ls hl => ?_)
            refine lv_iinc (v := nI (i + 1)) (lv' := [(3, .int (nI (i + 1))), (2, .int (nI (1))), (0, .ref (b 0)), (1, .int (nI (j)))]) hx hb d_Model_isBarred_41 hl (k := 1) rfl (zz_inc _) (by decide) rfl (fun ls hl => ?_)
            refine lv_goto (tgt := 4) hx hb d_Model_isBarred_44 (by decide) ?_
            exact ih_loop (i + 1) (by omega) (by omega) ls (by rw [show zbar (f 4) (f 5) j (i + 1) = 1 from if_neg (by omega)]; exact lv_sub hl [0, 1, 2, 3] rfl)
          · refine zz_top (congrArg nI (if_neg q_29)) ?_
            refine lv_if_eq (tgt := 39) hx hb d_Model_isBarred_32 (by decide) (fun _ => ?_) (fun c9 => absurd c9 (by decide))
            refine lv_iconst (v := nI (0)) hx hb d_Model_isBarred_39 (by decide) ?_
            refine lv_istore_n (lv' := [(2, .int (nI (0))), (3, .int (nI (i))), (0, .ref (b 0)), (1, .int (nI (j)))]) hx hb d_Model_isBarred_40 rfl hl (by decide) rfl (fun ls hl => ?_)
            refine lv_iinc (v := nI (i + 1)) (lv' := [(3, .int (nI (i + 1))), (2, .int (nI (0))), (0, .ref (b 0)), (1, .int (nI (j)))]) hx hb d_Model_isBarred_41 hl (k := 1) rfl (zz_inc _) (by decide) rfl (fun ls hl => ?_)
            refine lv_goto (tgt := 4) hx hb d_Model_isBarred_44 (by decide) ?_
            exact ih_loop (i + 1) (by omega) (by omega) ls (by rw [show zbar (f 4) (f 5) j (i + 1) = 0 from if_pos (by omega)]; exact lv_sub hl [0, 1, 2, 3] rfl)
  exact loop (v 9 + 1) 0 (Nat.zero_le _) (by omega) ls (lv_sub hl [0, 1, 2, 3] rfl)
set_option maxHeartbeats 4000000 in
set_option maxRecDepth 100000 in
theorem c_Model_endOf (l : Launch) (dC : Nat → ClassId) (dI : Nat → Nat → Nat) (b : Nat → Nat) (cI : ClassId) (v : Nat → Nat) (f : Nat → Nat → Nat) (w : Nat → Nat → Int32) (j : Nat) (hj : j < v 3) (j3 : v 3 ≤ 300) : Met l y_Model_endOf (zw_Model_endOf :: zW) ({ frames := 0, cells := 0, slots := 0, locals := 0 }) (va_Pc [.ref (b 0), .int (nI (j))] (fun U => va_P (dC, dI) vwCl (wM b cI v f w) U.heap ∧ va_K (dC, dI) vwCl [(cI, .int)] U)) (zr (nI (zend (w 1) (f 9) (v 3) j))) 0 0 (fun _ => False) := by
  refine Met.ofW (cc := prog_7_method_19_code) (maxL := 3) (ret := (some .int)) (by decide) rfl ?_
  intro p e s m args below meth c s₁ B hml hv
  obtain ⟨rfl, hP, hK⟩ := hv
  have hx := B.exec
  have hb := B.bytes
  have hr := B.returns
  have hz : ∀ w ∈ zW, w.before ([.ref (b 0), .int (nI (j))]).toArray s = true := fun w h => atoms_spec (ws := (zw_Model_endOf :: zW)) B.pre w (List.mem_cons_of_mem _ h)
  have hown : s.vm.findClass "CutLengthsModel" = some m.cls := findClass_of_methodNamed B.named
  have hlocks := B.notSynchronized
  have hl := lv_entry ([.ref (b 0), .int (nI (j))]) (n := 3) (Nat.le_of_ble_eq_true rfl)
  rw [lg_entry_eq]
  generalize (lg_sl ([.ref (b 0), .int (nI (j))]) ++ List.replicate (3 - (lg_sl ([.ref (b 0), .int (nI (j))])).length) Slot.unset).toArray = ls at hl ⊢
  have hl : lv_has ls 3 [(0, .ref (b 0)), (1, .int (nI (j)))] := hl
  refine lv_aload_n hx hb d_Model_endOf_0 rfl (lv_at hl 0 rfl) ?_
  refine va_get (D := (dC, dI)) (ci := 5) (v := .ref (b 11)) (C := "CutLengthsModel") (T := T_Model) (N := 24) hx hb hz i_Model hown hK hP 0 rfl rfl 21 (by decide) (hz _ tw_502) (fun _ h9 => h9) rfl d_Model_endOf_1 ?_
  refine lv_iload_n hx hb d_Model_endOf_4 rfl (lv_at hl 1 rfl) ?_
  refine zz_iald hx hb hK hP 11 0 (f := w 1) (i := j) rfl rfl (by omega) (by decide) d_Model_endOf_5 ?_
  refine lv_iconst (v := -1) hx hb d_Model_endOf_6 (by decide) ?_
  refine lv_icmp_eq (tgt := 19) hx hb d_Model_endOf_7 (by decide) (fun c_7 => ?_) (fun c_7 => ?_)
  · have c_7 : w 1 j = -1 := c_7
    refine lv_iload_n hx hb d_Model_endOf_19 rfl (lv_at hl 1 rfl) ?_
    refine lv_istore_n (lv' := [(2, .int (nI (j))), (0, .ref (b 0)), (1, .int (nI (j)))]) hx hb d_Model_endOf_20 rfl hl (by decide) rfl (fun ls hl => ?_)
    have loop : ∀ (n : Nat) (q : Nat), (q ≤ v 3) → (zscan (w 1) (v 3) q = zscan (w 1) (v 3) j) → (v 3 < q + n) → ∀ ls : Array Slot, lv_has ls 3 [(2, .int (nI (q))), (0, .ref (b 0)), (1, .int (nI (j)))] → W p l e (headSpec (zw_Model_endOf :: zW) ({ frames := 0, cells := 0, slots := 0, locals := 0 })).room s m ([.ref (b 0), .int (nI (j))]).toArray below meth c s.heap [] 0 0 (MQ below (zr (nI (zend (w 1) (f 9) (v 3) j))) ([.ref (b 0), .int (nI (j))]).toArray s 0 0 (fun _ => False)) (F0 m 21 ls []) := by
      intro n
      induction n with
      | zero =>
        intro q hq1 hq2 hn
        exact absurd hn (by omega)
      | succ n ih_loop =>
        intro q hq1 hq2 hn ls hl
        refine lv_iload_n hx hb d_Model_endOf_21 rfl (lv_at hl 0 rfl) ?_
        refine lv_aload_n hx hb d_Model_endOf_22 rfl (lv_at hl 1 rfl) ?_
        refine va_get (D := (dC, dI)) (ci := 5) (v := .int (nI (v 3))) (C := "CutLengthsModel") (T := T_Model) (N := 24) hx hb hz i_Model hown hK hP 0 rfl rfl 3 (by decide) (hz _ tw_484) (fun _ h9 => h9) rfl d_Model_endOf_23 ?_
        refine lv_icmp_ge (tgt := 45) hx hb d_Model_endOf_26 (by decide) (fun c_26 => ?_) (fun c_26 => ?_)
        · have c_26 : ((v 3 : Nat) : Int) ≤ ((q : Nat) : Int) := (zz_le (nI_toInt (by omega)) (nI_toInt (by omega))).mp c_26
          refine lv_iload_n hx hb d_Model_endOf_45 rfl (lv_at hl 0 rfl) ?_
          exact W.iret (v := nI (q)) hx hb hr (fun t9 ht hW => zz_r (by unfold zend; rw [if_pos c_7, ← hq2]; first | rw [zscan_s (show q < v 3 from by omega), if_neg c_36] | rw [show q = v 3 from by omega, zscan_n]) ht) (fun q h => by cases h) d_Model_endOf_46
        · have c_26 : ¬ (((v 3 : Nat) : Int) ≤ ((q : Nat) : Int)) := fun q => c_26 ((zz_le (nI_toInt (by omega)) (nI_toInt (by omega))).mpr q)
          refine lv_aload_n hx hb d_Model_endOf_29 rfl (lv_at hl 1 rfl) ?_
          refine va_get (D := (dC, dI)) (ci := 5) (v := .ref (b 11)) (C := "CutLengthsModel") (T := T_Model) (N := 24) hx hb hz i_Model hown hK hP 0 rfl rfl 21 (by decide) (hz _ tw_502) (fun _ h9 => h9) rfl d_Model_endOf_30 ?_
          refine lv_iload_n hx hb d_Model_endOf_33 rfl (lv_at hl 0 rfl) ?_
          refine zz_iald hx hb hK hP 11 0 (f := w 1) (i := q) rfl rfl (by omega) (by decide) d_Model_endOf_34 ?_
          refine lv_iconst (v := -1) hx hb d_Model_endOf_35 (by decide) ?_
          refine lv_icmp_ne (tgt := 45) hx hb d_Model_endOf_36 (by decide) (fun c_36 => ?_) (fun c_36 => ?_)
          · have c_36 : ¬ (w 1 q = -1) := c_36
            refine lv_iload_n hx hb d_Model_endOf_45 rfl (lv_at hl 0 rfl) ?_
            exact W.iret (v := nI (q)) hx hb hr (fun t9 ht hW => zz_r (by unfold zend; rw [if_pos c_7, ← hq2]; first | rw [zscan_s (show q < v 3 from by omega), if_neg c_36] | rw [show q = v 3 from by omega, zscan_n]) ht) (fun q h => by cases h) d_Model_endOf_46
          · have c_36 : w 1 q = -1 := c_36
            refine lv_iinc (v := nI (q + 1)) (lv' := [(2, .int (nI (q + 1))), (0, .ref (b 0)), (1, .int (nI (j)))]) hx hb d_Model_endOf_39 hl (k := 0) rfl (zz_inc _) (by decide) rfl (fun ls hl => ?_)
            refine lv_goto (tgt := 21) hx hb d_Model_endOf_42 (by decide) ?_
            exact ih_loop (q + 1) (by omega) (by rw [← hq2, zscan_s (show q < v 3 from by omega), if_pos c_36]) (by omega) ls (lv_sub hl [0, 1, 2] rfl)
    exact loop (v 3 + 1) j (by omega) rfl (by omega) ls (lv_sub hl [0, 1, 2] rfl)
  · have c_7 : ¬ (w 1 j = -1) := c_7
    refine lv_iload_n hx hb d_Model_endOf_10 rfl (lv_at hl 1 rfl) ?_
    refine lv_aload_n hx hb d_Model_endOf_11 rfl (lv_at hl 0 rfl) ?_
    refine va_get (D := (dC, dI)) (ci := 5) (v := .ref (b 12)) (C := "CutLengthsModel") (T := T_Model) (N := 24) hx hb hz i_Model hown hK hP 0 rfl rfl 22 (by decide) (hz _ tw_503) (fun _ h9 => h9) rfl d_Model_endOf_12 ?_
    refine lv_iload_n hx hb d_Model_endOf_15 rfl (lv_at hl 1 rfl) ?_
    refine zz_nald hx hb hK hP 12 0 (f := f 9) (i := j) rfl rfl (by omega) (by decide) d_Model_endOf_16 ?_
    refine lv_iadd hx hb d_Model_endOf_17 ?_
    refine zz_top (nI_add (j) (f 9 j)) ?_
    exact W.iret (v := nI (j + (f 9 j))) hx hb hr (fun t9 ht hW => zz_r (by unfold zend; rw [if_neg c_7]) ht) (fun q h => by cases h) d_Model_endOf_18
