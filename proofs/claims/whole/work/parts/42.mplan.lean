/-! THE REFERENCE: look, plan, loss, part, cut (rows written by wip/whole/mk_model.py) -/
set_option maxHeartbeats 4000000 in
set_option maxRecDepth 100000 in
theorem c_Model_look (l : Launch) (dC : Nat → ClassId) (dI : Nat → Nat → Nat) (b : Nat → Nat) (cI : ClassId) (v : Nat → Nat) (f : Nat → Nat → Nat) (w : Nat → Nat → Int32) (sz : Nat) (j r : Nat) (hj : j < v 3) (hr0 : j + r ≤ v 3) (hJ : zJ v f) (hg : f 10 j = r) (hL : ∀ q, j + 1 ≤ q → q ≤ v 3 → f 8 q ≤ 299) : Met l y_Model_look (zw_Model_look :: zW) ({ frames := 2, cells := 0, slots := 0, locals := 45 }) (va_Pc [.ref (b 0), .int (nI (j))] (fun U => U.heap.size = sz ∧ va_P (dC, dI) vwCl (wM b cI v f w) U.heap ∧ va_K (dC, dI) vwCl [(cI, .int)] U ∧ va_D (fun _ => True) (wM b cI v f w))) (va_Qv (fun (u : Nat × Int32 × Nat) => zB (zcand (v 3) (v 4) (v 7) (f 0) (f 1) (zMB v f) r j) (f 8) j (f 8 (j + 1) + 1) 1 u.1 u.2.1 u.2.2) (fun (u : Nat × Int32 × Nat) t => match u with | (x, y, z) => va_P (dC, dI) vwCl (wM b cI v (zu (zu f 8 (va_up (f 8) j x)) 9 (va_up (f 9) j z)) (zu w 1 (va_up (w 1) j y))) t.heap ∧ va_K (dC, dI) vwCl [(cI, .int)] t ∧ va_D (va_A (wM b cI v f w) sz) (wM b cI v (zu (zu f 8 (va_up (f 8) j x)) 9 (va_up (f 9) j z)) (zu w 1 (va_up (w 1) j y)))) (va_A (wM b cI v f w) sz)) 0 0 (va_A (wM b cI v f w) sz) := by
  refine Met.ofW (cc := prog_7_method_16_code) (maxL := 6) (ret := none) (by decide) rfl ?_
  intro p e s m args below meth c s₁ B hml hv
  obtain ⟨rfl, hsz, hP, hK, hD0⟩ := hv
  have hx := B.exec
  have hb := B.bytes
  have hr := B.returns
  have hz : ∀ w ∈ zW, w.before ([.ref (b 0), .int (nI (j))]).toArray s = true := fun w h => atoms_spec (ws := (zw_Model_look :: zW)) B.pre w (List.mem_cons_of_mem _ h)
  have hown : s.vm.findClass "CutLengthsModel" = some m.cls := findClass_of_methodNamed B.named
  have hlocks := B.notSynchronized
  subst hsz
  have hD := hD0.self (sz := s.heap.size)
  generalize hAe : va_A (wM b cI v f w) s.heap.size = A at hD ⊢
  have hA : ∀ q : Nat, s.heap.size ≤ q → A q := fun q h => by rw [← hAe]; exact Or.inr h
  have hS : va_S A s.heap s.heap [] := va_S.rf
  have hP : va_P (dC, dI) vwCl (wM b cI v f w) s.heap := hP
  obtain ⟨j3, j4, j5, j6, j7, j8, j9, j10, j1, j2, jw, jb, jr, jsl⟩ := id hJ
  have hl := lv_entry ([.ref (b 0), .int (nI (j))]) (n := 6) (Nat.le_of_ble_eq_true rfl)
  rw [lg_entry_eq]
  generalize (lg_sl ([.ref (b 0), .int (nI (j))]) ++ List.replicate (6 - (lg_sl ([.ref (b 0), .int (nI (j))])).length) Slot.unset).toArray = ls at hl ⊢
  have hl : lv_has ls 6 [(0, .ref (b 0)), (1, .int (nI (j)))] := hl
  refine lv_aload_n hx hb d_Model_look_0 rfl (lv_at hl 0 rfl) ?_
  refine va_get (D := (dC, dI)) (ci := 5) (v := .ref (b 10)) (C := "CutLengthsModel") (T := T_Model) (N := 24) hx hb hz i_Model hown hK hP 0 rfl rfl 20 (by decide) (hz _ tw_501) (fun _ h9 => h9) rfl d_Model_look_1 ?_
  refine lv_iload_n hx hb d_Model_look_4 rfl (lv_at hl 1 rfl) ?_
  refine lv_aload_n hx hb d_Model_look_5 rfl (lv_at hl 0 rfl) ?_
  refine va_get (D := (dC, dI)) (ci := 5) (v := .ref (b 10)) (C := "CutLengthsModel") (T := T_Model) (N := 24) hx hb hz i_Model hown hK hP 0 rfl rfl 20 (by decide) (hz _ tw_501) (fun _ h9 => h9) rfl d_Model_look_6 ?_
  refine lv_iload_n hx hb d_Model_look_9 rfl (lv_at hl 1 rfl) ?_
  refine lv_iconst (v := nI (1)) hx hb d_Model_look_10 (by decide) ?_
  refine lv_iadd hx hb d_Model_look_11 ?_
  refine zz_top (nI_add (j) (1)) ?_
  refine zz_nald hx hb hK hP 10 0 (f := f 8) (i := j + 1) rfl rfl (by omega) (by decide) d_Model_look_12 ?_
  refine lv_iconst (v := nI (1)) hx hb d_Model_look_13 (by decide) ?_
  refine lv_iadd hx hb d_Model_look_14 ?_
  refine zz_top (nI_add (f 8 (j + 1)) (1)) ?_
  refine zz_nast hx hb hK hP hD hS 10 0 (f := f 8) (i := j) (x := (f 8 (j + 1)) + 1) rfl rfl (by omega) (by decide) d_Model_look_15 (fun H locs hP hD hS => ?_)
  have hP : va_P (dC, dI) vwCl (wM b cI v (zu f 8 (va_up (f 8) j ((f 8 (j + 1)) + 1))) w) H := hP
  have hD : va_D A (wM b cI v (zu f 8 (va_up (f 8) j ((f 8 (j + 1)) + 1))) w) := hD
  refine lv_aload_n hx hb d_Model_look_16 rfl (lv_at hl 0 rfl) ?_
  refine va_get (D := (dC, dI)) (ci := 5) (v := .ref (b 11)) (C := "CutLengthsModel") (T := T_Model) (N := 24) hx hb hz i_Model hown hK hP 0 rfl rfl 21 (by decide) (hz _ tw_502) (fun _ h9 => h9) rfl d_Model_look_17 ?_
  refine lv_iload_n hx hb d_Model_look_20 rfl (lv_at hl 1 rfl) ?_
  refine lv_iconst (v := -1) hx hb d_Model_look_21 (by decide) ?_
  refine zz_iast hx hb hK hP hD hS 11 0 (f := w 1) (i := j) (x := -1) rfl rfl (by omega) (by decide) d_Model_look_22 (fun H locs hP hD hS => ?_)
  have hP : va_P (dC, dI) vwCl (wM b cI v (zu f 8 (va_up (f 8) j ((f 8 (j + 1)) + 1))) (zu w 1 (va_up (w 1) j (-1)))) H := hP
  have hD : va_D A (wM b cI v (zu f 8 (va_up (f 8) j ((f 8 (j + 1)) + 1))) (zu w 1 (va_up (w 1) j (-1)))) := hD
  refine lv_aload_n hx hb d_Model_look_23 rfl (lv_at hl 0 rfl) ?_
  refine va_get (D := (dC, dI)) (ci := 5) (v := .ref (b 12)) (C := "CutLengthsModel") (T := T_Model) (N := 24) hx hb hz i_Model hown hK hP 0 rfl rfl 22 (by decide) (hz _ tw_503) (fun _ h9 => h9) rfl d_Model_look_24 ?_
  refine lv_iload_n hx hb d_Model_look_27 rfl (lv_at hl 1 rfl) ?_
  refine lv_iconst (v := nI (1)) hx hb d_Model_look_28 (by decide) ?_
  refine zz_nast hx hb hK hP hD hS 12 0 (f := f 9) (i := j) (x := 1) rfl rfl (by omega) (by decide) d_Model_look_29 (fun H locs hP hD hS => ?_)
  have hP : va_P (dC, dI) vwCl (wM b cI v (zu (zu f 8 (va_up (f 8) j ((f 8 (j + 1)) + 1))) 9 (va_up (f 9) j 1)) (zu w 1 (va_up (w 1) j (-1)))) H := hP
  have hD : va_D A (wM b cI v (zu (zu f 8 (va_up (f 8) j ((f 8 (j + 1)) + 1))) 9 (va_up (f 9) j 1)) (zu w 1 (va_up (w 1) j (-1)))) := hD
  have hj9 := hL (j + 1) (Nat.le_refl _) (by omega)
  have hmb := zbar_le (fr := f 4) (to := f 5) (p := j) (v 9)
  refine lv_iload_n hx hb d_Model_look_30 rfl (lv_at hl 1 rfl) ?_
  refine lv_aload_n hx hb d_Model_look_31 rfl (lv_at hl 0 rfl) ?_
  refine va_get (D := (dC, dI)) (ci := 5) (v := .int (nI (v 4))) (C := "CutLengthsModel") (T := T_Model) (N := 24) hx hb hz i_Model hown hK hP 0 rfl rfl 4 (by decide) (hz _ tw_485) (fun _ h9 => h9) rfl d_Model_look_32 ?_
  refine lv_icmp_eq (tgt := 47) hx hb d_Model_look_35 (by decide) (fun c_35 => ?_) (fun c_35 => ?_)
  · have c_35 : ((j : Nat) : Int) = ((v 4 : Nat) : Int) := (zz_eq (nI_toInt (by omega)) (nI_toInt (by omega))).mp c_35
    refine lv_aload_n hx hb d_Model_look_47 rfl (lv_at hl 0 rfl) ?_
    refine va_get (D := (dC, dI)) (ci := 5) (v := .int (nI (v 7))) (C := "CutLengthsModel") (T := T_Model) (N := 24) hx hb hz i_Model hown hK hP 0 rfl rfl 7 (by decide) (hz _ tw_488) (fun _ h9 => h9) rfl d_Model_look_48 ?_
    refine lv_iconst (v := nI (1)) hx hb d_Model_look_51 (by decide) ?_
    refine lv_isub hx hb d_Model_look_52 ?_
    refine lv_istore_n (lv' := [(2, .int (nI (v 7) - nI (1))), (0, .ref (b 0)), (1, .int (nI (j)))]) hx hb d_Model_look_53 rfl hl (by decide) rfl (fun ls hl => ?_)
    have hmay : j = v 4 ∨ zMB v f j = 0 := by omega
    have loop : ∀ (n : Nat) (k xa : Nat) (xf : Int32) (xs : Nat), (k ≤ v 7) → (zB (fun w l => zcand (v 3) (v 4) (v 7) (f 0) (f 1) (zMB v f) r j w l ∧ k ≤ w) (f 8) j (f 8 (j + 1) + 1) 1 xa xf xs) → (k < n) → ∀ (H : Heap) (locs : List Loc), va_P (dC, dI) vwCl (wM b cI v (zu (zu f 8 (va_up (f 8) j xa)) 9 (va_up (f 9) j xs)) (zu w 1 (va_up (w 1) j xf))) H → va_D A (wM b cI v (zu (zu f 8 (va_up (f 8) j xa)) 9 (va_up (f 9) j xs)) (zu w 1 (va_up (w 1) j xf))) → va_S A s.heap H locs → ∀ ls : Array Slot, lv_has ls 6 [(2, .int (nI k - nI 1)), (0, .ref (b 0)), (1, .int (nI (j)))] → W p l e (headSpec (zw_Model_look :: zW) ({ frames := 2, cells := 0, slots := 0, locals := 45 })).room s m ([.ref (b 0), .int (nI (j))]).toArray below meth c H locs 0 0 (MQ below (va_Qv (fun (u : Nat × Int32 × Nat) => zB (zcand (v 3) (v 4) (v 7) (f 0) (f 1) (zMB v f) r j) (f 8) j (f 8 (j + 1) + 1) 1 u.1 u.2.1 u.2.2) (fun (u : Nat × Int32 × Nat) t => match u with | (x, y, z) => va_P (dC, dI) vwCl (wM b cI v (zu (zu f 8 (va_up (f 8) j x)) 9 (va_up (f 9) j z)) (zu w 1 (va_up (w 1) j y))) t.heap ∧ va_K (dC, dI) vwCl [(cI, .int)] t ∧ va_D A (wM b cI v (zu (zu f 8 (va_up (f 8) j x)) 9 (va_up (f 9) j z)) (zu w 1 (va_up (w 1) j y)))) A) ([.ref (b 0), .int (nI (j))]).toArray s 0 0 A) (F0 m 54 ls []) := by
      intro n
      induction n with
      | zero =>
        intro k xa xf xs hk1 hb1 hn1
        exact absurd hn1 (by omega)
      | succ n ih_loop =>
        intro k xa xf xs hk1 hb1 hn1 H locs hP hD hS ls hl
        refine lv_iload_n hx hb d_Model_look_54 rfl (lv_at hl 0 rfl) ?_
        refine lv_if_lt (tgt := 175) hx hb d_Model_look_55 (by decide) (fun c_55 => ?_) (fun c_55 => ?_)
        · have c_55 : ((k : Nat) : Int) - ((1 : Nat) : Int) < (0 : Int) := (zz_lt (pk_sub_toInt (by omega) (by omega)) ((by decide))).mp c_55
          exact W.vret hx hb hr (fun t9 ht hW => ⟨⟨(xa, xf, xs), rfl, (zfullM (by rw [show k = 0 from by omega] at hb1; exact hb1)), by rw [ht]; exact hP, va_K.moved hW.alike hK, hD⟩, hS.F ht⟩) hS.2.2 d_Model_look_175
        · have c_55 : ¬ (((k : Nat) : Int) - ((1 : Nat) : Int) < (0 : Int)) := fun q => c_55 ((zz_lt (pk_sub_toInt (by omega) (by omega)) ((by decide))).mpr q)
          obtain ⟨x, rfl⟩ : ∃ x, k = x + 1 := ⟨k - 1, by omega⟩
          rw [show nI (x + 1) - nI 1 = nI x from nI_pred x] at hl
          have hl : lv_has ls 6 [(2, .int (nI (x))), (0, .ref (b 0)), (1, .int (nI (j)))] := hl
          have hw9 := jw x (by omega)
          refine lv_aload_n hx hb d_Model_look_58 rfl (lv_at hl 1 rfl) ?_
          refine va_get (D := (dC, dI)) (ci := 5) (v := .ref (b 1)) (C := "CutLengthsModel") (T := T_Model) (N := 24) hx hb hz i_Model hown hK hP 0 rfl rfl 8 (by decide) (hz _ tw_489) (fun _ h9 => h9) rfl d_Model_look_59 ?_
          refine lv_iload_n hx hb d_Model_look_62 rfl (lv_at hl 0 rfl) ?_
          refine zz_nald hx hb hK hP 1 0 (f := f 0) (i := x) rfl rfl (by omega) (by decide) d_Model_look_63 ?_
          refine lv_istore_n (lv' := [(3, .int (nI (f 0 x))), (2, .int (nI (x))), (0, .ref (b 0)), (1, .int (nI (j)))]) hx hb d_Model_look_64 rfl hl (by decide) rfl (fun ls hl => ?_)
          have loop2 : ∀ (n : Nat) (l0 ya : Nat) (yf : Int32) (ys : Nat), (zB (zQa (zcand (v 3) (v 4) (v 7) (f 0) (f 1) (zMB v f) r j) x l0) (f 8) j (f 8 (j + 1) + 1) 1 ya yf ys) → (f 0 x ≤ l0) → (l0 ≤ f 1 x + 1) → (f 1 x + 1 < l0 + n) → ∀ (H : Heap) (locs : List Loc), va_P (dC, dI) vwCl (wM b cI v (zu (zu f 8 (va_up (f 8) j ya)) 9 (va_up (f 9) j ys)) (zu w 1 (va_up (w 1) j yf))) H → va_D A (wM b cI v (zu (zu f 8 (va_up (f 8) j ya)) 9 (va_up (f 9) j ys)) (zu w 1 (va_up (w 1) j yf))) → va_S A s.heap H locs → ∀ ls : Array Slot, lv_has ls 6 [(3, .int (nI (l0))), (2, .int (nI (x))), (0, .ref (b 0)), (1, .int (nI (j)))] → W p l e (headSpec (zw_Model_look :: zW) ({ frames := 2, cells := 0, slots := 0, locals := 45 })).room s m ([.ref (b 0), .int (nI (j))]).toArray below meth c H locs 0 0 (MQ below (va_Qv (fun (u : Nat × Int32 × Nat) => zB (zcand (v 3) (v 4) (v 7) (f 0) (f 1) (zMB v f) r j) (f 8) j (f 8 (j + 1) + 1) 1 u.1 u.2.1 u.2.2) (fun (u : Nat × Int32 × Nat) t => match u with | (x, y, z) => va_P (dC, dI) vwCl (wM b cI v (zu (zu f 8 (va_up (f 8) j x)) 9 (va_up (f 9) j z)) (zu w 1 (va_up (w 1) j y))) t.heap ∧ va_K (dC, dI) vwCl [(cI, .int)] t ∧ va_D A (wM b cI v (zu (zu f 8 (va_up (f 8) j x)) 9 (va_up (f 9) j z)) (zu w 1 (va_up (w 1) j y)))) A) ([.ref (b 0), .int (nI (j))]).toArray s 0 0 A) (F0 m 65 ls []) := by
            intro n
            induction n with
            | zero =>
              intro l0 ya yf ys hb2 hl0 hl1 hn2
              exact absurd hn2 (by omega)
            | succ n ih_loop2 =>
              intro l0 ya yf ys hb2 hl0 hl1 hn2 H locs hP hD hS ls hl
              refine lv_iload_n hx hb d_Model_look_65 rfl (lv_at hl 0 rfl) ?_
              refine lv_aload_n hx hb d_Model_look_66 rfl (lv_at hl 2 rfl) ?_
              refine va_get (D := (dC, dI)) (ci := 5) (v := .ref (b 2)) (C := "CutLengthsModel") (T := T_Model) (N := 24) hx hb hz i_Model hown hK hP 0 rfl rfl 9 (by decide) (hz _ tw_490) (fun _ h9 => h9) rfl d_Model_look_67 ?_
              refine lv_iload_n hx hb d_Model_look_70 rfl (lv_at hl 1 rfl) ?_
              refine zz_nald hx hb hK hP 2 0 (f := f 1) (i := x) rfl rfl (by omega) (by decide) d_Model_look_71 ?_
              refine lv_icmp_gt (tgt := 169) hx hb d_Model_look_72 (by decide) (fun c_72 => ?_) (fun c_72 => ?_)
              · have c_72 : ((f 1 x : Nat) : Int) < ((l0 : Nat) : Int) := (zz_lt (nI_toInt (by omega)) (nI_toInt (by omega))).mp c_72
                refine lv_iinc (v := nI (x) - nI 1) (lv' := [(2, .int (nI (x) - nI 1)), (3, .int (nI (l0))), (0, .ref (b 0)), (1, .int (nI (j)))]) hx hb d_Model_look_169 hl (k := 1) rfl (zz_dec _) (by decide) rfl (fun ls hl => ?_)
                refine lv_goto (tgt := 54) hx hb d_Model_look_172 (by decide) ?_
                exact ih_loop x ya yf ys (by omega) (zouterM hb2 (by omega)) (by omega) H locs hP hD hS ls (lv_sub hl [0, 2, 3] rfl)
              · have c_72 : ¬ (((f 1 x : Nat) : Int) < ((l0 : Nat) : Int)) := fun q => c_72 ((zz_lt (nI_toInt (by omega)) (nI_toInt (by omega))).mpr q)
                refine lv_iload_n hx hb d_Model_look_75 rfl (lv_at hl 0 rfl) ?_
                refine lv_aload_n hx hb d_Model_look_76 rfl (lv_at hl 2 rfl) ?_
                refine va_get (D := (dC, dI)) (ci := 5) (v := .ref (b 13)) (C := "CutLengthsModel") (T := T_Model) (N := 24) hx hb hz i_Model hown hK hP 0 rfl rfl 23 (by decide) (hz _ tw_504) (fun _ h9 => h9) rfl d_Model_look_77 ?_
                refine lv_iload_n hx hb d_Model_look_80 rfl (lv_at hl 3 rfl) ?_
                refine zz_nald hx hb hK hP 13 0 (f := f 10) (i := j) rfl rfl (by omega) (by decide) d_Model_look_81 ?_
                refine lv_icmp_gt (tgt := 169) hx hb d_Model_look_82 (by decide) (fun c_82 => ?_) (fun c_82 => ?_)
                · have c_82 : ((f 10 j : Nat) : Int) < ((l0 : Nat) : Int) := (zz_lt (nI_toInt (by omega)) (nI_toInt (by omega))).mp c_82
                  refine lv_iinc (v := nI (x) - nI 1) (lv' := [(2, .int (nI (x) - nI 1)), (3, .int (nI (l0))), (0, .ref (b 0)), (1, .int (nI (j)))]) hx hb d_Model_look_169 hl (k := 1) rfl (zz_dec _) (by decide) rfl (fun ls hl => ?_)
                  refine lv_goto (tgt := 54) hx hb d_Model_look_172 (by decide) ?_
                  exact ih_loop x ya yf ys (by omega) (zouterM hb2 (by omega)) (by omega) H locs hP hD hS ls (lv_sub hl [0, 2, 3] rfl)
                · have c_82 : ¬ (((f 10 j : Nat) : Int) < ((l0 : Nat) : Int)) := fun q => c_82 ((zz_lt (nI_toInt (by omega)) (nI_toInt (by omega))).mpr q)
                  have e1 : va_up (f 8) j ya (j + l0) = f 8 (j + l0) := va_up_ne _ _ (by omega)
                  have e2 : va_up (f 8) j ya j = ya := va_up_self _ _ _
                  have hL9 := hL (j + l0) (by omega) (by omega)
                  have hya := zB_le hb2
                  have hst := zstepM hb2 (by omega) j7 (by omega) (by omega) (by omega) hmay
                  have hmb2 := zbar_le (fr := f 4) (to := f 5) (p := j + l0) (v 9)
                  refine lv_iload_n hx hb d_Model_look_85 rfl (lv_at hl 3 rfl) ?_
                  refine lv_iload_n hx hb d_Model_look_86 rfl (lv_at hl 0 rfl) ?_
                  refine lv_iadd hx hb d_Model_look_87 ?_
                  refine zz_top (nI_add (j) (l0)) ?_
                  refine lv_istore (lv' := [(4, .int (nI (j + l0))), (3, .int (nI (l0))), (2, .int (nI (x))), (0, .ref (b 0)), (1, .int (nI (j)))]) hx hb d_Model_look_88 hl (by decide) rfl (fun ls hl => ?_)
                  refine lv_aload_n hx hb d_Model_look_90 rfl (lv_at hl 3 rfl) ?_
                  refine va_get (D := (dC, dI)) (ci := 5) (v := .ref (b 10)) (C := "CutLengthsModel") (T := T_Model) (N := 24) hx hb hz i_Model hown hK hP 0 rfl rfl 20 (by decide) (hz _ tw_501) (fun _ h9 => h9) rfl d_Model_look_91 ?_
                  refine lv_iload hx hb d_Model_look_94 (lv_at hl 0 rfl) ?_
                  refine zz_nald hx hb hK hP 10 0 (f := va_up (f 8) j ya) (i := j + l0) rfl rfl (by omega) (by decide) d_Model_look_96 ?_
                  refine zz_top (congrArg nI e1) ?_
                  refine lv_aload_n hx hb d_Model_look_97 rfl (lv_at hl 3 rfl) ?_
                  refine va_get (D := (dC, dI)) (ci := 5) (v := .ref (b 10)) (C := "CutLengthsModel") (T := T_Model) (N := 24) hx hb hz i_Model hown hK hP 0 rfl rfl 20 (by decide) (hz _ tw_501) (fun _ h9 => h9) rfl d_Model_look_98 ?_
                  refine lv_iload_n hx hb d_Model_look_101 rfl (lv_at hl 4 rfl) ?_
                  refine zz_nald hx hb hK hP 10 0 (f := va_up (f 8) j ya) (i := j) rfl rfl (by omega) (by decide) d_Model_look_102 ?_
                  refine zz_top (congrArg nI e2) ?_
                  refine lv_icmp_gt (tgt := 128) hx hb d_Model_look_103 (by decide) (fun c_103 => ?_) (fun c_103 => ?_)
                  · have c_103 : ((ya : Nat) : Int) < ((f 8 (j + l0) : Nat) : Int) := (zz_lt (nI_toInt (by omega)) (nI_toInt (by omega))).mp c_103
                    refine lv_iconst (v := nI (0)) hx hb d_Model_look_128 (by decide) ?_
                    refine lv_istore (lv' := [(5, .int (nI (0))), (4, .int (nI (j + l0))), (3, .int (nI (l0))), (2, .int (nI (x))), (0, .ref (b 0)), (1, .int (nI (j)))]) hx hb d_Model_look_129 hl (by decide) rfl (fun ls hl => ?_)
                    refine lv_iload hx hb d_Model_look_131 (lv_at hl 0 rfl) ?_
                    refine lv_if_eq (tgt := 163) hx hb d_Model_look_133 (by decide) (fun _ => ?_) (fun c9 => absurd c9 (by decide))
                    have hb3 := hst.2 (fun q => by obtain ⟨q1, q2⟩ := q; omega)
                    refine lv_iinc (v := nI (l0 + 1)) (lv' := [(3, .int (nI (l0 + 1))), (5, .int (nI (0))), (4, .int (nI (j + l0))), (2, .int (nI (x))), (0, .ref (b 0)), (1, .int (nI (j)))]) hx hb d_Model_look_163 hl (k := 2) rfl (zz_inc _) (by decide) rfl (fun ls hl => ?_)
                    refine lv_goto (tgt := 65) hx hb d_Model_look_166 (by decide) ?_
                    exact ih_loop2 (l0 + 1) ya yf ys hb3 (by omega) (by omega) (by omega) H locs hP hD hS ls (lv_sub hl [0, 3, 4, 5] rfl)
                  · have c_103 : ¬ (((ya : Nat) : Int) < ((f 8 (j + l0) : Nat) : Int)) := fun q => c_103 ((zz_lt (nI_toInt (by omega)) (nI_toInt (by omega))).mpr q)
                    refine lv_iload hx hb d_Model_look_106 (lv_at hl 0 rfl) ?_
                    refine lv_aload_n hx hb d_Model_look_108 rfl (lv_at hl 3 rfl) ?_
                    refine va_get (D := (dC, dI)) (ci := 5) (v := .int (nI (v 3))) (C := "CutLengthsModel") (T := T_Model) (N := 24) hx hb hz i_Model hown hK hP 0 rfl rfl 3 (by decide) (hz _ tw_484) (fun _ h9 => h9) rfl d_Model_look_109 ?_
                    refine lv_icmp_eq (tgt := 124) hx hb d_Model_look_112 (by decide) (fun c_112 => ?_) (fun c_112 => ?_)
                    · have c_112 : ((j + l0 : Nat) : Int) = ((v 3 : Nat) : Int) := (zz_eq (nI_toInt (by omega)) (nI_toInt (by omega))).mp c_112
                      refine lv_iconst (v := nI (1)) hx hb d_Model_look_124 (by decide) ?_
                      refine lv_goto (tgt := 129) hx hb d_Model_look_125 (by decide) ?_
                      refine lv_istore (lv' := [(5, .int (nI (1))), (4, .int (nI (j + l0))), (3, .int (nI (l0))), (2, .int (nI (x))), (0, .ref (b 0)), (1, .int (nI (j)))]) hx hb d_Model_look_129 hl (by decide) rfl (fun ls hl => ?_)
                      refine lv_iload hx hb d_Model_look_131 (lv_at hl 0 rfl) ?_
                      refine lv_if_eq (tgt := 163) hx hb d_Model_look_133 (by decide) (fun c9 => absurd c9 (by decide)) (fun _ => ?_)
                      refine lv_aload_n hx hb d_Model_look_136 rfl (lv_at hl 4 rfl) ?_
                      refine va_get (D := (dC, dI)) (ci := 5) (v := .ref (b 10)) (C := "CutLengthsModel") (T := T_Model) (N := 24) hx hb hz i_Model hown hK hP 0 rfl rfl 20 (by decide) (hz _ tw_501) (fun _ h9 => h9) rfl d_Model_look_137 ?_
                      refine lv_iload_n hx hb d_Model_look_140 rfl (lv_at hl 5 rfl) ?_
                      refine lv_aload_n hx hb d_Model_look_141 rfl (lv_at hl 4 rfl) ?_
                      refine va_get (D := (dC, dI)) (ci := 5) (v := .ref (b 10)) (C := "CutLengthsModel") (T := T_Model) (N := 24) hx hb hz i_Model hown hK hP 0 rfl rfl 20 (by decide) (hz _ tw_501) (fun _ h9 => h9) rfl d_Model_look_142 ?_
                      refine lv_iload hx hb d_Model_look_145 (lv_at hl 1 rfl) ?_
                      refine zz_nald hx hb hK hP 10 0 (f := va_up (f 8) j ya) (i := j + l0) rfl rfl (by omega) (by decide) d_Model_look_147 ?_
                      refine zz_nast hx hb hK hP hD hS 10 0 (f := va_up (f 8) j ya) (i := j) (x := (va_up (f 8) j ya) (j + l0)) rfl rfl (by omega) (by decide) d_Model_look_148 (fun H locs hP hD hS => ?_)
                      have hP : va_P (dC, dI) vwCl (wM b cI v (zu (zu f 8 (va_up (va_up (f 8) j ya) j ((va_up (f 8) j ya) (j + l0)))) 9 (va_up (f 9) j ys)) (zu w 1 (va_up (w 1) j yf))) H := hP
                      have hD : va_D A (wM b cI v (zu (zu f 8 (va_up (va_up (f 8) j ya) j ((va_up (f 8) j ya) (j + l0)))) 9 (va_up (f 9) j ys)) (zu w 1 (va_up (w 1) j yf))) := hD
                      refine lv_aload_n hx hb d_Model_look_149 rfl (lv_at hl 4 rfl) ?_
                      refine va_get (D := (dC, dI)) (ci := 5) (v := .ref (b 11)) (C := "CutLengthsModel") (T := T_Model) (N := 24) hx hb hz i_Model hown hK hP 0 rfl rfl 21 (by decide) (hz _ tw_502) (fun _ h9 => h9) rfl d_Model_look_150 ?_
                      refine lv_iload_n hx hb d_Model_look_153 rfl (lv_at hl 5 rfl) ?_
                      refine lv_iload_n hx hb d_Model_look_154 rfl (lv_at hl 3 rfl) ?_
                      refine zz_iast hx hb hK hP hD hS 11 0 (f := va_up (w 1) j yf) (i := j) (x := nI (x)) rfl rfl (by omega) (by decide) d_Model_look_155 (fun H locs hP hD hS => ?_)
                      have hP : va_P (dC, dI) vwCl (wM b cI v (zu (zu f 8 (va_up (va_up (f 8) j ya) j ((va_up (f 8) j ya) (j + l0)))) 9 (va_up (f 9) j ys)) (zu w 1 (va_up (va_up (w 1) j yf) j (nI (x))))) H := hP
                      have hD : va_D A (wM b cI v (zu (zu f 8 (va_up (va_up (f 8) j ya) j ((va_up (f 8) j ya) (j + l0)))) 9 (va_up (f 9) j ys)) (zu w 1 (va_up (va_up (w 1) j yf) j (nI (x))))) := hD
                      refine lv_aload_n hx hb d_Model_look_156 rfl (lv_at hl 4 rfl) ?_
                      refine va_get (D := (dC, dI)) (ci := 5) (v := .ref (b 12)) (C := "CutLengthsModel") (T := T_Model) (N := 24) hx hb hz i_Model hown hK hP 0 rfl rfl 22 (by decide) (hz _ tw_503) (fun _ h9 => h9) rfl d_Model_look_157 ?_
                      refine lv_iload_n hx hb d_Model_look_160 rfl (lv_at hl 5 rfl) ?_
                      refine lv_iload_n hx hb d_Model_look_161 rfl (lv_at hl 2 rfl) ?_
                      refine zz_nast hx hb hK hP hD hS 12 0 (f := va_up (f 9) j ys) (i := j) (x := l0) rfl rfl (by omega) (by decide) d_Model_look_162 (fun H locs hP hD hS => ?_)
                      have hP : va_P (dC, dI) vwCl (wM b cI v (zu (zu f 8 (va_up (va_up (f 8) j ya) j ((va_up (f 8) j ya) (j + l0)))) 9 (va_up (va_up (f 9) j ys) j l0)) (zu w 1 (va_up (va_up (w 1) j yf) j (nI (x))))) H := hP
                      have hD : va_D A (wM b cI v (zu (zu f 8 (va_up (va_up (f 8) j ya) j ((va_up (f 8) j ya) (j + l0)))) 9 (va_up (va_up (f 9) j ys) j l0)) (zu w 1 (va_up (va_up (w 1) j yf) j (nI (x))))) := hD
                      simp only [bx_uu, e1] at hP hD
                      have hP : va_P (dC, dI) vwCl (wM b cI v (zu (zu f 8 (va_up (f 8) j (f 8 (j + l0)))) 9 (va_up (f 9) j l0)) (zu w 1 (va_up (w 1) j (nI x)))) H := hP
                      have hD : va_D A (wM b cI v (zu (zu f 8 (va_up (f 8) j (f 8 (j + l0)))) 9 (va_up (f 9) j l0)) (zu w 1 (va_up (w 1) j (nI x)))) := hD
                      have hb3 := hst.1 (by omega) (by omega)
                      refine lv_iinc (v := nI (l0 + 1)) (lv' := [(3, .int (nI (l0 + 1))), (5, .int (nI (1))), (4, .int (nI (j + l0))), (2, .int (nI (x))), (0, .ref (b 0)), (1, .int (nI (j)))]) hx hb d_Model_look_163 hl (k := 2) rfl (zz_inc _) (by decide) rfl (fun ls hl => ?_)
                      refine lv_goto (tgt := 65) hx hb d_Model_look_166 (by decide) ?_
                      exact ih_loop2 (l0 + 1) (f 8 (j + l0)) (nI x) l0 hb3 (by omega) (by omega) (by omega) H locs hP hD hS ls (lv_sub hl [0, 3, 4, 5] rfl)
                    · have c_112 : ¬ (((j + l0 : Nat) : Int) = ((v 3 : Nat) : Int)) := fun q => c_112 ((zz_eq (nI_toInt (by omega)) (nI_toInt (by omega))).mpr q)
                      refine lv_aload_n hx hb d_Model_look_115 rfl (lv_at hl 3 rfl) ?_
                      refine lv_iload hx hb d_Model_look_116 (lv_at hl 0 rfl) ?_
                      refine zz_ro (va_runV (As := [.int (nI (j + l0))]) (rest := []) ⟨hx, hb, hml, hown, hz⟩ (c_Model_isBarred l dC dI b cI v (zu (zu f 8 (va_up (f 8) j ya)) 9 (va_up (f 9) j ys)) (zu w 1 (va_up (w 1) j yf)) (j + l0) (by omega) hJ) (cwV (C := "CutLengthsModel") 1 hz (zgV tw_617 tw_619 tw_12 tw_20 tw_620) rfl rfl rfl (by decide +kernel) ⟨Nat.le_of_ble_eq_true rfl, Nat.le_of_ble_eq_true rfl⟩) ⟨(fun a U g mk q => ⟨q.1, q.2.1, va_K.moved (u := U) (U := U.calling g mk a) (Vm.Alike.refl U.vm) q.2.2⟩), va_recv hK hP (ci := 5) (q0 := 0) rfl rfl, fun U hU hW => ⟨rfl, by rw [hU]; exact hP, va_K.moved hW.alike hK⟩⟩ rfl rfl hl.1 rfl (lv_room (Nat.le_of_ble_eq_true rfl)) d_Model_look_118 ⟨Nat.zero_le _, Nat.zero_le _⟩) ?_
                      refine zz_top (show _ = nI (zMB v f (j + l0)) from rfl) ?_
                      have hmb3 : zMB v f (j + l0) ≤ 1 := zbar_le (v 9)
                      refine lv_if_ne (tgt := 128) hx hb d_Model_look_121 (by decide) (fun c_121 => ?_) (fun c_121 => ?_)
                      · have c_121 : ¬ (((zMB v f (j + l0) : Nat) : Int) = (0 : Int)) := fun q => c_121 ((zz_eq (nI_toInt (by omega)) ((by decide))).mpr q)
                        refine lv_iconst (v := nI (0)) hx hb d_Model_look_128 (by decide) ?_
                        refine lv_istore (lv' := [(5, .int (nI (0))), (4, .int (nI (j + l0))), (3, .int (nI (l0))), (2, .int (nI (x))), (0, .ref (b 0)), (1, .int (nI (j)))]) hx hb d_Model_look_129 hl (by decide) rfl (fun ls hl => ?_)
                        refine lv_iload hx hb d_Model_look_131 (lv_at hl 0 rfl) ?_
                        refine lv_if_eq (tgt := 163) hx hb d_Model_look_133 (by decide) (fun _ => ?_) (fun c9 => absurd c9 (by decide))
                        have hb3 := hst.2 (fun q => by obtain ⟨q1, q2⟩ := q; omega)
                        refine lv_iinc (v := nI (l0 + 1)) (lv' := [(3, .int (nI (l0 + 1))), (5, .int (nI (0))), (4, .int (nI (j + l0))), (2, .int (nI (x))), (0, .ref (b 0)), (1, .int (nI (j)))]) hx hb d_Model_look_163 hl (k := 2) rfl (zz_inc _) (by decide) rfl (fun ls hl => ?_)
                        refine lv_goto (tgt := 65) hx hb d_Model_look_166 (by decide) ?_
                        exact ih_loop2 (l0 + 1) ya yf ys hb3 (by omega) (by omega) (by omega) H locs hP hD hS ls (lv_sub hl [0, 3, 4, 5] rfl)
                      · have c_121 : ((zMB v f (j + l0) : Nat) : Int) = (0 : Int) := (zz_eq (nI_toInt (by omega)) ((by decide))).mp c_121
                        refine lv_iconst (v := nI (1)) hx hb d_Model_look_124 (by decide) ?_
                        refine lv_goto (tgt := 129) hx hb d_Model_look_125 (by decide) ?_
                        refine lv_istore (lv' := [(5, .int (nI (1))), (4, .int (nI (j + l0))), (3, .int (nI (l0))), (2, .int (nI (x))), (0, .ref (b 0)), (1, .int (nI (j)))]) hx hb d_Model_look_129 hl (by decide) rfl (fun ls hl => ?_)
                        refine lv_iload hx hb d_Model_look_131 (lv_at hl 0 rfl) ?_
                        refine lv_if_eq (tgt := 163) hx hb d_Model_look_133 (by decide) (fun c9 => absurd c9 (by decide)) (fun _ => ?_)
                        refine lv_aload_n hx hb d_Model_look_136 rfl (lv_at hl 4 rfl) ?_
                        refine va_get (D := (dC, dI)) (ci := 5) (v := .ref (b 10)) (C := "CutLengthsModel") (T := T_Model) (N := 24) hx hb hz i_Model hown hK hP 0 rfl rfl 20 (by decide) (hz _ tw_501) (fun _ h9 => h9) rfl d_Model_look_137 ?_
                        refine lv_iload_n hx hb d_Model_look_140 rfl (lv_at hl 5 rfl) ?_
                        refine lv_aload_n hx hb d_Model_look_141 rfl (lv_at hl 4 rfl) ?_
                        refine va_get (D := (dC, dI)) (ci := 5) (v := .ref (b 10)) (C := "CutLengthsModel") (T := T_Model) (N := 24) hx hb hz i_Model hown hK hP 0 rfl rfl 20 (by decide) (hz _ tw_501) (fun _ h9 => h9) rfl d_Model_look_142 ?_
                        refine lv_iload hx hb d_Model_look_145 (lv_at hl 1 rfl) ?_
                        refine zz_nald hx hb hK hP 10 0 (f := va_up (f 8) j ya) (i := j + l0) rfl rfl (by omega) (by decide) d_Model_look_147 ?_
                        refine zz_nast hx hb hK hP hD hS 10 0 (f := va_up (f 8) j ya) (i := j) (x := (va_up (f 8) j ya) (j + l0)) rfl rfl (by omega) (by decide) d_Model_look_148 (fun H locs hP hD hS => ?_)
                        have hP : va_P (dC, dI) vwCl (wM b cI v (zu (zu f 8 (va_up (va_up (f 8) j ya) j ((va_up (f 8) j ya) (j + l0)))) 9 (va_up (f 9) j ys)) (zu w 1 (va_up (w 1) j yf))) H := hP
                        have hD : va_D A (wM b cI v (zu (zu f 8 (va_up (va_up (f 8) j ya) j ((va_up (f 8) j ya) (j + l0)))) 9 (va_up (f 9) j ys)) (zu w 1 (va_up (w 1) j yf))) := hD
                        refine lv_aload_n hx hb d_Model_look_149 rfl (lv_at hl 4 rfl) ?_
                        refine va_get (D := (dC, dI)) (ci := 5) (v := .ref (b 11)) (C := "CutLengthsModel") (T := T_Model) (N := 24) hx hb hz i_Model hown hK hP 0 rfl rfl 21 (by decide) (hz _ tw_502) (fun _ h9 => h9) rfl d_Model_look_150 ?_
                        refine lv_iload_n hx hb d_Model_look_153 rfl (lv_at hl 5 rfl) ?_
                        refine lv_iload_n hx hb d_Model_look_154 rfl (lv_at hl 3 rfl) ?_
                        refine zz_iast hx hb hK hP hD hS 11 0 (f := va_up (w 1) j yf) (i := j) (x := nI (x)) rfl rfl (by omega) (by decide) d_Model_look_155 (fun H locs hP hD hS => ?_)
                        have hP : va_P (dC, dI) vwCl (wM b cI v (zu (zu f 8 (va_up (va_up (f 8) j ya) j ((va_up (f 8) j ya) (j + l0)))) 9 (va_up (f 9) j ys)) (zu w 1 (va_up (va_up (w 1) j yf) j (nI (x))))) H := hP
                        have hD : va_D A (wM b cI v (zu (zu f 8 (va_up (va_up (f 8) j ya) j ((va_up (f 8) j ya) (j + l0)))) 9 (va_up (f 9) j ys)) (zu w 1 (va_up (va_up (w 1) j yf) j (nI (x))))) := hD
                        refine lv_aload_n hx hb d_Model_look_156 rfl (lv_at hl 4 rfl) ?_
                        refine va_get (D := (dC, dI)) (ci := 5) (v := .ref (b 12)) (C := "CutLengthsModel") (T := T_Model) (N := 24) hx hb hz i_Model hown hK hP 0 rfl rfl 22 (by decide) (hz _ tw_503) (fun _ h9 => h9) rfl d_Model_look_157 ?_
                        refine lv_iload_n hx hb d_Model_look_160 rfl (lv_at hl 5 rfl) ?_
                        refine lv_iload_n hx hb d_Model_look_161 rfl (lv_at hl 2 rfl) ?_
                        refine zz_nast hx hb hK hP hD hS 12 0 (f := va_up (f 9) j ys) (i := j) (x := l0) rfl rfl (by omega) (by decide) d_Model_look_162 (fun H locs hP hD hS => ?_)
                        have hP : va_P (dC, dI) vwCl (wM b cI v (zu (zu f 8 (va_up (va_up (f 8) j ya) j ((va_up (f 8) j ya) (j + l0)))) 9 (va_up (va_up (f 9) j ys) j l0)) (zu w 1 (va_up (va_up (w 1) j yf) j (nI (x))))) H := hP
                        have hD : va_D A (wM b cI v (zu (zu f 8 (va_up (va_up (f 8) j ya) j ((va_up (f 8) j ya) (j + l0)))) 9 (va_up (va_up (f 9) j ys) j l0)) (zu w 1 (va_up (va_up (w 1) j yf) j (nI (x))))) := hD
                        simp only [bx_uu, e1] at hP hD
                        have hP : va_P (dC, dI) vwCl (wM b cI v (zu (zu f 8 (va_up (f 8) j (f 8 (j + l0)))) 9 (va_up (f 9) j l0)) (zu w 1 (va_up (w 1) j (nI x)))) H := hP
                        have hD : va_D A (wM b cI v (zu (zu f 8 (va_up (f 8) j (f 8 (j + l0)))) 9 (va_up (f 9) j l0)) (zu w 1 (va_up (w 1) j (nI x)))) := hD
                        have hb3 := hst.1 (by omega) (by omega)
                        refine lv_iinc (v := nI (l0 + 1)) (lv' := [(3, .int (nI (l0 + 1))), (5, .int (nI (1))), (4, .int (nI (j + l0))), (2, .int (nI (x))), (0, .ref (b 0)), (1, .int (nI (j)))]) hx hb d_Model_look_163 hl (k := 2) rfl (zz_inc _) (by decide) rfl (fun ls hl => ?_)
                        refine lv_goto (tgt := 65) hx hb d_Model_look_166 (by decide) ?_
                        exact ih_loop2 (l0 + 1) (f 8 (j + l0)) (nI x) l0 hb3 (by omega) (by omega) (by omega) H locs hP hD hS ls (lv_sub hl [0, 3, 4, 5] rfl)
          exact loop2 (f 1 x + 2) (f 0 x) xa xf xs (zinnerM hb1) (Nat.le_refl _) (by omega) (by omega) H locs hP hD hS ls (lv_sub hl [0, 1, 2, 3] rfl)
    exact loop (v 7 + 1) (v 7) (f 8 (j + 1) + 1) (-1) 1 (Nat.le_refl _) zbeginM (by omega) H locs hP hD hS ls (lv_sub hl [0, 1, 2] rfl)
  · have c_35 : ¬ (((j : Nat) : Int) = ((v 4 : Nat) : Int)) := fun q => c_35 ((zz_eq (nI_toInt (by omega)) (nI_toInt (by omega))).mpr q)
    refine lv_aload_n hx hb d_Model_look_38 rfl (lv_at hl 0 rfl) ?_
    refine lv_iload_n hx hb d_Model_look_39 rfl (lv_at hl 1 rfl) ?_
    refine zz_ro (va_runV (As := [.int (nI (j))]) (rest := []) ⟨hx, hb, hml, hown, hz⟩ (c_Model_isBarred l dC dI b cI v (zu (zu f 8 (va_up (f 8) j ((f 8 (j + 1)) + 1))) 9 (va_up (f 9) j 1)) (zu w 1 (va_up (w 1) j (-1))) (j) (by omega) hJ) (cwV (C := "CutLengthsModel") 1 hz (zgV tw_617 tw_619 tw_12 tw_20 tw_620) rfl rfl rfl (by decide +kernel) ⟨Nat.le_of_ble_eq_true rfl, Nat.le_of_ble_eq_true rfl⟩) ⟨(fun a U g mk q => ⟨q.1, q.2.1, va_K.moved (u := U) (U := U.calling g mk a) (Vm.Alike.refl U.vm) q.2.2⟩), va_recv hK hP (ci := 5) (q0 := 0) rfl rfl, fun U hU hW => ⟨rfl, by rw [hU]; exact hP, va_K.moved hW.alike hK⟩⟩ rfl rfl hl.1 rfl (lv_room (Nat.le_of_ble_eq_true rfl)) d_Model_look_40 ⟨Nat.zero_le _, Nat.zero_le _⟩) ?_
    refine zz_top (show _ = nI (zMB v f j) from rfl) ?_
    have hmb3 : zMB v f j ≤ 1 := zbar_le (v 9)
    refine lv_if_eq (tgt := 47) hx hb d_Model_look_43 (by decide) (fun c_43 => ?_) (fun c_43 => ?_)
    · have c_43 : ((zMB v f j : Nat) : Int) = (0 : Int) := (zz_eq (nI_toInt (by omega)) ((by decide))).mp c_43
      refine lv_aload_n hx hb d_Model_look_47 rfl (lv_at hl 0 rfl) ?_
      refine va_get (D := (dC, dI)) (ci := 5) (v := .int (nI (v 7))) (C := "CutLengthsModel") (T := T_Model) (N := 24) hx hb hz i_Model hown hK hP 0 rfl rfl 7 (by decide) (hz _ tw_488) (fun _ h9 => h9) rfl d_Model_look_48 ?_
      refine lv_iconst (v := nI (1)) hx hb d_Model_look_51 (by decide) ?_
      refine lv_isub hx hb d_Model_look_52 ?_
      refine lv_istore_n (lv' := [(2, .int (nI (v 7) - nI (1))), (0, .ref (b 0)), (1, .int (nI (j)))]) hx hb d_Model_look_53 rfl hl (by decide) rfl (fun ls hl => ?_)
      have hmay : j = v 4 ∨ zMB v f j = 0 := by omega
      have loop : ∀ (n : Nat) (k xa : Nat) (xf : Int32) (xs : Nat), (k ≤ v 7) → (zB (fun w l => zcand (v 3) (v 4) (v 7) (f 0) (f 1) (zMB v f) r j w l ∧ k ≤ w) (f 8) j (f 8 (j + 1) + 1) 1 xa xf xs) → (k < n) → ∀ (H : Heap) (locs : List Loc), va_P (dC, dI) vwCl (wM b cI v (zu (zu f 8 (va_up (f 8) j xa)) 9 (va_up (f 9) j xs)) (zu w 1 (va_up (w 1) j xf))) H → va_D A (wM b cI v (zu (zu f 8 (va_up (f 8) j xa)) 9 (va_up (f 9) j xs)) (zu w 1 (va_up (w 1) j xf))) → va_S A s.heap H locs → ∀ ls : Array Slot, lv_has ls 6 [(2, .int (nI k - nI 1)), (0, .ref (b 0)), (1, .int (nI (j)))] → W p l e (headSpec (zw_Model_look :: zW) ({ frames := 2, cells := 0, slots := 0, locals := 45 })).room s m ([.ref (b 0), .int (nI (j))]).toArray below meth c H locs 0 0 (MQ below (va_Qv (fun (u : Nat × Int32 × Nat) => zB (zcand (v 3) (v 4) (v 7) (f 0) (f 1) (zMB v f) r j) (f 8) j (f 8 (j + 1) + 1) 1 u.1 u.2.1 u.2.2) (fun (u : Nat × Int32 × Nat) t => match u with | (x, y, z) => va_P (dC, dI) vwCl (wM b cI v (zu (zu f 8 (va_up (f 8) j x)) 9 (va_up (f 9) j z)) (zu w 1 (va_up (w 1) j y))) t.heap ∧ va_K (dC, dI) vwCl [(cI, .int)] t ∧ va_D A (wM b cI v (zu (zu f 8 (va_up (f 8) j x)) 9 (va_up (f 9) j z)) (zu w 1 (va_up (w 1) j y)))) A) ([.ref (b 0), .int (nI (j))]).toArray s 0 0 A) (F0 m 54 ls []) := by
        intro n
        induction n with
        | zero =>
          intro k xa xf xs hk1 hb1 hn1
          exact absurd hn1 (by omega)
        | succ n ih_loop =>
          intro k xa xf xs hk1 hb1 hn1 H locs hP hD hS ls hl
          refine lv_iload_n hx hb d_Model_look_54 rfl (lv_at hl 0 rfl) ?_
          refine lv_if_lt (tgt := 175) hx hb d_Model_look_55 (by decide) (fun c_55 => ?_) (fun c_55 => ?_)
          · have c_55 : ((k : Nat) : Int) - ((1 : Nat) : Int) < (0 : Int) := (zz_lt (pk_sub_toInt (by omega) (by omega)) ((by decide))).mp c_55
            exact W.vret hx hb hr (fun t9 ht hW => ⟨⟨(xa, xf, xs), rfl, (zfullM (by rw [show k = 0 from by omega] at hb1; exact hb1)), by rw [ht]; exact hP, va_K.moved hW.alike hK, hD⟩, hS.F ht⟩) hS.2.2 d_Model_look_175
          · have c_55 : ¬ (((k : Nat) : Int) - ((1 : Nat) : Int) < (0 : Int)) := fun q => c_55 ((zz_lt (pk_sub_toInt (by omega) (by omega)) ((by decide))).mpr q)
            obtain ⟨x, rfl⟩ : ∃ x, k = x + 1 := ⟨k - 1, by omega⟩
            rw [show nI (x + 1) - nI 1 = nI x from nI_pred x] at hl
            have hl : lv_has ls 6 [(2, .int (nI (x))), (0, .ref (b 0)), (1, .int (nI (j)))] := hl
            have hw9 := jw x (by omega)
            refine lv_aload_n hx hb d_Model_look_58 rfl (lv_at hl 1 rfl) ?_
            refine va_get (D := (dC, dI)) (ci := 5) (v := .ref (b 1)) (C := "CutLengthsModel") (T := T_Model) (N := 24) hx hb hz i_Model hown hK hP 0 rfl rfl 8 (by decide) (hz _ tw_489) (fun _ h9 => h9) rfl d_Model_look_59 ?_
            refine lv_iload_n hx hb d_Model_look_62 rfl (lv_at hl 0 rfl) ?_
            refine zz_nald hx hb hK hP 1 0 (f := f 0) (i := x) rfl rfl (by omega) (by decide) d_Model_look_63 ?_
            refine lv_istore_n (lv' := [(3, .int (nI (f 0 x))), (2, .int (nI (x))), (0, .ref (b 0)), (1, .int (nI (j)))]) hx hb d_Model_look_64 rfl hl (by decide) rfl (fun ls hl => ?_)
            have loop2 : ∀ (n : Nat) (l0 ya : Nat) (yf : Int32) (ys : Nat), (zB (zQa (zcand (v 3) (v 4) (v 7) (f 0) (f 1) (zMB v f) r j) x l0) (f 8) j (f 8 (j + 1) + 1) 1 ya yf ys) → (f 0 x ≤ l0) → (l0 ≤ f 1 x + 1) → (f 1 x + 1 < l0 + n) → ∀ (H : Heap) (locs : List Loc), va_P (dC, dI) vwCl (wM b cI v (zu (zu f 8 (va_up (f 8) j ya)) 9 (va_up (f 9) j ys)) (zu w 1 (va_up (w 1) j yf))) H → va_D A (wM b cI v (zu (zu f 8 (va_up (f 8) j ya)) 9 (va_up (f 9) j ys)) (zu w 1 (va_up (w 1) j yf))) → va_S A s.heap H locs → ∀ ls : Array Slot, lv_has ls 6 [(3, .int (nI (l0))), (2, .int (nI (x))), (0, .ref (b 0)), (1, .int (nI (j)))] → W p l e (headSpec (zw_Model_look :: zW) ({ frames := 2, cells := 0, slots := 0, locals := 45 })).room s m ([.ref (b 0), .int (nI (j))]).toArray below meth c H locs 0 0 (MQ below (va_Qv (fun (u : Nat × Int32 × Nat) => zB (zcand (v 3) (v 4) (v 7) (f 0) (f 1) (zMB v f) r j) (f 8) j (f 8 (j + 1) + 1) 1 u.1 u.2.1 u.2.2) (fun (u : Nat × Int32 × Nat) t => match u with | (x, y, z) => va_P (dC, dI) vwCl (wM b cI v (zu (zu f 8 (va_up (f 8) j x)) 9 (va_up (f 9) j z)) (zu w 1 (va_up (w 1) j y))) t.heap ∧ va_K (dC, dI) vwCl [(cI, .int)] t ∧ va_D A (wM b cI v (zu (zu f 8 (va_up (f 8) j x)) 9 (va_up (f 9) j z)) (zu w 1 (va_up (w 1) j y)))) A) ([.ref (b 0), .int (nI (j))]).toArray s 0 0 A) (F0 m 65 ls []) := by
              intro n
              induction n with
              | zero =>
                intro l0 ya yf ys hb2 hl0 hl1 hn2
                exact absurd hn2 (by omega)
              | succ n ih_loop2 =>
                intro l0 ya yf ys hb2 hl0 hl1 hn2 H locs hP hD hS ls hl
                refine lv_iload_n hx hb d_Model_look_65 rfl (lv_at hl 0 rfl) ?_
                refine lv_aload_n hx hb d_Model_look_66 rfl (lv_at hl 2 rfl) ?_
                refine va_get (D := (dC, dI)) (ci := 5) (v := .ref (b 2)) (C := "CutLengthsModel") (T := T_Model) (N := 24) hx hb hz i_Model hown hK hP 0 rfl rfl 9 (by decide) (hz _ tw_490) (fun _ h9 => h9) rfl d_Model_look_67 ?_
                refine lv_iload_n hx hb d_Model_look_70 rfl (lv_at hl 1 rfl) ?_
                refine zz_nald hx hb hK hP 2 0 (f := f 1) (i := x) rfl rfl (by omega) (by decide) d_Model_look_71 ?_
                refine lv_icmp_gt (tgt := 169) hx hb d_Model_look_72 (by decide) (fun c_72 => ?_) (fun c_72 => ?_)
                · have c_72 : ((f 1 x : Nat) : Int) < ((l0 : Nat) : Int) := (zz_lt (nI_toInt (by omega)) (nI_toInt (by omega))).mp c_72
                  refine lv_iinc (v := nI (x) - nI 1) (lv' := [(2, .int (nI (x) - nI 1)), (3, .int (nI (l0))), (0, .ref (b 0)), (1, .int (nI (j)))]) hx hb d_Model_look_169 hl (k := 1) rfl (zz_dec _) (by decide) rfl (fun ls hl => ?_)
                  refine lv_goto (tgt := 54) hx hb d_Model_look_172 (by decide) ?_
                  exact ih_loop x ya yf ys (by omega) (zouterM hb2 (by omega)) (by omega) H locs hP hD hS ls (lv_sub hl [0, 2, 3] rfl)
                · have c_72 : ¬ (((f 1 x : Nat) : Int) < ((l0 : Nat) : Int)) := fun q => c_72 ((zz_lt (nI_toInt (by omega)) (nI_toInt (by omega))).mpr q)
                  refine lv_iload_n hx hb d_Model_look_75 rfl (lv_at hl 0 rfl) ?_
                  refine lv_aload_n hx hb d_Model_look_76 rfl (lv_at hl 2 rfl) ?_
                  refine va_get (D := (dC, dI)) (ci := 5) (v := .ref (b 13)) (C := "CutLengthsModel") (T := T_Model) (N := 24) hx hb hz i_Model hown hK hP 0 rfl rfl 23 (by decide) (hz _ tw_504) (fun _ h9 => h9) rfl d_Model_look_77 ?_
                  refine lv_iload_n hx hb d_Model_look_80 rfl (lv_at hl 3 rfl) ?_
                  refine zz_nald hx hb hK hP 13 0 (f := f 10) (i := j) rfl rfl (by omega) (by decide) d_Model_look_81 ?_
                  refine lv_icmp_gt (tgt := 169) hx hb d_Model_look_82 (by decide) (fun c_82 => ?_) (fun c_82 => ?_)
                  · have c_82 : ((f 10 j : Nat) : Int) < ((l0 : Nat) : Int) := (zz_lt (nI_toInt (by omega)) (nI_toInt (by omega))).mp c_82
                    refine lv_iinc (v := nI (x) - nI 1) (lv' := [(2, .int (nI (x) - nI 1)), (3, .int (nI (l0))), (0, .ref (b 0)), (1, .int (nI (j)))]) hx hb d_Model_look_169 hl (k := 1) rfl (zz_dec _) (by decide) rfl (fun ls hl => ?_)
                    refine lv_goto (tgt := 54) hx hb d_Model_look_172 (by decide) ?_
                    exact ih_loop x ya yf ys (by omega) (zouterM hb2 (by omega)) (by omega) H locs hP hD hS ls (lv_sub hl [0, 2, 3] rfl)
                  · have c_82 : ¬ (((f 10 j : Nat) : Int) < ((l0 : Nat) : Int)) := fun q => c_82 ((zz_lt (nI_toInt (by omega)) (nI_toInt (by omega))).mpr q)
                    have e1 : va_up (f 8) j ya (j + l0) = f 8 (j + l0) := va_up_ne _ _ (by omega)
                    have e2 : va_up (f 8) j ya j = ya := va_up_self _ _ _
                    have hL9 := hL (j + l0) (by omega) (by omega)
                    have hya := zB_le hb2
                    have hst := zstepM hb2 (by omega) j7 (by omega) (by omega) (by omega) hmay
                    have hmb2 := zbar_le (fr := f 4) (to := f 5) (p := j + l0) (v 9)
                    refine lv_iload_n hx hb d_Model_look_85 rfl (lv_at hl 3 rfl) ?_
                    refine lv_iload_n hx hb d_Model_look_86 rfl (lv_at hl 0 rfl) ?_
                    refine lv_iadd hx hb d_Model_look_87 ?_
                    refine zz_top (nI_add (j) (l0)) ?_
                    refine lv_istore (lv' := [(4, .int (nI (j + l0))), (3, .int (nI (l0))), (2, .int (nI (x))), (0, .ref (b 0)), (1, .int (nI (j)))]) hx hb d_Model_look_88 hl (by decide) rfl (fun ls hl => ?_)
                    refine lv_aload_n hx hb d_Model_look_90 rfl (lv_at hl 3 rfl) ?_
                    refine va_get (D := (dC, dI)) (ci := 5) (v := .ref (b 10)) (C := "CutLengthsModel") (T := T_Model) (N := 24) hx hb hz i_Model hown hK hP 0 rfl rfl 20 (by decide) (hz _ tw_501) (fun _ h9 => h9) rfl d_Model_look_91 ?_
                    refine lv_iload hx hb d_Model_look_94 (lv_at hl 0 rfl) ?_
                    refine zz_nald hx hb hK hP 10 0 (f := va_up (f 8) j ya) (i := j + l0) rfl rfl (by omega) (by decide) d_Model_look_96 ?_
                    refine zz_top (congrArg nI e1) ?_
                    refine lv_aload_n hx hb d_Model_look_97 rfl (lv_at hl 3 rfl) ?_
                    refine va_get (D := (dC, dI)) (ci := 5) (v := .ref (b 10)) (C := "CutLengthsModel") (T := T_Model) (N := 24) hx hb hz i_Model hown hK hP 0 rfl rfl 20 (by decide) (hz _ tw_501) (fun _ h9 => h9) rfl d_Model_look_98 ?_
                    refine lv_iload_n hx hb d_Model_look_101 rfl (lv_at hl 4 rfl) ?_
                    refine zz_nald hx hb hK hP 10 0 (f := va_up (f 8) j ya) (i := j) rfl rfl (by omega) (by decide) d_Model_look_102 ?_
                    refine zz_top (congrArg nI e2) ?_
                    refine lv_icmp_gt (tgt := 128) hx hb d_Model_look_103 (by decide) (fun c_103 => ?_) (fun c_103 => ?_)
                    · have c_103 : ((ya : Nat) : Int) < ((f 8 (j + l0) : Nat) : Int) := (zz_lt (nI_toInt (by omega)) (nI_toInt (by omega))).mp c_103
                      refine lv_iconst (v := nI (0)) hx hb d_Model_look_128 (by decide) ?_
                      refine lv_istore (lv' := [(5, .int (nI (0))), (4, .int (nI (j + l0))), (3, .int (nI (l0))), (2, .int (nI (x))), (0, .ref (b 0)), (1, .int (nI (j)))]) hx hb d_Model_look_129 hl (by decide) rfl (fun ls hl => ?_)
                      refine lv_iload hx hb d_Model_look_131 (lv_at hl 0 rfl) ?_
                      refine lv_if_eq (tgt := 163) hx hb d_Model_look_133 (by decide) (fun _ => ?_) (fun c9 => absurd c9 (by decide))
                      have hb3 := hst.2 (fun q => by obtain ⟨q1, q2⟩ := q; omega)
                      refine lv_iinc (v := nI (l0 + 1)) (lv' := [(3, .int (nI (l0 + 1))), (5, .int (nI (0))), (4, .int (nI (j + l0))), (2, .int (nI (x))), (0, .ref (b 0)), (1, .int (nI (j)))]) hx hb d_Model_look_163 hl (k := 2) rfl (zz_inc _) (by decide) rfl (fun ls hl => ?_)
                      refine lv_goto (tgt := 65) hx hb d_Model_look_166 (by decide) ?_
                      exact ih_loop2 (l0 + 1) ya yf ys hb3 (by omega) (by omega) (by omega) H locs hP hD hS ls (lv_sub hl [0, 3, 4, 5] rfl)
                    · have c_103 : ¬ (((ya : Nat) : Int) < ((f 8 (j + l0) : Nat) : Int)) := fun q => c_103 ((zz_lt (nI_toInt (by omega)) (nI_toInt (by omega))).mpr q)
                      refine lv_iload hx hb d_Model_look_106 (lv_at hl 0 rfl) ?_
                      refine lv_aload_n hx hb d_Model_look_108 rfl (lv_at hl 3 rfl) ?_
                      refine va_get (D := (dC, dI)) (ci := 5) (v := .int (nI (v 3))) (C := "CutLengthsModel") (T := T_Model) (N := 24) hx hb hz i_Model hown hK hP 0 rfl rfl 3 (by decide) (hz _ tw_484) (fun _ h9 => h9) rfl d_Model_look_109 ?_
                      refine lv_icmp_eq (tgt := 124) hx hb d_Model_look_112 (by decide) (fun c_112 => ?_) (fun c_112 => ?_)
                      · have c_112 : ((j + l0 : Nat) : Int) = ((v 3 : Nat) : Int) := (zz_eq (nI_toInt (by omega)) (nI_toInt (by omega))).mp c_112
                        refine lv_iconst (v := nI (1)) hx hb d_Model_look_124 (by decide) ?_
                        refine lv_goto (tgt := 129) hx hb d_Model_look_125 (by decide) ?_
                        refine lv_istore (lv' := [(5, .int (nI (1))), (4, .int (nI (j + l0))), (3, .int (nI (l0))), (2, .int (nI (x))), (0, .ref (b 0)), (1, .int (nI (j)))]) hx hb d_Model_look_129 hl (by decide) rfl (fun ls hl => ?_)
                        refine lv_iload hx hb d_Model_look_131 (lv_at hl 0 rfl) ?_
                        refine lv_if_eq (tgt := 163) hx hb d_Model_look_133 (by decide) (fun c9 => absurd c9 (by decide)) (fun _ => ?_)
                        refine lv_aload_n hx hb d_Model_look_136 rfl (lv_at hl 4 rfl) ?_
                        refine va_get (D := (dC, dI)) (ci := 5) (v := .ref (b 10)) (C := "CutLengthsModel") (T := T_Model) (N := 24) hx hb hz i_Model hown hK hP 0 rfl rfl 20 (by decide) (hz _ tw_501) (fun _ h9 => h9) rfl d_Model_look_137 ?_
                        refine lv_iload_n hx hb d_Model_look_140 rfl (lv_at hl 5 rfl) ?_
                        refine lv_aload_n hx hb d_Model_look_141 rfl (lv_at hl 4 rfl) ?_
                        refine va_get (D := (dC, dI)) (ci := 5) (v := .ref (b 10)) (C := "CutLengthsModel") (T := T_Model) (N := 24) hx hb hz i_Model hown hK hP 0 rfl rfl 20 (by decide) (hz _ tw_501) (fun _ h9 => h9) rfl d_Model_look_142 ?_
                        refine lv_iload hx hb d_Model_look_145 (lv_at hl 1 rfl) ?_
                        refine zz_nald hx hb hK hP 10 0 (f := va_up (f 8) j ya) (i := j + l0) rfl rfl (by omega) (by decide) d_Model_look_147 ?_
                        refine zz_nast hx hb hK hP hD hS 10 0 (f := va_up (f 8) j ya) (i := j) (x := (va_up (f 8) j ya) (j + l0)) rfl rfl (by omega) (by decide) d_Model_look_148 (fun H locs hP hD hS => ?_)
                        have hP : va_P (dC, dI) vwCl (wM b cI v (zu (zu f 8 (va_up (va_up (f 8) j ya) j ((va_up (f 8) j ya) (j + l0)))) 9 (va_up (f 9) j ys)) (zu w 1 (va_up (w 1) j yf))) H := hP
                        have hD : va_D A (wM b cI v (zu (zu f 8 (va_up (va_up (f 8) j ya) j ((va_up (f 8) j ya) (j + l0)))) 9 (va_up (f 9) j ys)) (zu w 1 (va_up (w 1) j yf))) := hD
                        refine lv_aload_n hx hb d_Model_look_149 rfl (lv_at hl 4 rfl) ?_
                        refine va_get (D := (dC, dI)) (ci := 5) (v := .ref (b 11)) (C := "CutLengthsModel") (T := T_Model) (N := 24) hx hb hz i_Model hown hK hP 0 rfl rfl 21 (by decide) (hz _ tw_502) (fun _ h9 => h9) rfl d_Model_look_150 ?_
                        refine lv_iload_n hx hb d_Model_look_153 rfl (lv_at hl 5 rfl) ?_
                        refine lv_iload_n hx hb d_Model_look_154 rfl (lv_at hl 3 rfl) ?_
                        refine zz_iast hx hb hK hP hD hS 11 0 (f := va_up (w 1) j yf) (i := j) (x := nI (x)) rfl rfl (by omega) (by decide) d_Model_look_155 (fun H locs hP hD hS => ?_)
                        have hP : va_P (dC, dI) vwCl (wM b cI v (zu (zu f 8 (va_up (va_up (f 8) j ya) j ((va_up (f 8) j ya) (j + l0)))) 9 (va_up (f 9) j ys)) (zu w 1 (va_up (va_up (w 1) j yf) j (nI (x))))) H := hP
                        have hD : va_D A (wM b cI v (zu (zu f 8 (va_up (va_up (f 8) j ya) j ((va_up (f 8) j ya) (j + l0)))) 9 (va_up (f 9) j ys)) (zu w 1 (va_up (va_up (w 1) j yf) j (nI (x))))) := hD
                        refine lv_aload_n hx hb d_Model_look_156 rfl (lv_at hl 4 rfl) ?_
                        refine va_get (D := (dC, dI)) (ci := 5) (v := .ref (b 12)) (C := "CutLengthsModel") (T := T_Model) (N := 24) hx hb hz i_Model hown hK hP 0 rfl rfl 22 (by decide) (hz _ tw_503) (fun _ h9 => h9) rfl d_Model_look_157 ?_
                        refine lv_iload_n hx hb d_Model_look_160 rfl (lv_at hl 5 rfl) ?_
                        refine lv_iload_n hx hb d_Model_look_161 rfl (lv_at hl 2 rfl) ?_
                        refine zz_nast hx hb hK hP hD hS 12 0 (f := va_up (f 9) j ys) (i := j) (x := l0) rfl rfl (by omega) (by decide) d_Model_look_162 (fun H locs hP hD hS => ?_)
                        have hP : va_P (dC, dI) vwCl (wM b cI v (zu (zu f 8 (va_up (va_up (f 8) j ya) j ((va_up (f 8) j ya) (j + l0)))) 9 (va_up (va_up (f 9) j ys) j l0)) (zu w 1 (va_up (va_up (w 1) j yf) j (nI (x))))) H := hP
                        have hD : va_D A (wM b cI v (zu (zu f 8 (va_up (va_up (f 8) j ya) j ((va_up (f 8) j ya) (j + l0)))) 9 (va_up (va_up (f 9) j ys) j l0)) (zu w 1 (va_up (va_up (w 1) j yf) j (nI (x))))) := hD
                        simp only [bx_uu, e1] at hP hD
                        have hP : va_P (dC, dI) vwCl (wM b cI v (zu (zu f 8 (va_up (f 8) j (f 8 (j + l0)))) 9 (va_up (f 9) j l0)) (zu w 1 (va_up (w 1) j (nI x)))) H := hP
                        have hD : va_D A (wM b cI v (zu (zu f 8 (va_up (f 8) j (f 8 (j + l0)))) 9 (va_up (f 9) j l0)) (zu w 1 (va_up (w 1) j (nI x)))) := hD
                        have hb3 := hst.1 (by omega) (by omega)
                        refine lv_iinc (v := nI (l0 + 1)) (lv' := [(3, .int (nI (l0 + 1))), (5, .int (nI (1))), (4, .int (nI (j + l0))), (2, .int (nI (x))), (0, .ref (b 0)), (1, .int (nI (j)))]) hx hb d_Model_look_163 hl (k := 2) rfl (zz_inc _) (by decide) rfl (fun ls hl => ?_)
                        refine lv_goto (tgt := 65) hx hb d_Model_look_166 (by decide) ?_
                        exact ih_loop2 (l0 + 1) (f 8 (j + l0)) (nI x) l0 hb3 (by omega) (by omega) (by omega) H locs hP hD hS ls (lv_sub hl [0, 3, 4, 5] rfl)
                      · have c_112 : ¬ (((j + l0 : Nat) : Int) = ((v 3 : Nat) : Int)) := fun q => c_112 ((zz_eq (nI_toInt (by omega)) (nI_toInt (by omega))).mpr q)
                        refine lv_aload_n hx hb d_Model_look_115 rfl (lv_at hl 3 rfl) ?_
                        refine lv_iload hx hb d_Model_look_116 (lv_at hl 0 rfl) ?_
                        refine zz_ro (va_runV (As := [.int (nI (j + l0))]) (rest := []) ⟨hx, hb, hml, hown, hz⟩ (c_Model_isBarred l dC dI b cI v (zu (zu f 8 (va_up (f 8) j ya)) 9 (va_up (f 9) j ys)) (zu w 1 (va_up (w 1) j yf)) (j + l0) (by omega) hJ) (cwV (C := "CutLengthsModel") 1 hz (zgV tw_617 tw_619 tw_12 tw_20 tw_620) rfl rfl rfl (by decide +kernel) ⟨Nat.le_of_ble_eq_true rfl, Nat.le_of_ble_eq_true rfl⟩) ⟨(fun a U g mk q => ⟨q.1, q.2.1, va_K.moved (u := U) (U := U.calling g mk a) (Vm.Alike.refl U.vm) q.2.2⟩), va_recv hK hP (ci := 5) (q0 := 0) rfl rfl, fun U hU hW => ⟨rfl, by rw [hU]; exact hP, va_K.moved hW.alike hK⟩⟩ rfl rfl hl.1 rfl (lv_room (Nat.le_of_ble_eq_true rfl)) d_Model_look_118 ⟨Nat.zero_le _, Nat.zero_le _⟩) ?_
                        refine zz_top (show _ = nI (zMB v f (j + l0)) from rfl) ?_
                        have hmb3 : zMB v f (j + l0) ≤ 1 := zbar_le (v 9)
                        refine lv_if_ne (tgt := 128) hx hb d_Model_look_121 (by decide) (fun c_121 => ?_) (fun c_121 => ?_)
                        · have c_121 : ¬ (((zMB v f (j + l0) : Nat) : Int) = (0 : Int)) := fun q => c_121 ((zz_eq (nI_toInt (by omega)) ((by decide))).mpr q)
                          refine lv_iconst (v := nI (0)) hx hb d_Model_look_128 (by decide) ?_
                          refine lv_istore (lv' := [(5, .int (nI (0))), (4, .int (nI (j + l0))), (3, .int (nI (l0))), (2, .int (nI (x))), (0, .ref (b 0)), (1, .int (nI (j)))]) hx hb d_Model_look_129 hl (by decide) rfl (fun ls hl => ?_)
                          refine lv_iload hx hb d_Model_look_131 (lv_at hl 0 rfl) ?_
                          refine lv_if_eq (tgt := 163) hx hb d_Model_look_133 (by decide) (fun _ => ?_) (fun c9 => absurd c9 (by decide))
                          have hb3 := hst.2 (fun q => by obtain ⟨q1, q2⟩ := q; omega)
                          refine lv_iinc (v := nI (l0 + 1)) (lv' := [(3, .int (nI (l0 + 1))), (5, .int (nI (0))), (4, .int (nI (j + l0))), (2, .int (nI (x))), (0, .ref (b 0)), (1, .int (nI (j)))]) hx hb d_Model_look_163 hl (k := 2) rfl (zz_inc _) (by decide) rfl (fun ls hl => ?_)
                          refine lv_goto (tgt := 65) hx hb d_Model_look_166 (by decide) ?_
                          exact ih_loop2 (l0 + 1) ya yf ys hb3 (by omega) (by omega) (by omega) H locs hP hD hS ls (lv_sub hl [0, 3, 4, 5] rfl)
                        · have c_121 : ((zMB v f (j + l0) : Nat) : Int) = (0 : Int) := (zz_eq (nI_toInt (by omega)) ((by decide))).mp c_121
                          refine lv_iconst (v := nI (1)) hx hb d_Model_look_124 (by decide) ?_
                          refine lv_goto (tgt := 129) hx hb d_Model_look_125 (by decide) ?_
                          refine lv_istore (lv' := [(5, .int (nI (1))), (4, .int (nI (j + l0))), (3, .int (nI (l0))), (2, .int (nI (x))), (0, .ref (b 0)), (1, .int (nI (j)))]) hx hb d_Model_look_129 hl (by decide) rfl (fun ls hl => ?_)
                          refine lv_iload hx hb d_Model_look_131 (lv_at hl 0 rfl) ?_
                          refine lv_if_eq (tgt := 163) hx hb d_Model_look_133 (by decide) (fun c9 => absurd c9 (by decide)) (fun _ => ?_)
                          refine lv_aload_n hx hb d_Model_look_136 rfl (lv_at hl 4 rfl) ?_
                          refine va_get (D := (dC, dI)) (ci := 5) (v := .ref (b 10)) (C := "CutLengthsModel") (T := T_Model) (N := 24) hx hb hz i_Model hown hK hP 0 rfl rfl 20 (by decide) (hz _ tw_501) (fun _ h9 => h9) rfl d_Model_look_137 ?_
                          refine lv_iload_n hx hb d_Model_look_140 rfl (lv_at hl 5 rfl) ?_
                          refine lv_aload_n hx hb d_Model_look_141 rfl (lv_at hl 4 rfl) ?_
                          refine va_get (D := (dC, dI)) (ci := 5) (v := .ref (b 10)) (C := "CutLengthsModel") (T := T_Model) (N := 24) hx hb hz i_Model hown hK hP 0 rfl rfl 20 (by decide) (hz _ tw_501) (fun _ h9 => h9) rfl d_Model_look_142 ?_
                          refine lv_iload hx hb d_Model_look_145 (lv_at hl 1 rfl) ?_
                          refine zz_nald hx hb hK hP 10 0 (f := va_up (f 8) j ya) (i := j + l0) rfl rfl (by omega) (by decide) d_Model_look_147 ?_
                          refine zz_nast hx hb hK hP hD hS 10 0 (f := va_up (f 8) j ya) (i := j) (x := (va_up (f 8) j ya) (j + l0)) rfl rfl (by omega) (by decide) d_Model_look_148 (fun H locs hP hD hS => ?_)
                          have hP : va_P (dC, dI) vwCl (wM b cI v (zu (zu f 8 (va_up (va_up (f 8) j ya) j ((va_up (f 8) j ya) (j + l0)))) 9 (va_up (f 9) j ys)) (zu w 1 (va_up (w 1) j yf))) H := hP
                          have hD : va_D A (wM b cI v (zu (zu f 8 (va_up (va_up (f 8) j ya) j ((va_up (f 8) j ya) (j + l0)))) 9 (va_up (f 9) j ys)) (zu w 1 (va_up (w 1) j yf))) := hD
                          refine lv_aload_n hx hb d_Model_look_149 rfl (lv_at hl 4 rfl) ?_
                          refine va_get (D := (dC, dI)) (ci := 5) (v := .ref (b 11)) (C := "CutLengthsModel") (T := T_Model) (N := 24) hx hb hz i_Model hown hK hP 0 rfl rfl 21 (by decide) (hz _ tw_502) (fun _ h9 => h9) rfl d_Model_look_150 ?_
                          refine lv_iload_n hx hb d_Model_look_153 rfl (lv_at hl 5 rfl) ?_
                          refine lv_iload_n hx hb d_Model_look_154 rfl (lv_at hl 3 rfl) ?_
                          refine zz_iast hx hb hK hP hD hS 11 0 (f := va_up (w 1) j yf) (i := j) (x := nI (x)) rfl rfl (by omega) (by decide) d_Model_look_155 (fun H locs hP hD hS => ?_)
                          have hP : va_P (dC, dI) vwCl (wM b cI v (zu (zu f 8 (va_up (va_up (f 8) j ya) j ((va_up (f 8) j ya) (j + l0)))) 9 (va_up (f 9) j ys)) (zu w 1 (va_up (va_up (w 1) j yf) j (nI (x))))) H := hP
                          have hD : va_D A (wM b cI v (zu (zu f 8 (va_up (va_up (f 8) j ya) j ((va_up (f 8) j ya) (j + l0)))) 9 (va_up (f 9) j ys)) (zu w 1 (va_up (va_up (w 1) j yf) j (nI (x))))) := hD
                          refine lv_aload_n hx hb d_Model_look_156 rfl (lv_at hl 4 rfl) ?_
                          refine va_get (D := (dC, dI)) (ci := 5) (v := .ref (b 12)) (C := "CutLengthsModel") (T := T_Model) (N := 24) hx hb hz i_Model hown hK hP 0 rfl rfl 22 (by decide) (hz _ tw_503) (fun _ h9 => h9) rfl d_Model_look_157 ?_
                          refine lv_iload_n hx hb d_Model_look_160 rfl (lv_at hl 5 rfl) ?_
                          refine lv_iload_n hx hb d_Model_look_161 rfl (lv_at hl 2 rfl) ?_
                          refine zz_nast hx hb hK hP hD hS 12 0 (f := va_up (f 9) j ys) (i := j) (x := l0) rfl rfl (by omega) (by decide) d_Model_look_162 (fun H locs hP hD hS => ?_)
                          have hP : va_P (dC, dI) vwCl (wM b cI v (zu (zu f 8 (va_up (va_up (f 8) j ya) j ((va_up (f 8) j ya) (j + l0)))) 9 (va_up (va_up (f 9) j ys) j l0)) (zu w 1 (va_up (va_up (w 1) j yf) j (nI (x))))) H := hP
                          have hD : va_D A (wM b cI v (zu (zu f 8 (va_up (va_up (f 8) j ya) j ((va_up (f 8) j ya) (j + l0)))) 9 (va_up (va_up (f 9) j ys) j l0)) (zu w 1 (va_up (va_up (w 1) j yf) j (nI (x))))) := hD
                          simp only [bx_uu, e1] at hP hD
                          have hP : va_P (dC, dI) vwCl (wM b cI v (zu (zu f 8 (va_up (f 8) j (f 8 (j + l0)))) 9 (va_up (f 9) j l0)) (zu w 1 (va_up (w 1) j (nI x)))) H := hP
                          have hD : va_D A (wM b cI v (zu (zu f 8 (va_up (f 8) j (f 8 (j + l0)))) 9 (va_up (f 9) j l0)) (zu w 1 (va_up (w 1) j (nI x)))) := hD
                          have hb3 := hst.1 (by omega) (by omega)
                          refine lv_iinc (v := nI (l0 + 1)) (lv' := [(3, .int (nI (l0 + 1))), (5, .int (nI (1))), (4, .int (nI (j + l0))), (2, .int (nI (x))), (0, .ref (b 0)), (1, .int (nI (j)))]) hx hb d_Model_look_163 hl (k := 2) rfl (zz_inc _) (by decide) rfl (fun ls hl => ?_)
                          refine lv_goto (tgt := 65) hx hb d_Model_look_166 (by decide) ?_
                          exact ih_loop2 (l0 + 1) (f 8 (j + l0)) (nI x) l0 hb3 (by omega) (by omega) (by omega) H locs hP hD hS ls (lv_sub hl [0, 3, 4, 5] rfl)
            exact loop2 (f 1 x + 2) (f 0 x) xa xf xs (zinnerM hb1) (Nat.le_refl _) (by omega) (by omega) H locs hP hD hS ls (lv_sub hl [0, 1, 2, 3] rfl)
      exact loop (v 7 + 1) (v 7) (f 8 (j + 1) + 1) (-1) 1 (Nat.le_refl _) zbeginM (by omega) H locs hP hD hS ls (lv_sub hl [0, 1, 2] rfl)
    · have c_43 : ¬ (((zMB v f j : Nat) : Int) = (0 : Int)) := fun q => c_43 ((zz_eq (nI_toInt (by omega)) ((by decide))).mpr q)
      exact W.vret hx hb hr (fun t9 ht hW => ⟨⟨(f 8 (j + 1) + 1, -1, 1), rfl, (zB_nil (fun w l c => by have := c.1; omega)), by rw [ht]; exact hP, va_K.moved hW.alike hK, hD⟩, hS.F ht⟩) hS.2.2 d_Model_look_46
