/-! THE REFERENCE: plan, loss, part, cut (rows written by wip/whole/mk_model.py) -/
set_option maxHeartbeats 4000000 in
set_option maxRecDepth 100000 in
theorem c_Model_plan (l : Launch) (dC : Nat → ClassId) (dI : Nat → Nat → Nat) (b : Nat → Nat) (cI : ClassId) (v : Nat → Nat) (f : Nat → Nat → Nat) (w : Nat → Nat → Int32) (sz : Nat) (hJ : zJ v f) : Met l y_Model_plan (zw_Model_plan :: zW) ({ frames := 3, cells := 0, slots := 0, locals := 70 }) (va_Pc [.ref (b 0)] (fun U => U.heap.size = sz ∧ va_P (dC, dI) vwCl (wM b cI v f w) U.heap ∧ va_K (dC, dI) vwCl [(cI, .int)] U ∧ va_D (fun _ => True) (wM b cI v f w))) (va_Qv (fun (u : (Nat → Nat) × (Nat → Nat) × (Nat → Nat) × (Nat → Int32)) => zMP v f u.1 u.2.1 u.2.2.1 u.2.2.2) (fun (u : (Nat → Nat) × (Nat → Nat) × (Nat → Nat) × (Nat → Int32)) t => match u with | (L, S, Gd, F) => va_P (dC, dI) vwCl (wM b cI v (zu (zu (zu f 8 (L)) 9 (S)) 10 (Gd)) (zu w 1 (F))) t.heap ∧ va_K (dC, dI) vwCl [(cI, .int)] t ∧ va_D (va_A (wM b cI v f w) sz) (wM b cI v (zu (zu (zu f 8 (L)) 9 (S)) 10 (Gd)) (zu w 1 (F)))) (va_A (wM b cI v f w) sz)) 0 0 (va_A (wM b cI v f w) sz) := by
  refine Met.ofW (cc := prog_7_method_17_code) (maxL := 2) (ret := none) (by decide) rfl ?_
  intro p e s m args below meth c s₁ B hml hv
  obtain ⟨rfl, hsz, hP, hK, hD0⟩ := hv
  have hx := B.exec
  have hb := B.bytes
  have hr := B.returns
  have hz : ∀ w ∈ zW, w.before ([.ref (b 0)]).toArray s = true := fun w h => atoms_spec (ws := (zw_Model_plan :: zW)) B.pre w (List.mem_cons_of_mem _ h)
  have hown : s.vm.findClass "CutLengthsModel" = some m.cls := findClass_of_methodNamed B.named
  have hlocks := B.notSynchronized
  subst hsz
  have hD := hD0.self (sz := s.heap.size)
  generalize hAe : va_A (wM b cI v f w) s.heap.size = A at hD ⊢
  have hA : ∀ q : Nat, s.heap.size ≤ q → A q := fun q h => by rw [← hAe]; exact Or.inr h
  have hS : va_S A s.heap s.heap [] := va_S.rf
  have hP : va_P (dC, dI) vwCl (wM b cI v f w) s.heap := hP
  obtain ⟨j3, j4, j5, j6, j7, j8, j9, j10, j1, j2, jw, jb, jr, jsl⟩ := id hJ
  have hl := lv_entry ([.ref (b 0)]) (n := 2) (Nat.le_of_ble_eq_true rfl)
  rw [lg_entry_eq]
  generalize (lg_sl ([.ref (b 0)]) ++ List.replicate (2 - (lg_sl ([.ref (b 0)])).length) Slot.unset).toArray = ls at hl ⊢
  have hl : lv_has ls 2 [(0, .ref (b 0))] := hl
  refine lv_aload_n hx hb d_Model_plan_0 rfl (lv_at hl 0 rfl) ?_
  refine va_get (D := (dC, dI)) (ci := 5) (v := .ref (b 10)) (C := "CutLengthsModel") (T := T_Model) (N := 24) hx hb hz i_Model hown hK hP 0 rfl rfl 20 (by decide) (hz _ tw_501) (fun _ h9 => h9) rfl d_Model_plan_1 ?_
  refine lv_aload_n hx hb d_Model_plan_4 rfl (lv_at hl 0 rfl) ?_
  refine va_get (D := (dC, dI)) (ci := 5) (v := .int (nI (v 3))) (C := "CutLengthsModel") (T := T_Model) (N := 24) hx hb hz i_Model hown hK hP 0 rfl rfl 3 (by decide) (hz _ tw_484) (fun _ h9 => h9) rfl d_Model_plan_5 ?_
  refine lv_iconst (v := nI (0)) hx hb d_Model_plan_8 (by decide) ?_
  refine zz_nast hx hb hK hP hD hS 10 0 (f := f 8) (i := v 3) (x := 0) rfl rfl (by omega) (by decide) d_Model_plan_9 (fun H locs hP hD hS => ?_)
  have hP : va_P (dC, dI) vwCl (wM b cI v (zu f 8 (va_up (f 8) (v 3) 0)) w) H := hP
  have hD : va_D A (wM b cI v (zu f 8 (va_up (f 8) (v 3) 0)) w) := hD
  refine lv_aload_n hx hb d_Model_plan_10 rfl (lv_at hl 0 rfl) ?_
  refine va_get (D := (dC, dI)) (ci := 5) (v := .ref (b 13)) (C := "CutLengthsModel") (T := T_Model) (N := 24) hx hb hz i_Model hown hK hP 0 rfl rfl 23 (by decide) (hz _ tw_504) (fun _ h9 => h9) rfl d_Model_plan_11 ?_
  refine lv_aload_n hx hb d_Model_plan_14 rfl (lv_at hl 0 rfl) ?_
  refine va_get (D := (dC, dI)) (ci := 5) (v := .int (nI (v 3))) (C := "CutLengthsModel") (T := T_Model) (N := 24) hx hb hz i_Model hown hK hP 0 rfl rfl 3 (by decide) (hz _ tw_484) (fun _ h9 => h9) rfl d_Model_plan_15 ?_
  refine lv_iconst (v := nI (0)) hx hb d_Model_plan_18 (by decide) ?_
  refine zz_nast hx hb hK hP hD hS 13 0 (f := f 10) (i := v 3) (x := 0) rfl rfl (by omega) (by decide) d_Model_plan_19 (fun H locs hP hD hS => ?_)
  have hP : va_P (dC, dI) vwCl (wM b cI v (zu (zu f 8 (va_up (f 8) (v 3) 0)) 10 (va_up (f 10) (v 3) 0)) w) H := hP
  have hD : va_D A (wM b cI v (zu (zu f 8 (va_up (f 8) (v 3) 0)) 10 (va_up (f 10) (v 3) 0)) w) := hD
  refine lv_aload_n hx hb d_Model_plan_20 rfl (lv_at hl 0 rfl) ?_
  refine va_get (D := (dC, dI)) (ci := 5) (v := .int (nI (v 3))) (C := "CutLengthsModel") (T := T_Model) (N := 24) hx hb hz i_Model hown hK hP 0 rfl rfl 3 (by decide) (hz _ tw_484) (fun _ h9 => h9) rfl d_Model_plan_21 ?_
  refine lv_iconst (v := nI (1)) hx hb d_Model_plan_24 (by decide) ?_
  refine lv_isub hx hb d_Model_plan_25 ?_
  refine lv_istore_n (lv' := [(1, .int (nI (v 3) - nI (1))), (0, .ref (b 0))]) hx hb d_Model_plan_26 rfl hl (by decide) rfl (fun ls hl => ?_)
  have loop : ∀ (n : Nat) (k : Nat) (L S Gd : Nat → Nat) (F : Nat → Int32), (v 4 ≤ k) → (k ≤ v 3) → (zinvM (v 3) (v 4) (v 7) (f 0) (f 1) (zMG v f) (zMB v f) k L F S Gd) → (k < v 4 + n) → ∀ (H : Heap) (locs : List Loc), va_P (dC, dI) vwCl (wM b cI v (zu (zu (zu f 8 (L)) 9 (S)) 10 (Gd)) (zu w 1 (F))) H → va_D A (wM b cI v (zu (zu (zu f 8 (L)) 9 (S)) 10 (Gd)) (zu w 1 (F))) → va_S A s.heap H locs → ∀ ls : Array Slot, lv_has ls 2 [(1, .int (nI k - nI 1)), (0, .ref (b 0))] → W p l e (headSpec (zw_Model_plan :: zW) ({ frames := 3, cells := 0, slots := 0, locals := 70 })).room s m ([.ref (b 0)]).toArray below meth c H locs 0 0 (MQ below (va_Qv (fun (u : (Nat → Nat) × (Nat → Nat) × (Nat → Nat) × (Nat → Int32)) => zMP v f u.1 u.2.1 u.2.2.1 u.2.2.2) (fun (u : (Nat → Nat) × (Nat → Nat) × (Nat → Nat) × (Nat → Int32)) t => match u with | (L, S, Gd, F) => va_P (dC, dI) vwCl (wM b cI v (zu (zu (zu f 8 (L)) 9 (S)) 10 (Gd)) (zu w 1 (F))) t.heap ∧ va_K (dC, dI) vwCl [(cI, .int)] t ∧ va_D A (wM b cI v (zu (zu (zu f 8 (L)) 9 (S)) 10 (Gd)) (zu w 1 (F)))) A) ([.ref (b 0)]).toArray s 0 0 A) (F0 m 27 ls []) := by
    intro n
    induction n with
    | zero =>
      intro k L S Gd F hk1 hk2 hinv hn
      exact absurd hn (by omega)
    | succ n ih_loop =>
      intro k L S Gd F hk1 hk2 hinv hn H locs hP hD hS ls hl
      refine lv_iload_n hx hb d_Model_plan_27 rfl (lv_at hl 0 rfl) ?_
      refine lv_aload_n hx hb d_Model_plan_28 rfl (lv_at hl 1 rfl) ?_
      refine va_get (D := (dC, dI)) (ci := 5) (v := .int (nI (v 4))) (C := "CutLengthsModel") (T := T_Model) (N := 24) hx hb hz i_Model hown hK hP 0 rfl rfl 4 (by decide) (hz _ tw_485) (fun _ h9 => h9) rfl d_Model_plan_29 ?_
      refine lv_icmp_lt (tgt := 74) hx hb d_Model_plan_32 (by decide) (fun c_32 => ?_) (fun c_32 => ?_)
      · have c_32 : ((k : Nat) : Int) - ((1 : Nat) : Int) < ((v 4 : Nat) : Int) := (zz_lt (pk_sub_toInt (by omega) (by omega)) (nI_toInt (by omega))).mp c_32
        exact W.vret hx hb hr (fun t9 ht hW => ⟨⟨(L, S, Gd, F), rfl, (by rw [show k = v 4 from by omega] at hinv; exact hinv), by rw [ht]; exact hP, va_K.moved hW.alike hK, hD⟩, hS.F ht⟩) hS.2.2 d_Model_plan_74
      · have c_32 : ¬ (((k : Nat) : Int) - ((1 : Nat) : Int) < ((v 4 : Nat) : Int)) := fun q => c_32 ((zz_lt (pk_sub_toInt (by omega) (by omega)) (nI_toInt (by omega))).mpr q)
        obtain ⟨j, rfl⟩ : ∃ j, k = j + 1 := ⟨k - 1, by omega⟩
        rw [show nI (j + 1) - nI 1 = nI j from nI_pred j] at hl
        have hl : lv_has ls 2 [(1, .int (nI (j))), (0, .ref (b 0))] := hl
        have hrs := zrun_s (G := zMG v f) (n := v 3) (p := j) (by omega)
        have hrl := zrun_le (G := zMG v f) (n := v 3) (p := j)
        have hi1 := hinv.2.2.2 (j + 1) (Nat.le_refl _) hk2
        have hmg : zMG v f j ≤ 1 := zgd_le (by split <;> omega) (v 8)
        refine lv_aload_n hx hb d_Model_plan_35 rfl (lv_at hl 1 rfl) ?_
        refine va_get (D := (dC, dI)) (ci := 5) (v := .ref (b 13)) (C := "CutLengthsModel") (T := T_Model) (N := 24) hx hb hz i_Model hown hK hP 0 rfl rfl 23 (by decide) (hz _ tw_504) (fun _ h9 => h9) rfl d_Model_plan_36 ?_
        refine lv_iload_n hx hb d_Model_plan_39 rfl (lv_at hl 0 rfl) ?_
        refine lv_aload_n hx hb d_Model_plan_40 rfl (lv_at hl 1 rfl) ?_
        refine lv_iload_n hx hb d_Model_plan_41 rfl (lv_at hl 0 rfl) ?_
        refine zz_ro (va_runV (As := [.int (nI (j))]) (rest := [.int (nI (j)), .ref (b 13)]) ⟨hx, hb, hml, hown, hz⟩ (c_Model_isGood l dC dI b cI v (zu (zu (zu f 8 (L)) 9 (S)) 10 (Gd)) (zu w 1 (F)) (j) (by omega) hJ) (cwV (C := "CutLengthsModel") 1 hz (zgV tw_609 tw_611 tw_10 tw_20 tw_612) rfl rfl rfl (by decide +kernel) ⟨Nat.le_of_ble_eq_true rfl, Nat.le_of_ble_eq_true rfl⟩) ⟨(fun a U g mk q => ⟨q.1, q.2.1, va_K.moved (u := U) (U := U.calling g mk a) (Vm.Alike.refl U.vm) q.2.2⟩), va_recv hK hP (ci := 5) (q0 := 0) rfl rfl, fun U hU hW => ⟨rfl, by rw [hU]; exact hP, va_K.moved hW.alike hK⟩⟩ rfl rfl hl.1 rfl (lv_room (Nat.le_of_ble_eq_true rfl)) d_Model_plan_42 ⟨Nat.zero_le _, Nat.zero_le _⟩) ?_
        refine zz_top (show _ = nI (zMG v f j) from rfl) ?_
        refine lv_if_eq (tgt := 61) hx hb d_Model_plan_45 (by decide) (fun c_45 => ?_) (fun c_45 => ?_)
        · have c_45 : ((zMG v f j : Nat) : Int) = (0 : Int) := (zz_eq (nI_toInt (by omega)) ((by decide))).mp c_45
          refine lv_iconst (v := nI (0)) hx hb d_Model_plan_61 (by decide) ?_
          refine zz_nast hx hb hK hP hD hS 13 0 (f := Gd) (i := j) (x := 0) rfl rfl (by omega) (by decide) d_Model_plan_62 (fun H locs hP hD hS => ?_)
          have hP : va_P (dC, dI) vwCl (wM b cI v (zu (zu (zu f 8 (L)) 9 (S)) 10 (va_up Gd j 0)) (zu w 1 (F))) H := hP
          have hD : va_D A (wM b cI v (zu (zu (zu f 8 (L)) 9 (S)) 10 (va_up Gd j 0)) (zu w 1 (F))) := hD
          have hg9 : va_up Gd j 0 j = zrun (zMG v f) (v 3) j := by rw [va_up_self, hrs, if_pos (by omega)]
          have hr9 : j + zrun (zMG v f) (v 3) j ≤ v 3 := by omega
          have hL9 : ∀ q, j + 1 ≤ q → q ≤ v 3 → L q ≤ 299 := fun q h1 h2 => by have := (hinv.2.2.2 q h1 h2).2; omega
          refine lv_aload_n hx hb d_Model_plan_63 rfl (lv_at hl 1 rfl) ?_
          refine lv_iload_n hx hb d_Model_plan_64 rfl (lv_at hl 0 rfl) ?_
          have hFc := va_free (wc := (wM b cI v (zu (zu (zu f 8 (L)) 9 (S)) 10 (va_up Gd j 0)) (zu w 1 (F)))) hD hS hA [0, 1, 2, 3, 4, 5, 6, 7, 8, 9, 10, 11, 12, 13] rfl
          refine va_callv (va_runV (As := [.int (nI (j))]) (rest := []) ⟨hx, hb, hml, hown, hz⟩ (c_Model_look l dC dI b cI v (zu (zu (zu f 8 (L)) 9 (S)) 10 (va_up Gd j 0)) (zu w 1 (F)) (H).size (j) (zrun (zMG v f) (v 3) j) (by omega) hr9 hJ hg9 hL9) (cwV (C := "CutLengthsModel") 1 hz (zgV tw_613 tw_615 tw_11 tw_20 tw_616) rfl rfl rfl (by decide +kernel) ⟨Nat.le_of_ble_eq_true rfl, Nat.le_of_ble_eq_true rfl⟩) ⟨(fun a U g mk q => by obtain ⟨q0, q1, qP, qK, qD⟩ := q; exact ⟨q0, q1, qP, va_K.moved (u := U) (U := U.calling g mk a) (Vm.Alike.refl U.vm) qK, qD⟩), va_recv hK hP (ci := 5) (q0 := 0) rfl rfl, fun U hU hW => ⟨rfl, by rw [hU], by rw [hU]; exact hP, va_K.moved hW.alike hK, hD.weaken (fun _ _ _ _ => trivial)⟩⟩ rfl rfl hl.1 rfl (lv_room (Nat.le_of_ble_eq_true rfl)) d_Model_plan_65 ⟨Nat.zero_le _, Nat.zero_le _⟩) hS (fun q _ h => hFc q h) hFc (fun u9 t9 H1 locs ht hvm hw hB hz1 hk1 hS => ?_)
          obtain ⟨x_65, y_65, z_65⟩ := u9
          obtain ⟨hP1, hK1, hD1⟩ := hB
          rw [ht] at hP1
          obtain ⟨hP, hD⟩ := va_join (wr := []) (w1 := (wM b cI v (zu (zu (zu f 8 (va_up L j x_65)) 9 (va_up S j z_65)) 10 (va_up Gd j 0)) (zu w 1 (va_up F j y_65)))) hP hD [0, 1, 2, 3, 4, 5, 6, 7, 8, 9, 10, 11, 12, 13] [] rfl rfl (by decide) (by decide) hk1 hFc hP1 hD1
          generalize H1 = H at hP hS ⊢
          have hP : va_P (dC, dI) vwCl (wM b cI v (zu (zu (zu f 8 (va_up L j x_65)) 9 (va_up S j z_65)) 10 (va_up Gd j 0)) (zu w 1 (va_up F j y_65))) H := hP
          have hD : va_D A (wM b cI v (zu (zu (zu f 8 (va_up L j x_65)) 9 (va_up S j z_65)) 10 (va_up Gd j 0)) (zu w 1 (va_up F j y_65))) := hD
          have hb9 : zB (zcand (v 3) (v 4) (v 7) (f 0) (f 1) (zMB v f) (zrun (zMG v f) (v 3) j) j) L j (L (j + 1) + 1) 1 x_65 y_65 z_65 := hw
          refine lv_iinc (v := nI (j) - nI 1) (lv' := [(1, .int (nI (j) - nI 1)), (0, .ref (b 0))]) hx hb d_Model_plan_68 hl (k := 0) rfl (zz_dec _) (by decide) rfl (fun ls hl => ?_)
          refine lv_goto (tgt := 27) hx hb d_Model_plan_71 (by decide) ?_
          exact ih_loop j (va_up L j x_65) (va_up S j z_65) (va_up Gd j 0) (va_up F j y_65) (by omega) (by omega) (zinvM_step (fun w q => (jw w q).1) hinv (by omega) hb9 (va_up_self _ _ _) (fun q hq => va_up_ne _ _ hq) (va_up_self _ _ _) (fun q hq => va_up_ne _ _ hq) (va_up_self _ _ _) (fun q hq => va_up_ne _ _ hq) hg9 (fun q hq => va_up_ne _ _ hq)) (by omega) H locs hP hD hS ls (lv_sub hl [0, 1] rfl)
        · have c_45 : ¬ (((zMG v f j : Nat) : Int) = (0 : Int)) := fun q => c_45 ((zz_eq (nI_toInt (by omega)) ((by decide))).mpr q)
          refine lv_aload_n hx hb d_Model_plan_48 rfl (lv_at hl 1 rfl) ?_
          refine va_get (D := (dC, dI)) (ci := 5) (v := .ref (b 13)) (C := "CutLengthsModel") (T := T_Model) (N := 24) hx hb hz i_Model hown hK hP 0 rfl rfl 23 (by decide) (hz _ tw_504) (fun _ h9 => h9) rfl d_Model_plan_49 ?_
          refine lv_iload_n hx hb d_Model_plan_52 rfl (lv_at hl 0 rfl) ?_
          refine lv_iconst (v := nI (1)) hx hb d_Model_plan_53 (by decide) ?_
          refine lv_iadd hx hb d_Model_plan_54 ?_
          refine zz_top (nI_add (j) (1)) ?_
          refine zz_nald hx hb hK hP 13 0 (f := Gd) (i := j + 1) rfl rfl (by omega) (by decide) d_Model_plan_55 ?_
          refine lv_iconst (v := nI (1)) hx hb d_Model_plan_56 (by decide) ?_
          refine lv_iadd hx hb d_Model_plan_57 ?_
          refine zz_top (nI_add ((Gd) (j + 1)) (1)) ?_
          refine lv_goto (tgt := 62) hx hb d_Model_plan_58 (by decide) ?_
          refine zz_nast hx hb hK hP hD hS 13 0 (f := Gd) (i := j) (x := ((Gd) (j + 1)) + 1) rfl rfl (by omega) (by decide) d_Model_plan_62 (fun H locs hP hD hS => ?_)
          have hP : va_P (dC, dI) vwCl (wM b cI v (zu (zu (zu f 8 (L)) 9 (S)) 10 (va_up Gd j (((Gd) (j + 1)) + 1))) (zu w 1 (F))) H := hP
          have hD : va_D A (wM b cI v (zu (zu (zu f 8 (L)) 9 (S)) 10 (va_up Gd j (((Gd) (j + 1)) + 1))) (zu w 1 (F))) := hD
          have hg9 : va_up Gd j (Gd (j + 1) + 1) j = zrun (zMG v f) (v 3) j := by rw [va_up_self, hrs, if_neg (by omega), hi1.1]
          have hr9 : j + zrun (zMG v f) (v 3) j ≤ v 3 := by omega
          have hL9 : ∀ q, j + 1 ≤ q → q ≤ v 3 → L q ≤ 299 := fun q h1 h2 => by have := (hinv.2.2.2 q h1 h2).2; omega
          refine lv_aload_n hx hb d_Model_plan_63 rfl (lv_at hl 1 rfl) ?_
          refine lv_iload_n hx hb d_Model_plan_64 rfl (lv_at hl 0 rfl) ?_
          have hFc := va_free (wc := (wM b cI v (zu (zu (zu f 8 (L)) 9 (S)) 10 (va_up Gd j (((Gd) (j + 1)) + 1))) (zu w 1 (F)))) hD hS hA [0, 1, 2, 3, 4, 5, 6, 7, 8, 9, 10, 11, 12, 13] rfl
          refine va_callv (va_runV (As := [.int (nI (j))]) (rest := []) ⟨hx, hb, hml, hown, hz⟩ (c_Model_look l dC dI b cI v (zu (zu (zu f 8 (L)) 9 (S)) 10 (va_up Gd j (((Gd) (j + 1)) + 1))) (zu w 1 (F)) (H).size (j) (zrun (zMG v f) (v 3) j) (by omega) hr9 hJ hg9 hL9) (cwV (C := "CutLengthsModel") 1 hz (zgV tw_613 tw_615 tw_11 tw_20 tw_616) rfl rfl rfl (by decide +kernel) ⟨Nat.le_of_ble_eq_true rfl, Nat.le_of_ble_eq_true rfl⟩) ⟨(fun a U g mk q => by obtain ⟨q0, q1, qP, qK, qD⟩ := q; exact ⟨q0, q1, qP, va_K.moved (u := U) (U := U.calling g mk a) (Vm.Alike.refl U.vm) qK, qD⟩), va_recv hK hP (ci := 5) (q0 := 0) rfl rfl, fun U hU hW => ⟨rfl, by rw [hU], by rw [hU]; exact hP, va_K.moved hW.alike hK, hD.weaken (fun _ _ _ _ => trivial)⟩⟩ rfl rfl hl.1 rfl (lv_room (Nat.le_of_ble_eq_true rfl)) d_Model_plan_65 ⟨Nat.zero_le _, Nat.zero_le _⟩) hS (fun q _ h => hFc q h) hFc (fun u9 t9 H1 locs ht hvm hw hB hz1 hk1 hS => ?_)
          obtain ⟨x_65, y_65, z_65⟩ := u9
          obtain ⟨hP1, hK1, hD1⟩ := hB
          rw [ht] at hP1
          obtain ⟨hP, hD⟩ := va_join (wr := []) (w1 := (wM b cI v (zu (zu (zu f 8 (va_up L j x_65)) 9 (va_up S j z_65)) 10 (va_up Gd j (((Gd) (j + 1)) + 1))) (zu w 1 (va_up F j y_65)))) hP hD [0, 1, 2, 3, 4, 5, 6, 7, 8, 9, 10, 11, 12, 13] [] rfl rfl (by decide) (by decide) hk1 hFc hP1 hD1
          generalize H1 = H at hP hS ⊢
          have hP : va_P (dC, dI) vwCl (wM b cI v (zu (zu (zu f 8 (va_up L j x_65)) 9 (va_up S j z_65)) 10 (va_up Gd j (((Gd) (j + 1)) + 1))) (zu w 1 (va_up F j y_65))) H := hP
          have hD : va_D A (wM b cI v (zu (zu (zu f 8 (va_up L j x_65)) 9 (va_up S j z_65)) 10 (va_up Gd j (((Gd) (j + 1)) + 1))) (zu w 1 (va_up F j y_65))) := hD
          have hb9 : zB (zcand (v 3) (v 4) (v 7) (f 0) (f 1) (zMB v f) (zrun (zMG v f) (v 3) j) j) L j (L (j + 1) + 1) 1 x_65 y_65 z_65 := hw
          refine lv_iinc (v := nI (j) - nI 1) (lv' := [(1, .int (nI (j) - nI 1)), (0, .ref (b 0))]) hx hb d_Model_plan_68 hl (k := 0) rfl (zz_dec _) (by decide) rfl (fun ls hl => ?_)
          refine lv_goto (tgt := 27) hx hb d_Model_plan_71 (by decide) ?_
          exact ih_loop j (va_up L j x_65) (va_up S j z_65) (va_up Gd j (Gd (j + 1) + 1)) (va_up F j y_65) (by omega) (by omega) (zinvM_step (fun w q => (jw w q).1) hinv (by omega) hb9 (va_up_self _ _ _) (fun q hq => va_up_ne _ _ hq) (va_up_self _ _ _) (fun q hq => va_up_ne _ _ hq) (va_up_self _ _ _) (fun q hq => va_up_ne _ _ hq) hg9 (fun q hq => va_up_ne _ _ hq)) (by omega) H locs hP hD hS ls (lv_sub hl [0, 1] rfl)
  exact loop (v 3 + 1) (v 3) (va_up (f 8) (v 3) 0) (f 9) (va_up (f 10) (v 3) 0) (w 1) j4 (Nat.le_refl _) (zinvM_0 (va_up_self _ _ _) (va_up_self _ _ _)) (by omega) H locs hP hD hS ls (lv_sub hl [0, 1] rfl)
set_option maxHeartbeats 4000000 in
set_option maxRecDepth 100000 in
theorem c_Model_loss (l : Launch) (dC : Nat → ClassId) (dI : Nat → Nat → Nat) (b : Nat → Nat) (cI : ClassId) (v : Nat → Nat) (f : Nat → Nat → Nat) (w : Nat → Nat → Int32) (sz : Nat) (hJ : zJ v f) : Met l y_Model_loss (zw_Model_loss :: zW) ({ frames := 4, cells := 0, slots := 0, locals := 91 }) (va_Pc [.ref (b 0)] (fun U => U.heap.size = sz ∧ va_P (dC, dI) vwCl (wM b cI v f w) U.heap ∧ va_K (dC, dI) vwCl [(cI, .int)] U ∧ va_D (fun _ => True) (wM b cI v f w))) (va_Qi (fun (r : Int32) (u : (Nat → Nat) × (Nat → Nat) × (Nat → Nat) × (Nat → Int32)) => zMP v f u.1 u.2.1 u.2.2.1 u.2.2.2 ∧ r = nI (u.1 (v 4))) (fun (u : (Nat → Nat) × (Nat → Nat) × (Nat → Nat) × (Nat → Int32)) t => match u with | (L, S, Gd, F) => va_P (dC, dI) vwCl (wM b cI (zu v 0 (0)) (zu (zu (zu f 8 (L)) 9 (S)) 10 (Gd)) (zu w 1 (F))) t.heap ∧ va_K (dC, dI) vwCl [(cI, .int)] t ∧ va_D (va_A (wM b cI v f w) sz) (wM b cI (zu v 0 (0)) (zu (zu (zu f 8 (L)) 9 (S)) 10 (Gd)) (zu w 1 (F)))) (va_A (wM b cI v f w) sz)) 0 0 (va_A (wM b cI v f w) sz) := by
  refine Met.ofW (cc := prog_7_method_18_code) (maxL := 1) (ret := (some .int)) (by decide) rfl ?_
  intro p e s m args below meth c s₁ B hml hv
  obtain ⟨rfl, hsz, hP, hK, hD0⟩ := hv
  have hx := B.exec
  have hb := B.bytes
  have hr := B.returns
  have hz : ∀ w ∈ zW, w.before ([.ref (b 0)]).toArray s = true := fun w h => atoms_spec (ws := (zw_Model_loss :: zW)) B.pre w (List.mem_cons_of_mem _ h)
  have hown : s.vm.findClass "CutLengthsModel" = some m.cls := findClass_of_methodNamed B.named
  have hlocks := B.notSynchronized
  subst hsz
  have hD := hD0.self (sz := s.heap.size)
  generalize hAe : va_A (wM b cI v f w) s.heap.size = A at hD ⊢
  have hA : ∀ q : Nat, s.heap.size ≤ q → A q := fun q h => by rw [← hAe]; exact Or.inr h
  have hS : va_S A s.heap s.heap [] := va_S.rf
  have hP : va_P (dC, dI) vwCl (wM b cI v f w) s.heap := hP
  obtain ⟨j3, j4, j5, j6, j7, j8, j9, j10, j1, j2, jw, jb, jr, jsl⟩ := id hJ
  have hl := lv_entry ([.ref (b 0)]) (n := 1) (Nat.le_of_ble_eq_true rfl)
  rw [lg_entry_eq]
  generalize (lg_sl ([.ref (b 0)]) ++ List.replicate (1 - (lg_sl ([.ref (b 0)])).length) Slot.unset).toArray = ls at hl ⊢
  have hl : lv_has ls 1 [(0, .ref (b 0))] := hl
  refine lv_aload_n hx hb d_Model_loss_0 rfl (lv_at hl 0 rfl) ?_
  refine lv_iconst (v := nI (0)) hx hb d_Model_loss_1 (by decide) ?_
  refine va_put (D := (dC, dI)) (ci := 5) (v := .int (nI (0))) (ty := .int) (C := "CutLengthsModel") (T := T_Model) (N := 24) hx hb hz i_Model t_Model t_Model_ok n_Model hown hK hP hD hS 0 rfl rfl 0 (by decide) (hz _ tw_481) (fun _ h9 => h9) rfl (by decide +kernel) rfl rfl (Nat.le_of_ble_eq_true rfl) d_Model_loss_2 (fun H locs hP hD hS => ?_)
  have hP : va_P (dC, dI) vwCl (wM b cI (zu v 0 (0)) f w) H := hP
  have hD : va_D A (wM b cI (zu v 0 (0)) f w) := hD
  refine lv_aload_n hx hb d_Model_loss_5 rfl (lv_at hl 0 rfl) ?_
  have hFc := va_free (wc := (wM b cI (zu v 0 (0)) f w)) hD hS hA [0, 1, 2, 3, 4, 5, 6, 7, 8, 9, 10, 11, 12, 13] rfl
  refine va_callv (va_runV (As := []) (rest := []) ⟨hx, hb, hml, hown, hz⟩ (c_Model_plan l dC dI b cI (zu v 0 (0)) f w (H).size hJ) (cwV (C := "CutLengthsModel") 0 hz (zgV tw_605 tw_607 tw_9 tw_20 tw_608) rfl rfl rfl (by decide +kernel) ⟨Nat.le_of_ble_eq_true rfl, Nat.le_of_ble_eq_true rfl⟩) ⟨(fun a U g mk q => by obtain ⟨q0, q1, qP, qK, qD⟩ := q; exact ⟨q0, q1, qP, va_K.moved (u := U) (U := U.calling g mk a) (Vm.Alike.refl U.vm) qK, qD⟩), va_recv hK hP (ci := 5) (q0 := 0) rfl rfl, fun U hU hW => ⟨rfl, by rw [hU], by rw [hU]; exact hP, va_K.moved hW.alike hK, hD.weaken (fun _ _ _ _ => trivial)⟩⟩ rfl rfl hl.1 rfl (lv_room (Nat.le_of_ble_eq_true rfl)) d_Model_loss_6 ⟨Nat.zero_le _, Nat.zero_le _⟩) hS (fun q _ h => hFc q h) hFc (fun u9 t9 H1 locs ht hvm hw hB hz1 hk1 hS => ?_)
  obtain ⟨L_6, S_6, G_6, F_6⟩ := u9
  obtain ⟨hP1, hK1, hD1⟩ := hB
  rw [ht] at hP1
  obtain ⟨hP, hD⟩ := va_join (wr := []) (w1 := (wM b cI (zu v 0 (0)) (zu (zu (zu f 8 (L_6)) 9 (S_6)) 10 (G_6)) (zu w 1 (F_6)))) hP hD [0, 1, 2, 3, 4, 5, 6, 7, 8, 9, 10, 11, 12, 13] [] rfl rfl (by decide) (by decide) hk1 hFc hP1 hD1
  generalize H1 = H at hP hS ⊢
  have hP : va_P (dC, dI) vwCl (wM b cI (zu v 0 (0)) (zu (zu (zu f 8 (L_6)) 9 (S_6)) 10 (G_6)) (zu w 1 (F_6))) H := hP
  have hD : va_D A (wM b cI (zu v 0 (0)) (zu (zu (zu f 8 (L_6)) 9 (S_6)) 10 (G_6)) (zu w 1 (F_6))) := hD
  refine lv_aload_n hx hb d_Model_loss_9 rfl (lv_at hl 0 rfl) ?_
  refine va_get (D := (dC, dI)) (ci := 5) (v := .ref (b 10)) (C := "CutLengthsModel") (T := T_Model) (N := 24) hx hb hz i_Model hown hK hP 0 rfl rfl 20 (by decide) (hz _ tw_501) (fun _ h9 => h9) rfl d_Model_loss_10 ?_
  refine lv_aload_n hx hb d_Model_loss_13 rfl (lv_at hl 0 rfl) ?_
  refine va_get (D := (dC, dI)) (ci := 5) (v := .int (nI (v 4))) (C := "CutLengthsModel") (T := T_Model) (N := 24) hx hb hz i_Model hown hK hP 0 rfl rfl 4 (by decide) (hz _ tw_485) (fun _ h9 => h9) rfl d_Model_loss_14 ?_
  refine zz_nald hx hb hK hP 10 0 (f := L_6) (i := v 4) rfl rfl (by omega) (by decide) d_Model_loss_17 ?_
  exact W.iret (v := nI ((L_6) (v 4))) hx hb hr (fun t9 ht hW => ⟨⟨nI ((L_6) (v 4)), (L_6, S_6, G_6, F_6), rfl, ⟨hw, rfl⟩, by rw [ht]; exact hP, va_K.moved hW.alike hK, hD⟩, hS.F ht⟩) hS.2.2 d_Model_loss_18
def zpartM (n t : Nat) (S : Nat → Nat) (F : Nat → Int32) (i : Nat) (z1 : Int) : Int32 := if zit (zend F S n) n i t = n then -2 else if z1 = 0 then F (zit (zend F S n) n i t) else if z1 = 1 then nI (zit (zend F S n) n i t) else nI (zend F S n (zit (zend F S n) n i t) - zit (zend F S n) n i t)
set_option maxHeartbeats 4000000 in
set_option maxRecDepth 100000 in
theorem c_Model_part (l : Launch) (dC : Nat → ClassId) (dI : Nat → Nat → Nat) (b : Nat → Nat) (cI : ClassId) (v : Nat → Nat) (f : Nat → Nat → Nat) (w : Nat → Nat → Int32) (sz : Nat) (p0 : Int32) (z0 : Int) (h0 : p0.toInt = z0) (p1 : Int32) (z1 : Int) (h1 : p1.toInt = z1) (hJ : zJ v f) : Met l y_Model_part (zw_Model_part :: zW) ({ frames := 4, cells := 0, slots := 0, locals := 91 }) (va_Pc [.ref (b 0), .int (p0), .int (p1)] (fun U => U.heap.size = sz ∧ va_P (dC, dI) vwCl (wM b cI v f w) U.heap ∧ va_K (dC, dI) vwCl [(cI, .int)] U ∧ va_D (fun _ => True) (wM b cI v f w))) (va_Qi (fun (r : Int32) (u : ZS) => (∃ L S Gd F, zMP v f L S Gd F ∧ k_part z0 z1 = 0 ∧ u = ((zu v 0 (0)), (zu (zu (zu f 8 (L)) 9 (S)) 10 (Gd)), (zu w 1 (F))) ∧ r = zpartM (v 3) (v 4) S F z0.toNat z1) ∨ (∃ c9, c9 ≠ 0 ∧ k_part z0 z1 = c9 ∧ u = (zu v 0 c9, f, w))) (fun (u : ZS) t => match u with | (v9, f9, w9) => va_P (dC, dI) vwCl (wM b cI v9 f9 w9) t.heap ∧ va_K (dC, dI) vwCl [(cI, .int)] t ∧ va_D (va_A (wM b cI v f w) sz) (wM b cI v9 f9 w9)) (va_A (wM b cI v f w) sz)) 0 0 (va_A (wM b cI v f w) sz) := by
  refine Met.ofW (cc := prog_7_method_20_code) (maxL := 5) (ret := (some .int)) (by decide) rfl ?_
  intro p e s m args below meth c s₁ B hml hv
  obtain ⟨rfl, hsz, hP, hK, hD0⟩ := hv
  have hx := B.exec
  have hb := B.bytes
  have hr := B.returns
  have hz : ∀ w ∈ zW, w.before ([.ref (b 0), .int (p0), .int (p1)]).toArray s = true := fun w h => atoms_spec (ws := (zw_Model_part :: zW)) B.pre w (List.mem_cons_of_mem _ h)
  have hown : s.vm.findClass "CutLengthsModel" = some m.cls := findClass_of_methodNamed B.named
  have hlocks := B.notSynchronized
  subst hsz
  have hD := hD0.self (sz := s.heap.size)
  generalize hAe : va_A (wM b cI v f w) s.heap.size = A at hD ⊢
  have hA : ∀ q : Nat, s.heap.size ≤ q → A q := fun q h => by rw [← hAe]; exact Or.inr h
  have hS : va_S A s.heap s.heap [] := va_S.rf
  have hP : va_P (dC, dI) vwCl (wM b cI v f w) s.heap := hP
  obtain ⟨j3, j4, j5, j6, j7, j8, j9, j10, j1, j2, jw, jb, jr, jsl⟩ := id hJ
  have hl := lv_entry ([.ref (b 0), .int (p0), .int (p1)]) (n := 5) (Nat.le_of_ble_eq_true rfl)
  rw [lg_entry_eq]
  generalize (lg_sl ([.ref (b 0), .int (p0), .int (p1)]) ++ List.replicate (5 - (lg_sl ([.ref (b 0), .int (p0), .int (p1)])).length) Slot.unset).toArray = ls at hl ⊢
  have hl : lv_has ls 5 [(0, .ref (b 0)), (1, .int (p0)), (2, .int (p1))] := hl
  refine lv_aload_n hx hb d_Model_part_0 rfl (lv_at hl 0 rfl) ?_
  refine lv_iload_n hx hb d_Model_part_1 rfl (lv_at hl 1 rfl) ?_
  refine lv_if_lt (tgt := 14) hx hb d_Model_part_2 (by decide) (fun c_2 => ?_) (fun c_2 => ?_)
  · have c_2 : z0 < (0 : Int) := (zz_lt (h0) ((by decide))).mp c_2
    refine lv_iconst (v := nI (1)) hx hb d_Model_part_14 (by decide) ?_
    refine lv_goto (tgt := 19) hx hb d_Model_part_15 (by decide) ?_
    refine lv_iconst (v := nI (0)) hx hb d_Model_part_19 (by decide) ?_
    have hFc := va_free (wc := (wM b cI v f w)) hD hS hA [0, 1, 2, 3, 4, 5, 6, 7, 8, 9, 10, 11, 12, 13] rfl
    refine va_calli (va_runV (As := [.int (nI (1)), .int (nI (0))]) (rest := []) ⟨hx, hb, hml, hown, hz⟩ (c_Model_throwing_10 l dC dI b cI v f w (s.heap).size ) (cwV (C := "CutLengthsModel") 2 hz (zgV tw_567 tw_569 tw_8 tw_20 tw_570) rfl rfl rfl (by decide +kernel) ⟨Nat.le_of_ble_eq_true rfl, Nat.le_of_ble_eq_true rfl⟩) ⟨(fun a U g mk q => by obtain ⟨q0, q1, qP, qK, qD⟩ := q; exact ⟨q0, q1, qP, va_K.moved (u := U) (U := U.calling g mk a) (Vm.Alike.refl U.vm) qK, qD⟩), va_recv hK hP (ci := 5) (q0 := 0) rfl rfl, fun U hU hW => ⟨rfl, by rw [hU], by rw [hU]; exact hP, va_K.moved hW.alike hK, hD.weaken (fun _ _ _ _ => trivial)⟩⟩ rfl rfl hl.1 rfl (lv_room (Nat.le_of_ble_eq_true rfl)) d_Model_part_20 ⟨Nat.zero_le _, Nat.zero_le _⟩) hS (fun q _ h => hFc q h) hFc (fun r_20 u9 t9 H1 locs ht hvm hw hB hz1 hk1 hS => ?_)
    obtain ⟨hP1, hK1, hD1⟩ := hB
    rw [ht] at hP1
    obtain ⟨hP, hD⟩ := va_join (wr := []) (w1 := (wM b cI (zu v 0 (1)) f w)) hP hD [0, 1, 2, 3, 4, 5, 6, 7, 8, 9, 10, 11, 12, 13] [] rfl rfl (by decide) (by decide) hk1 hFc hP1 hD1
    generalize H1 = H at hP hS ⊢
    have hP : va_P (dC, dI) vwCl (wM b cI (zu v 0 (1)) f w) H := hP
    have hD : va_D A (wM b cI (zu v 0 (1)) f w) := hD
    refine zz_top (hw) ?_
    refine lv_if_eq (tgt := 28) hx hb d_Model_part_23 (by decide) (fun c9 => absurd c9 (by decide)) (fun _ => ?_)
    refine lv_iconst (v := nI (0)) hx hb d_Model_part_26 (by decide) ?_
    exact W.iret (v := nI (0)) hx hb hr (fun t9 ht hW => ⟨⟨nI (0), ((zu v 0 (1)), f, w), rfl, (Or.inr ⟨1, by decide, (by unfold k_part; rw [if_pos (by omega)]), rfl⟩), by rw [ht]; exact hP, va_K.moved hW.alike hK, hD⟩, hS.F ht⟩) hS.2.2 d_Model_part_27
  · have c_2 : ¬ (z0 < (0 : Int)) := fun q => c_2 ((zz_lt (h0) ((by decide))).mpr q)
    refine lv_iload_n hx hb d_Model_part_5 rfl (lv_at hl 2 rfl) ?_
    refine lv_iconst (v := nI (0)) hx hb d_Model_part_6 (by decide) ?_
    refine lv_iconst (v := nI (2)) hx hb d_Model_part_7 (by decide) ?_
    refine zz_ro (va_runS (As := [.int (p1), .int (nI (0)), .int (nI (2))]) (rest := [.ref (b 0)]) ⟨hx, hb, hml, hown, hz⟩ (c_Model_in l (p1) (nI (0)) (nI (2)) (z1) ((0 : Int)) ((2 : Int)) (h1) ((by decide)) ((by decide))) (va_cwS 3 hz (zgS tw_563 tw_564 tw_20 tw_565) rfl rfl rfl (by decide +kernel) ⟨Nat.le_of_ble_eq_true rfl, Nat.le_of_ble_eq_true rfl⟩) ⟨fun _ _ _ _ q => q, fun U hU hW => ⟨rfl, trivial⟩⟩ rfl rfl hl.1 rfl (lv_room (Nat.le_of_ble_eq_true rfl)) d_Model_part_8 ⟨Nat.zero_le _, Nat.zero_le _⟩) ?_
    by_cases q_8 : ((0 : Int)) ≤ (z1) ∧ (z1) ≤ ((2 : Int))
    · refine zz_top (congrArg nI (if_pos q_8)) ?_
      refine lv_if_ne (tgt := 18) hx hb d_Model_part_11 (by decide) (fun _ => ?_) (fun c9 => absurd c9 (by decide))
      refine lv_iconst (v := nI (0)) hx hb d_Model_part_18 (by decide) ?_
      refine lv_iconst (v := nI (0)) hx hb d_Model_part_19 (by decide) ?_
      have hFc := va_free (wc := (wM b cI v f w)) hD hS hA [0, 1, 2, 3, 4, 5, 6, 7, 8, 9, 10, 11, 12, 13] rfl
      refine va_calli (va_runV (As := [.int (nI (0)), .int (nI (0))]) (rest := []) ⟨hx, hb, hml, hown, hz⟩ (c_Model_throwing_00 l dC dI b cI v f w (s.heap).size ) (cwV (C := "CutLengthsModel") 2 hz (zgV tw_567 tw_569 tw_8 tw_20 tw_570) rfl rfl rfl (by decide +kernel) ⟨Nat.le_of_ble_eq_true rfl, Nat.le_of_ble_eq_true rfl⟩) ⟨(fun a U g mk q => by obtain ⟨q0, q1, qP, qK, qD⟩ := q; exact ⟨q0, q1, qP, va_K.moved (u := U) (U := U.calling g mk a) (Vm.Alike.refl U.vm) qK, qD⟩), va_recv hK hP (ci := 5) (q0 := 0) rfl rfl, fun U hU hW => ⟨rfl, by rw [hU], by rw [hU]; exact hP, va_K.moved hW.alike hK, hD.weaken (fun _ _ _ _ => trivial)⟩⟩ rfl rfl hl.1 rfl (lv_room (Nat.le_of_ble_eq_true rfl)) d_Model_part_20 ⟨Nat.zero_le _, Nat.zero_le _⟩) hS (fun q _ h => hFc q h) hFc (fun r_20 u9 t9 H1 locs ht hvm hw hB hz1 hk1 hS => ?_)
      obtain ⟨hP1, hK1, hD1⟩ := hB
      rw [ht] at hP1
      obtain ⟨hP, hD⟩ := va_join (wr := []) (w1 := (wM b cI (zu v 0 (0)) f w)) hP hD [0, 1, 2, 3, 4, 5, 6, 7, 8, 9, 10, 11, 12, 13] [] rfl rfl (by decide) (by decide) hk1 hFc hP1 hD1
      generalize H1 = H at hP hS ⊢
      have hP : va_P (dC, dI) vwCl (wM b cI (zu v 0 (0)) f w) H := hP
      have hD : va_D A (wM b cI (zu v 0 (0)) f w) := hD
      refine zz_top (hw) ?_
      refine lv_if_eq (tgt := 28) hx hb d_Model_part_23 (by decide) (fun _ => ?_) (fun c9 => absurd c9 (by decide))
      have hz31 : z0 < 2 ^ 31 := by rw [← h0]; exact Int32.toInt_lt p0
      refine lv_aload_n hx hb d_Model_part_28 rfl (lv_at hl 0 rfl) ?_
      have hFc := va_free (wc := (wM b cI (zu v 0 (0)) f w)) hD hS hA [0, 1, 2, 3, 4, 5, 6, 7, 8, 9, 10, 11, 12, 13] rfl
      refine va_callv (va_runV (As := []) (rest := []) ⟨hx, hb, hml, hown, hz⟩ (c_Model_plan l dC dI b cI (zu v 0 (0)) f w (H).size hJ) (cwV (C := "CutLengthsModel") 0 hz (zgV tw_605 tw_607 tw_9 tw_20 tw_608) rfl rfl rfl (by decide +kernel) ⟨Nat.le_of_ble_eq_true rfl, Nat.le_of_ble_eq_true rfl⟩) ⟨(fun a U g mk q => by obtain ⟨q0, q1, qP, qK, qD⟩ := q; exact ⟨q0, q1, qP, va_K.moved (u := U) (U := U.calling g mk a) (Vm.Alike.refl U.vm) qK, qD⟩), va_recv hK hP (ci := 5) (q0 := 0) rfl rfl, fun U hU hW => ⟨rfl, by rw [hU], by rw [hU]; exact hP, va_K.moved hW.alike hK, hD.weaken (fun _ _ _ _ => trivial)⟩⟩ rfl rfl hl.1 rfl (lv_room (Nat.le_of_ble_eq_true rfl)) d_Model_part_29 ⟨Nat.zero_le _, Nat.zero_le _⟩) hS (fun q _ h => hFc q h) hFc (fun u9 t9 H1 locs ht hvm hw hB hz1 hk1 hS => ?_)
      obtain ⟨L_29, S_29, G_29, F_29⟩ := u9
      obtain ⟨hP1, hK1, hD1⟩ := hB
      rw [ht] at hP1
      obtain ⟨hP, hD⟩ := va_join (wr := []) (w1 := (wM b cI (zu v 0 (0)) (zu (zu (zu f 8 (L_29)) 9 (S_29)) 10 (G_29)) (zu w 1 (F_29)))) hP hD [0, 1, 2, 3, 4, 5, 6, 7, 8, 9, 10, 11, 12, 13] [] rfl rfl (by decide) (by decide) hk1 hFc hP1 hD1
      generalize H1 = H at hP hS ⊢
      have hP : va_P (dC, dI) vwCl (wM b cI (zu v 0 (0)) (zu (zu (zu f 8 (L_29)) 9 (S_29)) 10 (G_29)) (zu w 1 (F_29))) H := hP
      have hD : va_D A (wM b cI (zu v 0 (0)) (zu (zu (zu f 8 (L_29)) 9 (S_29)) 10 (G_29)) (zu w 1 (F_29))) := hD
      have hmp : zMP v f L_29 S_29 G_29 F_29 := hw
      refine lv_aload_n hx hb d_Model_part_32 rfl (lv_at hl 0 rfl) ?_
      refine va_get (D := (dC, dI)) (ci := 5) (v := .int (nI (v 4))) (C := "CutLengthsModel") (T := T_Model) (N := 24) hx hb hz i_Model hown hK hP 0 rfl rfl 4 (by decide) (hz _ tw_485) (fun _ h9 => h9) rfl d_Model_part_33 ?_
      refine lv_istore_n (lv' := [(3, .int (nI (v 4))), (0, .ref (b 0)), (1, .int (p0)), (2, .int (p1))]) hx hb d_Model_part_36 rfl hl (by decide) rfl (fun ls hl => ?_)
      refine lv_iconst (v := nI (0)) hx hb d_Model_part_37 (by decide) ?_
      refine lv_istore (lv' := [(4, .int (nI (0))), (3, .int (nI (v 4))), (0, .ref (b 0)), (1, .int (p0)), (2, .int (p1))]) hx hb d_Model_part_38 hl (by decide) rfl (fun ls hl => ?_)
      have loop : ∀ (n : Nat) (k x : Nat), (k ≤ z0.toNat) → (v 4 ≤ x) → (x ≤ v 3) → (zit (zend F_29 S_29 (v 3)) (v 3) (z0.toNat - k) x = zit (zend F_29 S_29 (v 3)) (v 3) z0.toNat (v 4)) → (v 3 < x + n) → ∀ (H : Heap) (locs : List Loc), va_P (dC, dI) vwCl (wM b cI (zu v 0 (0)) (zu (zu (zu f 8 (L_29)) 9 (S_29)) 10 (G_29)) (zu w 1 (F_29))) H → va_D A (wM b cI (zu v 0 (0)) (zu (zu (zu f 8 (L_29)) 9 (S_29)) 10 (G_29)) (zu w 1 (F_29))) → va_S A s.heap H locs → ∀ ls : Array Slot, lv_has ls 5 [(4, .int (nI (k))), (3, .int (nI (x))), (0, .ref (b 0)), (1, .int (p0)), (2, .int (p1))] → W p l e (headSpec (zw_Model_part :: zW) ({ frames := 4, cells := 0, slots := 0, locals := 91 })).room s m ([.ref (b 0), .int (p0), .int (p1)]).toArray below meth c H locs 0 0 (MQ below (va_Qi (fun (r : Int32) (u : ZS) => (∃ L S Gd F, zMP v f L S Gd F ∧ k_part z0 z1 = 0 ∧ u = ((zu v 0 (0)), (zu (zu (zu f 8 (L)) 9 (S)) 10 (Gd)), (zu w 1 (F))) ∧ r = zpartM (v 3) (v 4) S F z0.toNat z1) ∨ (∃ c9, c9 ≠ 0 ∧ k_part z0 z1 = c9 ∧ u = (zu v 0 c9, f, w))) (fun (u : ZS) t => match u with | (v9, f9, w9) => va_P (dC, dI) vwCl (wM b cI v9 f9 w9) t.heap ∧ va_K (dC, dI) vwCl [(cI, .int)] t ∧ va_D A (wM b cI v9 f9 w9)) A) ([.ref (b 0), .int (p0), .int (p1)]).toArray s 0 0 A) (F0 m 40 ls []) := by
        intro n
        induction n with
        | zero =>
          intro k x hk hx1 hx2 hz1 hn
          exact absurd hn (by omega)
        | succ n ih_loop =>
          intro k x hk hx1 hx2 hz1 hn H locs hP hD hS ls hl
          refine lv_iload hx hb d_Model_part_40 (lv_at hl 0 rfl) ?_
          refine lv_iload_n hx hb d_Model_part_42 rfl (lv_at hl 3 rfl) ?_
          refine zz_top (zz_nat h0 (by omega)) ?_
          refine lv_icmp_ge (tgt := 66) hx hb d_Model_part_43 (by decide) (fun c_43 => ?_) (fun c_43 => ?_)
          · have c_43 : ((z0.toNat : Nat) : Int) ≤ ((k : Nat) : Int) := (zz_le (nI_toInt (by omega)) (nI_toInt (by omega))).mp c_43
            have hX : zit (zend F_29 S_29 (v 3)) (v 3) z0.toNat (v 4) = x := by
              rw [← hz1]
              first | (rw [show z0.toNat - k = 0 from by omega]; done) | (rw [show z0.toNat - k = 0 from by omega]; rfl) | exact zit_n (by omega) _
            refine lv_iload_n hx hb d_Model_part_66 rfl (lv_at hl 1 rfl) ?_
            refine lv_aload_n hx hb d_Model_part_67 rfl (lv_at hl 2 rfl) ?_
            refine va_get (D := (dC, dI)) (ci := 5) (v := .int (nI (v 3))) (C := "CutLengthsModel") (T := T_Model) (N := 24) hx hb hz i_Model hown hK hP 0 rfl rfl 3 (by decide) (hz _ tw_484) (fun _ h9 => h9) rfl d_Model_part_68 ?_
            refine lv_icmp_ne (tgt := 77) hx hb d_Model_part_71 (by decide) (fun c_71 => ?_) (fun c_71 => ?_)
            · have c_71 : ¬ (((x : Nat) : Int) = ((v 3 : Nat) : Int)) := fun q => c_71 ((zz_eq (nI_toInt (by omega)) (nI_toInt (by omega))).mpr q)
              have hEx := zend_in (fun w q => (jw w q).1) hmp hx1 (show x < v 3 from by omega)
              refine lv_iload_n hx hb d_Model_part_77 rfl (lv_at hl 4 rfl) ?_
              refine lv_if_ne (tgt := 90) hx hb d_Model_part_78 (by decide) (fun c_78 => ?_) (fun c_78 => ?_)
              · have c_78 : ¬ (z1 = (0 : Int)) := fun q => c_78 ((zz_eq (h1) ((by decide))).mpr q)
                refine lv_iload_n hx hb d_Model_part_90 rfl (lv_at hl 4 rfl) ?_
                refine lv_iconst (v := nI (1)) hx hb d_Model_part_91 (by decide) ?_
                refine lv_icmp_ne (tgt := 99) hx hb d_Model_part_92 (by decide) (fun c_92 => ?_) (fun c_92 => ?_)
                · have c_92 : ¬ (z1 = (1 : Int)) := fun q => c_92 ((zz_eq (h1) ((by decide))).mpr q)
                  refine lv_aload_n hx hb d_Model_part_99 rfl (lv_at hl 2 rfl) ?_
                  refine lv_iload_n hx hb d_Model_part_100 rfl (lv_at hl 1 rfl) ?_
                  refine zz_ro (va_runV (As := [.int (nI (x))]) (rest := []) ⟨hx, hb, hml, hown, hz⟩ (c_Model_endOf l dC dI b cI (zu v 0 (0)) (zu (zu (zu f 8 (L_29)) 9 (S_29)) 10 (G_29)) (zu w 1 (F_29)) (x) (show x < v 3 from by omega) j3) (cwV (C := "CutLengthsModel") 1 hz (zgV tw_625 tw_627 tw_13 tw_20 tw_628) rfl rfl rfl (by decide +kernel) ⟨Nat.le_of_ble_eq_true rfl, Nat.le_of_ble_eq_true rfl⟩) ⟨(fun a U g mk q => ⟨q.1, q.2.1, va_K.moved (u := U) (U := U.calling g mk a) (Vm.Alike.refl U.vm) q.2.2⟩), va_recv hK hP (ci := 5) (q0 := 0) rfl rfl, fun U hU hW => ⟨rfl, by rw [hU]; exact hP, va_K.moved hW.alike hK⟩⟩ rfl rfl hl.1 rfl (lv_room (Nat.le_of_ble_eq_true rfl)) d_Model_part_101 ⟨Nat.zero_le _, Nat.zero_le _⟩) ?_
                  refine lv_iload_n hx hb d_Model_part_104 rfl (lv_at hl 1 rfl) ?_
                  refine lv_isub hx hb d_Model_part_105 ?_
                  exact W.iret (v := nI (zend F_29 S_29 (v 3) x) - nI (x)) hx hb hr (fun t9 ht hW => ⟨⟨nI (zend F_29 S_29 (v 3) x) - nI (x), ((zu v 0 (0)), (zu (zu (zu f 8 (L_29)) 9 (S_29)) 10 (G_29)), (zu w 1 (F_29))), rfl, (Or.inl ⟨L_29, S_29, G_29, F_29, hmp, (by unfold k_part; rw [if_neg (by omega)]), rfl, by unfold zpartM; rw [hX, if_neg (show ¬ x = v 3 from by omega), if_neg (show ¬ z1 = 0 from by omega), if_neg (show ¬ z1 = 1 from by omega), pk_sub (show x ≤ zend F_29 S_29 (v 3) x from by omega)]⟩), by rw [ht]; exact hP, va_K.moved hW.alike hK, hD⟩, hS.F ht⟩) hS.2.2 d_Model_part_106
                · have c_92 : z1 = (1 : Int) := (zz_eq (h1) ((by decide))).mp c_92
                  refine lv_iload_n hx hb d_Model_part_95 rfl (lv_at hl 1 rfl) ?_
                  refine lv_goto (tgt := 106) hx hb d_Model_part_96 (by decide) ?_
                  exact W.iret (v := nI (x)) hx hb hr (fun t9 ht hW => ⟨⟨nI (x), ((zu v 0 (0)), (zu (zu (zu f 8 (L_29)) 9 (S_29)) 10 (G_29)), (zu w 1 (F_29))), rfl, (Or.inl ⟨L_29, S_29, G_29, F_29, hmp, (by unfold k_part; rw [if_neg (by omega)]), rfl, by unfold zpartM; rw [hX, if_neg (show ¬ x = v 3 from by omega), if_neg (show ¬ z1 = 0 from by omega), if_pos (show z1 = 1 from by omega)]⟩), by rw [ht]; exact hP, va_K.moved hW.alike hK, hD⟩, hS.F ht⟩) hS.2.2 d_Model_part_106
              · have c_78 : z1 = (0 : Int) := (zz_eq (h1) ((by decide))).mp c_78
                refine lv_aload_n hx hb d_Model_part_81 rfl (lv_at hl 2 rfl) ?_
                refine va_get (D := (dC, dI)) (ci := 5) (v := .ref (b 11)) (C := "CutLengthsModel") (T := T_Model) (N := 24) hx hb hz i_Model hown hK hP 0 rfl rfl 21 (by decide) (hz _ tw_502) (fun _ h9 => h9) rfl d_Model_part_82 ?_
                refine lv_iload_n hx hb d_Model_part_85 rfl (lv_at hl 1 rfl) ?_
                refine zz_iald hx hb hK hP 11 0 (f := F_29) (i := x) rfl rfl (by omega) (by decide) d_Model_part_86 ?_
                refine lv_goto (tgt := 106) hx hb d_Model_part_87 (by decide) ?_
                exact W.iret (v := (F_29) x) hx hb hr (fun t9 ht hW => ⟨⟨(F_29) x, ((zu v 0 (0)), (zu (zu (zu f 8 (L_29)) 9 (S_29)) 10 (G_29)), (zu w 1 (F_29))), rfl, (Or.inl ⟨L_29, S_29, G_29, F_29, hmp, (by unfold k_part; rw [if_neg (by omega)]), rfl, by unfold zpartM; rw [hX, if_neg (show ¬ x = v 3 from by omega), if_pos (show z1 = 0 from by omega)]⟩), by rw [ht]; exact hP, va_K.moved hW.alike hK, hD⟩, hS.F ht⟩) hS.2.2 d_Model_part_106
            · have c_71 : ((x : Nat) : Int) = ((v 3 : Nat) : Int) := (zz_eq (nI_toInt (by omega)) (nI_toInt (by omega))).mp c_71
              refine lv_bipush (v := -2) hx hb d_Model_part_74 (by decide) ?_
              exact W.iret (v := -2) hx hb hr (fun t9 ht hW => ⟨⟨-2, ((zu v 0 (0)), (zu (zu (zu f 8 (L_29)) 9 (S_29)) 10 (G_29)), (zu w 1 (F_29))), rfl, (Or.inl ⟨L_29, S_29, G_29, F_29, hmp, (by unfold k_part; rw [if_neg (by omega)]), rfl, by unfold zpartM; rw [hX, if_pos (show x = v 3 from by omega)]⟩), by rw [ht]; exact hP, va_K.moved hW.alike hK, hD⟩, hS.F ht⟩) hS.2.2 d_Model_part_76
          · have c_43 : ¬ (((z0.toNat : Nat) : Int) ≤ ((k : Nat) : Int)) := fun q => c_43 ((zz_le (nI_toInt (by omega)) (nI_toInt (by omega))).mpr q)
            refine lv_iload_n hx hb d_Model_part_46 rfl (lv_at hl 1 rfl) ?_
            refine lv_aload_n hx hb d_Model_part_47 rfl (lv_at hl 2 rfl) ?_
            refine va_get (D := (dC, dI)) (ci := 5) (v := .int (nI (v 3))) (C := "CutLengthsModel") (T := T_Model) (N := 24) hx hb hz i_Model hown hK hP 0 rfl rfl 3 (by decide) (hz _ tw_484) (fun _ h9 => h9) rfl d_Model_part_48 ?_
            refine lv_icmp_ge (tgt := 66) hx hb d_Model_part_51 (by decide) (fun c_51 => ?_) (fun c_51 => ?_)
            · have c_51 : ((v 3 : Nat) : Int) ≤ ((x : Nat) : Int) := (zz_le (nI_toInt (by omega)) (nI_toInt (by omega))).mp c_51
              have hX : zit (zend F_29 S_29 (v 3)) (v 3) z0.toNat (v 4) = x := by
                rw [← hz1]
                first | (rw [show z0.toNat - k = 0 from by omega]; done) | (rw [show z0.toNat - k = 0 from by omega]; rfl) | exact zit_n (by omega) _
              refine lv_iload_n hx hb d_Model_part_66 rfl (lv_at hl 1 rfl) ?_
              refine lv_aload_n hx hb d_Model_part_67 rfl (lv_at hl 2 rfl) ?_
              refine va_get (D := (dC, dI)) (ci := 5) (v := .int (nI (v 3))) (C := "CutLengthsModel") (T := T_Model) (N := 24) hx hb hz i_Model hown hK hP 0 rfl rfl 3 (by decide) (hz _ tw_484) (fun _ h9 => h9) rfl d_Model_part_68 ?_
              refine lv_icmp_ne (tgt := 77) hx hb d_Model_part_71 (by decide) (fun c_71 => ?_) (fun c_71 => ?_)
              · have c_71 : ¬ (((x : Nat) : Int) = ((v 3 : Nat) : Int)) := fun q => c_71 ((zz_eq (nI_toInt (by omega)) (nI_toInt (by omega))).mpr q)
                have hEx := zend_in (fun w q => (jw w q).1) hmp hx1 (show x < v 3 from by omega)
                refine lv_iload_n hx hb d_Model_part_77 rfl (lv_at hl 4 rfl) ?_
                refine lv_if_ne (tgt := 90) hx hb d_Model_part_78 (by decide) (fun c_78 => ?_) (fun c_78 => ?_)
                · have c_78 : ¬ (z1 = (0 : Int)) := fun q => c_78 ((zz_eq (h1) ((by decide))).mpr q)
                  refine lv_iload_n hx hb d_Model_part_90 rfl (lv_at hl 4 rfl) ?_
                  refine lv_iconst (v := nI (1)) hx hb d_Model_part_91 (by decide) ?_
                  refine lv_icmp_ne (tgt := 99) hx hb d_Model_part_92 (by decide) (fun c_92 => ?_) (fun c_92 => ?_)
                  · have c_92 : ¬ (z1 = (1 : Int)) := fun q => c_92 ((zz_eq (h1) ((by decide))).mpr q)
                    refine lv_aload_n hx hb d_Model_part_99 rfl (lv_at hl 2 rfl) ?_
                    refine lv_iload_n hx hb d_Model_part_100 rfl (lv_at hl 1 rfl) ?_
                    refine zz_ro (va_runV (As := [.int (nI (x))]) (rest := []) ⟨hx, hb, hml, hown, hz⟩ (c_Model_endOf l dC dI b cI (zu v 0 (0)) (zu (zu (zu f 8 (L_29)) 9 (S_29)) 10 (G_29)) (zu w 1 (F_29)) (x) (show x < v 3 from by omega) j3) (cwV (C := "CutLengthsModel") 1 hz (zgV tw_625 tw_627 tw_13 tw_20 tw_628) rfl rfl rfl (by decide +kernel) ⟨Nat.le_of_ble_eq_true rfl, Nat.le_of_ble_eq_true rfl⟩) ⟨(fun a U g mk q => ⟨q.1, q.2.1, va_K.moved (u := U) (U := U.calling g mk a) (Vm.Alike.refl U.vm) q.2.2⟩), va_recv hK hP (ci := 5) (q0 := 0) rfl rfl, fun U hU hW => ⟨rfl, by rw [hU]; exact hP, va_K.moved hW.alike hK⟩⟩ rfl rfl hl.1 rfl (lv_room (Nat.le_of_ble_eq_true rfl)) d_Model_part_101 ⟨Nat.zero_le _, Nat.zero_le _⟩) ?_
                    refine lv_iload_n hx hb d_Model_part_104 rfl (lv_at hl 1 rfl) ?_
                    refine lv_isub hx hb d_Model_part_105 ?_
                    exact W.iret (v := nI (zend F_29 S_29 (v 3) x) - nI (x)) hx hb hr (fun t9 ht hW => ⟨⟨nI (zend F_29 S_29 (v 3) x) - nI (x), ((zu v 0 (0)), (zu (zu (zu f 8 (L_29)) 9 (S_29)) 10 (G_29)), (zu w 1 (F_29))), rfl, (Or.inl ⟨L_29, S_29, G_29, F_29, hmp, (by unfold k_part; rw [if_neg (by omega)]), rfl, by unfold zpartM; rw [hX, if_neg (show ¬ x = v 3 from by omega), if_neg (show ¬ z1 = 0 from by omega), if_neg (show ¬ z1 = 1 from by omega), pk_sub (show x ≤ zend F_29 S_29 (v 3) x from by omega)]⟩), by rw [ht]; exact hP, va_K.moved hW.alike hK, hD⟩, hS.F ht⟩) hS.2.2 d_Model_part_106
                  · have c_92 : z1 = (1 : Int) := (zz_eq (h1) ((by decide))).mp c_92
                    refine lv_iload_n hx hb d_Model_part_95 rfl (lv_at hl 1 rfl) ?_
                    refine lv_goto (tgt := 106) hx hb d_Model_part_96 (by decide) ?_
                    exact W.iret (v := nI (x)) hx hb hr (fun t9 ht hW => ⟨⟨nI (x), ((zu v 0 (0)), (zu (zu (zu f 8 (L_29)) 9 (S_29)) 10 (G_29)), (zu w 1 (F_29))), rfl, (Or.inl ⟨L_29, S_29, G_29, F_29, hmp, (by unfold k_part; rw [if_neg (by omega)]), rfl, by unfold zpartM; rw [hX, if_neg (show ¬ x = v 3 from by omega), if_neg (show ¬ z1 = 0 from by omega), if_pos (show z1 = 1 from by omega)]⟩), by rw [ht]; exact hP, va_K.moved hW.alike hK, hD⟩, hS.F ht⟩) hS.2.2 d_Model_part_106
                · have c_78 : z1 = (0 : Int) := (zz_eq (h1) ((by decide))).mp c_78
                  refine lv_aload_n hx hb d_Model_part_81 rfl (lv_at hl 2 rfl) ?_
                  refine va_get (D := (dC, dI)) (ci := 5) (v := .ref (b 11)) (C := "CutLengthsModel") (T := T_Model) (N := 24) hx hb hz i_Model hown hK hP 0 rfl rfl 21 (by decide) (hz _ tw_502) (fun _ h9 => h9) rfl d_Model_part_82 ?_
                  refine lv_iload_n hx hb d_Model_part_85 rfl (lv_at hl 1 rfl) ?_
                  refine zz_iald hx hb hK hP 11 0 (f := F_29) (i := x) rfl rfl (by omega) (by decide) d_Model_part_86 ?_
                  refine lv_goto (tgt := 106) hx hb d_Model_part_87 (by decide) ?_
                  exact W.iret (v := (F_29) x) hx hb hr (fun t9 ht hW => ⟨⟨(F_29) x, ((zu v 0 (0)), (zu (zu (zu f 8 (L_29)) 9 (S_29)) 10 (G_29)), (zu w 1 (F_29))), rfl, (Or.inl ⟨L_29, S_29, G_29, F_29, hmp, (by unfold k_part; rw [if_neg (by omega)]), rfl, by unfold zpartM; rw [hX, if_neg (show ¬ x = v 3 from by omega), if_pos (show z1 = 0 from by omega)]⟩), by rw [ht]; exact hP, va_K.moved hW.alike hK, hD⟩, hS.F ht⟩) hS.2.2 d_Model_part_106
              · have c_71 : ((x : Nat) : Int) = ((v 3 : Nat) : Int) := (zz_eq (nI_toInt (by omega)) (nI_toInt (by omega))).mp c_71
                refine lv_bipush (v := -2) hx hb d_Model_part_74 (by decide) ?_
                exact W.iret (v := -2) hx hb hr (fun t9 ht hW => ⟨⟨-2, ((zu v 0 (0)), (zu (zu (zu f 8 (L_29)) 9 (S_29)) 10 (G_29)), (zu w 1 (F_29))), rfl, (Or.inl ⟨L_29, S_29, G_29, F_29, hmp, (by unfold k_part; rw [if_neg (by omega)]), rfl, by unfold zpartM; rw [hX, if_pos (show x = v 3 from by omega)]⟩), by rw [ht]; exact hP, va_K.moved hW.alike hK, hD⟩, hS.F ht⟩) hS.2.2 d_Model_part_76
            · have c_51 : ¬ (((v 3 : Nat) : Int) ≤ ((x : Nat) : Int)) := fun q => c_51 ((zz_le (nI_toInt (by omega)) (nI_toInt (by omega))).mpr q)
              have hEx := zend_in (fun w q => (jw w q).1) hmp hx1 (show x < v 3 from by omega)
              refine lv_aload_n hx hb d_Model_part_54 rfl (lv_at hl 2 rfl) ?_
              refine lv_iload_n hx hb d_Model_part_55 rfl (lv_at hl 1 rfl) ?_
              refine zz_ro (va_runV (As := [.int (nI (x))]) (rest := []) ⟨hx, hb, hml, hown, hz⟩ (c_Model_endOf l dC dI b cI (zu v 0 (0)) (zu (zu (zu f 8 (L_29)) 9 (S_29)) 10 (G_29)) (zu w 1 (F_29)) (x) (show x < v 3 from by omega) j3) (cwV (C := "CutLengthsModel") 1 hz (zgV tw_625 tw_627 tw_13 tw_20 tw_628) rfl rfl rfl (by decide +kernel) ⟨Nat.le_of_ble_eq_true rfl, Nat.le_of_ble_eq_true rfl⟩) ⟨(fun a U g mk q => ⟨q.1, q.2.1, va_K.moved (u := U) (U := U.calling g mk a) (Vm.Alike.refl U.vm) q.2.2⟩), va_recv hK hP (ci := 5) (q0 := 0) rfl rfl, fun U hU hW => ⟨rfl, by rw [hU]; exact hP, va_K.moved hW.alike hK⟩⟩ rfl rfl hl.1 rfl (lv_room (Nat.le_of_ble_eq_true rfl)) d_Model_part_56 ⟨Nat.zero_le _, Nat.zero_le _⟩) ?_
              refine lv_istore_n (lv' := [(3, .int (nI (zend F_29 S_29 (v 3) x))), (4, .int (nI (k))), (0, .ref (b 0)), (1, .int (p0)), (2, .int (p1))]) hx hb d_Model_part_59 rfl hl (by decide) rfl (fun ls hl => ?_)
              refine lv_iinc (v := nI (k + 1)) (lv' := [(4, .int (nI (k + 1))), (3, .int (nI (zend F_29 S_29 (v 3) x))), (0, .ref (b 0)), (1, .int (p0)), (2, .int (p1))]) hx hb d_Model_part_60 hl (k := 1) rfl (zz_inc _) (by decide) rfl (fun ls hl => ?_)
              refine lv_goto (tgt := 40) hx hb d_Model_part_63 (by decide) ?_
              exact ih_loop (k + 1) (zend F_29 S_29 (v 3) x) (by omega) (by omega) (by omega) (by rw [← hz1, show z0.toNat - k = (z0.toNat - (k + 1)) + 1 from by omega]; exact (if_pos (show x < v 3 from by omega)).symm) (by omega) H locs hP hD hS ls (lv_sub hl [0, 1, 2, 3, 4] rfl)
      exact loop (v 3 + 1) 0 (v 4) (Nat.zero_le _) (Nat.le_refl _) j4 rfl (by omega) H locs hP hD hS ls (lv_sub hl [0, 1, 2, 3, 4] rfl)
    · refine zz_top (congrArg nI (if_neg q_8)) ?_
      refine lv_if_ne (tgt := 18) hx hb d_Model_part_11 (by decide) (fun c9 => absurd c9 (by decide)) (fun _ => ?_)
      refine lv_iconst (v := nI (1)) hx hb d_Model_part_14 (by decide) ?_
      refine lv_goto (tgt := 19) hx hb d_Model_part_15 (by decide) ?_
      refine lv_iconst (v := nI (0)) hx hb d_Model_part_19 (by decide) ?_
      have hFc := va_free (wc := (wM b cI v f w)) hD hS hA [0, 1, 2, 3, 4, 5, 6, 7, 8, 9, 10, 11, 12, 13] rfl
      refine va_calli (va_runV (As := [.int (nI (1)), .int (nI (0))]) (rest := []) ⟨hx, hb, hml, hown, hz⟩ (c_Model_throwing_10 l dC dI b cI v f w (s.heap).size ) (cwV (C := "CutLengthsModel") 2 hz (zgV tw_567 tw_569 tw_8 tw_20 tw_570) rfl rfl rfl (by decide +kernel) ⟨Nat.le_of_ble_eq_true rfl, Nat.le_of_ble_eq_true rfl⟩) ⟨(fun a U g mk q => by obtain ⟨q0, q1, qP, qK, qD⟩ := q; exact ⟨q0, q1, qP, va_K.moved (u := U) (U := U.calling g mk a) (Vm.Alike.refl U.vm) qK, qD⟩), va_recv hK hP (ci := 5) (q0 := 0) rfl rfl, fun U hU hW => ⟨rfl, by rw [hU], by rw [hU]; exact hP, va_K.moved hW.alike hK, hD.weaken (fun _ _ _ _ => trivial)⟩⟩ rfl rfl hl.1 rfl (lv_room (Nat.le_of_ble_eq_true rfl)) d_Model_part_20 ⟨Nat.zero_le _, Nat.zero_le _⟩) hS (fun q _ h => hFc q h) hFc (fun r_20 u9 t9 H1 locs ht hvm hw hB hz1 hk1 hS => ?_)
      obtain ⟨hP1, hK1, hD1⟩ := hB
      rw [ht] at hP1
      obtain ⟨hP, hD⟩ := va_join (wr := []) (w1 := (wM b cI (zu v 0 (1)) f w)) hP hD [0, 1, 2, 3, 4, 5, 6, 7, 8, 9, 10, 11, 12, 13] [] rfl rfl (by decide) (by decide) hk1 hFc hP1 hD1
      generalize H1 = H at hP hS ⊢
      have hP : va_P (dC, dI) vwCl (wM b cI (zu v 0 (1)) f w) H := hP
      have hD : va_D A (wM b cI (zu v 0 (1)) f w) := hD
      refine zz_top (hw) ?_
      refine lv_if_eq (tgt := 28) hx hb d_Model_part_23 (by decide) (fun c9 => absurd c9 (by decide)) (fun _ => ?_)
      refine lv_iconst (v := nI (0)) hx hb d_Model_part_26 (by decide) ?_
      exact W.iret (v := nI (0)) hx hb hr (fun t9 ht hW => ⟨⟨nI (0), ((zu v 0 (1)), f, w), rfl, (Or.inr ⟨1, by decide, (by unfold k_part; rw [if_pos (by omega)]), rfl⟩), by rw [ht]; exact hP, va_K.moved hW.alike hK, hD⟩, hS.F ht⟩) hS.2.2 d_Model_part_27
set_option maxHeartbeats 4000000 in
set_option maxRecDepth 100000 in
theorem c_Model_cut (l : Launch) (dC : Nat → ClassId) (dI : Nat → Nat → Nat) (b : Nat → Nat) (cI : ClassId) (v : Nat → Nat) (f : Nat → Nat → Nat) (w : Nat → Nat → Int32) (sz : Nat)  (hJ : zJ v f) : Met l y_Model_cut (zw_Model_cut :: zW) ({ frames := 4, cells := 0, slots := 0, locals := 91 }) (va_Pc [.ref (b 0)] (fun U => U.heap.size = sz ∧ va_P (dC, dI) vwCl (wM b cI v f w) U.heap ∧ va_K (dC, dI) vwCl [(cI, .int)] U ∧ va_D (fun _ => True) (wM b cI v f w))) (va_Qi (fun (r : Int32) (u : ZS) => (∃ L S Gd F, zMP v f L S Gd F ∧ k_cut (v 4) (v 3) (v 10) = 0 ∧ u = ((zu (zu (zu v 0 (0)) 4 (zend F S (v 3) (v 4))) 10 (v 10 + 1)), (zu (zu (zu (zu (zu f 8 (L)) 9 (S)) 10 (Gd)) 6 (va_up (f 6) (v 10) (v 4))) 7 (va_up (f 7) (v 10) (zend F S (v 3) (v 4) - v 4))), (zu (zu w 1 (F)) 0 (va_up (w 0) (v 10) (F (v 4))))) ∧ r = nI (v 10)) ∨ (∃ c9, c9 ≠ 0 ∧ k_cut (v 4) (v 3) (v 10) = c9 ∧ u = (zu v 0 c9, f, w))) (fun (u : ZS) t => match u with | (v9, f9, w9) => va_P (dC, dI) vwCl (wM b cI v9 f9 w9) t.heap ∧ va_K (dC, dI) vwCl [(cI, .int)] t ∧ va_D (va_A (wM b cI v f w) sz) (wM b cI v9 f9 w9)) (va_A (wM b cI v f w) sz)) 0 0 (va_A (wM b cI v f w) sz) := by
  refine Met.ofW (cc := prog_7_method_21_code) (maxL := 1) (ret := (some .int)) (by decide) rfl ?_
  intro p e s m args below meth c s₁ B hml hv
  obtain ⟨rfl, hsz, hP, hK, hD0⟩ := hv
  have hx := B.exec
  have hb := B.bytes
  have hr := B.returns
  have hz : ∀ w ∈ zW, w.before ([.ref (b 0)]).toArray s = true := fun w h => atoms_spec (ws := (zw_Model_cut :: zW)) B.pre w (List.mem_cons_of_mem _ h)
  have hown : s.vm.findClass "CutLengthsModel" = some m.cls := findClass_of_methodNamed B.named
  have hlocks := B.notSynchronized
  subst hsz
  have hD := hD0.self (sz := s.heap.size)
  generalize hAe : va_A (wM b cI v f w) s.heap.size = A at hD ⊢
  have hA : ∀ q : Nat, s.heap.size ≤ q → A q := fun q h => by rw [← hAe]; exact Or.inr h
  have hS : va_S A s.heap s.heap [] := va_S.rf
  have hP : va_P (dC, dI) vwCl (wM b cI v f w) s.heap := hP
  obtain ⟨j3, j4, j5, j6, j7, j8, j9, j10, j1, j2, jw, jb, jr, jsl⟩ := id hJ
  have hl := lv_entry ([.ref (b 0)]) (n := 1) (Nat.le_of_ble_eq_true rfl)
  rw [lg_entry_eq]
  generalize (lg_sl ([.ref (b 0)]) ++ List.replicate (1 - (lg_sl ([.ref (b 0)])).length) Slot.unset).toArray = ls at hl ⊢
  have hl : lv_has ls 1 [(0, .ref (b 0))] := hl
  refine lv_aload_n hx hb d_Model_cut_0 rfl (lv_at hl 0 rfl) ?_
  refine lv_aload_n hx hb d_Model_cut_1 rfl (lv_at hl 0 rfl) ?_
  refine va_get (D := (dC, dI)) (ci := 5) (v := .int (nI (v 4))) (C := "CutLengthsModel") (T := T_Model) (N := 24) hx hb hz i_Model hown hK hP 0 rfl rfl 4 (by decide) (hz _ tw_485) (fun _ h9 => h9) rfl d_Model_cut_2 ?_
  refine lv_aload_n hx hb d_Model_cut_5 rfl (lv_at hl 0 rfl) ?_
  refine va_get (D := (dC, dI)) (ci := 5) (v := .int (nI (v 3))) (C := "CutLengthsModel") (T := T_Model) (N := 24) hx hb hz i_Model hown hK hP 0 rfl rfl 3 (by decide) (hz _ tw_484) (fun _ h9 => h9) rfl d_Model_cut_6 ?_
  refine lv_icmp_ne (tgt := 16) hx hb d_Model_cut_9 (by decide) (fun c_9 => ?_) (fun c_9 => ?_)
  · have c_9 : ¬ (((v 4 : Nat) : Int) = ((v 3 : Nat) : Int)) := fun q => c_9 ((zz_eq (nI_toInt (by omega)) (nI_toInt (by omega))).mpr q)
    refine lv_iconst (v := nI (0)) hx hb d_Model_cut_16 (by decide) ?_
    refine lv_aload_n hx hb d_Model_cut_17 rfl (lv_at hl 0 rfl) ?_
    refine va_get (D := (dC, dI)) (ci := 5) (v := .int (nI (v 10))) (C := "CutLengthsModel") (T := T_Model) (N := 24) hx hb hz i_Model hown hK hP 0 rfl rfl 16 (by decide) (hz _ tw_497) (fun _ h9 => h9) rfl d_Model_cut_18 ?_
    refine lv_bipush (v := nI (100)) hx hb d_Model_cut_21 (by decide) ?_
    refine lv_icmp_ne (tgt := 30) hx hb d_Model_cut_23 (by decide) (fun c_23 => ?_) (fun c_23 => ?_)
    · have c_23 : ¬ (((v 10 : Nat) : Int) = (100 : Int)) := fun q => c_23 ((zz_eq (nI_toInt (by omega)) ((by decide))).mpr q)
      refine lv_iconst (v := nI (0)) hx hb d_Model_cut_30 (by decide) ?_
      have hFc := va_free (wc := (wM b cI v f w)) hD hS hA [0, 1, 2, 3, 4, 5, 6, 7, 8, 9, 10, 11, 12, 13] rfl
      refine va_calli (va_runV (As := [.int (nI (0)), .int (nI (0))]) (rest := []) ⟨hx, hb, hml, hown, hz⟩ (c_Model_throwing_00 l dC dI b cI v f w (s.heap).size ) (cwV (C := "CutLengthsModel") 2 hz (zgV tw_567 tw_569 tw_8 tw_20 tw_570) rfl rfl rfl (by decide +kernel) ⟨Nat.le_of_ble_eq_true rfl, Nat.le_of_ble_eq_true rfl⟩) ⟨(fun a U g mk q => by obtain ⟨q0, q1, qP, qK, qD⟩ := q; exact ⟨q0, q1, qP, va_K.moved (u := U) (U := U.calling g mk a) (Vm.Alike.refl U.vm) qK, qD⟩), va_recv hK hP (ci := 5) (q0 := 0) rfl rfl, fun U hU hW => ⟨rfl, by rw [hU], by rw [hU]; exact hP, va_K.moved hW.alike hK, hD.weaken (fun _ _ _ _ => trivial)⟩⟩ rfl rfl hl.1 rfl (lv_room (Nat.le_of_ble_eq_true rfl)) d_Model_cut_31 ⟨Nat.zero_le _, Nat.zero_le _⟩) hS (fun q _ h => hFc q h) hFc (fun r_31 u9 t9 H1 locs ht hvm hw hB hz1 hk1 hS => ?_)
      obtain ⟨hP1, hK1, hD1⟩ := hB
      rw [ht] at hP1
      obtain ⟨hP, hD⟩ := va_join (wr := []) (w1 := (wM b cI (zu v 0 (0)) f w)) hP hD [0, 1, 2, 3, 4, 5, 6, 7, 8, 9, 10, 11, 12, 13] [] rfl rfl (by decide) (by decide) hk1 hFc hP1 hD1
      generalize H1 = H at hP hS ⊢
      have hP : va_P (dC, dI) vwCl (wM b cI (zu v 0 (0)) f w) H := hP
      have hD : va_D A (wM b cI (zu v 0 (0)) f w) := hD
      refine zz_top (hw) ?_
      refine lv_if_eq (tgt := 39) hx hb d_Model_cut_34 (by decide) (fun _ => ?_) (fun c9 => absurd c9 (by decide))
      refine lv_aload_n hx hb d_Model_cut_39 rfl (lv_at hl 0 rfl) ?_
      have hFc := va_free (wc := (wM b cI (zu v 0 (0)) f w)) hD hS hA [0, 1, 2, 3, 4, 5, 6, 7, 8, 9, 10, 11, 12, 13] rfl
      refine va_callv (va_runV (As := []) (rest := []) ⟨hx, hb, hml, hown, hz⟩ (c_Model_plan l dC dI b cI (zu v 0 (0)) f w (H).size hJ) (cwV (C := "CutLengthsModel") 0 hz (zgV tw_605 tw_607 tw_9 tw_20 tw_608) rfl rfl rfl (by decide +kernel) ⟨Nat.le_of_ble_eq_true rfl, Nat.le_of_ble_eq_true rfl⟩) ⟨(fun a U g mk q => by obtain ⟨q0, q1, qP, qK, qD⟩ := q; exact ⟨q0, q1, qP, va_K.moved (u := U) (U := U.calling g mk a) (Vm.Alike.refl U.vm) qK, qD⟩), va_recv hK hP (ci := 5) (q0 := 0) rfl rfl, fun U hU hW => ⟨rfl, by rw [hU], by rw [hU]; exact hP, va_K.moved hW.alike hK, hD.weaken (fun _ _ _ _ => trivial)⟩⟩ rfl rfl hl.1 rfl (lv_room (Nat.le_of_ble_eq_true rfl)) d_Model_cut_40 ⟨Nat.zero_le _, Nat.zero_le _⟩) hS (fun q _ h => hFc q h) hFc (fun u9 t9 H1 locs ht hvm hw hB hz1 hk1 hS => ?_)
      obtain ⟨L_40, S_40, G_40, F_40⟩ := u9
      obtain ⟨hP1, hK1, hD1⟩ := hB
      rw [ht] at hP1
      obtain ⟨hP, hD⟩ := va_join (wr := []) (w1 := (wM b cI (zu v 0 (0)) (zu (zu (zu f 8 (L_40)) 9 (S_40)) 10 (G_40)) (zu w 1 (F_40)))) hP hD [0, 1, 2, 3, 4, 5, 6, 7, 8, 9, 10, 11, 12, 13] [] rfl rfl (by decide) (by decide) hk1 hFc hP1 hD1
      generalize H1 = H at hP hS ⊢
      have hP : va_P (dC, dI) vwCl (wM b cI (zu v 0 (0)) (zu (zu (zu f 8 (L_40)) 9 (S_40)) 10 (G_40)) (zu w 1 (F_40))) H := hP
      have hD : va_D A (wM b cI (zu v 0 (0)) (zu (zu (zu f 8 (L_40)) 9 (S_40)) 10 (G_40)) (zu w 1 (F_40))) := hD
      have hmp : zMP v f L_40 S_40 G_40 F_40 := hw
      have hEx := zend_in (fun w q => (jw w q).1) hmp (Nat.le_refl _) (show v 4 < v 3 from by omega)
      refine lv_aload_n hx hb d_Model_cut_43 rfl (lv_at hl 0 rfl) ?_
      refine va_get (D := (dC, dI)) (ci := 5) (v := .ref (b 7)) (C := "CutLengthsModel") (T := T_Model) (N := 24) hx hb hz i_Model hown hK hP 0 rfl rfl 17 (by decide) (hz _ tw_498) (fun _ h9 => h9) rfl d_Model_cut_44 ?_
      refine lv_aload_n hx hb d_Model_cut_47 rfl (lv_at hl 0 rfl) ?_
      refine va_get (D := (dC, dI)) (ci := 5) (v := .int (nI (v 10))) (C := "CutLengthsModel") (T := T_Model) (N := 24) hx hb hz i_Model hown hK hP 0 rfl rfl 16 (by decide) (hz _ tw_497) (fun _ h9 => h9) rfl d_Model_cut_48 ?_
      refine lv_aload_n hx hb d_Model_cut_51 rfl (lv_at hl 0 rfl) ?_
      refine va_get (D := (dC, dI)) (ci := 5) (v := .ref (b 11)) (C := "CutLengthsModel") (T := T_Model) (N := 24) hx hb hz i_Model hown hK hP 0 rfl rfl 21 (by decide) (hz _ tw_502) (fun _ h9 => h9) rfl d_Model_cut_52 ?_
      refine lv_aload_n hx hb d_Model_cut_55 rfl (lv_at hl 0 rfl) ?_
      refine va_get (D := (dC, dI)) (ci := 5) (v := .int (nI (v 4))) (C := "CutLengthsModel") (T := T_Model) (N := 24) hx hb hz i_Model hown hK hP 0 rfl rfl 4 (by decide) (hz _ tw_485) (fun _ h9 => h9) rfl d_Model_cut_56 ?_
      refine zz_iald hx hb hK hP 11 0 (f := F_40) (i := v 4) rfl rfl (by omega) (by decide) d_Model_cut_59 ?_
      refine zz_iast hx hb hK hP hD hS 7 0 (f := w 0) (i := v 10) (x := (F_40) (v 4)) rfl rfl (by omega) (by decide) d_Model_cut_60 (fun H locs hP hD hS => ?_)
      have hP : va_P (dC, dI) vwCl (wM b cI (zu v 0 (0)) (zu (zu (zu f 8 (L_40)) 9 (S_40)) 10 (G_40)) (zu (zu w 1 (F_40)) 0 (va_up (w 0) (v 10) ((F_40) (v 4))))) H := hP
      have hD : va_D A (wM b cI (zu v 0 (0)) (zu (zu (zu f 8 (L_40)) 9 (S_40)) 10 (G_40)) (zu (zu w 1 (F_40)) 0 (va_up (w 0) (v 10) ((F_40) (v 4))))) := hD
      refine lv_aload_n hx hb d_Model_cut_61 rfl (lv_at hl 0 rfl) ?_
      refine va_get (D := (dC, dI)) (ci := 5) (v := .ref (b 8)) (C := "CutLengthsModel") (T := T_Model) (N := 24) hx hb hz i_Model hown hK hP 0 rfl rfl 18 (by decide) (hz _ tw_499) (fun _ h9 => h9) rfl d_Model_cut_62 ?_
      refine lv_aload_n hx hb d_Model_cut_65 rfl (lv_at hl 0 rfl) ?_
      refine va_get (D := (dC, dI)) (ci := 5) (v := .int (nI (v 10))) (C := "CutLengthsModel") (T := T_Model) (N := 24) hx hb hz i_Model hown hK hP 0 rfl rfl 16 (by decide) (hz _ tw_497) (fun _ h9 => h9) rfl d_Model_cut_66 ?_
      refine lv_aload_n hx hb d_Model_cut_69 rfl (lv_at hl 0 rfl) ?_
      refine va_get (D := (dC, dI)) (ci := 5) (v := .int (nI (v 4))) (C := "CutLengthsModel") (T := T_Model) (N := 24) hx hb hz i_Model hown hK hP 0 rfl rfl 4 (by decide) (hz _ tw_485) (fun _ h9 => h9) rfl d_Model_cut_70 ?_
      refine zz_nast hx hb hK hP hD hS 8 0 (f := f 6) (i := v 10) (x := v 4) rfl rfl (by omega) (by decide) d_Model_cut_73 (fun H locs hP hD hS => ?_)
      have hP : va_P (dC, dI) vwCl (wM b cI (zu v 0 (0)) (zu (zu (zu (zu f 8 (L_40)) 9 (S_40)) 10 (G_40)) 6 (va_up (f 6) (v 10) (v 4))) (zu (zu w 1 (F_40)) 0 (va_up (w 0) (v 10) ((F_40) (v 4))))) H := hP
      have hD : va_D A (wM b cI (zu v 0 (0)) (zu (zu (zu (zu f 8 (L_40)) 9 (S_40)) 10 (G_40)) 6 (va_up (f 6) (v 10) (v 4))) (zu (zu w 1 (F_40)) 0 (va_up (w 0) (v 10) ((F_40) (v 4))))) := hD
      refine lv_aload_n hx hb d_Model_cut_74 rfl (lv_at hl 0 rfl) ?_
      refine va_get (D := (dC, dI)) (ci := 5) (v := .ref (b 9)) (C := "CutLengthsModel") (T := T_Model) (N := 24) hx hb hz i_Model hown hK hP 0 rfl rfl 19 (by decide) (hz _ tw_500) (fun _ h9 => h9) rfl d_Model_cut_75 ?_
      refine lv_aload_n hx hb d_Model_cut_78 rfl (lv_at hl 0 rfl) ?_
      refine va_get (D := (dC, dI)) (ci := 5) (v := .int (nI (v 10))) (C := "CutLengthsModel") (T := T_Model) (N := 24) hx hb hz i_Model hown hK hP 0 rfl rfl 16 (by decide) (hz _ tw_497) (fun _ h9 => h9) rfl d_Model_cut_79 ?_
      refine lv_aload_n hx hb d_Model_cut_82 rfl (lv_at hl 0 rfl) ?_
      refine lv_aload_n hx hb d_Model_cut_83 rfl (lv_at hl 0 rfl) ?_
      refine va_get (D := (dC, dI)) (ci := 5) (v := .int (nI (v 4))) (C := "CutLengthsModel") (T := T_Model) (N := 24) hx hb hz i_Model hown hK hP 0 rfl rfl 4 (by decide) (hz _ tw_485) (fun _ h9 => h9) rfl d_Model_cut_84 ?_
      refine zz_ro (va_runV (As := [.int (nI (v 4))]) (rest := [.int (nI (v 10)), .ref (b 9)]) ⟨hx, hb, hml, hown, hz⟩ (c_Model_endOf l dC dI b cI (zu v 0 (0)) (zu (zu (zu (zu f 8 (L_40)) 9 (S_40)) 10 (G_40)) 6 (va_up (f 6) (v 10) (v 4))) (zu (zu w 1 (F_40)) 0 (va_up (w 0) (v 10) ((F_40) (v 4)))) (v 4) (show v 4 < v 3 from by omega) j3) (cwV (C := "CutLengthsModel") 1 hz (zgV tw_625 tw_627 tw_13 tw_20 tw_628) rfl rfl rfl (by decide +kernel) ⟨Nat.le_of_ble_eq_true rfl, Nat.le_of_ble_eq_true rfl⟩) ⟨(fun a U g mk q => ⟨q.1, q.2.1, va_K.moved (u := U) (U := U.calling g mk a) (Vm.Alike.refl U.vm) q.2.2⟩), va_recv hK hP (ci := 5) (q0 := 0) rfl rfl, fun U hU hW => ⟨rfl, by rw [hU]; exact hP, va_K.moved hW.alike hK⟩⟩ rfl rfl hl.1 rfl (lv_room (Nat.le_of_ble_eq_true rfl)) d_Model_cut_87 ⟨Nat.zero_le _, Nat.zero_le _⟩) ?_
      refine lv_aload_n hx hb d_Model_cut_90 rfl (lv_at hl 0 rfl) ?_
      refine va_get (D := (dC, dI)) (ci := 5) (v := .int (nI (v 4))) (C := "CutLengthsModel") (T := T_Model) (N := 24) hx hb hz i_Model hown hK hP 0 rfl rfl 4 (by decide) (hz _ tw_485) (fun _ h9 => h9) rfl d_Model_cut_91 ?_
      refine lv_isub hx hb d_Model_cut_94 ?_
      refine zz_top (pk_sub (show v 4 ≤ zend F_40 S_40 (v 3) (v 4) from by omega)) ?_
      refine zz_nast hx hb hK hP hD hS 9 0 (f := f 7) (i := v 10) (x := zend F_40 S_40 (v 3) (v 4) - v 4) rfl rfl (by omega) (by decide) d_Model_cut_95 (fun H locs hP hD hS => ?_)
      have hP : va_P (dC, dI) vwCl (wM b cI (zu v 0 (0)) (zu (zu (zu (zu (zu f 8 (L_40)) 9 (S_40)) 10 (G_40)) 6 (va_up (f 6) (v 10) (v 4))) 7 (va_up (f 7) (v 10) (zend F_40 S_40 (v 3) (v 4) - v 4))) (zu (zu w 1 (F_40)) 0 (va_up (w 0) (v 10) ((F_40) (v 4))))) H := hP
      have hD : va_D A (wM b cI (zu v 0 (0)) (zu (zu (zu (zu (zu f 8 (L_40)) 9 (S_40)) 10 (G_40)) 6 (va_up (f 6) (v 10) (v 4))) 7 (va_up (f 7) (v 10) (zend F_40 S_40 (v 3) (v 4) - v 4))) (zu (zu w 1 (F_40)) 0 (va_up (w 0) (v 10) ((F_40) (v 4))))) := hD
      refine lv_aload_n hx hb d_Model_cut_96 rfl (lv_at hl 0 rfl) ?_
      refine lv_aload_n hx hb d_Model_cut_97 rfl (lv_at hl 0 rfl) ?_
      refine lv_aload_n hx hb d_Model_cut_98 rfl (lv_at hl 0 rfl) ?_
      refine va_get (D := (dC, dI)) (ci := 5) (v := .int (nI (v 4))) (C := "CutLengthsModel") (T := T_Model) (N := 24) hx hb hz i_Model hown hK hP 0 rfl rfl 4 (by decide) (hz _ tw_485) (fun _ h9 => h9) rfl d_Model_cut_99 ?_
      refine zz_ro (va_runV (As := [.int (nI (v 4))]) (rest := [.ref (b 0)]) ⟨hx, hb, hml, hown, hz⟩ (c_Model_endOf l dC dI b cI (zu v 0 (0)) (zu (zu (zu (zu (zu f 8 (L_40)) 9 (S_40)) 10 (G_40)) 6 (va_up (f 6) (v 10) (v 4))) 7 (va_up (f 7) (v 10) (zend F_40 S_40 (v 3) (v 4) - v 4))) (zu (zu w 1 (F_40)) 0 (va_up (w 0) (v 10) ((F_40) (v 4)))) (v 4) (show v 4 < v 3 from by omega) j3) (cwV (C := "CutLengthsModel") 1 hz (zgV tw_625 tw_627 tw_13 tw_20 tw_628) rfl rfl rfl (by decide +kernel) ⟨Nat.le_of_ble_eq_true rfl, Nat.le_of_ble_eq_true rfl⟩) ⟨(fun a U g mk q => ⟨q.1, q.2.1, va_K.moved (u := U) (U := U.calling g mk a) (Vm.Alike.refl U.vm) q.2.2⟩), va_recv hK hP (ci := 5) (q0 := 0) rfl rfl, fun U hU hW => ⟨rfl, by rw [hU]; exact hP, va_K.moved hW.alike hK⟩⟩ rfl rfl hl.1 rfl (lv_room (Nat.le_of_ble_eq_true rfl)) d_Model_cut_102 ⟨Nat.zero_le _, Nat.zero_le _⟩) ?_
      refine va_put (D := (dC, dI)) (ci := 5) (v := .int (nI (zend F_40 S_40 (v 3) (v 4)))) (ty := .int) (C := "CutLengthsModel") (T := T_Model) (N := 24) hx hb hz i_Model t_Model t_Model_ok n_Model hown hK hP hD hS 0 rfl rfl 4 (by decide) (hz _ tw_485) (fun _ h9 => h9) rfl (by decide +kernel) rfl rfl (Nat.le_of_ble_eq_true rfl) d_Model_cut_105 (fun H locs hP hD hS => ?_)
      have hP : va_P (dC, dI) vwCl (wM b cI (zu (zu v 0 (0)) 4 (zend F_40 S_40 (v 3) (v 4))) (zu (zu (zu (zu (zu f 8 (L_40)) 9 (S_40)) 10 (G_40)) 6 (va_up (f 6) (v 10) (v 4))) 7 (va_up (f 7) (v 10) (zend F_40 S_40 (v 3) (v 4) - v 4))) (zu (zu w 1 (F_40)) 0 (va_up (w 0) (v 10) ((F_40) (v 4))))) H := hP
      have hD : va_D A (wM b cI (zu (zu v 0 (0)) 4 (zend F_40 S_40 (v 3) (v 4))) (zu (zu (zu (zu (zu f 8 (L_40)) 9 (S_40)) 10 (G_40)) 6 (va_up (f 6) (v 10) (v 4))) 7 (va_up (f 7) (v 10) (zend F_40 S_40 (v 3) (v 4) - v 4))) (zu (zu w 1 (F_40)) 0 (va_up (w 0) (v 10) ((F_40) (v 4))))) := hD
      refine lv_aload_n hx hb d_Model_cut_108 rfl (lv_at hl 0 rfl) ?_
      refine lv_dup hx hb d_Model_cut_109 rfl ?_
      refine va_get (D := (dC, dI)) (ci := 5) (v := .int (nI (v 10))) (C := "CutLengthsModel") (T := T_Model) (N := 24) hx hb hz i_Model hown hK hP 0 rfl rfl 16 (by decide) (hz _ tw_497) (fun _ h9 => h9) rfl d_Model_cut_110 ?_
      refine lv_iconst (v := nI (1)) hx hb d_Model_cut_113 (by decide) ?_
      refine lv_iadd hx hb d_Model_cut_114 ?_
      refine zz_top (nI_add (v 10) (1)) ?_
      refine va_put (D := (dC, dI)) (ci := 5) (v := .int (nI ((v 10) + 1))) (ty := .int) (C := "CutLengthsModel") (T := T_Model) (N := 24) hx hb hz i_Model t_Model t_Model_ok n_Model hown hK hP hD hS 0 rfl rfl 16 (by decide) (hz _ tw_497) (fun _ h9 => h9) rfl (by decide +kernel) rfl rfl (Nat.le_of_ble_eq_true rfl) d_Model_cut_115 (fun H locs hP hD hS => ?_)
      have hP : va_P (dC, dI) vwCl (wM b cI (zu (zu (zu v 0 (0)) 4 (zend F_40 S_40 (v 3) (v 4))) 10 ((v 10) + 1)) (zu (zu (zu (zu (zu f 8 (L_40)) 9 (S_40)) 10 (G_40)) 6 (va_up (f 6) (v 10) (v 4))) 7 (va_up (f 7) (v 10) (zend F_40 S_40 (v 3) (v 4) - v 4))) (zu (zu w 1 (F_40)) 0 (va_up (w 0) (v 10) ((F_40) (v 4))))) H := hP
      have hD : va_D A (wM b cI (zu (zu (zu v 0 (0)) 4 (zend F_40 S_40 (v 3) (v 4))) 10 ((v 10) + 1)) (zu (zu (zu (zu (zu f 8 (L_40)) 9 (S_40)) 10 (G_40)) 6 (va_up (f 6) (v 10) (v 4))) 7 (va_up (f 7) (v 10) (zend F_40 S_40 (v 3) (v 4) - v 4))) (zu (zu w 1 (F_40)) 0 (va_up (w 0) (v 10) ((F_40) (v 4))))) := hD
      refine lv_aload_n hx hb d_Model_cut_118 rfl (lv_at hl 0 rfl) ?_
      refine va_get (D := (dC, dI)) (ci := 5) (v := .int (nI ((v 10) + 1))) (C := "CutLengthsModel") (T := T_Model) (N := 24) hx hb hz i_Model hown hK hP 0 rfl rfl 16 (by decide) (hz _ tw_497) (fun _ h9 => h9) rfl d_Model_cut_119 ?_
      refine lv_iconst (v := nI (1)) hx hb d_Model_cut_122 (by decide) ?_
      refine lv_isub hx hb d_Model_cut_123 ?_
      exact W.iret (v := nI ((v 10) + 1) - nI (1)) hx hb hr (fun t9 ht hW => ⟨⟨nI ((v 10) + 1) - nI (1), ((zu (zu (zu v 0 (0)) 4 (zend F_40 S_40 (v 3) (v 4))) 10 ((v 10) + 1)), (zu (zu (zu (zu (zu f 8 (L_40)) 9 (S_40)) 10 (G_40)) 6 (va_up (f 6) (v 10) (v 4))) 7 (va_up (f 7) (v 10) (zend F_40 S_40 (v 3) (v 4) - v 4))), (zu (zu w 1 (F_40)) 0 (va_up (w 0) (v 10) ((F_40) (v 4))))), rfl, (Or.inl ⟨L_40, S_40, G_40, F_40, hmp, (by unfold k_cut; rw [if_neg (by omega), if_neg (by omega)]), rfl, nI_pred (v 10)⟩), by rw [ht]; exact hP, va_K.moved hW.alike hK, hD⟩, hS.F ht⟩) hS.2.2 d_Model_cut_124
    · have c_23 : ((v 10 : Nat) : Int) = (100 : Int) := (zz_eq (nI_toInt (by omega)) ((by decide))).mp c_23
      refine lv_iconst (v := nI (1)) hx hb d_Model_cut_26 (by decide) ?_
      refine lv_goto (tgt := 31) hx hb d_Model_cut_27 (by decide) ?_
      have hFc := va_free (wc := (wM b cI v f w)) hD hS hA [0, 1, 2, 3, 4, 5, 6, 7, 8, 9, 10, 11, 12, 13] rfl
      refine va_calli (va_runV (As := [.int (nI (0)), .int (nI (1))]) (rest := []) ⟨hx, hb, hml, hown, hz⟩ (c_Model_throwing_01 l dC dI b cI v f w (s.heap).size ) (cwV (C := "CutLengthsModel") 2 hz (zgV tw_567 tw_569 tw_8 tw_20 tw_570) rfl rfl rfl (by decide +kernel) ⟨Nat.le_of_ble_eq_true rfl, Nat.le_of_ble_eq_true rfl⟩) ⟨(fun a U g mk q => by obtain ⟨q0, q1, qP, qK, qD⟩ := q; exact ⟨q0, q1, qP, va_K.moved (u := U) (U := U.calling g mk a) (Vm.Alike.refl U.vm) qK, qD⟩), va_recv hK hP (ci := 5) (q0 := 0) rfl rfl, fun U hU hW => ⟨rfl, by rw [hU], by rw [hU]; exact hP, va_K.moved hW.alike hK, hD.weaken (fun _ _ _ _ => trivial)⟩⟩ rfl rfl hl.1 rfl (lv_room (Nat.le_of_ble_eq_true rfl)) d_Model_cut_31 ⟨Nat.zero_le _, Nat.zero_le _⟩) hS (fun q _ h => hFc q h) hFc (fun r_31 u9 t9 H1 locs ht hvm hw hB hz1 hk1 hS => ?_)
      obtain ⟨hP1, hK1, hD1⟩ := hB
      rw [ht] at hP1
      obtain ⟨hP, hD⟩ := va_join (wr := []) (w1 := (wM b cI (zu v 0 (2)) f w)) hP hD [0, 1, 2, 3, 4, 5, 6, 7, 8, 9, 10, 11, 12, 13] [] rfl rfl (by decide) (by decide) hk1 hFc hP1 hD1
      generalize H1 = H at hP hS ⊢
      have hP : va_P (dC, dI) vwCl (wM b cI (zu v 0 (2)) f w) H := hP
      have hD : va_D A (wM b cI (zu v 0 (2)) f w) := hD
      refine zz_top (hw) ?_
      refine lv_if_eq (tgt := 39) hx hb d_Model_cut_34 (by decide) (fun c9 => absurd c9 (by decide)) (fun _ => ?_)
      refine lv_iconst (v := nI (0)) hx hb d_Model_cut_37 (by decide) ?_
      exact W.iret (v := nI (0)) hx hb hr (fun t9 ht hW => ⟨⟨nI (0), ((zu v 0 (2)), f, w), rfl, (Or.inr ⟨2, by decide, (by unfold k_cut; rw [if_neg (by omega), if_pos (by omega)]), rfl⟩), by rw [ht]; exact hP, va_K.moved hW.alike hK, hD⟩, hS.F ht⟩) hS.2.2 d_Model_cut_38
  · have c_9 : ((v 4 : Nat) : Int) = ((v 3 : Nat) : Int) := (zz_eq (nI_toInt (by omega)) (nI_toInt (by omega))).mp c_9
    refine lv_iconst (v := nI (1)) hx hb d_Model_cut_12 (by decide) ?_
    refine lv_goto (tgt := 17) hx hb d_Model_cut_13 (by decide) ?_
    refine lv_aload_n hx hb d_Model_cut_17 rfl (lv_at hl 0 rfl) ?_
    refine va_get (D := (dC, dI)) (ci := 5) (v := .int (nI (v 10))) (C := "CutLengthsModel") (T := T_Model) (N := 24) hx hb hz i_Model hown hK hP 0 rfl rfl 16 (by decide) (hz _ tw_497) (fun _ h9 => h9) rfl d_Model_cut_18 ?_
    refine lv_bipush (v := nI (100)) hx hb d_Model_cut_21 (by decide) ?_
    refine lv_icmp_ne (tgt := 30) hx hb d_Model_cut_23 (by decide) (fun c_23 => ?_) (fun c_23 => ?_)
    · have c_23 : ¬ (((v 10 : Nat) : Int) = (100 : Int)) := fun q => c_23 ((zz_eq (nI_toInt (by omega)) ((by decide))).mpr q)
      refine lv_iconst (v := nI (0)) hx hb d_Model_cut_30 (by decide) ?_
      have hFc := va_free (wc := (wM b cI v f w)) hD hS hA [0, 1, 2, 3, 4, 5, 6, 7, 8, 9, 10, 11, 12, 13] rfl
      refine va_calli (va_runV (As := [.int (nI (1)), .int (nI (0))]) (rest := []) ⟨hx, hb, hml, hown, hz⟩ (c_Model_throwing_10 l dC dI b cI v f w (s.heap).size ) (cwV (C := "CutLengthsModel") 2 hz (zgV tw_567 tw_569 tw_8 tw_20 tw_570) rfl rfl rfl (by decide +kernel) ⟨Nat.le_of_ble_eq_true rfl, Nat.le_of_ble_eq_true rfl⟩) ⟨(fun a U g mk q => by obtain ⟨q0, q1, qP, qK, qD⟩ := q; exact ⟨q0, q1, qP, va_K.moved (u := U) (U := U.calling g mk a) (Vm.Alike.refl U.vm) qK, qD⟩), va_recv hK hP (ci := 5) (q0 := 0) rfl rfl, fun U hU hW => ⟨rfl, by rw [hU], by rw [hU]; exact hP, va_K.moved hW.alike hK, hD.weaken (fun _ _ _ _ => trivial)⟩⟩ rfl rfl hl.1 rfl (lv_room (Nat.le_of_ble_eq_true rfl)) d_Model_cut_31 ⟨Nat.zero_le _, Nat.zero_le _⟩) hS (fun q _ h => hFc q h) hFc (fun r_31 u9 t9 H1 locs ht hvm hw hB hz1 hk1 hS => ?_)
      obtain ⟨hP1, hK1, hD1⟩ := hB
      rw [ht] at hP1
      obtain ⟨hP, hD⟩ := va_join (wr := []) (w1 := (wM b cI (zu v 0 (1)) f w)) hP hD [0, 1, 2, 3, 4, 5, 6, 7, 8, 9, 10, 11, 12, 13] [] rfl rfl (by decide) (by decide) hk1 hFc hP1 hD1
      generalize H1 = H at hP hS ⊢
      have hP : va_P (dC, dI) vwCl (wM b cI (zu v 0 (1)) f w) H := hP
      have hD : va_D A (wM b cI (zu v 0 (1)) f w) := hD
      refine zz_top (hw) ?_
      refine lv_if_eq (tgt := 39) hx hb d_Model_cut_34 (by decide) (fun c9 => absurd c9 (by decide)) (fun _ => ?_)
      refine lv_iconst (v := nI (0)) hx hb d_Model_cut_37 (by decide) ?_
      exact W.iret (v := nI (0)) hx hb hr (fun t9 ht hW => ⟨⟨nI (0), ((zu v 0 (1)), f, w), rfl, (Or.inr ⟨1, by decide, (by unfold k_cut; rw [if_pos (by omega)]), rfl⟩), by rw [ht]; exact hP, va_K.moved hW.alike hK, hD⟩, hS.F ht⟩) hS.2.2 d_Model_cut_38
    · have c_23 : ((v 10 : Nat) : Int) = (100 : Int) := (zz_eq (nI_toInt (by omega)) ((by decide))).mp c_23
      refine lv_iconst (v := nI (1)) hx hb d_Model_cut_26 (by decide) ?_
      refine lv_goto (tgt := 31) hx hb d_Model_cut_27 (by decide) ?_
      have hFc := va_free (wc := (wM b cI v f w)) hD hS hA [0, 1, 2, 3, 4, 5, 6, 7, 8, 9, 10, 11, 12, 13] rfl
      refine va_calli (va_runV (As := [.int (nI (1)), .int (nI (1))]) (rest := []) ⟨hx, hb, hml, hown, hz⟩ (c_Model_throwing_11 l dC dI b cI v f w (s.heap).size ) (cwV (C := "CutLengthsModel") 2 hz (zgV tw_567 tw_569 tw_8 tw_20 tw_570) rfl rfl rfl (by decide +kernel) ⟨Nat.le_of_ble_eq_true rfl, Nat.le_of_ble_eq_true rfl⟩) ⟨(fun a U g mk q => by obtain ⟨q0, q1, qP, qK, qD⟩ := q; exact ⟨q0, q1, qP, va_K.moved (u := U) (U := U.calling g mk a) (Vm.Alike.refl U.vm) qK, qD⟩), va_recv hK hP (ci := 5) (q0 := 0) rfl rfl, fun U hU hW => ⟨rfl, by rw [hU], by rw [hU]; exact hP, va_K.moved hW.alike hK, hD.weaken (fun _ _ _ _ => trivial)⟩⟩ rfl rfl hl.1 rfl (lv_room (Nat.le_of_ble_eq_true rfl)) d_Model_cut_31 ⟨Nat.zero_le _, Nat.zero_le _⟩) hS (fun q _ h => hFc q h) hFc (fun r_31 u9 t9 H1 locs ht hvm hw hB hz1 hk1 hS => ?_)
      obtain ⟨hP1, hK1, hD1⟩ := hB
      rw [ht] at hP1
      obtain ⟨hP, hD⟩ := va_join (wr := []) (w1 := (wM b cI (zu v 0 (1)) f w)) hP hD [0, 1, 2, 3, 4, 5, 6, 7, 8, 9, 10, 11, 12, 13] [] rfl rfl (by decide) (by decide) hk1 hFc hP1 hD1
      generalize H1 = H at hP hS ⊢
      have hP : va_P (dC, dI) vwCl (wM b cI (zu v 0 (1)) f w) H := hP
      have hD : va_D A (wM b cI (zu v 0 (1)) f w) := hD
      refine zz_top (hw) ?_
      refine lv_if_eq (tgt := 39) hx hb d_Model_cut_34 (by decide) (fun c9 => absurd c9 (by decide)) (fun _ => ?_)
      refine lv_iconst (v := nI (0)) hx hb d_Model_cut_37 (by decide) ?_
      exact W.iret (v := nI (0)) hx hb hr (fun t9 ht hW => ⟨⟨nI (0), ((zu v 0 (1)), f, w), rfl, (Or.inr ⟨1, by decide, (by unfold k_cut; rw [if_pos (by omega)]), rfl⟩), by rw [ht]; exact hP, va_K.moved hW.alike hK, hD⟩, hS.F ht⟩) hS.2.2 d_Model_cut_38
