/-! THE PLAN of the class: takeBestPiece, make, renewPlan (rows written by wip/whole/mk_class.py) -/
theorem zup_same {α : Type} (f : Nat → α) (k : Nat) : va_up f k (f k) = f := by
  funext j
  by_cases e : j = k
  · rw [e, va_up_self]
  · rw [va_up_ne _ _ e]
set_option maxHeartbeats 4000000 in
set_option maxRecDepth 100000 in
theorem c_Plan_takeBestPiece (l : Launch) (dC : Nat → ClassId) (dI : Nat → Nat → Nat) (a : Nat → Nat) (cI cZ : ClassId) (v : Nat → Nat) (f : Nat → Nat → Nat) (w : Nat → Nat → Int32) (sz : Nat) (j r sc : Nat) (hj : j < v 3) (hr0 : j + r ≤ v 3) (hI : zI v f) (hm : j = v 4 ∨ f 1 j = 0) (hF : w 0 j = -1) (hL : ∀ q, j ≤ q → q ≤ v 3 → f 4 q ≤ 300) (hs : ∀ l, 0 < l → l ≤ r → sc ≤ f 4 (j + l)) (hsc : sc ≤ 300) : Met l y_Plan_takeBestPiece (zw_Plan_takeBestPiece :: zW) ({ frames := 1, cells := 0, slots := 0, locals := 30 }) (va_Pc [.ref (a 7), .int (nI (j)), .int (nI (r)), .int (nI (sc)), .ref (a 1), .ref (a 4)] (fun U => U.heap.size = sz ∧ va_P (dC, dI) vwCl (wC a cI cZ v f w) U.heap ∧ va_K (dC, dI) vwCl [(cI, .int), (cZ, .boolean)] U ∧ va_D (fun _ => True) (wC a cI cZ v f w))) (va_Qv (fun (u : Nat × Int32 × Nat) => zB (zcand (v 3) (v 4) (v 9) (f 2) (f 3) (f 1) r j) (f 4) j (f 4 j) (f 5 j) u.1 u.2.1 u.2.2) (fun (u : Nat × Int32 × Nat) t => match u with | (x, y, z) => va_P (dC, dI) vwCl (wC a cI cZ v (zu (zu f 4 (va_up (f 4) j x)) 5 (va_up (f 5) j z)) (zu w 0 (va_up (w 0) j y))) t.heap ∧ va_K (dC, dI) vwCl [(cI, .int), (cZ, .boolean)] t ∧ va_D (va_A (wC a cI cZ v f w) sz) (wC a cI cZ v (zu (zu f 4 (va_up (f 4) j x)) 5 (va_up (f 5) j z)) (zu w 0 (va_up (w 0) j y)))) (va_A (wC a cI cZ v f w) sz)) 0 0 (va_A (wC a cI cZ v f w) sz) := by
  refine Met.ofW (cc := prog_2_method_5_code) (maxL := 10) (ret := none) (by decide) rfl ?_
  intro p e s m args below meth c s₁ B hml hv
  obtain ⟨rfl, hsz, hP, hK, hD0⟩ := hv
  have hx := B.exec
  have hb := B.bytes
  have hr := B.returns
  have hz : ∀ w ∈ zW, w.before ([.ref (a 7), .int (nI (j)), .int (nI (r)), .int (nI (sc)), .ref (a 1), .ref (a 4)]).toArray s = true := fun w h => atoms_spec (ws := (zw_Plan_takeBestPiece :: zW)) B.pre w (List.mem_cons_of_mem _ h)
  have hown : s.vm.findClass "CutLengths$Plan" = some m.cls := findClass_of_methodNamed B.named
  have hlocks := B.notSynchronized
  subst hsz
  have hD := hD0.self (sz := s.heap.size)
  generalize hAe : va_A (wC a cI cZ v f w) s.heap.size = A at hD ⊢
  have hA : ∀ q : Nat, s.heap.size ≤ q → A q := fun q h => by rw [← hAe]; exact Or.inr h
  have hS : va_S A s.heap s.heap [] := va_S.rf
  have hP : va_P (dC, dI) vwCl (wC a cI cZ v f w) s.heap := hP
  obtain ⟨i3, i4, i5, i6, i7, i8, i9, i10, i2, i0, i1, iw, ib, ic, isl⟩ := id hI
  have hl := lv_entry ([.ref (a 7), .int (nI (j)), .int (nI (r)), .int (nI (sc)), .ref (a 1), .ref (a 4)]) (n := 10) (Nat.le_of_ble_eq_true rfl)
  rw [lg_entry_eq]
  generalize (lg_sl ([.ref (a 7), .int (nI (j)), .int (nI (r)), .int (nI (sc)), .ref (a 1), .ref (a 4)]) ++ List.replicate (10 - (lg_sl ([.ref (a 7), .int (nI (j)), .int (nI (r)), .int (nI (sc)), .ref (a 1), .ref (a 4)])).length) Slot.unset).toArray = ls at hl ⊢
  have hl : lv_has ls 10 [(0, .ref (a 7)), (1, .int (nI (j))), (2, .int (nI (r))), (3, .int (nI (sc))), (4, .ref (a 1)), (5, .ref (a 4))] := hl
  refine lv_iconst (v := nI (0)) hx hb d_Plan_takeBestPiece_0 (by decide) ?_
  refine lv_istore (lv' := [(6, .int (nI (0))), (0, .ref (a 7)), (1, .int (nI (j))), (2, .int (nI (r))), (3, .int (nI (sc))), (4, .ref (a 1)), (5, .ref (a 4))]) hx hb d_Plan_takeBestPiece_1 hl (by decide) rfl (fun ls hl => ?_)
  have hj9 := hL j (Nat.le_refl _) (by omega)
  have loop : ∀ (n : Nat) (x xa : Nat) (xf : Int32) (xs : Nat), (x ≤ v 9) → (zB (fun w l => zcand (v 3) (v 4) (v 9) (f 2) (f 3) (f 1) r j w l ∧ w < x) (f 4) j (f 4 j) (f 5 j) xa xf xs) → (v 9 < x + n) → ∀ (H : Heap) (locs : List Loc), va_P (dC, dI) vwCl (wC a cI cZ v (zu (zu f 4 (va_up (f 4) j xa)) 5 (va_up (f 5) j xs)) (zu w 0 (va_up (w 0) j xf))) H → va_D A (wC a cI cZ v (zu (zu f 4 (va_up (f 4) j xa)) 5 (va_up (f 5) j xs)) (zu w 0 (va_up (w 0) j xf))) → va_S A s.heap H locs → ∀ ls : Array Slot, lv_has ls 10 [(6, .int (nI (x))), (0, .ref (a 7)), (1, .int (nI (j))), (2, .int (nI (r))), (3, .int (nI (sc))), (4, .ref (a 1)), (5, .ref (a 4))] → W p l e (headSpec (zw_Plan_takeBestPiece :: zW) ({ frames := 1, cells := 0, slots := 0, locals := 30 })).room s m ([.ref (a 7), .int (nI (j)), .int (nI (r)), .int (nI (sc)), .ref (a 1), .ref (a 4)]).toArray below meth c H locs 0 0 (MQ below (va_Qv (fun (u : Nat × Int32 × Nat) => zB (zcand (v 3) (v 4) (v 9) (f 2) (f 3) (f 1) r j) (f 4) j (f 4 j) (f 5 j) u.1 u.2.1 u.2.2) (fun (u : Nat × Int32 × Nat) t => match u with | (x, y, z) => va_P (dC, dI) vwCl (wC a cI cZ v (zu (zu f 4 (va_up (f 4) j x)) 5 (va_up (f 5) j z)) (zu w 0 (va_up (w 0) j y))) t.heap ∧ va_K (dC, dI) vwCl [(cI, .int), (cZ, .boolean)] t ∧ va_D A (wC a cI cZ v (zu (zu f 4 (va_up (f 4) j x)) 5 (va_up (f 5) j z)) (zu w 0 (va_up (w 0) j y)))) A) ([.ref (a 7), .int (nI (j)), .int (nI (r)), .int (nI (sc)), .ref (a 1), .ref (a 4)]).toArray s 0 0 A) (F0 m 3 ls []) := by
    intro n
    induction n with
    | zero =>
      intro x xa xf xs hx1 hb1 hn1
      exact absurd hn1 (by omega)
    | succ n ih_loop =>
      intro x xa xf xs hx1 hb1 hn1 H locs hP hD hS ls hl
      refine lv_iload hx hb d_Plan_takeBestPiece_3 (lv_at hl 0 rfl) ?_
      refine lv_aload hx hb d_Plan_takeBestPiece_5 (lv_at hl 6 rfl) ?_
      refine va_get (D := (dC, dI)) (ci := 2) (v := .int (nI (v 9))) (C := "CutLengths$WantedLengths") (T := T_Wanted) (N := 3) hx hb hz i_Wanted hown hK hP 4 rfl rfl 0 (by decide) (hz _ tw_85) (fun _ h9 => h9) rfl d_Plan_takeBestPiece_7 ?_
      refine lv_icmp_ge (tgt := 112) hx hb d_Plan_takeBestPiece_10 (by decide) (fun c_10 => ?_) (fun c_10 => ?_)
      · have c_10 : ((v 9 : Nat) : Int) ≤ ((x : Nat) : Int) := (zz_le (nI_toInt (by omega)) (nI_toInt (by omega))).mp c_10
        exact W.vret hx hb hr (fun t9 ht hW => ⟨⟨(xa, xf, xs), rfl, (zfull hb1 (by omega)), by rw [ht]; exact hP, va_K.moved hW.alike hK, hD⟩, hS.F ht⟩) hS.2.2 d_Plan_takeBestPiece_112
      · have c_10 : ¬ (((v 9 : Nat) : Int) ≤ ((x : Nat) : Int)) := fun q => c_10 ((zz_le (nI_toInt (by omega)) (nI_toInt (by omega))).mpr q)
        have hw9 := iw x (by omega)
        refine lv_aload hx hb d_Plan_takeBestPiece_13 (lv_at hl 6 rfl) ?_
        refine va_get (D := (dC, dI)) (ci := 2) (v := .ref (a 6)) (C := "CutLengths$WantedLengths") (T := T_Wanted) (N := 3) hx hb hz i_Wanted hown hK hP 4 rfl rfl 2 (by decide) (hz _ tw_90) (fun _ h9 => h9) rfl d_Plan_takeBestPiece_15 ?_
        refine lv_iload hx hb d_Plan_takeBestPiece_18 (lv_at hl 0 rfl) ?_
        refine zz_nald hx hb hK hP 6 0 (f := f 3) (i := x) rfl rfl (by omega) (by decide) d_Plan_takeBestPiece_20 ?_
        refine lv_iload_n hx hb d_Plan_takeBestPiece_21 rfl (lv_at hl 3 rfl) ?_
        refine va_mmin hx hb (by rw [hml]; exact hl.1.symm) hown (hz _ tw_192) (hz _ tw_193) (hz _ tw_28) (hz _ tw_min) (Nat.le_of_ble_eq_true rfl) (Nat.le_of_ble_eq_true rfl) (Nat.zero_le _) (Nat.zero_le _) d_Plan_takeBestPiece_22 ?_
        refine zz_top (zz_min (by omega) (by omega)) ?_
        refine lv_istore (lv' := [(7, .int (nI (min (f 3 x) (r)))), (6, .int (nI (x))), (0, .ref (a 7)), (1, .int (nI (j))), (2, .int (nI (r))), (3, .int (nI (sc))), (4, .ref (a 1)), (5, .ref (a 4))]) hx hb d_Plan_takeBestPiece_25 hl (by decide) rfl (fun ls hl => ?_)
        refine lv_iload hx hb d_Plan_takeBestPiece_27 (lv_at hl 0 rfl) ?_
        refine lv_istore (lv' := [(8, .int (nI (min (f 3 x) (r)))), (7, .int (nI (min (f 3 x) (r)))), (6, .int (nI (x))), (0, .ref (a 7)), (1, .int (nI (j))), (2, .int (nI (r))), (3, .int (nI (sc))), (4, .ref (a 1)), (5, .ref (a 4))]) hx hb d_Plan_takeBestPiece_29 hl (by decide) rfl (fun ls hl => ?_)
        have loop2 : ∀ (n : Nat) (t ya : Nat) (yf : Int32) (ys : Nat), (t ≤ min (f 3 x) r) → (zB (zPa (zcand (v 3) (v 4) (v 9) (f 2) (f 3) (f 1) r j) x t) (f 4) j (f 4 j) (f 5 j) ya yf ys) → (t < n) → ∀ (H : Heap) (locs : List Loc), va_P (dC, dI) vwCl (wC a cI cZ v (zu (zu f 4 (va_up (f 4) j ya)) 5 (va_up (f 5) j ys)) (zu w 0 (va_up (w 0) j yf))) H → va_D A (wC a cI cZ v (zu (zu f 4 (va_up (f 4) j ya)) 5 (va_up (f 5) j ys)) (zu w 0 (va_up (w 0) j yf))) → va_S A s.heap H locs → ∀ ls : Array Slot, lv_has ls 10 [(8, .int (nI (t))), (7, .int (nI (min (f 3 x) r))), (6, .int (nI (x))), (0, .ref (a 7)), (1, .int (nI (j))), (2, .int (nI (r))), (3, .int (nI (sc))), (4, .ref (a 1)), (5, .ref (a 4))] → W p l e (headSpec (zw_Plan_takeBestPiece :: zW) ({ frames := 1, cells := 0, slots := 0, locals := 30 })).room s m ([.ref (a 7), .int (nI (j)), .int (nI (r)), .int (nI (sc)), .ref (a 1), .ref (a 4)]).toArray below meth c H locs 0 0 (MQ below (va_Qv (fun (u : Nat × Int32 × Nat) => zB (zcand (v 3) (v 4) (v 9) (f 2) (f 3) (f 1) r j) (f 4) j (f 4 j) (f 5 j) u.1 u.2.1 u.2.2) (fun (u : Nat × Int32 × Nat) t => match u with | (x, y, z) => va_P (dC, dI) vwCl (wC a cI cZ v (zu (zu f 4 (va_up (f 4) j x)) 5 (va_up (f 5) j z)) (zu w 0 (va_up (w 0) j y))) t.heap ∧ va_K (dC, dI) vwCl [(cI, .int), (cZ, .boolean)] t ∧ va_D A (wC a cI cZ v (zu (zu f 4 (va_up (f 4) j x)) 5 (va_up (f 5) j z)) (zu w 0 (va_up (w 0) j y)))) A) ([.ref (a 7), .int (nI (j)), .int (nI (r)), .int (nI (sc)), .ref (a 1), .ref (a 4)]).toArray s 0 0 A) (F0 m 31 ls []) := by
          intro n
          induction n with
          | zero =>
            intro t ya yf ys ht hb2 hn2
            exact absurd hn2 (by omega)
          | succ n ih_loop2 =>
            intro t ya yf ys ht hb2 hn2 H locs hP hD hS ls hl
            have hm1 : t ≤ f 3 x := Nat.le_trans ht (Nat.min_le_left _ _)
            have hm2 : t ≤ r := Nat.le_trans ht (Nat.min_le_right _ _)
            have hya := zB_le hb2
            refine lv_iload hx hb d_Plan_takeBestPiece_31 (lv_at hl 0 rfl) ?_
            refine lv_aload hx hb d_Plan_takeBestPiece_33 (lv_at hl 8 rfl) ?_
            refine va_get (D := (dC, dI)) (ci := 2) (v := .ref (a 5)) (C := "CutLengths$WantedLengths") (T := T_Wanted) (N := 3) hx hb hz i_Wanted hown hK hP 4 rfl rfl 1 (by decide) (hz _ tw_87) (fun _ h9 => h9) rfl d_Plan_takeBestPiece_35 ?_
            refine lv_iload hx hb d_Plan_takeBestPiece_38 (lv_at hl 2 rfl) ?_
            refine zz_nald hx hb hK hP 5 0 (f := f 2) (i := x) rfl rfl (by omega) (by decide) d_Plan_takeBestPiece_40 ?_
            refine lv_icmp_lt (tgt := 106) hx hb d_Plan_takeBestPiece_41 (by decide) (fun c_41 => ?_) (fun c_41 => ?_)
            · have c_41 : ((t : Nat) : Int) < ((f 2 x : Nat) : Int) := (zz_lt (nI_toInt (by omega)) (nI_toInt (by omega))).mp c_41
              refine lv_iinc (v := nI (x + 1)) (lv' := [(6, .int (nI (x + 1))), (8, .int (nI (t))), (7, .int (nI (min (f 3 x) r))), (0, .ref (a 7)), (1, .int (nI (j))), (2, .int (nI (r))), (3, .int (nI (sc))), (4, .ref (a 1)), (5, .ref (a 4))]) hx hb d_Plan_takeBestPiece_106 hl (k := 2) rfl (zz_inc _) (by decide) rfl (fun ls hl => ?_)
              refine lv_goto (tgt := 3) hx hb d_Plan_takeBestPiece_109 (by decide) ?_
              exact ih_loop (x + 1) ya yf ys (by omega) (zouter hb2 (by omega)) (by omega) H locs hP hD hS ls (lv_sub hl [0, 3, 4, 5, 6, 7, 8] rfl)
            · have c_41 : ¬ (((t : Nat) : Int) < ((f 2 x : Nat) : Int)) := fun q => c_41 ((zz_lt (nI_toInt (by omega)) (nI_toInt (by omega))).mpr q)
              have e1 : va_up (f 4) j ya (j + t) = f 4 (j + t) := va_up_ne _ _ (by omega)
              have e2 : va_up (f 4) j ya j = ya := va_up_self _ _ _
              have e3 : va_up (w 0) j yf j = yf := va_up_self _ _ _
              have hL9 := hL (j + t) (by omega) (by omega)
              have hLj : va_up (f 4) j ya j ≤ 300 := by omega
              have hLk : va_up (f 4) j ya (j + t) ≤ 300 := by omega
              have hst := zstep hb2 (by omega) (by omega) i9 (by omega) hm1 hm2 hm
              refine lv_iload_n hx hb d_Plan_takeBestPiece_44 rfl (lv_at hl 4 rfl) ?_
              refine lv_iload hx hb d_Plan_takeBestPiece_45 (lv_at hl 0 rfl) ?_
              refine lv_iadd hx hb d_Plan_takeBestPiece_47 ?_
              refine zz_top (nI_add (j) (t)) ?_
              refine lv_istore (lv' := [(9, .int (nI (j + t))), (8, .int (nI (t))), (7, .int (nI (min (f 3 x) r))), (6, .int (nI (x))), (0, .ref (a 7)), (1, .int (nI (j))), (2, .int (nI (r))), (3, .int (nI (sc))), (4, .ref (a 1)), (5, .ref (a 4))]) hx hb d_Plan_takeBestPiece_48 hl (by decide) rfl (fun ls hl => ?_)
              refine lv_aload hx hb d_Plan_takeBestPiece_50 (lv_at hl 8 rfl) ?_
              refine lv_iload hx hb d_Plan_takeBestPiece_52 (lv_at hl 0 rfl) ?_
              refine zz_ro (va_runV (As := [.int (nI (j + t))]) (rest := []) ⟨hx, hb, hml, hown, hz⟩ (c_Strand_pieceMayEnd l dC dI a cI cZ v (zu (zu f 4 (va_up (f 4) j ya)) 5 (va_up (f 5) j ys)) (zu w 0 (va_up (w 0) j yf)) (j + t) (by omega) hI) (cwV (C := "CutLengths$Strand") 1 hz (zgV tw_195 tw_196 tw_197 tw_16 tw_198) rfl rfl rfl (by decide +kernel) ⟨Nat.le_of_ble_eq_true rfl, Nat.le_of_ble_eq_true rfl⟩) ⟨(fun a U g mk q => ⟨q.1, q.2.1, va_K.moved (u := U) (U := U.calling g mk a) (Vm.Alike.refl U.vm) q.2.2⟩), va_recv hK hP (ci := 1) (q0 := 1) rfl rfl, fun U hU hW => ⟨rfl, by rw [hU]; exact hP, va_K.moved hW.alike hK⟩⟩ rfl rfl hl.1 rfl (lv_room (Nat.le_of_ble_eq_true rfl)) d_Plan_takeBestPiece_54 ⟨Nat.zero_le _, Nat.zero_le _⟩) ?_
              by_cases q_54 : (j + t) = v 3 ∨ f 1 (j + t) = 0
              · refine zz_top (congrArg nI (if_pos q_54)) ?_
                refine lv_if_eq (tgt := 79) hx hb d_Plan_takeBestPiece_57 (by decide) (fun c9 => absurd c9 (by decide)) (fun _ => ?_)
                refine lv_aload_n hx hb d_Plan_takeBestPiece_60 rfl (lv_at hl 4 rfl) ?_
                refine lv_iload_n hx hb d_Plan_takeBestPiece_61 rfl (lv_at hl 5 rfl) ?_
                refine lv_iload hx hb d_Plan_takeBestPiece_62 (lv_at hl 0 rfl) ?_
                refine zz_ro (va_runV (As := [.int (nI (j)), .int (nI (j + t))]) (rest := []) ⟨hx, hb, hml, hown, hz⟩ (c_Plan_isBetter l dC dI a cI cZ v (zu (zu f 4 (va_up (f 4) j ya)) 5 (va_up (f 5) j ys)) (zu w 0 (va_up (w 0) j yf)) (j) (j + t) (by omega) (by omega) hLj hLk) (cwV (C := "CutLengths$Plan") 2 hz (zgV tw_199 tw_201 tw_3 tw_18 tw_202) rfl rfl rfl (by decide +kernel) ⟨Nat.le_of_ble_eq_true rfl, Nat.le_of_ble_eq_true rfl⟩) ⟨(fun a U g mk q => ⟨q.1, q.2.1, va_K.moved (u := U) (U := U.calling g mk a) (Vm.Alike.refl U.vm) q.2.2⟩), va_recv hK hP (ci := 3) (q0 := 7) rfl rfl, fun U hU hW => ⟨rfl, by rw [hU]; exact hP, va_K.moved hW.alike hK⟩⟩ rfl rfl hl.1 rfl (lv_room (Nat.le_of_ble_eq_true rfl)) d_Plan_takeBestPiece_64 ⟨Nat.zero_le _, Nat.zero_le _⟩) ?_
                by_cases q_64 : (va_up (f 4) j ya) (j + t) < (va_up (f 4) j ya) j ∨ ((va_up (f 4) j ya) (j + t) = (va_up (f 4) j ya) j ∧ (va_up (w 0) j yf) j = -1)
                · refine zz_top (congrArg nI (if_pos q_64)) ?_
                  rw [e1, e2, e3] at q_64
                  refine lv_if_eq (tgt := 79) hx hb d_Plan_takeBestPiece_67 (by decide) (fun c9 => absurd c9 (by decide)) (fun _ => ?_)
                  refine lv_aload_n hx hb d_Plan_takeBestPiece_70 rfl (lv_at hl 4 rfl) ?_
                  refine lv_iload_n hx hb d_Plan_takeBestPiece_71 rfl (lv_at hl 5 rfl) ?_
                  refine lv_iload hx hb d_Plan_takeBestPiece_72 (lv_at hl 3 rfl) ?_
                  refine lv_iload hx hb d_Plan_takeBestPiece_74 (lv_at hl 1 rfl) ?_
                  have hFc := va_free (wc := (wC a cI cZ v (zu (zu f 4 (va_up (f 4) j ya)) 5 (va_up (f 5) j ys)) (zu w 0 (va_up (w 0) j yf)))) hD hS hA [0, 1, 2, 3, 4, 5, 6, 7, 8, 9, 10, 11, 12, 13, 14] rfl
                  refine va_callv (va_runV (As := [.int (nI (j)), .int (nI (x)), .int (nI (t))]) (rest := []) ⟨hx, hb, hml, hown, hz⟩ (c_Plan_takePiece l dC dI a cI cZ v (zu (zu f 4 (va_up (f 4) j ya)) 5 (va_up (f 5) j ys)) (zu w 0 (va_up (w 0) j yf)) (H).size (j) (t) (nI (x)) (by omega)) (cwV (C := "CutLengths$Plan") 3 hz (zgV tw_203 tw_205 tw_4 tw_18 tw_206) rfl rfl rfl (by decide +kernel) ⟨Nat.le_of_ble_eq_true rfl, Nat.le_of_ble_eq_true rfl⟩) ⟨(fun a U g mk q => by obtain ⟨q0, q1, qP, qK, qD⟩ := q; exact ⟨q0, q1, qP, va_K.moved (u := U) (U := U.calling g mk a) (Vm.Alike.refl U.vm) qK, qD⟩), va_recv hK hP (ci := 3) (q0 := 7) rfl rfl, fun U hU hW => ⟨rfl, by rw [hU], by rw [hU]; exact hP, va_K.moved hW.alike hK, hD.weaken (fun _ _ _ _ => trivial)⟩⟩ rfl rfl hl.1 rfl (lv_room (Nat.le_of_ble_eq_true rfl)) d_Plan_takeBestPiece_76 ⟨Nat.zero_le _, Nat.zero_le _⟩) hS (fun q _ h => hFc q h) hFc (fun u9 t9 H1 locs ht hvm hw hB hz1 hk1 hS => ?_)
                  obtain ⟨hP1, hK1, hD1⟩ := hB
                  rw [ht] at hP1
                  obtain ⟨hP, hD⟩ := va_join (wr := []) (w1 := (wC a cI cZ v (zu (zu f 4 (va_up (va_up (f 4) j ya) j ((va_up (f 4) j ya) (j + t)))) 5 (va_up (va_up (f 5) j ys) j t)) (zu w 0 (va_up (va_up (w 0) j yf) j (nI (x)))))) hP hD [0, 1, 2, 3, 4, 5, 6, 7, 8, 9, 10, 11, 12, 13, 14] [] rfl rfl (by decide) (by decide) hk1 hFc hP1 hD1
                  generalize H1 = H at hP hS ⊢
                  have hP : va_P (dC, dI) vwCl (wC a cI cZ v (zu (zu f 4 (va_up (va_up (f 4) j ya) j ((va_up (f 4) j ya) (j + t)))) 5 (va_up (va_up (f 5) j ys) j t)) (zu w 0 (va_up (va_up (w 0) j yf) j (nI (x))))) H := hP
                  have hD : va_D A (wC a cI cZ v (zu (zu f 4 (va_up (va_up (f 4) j ya) j ((va_up (f 4) j ya) (j + t)))) 5 (va_up (va_up (f 5) j ys) j t)) (zu w 0 (va_up (va_up (w 0) j yf) j (nI (x))))) := hD
                  simp only [bx_uu, e1] at hP hD
                  have hP : va_P (dC, dI) vwCl (wC a cI cZ v (zu (zu f 4 (va_up (f 4) j (f 4 (j + t)))) 5 (va_up (f 5) j t)) (zu w 0 (va_up (w 0) j (nI x)))) H := hP
                  have hD : va_D A (wC a cI cZ v (zu (zu f 4 (va_up (f 4) j (f 4 (j + t)))) 5 (va_up (f 5) j t)) (zu w 0 (va_up (w 0) j (nI x)))) := hD
                  have hb3 := hst.1 q_54 q_64
                  refine lv_aload_n hx hb d_Plan_takeBestPiece_79 rfl (lv_at hl 4 rfl) ?_
                  refine va_get (D := (dC, dI)) (ci := 3) (v := .ref (a 9)) (C := "CutLengths$Plan") (T := T_Plan) (N := 3) hx hb hz i_Plan hown hK hP 7 rfl rfl 1 (by decide) (hz _ tw_108) (fun _ h9 => h9) rfl d_Plan_takeBestPiece_80 ?_
                  refine lv_iload_n hx hb d_Plan_takeBestPiece_83 rfl (lv_at hl 5 rfl) ?_
                  refine zz_iald hx hb hK hP 9 0 (f := va_up (w 0) j (nI x)) (i := j) rfl rfl (by omega) (by decide) d_Plan_takeBestPiece_84 ?_
                  refine zz_top (va_up_self _ _ _) ?_
                  refine lv_iconst (v := -1) hx hb d_Plan_takeBestPiece_85 (by decide) ?_
                  refine lv_icmp_eq (tgt := 100) hx hb d_Plan_takeBestPiece_86 (by decide) (fun c_86 => ?_) (fun c_86 => ?_)
                  · have c_86 : nI x = -1 := c_86
                    refine lv_iinc (v := nI (t - 1)) (lv' := [(8, .int (nI (t - 1))), (9, .int (nI (j + t))), (7, .int (nI (min (f 3 x) r))), (6, .int (nI (x))), (0, .ref (a 7)), (1, .int (nI (j))), (2, .int (nI (r))), (3, .int (nI (sc))), (4, .ref (a 1)), (5, .ref (a 4))]) hx hb d_Plan_takeBestPiece_100 hl (k := 1) rfl (zz_decn (by omega)) (by decide) rfl (fun ls hl => ?_)
                    refine lv_goto (tgt := 31) hx hb d_Plan_takeBestPiece_103 (by decide) ?_
                    exact ih_loop2 (t - 1) (f 4 (j + t)) (nI x) t (by omega) hb3 (by omega) H locs hP hD hS ls (lv_sub hl [0, 2, 3, 4, 5, 6, 7, 8, 9] rfl)
                  · have c_86 : ¬ (nI x = -1) := c_86
                    refine lv_aload_n hx hb d_Plan_takeBestPiece_89 rfl (lv_at hl 4 rfl) ?_
                    refine va_get (D := (dC, dI)) (ci := 3) (v := .ref (a 8)) (C := "CutLengths$Plan") (T := T_Plan) (N := 3) hx hb hz i_Plan hown hK hP 7 rfl rfl 0 (by decide) (hz _ tw_106) (fun _ h9 => h9) rfl d_Plan_takeBestPiece_90 ?_
                    refine lv_iload_n hx hb d_Plan_takeBestPiece_93 rfl (lv_at hl 5 rfl) ?_
                    refine zz_nald hx hb hK hP 8 0 (f := va_up (f 4) j (f 4 (j + t))) (i := j) rfl rfl (by omega) (by decide) d_Plan_takeBestPiece_94 ?_
                    refine zz_top (congrArg nI (va_up_self _ _ _)) ?_
                    refine lv_iload_n hx hb d_Plan_takeBestPiece_95 rfl (lv_at hl 7 rfl) ?_
                    refine lv_icmp_ne (tgt := 100) hx hb d_Plan_takeBestPiece_96 (by decide) (fun c_96 => ?_) (fun c_96 => ?_)
                    · have c_96 : ¬ (((f 4 (j + t) : Nat) : Int) = ((sc : Nat) : Int)) := fun q => c_96 ((zz_eq (nI_toInt (by omega)) (nI_toInt (by omega))).mpr q)
                      refine lv_iinc (v := nI (t - 1)) (lv' := [(8, .int (nI (t - 1))), (9, .int (nI (j + t))), (7, .int (nI (min (f 3 x) r))), (6, .int (nI (x))), (0, .ref (a 7)), (1, .int (nI (j))), (2, .int (nI (r))), (3, .int (nI (sc))), (4, .ref (a 1)), (5, .ref (a 4))]) hx hb d_Plan_takeBestPiece_100 hl (k := 1) rfl (zz_decn (by omega)) (by decide) rfl (fun ls hl => ?_)
                      refine lv_goto (tgt := 31) hx hb d_Plan_takeBestPiece_103 (by decide) ?_
                      exact ih_loop2 (t - 1) (f 4 (j + t)) (nI x) t (by omega) hb3 (by omega) H locs hP hD hS ls (lv_sub hl [0, 2, 3, 4, 5, 6, 7, 8, 9] rfl)
                    · have c_96 : ((f 4 (j + t) : Nat) : Int) = ((sc : Nat) : Int) := (zz_eq (nI_toInt (by omega)) (nI_toInt (by omega))).mp c_96
                      exact W.vret hx hb hr (fun t9 ht hW => ⟨⟨(f 4 (j + t), nI x, t), rfl, (zstop hb3 c_86 (fun l q1 q2 => by have := hs l q1 q2; omega) (fun w q => (iw w q).1)), by rw [ht]; exact hP, va_K.moved hW.alike hK, hD⟩, hS.F ht⟩) hS.2.2 d_Plan_takeBestPiece_99
                · refine zz_top (congrArg nI (if_neg q_64)) ?_
                  rw [e1, e2, e3] at q_64
                  refine lv_if_eq (tgt := 79) hx hb d_Plan_takeBestPiece_67 (by decide) (fun _ => ?_) (fun c9 => absurd c9 (by decide))
                  have hb3 := hst.2 (fun q => q_64 q.2)
                  refine lv_aload_n hx hb d_Plan_takeBestPiece_79 rfl (lv_at hl 4 rfl) ?_
                  refine va_get (D := (dC, dI)) (ci := 3) (v := .ref (a 9)) (C := "CutLengths$Plan") (T := T_Plan) (N := 3) hx hb hz i_Plan hown hK hP 7 rfl rfl 1 (by decide) (hz _ tw_108) (fun _ h9 => h9) rfl d_Plan_takeBestPiece_80 ?_
                  refine lv_iload_n hx hb d_Plan_takeBestPiece_83 rfl (lv_at hl 5 rfl) ?_
                  refine zz_iald hx hb hK hP 9 0 (f := va_up (w 0) j yf) (i := j) rfl rfl (by omega) (by decide) d_Plan_takeBestPiece_84 ?_
                  refine zz_top (va_up_self _ _ _) ?_
                  refine lv_iconst (v := -1) hx hb d_Plan_takeBestPiece_85 (by decide) ?_
                  refine lv_icmp_eq (tgt := 100) hx hb d_Plan_takeBestPiece_86 (by decide) (fun c_86 => ?_) (fun c_86 => ?_)
                  · have c_86 : yf = -1 := c_86
                    refine lv_iinc (v := nI (t - 1)) (lv' := [(8, .int (nI (t - 1))), (9, .int (nI (j + t))), (7, .int (nI (min (f 3 x) r))), (6, .int (nI (x))), (0, .ref (a 7)), (1, .int (nI (j))), (2, .int (nI (r))), (3, .int (nI (sc))), (4, .ref (a 1)), (5, .ref (a 4))]) hx hb d_Plan_takeBestPiece_100 hl (k := 1) rfl (zz_decn (by omega)) (by decide) rfl (fun ls hl => ?_)
                    refine lv_goto (tgt := 31) hx hb d_Plan_takeBestPiece_103 (by decide) ?_
                    exact ih_loop2 (t - 1) ya yf ys (by omega) hb3 (by omega) H locs hP hD hS ls (lv_sub hl [0, 2, 3, 4, 5, 6, 7, 8, 9] rfl)
                  · have c_86 : ¬ (yf = -1) := c_86
                    refine lv_aload_n hx hb d_Plan_takeBestPiece_89 rfl (lv_at hl 4 rfl) ?_
                    refine va_get (D := (dC, dI)) (ci := 3) (v := .ref (a 8)) (C := "CutLengths$Plan") (T := T_Plan) (N := 3) hx hb hz i_Plan hown hK hP 7 rfl rfl 0 (by decide) (hz _ tw_106) (fun _ h9 => h9) rfl d_Plan_takeBestPiece_90 ?_
                    refine lv_iload_n hx hb d_Plan_takeBestPiece_93 rfl (lv_at hl 5 rfl) ?_
                    refine zz_nald hx hb hK hP 8 0 (f := va_up (f 4) j ya) (i := j) rfl rfl (by omega) (by decide) d_Plan_takeBestPiece_94 ?_
                    refine zz_top (congrArg nI (va_up_self _ _ _)) ?_
                    refine lv_iload_n hx hb d_Plan_takeBestPiece_95 rfl (lv_at hl 7 rfl) ?_
                    refine lv_icmp_ne (tgt := 100) hx hb d_Plan_takeBestPiece_96 (by decide) (fun c_96 => ?_) (fun c_96 => ?_)
                    · have c_96 : ¬ (((ya : Nat) : Int) = ((sc : Nat) : Int)) := fun q => c_96 ((zz_eq (nI_toInt (by omega)) (nI_toInt (by omega))).mpr q)
                      refine lv_iinc (v := nI (t - 1)) (lv' := [(8, .int (nI (t - 1))), (9, .int (nI (j + t))), (7, .int (nI (min (f 3 x) r))), (6, .int (nI (x))), (0, .ref (a 7)), (1, .int (nI (j))), (2, .int (nI (r))), (3, .int (nI (sc))), (4, .ref (a 1)), (5, .ref (a 4))]) hx hb d_Plan_takeBestPiece_100 hl (k := 1) rfl (zz_decn (by omega)) (by decide) rfl (fun ls hl => ?_)
                      refine lv_goto (tgt := 31) hx hb d_Plan_takeBestPiece_103 (by decide) ?_
                      exact ih_loop2 (t - 1) ya yf ys (by omega) hb3 (by omega) H locs hP hD hS ls (lv_sub hl [0, 2, 3, 4, 5, 6, 7, 8, 9] rfl)
                    · have c_96 : ((ya : Nat) : Int) = ((sc : Nat) : Int) := (zz_eq (nI_toInt (by omega)) (nI_toInt (by omega))).mp c_96
                      exact W.vret hx hb hr (fun t9 ht hW => ⟨⟨(ya, yf, ys), rfl, (zstop hb3 c_86 (fun l q1 q2 => by have := hs l q1 q2; omega) (fun w q => (iw w q).1)), by rw [ht]; exact hP, va_K.moved hW.alike hK, hD⟩, hS.F ht⟩) hS.2.2 d_Plan_takeBestPiece_99
              · refine zz_top (congrArg nI (if_neg q_54)) ?_
                refine lv_if_eq (tgt := 79) hx hb d_Plan_takeBestPiece_57 (by decide) (fun _ => ?_) (fun c9 => absurd c9 (by decide))
                have hb3 := hst.2 (fun q => q_54 q.1)
                refine lv_aload_n hx hb d_Plan_takeBestPiece_79 rfl (lv_at hl 4 rfl) ?_
                refine va_get (D := (dC, dI)) (ci := 3) (v := .ref (a 9)) (C := "CutLengths$Plan") (T := T_Plan) (N := 3) hx hb hz i_Plan hown hK hP 7 rfl rfl 1 (by decide) (hz _ tw_108) (fun _ h9 => h9) rfl d_Plan_takeBestPiece_80 ?_
                refine lv_iload_n hx hb d_Plan_takeBestPiece_83 rfl (lv_at hl 5 rfl) ?_
                refine zz_iald hx hb hK hP 9 0 (f := va_up (w 0) j yf) (i := j) rfl rfl (by omega) (by decide) d_Plan_takeBestPiece_84 ?_
                refine zz_top (va_up_self _ _ _) ?_
                refine lv_iconst (v := -1) hx hb d_Plan_takeBestPiece_85 (by decide) ?_
                refine lv_icmp_eq (tgt := 100) hx hb d_Plan_takeBestPiece_86 (by decide) (fun c_86 => ?_) (fun c_86 => ?_)
                · have c_86 : yf = -1 := c_86
                  refine lv_iinc (v := nI (t - 1)) (lv' := [(8, .int (nI (t - 1))), (9, .int (nI (j + t))), (7, .int (nI (min (f 3 x) r))), (6, .int (nI (x))), (0, .ref (a 7)), (1, .int (nI (j))), (2, .int (nI (r))), (3, .int (nI (sc))), (4, .ref (a 1)), (5, .ref (a 4))]) hx hb d_Plan_takeBestPiece_100 hl (k := 1) rfl (zz_decn (by omega)) (by decide) rfl (fun ls hl => ?_)
                  refine lv_goto (tgt := 31) hx hb d_Plan_takeBestPiece_103 (by decide) ?_
                  exact ih_loop2 (t - 1) ya yf ys (by omega) hb3 (by omega) H locs hP hD hS ls (lv_sub hl [0, 2, 3, 4, 5, 6, 7, 8, 9] rfl)
                · have c_86 : ¬ (yf = -1) := c_86
                  refine lv_aload_n hx hb d_Plan_takeBestPiece_89 rfl (lv_at hl 4 rfl) ?_
                  refine va_get (D := (dC, dI)) (ci := 3) (v := .ref (a 8)) (C := "CutLengths$Plan") (T := T_Plan) (N := 3) hx hb hz i_Plan hown hK hP 7 rfl rfl 0 (by decide) (hz _ tw_106) (fun _ h9 => h9) rfl d_Plan_takeBestPiece_90 ?_
                  refine lv_iload_n hx hb d_Plan_takeBestPiece_93 rfl (lv_at hl 5 rfl) ?_
                  refine zz_nald hx hb hK hP 8 0 (f := va_up (f 4) j ya) (i := j) rfl rfl (by omega) (by decide) d_Plan_takeBestPiece_94 ?_
                  refine zz_top (congrArg nI (va_up_self _ _ _)) ?_
                  refine lv_iload_n hx hb d_Plan_takeBestPiece_95 rfl (lv_at hl 7 rfl) ?_
                  refine lv_icmp_ne (tgt := 100) hx hb d_Plan_takeBestPiece_96 (by decide) (fun c_96 => ?_) (fun c_96 => ?_)
                  · have c_96 : ¬ (((ya : Nat) : Int) = ((sc : Nat) : Int)) := fun q => c_96 ((zz_eq (nI_toInt (by omega)) (nI_toInt (by omega))).mpr q)
                    refine lv_iinc (v := nI (t - 1)) (lv' := [(8, .int (nI (t - 1))), (9, .int (nI (j + t))), (7, .int (nI (min (f 3 x) r))), (6, .int (nI (x))), (0, .ref (a 7)), (1, .int (nI (j))), (2, .int (nI (r))), (3, .int (nI (sc))), (4, .ref (a 1)), (5, .ref (a 4))]) hx hb d_Plan_takeBestPiece_100 hl (k := 1) rfl (zz_decn (by omega)) (by decide) rfl (fun ls hl => ?_)
                    refine lv_goto (tgt := 31) hx hb d_Plan_takeBestPiece_103 (by decide) ?_
                    exact ih_loop2 (t - 1) ya yf ys (by omega) hb3 (by omega) H locs hP hD hS ls (lv_sub hl [0, 2, 3, 4, 5, 6, 7, 8, 9] rfl)
                  · have c_96 : ((ya : Nat) : Int) = ((sc : Nat) : Int) := (zz_eq (nI_toInt (by omega)) (nI_toInt (by omega))).mp c_96
                    exact W.vret hx hb hr (fun t9 ht hW => ⟨⟨(ya, yf, ys), rfl, (zstop hb3 c_86 (fun l q1 q2 => by have := hs l q1 q2; omega) (fun w q => (iw w q).1)), by rw [ht]; exact hP, va_K.moved hW.alike hK, hD⟩, hS.F ht⟩) hS.2.2 d_Plan_takeBestPiece_99
        exact loop2 (min (f 3 x) r + 1) (min (f 3 x) r) xa xf xs (Nat.le_refl _) (zinner hb1) (by omega) H locs hP hD hS ls (lv_sub hl [0, 1, 2, 3, 4, 5, 6, 7, 8] rfl)
  exact loop (v 9 + 1) 0 (f 4 j) (w 0 j) (f 5 j) (Nat.zero_le _) (by rw [hF]; exact zbegin rfl) (by omega) s.heap [] (by rw [zup_same, zup_same, zup_same]; exact hP) (by rw [zup_same, zup_same, zup_same]; exact hD) hS ls (lv_sub hl [0, 1, 2, 3, 4, 5, 6] rfl)
set_option maxHeartbeats 4000000 in
set_option maxRecDepth 100000 in
theorem c_Plan_make (l : Launch) (dC : Nat → ClassId) (dI : Nat → Nat → Nat) (a : Nat → Nat) (cI cZ : ClassId) (v : Nat → Nat) (f : Nat → Nat → Nat) (w : Nat → Nat → Int32) (sz : Nat) (hI : zI v f) : Met l y_Plan_make (zw_Plan_make :: zW) ({ frames := 2, cells := 0, slots := 0, locals := 59 }) (va_Pc [.ref (a 7), .ref (a 1), .ref (a 4)] (fun U => U.heap.size = sz ∧ va_P (dC, dI) vwCl (wC a cI cZ v f w) U.heap ∧ va_K (dC, dI) vwCl [(cI, .int), (cZ, .boolean)] U ∧ va_D (fun _ => True) (wC a cI cZ v f w))) (va_Qv (fun (u : (Nat → Nat) × (Nat → Nat) × (Nat → Int32)) => zCP v f u.1 u.2.1 u.2.2) (fun (u : (Nat → Nat) × (Nat → Nat) × (Nat → Int32)) t => match u with | (L, S, F) => va_P (dC, dI) vwCl (wC a cI cZ v (zu (zu f 4 (L)) 5 (S)) (zu w 0 (F))) t.heap ∧ va_K (dC, dI) vwCl [(cI, .int), (cZ, .boolean)] t ∧ va_D (va_A (wC a cI cZ v f w) sz) (wC a cI cZ v (zu (zu f 4 (L)) 5 (S)) (zu w 0 (F)))) (va_A (wC a cI cZ v f w) sz)) 0 0 (va_A (wC a cI cZ v f w) sz) := by
  refine Met.ofW (cc := prog_2_method_2_code) (maxL := 6) (ret := none) (by decide) rfl ?_
  intro p e s m args below meth c s₁ B hml hv
  obtain ⟨rfl, hsz, hP, hK, hD0⟩ := hv
  have hx := B.exec
  have hb := B.bytes
  have hr := B.returns
  have hz : ∀ w ∈ zW, w.before ([.ref (a 7), .ref (a 1), .ref (a 4)]).toArray s = true := fun w h => atoms_spec (ws := (zw_Plan_make :: zW)) B.pre w (List.mem_cons_of_mem _ h)
  have hown : s.vm.findClass "CutLengths$Plan" = some m.cls := findClass_of_methodNamed B.named
  have hlocks := B.notSynchronized
  subst hsz
  have hD := hD0.self (sz := s.heap.size)
  generalize hAe : va_A (wC a cI cZ v f w) s.heap.size = A at hD ⊢
  have hA : ∀ q : Nat, s.heap.size ≤ q → A q := fun q h => by rw [← hAe]; exact Or.inr h
  have hS : va_S A s.heap s.heap [] := va_S.rf
  have hP : va_P (dC, dI) vwCl (wC a cI cZ v f w) s.heap := hP
  obtain ⟨i3, i4, i5, i6, i7, i8, i9, i10, i2, i0, i1, iw, ib, ic, isl⟩ := id hI
  have hl := lv_entry ([.ref (a 7), .ref (a 1), .ref (a 4)]) (n := 6) (Nat.le_of_ble_eq_true rfl)
  rw [lg_entry_eq]
  generalize (lg_sl ([.ref (a 7), .ref (a 1), .ref (a 4)]) ++ List.replicate (6 - (lg_sl ([.ref (a 7), .ref (a 1), .ref (a 4)])).length) Slot.unset).toArray = ls at hl ⊢
  have hl : lv_has ls 6 [(0, .ref (a 7)), (1, .ref (a 1)), (2, .ref (a 4))] := hl
  refine lv_aload_n hx hb d_Plan_make_0 rfl (lv_at hl 0 rfl) ?_
  refine va_get (D := (dC, dI)) (ci := 3) (v := .ref (a 8)) (C := "CutLengths$Plan") (T := T_Plan) (N := 3) hx hb hz i_Plan hown hK hP 7 rfl rfl 0 (by decide) (hz _ tw_106) (fun _ h9 => h9) rfl d_Plan_make_1 ?_
  refine lv_aload_n hx hb d_Plan_make_4 rfl (lv_at hl 1 rfl) ?_
  refine va_get (D := (dC, dI)) (ci := 1) (v := .int (nI (v 3))) (C := "CutLengths$Strand") (T := T_Strand) (N := 8) hx hb hz i_Strand hown hK hP 1 rfl rfl 0 (by decide) (hz _ tw_44) (fun _ h9 => h9) rfl d_Plan_make_5 ?_
  refine lv_iconst (v := nI (0)) hx hb d_Plan_make_8 (by decide) ?_
  refine zz_nast hx hb hK hP hD hS 8 0 (f := f 4) (i := v 3) (x := 0) rfl rfl (by omega) (by decide) d_Plan_make_9 (fun H locs hP hD hS => ?_)
  have hP : va_P (dC, dI) vwCl (wC a cI cZ v (zu f 4 (va_up (f 4) (v 3) 0)) w) H := hP
  have hD : va_D A (wC a cI cZ v (zu f 4 (va_up (f 4) (v 3) 0)) w) := hD
  refine lv_aload_n hx hb d_Plan_make_10 rfl (lv_at hl 0 rfl) ?_
  refine va_get (D := (dC, dI)) (ci := 3) (v := .ref (a 9)) (C := "CutLengths$Plan") (T := T_Plan) (N := 3) hx hb hz i_Plan hown hK hP 7 rfl rfl 1 (by decide) (hz _ tw_108) (fun _ h9 => h9) rfl d_Plan_make_11 ?_
  refine lv_aload_n hx hb d_Plan_make_14 rfl (lv_at hl 1 rfl) ?_
  refine va_get (D := (dC, dI)) (ci := 1) (v := .int (nI (v 3))) (C := "CutLengths$Strand") (T := T_Strand) (N := 8) hx hb hz i_Strand hown hK hP 1 rfl rfl 0 (by decide) (hz _ tw_44) (fun _ h9 => h9) rfl d_Plan_make_15 ?_
  refine lv_bipush (v := -2) hx hb d_Plan_make_18 (by decide) ?_
  refine zz_iast hx hb hK hP hD hS 9 0 (f := w 0) (i := v 3) (x := -2) rfl rfl (by omega) (by decide) d_Plan_make_20 (fun H locs hP hD hS => ?_)
  have hP : va_P (dC, dI) vwCl (wC a cI cZ v (zu f 4 (va_up (f 4) (v 3) 0)) (zu w 0 (va_up (w 0) (v 3) (-2)))) H := hP
  have hD : va_D A (wC a cI cZ v (zu f 4 (va_up (f 4) (v 3) 0)) (zu w 0 (va_up (w 0) (v 3) (-2)))) := hD
  refine lv_aload_n hx hb d_Plan_make_21 rfl (lv_at hl 0 rfl) ?_
  refine va_get (D := (dC, dI)) (ci := 3) (v := .ref (a 10)) (C := "CutLengths$Plan") (T := T_Plan) (N := 3) hx hb hz i_Plan hown hK hP 7 rfl rfl 2 (by decide) (hz _ tw_110) (fun _ h9 => h9) rfl d_Plan_make_22 ?_
  refine lv_aload_n hx hb d_Plan_make_25 rfl (lv_at hl 1 rfl) ?_
  refine va_get (D := (dC, dI)) (ci := 1) (v := .int (nI (v 3))) (C := "CutLengths$Strand") (T := T_Strand) (N := 8) hx hb hz i_Strand hown hK hP 1 rfl rfl 0 (by decide) (hz _ tw_44) (fun _ h9 => h9) rfl d_Plan_make_26 ?_
  refine lv_iconst (v := nI (0)) hx hb d_Plan_make_29 (by decide) ?_
  refine zz_nast hx hb hK hP hD hS 10 0 (f := f 5) (i := v 3) (x := 0) rfl rfl (by omega) (by decide) d_Plan_make_30 (fun H locs hP hD hS => ?_)
  have hP : va_P (dC, dI) vwCl (wC a cI cZ v (zu (zu f 4 (va_up (f 4) (v 3) 0)) 5 (va_up (f 5) (v 3) 0)) (zu w 0 (va_up (w 0) (v 3) (-2)))) H := hP
  have hD : va_D A (wC a cI cZ v (zu (zu f 4 (va_up (f 4) (v 3) 0)) 5 (va_up (f 5) (v 3) 0)) (zu w 0 (va_up (w 0) (v 3) (-2)))) := hD
  refine lv_iconst (v := nI (0)) hx hb d_Plan_make_31 (by decide) ?_
  refine lv_istore_n (lv' := [(3, .int (nI (0))), (0, .ref (a 7)), (1, .ref (a 1)), (2, .ref (a 4))]) hx hb d_Plan_make_32 rfl hl (by decide) rfl (fun ls hl => ?_)
  refine lv_iconst (v := nI (0)) hx hb d_Plan_make_33 (by decide) ?_
  refine lv_istore (lv' := [(4, .int (nI (0))), (3, .int (nI (0))), (0, .ref (a 7)), (1, .ref (a 1)), (2, .ref (a 4))]) hx hb d_Plan_make_34 hl (by decide) rfl (fun ls hl => ?_)
  refine lv_aload_n hx hb d_Plan_make_36 rfl (lv_at hl 3 rfl) ?_
  refine va_get (D := (dC, dI)) (ci := 1) (v := .int (nI (v 3))) (C := "CutLengths$Strand") (T := T_Strand) (N := 8) hx hb hz i_Strand hown hK hP 1 rfl rfl 0 (by decide) (hz _ tw_44) (fun _ h9 => h9) rfl d_Plan_make_37 ?_
  refine lv_iconst (v := nI (1)) hx hb d_Plan_make_40 (by decide) ?_
  refine lv_isub hx hb d_Plan_make_41 ?_
  refine lv_istore (lv' := [(5, .int (nI (v 3) - nI (1))), (4, .int (nI (0))), (3, .int (nI (0))), (0, .ref (a 7)), (1, .ref (a 1)), (2, .ref (a 4))]) hx hb d_Plan_make_42 hl (by decide) rfl (fun ls hl => ?_)
  have loop : ∀ (n : Nat) (k : Nat) (L S : Nat → Nat) (F : Nat → Int32), (v 4 ≤ k) → (k ≤ v 3) → (zinv (v 3) (v 4) (v 9) (f 2) (f 3) (zG v f) (f 1) k L F S) → (k < v 4 + n) → ∀ (H : Heap) (locs : List Loc), va_P (dC, dI) vwCl (wC a cI cZ v (zu (zu f 4 (L)) 5 (S)) (zu w 0 (F))) H → va_D A (wC a cI cZ v (zu (zu f 4 (L)) 5 (S)) (zu w 0 (F))) → va_S A s.heap H locs → ∀ ls : Array Slot, lv_has ls 6 [(5, .int (nI k - nI 1)), (3, .int (nI (zrun (zG v f) (v 3) k))), (4, .int (nI (zsure (zG v f) (v 3) k))), (0, .ref (a 7)), (1, .ref (a 1)), (2, .ref (a 4))] → W p l e (headSpec (zw_Plan_make :: zW) ({ frames := 2, cells := 0, slots := 0, locals := 59 })).room s m ([.ref (a 7), .ref (a 1), .ref (a 4)]).toArray below meth c H locs 0 0 (MQ below (va_Qv (fun (u : (Nat → Nat) × (Nat → Nat) × (Nat → Int32)) => zCP v f u.1 u.2.1 u.2.2) (fun (u : (Nat → Nat) × (Nat → Nat) × (Nat → Int32)) t => match u with | (L, S, F) => va_P (dC, dI) vwCl (wC a cI cZ v (zu (zu f 4 (L)) 5 (S)) (zu w 0 (F))) t.heap ∧ va_K (dC, dI) vwCl [(cI, .int), (cZ, .boolean)] t ∧ va_D A (wC a cI cZ v (zu (zu f 4 (L)) 5 (S)) (zu w 0 (F)))) A) ([.ref (a 7), .ref (a 1), .ref (a 4)]).toArray s 0 0 A) (F0 m 44 ls []) := by
    intro n
    induction n with
    | zero =>
      intro k L S F hk1 hk2 hinv hn
      exact absurd hn (by omega)
    | succ n ih_loop =>
      intro k L S F hk1 hk2 hinv hn H locs hP hD hS ls hl
      refine lv_iload hx hb d_Plan_make_44 (lv_at hl 0 rfl) ?_
      refine lv_aload_n hx hb d_Plan_make_46 rfl (lv_at hl 4 rfl) ?_
      refine va_get (D := (dC, dI)) (ci := 1) (v := .int (nI (v 4))) (C := "CutLengths$Strand") (T := T_Strand) (N := 8) hx hb hz i_Strand hown hK hP 1 rfl rfl 1 (by decide) (hz _ tw_47) (fun _ h9 => h9) rfl d_Plan_make_47 ?_
      refine lv_icmp_lt (tgt := 105) hx hb d_Plan_make_50 (by decide) (fun c_50 => ?_) (fun c_50 => ?_)
      · have c_50 : ((k : Nat) : Int) - ((1 : Nat) : Int) < ((v 4 : Nat) : Int) := (zz_lt (pk_sub_toInt (by omega) (by omega)) (nI_toInt (by omega))).mp c_50
        exact W.vret hx hb hr (fun t9 ht hW => ⟨⟨(L, S, F), rfl, (by rw [show k = v 4 from by omega] at hinv; exact hinv), by rw [ht]; exact hP, va_K.moved hW.alike hK, hD⟩, hS.F ht⟩) hS.2.2 d_Plan_make_105
      · have c_50 : ¬ (((k : Nat) : Int) - ((1 : Nat) : Int) < ((v 4 : Nat) : Int)) := fun q => c_50 ((zz_lt (pk_sub_toInt (by omega) (by omega)) (nI_toInt (by omega))).mpr q)
        obtain ⟨j, rfl⟩ : ∃ j, k = j + 1 := ⟨k - 1, by omega⟩
        rw [show nI (j + 1) - nI 1 = nI j from nI_pred j] at hl
        have hl : lv_has ls 6 [(5, .int (nI (j))), (3, .int (nI (zrun (zG v f) (v 3) (j + 1)))), (4, .int (nI (zsure (zG v f) (v 3) (j + 1)))), (0, .ref (a 7)), (1, .ref (a 1)), (2, .ref (a 4))] := hl
        have hrs := zrun_s (G := zG v f) (n := v 3) (p := j) (by omega)
        have hss := zsure_s (G := zG v f) (n := v 3) (p := j) (by omega)
        have hrl := zrun_le (G := zG v f) (n := v 3) (p := j)
        have hsl := zsure_le (G := zG v f) (n := v 3) (p := j)
        have hrl1 := zrun_le (G := zG v f) (n := v 3) (p := j + 1)
        have hsl1 := zsure_le (G := zG v f) (n := v 3) (p := j + 1)
        refine lv_aload_n hx hb d_Plan_make_53 rfl (lv_at hl 4 rfl) ?_
        refine lv_iload hx hb d_Plan_make_54 (lv_at hl 0 rfl) ?_
        refine zz_ro (va_runV (As := [.int (nI (j))]) (rest := []) ⟨hx, hb, hml, hown, hz⟩ (c_Strand_isSound l dC dI a cI cZ v (zu (zu f 4 (L)) 5 (S)) (zu w 0 (F)) (j) (by omega) hI) (cwV (C := "CutLengths$Strand") 1 hz (zgV tw_176 tw_177 tw_178 tw_16 tw_179) rfl rfl rfl (by decide +kernel) ⟨Nat.le_of_ble_eq_true rfl, Nat.le_of_ble_eq_true rfl⟩) ⟨(fun a U g mk q => ⟨q.1, q.2.1, va_K.moved (u := U) (U := U.calling g mk a) (Vm.Alike.refl U.vm) q.2.2⟩), va_recv hK hP (ci := 1) (q0 := 1) rfl rfl, fun U hU hW => ⟨rfl, by rw [hU]; exact hP, va_K.moved hW.alike hK⟩⟩ rfl rfl hl.1 rfl (lv_room (Nat.le_of_ble_eq_true rfl)) d_Plan_make_56 ⟨Nat.zero_le _, Nat.zero_le _⟩) ?_
        by_cases q_56 : v 5 ≤ j ∧ j + v 6 < v 3 ∧ f 0 j = 0
        · refine zz_top (congrArg nI (if_pos q_56)) ?_
          refine lv_if_eq (tgt := 68) hx hb d_Plan_make_59 (by decide) (fun c9 => absurd c9 (by decide)) (fun _ => ?_)
          refine lv_iinc (v := nI (zrun (zG v f) (v 3) (j + 1) + 1)) (lv' := [(3, .int (nI (zrun (zG v f) (v 3) (j + 1) + 1))), (5, .int (nI (j))), (4, .int (nI (zsure (zG v f) (v 3) (j + 1)))), (0, .ref (a 7)), (1, .ref (a 1)), (2, .ref (a 4))]) hx hb d_Plan_make_62 hl (k := 1) rfl (zz_inc _) (by decide) rfl (fun ls hl => ?_)
          refine lv_goto (tgt := 73) hx hb d_Plan_make_65 (by decide) ?_
          have hg9 : ¬ zG v f j = 0 := by unfold zG; rw [if_pos q_56]; decide
          rw [if_neg hg9] at hrs hss
          have hl : lv_has ls 6 [(5, .int (nI (j))), (3, .int (nI (zrun (zG v f) (v 3) j))), (4, .int (nI (zsure (zG v f) (v 3) j))), (0, .ref (a 7)), (1, .ref (a 1)), (2, .ref (a 4))] := by rw [hrs, hss]; exact lv_sub hl [1, 0, 2, 3, 4, 5] rfl
          refine lv_aload_n hx hb d_Plan_make_73 rfl (lv_at hl 3 rfl) ?_
          refine lv_iload hx hb d_Plan_make_74 (lv_at hl 0 rfl) ?_
          have hFc := va_free (wc := (wC a cI cZ v (zu (zu f 4 (L)) 5 (S)) (zu w 0 (F)))) hD hS hA [0, 1, 2, 3, 4, 5, 6, 7, 8, 9, 10, 11, 12, 13, 14] rfl
          refine va_callv (va_runV (As := [.int (nI (j))]) (rest := []) ⟨hx, hb, hml, hown, hz⟩ (c_Plan_takeScrap l dC dI a cI cZ v (zu (zu f 4 (L)) 5 (S)) (zu w 0 (F)) (H).size (j) (by omega)) (cwV (C := "CutLengths$Plan") 1 hz (zgV tw_180 tw_182 tw_1 tw_18 tw_183) rfl rfl rfl (by decide +kernel) ⟨Nat.le_of_ble_eq_true rfl, Nat.le_of_ble_eq_true rfl⟩) ⟨(fun a U g mk q => by obtain ⟨q0, q1, qP, qK, qD⟩ := q; exact ⟨q0, q1, qP, va_K.moved (u := U) (U := U.calling g mk a) (Vm.Alike.refl U.vm) qK, qD⟩), va_recv hK hP (ci := 3) (q0 := 7) rfl rfl, fun U hU hW => ⟨rfl, by rw [hU], by rw [hU]; exact hP, va_K.moved hW.alike hK, hD.weaken (fun _ _ _ _ => trivial)⟩⟩ rfl rfl hl.1 rfl (lv_room (Nat.le_of_ble_eq_true rfl)) d_Plan_make_76 ⟨Nat.zero_le _, Nat.zero_le _⟩) hS (fun q _ h => hFc q h) hFc (fun u9 t9 H1 locs ht hvm hw hB hz1 hk1 hS => ?_)
          obtain ⟨x_76, rfl⟩ : ∃ z, z = u9 := ⟨_, rfl⟩
          obtain ⟨hP1, hK1, hD1⟩ := hB
          rw [ht] at hP1
          obtain ⟨hP, hD⟩ := va_join (wr := []) (w1 := (wC a cI cZ v (zu (zu f 4 (va_up L j ((L) (j + 1) + 1))) 5 (va_up S j x_76)) (zu w 0 (va_up F j (-1))))) hP hD [0, 1, 2, 3, 4, 5, 6, 7, 8, 9, 10, 11, 12, 13, 14] [] rfl rfl (by decide) (by decide) hk1 hFc hP1 hD1
          generalize H1 = H at hP hS ⊢
          have hP : va_P (dC, dI) vwCl (wC a cI cZ v (zu (zu f 4 (va_up L j ((L) (j + 1) + 1))) 5 (va_up S j x_76)) (zu w 0 (va_up F j (-1)))) H := hP
          have hD : va_D A (wC a cI cZ v (zu (zu f 4 (va_up L j ((L) (j + 1) + 1))) 5 (va_up S j x_76)) (zu w 0 (va_up F j (-1)))) := hD
          have hx9 : x_76 = zS0 F S j := hw
          refine lv_aload_n hx hb d_Plan_make_79 rfl (lv_at hl 4 rfl) ?_
          refine lv_iload hx hb d_Plan_make_80 (lv_at hl 0 rfl) ?_
          refine zz_ro (va_runV (As := [.int (nI (j))]) (rest := []) ⟨hx, hb, hml, hown, hz⟩ (c_Strand_pieceMayBegin l dC dI a cI cZ v (zu (zu f 4 (va_up L j ((L) (j + 1) + 1))) 5 (va_up S j x_76)) (zu w 0 (va_up F j (-1))) (j) (by omega) hI) (cwV (C := "CutLengths$Strand") 1 hz (zgV tw_184 tw_185 tw_186 tw_16 tw_187) rfl rfl rfl (by decide +kernel) ⟨Nat.le_of_ble_eq_true rfl, Nat.le_of_ble_eq_true rfl⟩) ⟨(fun a U g mk q => ⟨q.1, q.2.1, va_K.moved (u := U) (U := U.calling g mk a) (Vm.Alike.refl U.vm) q.2.2⟩), va_recv hK hP (ci := 1) (q0 := 1) rfl rfl, fun U hU hW => ⟨rfl, by rw [hU]; exact hP, va_K.moved hW.alike hK⟩⟩ rfl rfl hl.1 rfl (lv_room (Nat.le_of_ble_eq_true rfl)) d_Plan_make_82 ⟨Nat.zero_le _, Nat.zero_le _⟩) ?_
          by_cases q_82 : j = v 4 ∨ f 1 j = 0
          · refine zz_top (congrArg nI (if_pos q_82)) ?_
            refine lv_if_eq (tgt := 99) hx hb d_Plan_make_85 (by decide) (fun c9 => absurd c9 (by decide)) (fun _ => ?_)
            have hF9 : va_up F j (-1) j = -1 := va_up_self _ _ _
            have hr9 : j + zrun (zG v f) (v 3) j ≤ v 3 := by omega
            have hL9 : ∀ q, j ≤ q → q ≤ v 3 → va_up L j (L (j + 1) + 1) q ≤ 300 := by
              intro q h1 h2
              by_cases e : q = j
              · rw [e, va_up_self]
                have := (hinv.2.2.2 (j + 1) (Nat.le_refl _) (by omega)).2
                omega
              · rw [va_up_ne _ _ e]
                have := (hinv.2.2.2 q (by omega) h2).2
                omega
            have hs9 : ∀ l, 0 < l → l ≤ zrun (zG v f) (v 3) j → zsure (zG v f) (v 3) j ≤ va_up L j (L (j + 1) + 1) (j + l) := by
              intro l h1 h2
              rw [va_up_ne _ _ (by omega)]
              exact zinv_sure hinv (by omega) l h1 h2
            refine lv_aload_n hx hb d_Plan_make_88 rfl (lv_at hl 3 rfl) ?_
            refine lv_iload hx hb d_Plan_make_89 (lv_at hl 0 rfl) ?_
            refine lv_iload_n hx hb d_Plan_make_91 rfl (lv_at hl 1 rfl) ?_
            refine lv_iload hx hb d_Plan_make_92 (lv_at hl 2 rfl) ?_
            refine lv_aload_n hx hb d_Plan_make_94 rfl (lv_at hl 4 rfl) ?_
            refine lv_aload_n hx hb d_Plan_make_95 rfl (lv_at hl 5 rfl) ?_
            have hFc := va_free (wc := (wC a cI cZ v (zu (zu f 4 (va_up L j ((L) (j + 1) + 1))) 5 (va_up S j x_76)) (zu w 0 (va_up F j (-1))))) hD hS hA [0, 1, 2, 3, 4, 5, 6, 7, 8, 9, 10, 11, 12, 13, 14] rfl
            refine va_callv (va_runV (As := [.int (nI (j)), .int (nI (zrun (zG v f) (v 3) j)), .int (nI (zsure (zG v f) (v 3) j)), .ref (a 1), .ref (a 4)]) (rest := []) ⟨hx, hb, hml, hown, hz⟩ (c_Plan_takeBestPiece l dC dI a cI cZ v (zu (zu f 4 (va_up L j ((L) (j + 1) + 1))) 5 (va_up S j x_76)) (zu w 0 (va_up F j (-1))) (H).size (j) (zrun (zG v f) (v 3) j) (zsure (zG v f) (v 3) j) (by omega) hr9 hI q_82 hF9 hL9 hs9 (by omega)) (cwV (C := "CutLengths$Plan") 5 hz (zgV tw_188 tw_190 tw_2 tw_18 tw_191) rfl rfl rfl (by decide +kernel) ⟨Nat.le_of_ble_eq_true rfl, Nat.le_of_ble_eq_true rfl⟩) ⟨(fun a U g mk q => by obtain ⟨q0, q1, qP, qK, qD⟩ := q; exact ⟨q0, q1, qP, va_K.moved (u := U) (U := U.calling g mk a) (Vm.Alike.refl U.vm) qK, qD⟩), va_recv hK hP (ci := 3) (q0 := 7) rfl rfl, fun U hU hW => ⟨rfl, by rw [hU], by rw [hU]; exact hP, va_K.moved hW.alike hK, hD.weaken (fun _ _ _ _ => trivial)⟩⟩ rfl rfl hl.1 rfl (lv_room (Nat.le_of_ble_eq_true rfl)) d_Plan_make_96 ⟨Nat.zero_le _, Nat.zero_le _⟩) hS (fun q _ h => hFc q h) hFc (fun u9 t9 H1 locs ht hvm hw hB hz1 hk1 hS => ?_)
            obtain ⟨x_96, y_96, z_96⟩ := u9
            obtain ⟨hP1, hK1, hD1⟩ := hB
            rw [ht] at hP1
            obtain ⟨hP, hD⟩ := va_join (wr := []) (w1 := (wC a cI cZ v (zu (zu f 4 (va_up (va_up L j ((L) (j + 1) + 1)) j x_96)) 5 (va_up (va_up S j x_76) j z_96)) (zu w 0 (va_up (va_up F j (-1)) j y_96)))) hP hD [0, 1, 2, 3, 4, 5, 6, 7, 8, 9, 10, 11, 12, 13, 14] [] rfl rfl (by decide) (by decide) hk1 hFc hP1 hD1
            generalize H1 = H at hP hS ⊢
            have hP : va_P (dC, dI) vwCl (wC a cI cZ v (zu (zu f 4 (va_up (va_up L j ((L) (j + 1) + 1)) j x_96)) 5 (va_up (va_up S j x_76) j z_96)) (zu w 0 (va_up (va_up F j (-1)) j y_96))) H := hP
            have hD : va_D A (wC a cI cZ v (zu (zu f 4 (va_up (va_up L j ((L) (j + 1) + 1)) j x_96)) 5 (va_up (va_up S j x_76) j z_96)) (zu w 0 (va_up (va_up F j (-1)) j y_96))) := hD
            have hw : zB (zcand (v 3) (v 4) (v 9) (f 2) (f 3) (f 1) (zrun (zG v f) (v 3) j) j) (va_up L j (L (j + 1) + 1)) j (va_up L j (L (j + 1) + 1) j) (va_up S j x_76 j) x_96 y_96 z_96 := hw
            have hb9 := zB_L (L' := L) (fun w l c => va_up_ne _ _ (by have := (iw w c.2.1).1; have := c.2.2.1; omega)) hw
            rw [va_up_self, va_up_self, hx9] at hb9
            refine lv_iinc (v := nI (j) - nI 1) (lv' := [(5, .int (nI (j) - nI 1)), (3, .int (nI (zrun (zG v f) (v 3) j))), (4, .int (nI (zsure (zG v f) (v 3) j))), (0, .ref (a 7)), (1, .ref (a 1)), (2, .ref (a 4))]) hx hb d_Plan_make_99 hl (k := 0) rfl (zz_dec _) (by decide) rfl (fun ls hl => ?_)
            refine lv_goto (tgt := 44) hx hb d_Plan_make_102 (by decide) ?_
            exact ih_loop j (va_up (va_up L j (L (j + 1) + 1)) j x_96) (va_up (va_up S j x_76) j z_96) (va_up (va_up F j (-1)) j y_96) (by omega) (by omega) (zinv_step (fun w q => (iw w q).1) hinv (by omega) hb9 (va_up_self _ _ _) (fun q hq => by rw [va_up_ne _ _ hq, va_up_ne _ _ hq]) (va_up_self _ _ _) (fun q hq => by rw [va_up_ne _ _ hq, va_up_ne _ _ hq]) (va_up_self _ _ _) (fun q hq => by rw [va_up_ne _ _ hq, va_up_ne _ _ hq])) (by omega) H locs hP hD hS ls (lv_sub hl [0, 1, 2, 3, 4, 5] rfl)
          · refine zz_top (congrArg nI (if_neg q_82)) ?_
            refine lv_if_eq (tgt := 99) hx hb d_Plan_make_85 (by decide) (fun _ => ?_) (fun c9 => absurd c9 (by decide))
            have hb9 : zB (zcand (v 3) (v 4) (v 9) (f 2) (f 3) (f 1) (zrun (zG v f) (v 3) j) j) L j (L (j + 1) + 1) (zS0 F S j) (L (j + 1) + 1) (-1) x_76 := by rw [hx9]; exact zB_nil (fun w l c => q_82 c.1)
            refine lv_iinc (v := nI (j) - nI 1) (lv' := [(5, .int (nI (j) - nI 1)), (3, .int (nI (zrun (zG v f) (v 3) j))), (4, .int (nI (zsure (zG v f) (v 3) j))), (0, .ref (a 7)), (1, .ref (a 1)), (2, .ref (a 4))]) hx hb d_Plan_make_99 hl (k := 0) rfl (zz_dec _) (by decide) rfl (fun ls hl => ?_)
            refine lv_goto (tgt := 44) hx hb d_Plan_make_102 (by decide) ?_
            exact ih_loop j (va_up L j (L (j + 1) + 1)) (va_up S j x_76) (va_up F j (-1)) (by omega) (by omega) (zinv_step (fun w q => (iw w q).1) hinv (by omega) hb9 (va_up_self _ _ _) (fun q hq => va_up_ne _ _ hq) (va_up_self _ _ _) (fun q hq => va_up_ne _ _ hq) (va_up_self _ _ _) (fun q hq => va_up_ne _ _ hq)) (by omega) H locs hP hD hS ls (lv_sub hl [0, 1, 2, 3, 4, 5] rfl)
        · refine zz_top (congrArg nI (if_neg q_56)) ?_
          refine lv_if_eq (tgt := 68) hx hb d_Plan_make_59 (by decide) (fun _ => ?_) (fun c9 => absurd c9 (by decide))
          refine lv_iconst (v := nI (0)) hx hb d_Plan_make_68 (by decide) ?_
          refine lv_istore_n (lv' := [(3, .int (nI (0))), (5, .int (nI (j))), (4, .int (nI (zsure (zG v f) (v 3) (j + 1)))), (0, .ref (a 7)), (1, .ref (a 1)), (2, .ref (a 4))]) hx hb d_Plan_make_69 rfl hl (by decide) rfl (fun ls hl => ?_)
          refine lv_iinc (v := nI (zsure (zG v f) (v 3) (j + 1) + 1)) (lv' := [(4, .int (nI (zsure (zG v f) (v 3) (j + 1) + 1))), (3, .int (nI (0))), (5, .int (nI (j))), (0, .ref (a 7)), (1, .ref (a 1)), (2, .ref (a 4))]) hx hb d_Plan_make_70 hl (k := 2) rfl (zz_inc _) (by decide) rfl (fun ls hl => ?_)
          have hg9 : zG v f j = 0 := by unfold zG; rw [if_neg q_56]
          rw [if_pos hg9] at hrs hss
          have hl : lv_has ls 6 [(5, .int (nI (j))), (3, .int (nI (zrun (zG v f) (v 3) j))), (4, .int (nI (zsure (zG v f) (v 3) j))), (0, .ref (a 7)), (1, .ref (a 1)), (2, .ref (a 4))] := by rw [hrs, hss]; exact lv_sub hl [2, 1, 0, 3, 4, 5] rfl
          refine lv_aload_n hx hb d_Plan_make_73 rfl (lv_at hl 3 rfl) ?_
          refine lv_iload hx hb d_Plan_make_74 (lv_at hl 0 rfl) ?_
          have hFc := va_free (wc := (wC a cI cZ v (zu (zu f 4 (L)) 5 (S)) (zu w 0 (F)))) hD hS hA [0, 1, 2, 3, 4, 5, 6, 7, 8, 9, 10, 11, 12, 13, 14] rfl
          refine va_callv (va_runV (As := [.int (nI (j))]) (rest := []) ⟨hx, hb, hml, hown, hz⟩ (c_Plan_takeScrap l dC dI a cI cZ v (zu (zu f 4 (L)) 5 (S)) (zu w 0 (F)) (H).size (j) (by omega)) (cwV (C := "CutLengths$Plan") 1 hz (zgV tw_180 tw_182 tw_1 tw_18 tw_183) rfl rfl rfl (by decide +kernel) ⟨Nat.le_of_ble_eq_true rfl, Nat.le_of_ble_eq_true rfl⟩) ⟨(fun a U g mk q => by obtain ⟨q0, q1, qP, qK, qD⟩ := q; exact ⟨q0, q1, qP, va_K.moved (u := U) (U := U.calling g mk a) (Vm.Alike.refl U.vm) qK, qD⟩), va_recv hK hP (ci := 3) (q0 := 7) rfl rfl, fun U hU hW => ⟨rfl, by rw [hU], by rw [hU]; exact hP, va_K.moved hW.alike hK, hD.weaken (fun _ _ _ _ => trivial)⟩⟩ rfl rfl hl.1 rfl (lv_room (Nat.le_of_ble_eq_true rfl)) d_Plan_make_76 ⟨Nat.zero_le _, Nat.zero_le _⟩) hS (fun q _ h => hFc q h) hFc (fun u9 t9 H1 locs ht hvm hw hB hz1 hk1 hS => ?_)
          obtain ⟨x_76, rfl⟩ : ∃ z, z = u9 := ⟨_, rfl⟩
          obtain ⟨hP1, hK1, hD1⟩ := hB
          rw [ht] at hP1
          obtain ⟨hP, hD⟩ := va_join (wr := []) (w1 := (wC a cI cZ v (zu (zu f 4 (va_up L j ((L) (j + 1) + 1))) 5 (va_up S j x_76)) (zu w 0 (va_up F j (-1))))) hP hD [0, 1, 2, 3, 4, 5, 6, 7, 8, 9, 10, 11, 12, 13, 14] [] rfl rfl (by decide) (by decide) hk1 hFc hP1 hD1
          generalize H1 = H at hP hS ⊢
          have hP : va_P (dC, dI) vwCl (wC a cI cZ v (zu (zu f 4 (va_up L j ((L) (j + 1) + 1))) 5 (va_up S j x_76)) (zu w 0 (va_up F j (-1)))) H := hP
          have hD : va_D A (wC a cI cZ v (zu (zu f 4 (va_up L j ((L) (j + 1) + 1))) 5 (va_up S j x_76)) (zu w 0 (va_up F j (-1)))) := hD
          have hx9 : x_76 = zS0 F S j := hw
          refine lv_aload_n hx hb d_Plan_make_79 rfl (lv_at hl 4 rfl) ?_
          refine lv_iload hx hb d_Plan_make_80 (lv_at hl 0 rfl) ?_
          refine zz_ro (va_runV (As := [.int (nI (j))]) (rest := []) ⟨hx, hb, hml, hown, hz⟩ (c_Strand_pieceMayBegin l dC dI a cI cZ v (zu (zu f 4 (va_up L j ((L) (j + 1) + 1))) 5 (va_up S j x_76)) (zu w 0 (va_up F j (-1))) (j) (by omega) hI) (cwV (C := "CutLengths$Strand") 1 hz (zgV tw_184 tw_185 tw_186 tw_16 tw_187) rfl rfl rfl (by decide +kernel) ⟨Nat.le_of_ble_eq_true rfl, Nat.le_of_ble_eq_true rfl⟩) ⟨(fun a U g mk q => ⟨q.1, q.2.1, va_K.moved (u := U) (U := U.calling g mk a) (Vm.Alike.refl U.vm) q.2.2⟩), va_recv hK hP (ci := 1) (q0 := 1) rfl rfl, fun U hU hW => ⟨rfl, by rw [hU]; exact hP, va_K.moved hW.alike hK⟩⟩ rfl rfl hl.1 rfl (lv_room (Nat.le_of_ble_eq_true rfl)) d_Plan_make_82 ⟨Nat.zero_le _, Nat.zero_le _⟩) ?_
          by_cases q_82 : j = v 4 ∨ f 1 j = 0
          · refine zz_top (congrArg nI (if_pos q_82)) ?_
            refine lv_if_eq (tgt := 99) hx hb d_Plan_make_85 (by decide) (fun c9 => absurd c9 (by decide)) (fun _ => ?_)
            have hF9 : va_up F j (-1) j = -1 := va_up_self _ _ _
            have hr9 : j + zrun (zG v f) (v 3) j ≤ v 3 := by omega
            have hL9 : ∀ q, j ≤ q → q ≤ v 3 → va_up L j (L (j + 1) + 1) q ≤ 300 := by
              intro q h1 h2
              by_cases e : q = j
              · rw [e, va_up_self]
                have := (hinv.2.2.2 (j + 1) (Nat.le_refl _) (by omega)).2
                omega
              · rw [va_up_ne _ _ e]
                have := (hinv.2.2.2 q (by omega) h2).2
                omega
            have hs9 : ∀ l, 0 < l → l ≤ zrun (zG v f) (v 3) j → zsure (zG v f) (v 3) j ≤ va_up L j (L (j + 1) + 1) (j + l) := by
              intro l h1 h2
              rw [va_up_ne _ _ (by omega)]
              exact zinv_sure hinv (by omega) l h1 h2
            refine lv_aload_n hx hb d_Plan_make_88 rfl (lv_at hl 3 rfl) ?_
            refine lv_iload hx hb d_Plan_make_89 (lv_at hl 0 rfl) ?_
            refine lv_iload_n hx hb d_Plan_make_91 rfl (lv_at hl 1 rfl) ?_
            refine lv_iload hx hb d_Plan_make_92 (lv_at hl 2 rfl) ?_
            refine lv_aload_n hx hb d_Plan_make_94 rfl (lv_at hl 4 rfl) ?_
            refine lv_aload_n hx hb d_Plan_make_95 rfl (lv_at hl 5 rfl) ?_
            have hFc := va_free (wc := (wC a cI cZ v (zu (zu f 4 (va_up L j ((L) (j + 1) + 1))) 5 (va_up S j x_76)) (zu w 0 (va_up F j (-1))))) hD hS hA [0, 1, 2, 3, 4, 5, 6, 7, 8, 9, 10, 11, 12, 13, 14] rfl
            refine va_callv (va_runV (As := [.int (nI (j)), .int (nI (zrun (zG v f) (v 3) j)), .int (nI (zsure (zG v f) (v 3) j)), .ref (a 1), .ref (a 4)]) (rest := []) ⟨hx, hb, hml, hown, hz⟩ (c_Plan_takeBestPiece l dC dI a cI cZ v (zu (zu f 4 (va_up L j ((L) (j + 1) + 1))) 5 (va_up S j x_76)) (zu w 0 (va_up F j (-1))) (H).size (j) (zrun (zG v f) (v 3) j) (zsure (zG v f) (v 3) j) (by omega) hr9 hI q_82 hF9 hL9 hs9 (by omega)) (cwV (C := "CutLengths$Plan") 5 hz (zgV tw_188 tw_190 tw_2 tw_18 tw_191) rfl rfl rfl (by decide +kernel) ⟨Nat.le_of_ble_eq_true rfl, Nat.le_of_ble_eq_true rfl⟩) ⟨(fun a U g mk q => by obtain ⟨q0, q1, qP, qK, qD⟩ := q; exact ⟨q0, q1, qP, va_K.moved (u := U) (U := U.calling g mk a) (Vm.Alike.refl U.vm) qK, qD⟩), va_recv hK hP (ci := 3) (q0 := 7) rfl rfl, fun U hU hW => ⟨rfl, by rw [hU], by rw [hU]; exact hP, va_K.moved hW.alike hK, hD.weaken (fun _ _ _ _ => trivial)⟩⟩ rfl rfl hl.1 rfl (lv_room (Nat.le_of_ble_eq_true rfl)) d_Plan_make_96 ⟨Nat.zero_le _, Nat.zero_le _⟩) hS (fun q _ h => hFc q h) hFc (fun u9 t9 H1 locs ht hvm hw hB hz1 hk1 hS => ?_)
            obtain ⟨x_96, y_96, z_96⟩ := u9
            obtain ⟨hP1, hK1, hD1⟩ := hB
            rw [ht] at hP1
            obtain ⟨hP, hD⟩ := va_join (wr := []) (w1 := (wC a cI cZ v (zu (zu f 4 (va_up (va_up L j ((L) (j + 1) + 1)) j x_96)) 5 (va_up (va_up S j x_76) j z_96)) (zu w 0 (va_up (va_up F j (-1)) j y_96)))) hP hD [0, 1, 2, 3, 4, 5, 6, 7, 8, 9, 10, 11, 12, 13, 14] [] rfl rfl (by decide) (by decide) hk1 hFc hP1 hD1
            generalize H1 = H at hP hS ⊢
            have hP : va_P (dC, dI) vwCl (wC a cI cZ v (zu (zu f 4 (va_up (va_up L j ((L) (j + 1) + 1)) j x_96)) 5 (va_up (va_up S j x_76) j z_96)) (zu w 0 (va_up (va_up F j (-1)) j y_96))) H := hP
            have hD : va_D A (wC a cI cZ v (zu (zu f 4 (va_up (va_up L j ((L) (j + 1) + 1)) j x_96)) 5 (va_up (va_up S j x_76) j z_96)) (zu w 0 (va_up (va_up F j (-1)) j y_96))) := hD
            have hw : zB (zcand (v 3) (v 4) (v 9) (f 2) (f 3) (f 1) (zrun (zG v f) (v 3) j) j) (va_up L j (L (j + 1) + 1)) j (va_up L j (L (j + 1) + 1) j) (va_up S j x_76 j) x_96 y_96 z_96 := hw
            have hb9 := zB_L (L' := L) (fun w l c => va_up_ne _ _ (by have := (iw w c.2.1).1; have := c.2.2.1; omega)) hw
            rw [va_up_self, va_up_self, hx9] at hb9
            refine lv_iinc (v := nI (j) - nI 1) (lv' := [(5, .int (nI (j) - nI 1)), (3, .int (nI (zrun (zG v f) (v 3) j))), (4, .int (nI (zsure (zG v f) (v 3) j))), (0, .ref (a 7)), (1, .ref (a 1)), (2, .ref (a 4))]) hx hb d_Plan_make_99 hl (k := 0) rfl (zz_dec _) (by decide) rfl (fun ls hl => ?_)
            refine lv_goto (tgt := 44) hx hb d_Plan_make_102 (by decide) ?_
            exact ih_loop j (va_up (va_up L j (L (j + 1) + 1)) j x_96) (va_up (va_up S j x_76) j z_96) (va_up (va_up F j (-1)) j y_96) (by omega) (by omega) (zinv_step (fun w q => (iw w q).1) hinv (by omega) hb9 (va_up_self _ _ _) (fun q hq => by rw [va_up_ne _ _ hq, va_up_ne _ _ hq]) (va_up_self _ _ _) (fun q hq => by rw [va_up_ne _ _ hq, va_up_ne _ _ hq]) (va_up_self _ _ _) (fun q hq => by rw [va_up_ne _ _ hq, va_up_ne _ _ hq])) (by omega) H locs hP hD hS ls (lv_sub hl [0, 1, 2, 3, 4, 5] rfl)
          · refine zz_top (congrArg nI (if_neg q_82)) ?_
            refine lv_if_eq (tgt := 99) hx hb d_Plan_make_85 (by decide) (fun _ => ?_) (fun c9 => absurd c9 (by decide))
            have hb9 : zB (zcand (v 3) (v 4) (v 9) (f 2) (f 3) (f 1) (zrun (zG v f) (v 3) j) j) L j (L (j + 1) + 1) (zS0 F S j) (L (j + 1) + 1) (-1) x_76 := by rw [hx9]; exact zB_nil (fun w l c => q_82 c.1)
            refine lv_iinc (v := nI (j) - nI 1) (lv' := [(5, .int (nI (j) - nI 1)), (3, .int (nI (zrun (zG v f) (v 3) j))), (4, .int (nI (zsure (zG v f) (v 3) j))), (0, .ref (a 7)), (1, .ref (a 1)), (2, .ref (a 4))]) hx hb d_Plan_make_99 hl (k := 0) rfl (zz_dec _) (by decide) rfl (fun ls hl => ?_)
            refine lv_goto (tgt := 44) hx hb d_Plan_make_102 (by decide) ?_
            exact ih_loop j (va_up L j (L (j + 1) + 1)) (va_up S j x_76) (va_up F j (-1)) (by omega) (by omega) (zinv_step (fun w q => (iw w q).1) hinv (by omega) hb9 (va_up_self _ _ _) (fun q hq => va_up_ne _ _ hq) (va_up_self _ _ _) (fun q hq => va_up_ne _ _ hq) (va_up_self _ _ _) (fun q hq => va_up_ne _ _ hq)) (by omega) H locs hP hD hS ls (lv_sub hl [0, 1, 2, 3, 4, 5] rfl)
  exact loop (v 3 + 1) (v 3) (va_up (f 4) (v 3) 0) (va_up (f 5) (v 3) 0) (va_up (w 0) (v 3) (-2)) i4 (Nat.le_refl _) (zinv_0 (va_up_self _ _ _) (va_up_self _ _ _)) (by omega) H locs hP hD hS ls (by rw [zrun_n, zsure_n]; exact lv_sub hl [0, 2, 1, 3, 4, 5] rfl)
theorem zw_v2 (a : Nat → Nat) (cI cZ : ClassId) (v : Nat → Nat) (f : Nat → Nat → Nat) (w : Nat → Nat → Int32) (h : v 2 = 0) : wC a cI cZ v f w = wC a cI cZ (zu v 2 0) f w := by
  have e : zu v 2 0 = v := by
    funext j
    unfold zu
    cases hb : Nat.beq j 2 with
    | true => rw [Nat.eq_of_beq_eq_true hb, h]; rfl
    | false => rfl
  rw [e]
set_option maxHeartbeats 4000000 in
set_option maxRecDepth 100000 in
theorem c_Cut_renewPlan (l : Launch) (dC : Nat → ClassId) (dI : Nat → Nat → Nat) (a : Nat → Nat) (cI cZ : ClassId) (v : Nat → Nat) (f : Nat → Nat → Nat) (w : Nat → Nat → Int32) (sz : Nat) (hI : zI v f) (hC : v 2 = 0 → zCP v f (f 4) (f 5) (w 0)) : Met l y_Cut_renewPlan (zw_Cut_renewPlan :: zW) ({ frames := 3, cells := 0, slots := 0, locals := 84 }) (va_Pc [.ref (a 0)] (fun U => U.heap.size = sz ∧ va_P (dC, dI) vwCl (wC a cI cZ v f w) U.heap ∧ va_K (dC, dI) vwCl [(cI, .int), (cZ, .boolean)] U ∧ va_D (fun _ => True) (wC a cI cZ v f w))) (va_Qv (fun (u : (Nat → Nat) × (Nat → Nat) × (Nat → Int32)) => zCP v f u.1 u.2.1 u.2.2) (fun (u : (Nat → Nat) × (Nat → Nat) × (Nat → Int32)) t => match u with | (L, S, F) => va_P (dC, dI) vwCl (wC a cI cZ (zu v 2 (0)) (zu (zu f 4 (L)) 5 (S)) (zu w 0 (F))) t.heap ∧ va_K (dC, dI) vwCl [(cI, .int), (cZ, .boolean)] t ∧ va_D (va_A (wC a cI cZ v f w) sz) (wC a cI cZ (zu v 2 (0)) (zu (zu f 4 (L)) 5 (S)) (zu w 0 (F)))) (va_A (wC a cI cZ v f w) sz)) 0 0 (va_A (wC a cI cZ v f w) sz) := by
  refine Met.ofW (cc := prog_1_method_17_code) (maxL := 1) (ret := none) (by decide) rfl ?_
  intro p e s m args below meth c s₁ B hml hv
  obtain ⟨rfl, hsz, hP, hK, hD0⟩ := hv
  have hx := B.exec
  have hb := B.bytes
  have hr := B.returns
  have hz : ∀ w ∈ zW, w.before ([.ref (a 0)]).toArray s = true := fun w h => atoms_spec (ws := (zw_Cut_renewPlan :: zW)) B.pre w (List.mem_cons_of_mem _ h)
  have hown : s.vm.findClass "CutLengths" = some m.cls := findClass_of_methodNamed B.named
  have hlocks := B.notSynchronized
  subst hsz
  have hD := hD0.self (sz := s.heap.size)
  generalize hAe : va_A (wC a cI cZ v f w) s.heap.size = A at hD ⊢
  have hA : ∀ q : Nat, s.heap.size ≤ q → A q := fun q h => by rw [← hAe]; exact Or.inr h
  have hS : va_S A s.heap s.heap [] := va_S.rf
  have hP : va_P (dC, dI) vwCl (wC a cI cZ v f w) s.heap := hP
  obtain ⟨i3, i4, i5, i6, i7, i8, i9, i10, i2, i0, i1, iw, ib, ic, isl⟩ := id hI
  have hl := lv_entry ([.ref (a 0)]) (n := 1) (Nat.le_of_ble_eq_true rfl)
  rw [lg_entry_eq]
  generalize (lg_sl ([.ref (a 0)]) ++ List.replicate (1 - (lg_sl ([.ref (a 0)])).length) Slot.unset).toArray = ls at hl ⊢
  have hl : lv_has ls 1 [(0, .ref (a 0))] := hl
  refine lv_aload_n hx hb d_Cut_renewPlan_0 rfl (lv_at hl 0 rfl) ?_
  refine va_get (D := (dC, dI)) (ci := 0) (v := .int (nI (v 2))) (C := "CutLengths") (T := T_Cut) (N := 7) hx hb hz i_Cut hown hK hP 0 rfl rfl 6 (by decide) (hz _ tw_148) (fun _ h9 => h9) rfl d_Cut_renewPlan_1 ?_
  refine lv_if_eq (tgt := 27) hx hb d_Cut_renewPlan_4 (by decide) (fun c_4 => ?_) (fun c_4 => ?_)
  · have c_4 : ((v 2 : Nat) : Int) = (0 : Int) := (zz_eq (nI_toInt (by omega)) ((by decide))).mp c_4
    rw [zw_v2 a cI cZ v f w (by omega)] at hP hD
    exact W.vret hx hb hr (fun t9 ht hW => ⟨⟨(f 4, f 5, w 0), rfl, (hC (by omega)), by rw [ht]; exact hP, va_K.moved hW.alike hK, hD⟩, hS.F ht⟩) hS.2.2 d_Cut_renewPlan_27
  · have c_4 : ¬ (((v 2 : Nat) : Int) = (0 : Int)) := fun q => c_4 ((zz_eq (nI_toInt (by omega)) ((by decide))).mpr q)
    refine lv_aload_n hx hb d_Cut_renewPlan_7 rfl (lv_at hl 0 rfl) ?_
    refine va_get (D := (dC, dI)) (ci := 0) (v := .ref (a 7)) (C := "CutLengths") (T := T_Cut) (N := 7) hx hb hz i_Cut hown hK hP 0 rfl rfl 2 (by decide) (hz _ tw_144) (fun _ h9 => h9) rfl d_Cut_renewPlan_8 ?_
    refine lv_aload_n hx hb d_Cut_renewPlan_11 rfl (lv_at hl 0 rfl) ?_
    refine va_get (D := (dC, dI)) (ci := 0) (v := .ref (a 1)) (C := "CutLengths") (T := T_Cut) (N := 7) hx hb hz i_Cut hown hK hP 0 rfl rfl 0 (by decide) (hz _ tw_142) (fun _ h9 => h9) rfl d_Cut_renewPlan_12 ?_
    refine lv_aload_n hx hb d_Cut_renewPlan_15 rfl (lv_at hl 0 rfl) ?_
    refine va_get (D := (dC, dI)) (ci := 0) (v := .ref (a 4)) (C := "CutLengths") (T := T_Cut) (N := 7) hx hb hz i_Cut hown hK hP 0 rfl rfl 1 (by decide) (hz _ tw_143) (fun _ h9 => h9) rfl d_Cut_renewPlan_16 ?_
    have hFc := va_free (wc := (wC a cI cZ v f w)) hD hS hA [0, 1, 2, 3, 4, 5, 6, 7, 8, 9, 10, 11, 12, 13, 14] rfl
    refine va_callv (va_runV (As := [.ref (a 1), .ref (a 4)]) (rest := []) ⟨hx, hb, hml, hown, hz⟩ (c_Plan_make l dC dI a cI cZ v f w (s.heap).size hI) (cwV (C := "CutLengths$Plan") 2 hz (zgV tw_172 tw_173 tw_174 tw_18 tw_175) rfl rfl rfl (by decide +kernel) ⟨Nat.le_of_ble_eq_true rfl, Nat.le_of_ble_eq_true rfl⟩) ⟨(fun a U g mk q => by obtain ⟨q0, q1, qP, qK, qD⟩ := q; exact ⟨q0, q1, qP, va_K.moved (u := U) (U := U.calling g mk a) (Vm.Alike.refl U.vm) qK, qD⟩), va_recv hK hP (ci := 3) (q0 := 7) rfl rfl, fun U hU hW => ⟨rfl, by rw [hU], by rw [hU]; exact hP, va_K.moved hW.alike hK, hD.weaken (fun _ _ _ _ => trivial)⟩⟩ rfl rfl hl.1 rfl (lv_room (Nat.le_of_ble_eq_true rfl)) d_Cut_renewPlan_19 ⟨Nat.zero_le _, Nat.zero_le _⟩) hS (fun q _ h => hFc q h) hFc (fun u9 t9 H1 locs ht hvm hw hB hz1 hk1 hS => ?_)
    obtain ⟨L_19, S_19, F_19⟩ := u9
    obtain ⟨hP1, hK1, hD1⟩ := hB
    rw [ht] at hP1
    obtain ⟨hP, hD⟩ := va_join (wr := []) (w1 := (wC a cI cZ v (zu (zu f 4 (L_19)) 5 (S_19)) (zu w 0 (F_19)))) hP hD [0, 1, 2, 3, 4, 5, 6, 7, 8, 9, 10, 11, 12, 13, 14] [] rfl rfl (by decide) (by decide) hk1 hFc hP1 hD1
    generalize H1 = H at hP hS ⊢
    have hP : va_P (dC, dI) vwCl (wC a cI cZ v (zu (zu f 4 (L_19)) 5 (S_19)) (zu w 0 (F_19))) H := hP
    have hD : va_D A (wC a cI cZ v (zu (zu f 4 (L_19)) 5 (S_19)) (zu w 0 (F_19))) := hD
    refine lv_aload_n hx hb d_Cut_renewPlan_22 rfl (lv_at hl 0 rfl) ?_
    refine lv_iconst (v := nI (0)) hx hb d_Cut_renewPlan_23 (by decide) ?_
    refine va_put (D := (dC, dI)) (ci := 0) (v := .int (nI (0))) (ty := .boolean) (C := "CutLengths") (T := T_Cut) (N := 7) hx hb hz i_Cut t_Cut t_Cut_ok n_Cut hown hK hP hD hS 0 rfl rfl 6 (by decide) (hz _ tw_148) (fun _ h9 => h9) rfl (by decide +kernel) rfl rfl (Nat.le_of_ble_eq_true rfl) d_Cut_renewPlan_24 (fun H locs hP hD hS => ?_)
    have hP : va_P (dC, dI) vwCl (wC a cI cZ (zu v 2 (0)) (zu (zu f 4 (L_19)) 5 (S_19)) (zu w 0 (F_19))) H := hP
    have hD : va_D A (wC a cI cZ (zu v 2 (0)) (zu (zu f 4 (L_19)) 5 (S_19)) (zu w 0 (F_19))) := hD
    exact W.vret hx hb hr (fun t9 ht hW => ⟨⟨(L_19, S_19, F_19), rfl, hw, by rw [ht]; exact hP, va_K.moved hW.alike hK, hD⟩, hS.F ht⟩) hS.2.2 d_Cut_renewPlan_27
