/-! THE LAW, case by case, second half (rows written by wip/whole/mk_law2.py) -/
set_option maxHeartbeats 4000000 in
set_option maxRecDepth 100000 in
theorem law_loss {p : Program} {l : Launch} {e : Env} {s : State} {m : MethodId} {below : List Frame} {meth : Method} {c : Code} {dC : Nat → ClassId} {dI : Nat → Nat → Nat} {b L : Nat} {xs : Nat → Int32} {a bb : Nat → Nat} {o : Nat} {cI cZ cJ : ClassId} (hl9 : l.stackTraces = false) (hL : L ≤ 2048) (C0 : lw_At p s m meth c b L xs) (hX0 : zX (fun q : Nat => s.heap.size ≤ q) s s.heap) (hK : va_K (dC, dI) vwCl [(cI, .int), (cZ, .boolean), (cJ, .long)] s) {v : Nat → Nat} {f : Nat → Nat → Nat} {w : Nat → Nat → Int32} {v' : Nat → Nat} {f' : Nat → Nat → Nat} {w' : Nat → Nat → Int32} {g : Nat → Int64} (hR : zRel v f w v' f' w') {i n9 : Nat} (hi : i + 4 ≤ L) (hn9 : n9 < 512) {H : Heap} {locs : List Loc} (hP : va_P (dC, dI) vwCl (wL a o bb cI cZ cJ v f w g v' f' w') H) (hD : va_D (fun q : Nat => s.heap.size ≤ q) (wL a o bb cI cZ cJ v f w g v' f' w')) (hS : va_S (fun q : Nat => s.heap.size ≤ q) s.heap H locs) {ls : Array Slot} (hl : lv_has ls 8 [(4, .int (nI (i))), (0, .ref (b)), (1, .ref (a 0)), (2, .ref (bb 0)), (3, .ref (o))]) (kk : ∀ (v : Nat → Nat) (f : Nat → Nat → Nat) (w : Nat → Nat → Int32) (v' : Nat → Nat) (f' : Nat → Nat → Nat) (w' : Nat → Nat → Int32) (g : Nat → Int64) (H : Heap) (locs : List Loc) (ls : Array Slot), zRel v f w v' f' w' → va_P (dC, dI) vwCl (wL a o bb cI cZ cJ v f w g v' f' w') H → va_D (fun q : Nat => s.heap.size ≤ q) (wL a o bb cI cZ cJ v f w g v' f' w') → va_S (fun q : Nat => s.heap.size ≤ q) s.heap H locs → lv_has ls 8 [(4, .int (nI (i))), (0, .ref (b)), (1, .ref (a 0)), (2, .ref (bb 0)), (3, .ref (o))] → W p l e room_1 s m #[Value.ref b] below meth c H locs (30 + (n9 + 1)) (3463 + 6 * (n9 + 1)) (lw_Z below #[Value.ref b] s) (F0 m 841 ls [])) : W p l e room_1 s m #[Value.ref b] below meth c H locs (30 + n9) (3463 + 6 * n9) (lw_Z below #[Value.ref b] s) (F0 m 524 ls []) := by
  obtain ⟨hx, hb, hr, hml, hown, hts, hX, hbl, hlocks, hgv⟩ := id C0
  have hz : ∀ w ∈ zW, w.before #[Value.ref b] s = true := fun w h => hts w (zW_tbl h)
  have hown : s.vm.findClass "CutLengthsLaw" = some m.cls := hown
  have hA : ∀ q : Nat, s.heap.size ≤ q → (fun q : Nat => s.heap.size ≤ q) q := fun _ h => h
  have hbA : ¬ (fun q : Nat => s.heap.size ≤ q) b := Nat.not_le.mpr hbl
  refine lv_aload_n hx hb d_Law_law_524 rfl (lv_at hl 2 rfl) ?_
  have hKc := hK.sub (tys' := [(cI, .int), (cZ, .boolean)]) [0, 1] rfl
  have hPc := hP.sub (ws' := (wC a cI cZ v f w)) [0, 1, 2, 3, 4, 5, 6, 7, 8, 9, 10, 11, 12, 13, 14] rfl
  have hDc := hD.sub (ws' := (wC a cI cZ v f w)) [0, 1, 2, 3, 4, 5, 6, 7, 8, 9, 10, 11, 12, 13, 14] (by decide) rfl
  have hFc := va_free (wc := (wC a cI cZ v f w)) hD hS hA [0, 1, 2, 3, 4, 5, 6, 7, 8, 9, 10, 11, 12, 13, 14] rfl
  refine va_calli (va_runV (As := []) (rest := []) ⟨hx, hb, hml, hown, hz⟩ (c_Cut_loss l dC dI a cI cZ v f w H.size  hR.1 hR.2.2.1) (cwV (C := "CutLengths") 0 hz (zgV tw_164 tw_165 tw_166 tw_15 tw_167) rfl rfl rfl (by decide +kernel) ⟨Nat.le_of_ble_eq_true rfl, Nat.le_of_ble_eq_true rfl⟩) ⟨(fun a U g mk q => by obtain ⟨q0, q1, qP, qK, qD⟩ := q; exact ⟨q0, q1, qP, va_K.moved (u := U) (U := U.calling g mk a) (Vm.Alike.refl U.vm) qK, qD⟩), va_recv hKc hPc (ci := 0) (q0 := 0) rfl rfl, fun U hU hW => ⟨rfl, by rw [hU], by rw [hU]; exact hPc, va_K.moved hW.alike hKc, hDc.weaken (fun _ _ _ _ => trivial)⟩⟩ rfl rfl hl.1 rfl (lv_room (Nat.le_of_ble_eq_true rfl)) d_Law_law_525 ⟨show 30 + n9 ≤ 1073 from by omega, show 3463 + 6 * n9 ≤ 11769 from by omega⟩) hS (fun q _ h => hFc q h) hFc (fun r5 u9 t9 H1 locs ht hvm hwc hB hz1 hk1 hS => ?_)
  obtain ⟨L1, S1, F1⟩ := u9
  obtain ⟨hP1, hK1, hD1⟩ := hB
  rw [ht] at hP1
  obtain ⟨hP, hD⟩ := va_join (wr := ([(o, .inl (cJ, 1, .inr (.inl g)))] ++ (wM bb cI v' f' w'))) (w1 := (wC a cI cZ (zu v 2 0) (zu (zu f 4 L1) 5 S1) (zu w 0 F1))) hP hD [0, 1, 2, 3, 4, 5, 6, 7, 8, 9, 10, 11, 12, 13, 14] [15, 16, 17, 18, 19, 20, 21, 22, 23, 24, 25, 26, 27, 28, 29] rfl rfl (by decide) (by decide) hk1 hFc hP1 hD1
  have hP := hP.sub (ws' := (wL a o bb cI cZ cJ (zu v 2 0) (zu (zu f 4 L1) 5 S1) (zu w 0 F1) g v' f' w')) [15, 16, 17, 18, 19, 20, 21, 22, 23, 24, 25, 26, 27, 28, 29, 0, 1, 2, 3, 4, 5, 6, 7, 8, 9, 10, 11, 12, 13, 14] rfl
  have hD := hD.sub (ws' := (wL a o bb cI cZ cJ (zu v 2 0) (zu (zu f 4 L1) 5 S1) (zu w 0 F1) g v' f' w')) [15, 16, 17, 18, 19, 20, 21, 22, 23, 24, 25, 26, 27, 28, 29, 0, 1, 2, 3, 4, 5, 6, 7, 8, 9, 10, 11, 12, 13, 14] (by decide) rfl
  generalize H1 = H at hP hS ⊢
  refine lv_aload_n hx hb d_Law_law_528 rfl (lv_at hl 3 rfl) ?_
  have hKc := hK.sub (tys' := [(cI, .int)]) [0] rfl
  have hPc := hP.sub (ws' := (wM bb cI v' f' w')) [16, 17, 18, 19, 20, 21, 22, 23, 24, 25, 26, 27, 28, 29] rfl
  have hDc := hD.sub (ws' := (wM bb cI v' f' w')) [16, 17, 18, 19, 20, 21, 22, 23, 24, 25, 26, 27, 28, 29] (by decide) rfl
  have hFc := va_free (wc := (wM bb cI v' f' w')) hD hS hA [16, 17, 18, 19, 20, 21, 22, 23, 24, 25, 26, 27, 28, 29] rfl
  refine va_calli (va_runV (As := []) (rest := [.int (r5)]) ⟨hx, hb, hml, hown, hz⟩ (c_Model_loss l dC dI bb cI v' f' w' H.size  hR.2.1) (cwV (C := "CutLengthsModel") 0 hz (zgV tw_601 tw_602 tw_603 tw_20 tw_604) rfl rfl rfl (by decide +kernel) ⟨Nat.le_of_ble_eq_true rfl, Nat.le_of_ble_eq_true rfl⟩) ⟨(fun a U g mk q => by obtain ⟨q0, q1, qP, qK, qD⟩ := q; exact ⟨q0, q1, qP, va_K.moved (u := U) (U := U.calling g mk a) (Vm.Alike.refl U.vm) qK, qD⟩), va_recv hKc hPc (ci := 5) (q0 := 0) rfl rfl, fun U hU hW => ⟨rfl, by rw [hU], by rw [hU]; exact hPc, va_K.moved hW.alike hKc, hDc.weaken (fun _ _ _ _ => trivial)⟩⟩ rfl rfl hl.1 rfl (lv_room (Nat.le_of_ble_eq_true rfl)) d_Law_law_529 ⟨show 30 + n9 ≤ 1073 from by omega, show 3463 + 6 * n9 ≤ 11769 from by omega⟩) hS (fun q _ h => hFc q h) hFc (fun r6 u9 t9 H1 locs ht hvm hwm hB hz1 hk1 hS => ?_)
  obtain ⟨L', S', Gd, F'⟩ := u9
  obtain ⟨hP1, hK1, hD1⟩ := hB
  rw [ht] at hP1
  obtain ⟨hP, hD⟩ := va_join (wr := (wCo a o cI cZ cJ (zu v 2 0) (zu (zu f 4 L1) 5 S1) (zu w 0 F1) g)) (w1 := (wM bb cI (zu v' 0 0) (zu (zu (zu f' 8 L') 9 S') 10 Gd) (zu w' 1 F'))) hP hD [16, 17, 18, 19, 20, 21, 22, 23, 24, 25, 26, 27, 28, 29] [0, 1, 2, 3, 4, 5, 6, 7, 8, 9, 10, 11, 12, 13, 14, 15] rfl rfl (by decide) (by decide) hk1 hFc hP1 hD1
  have hP : va_P (dC, dI) vwCl (wL a o bb cI cZ cJ (zu v 2 0) (zu (zu f 4 L1) 5 S1) (zu w 0 F1) g (zu v' 0 0) (zu (zu (zu f' 8 L') 9 S') 10 Gd) (zu w' 1 F')) H1 := hP
  have hD : va_D (fun q : Nat => s.heap.size ≤ q) (wL a o bb cI cZ cJ (zu v 2 0) (zu (zu f 4 L1) 5 S1) (zu w 0 F1) g (zu v' 0 0) (zu (zu (zu f' 8 L') 9 S') 10 Gd) (zu w' 1 F')) := hD
  generalize H1 = H at hP hS ⊢
  have hR2 := r_part (Gd := Gd) (L' := L') (S' := S') (F' := F') hR hwc.1
  refine lv_icmp_eq (tgt := 841) hx hb d_Law_law_532 (by decide) (fun c_1 => ?_) (fun c_1 => ?_)
  · refine W.widen (k := 30 + (n9 + 1)) (n := 3463 + 6 * (n9 + 1)) (by omega) (by omega) ?_
    exact kk (zu v 2 0) (zu (zu f 4 L1) 5 S1) (zu w 0 F1) (zu v' 0 0) (zu (zu (zu f' 8 L') 9 S') 10 Gd) (zu w' 1 F') g H locs ls hR2 hP hD hS (lv_sub hl [0, 1, 2, 3, 4] rfl)
  · exact absurd (by rw [hwc.2, hwm.2]; exact congrArg nI ((zplan hR hwc.1 hwm.1 (v 4) (Nat.le_refl _) hR.1.2.1).1.trans (by rw [hR.2.2.2.1.2.2.2.1]))) c_1
set_option maxHeartbeats 4000000 in
set_option maxRecDepth 100000 in
theorem law_part {p : Program} {l : Launch} {e : Env} {s : State} {m : MethodId} {below : List Frame} {meth : Method} {c : Code} {dC : Nat → ClassId} {dI : Nat → Nat → Nat} {b L : Nat} {xs : Nat → Int32} {a bb : Nat → Nat} {o : Nat} {cI cZ cJ : ClassId} (hl9 : l.stackTraces = false) (hL : L ≤ 2048) (C0 : lw_At p s m meth c b L xs) (hX0 : zX (fun q : Nat => s.heap.size ≤ q) s s.heap) (hK : va_K (dC, dI) vwCl [(cI, .int), (cZ, .boolean), (cJ, .long)] s) {v : Nat → Nat} {f : Nat → Nat → Nat} {w : Nat → Nat → Int32} {v' : Nat → Nat} {f' : Nat → Nat → Nat} {w' : Nat → Nat → Int32} {g : Nat → Int64} (hR : zRel v f w v' f' w') {i n9 : Nat} (hi : i + 4 ≤ L) (hn9 : n9 < 512) {H : Heap} {locs : List Loc} (hP : va_P (dC, dI) vwCl (wL a o bb cI cZ cJ v f w g v' f' w') H) (hD : va_D (fun q : Nat => s.heap.size ≤ q) (wL a o bb cI cZ cJ v f w g v' f' w')) (hS : va_S (fun q : Nat => s.heap.size ≤ q) s.heap H locs) {ls : Array Slot} (hl : lv_has ls 8 [(4, .int (nI (i))), (0, .ref (b)), (1, .ref (a 0)), (2, .ref (bb 0)), (3, .ref (o))]) (kk : ∀ (v : Nat → Nat) (f : Nat → Nat → Nat) (w : Nat → Nat → Int32) (v' : Nat → Nat) (f' : Nat → Nat → Nat) (w' : Nat → Nat → Int32) (g : Nat → Int64) (H : Heap) (locs : List Loc) (ls : Array Slot), zRel v f w v' f' w' → va_P (dC, dI) vwCl (wL a o bb cI cZ cJ v f w g v' f' w') H → va_D (fun q : Nat => s.heap.size ≤ q) (wL a o bb cI cZ cJ v f w g v' f' w') → va_S (fun q : Nat => s.heap.size ≤ q) s.heap H locs → lv_has ls 8 [(4, .int (nI (i))), (0, .ref (b)), (1, .ref (a 0)), (2, .ref (bb 0)), (3, .ref (o))] → W p l e room_1 s m #[Value.ref b] below meth c H locs (30 + (n9 + 1)) (3463 + 6 * (n9 + 1)) (lw_Z below #[Value.ref b] s) (F0 m 841 ls [])) : W p l e room_1 s m #[Value.ref b] below meth c H locs (30 + n9) (3463 + 6 * n9) (lw_Z below #[Value.ref b] s) (F0 m 537 ls []) := by
  obtain ⟨hx, hb, hr, hml, hown, hts, hX, hbl, hlocks, hgv⟩ := id C0
  have hz : ∀ w ∈ zW, w.before #[Value.ref b] s = true := fun w h => hts w (zW_tbl h)
  have hown : s.vm.findClass "CutLengthsLaw" = some m.cls := hown
  have hA : ∀ q : Nat, s.heap.size ≤ q → (fun q : Nat => s.heap.size ≤ q) q := fun _ h => h
  have hbA : ¬ (fun q : Nat => s.heap.size ≤ q) b := Nat.not_le.mpr hbl
  refine lv_aload_n hx hb d_Law_law_537 rfl (lv_at hl 2 rfl) ?_
  refine lv_aload_n hx hb d_Law_law_538 rfl (lv_at hl 1 rfl) ?_
  refine lv_iload hx hb d_Law_law_539 (lv_at hl 0 rfl) ?_
  refine lv_iconst (v := nI 1) hx hb d_Law_law_541 (by decide) ?_
  refine lv_iadd hx hb d_Law_law_542 ?_
  refine zz_top (nI_add (i) (1)) ?_
  refine zz_sld hx hb hX hbl hbA hS (k := i + 1) (by omega) (by omega) d_Law_law_543 ?_
  refine lv_aload_n hx hb d_Law_law_544 rfl (lv_at hl 1 rfl) ?_
  refine lv_iload hx hb d_Law_law_545 (lv_at hl 0 rfl) ?_
  refine lv_iconst (v := nI 2) hx hb d_Law_law_547 (by decide) ?_
  refine lv_iadd hx hb d_Law_law_548 ?_
  refine zz_top (nI_add (i) (2)) ?_
  refine zz_sld hx hb hX hbl hbA hS (k := i + 2) (by omega) (by omega) d_Law_law_549 ?_
  refine lv_aload_n hx hb d_Law_law_550 rfl (lv_at hl 4 rfl) ?_
  have hPc := hP.sub (ws' := (wCo a o cI cZ cJ v f w g)) [0, 1, 2, 3, 4, 5, 6, 7, 8, 9, 10, 11, 12, 13, 14, 15] rfl
  have hDc := hD.sub (ws' := (wCo a o cI cZ cJ v f w g)) [0, 1, 2, 3, 4, 5, 6, 7, 8, 9, 10, 11, 12, 13, 14, 15] (by decide) rfl
  have hFc := va_free (wc := (wCo a o cI cZ cJ v f w g)) hD hS hA [0, 1, 2, 3, 4, 5, 6, 7, 8, 9, 10, 11, 12, 13, 14, 15] rfl
  refine va_calli (vx_runSW (hh := [(0, 10, 13, 31)]) (As := [.ref (a 0), .int (xs (i + 1)), .int (xs (i + 2)), .ref (o)]) (rest := []) ⟨hx, hb, hml, hown, hz⟩ (c_Law_part l hl9 dC dI a o cI cZ cJ v f w g H.size (xs (i + 1)) ((xs (i + 1)).toInt) rfl (xs (i + 2)) ((xs (i + 2)).toInt) rfl hR.1 hR.2.2.1) (vx_cwSW (hh := [(0, 10, 13, 31)]) 4 hz (zgS tw_412 tw_413 tw_14 tw_414) rfl rfl rfl (by decide +kernel) ⟨Nat.le_of_ble_eq_true rfl, Nat.le_of_ble_eq_true rfl⟩) ⟨(fun a U g mk q => by obtain ⟨q0, q1, qP, qK, qD, qX⟩ := q; exact ⟨q0, q1, qP, va_K.moved (u := U) (U := U.calling g mk a) (Vm.Alike.refl U.vm) qK, qD, zX.call qX⟩), fun U hU hW => ⟨rfl, by rw [hU], by rw [hU]; exact hPc, va_K.moved hW.alike hK, hDc.weaken (fun _ _ _ _ => trivial), hX0.go hS hU hW hFc⟩⟩ rfl rfl hl.1 rfl (lv_room (Nat.le_of_ble_eq_true rfl)) d_Law_law_551 ⟨show 30 + n9 + 1 ≤ 1073 from by omega, show 3463 + 6 * n9 + 6 ≤ 11769 from by omega⟩) hS (fun q _ h => hFc q h) hFc (fun r5 u9 t9 H1 locs ht hvm hw5 hB hz1 hk1 hS => ?_)
  obtain ⟨⟨v1, f1, w1⟩, g1⟩ := u9
  obtain ⟨hP1, hK1, hD1⟩ := hB
  rw [ht] at hP1
  obtain ⟨hP, hD⟩ := va_join (wr := (wM bb cI v' f' w')) (w1 := (wCo a o cI cZ cJ v1 f1 w1 g1)) hP hD [0, 1, 2, 3, 4, 5, 6, 7, 8, 9, 10, 11, 12, 13, 14, 15] [16, 17, 18, 19, 20, 21, 22, 23, 24, 25, 26, 27, 28, 29] rfl rfl (by decide) (by decide) hk1 hFc hP1 hD1
  have hP := hP.sub (ws' := (wL a o bb cI cZ cJ v1 f1 w1 g1 v' f' w')) [14, 15, 16, 17, 18, 19, 20, 21, 22, 23, 24, 25, 26, 27, 28, 29, 0, 1, 2, 3, 4, 5, 6, 7, 8, 9, 10, 11, 12, 13] rfl
  have hD := hD.sub (ws' := (wL a o bb cI cZ cJ v1 f1 w1 g1 v' f' w')) [14, 15, 16, 17, 18, 19, 20, 21, 22, 23, 24, 25, 26, 27, 28, 29, 0, 1, 2, 3, 4, 5, 6, 7, 8, 9, 10, 11, 12, 13] (by decide) rfl
  generalize H1 = H at hP hS ⊢
  refine lv_istore (lv' := [(5, .int (r5)), (4, .int (nI (i))), (0, .ref (b)), (1, .ref (a 0)), (2, .ref (bb 0)), (3, .ref (o))]) hx hb d_Law_law_554 hl (by decide) rfl (fun ls hl => ?_)
  refine lv_aload_n hx hb d_Law_law_556 rfl (lv_at hl 4 rfl) ?_
  refine lv_aload_n hx hb d_Law_law_557 rfl (lv_at hl 2 rfl) ?_
  refine lv_iload hx hb d_Law_law_558 (lv_at hl 1 rfl) ?_
  refine lv_iconst (v := nI 1) hx hb d_Law_law_560 (by decide) ?_
  refine lv_iadd hx hb d_Law_law_561 ?_
  refine zz_top (nI_add (i) (1)) ?_
  refine zz_sld hx hb hX hbl hbA hS (k := i + 1) (by omega) (by omega) d_Law_law_562 ?_
  refine lv_aload_n hx hb d_Law_law_563 rfl (lv_at hl 2 rfl) ?_
  refine lv_iload hx hb d_Law_law_564 (lv_at hl 1 rfl) ?_
  refine lv_iconst (v := nI 2) hx hb d_Law_law_566 (by decide) ?_
  refine lv_iadd hx hb d_Law_law_567 ?_
  refine zz_top (nI_add (i) (2)) ?_
  refine zz_sld hx hb hX hbl hbA hS (k := i + 2) (by omega) (by omega) d_Law_law_568 ?_
  have hKc := hK.sub (tys' := [(cI, .int)]) [0] rfl
  have hPc := hP.sub (ws' := (wM bb cI v' f' w')) [16, 17, 18, 19, 20, 21, 22, 23, 24, 25, 26, 27, 28, 29] rfl
  have hDc := hD.sub (ws' := (wM bb cI v' f' w')) [16, 17, 18, 19, 20, 21, 22, 23, 24, 25, 26, 27, 28, 29] (by decide) rfl
  have hFc := va_free (wc := (wM bb cI v' f' w')) hD hS hA [16, 17, 18, 19, 20, 21, 22, 23, 24, 25, 26, 27, 28, 29] rfl
  refine va_calli (va_runV (As := [.int (xs (i + 1)), .int (xs (i + 2))]) (rest := []) ⟨hx, hb, hml, hown, hz⟩ (c_Model_part l dC dI bb cI v' f' w' H.size (xs (i + 1)) ((xs (i + 1)).toInt) rfl (xs (i + 2)) ((xs (i + 2)).toInt) rfl hR.2.1) (cwV (C := "CutLengthsModel") 2 hz (zgV tw_621 tw_622 tw_623 tw_20 tw_624) rfl rfl rfl (by decide +kernel) ⟨Nat.le_of_ble_eq_true rfl, Nat.le_of_ble_eq_true rfl⟩) ⟨(fun a U g mk q => by obtain ⟨q0, q1, qP, qK, qD⟩ := q; exact ⟨q0, q1, qP, va_K.moved (u := U) (U := U.calling g mk a) (Vm.Alike.refl U.vm) qK, qD⟩), va_recv hKc hPc (ci := 5) (q0 := 0) rfl rfl, fun U hU hW => ⟨rfl, by rw [hU], by rw [hU]; exact hPc, va_K.moved hW.alike hKc, hDc.weaken (fun _ _ _ _ => trivial)⟩⟩ rfl rfl hl.1 rfl (lv_room (Nat.le_of_ble_eq_true rfl)) d_Law_law_569 ⟨show 30 + n9 + 1 ≤ 1073 from by omega, show 3463 + 6 * n9 + 6 ≤ 11769 from by omega⟩) hS (fun q _ h => hFc q h) hFc (fun r6 u9 t9 H1 locs ht hvm hwm hB hz1 hk1 hS => ?_)
  obtain ⟨v2, f2, w2⟩ := u9
  obtain ⟨hP1, hK1, hD1⟩ := hB
  rw [ht] at hP1
  obtain ⟨hP, hD⟩ := va_join (wr := (wCo a o cI cZ cJ v1 f1 w1 g1)) (w1 := (wM bb cI v2 f2 w2)) hP hD [16, 17, 18, 19, 20, 21, 22, 23, 24, 25, 26, 27, 28, 29] [0, 1, 2, 3, 4, 5, 6, 7, 8, 9, 10, 11, 12, 13, 14, 15] rfl rfl (by decide) (by decide) hk1 hFc hP1 hD1
  have hP : va_P (dC, dI) vwCl (wL a o bb cI cZ cJ v1 f1 w1 g1 v2 f2 w2) H1 := hP
  have hD : va_D (fun q : Nat => s.heap.size ≤ q) (wL a o bb cI cZ cJ v1 f1 w1 g1 v2 f2 w2) := hD
  generalize H1 = H at hP hS ⊢
  obtain ⟨c9, hc2, hcr, hct, hR2, hans⟩ := m_part hR hw5 hwm
  refine lv_istore (lv' := [(6, .int (r6)), (5, .int (r5)), (4, .int (nI (i))), (0, .ref (b)), (1, .ref (a 0)), (2, .ref (bb 0)), (3, .ref (o))]) hx hb d_Law_law_572 hl (by decide) rfl (fun ls hl => ?_)
  refine lv_aload_n hx hb d_Law_law_574 rfl (lv_at hl 5 rfl) ?_
  have hKc := hK.sub (tys' := [(cI, .int)]) [0] rfl
  have hPc := hP.sub (ws' := (wM bb cI v2 f2 w2)) [16, 17, 18, 19, 20, 21, 22, 23, 24, 25, 26, 27, 28, 29] rfl
  refine zz_ro (va_runV (As := []) (rest := []) ⟨hx, hb, hml, hown, hz⟩ (c_Model_thrown l dC dI bb cI v2 f2 w2) (cwV (C := "CutLengthsModel") 0 hz (zgV tw_554 tw_555 tw_556 tw_20 tw_557) rfl rfl rfl (by decide +kernel) ⟨Nat.le_of_ble_eq_true rfl, Nat.le_of_ble_eq_true rfl⟩) ⟨(fun a U g mk q => ⟨q.1, q.2.1, va_K.moved (u := U) (U := U.calling g mk a) (Vm.Alike.refl U.vm) q.2.2⟩), va_recv hKc hPc (ci := 5) (q0 := 0) rfl rfl, fun U hU hW => ⟨rfl, by rw [hU]; exact hPc, va_K.moved hW.alike hKc⟩⟩ rfl rfl hl.1 rfl (lv_room (Nat.le_of_ble_eq_true rfl)) d_Law_law_575 ⟨show 30 + n9 + 1 ≤ 1073 from by omega, show 3463 + 6 * n9 + 6 ≤ 11769 from by omega⟩) ?_
  refine lv_iload hx hb d_Law_law_578 (lv_at hl 1 rfl) ?_
  refine lv_icmp_eq (tgt := 585) hx hb d_Law_law_580 (by decide) (fun c_1 => ?_) (fun c_1 => ?_)
  · refine lv_iload hx hb d_Law_law_585 (lv_at hl 1 rfl) ?_
    refine lv_if_ne (tgt := 602) hx hb d_Law_law_587 (by decide) (fun c_2 => ?_) (fun c_2 => ?_)
    · refine lv_goto (tgt := 841) hx hb d_Law_law_602 (by decide) ?_
      refine W.widen (k := 30 + (n9 + 1)) (n := 3463 + 6 * (n9 + 1)) (by omega) (by omega) ?_
      exact kk v1 f1 w1 v2 f2 w2 g1 H locs ls hR2 hP hD hS (lv_sub hl [2, 3, 4, 5, 6] rfl)
    · have hc0 : c9 = 0 := (zz_zero (by omega)).mp (hcr.symm.trans c_2)
      refine lv_aload_n hx hb d_Law_law_590 rfl (lv_at hl 6 rfl) ?_
      refine lv_iconst (v := nI 0) hx hb d_Law_law_591 (by decide) ?_
      refine va_lald hx hb hK hP 15 2 (f := g1) rfl rfl (vp_in_nI (by decide) (by decide)) d_Law_law_592 ?_
      refine zz_topl (show g1 (nI 0).toNatClampNeg = r6.toInt64 from by rw [nI_clamp (by decide)]; exact hans hc0) ?_
      refine lv_iload hx hb d_Law_law_593 (lv_at hl 0 rfl) ?_
      refine lv_i2l (v := (r6).toInt64) hx hb d_Law_law_595 rfl ?_
      refine W.lcmp hx hb d_Law_law_596 ?_
      refine zz_top (zz_cmp _) ?_
      refine lv_if_eq (tgt := 602) hx hb d_Law_law_597 (by decide) (fun _ => ?_) (fun c9 => absurd rfl c9)
      refine lv_goto (tgt := 841) hx hb d_Law_law_602 (by decide) ?_
      refine W.widen (k := 30 + (n9 + 1)) (n := 3463 + 6 * (n9 + 1)) (by omega) (by omega) ?_
      exact kk v1 f1 w1 v2 f2 w2 g1 H locs ls hR2 hP hD hS (lv_sub hl [2, 3, 4, 5, 6] rfl)
  · exact absurd ((congrArg nI hct).trans hcr.symm) c_1
set_option maxHeartbeats 4000000 in
set_option maxRecDepth 100000 in
theorem law_cut {p : Program} {l : Launch} {e : Env} {s : State} {m : MethodId} {below : List Frame} {meth : Method} {c : Code} {dC : Nat → ClassId} {dI : Nat → Nat → Nat} {b L : Nat} {xs : Nat → Int32} {a bb : Nat → Nat} {o : Nat} {cI cZ cJ : ClassId} (hl9 : l.stackTraces = false) (hL : L ≤ 2048) (C0 : lw_At p s m meth c b L xs) (hX0 : zX (fun q : Nat => s.heap.size ≤ q) s s.heap) (hK : va_K (dC, dI) vwCl [(cI, .int), (cZ, .boolean), (cJ, .long)] s) {v : Nat → Nat} {f : Nat → Nat → Nat} {w : Nat → Nat → Int32} {v' : Nat → Nat} {f' : Nat → Nat → Nat} {w' : Nat → Nat → Int32} {g : Nat → Int64} (hR : zRel v f w v' f' w') {i n9 : Nat} (hi : i + 4 ≤ L) (hn9 : n9 < 512) {H : Heap} {locs : List Loc} (hP : va_P (dC, dI) vwCl (wL a o bb cI cZ cJ v f w g v' f' w') H) (hD : va_D (fun q : Nat => s.heap.size ≤ q) (wL a o bb cI cZ cJ v f w g v' f' w')) (hS : va_S (fun q : Nat => s.heap.size ≤ q) s.heap H locs) {ls : Array Slot} (hl : lv_has ls 8 [(4, .int (nI (i))), (0, .ref (b)), (1, .ref (a 0)), (2, .ref (bb 0)), (3, .ref (o))]) (kk : ∀ (v : Nat → Nat) (f : Nat → Nat → Nat) (w : Nat → Nat → Int32) (v' : Nat → Nat) (f' : Nat → Nat → Nat) (w' : Nat → Nat → Int32) (g : Nat → Int64) (H : Heap) (locs : List Loc) (ls : Array Slot), zRel v f w v' f' w' → va_P (dC, dI) vwCl (wL a o bb cI cZ cJ v f w g v' f' w') H → va_D (fun q : Nat => s.heap.size ≤ q) (wL a o bb cI cZ cJ v f w g v' f' w') → va_S (fun q : Nat => s.heap.size ≤ q) s.heap H locs → lv_has ls 8 [(4, .int (nI (i))), (0, .ref (b)), (1, .ref (a 0)), (2, .ref (bb 0)), (3, .ref (o))] → W p l e room_1 s m #[Value.ref b] below meth c H locs (30 + (n9 + 1)) (3463 + 6 * (n9 + 1)) (lw_Z below #[Value.ref b] s) (F0 m 841 ls [])) : W p l e room_1 s m #[Value.ref b] below meth c H locs (30 + n9) (3463 + 6 * n9) (lw_Z below #[Value.ref b] s) (F0 m 605 ls []) := by
  obtain ⟨hx, hb, hr, hml, hown, hts, hX, hbl, hlocks, hgv⟩ := id C0
  have hz : ∀ w ∈ zW, w.before #[Value.ref b] s = true := fun w h => hts w (zW_tbl h)
  have hown : s.vm.findClass "CutLengthsLaw" = some m.cls := hown
  have hA : ∀ q : Nat, s.heap.size ≤ q → (fun q : Nat => s.heap.size ≤ q) q := fun _ h => h
  have hbA : ¬ (fun q : Nat => s.heap.size ≤ q) b := Nat.not_le.mpr hbl
  refine lv_aload_n hx hb d_Law_law_605 rfl (lv_at hl 2 rfl) ?_
  refine lv_aload_n hx hb d_Law_law_606 rfl (lv_at hl 4 rfl) ?_
  have hPc := hP.sub (ws' := (wCo a o cI cZ cJ v f w g)) [0, 1, 2, 3, 4, 5, 6, 7, 8, 9, 10, 11, 12, 13, 14, 15] rfl
  have hDc := hD.sub (ws' := (wCo a o cI cZ cJ v f w g)) [0, 1, 2, 3, 4, 5, 6, 7, 8, 9, 10, 11, 12, 13, 14, 15] (by decide) rfl
  have hFc := va_free (wc := (wCo a o cI cZ cJ v f w g)) hD hS hA [0, 1, 2, 3, 4, 5, 6, 7, 8, 9, 10, 11, 12, 13, 14, 15] rfl
  refine va_calli (vx_runSW (hh := [(0, 8, 11, 13), (0, 8, 14, 21)]) (As := [.ref (a 0), .ref (o)]) (rest := []) ⟨hx, hb, hml, hown, hz⟩ (c_Law_cut l hl9 dC dI a o cI cZ cJ v f w g H.size  hR.1 hR.2.2.1) (vx_cwSW (hh := [(0, 8, 11, 13), (0, 8, 14, 21)]) 2 hz (zgS tw_430 tw_431 tw_14 tw_432) rfl rfl rfl (by decide +kernel) ⟨Nat.le_of_ble_eq_true rfl, Nat.le_of_ble_eq_true rfl⟩) ⟨(fun a U g mk q => by obtain ⟨q0, q1, qP, qK, qD, qX⟩ := q; exact ⟨q0, q1, qP, va_K.moved (u := U) (U := U.calling g mk a) (Vm.Alike.refl U.vm) qK, qD, zX.call qX⟩), fun U hU hW => ⟨rfl, by rw [hU], by rw [hU]; exact hPc, va_K.moved hW.alike hK, hDc.weaken (fun _ _ _ _ => trivial), hX0.go hS hU hW hFc⟩⟩ rfl rfl hl.1 rfl (lv_room (Nat.le_of_ble_eq_true rfl)) d_Law_law_607 ⟨show 30 + n9 + 1 ≤ 1073 from by omega, show 3463 + 6 * n9 + 6 ≤ 11769 from by omega⟩) hS (fun q _ h => hFc q h) hFc (fun r5 u9 t9 H1 locs ht hvm hw5 hB hz1 hk1 hS => ?_)
  obtain ⟨⟨v1, f1, w1⟩, g1⟩ := u9
  obtain ⟨hP1, hK1, hD1⟩ := hB
  rw [ht] at hP1
  obtain ⟨hP, hD⟩ := va_join (wr := (wM bb cI v' f' w')) (w1 := (wCo a o cI cZ cJ v1 f1 w1 g1)) hP hD [0, 1, 2, 3, 4, 5, 6, 7, 8, 9, 10, 11, 12, 13, 14, 15] [16, 17, 18, 19, 20, 21, 22, 23, 24, 25, 26, 27, 28, 29] rfl rfl (by decide) (by decide) hk1 hFc hP1 hD1
  have hP := hP.sub (ws' := (wL a o bb cI cZ cJ v1 f1 w1 g1 v' f' w')) [14, 15, 16, 17, 18, 19, 20, 21, 22, 23, 24, 25, 26, 27, 28, 29, 0, 1, 2, 3, 4, 5, 6, 7, 8, 9, 10, 11, 12, 13] rfl
  have hD := hD.sub (ws' := (wL a o bb cI cZ cJ v1 f1 w1 g1 v' f' w')) [14, 15, 16, 17, 18, 19, 20, 21, 22, 23, 24, 25, 26, 27, 28, 29, 0, 1, 2, 3, 4, 5, 6, 7, 8, 9, 10, 11, 12, 13] (by decide) rfl
  generalize H1 = H at hP hS ⊢
  refine lv_istore (lv' := [(5, .int (r5)), (4, .int (nI (i))), (0, .ref (b)), (1, .ref (a 0)), (2, .ref (bb 0)), (3, .ref (o))]) hx hb d_Law_law_610 hl (by decide) rfl (fun ls hl => ?_)
  refine lv_aload_n hx hb d_Law_law_612 rfl (lv_at hl 4 rfl) ?_
  have hKc := hK.sub (tys' := [(cI, .int)]) [0] rfl
  have hPc := hP.sub (ws' := (wM bb cI v' f' w')) [16, 17, 18, 19, 20, 21, 22, 23, 24, 25, 26, 27, 28, 29] rfl
  have hDc := hD.sub (ws' := (wM bb cI v' f' w')) [16, 17, 18, 19, 20, 21, 22, 23, 24, 25, 26, 27, 28, 29] (by decide) rfl
  have hFc := va_free (wc := (wM bb cI v' f' w')) hD hS hA [16, 17, 18, 19, 20, 21, 22, 23, 24, 25, 26, 27, 28, 29] rfl
  refine va_calli (va_runV (As := []) (rest := []) ⟨hx, hb, hml, hown, hz⟩ (c_Model_cut l dC dI bb cI v' f' w' H.size  hR.2.1) (cwV (C := "CutLengthsModel") 0 hz (zgV tw_629 tw_630 tw_631 tw_20 tw_632) rfl rfl rfl (by decide +kernel) ⟨Nat.le_of_ble_eq_true rfl, Nat.le_of_ble_eq_true rfl⟩) ⟨(fun a U g mk q => by obtain ⟨q0, q1, qP, qK, qD⟩ := q; exact ⟨q0, q1, qP, va_K.moved (u := U) (U := U.calling g mk a) (Vm.Alike.refl U.vm) qK, qD⟩), va_recv hKc hPc (ci := 5) (q0 := 0) rfl rfl, fun U hU hW => ⟨rfl, by rw [hU], by rw [hU]; exact hPc, va_K.moved hW.alike hKc, hDc.weaken (fun _ _ _ _ => trivial)⟩⟩ rfl rfl hl.1 rfl (lv_room (Nat.le_of_ble_eq_true rfl)) d_Law_law_613 ⟨show 30 + n9 + 1 ≤ 1073 from by omega, show 3463 + 6 * n9 + 6 ≤ 11769 from by omega⟩) hS (fun q _ h => hFc q h) hFc (fun r6 u9 t9 H1 locs ht hvm hwm hB hz1 hk1 hS => ?_)
  obtain ⟨v2, f2, w2⟩ := u9
  obtain ⟨hP1, hK1, hD1⟩ := hB
  rw [ht] at hP1
  obtain ⟨hP, hD⟩ := va_join (wr := (wCo a o cI cZ cJ v1 f1 w1 g1)) (w1 := (wM bb cI v2 f2 w2)) hP hD [16, 17, 18, 19, 20, 21, 22, 23, 24, 25, 26, 27, 28, 29] [0, 1, 2, 3, 4, 5, 6, 7, 8, 9, 10, 11, 12, 13, 14, 15] rfl rfl (by decide) (by decide) hk1 hFc hP1 hD1
  have hP : va_P (dC, dI) vwCl (wL a o bb cI cZ cJ v1 f1 w1 g1 v2 f2 w2) H1 := hP
  have hD : va_D (fun q : Nat => s.heap.size ≤ q) (wL a o bb cI cZ cJ v1 f1 w1 g1 v2 f2 w2) := hD
  generalize H1 = H at hP hS ⊢
  obtain ⟨c9, hc2, hcr, hct, hR2, hans⟩ := m_cut hR hw5 hwm
  refine lv_istore (lv' := [(6, .int (r6)), (5, .int (r5)), (4, .int (nI (i))), (0, .ref (b)), (1, .ref (a 0)), (2, .ref (bb 0)), (3, .ref (o))]) hx hb d_Law_law_616 hl (by decide) rfl (fun ls hl => ?_)
  refine lv_aload_n hx hb d_Law_law_618 rfl (lv_at hl 5 rfl) ?_
  have hKc := hK.sub (tys' := [(cI, .int)]) [0] rfl
  have hPc := hP.sub (ws' := (wM bb cI v2 f2 w2)) [16, 17, 18, 19, 20, 21, 22, 23, 24, 25, 26, 27, 28, 29] rfl
  refine zz_ro (va_runV (As := []) (rest := []) ⟨hx, hb, hml, hown, hz⟩ (c_Model_thrown l dC dI bb cI v2 f2 w2) (cwV (C := "CutLengthsModel") 0 hz (zgV tw_554 tw_555 tw_556 tw_20 tw_557) rfl rfl rfl (by decide +kernel) ⟨Nat.le_of_ble_eq_true rfl, Nat.le_of_ble_eq_true rfl⟩) ⟨(fun a U g mk q => ⟨q.1, q.2.1, va_K.moved (u := U) (U := U.calling g mk a) (Vm.Alike.refl U.vm) q.2.2⟩), va_recv hKc hPc (ci := 5) (q0 := 0) rfl rfl, fun U hU hW => ⟨rfl, by rw [hU]; exact hPc, va_K.moved hW.alike hKc⟩⟩ rfl rfl hl.1 rfl (lv_room (Nat.le_of_ble_eq_true rfl)) d_Law_law_619 ⟨show 30 + n9 + 1 ≤ 1073 from by omega, show 3463 + 6 * n9 + 6 ≤ 11769 from by omega⟩) ?_
  refine lv_iload hx hb d_Law_law_622 (lv_at hl 1 rfl) ?_
  refine lv_icmp_eq (tgt := 629) hx hb d_Law_law_624 (by decide) (fun c_1 => ?_) (fun c_1 => ?_)
  · refine lv_iload hx hb d_Law_law_629 (lv_at hl 1 rfl) ?_
    refine lv_if_ne (tgt := 646) hx hb d_Law_law_631 (by decide) (fun c_2 => ?_) (fun c_2 => ?_)
    · refine lv_goto (tgt := 841) hx hb d_Law_law_646 (by decide) ?_
      refine W.widen (k := 30 + (n9 + 1)) (n := 3463 + 6 * (n9 + 1)) (by omega) (by omega) ?_
      exact kk v1 f1 w1 v2 f2 w2 g1 H locs ls hR2 hP hD hS (lv_sub hl [2, 3, 4, 5, 6] rfl)
    · have hc0 : c9 = 0 := (zz_zero (by omega)).mp (hcr.symm.trans c_2)
      refine lv_aload_n hx hb d_Law_law_634 rfl (lv_at hl 6 rfl) ?_
      refine lv_iconst (v := nI 0) hx hb d_Law_law_635 (by decide) ?_
      refine va_lald hx hb hK hP 15 2 (f := g1) rfl rfl (vp_in_nI (by decide) (by decide)) d_Law_law_636 ?_
      refine zz_topl (show g1 (nI 0).toNatClampNeg = r6.toInt64 from by rw [nI_clamp (by decide)]; exact hans hc0) ?_
      refine lv_iload hx hb d_Law_law_637 (lv_at hl 0 rfl) ?_
      refine lv_i2l (v := (r6).toInt64) hx hb d_Law_law_639 rfl ?_
      refine W.lcmp hx hb d_Law_law_640 ?_
      refine zz_top (zz_cmp _) ?_
      refine lv_if_eq (tgt := 646) hx hb d_Law_law_641 (by decide) (fun _ => ?_) (fun c9 => absurd rfl c9)
      refine lv_goto (tgt := 841) hx hb d_Law_law_646 (by decide) ?_
      refine W.widen (k := 30 + (n9 + 1)) (n := 3463 + 6 * (n9 + 1)) (by omega) (by omega) ?_
      exact kk v1 f1 w1 v2 f2 w2 g1 H locs ls hR2 hP hD hS (lv_sub hl [2, 3, 4, 5, 6] rfl)
  · exact absurd ((congrArg nI hct).trans hcr.symm) c_1
set_option maxHeartbeats 4000000 in
set_option maxRecDepth 100000 in
theorem law_slab {p : Program} {l : Launch} {e : Env} {s : State} {m : MethodId} {below : List Frame} {meth : Method} {c : Code} {dC : Nat → ClassId} {dI : Nat → Nat → Nat} {b L : Nat} {xs : Nat → Int32} {a bb : Nat → Nat} {o : Nat} {cI cZ cJ : ClassId} (hl9 : l.stackTraces = false) (hL : L ≤ 2048) (C0 : lw_At p s m meth c b L xs) (hX0 : zX (fun q : Nat => s.heap.size ≤ q) s s.heap) (hK : va_K (dC, dI) vwCl [(cI, .int), (cZ, .boolean), (cJ, .long)] s) {v : Nat → Nat} {f : Nat → Nat → Nat} {w : Nat → Nat → Int32} {v' : Nat → Nat} {f' : Nat → Nat → Nat} {w' : Nat → Nat → Int32} {g : Nat → Int64} (hR : zRel v f w v' f' w') {i n9 : Nat} (hi : i + 4 ≤ L) (hn9 : n9 < 512) {H : Heap} {locs : List Loc} (hP : va_P (dC, dI) vwCl (wL a o bb cI cZ cJ v f w g v' f' w') H) (hD : va_D (fun q : Nat => s.heap.size ≤ q) (wL a o bb cI cZ cJ v f w g v' f' w')) (hS : va_S (fun q : Nat => s.heap.size ≤ q) s.heap H locs) {ls : Array Slot} (hl : lv_has ls 8 [(4, .int (nI (i))), (0, .ref (b)), (1, .ref (a 0)), (2, .ref (bb 0)), (3, .ref (o))]) (kk : ∀ (v : Nat → Nat) (f : Nat → Nat → Nat) (w : Nat → Nat → Int32) (v' : Nat → Nat) (f' : Nat → Nat → Nat) (w' : Nat → Nat → Int32) (g : Nat → Int64) (H : Heap) (locs : List Loc) (ls : Array Slot), zRel v f w v' f' w' → va_P (dC, dI) vwCl (wL a o bb cI cZ cJ v f w g v' f' w') H → va_D (fun q : Nat => s.heap.size ≤ q) (wL a o bb cI cZ cJ v f w g v' f' w') → va_S (fun q : Nat => s.heap.size ≤ q) s.heap H locs → lv_has ls 8 [(4, .int (nI (i))), (0, .ref (b)), (1, .ref (a 0)), (2, .ref (bb 0)), (3, .ref (o))] → W p l e room_1 s m #[Value.ref b] below meth c H locs (30 + (n9 + 1)) (3463 + 6 * (n9 + 1)) (lw_Z below #[Value.ref b] s) (F0 m 841 ls [])) : W p l e room_1 s m #[Value.ref b] below meth c H locs (30 + n9) (3463 + 6 * n9) (lw_Z below #[Value.ref b] s) (F0 m 649 ls []) := by
  obtain ⟨hx, hb, hr, hml, hown, hts, hX, hbl, hlocks, hgv⟩ := id C0
  have hz : ∀ w ∈ zW, w.before #[Value.ref b] s = true := fun w h => hts w (zW_tbl h)
  have hown : s.vm.findClass "CutLengthsLaw" = some m.cls := hown
  have hA : ∀ q : Nat, s.heap.size ≤ q → (fun q : Nat => s.heap.size ≤ q) q := fun _ h => h
  have hbA : ¬ (fun q : Nat => s.heap.size ≤ q) b := Nat.not_le.mpr hbl
  refine lv_aload_n hx hb d_Law_law_649 rfl (lv_at hl 2 rfl) ?_
  refine lv_aload_n hx hb d_Law_law_650 rfl (lv_at hl 1 rfl) ?_
  refine lv_iload hx hb d_Law_law_651 (lv_at hl 0 rfl) ?_
  refine lv_iconst (v := nI 1) hx hb d_Law_law_653 (by decide) ?_
  refine lv_iadd hx hb d_Law_law_654 ?_
  refine zz_top (nI_add (i) (1)) ?_
  refine zz_sld hx hb hX hbl hbA hS (k := i + 1) (by omega) (by omega) d_Law_law_655 ?_
  refine lv_aload_n hx hb d_Law_law_656 rfl (lv_at hl 1 rfl) ?_
  refine lv_iload hx hb d_Law_law_657 (lv_at hl 0 rfl) ?_
  refine lv_iconst (v := nI 2) hx hb d_Law_law_659 (by decide) ?_
  refine lv_iadd hx hb d_Law_law_660 ?_
  refine zz_top (nI_add (i) (2)) ?_
  refine zz_sld hx hb hX hbl hbA hS (k := i + 2) (by omega) (by omega) d_Law_law_661 ?_
  refine lv_aload_n hx hb d_Law_law_662 rfl (lv_at hl 4 rfl) ?_
  have hPc := hP.sub (ws' := (wCo a o cI cZ cJ v f w g)) [0, 1, 2, 3, 4, 5, 6, 7, 8, 9, 10, 11, 12, 13, 14, 15] rfl
  have hDc := hD.sub (ws' := (wCo a o cI cZ cJ v f w g)) [0, 1, 2, 3, 4, 5, 6, 7, 8, 9, 10, 11, 12, 13, 14, 15] (by decide) rfl
  have hFc := va_free (wc := (wCo a o cI cZ cJ v f w g)) hD hS hA [0, 1, 2, 3, 4, 5, 6, 7, 8, 9, 10, 11, 12, 13, 14, 15] rfl
  refine va_calli (vx_runSW (hh := [(0, 10, 13, 31)]) (As := [.ref (a 0), .int (xs (i + 1)), .int (xs (i + 2)), .ref (o)]) (rest := []) ⟨hx, hb, hml, hown, hz⟩ (c_Law_slab l hl9 dC dI a o cI cZ cJ v f w g H.size (xs (i + 1)) ((xs (i + 1)).toInt) rfl (xs (i + 2)) ((xs (i + 2)).toInt) rfl hR.1) (vx_cwSW (hh := [(0, 10, 13, 31)]) 4 hz (zgS tw_443 tw_444 tw_14 tw_445) rfl rfl rfl (by decide +kernel) ⟨Nat.le_of_ble_eq_true rfl, Nat.le_of_ble_eq_true rfl⟩) ⟨(fun a U g mk q => by obtain ⟨q0, q1, qP, qK, qD, qX⟩ := q; exact ⟨q0, q1, qP, va_K.moved (u := U) (U := U.calling g mk a) (Vm.Alike.refl U.vm) qK, qD, zX.call qX⟩), fun U hU hW => ⟨rfl, by rw [hU], by rw [hU]; exact hPc, va_K.moved hW.alike hK, hDc.weaken (fun _ _ _ _ => trivial), hX0.go hS hU hW hFc⟩⟩ rfl rfl hl.1 rfl (lv_room (Nat.le_of_ble_eq_true rfl)) d_Law_law_663 ⟨show 30 + n9 + 1 ≤ 1073 from by omega, show 3463 + 6 * n9 + 6 ≤ 11769 from by omega⟩) hS (fun q _ h => hFc q h) hFc (fun r5 u9 t9 H1 locs ht hvm hw5 hB hz1 hk1 hS => ?_)
  obtain ⟨⟨v1, f1, w1⟩, g1⟩ := u9
  obtain ⟨hP1, hK1, hD1⟩ := hB
  rw [ht] at hP1
  obtain ⟨hP, hD⟩ := va_join (wr := (wM bb cI v' f' w')) (w1 := (wCo a o cI cZ cJ v1 f1 w1 g1)) hP hD [0, 1, 2, 3, 4, 5, 6, 7, 8, 9, 10, 11, 12, 13, 14, 15] [16, 17, 18, 19, 20, 21, 22, 23, 24, 25, 26, 27, 28, 29] rfl rfl (by decide) (by decide) hk1 hFc hP1 hD1
  have hP := hP.sub (ws' := (wL a o bb cI cZ cJ v1 f1 w1 g1 v' f' w')) [14, 15, 16, 17, 18, 19, 20, 21, 22, 23, 24, 25, 26, 27, 28, 29, 0, 1, 2, 3, 4, 5, 6, 7, 8, 9, 10, 11, 12, 13] rfl
  have hD := hD.sub (ws' := (wL a o bb cI cZ cJ v1 f1 w1 g1 v' f' w')) [14, 15, 16, 17, 18, 19, 20, 21, 22, 23, 24, 25, 26, 27, 28, 29, 0, 1, 2, 3, 4, 5, 6, 7, 8, 9, 10, 11, 12, 13] (by decide) rfl
  generalize H1 = H at hP hS ⊢
  refine lv_istore (lv' := [(5, .int (r5)), (4, .int (nI (i))), (0, .ref (b)), (1, .ref (a 0)), (2, .ref (bb 0)), (3, .ref (o))]) hx hb d_Law_law_666 hl (by decide) rfl (fun ls hl => ?_)
  refine lv_aload_n hx hb d_Law_law_668 rfl (lv_at hl 4 rfl) ?_
  refine lv_aload_n hx hb d_Law_law_669 rfl (lv_at hl 2 rfl) ?_
  refine lv_iload hx hb d_Law_law_670 (lv_at hl 1 rfl) ?_
  refine lv_iconst (v := nI 1) hx hb d_Law_law_672 (by decide) ?_
  refine lv_iadd hx hb d_Law_law_673 ?_
  refine zz_top (nI_add (i) (1)) ?_
  refine zz_sld hx hb hX hbl hbA hS (k := i + 1) (by omega) (by omega) d_Law_law_674 ?_
  refine lv_aload_n hx hb d_Law_law_675 rfl (lv_at hl 2 rfl) ?_
  refine lv_iload hx hb d_Law_law_676 (lv_at hl 1 rfl) ?_
  refine lv_iconst (v := nI 2) hx hb d_Law_law_678 (by decide) ?_
  refine lv_iadd hx hb d_Law_law_679 ?_
  refine zz_top (nI_add (i) (2)) ?_
  refine zz_sld hx hb hX hbl hbA hS (k := i + 2) (by omega) (by omega) d_Law_law_680 ?_
  have hKc := hK.sub (tys' := [(cI, .int)]) [0] rfl
  have hPc := hP.sub (ws' := (wM bb cI v' f' w')) [16, 17, 18, 19, 20, 21, 22, 23, 24, 25, 26, 27, 28, 29] rfl
  have hDc := hD.sub (ws' := (wM bb cI v' f' w')) [16, 17, 18, 19, 20, 21, 22, 23, 24, 25, 26, 27, 28, 29] (by decide) rfl
  have hFc := va_free (wc := (wM bb cI v' f' w')) hD hS hA [16, 17, 18, 19, 20, 21, 22, 23, 24, 25, 26, 27, 28, 29] rfl
  refine va_calli (va_runV (As := [.int (xs (i + 1)), .int (xs (i + 2))]) (rest := []) ⟨hx, hb, hml, hown, hz⟩ (c_Model_slab l dC dI bb cI v' f' w' H.size (xs (i + 1)) ((xs (i + 1)).toInt) rfl (xs (i + 2)) ((xs (i + 2)).toInt) rfl hR.2.1) (cwV (C := "CutLengthsModel") 2 hz (zgV tw_633 tw_634 tw_635 tw_20 tw_636) rfl rfl rfl (by decide +kernel) ⟨Nat.le_of_ble_eq_true rfl, Nat.le_of_ble_eq_true rfl⟩) ⟨(fun a U g mk q => by obtain ⟨q0, q1, qP, qK, qD⟩ := q; exact ⟨q0, q1, qP, va_K.moved (u := U) (U := U.calling g mk a) (Vm.Alike.refl U.vm) qK, qD⟩), va_recv hKc hPc (ci := 5) (q0 := 0) rfl rfl, fun U hU hW => ⟨rfl, by rw [hU], by rw [hU]; exact hPc, va_K.moved hW.alike hKc, hDc.weaken (fun _ _ _ _ => trivial)⟩⟩ rfl rfl hl.1 rfl (lv_room (Nat.le_of_ble_eq_true rfl)) d_Law_law_681 ⟨show 30 + n9 + 1 ≤ 1073 from by omega, show 3463 + 6 * n9 + 6 ≤ 11769 from by omega⟩) hS (fun q _ h => hFc q h) hFc (fun r6 u9 t9 H1 locs ht hvm hwm hB hz1 hk1 hS => ?_)
  obtain ⟨v2, f2, w2⟩ := u9
  obtain ⟨hP1, hK1, hD1⟩ := hB
  rw [ht] at hP1
  obtain ⟨hP, hD⟩ := va_join (wr := (wCo a o cI cZ cJ v1 f1 w1 g1)) (w1 := (wM bb cI v2 f2 w2)) hP hD [16, 17, 18, 19, 20, 21, 22, 23, 24, 25, 26, 27, 28, 29] [0, 1, 2, 3, 4, 5, 6, 7, 8, 9, 10, 11, 12, 13, 14, 15] rfl rfl (by decide) (by decide) hk1 hFc hP1 hD1
  have hP : va_P (dC, dI) vwCl (wL a o bb cI cZ cJ v1 f1 w1 g1 v2 f2 w2) H1 := hP
  have hD : va_D (fun q : Nat => s.heap.size ≤ q) (wL a o bb cI cZ cJ v1 f1 w1 g1 v2 f2 w2) := hD
  generalize H1 = H at hP hS ⊢
  obtain ⟨c9, hc2, hcr, hct, hR2, hans⟩ := m_slab hR hw5 hwm
  refine lv_istore (lv' := [(6, .int (r6)), (5, .int (r5)), (4, .int (nI (i))), (0, .ref (b)), (1, .ref (a 0)), (2, .ref (bb 0)), (3, .ref (o))]) hx hb d_Law_law_684 hl (by decide) rfl (fun ls hl => ?_)
  refine lv_aload_n hx hb d_Law_law_686 rfl (lv_at hl 5 rfl) ?_
  have hKc := hK.sub (tys' := [(cI, .int)]) [0] rfl
  have hPc := hP.sub (ws' := (wM bb cI v2 f2 w2)) [16, 17, 18, 19, 20, 21, 22, 23, 24, 25, 26, 27, 28, 29] rfl
  refine zz_ro (va_runV (As := []) (rest := []) ⟨hx, hb, hml, hown, hz⟩ (c_Model_thrown l dC dI bb cI v2 f2 w2) (cwV (C := "CutLengthsModel") 0 hz (zgV tw_554 tw_555 tw_556 tw_20 tw_557) rfl rfl rfl (by decide +kernel) ⟨Nat.le_of_ble_eq_true rfl, Nat.le_of_ble_eq_true rfl⟩) ⟨(fun a U g mk q => ⟨q.1, q.2.1, va_K.moved (u := U) (U := U.calling g mk a) (Vm.Alike.refl U.vm) q.2.2⟩), va_recv hKc hPc (ci := 5) (q0 := 0) rfl rfl, fun U hU hW => ⟨rfl, by rw [hU]; exact hPc, va_K.moved hW.alike hKc⟩⟩ rfl rfl hl.1 rfl (lv_room (Nat.le_of_ble_eq_true rfl)) d_Law_law_687 ⟨show 30 + n9 + 1 ≤ 1073 from by omega, show 3463 + 6 * n9 + 6 ≤ 11769 from by omega⟩) ?_
  refine lv_iload hx hb d_Law_law_690 (lv_at hl 1 rfl) ?_
  refine lv_icmp_eq (tgt := 697) hx hb d_Law_law_692 (by decide) (fun c_1 => ?_) (fun c_1 => ?_)
  · refine lv_iload hx hb d_Law_law_697 (lv_at hl 1 rfl) ?_
    refine lv_if_ne (tgt := 714) hx hb d_Law_law_699 (by decide) (fun c_2 => ?_) (fun c_2 => ?_)
    · refine lv_goto (tgt := 841) hx hb d_Law_law_714 (by decide) ?_
      refine W.widen (k := 30 + (n9 + 1)) (n := 3463 + 6 * (n9 + 1)) (by omega) (by omega) ?_
      exact kk v1 f1 w1 v2 f2 w2 g1 H locs ls hR2 hP hD hS (lv_sub hl [2, 3, 4, 5, 6] rfl)
    · have hc0 : c9 = 0 := (zz_zero (by omega)).mp (hcr.symm.trans c_2)
      refine lv_aload_n hx hb d_Law_law_702 rfl (lv_at hl 6 rfl) ?_
      refine lv_iconst (v := nI 0) hx hb d_Law_law_703 (by decide) ?_
      refine va_lald hx hb hK hP 15 2 (f := g1) rfl rfl (vp_in_nI (by decide) (by decide)) d_Law_law_704 ?_
      refine zz_topl (show g1 (nI 0).toNatClampNeg = r6.toInt64 from by rw [nI_clamp (by decide)]; exact hans hc0) ?_
      refine lv_iload hx hb d_Law_law_705 (lv_at hl 0 rfl) ?_
      refine lv_i2l (v := (r6).toInt64) hx hb d_Law_law_707 rfl ?_
      refine W.lcmp hx hb d_Law_law_708 ?_
      refine zz_top (zz_cmp _) ?_
      refine lv_if_eq (tgt := 714) hx hb d_Law_law_709 (by decide) (fun _ => ?_) (fun c9 => absurd rfl c9)
      refine lv_goto (tgt := 841) hx hb d_Law_law_714 (by decide) ?_
      refine W.widen (k := 30 + (n9 + 1)) (n := 3463 + 6 * (n9 + 1)) (by omega) (by omega) ?_
      exact kk v1 f1 w1 v2 f2 w2 g1 H locs ls hR2 hP hD hS (lv_sub hl [2, 3, 4, 5, 6] rfl)
  · exact absurd ((congrArg nI hct).trans hcr.symm) c_1
set_option maxHeartbeats 4000000 in
set_option maxRecDepth 100000 in
theorem law_weight {p : Program} {l : Launch} {e : Env} {s : State} {m : MethodId} {below : List Frame} {meth : Method} {c : Code} {dC : Nat → ClassId} {dI : Nat → Nat → Nat} {b L : Nat} {xs : Nat → Int32} {a bb : Nat → Nat} {o : Nat} {cI cZ cJ : ClassId} (hl9 : l.stackTraces = false) (hL : L ≤ 2048) (C0 : lw_At p s m meth c b L xs) (hX0 : zX (fun q : Nat => s.heap.size ≤ q) s s.heap) (hK : va_K (dC, dI) vwCl [(cI, .int), (cZ, .boolean), (cJ, .long)] s) {v : Nat → Nat} {f : Nat → Nat → Nat} {w : Nat → Nat → Int32} {v' : Nat → Nat} {f' : Nat → Nat → Nat} {w' : Nat → Nat → Int32} {g : Nat → Int64} (hR : zRel v f w v' f' w') {i n9 : Nat} (hi : i + 4 ≤ L) (hn9 : n9 < 512) {H : Heap} {locs : List Loc} (hP : va_P (dC, dI) vwCl (wL a o bb cI cZ cJ v f w g v' f' w') H) (hD : va_D (fun q : Nat => s.heap.size ≤ q) (wL a o bb cI cZ cJ v f w g v' f' w')) (hS : va_S (fun q : Nat => s.heap.size ≤ q) s.heap H locs) {ls : Array Slot} (hl : lv_has ls 8 [(4, .int (nI (i))), (0, .ref (b)), (1, .ref (a 0)), (2, .ref (bb 0)), (3, .ref (o))]) (kk : ∀ (v : Nat → Nat) (f : Nat → Nat → Nat) (w : Nat → Nat → Int32) (v' : Nat → Nat) (f' : Nat → Nat → Nat) (w' : Nat → Nat → Int32) (g : Nat → Int64) (H : Heap) (locs : List Loc) (ls : Array Slot), zRel v f w v' f' w' → va_P (dC, dI) vwCl (wL a o bb cI cZ cJ v f w g v' f' w') H → va_D (fun q : Nat => s.heap.size ≤ q) (wL a o bb cI cZ cJ v f w g v' f' w') → va_S (fun q : Nat => s.heap.size ≤ q) s.heap H locs → lv_has ls 8 [(4, .int (nI (i))), (0, .ref (b)), (1, .ref (a 0)), (2, .ref (bb 0)), (3, .ref (o))] → W p l e room_1 s m #[Value.ref b] below meth c H locs (30 + (n9 + 1)) (3463 + 6 * (n9 + 1)) (lw_Z below #[Value.ref b] s) (F0 m 841 ls [])) : W p l e room_1 s m #[Value.ref b] below meth c H locs (30 + n9) (3463 + 6 * n9) (lw_Z below #[Value.ref b] s) (F0 m 717 ls []) := by
  obtain ⟨hx, hb, hr, hml, hown, hts, hX, hbl, hlocks, hgv⟩ := id C0
  have hz : ∀ w ∈ zW, w.before #[Value.ref b] s = true := fun w h => hts w (zW_tbl h)
  have hown : s.vm.findClass "CutLengthsLaw" = some m.cls := hown
  have hA : ∀ q : Nat, s.heap.size ≤ q → (fun q : Nat => s.heap.size ≤ q) q := fun _ h => h
  have hbA : ¬ (fun q : Nat => s.heap.size ≤ q) b := Nat.not_le.mpr hbl
  refine lv_aload_n hx hb d_Law_law_717 rfl (lv_at hl 2 rfl) ?_
  refine lv_aload_n hx hb d_Law_law_718 rfl (lv_at hl 1 rfl) ?_
  refine lv_iload hx hb d_Law_law_719 (lv_at hl 0 rfl) ?_
  refine lv_iconst (v := nI 1) hx hb d_Law_law_721 (by decide) ?_
  refine lv_iadd hx hb d_Law_law_722 ?_
  refine zz_top (nI_add (i) (1)) ?_
  refine zz_sld hx hb hX hbl hbA hS (k := i + 1) (by omega) (by omega) d_Law_law_723 ?_
  refine lv_aload_n hx hb d_Law_law_724 rfl (lv_at hl 4 rfl) ?_
  have hPc := hP.sub (ws' := (wCo a o cI cZ cJ v f w g)) [0, 1, 2, 3, 4, 5, 6, 7, 8, 9, 10, 11, 12, 13, 14, 15] rfl
  have hDc := hD.sub (ws' := (wCo a o cI cZ cJ v f w g)) [0, 1, 2, 3, 4, 5, 6, 7, 8, 9, 10, 11, 12, 13, 14, 15] (by decide) rfl
  have hFc := va_free (wc := (wCo a o cI cZ cJ v f w g)) hD hS hA [0, 1, 2, 3, 4, 5, 6, 7, 8, 9, 10, 11, 12, 13, 14, 15] rfl
  refine va_calli (vx_runSW (hh := [(0, 8, 11, 31)]) (As := [.ref (a 0), .int (xs (i + 1)), .ref (o)]) (rest := []) ⟨hx, hb, hml, hown, hz⟩ (c_Law_weight l hl9 dC dI a o cI cZ cJ v f w g H.size (xs (i + 1)) ((xs (i + 1)).toInt) rfl hR.1) (vx_cwSW (hh := [(0, 8, 11, 31)]) 3 hz (zgS tw_455 tw_456 tw_14 tw_457) rfl rfl rfl (by decide +kernel) ⟨Nat.le_of_ble_eq_true rfl, Nat.le_of_ble_eq_true rfl⟩) ⟨(fun a U g mk q => by obtain ⟨q0, q1, qP, qK, qD, qX⟩ := q; exact ⟨q0, q1, qP, va_K.moved (u := U) (U := U.calling g mk a) (Vm.Alike.refl U.vm) qK, qD, zX.call qX⟩), fun U hU hW => ⟨rfl, by rw [hU], by rw [hU]; exact hPc, va_K.moved hW.alike hK, hDc.weaken (fun _ _ _ _ => trivial), hX0.go hS hU hW hFc⟩⟩ rfl rfl hl.1 rfl (lv_room (Nat.le_of_ble_eq_true rfl)) d_Law_law_725 ⟨show 30 + n9 + 1 ≤ 1073 from by omega, show 3463 + 6 * n9 + 6 ≤ 11769 from by omega⟩) hS (fun q _ h => hFc q h) hFc (fun r5 u9 t9 H1 locs ht hvm hw5 hB hz1 hk1 hS => ?_)
  obtain ⟨⟨v1, f1, w1⟩, g1⟩ := u9
  obtain ⟨hP1, hK1, hD1⟩ := hB
  rw [ht] at hP1
  obtain ⟨hP, hD⟩ := va_join (wr := (wM bb cI v' f' w')) (w1 := (wCo a o cI cZ cJ v1 f1 w1 g1)) hP hD [0, 1, 2, 3, 4, 5, 6, 7, 8, 9, 10, 11, 12, 13, 14, 15] [16, 17, 18, 19, 20, 21, 22, 23, 24, 25, 26, 27, 28, 29] rfl rfl (by decide) (by decide) hk1 hFc hP1 hD1
  have hP := hP.sub (ws' := (wL a o bb cI cZ cJ v1 f1 w1 g1 v' f' w')) [14, 15, 16, 17, 18, 19, 20, 21, 22, 23, 24, 25, 26, 27, 28, 29, 0, 1, 2, 3, 4, 5, 6, 7, 8, 9, 10, 11, 12, 13] rfl
  have hD := hD.sub (ws' := (wL a o bb cI cZ cJ v1 f1 w1 g1 v' f' w')) [14, 15, 16, 17, 18, 19, 20, 21, 22, 23, 24, 25, 26, 27, 28, 29, 0, 1, 2, 3, 4, 5, 6, 7, 8, 9, 10, 11, 12, 13] (by decide) rfl
  generalize H1 = H at hP hS ⊢
  refine lv_istore (lv' := [(5, .int (r5)), (4, .int (nI (i))), (0, .ref (b)), (1, .ref (a 0)), (2, .ref (bb 0)), (3, .ref (o))]) hx hb d_Law_law_728 hl (by decide) rfl (fun ls hl => ?_)
  refine lv_aload_n hx hb d_Law_law_730 rfl (lv_at hl 4 rfl) ?_
  refine lv_aload_n hx hb d_Law_law_731 rfl (lv_at hl 2 rfl) ?_
  refine lv_iload hx hb d_Law_law_732 (lv_at hl 1 rfl) ?_
  refine lv_iconst (v := nI 1) hx hb d_Law_law_734 (by decide) ?_
  refine lv_iadd hx hb d_Law_law_735 ?_
  refine zz_top (nI_add (i) (1)) ?_
  refine zz_sld hx hb hX hbl hbA hS (k := i + 1) (by omega) (by omega) d_Law_law_736 ?_
  have hKc := hK.sub (tys' := [(cI, .int)]) [0] rfl
  have hPc := hP.sub (ws' := (wM bb cI v' f' w')) [16, 17, 18, 19, 20, 21, 22, 23, 24, 25, 26, 27, 28, 29] rfl
  have hDc := hD.sub (ws' := (wM bb cI v' f' w')) [16, 17, 18, 19, 20, 21, 22, 23, 24, 25, 26, 27, 28, 29] (by decide) rfl
  have hFc := va_free (wc := (wM bb cI v' f' w')) hD hS hA [16, 17, 18, 19, 20, 21, 22, 23, 24, 25, 26, 27, 28, 29] rfl
  refine va_calll (va_runV (As := [.int (xs (i + 1))]) (rest := []) ⟨hx, hb, hml, hown, hz⟩ (c_Model_weight l dC dI bb cI v' f' w' H.size (xs (i + 1)) ((xs (i + 1)).toInt) rfl hR.2.1) (cwV (C := "CutLengthsModel") 1 hz (zgV tw_637 tw_638 tw_639 tw_20 tw_640) rfl rfl rfl (by decide +kernel) ⟨Nat.le_of_ble_eq_true rfl, Nat.le_of_ble_eq_true rfl⟩) ⟨(fun a U g mk q => by obtain ⟨q0, q1, qP, qK, qD⟩ := q; exact ⟨q0, q1, qP, va_K.moved (u := U) (U := U.calling g mk a) (Vm.Alike.refl U.vm) qK, qD⟩), va_recv hKc hPc (ci := 5) (q0 := 0) rfl rfl, fun U hU hW => ⟨rfl, by rw [hU], by rw [hU]; exact hPc, va_K.moved hW.alike hKc, hDc.weaken (fun _ _ _ _ => trivial)⟩⟩ rfl rfl hl.1 rfl (lv_room (Nat.le_of_ble_eq_true rfl)) d_Law_law_737 ⟨show 30 + n9 + 1 ≤ 1073 from by omega, show 3463 + 6 * n9 + 6 ≤ 11769 from by omega⟩) hS (fun q _ h => hFc q h) hFc (fun r6 u9 t9 H1 locs ht hvm hwm hB hz1 hk1 hS => ?_)
  obtain ⟨v2, f2, w2⟩ := u9
  obtain ⟨hP1, hK1, hD1⟩ := hB
  rw [ht] at hP1
  obtain ⟨hP, hD⟩ := va_join (wr := (wCo a o cI cZ cJ v1 f1 w1 g1)) (w1 := (wM bb cI v2 f2 w2)) hP hD [16, 17, 18, 19, 20, 21, 22, 23, 24, 25, 26, 27, 28, 29] [0, 1, 2, 3, 4, 5, 6, 7, 8, 9, 10, 11, 12, 13, 14, 15] rfl rfl (by decide) (by decide) hk1 hFc hP1 hD1
  have hP : va_P (dC, dI) vwCl (wL a o bb cI cZ cJ v1 f1 w1 g1 v2 f2 w2) H1 := hP
  have hD : va_D (fun q : Nat => s.heap.size ≤ q) (wL a o bb cI cZ cJ v1 f1 w1 g1 v2 f2 w2) := hD
  generalize H1 = H at hP hS ⊢
  obtain ⟨c9, hc2, hcr, hct, hR2, hans⟩ := m_weight hR hw5 hwm
  refine lv_lstore (lv' := [(6, .long (r6)), (5, .int (r5)), (4, .int (nI (i))), (0, .ref (b)), (1, .ref (a 0)), (2, .ref (bb 0)), (3, .ref (o))]) hx hb d_Law_law_740 hl (by decide) rfl (fun ls hl => ?_)
  refine lv_aload_n hx hb d_Law_law_742 rfl (lv_at hl 5 rfl) ?_
  have hKc := hK.sub (tys' := [(cI, .int)]) [0] rfl
  have hPc := hP.sub (ws' := (wM bb cI v2 f2 w2)) [16, 17, 18, 19, 20, 21, 22, 23, 24, 25, 26, 27, 28, 29] rfl
  refine zz_ro (va_runV (As := []) (rest := []) ⟨hx, hb, hml, hown, hz⟩ (c_Model_thrown l dC dI bb cI v2 f2 w2) (cwV (C := "CutLengthsModel") 0 hz (zgV tw_554 tw_555 tw_556 tw_20 tw_557) rfl rfl rfl (by decide +kernel) ⟨Nat.le_of_ble_eq_true rfl, Nat.le_of_ble_eq_true rfl⟩) ⟨(fun a U g mk q => ⟨q.1, q.2.1, va_K.moved (u := U) (U := U.calling g mk a) (Vm.Alike.refl U.vm) q.2.2⟩), va_recv hKc hPc (ci := 5) (q0 := 0) rfl rfl, fun U hU hW => ⟨rfl, by rw [hU]; exact hPc, va_K.moved hW.alike hKc⟩⟩ rfl rfl hl.1 rfl (lv_room (Nat.le_of_ble_eq_true rfl)) d_Law_law_743 ⟨show 30 + n9 + 1 ≤ 1073 from by omega, show 3463 + 6 * n9 + 6 ≤ 11769 from by omega⟩) ?_
  refine lv_iload hx hb d_Law_law_746 (lv_at hl 1 rfl) ?_
  refine lv_icmp_eq (tgt := 753) hx hb d_Law_law_748 (by decide) (fun c_1 => ?_) (fun c_1 => ?_)
  · refine lv_iload hx hb d_Law_law_753 (lv_at hl 1 rfl) ?_
    refine lv_if_ne (tgt := 769) hx hb d_Law_law_755 (by decide) (fun c_2 => ?_) (fun c_2 => ?_)
    · refine lv_goto (tgt := 841) hx hb d_Law_law_769 (by decide) ?_
      refine W.widen (k := 30 + (n9 + 1)) (n := 3463 + 6 * (n9 + 1)) (by omega) (by omega) ?_
      exact kk v1 f1 w1 v2 f2 w2 g1 H locs ls hR2 hP hD hS (lv_sub hl [2, 3, 4, 5, 6] rfl)
    · have hc0 : c9 = 0 := (zz_zero (by omega)).mp (hcr.symm.trans c_2)
      refine lv_aload_n hx hb d_Law_law_758 rfl (lv_at hl 6 rfl) ?_
      refine lv_iconst (v := nI 0) hx hb d_Law_law_759 (by decide) ?_
      refine va_lald hx hb hK hP 15 2 (f := g1) rfl rfl (vp_in_nI (by decide) (by decide)) d_Law_law_760 ?_
      refine zz_topl (show g1 (nI 0).toNatClampNeg = r6 from by rw [nI_clamp (by decide)]; exact hans hc0) ?_
      refine lv_lload hx hb d_Law_law_761 (lv_at hl 0 rfl) ?_
      refine W.lcmp hx hb d_Law_law_763 ?_
      refine zz_top (zz_cmp _) ?_
      refine lv_if_eq (tgt := 769) hx hb d_Law_law_764 (by decide) (fun _ => ?_) (fun c9 => absurd rfl c9)
      refine lv_goto (tgt := 841) hx hb d_Law_law_769 (by decide) ?_
      refine W.widen (k := 30 + (n9 + 1)) (n := 3463 + 6 * (n9 + 1)) (by omega) (by omega) ?_
      exact kk v1 f1 w1 v2 f2 w2 g1 H locs ls hR2 hP hD hS (lv_sub hl [2, 3, 4, 5, 6] rfl)
  · exact absurd ((congrArg nI hct).trans hcr.symm) c_1
set_option maxHeartbeats 4000000 in
set_option maxRecDepth 100000 in
theorem law_count {p : Program} {l : Launch} {e : Env} {s : State} {m : MethodId} {below : List Frame} {meth : Method} {c : Code} {dC : Nat → ClassId} {dI : Nat → Nat → Nat} {b L : Nat} {xs : Nat → Int32} {a bb : Nat → Nat} {o : Nat} {cI cZ cJ : ClassId} (hl9 : l.stackTraces = false) (hL : L ≤ 2048) (C0 : lw_At p s m meth c b L xs) (hX0 : zX (fun q : Nat => s.heap.size ≤ q) s s.heap) (hK : va_K (dC, dI) vwCl [(cI, .int), (cZ, .boolean), (cJ, .long)] s) {v : Nat → Nat} {f : Nat → Nat → Nat} {w : Nat → Nat → Int32} {v' : Nat → Nat} {f' : Nat → Nat → Nat} {w' : Nat → Nat → Int32} {g : Nat → Int64} (hR : zRel v f w v' f' w') {i n9 : Nat} (hi : i + 4 ≤ L) (hn9 : n9 < 512) {H : Heap} {locs : List Loc} (hP : va_P (dC, dI) vwCl (wL a o bb cI cZ cJ v f w g v' f' w') H) (hD : va_D (fun q : Nat => s.heap.size ≤ q) (wL a o bb cI cZ cJ v f w g v' f' w')) (hS : va_S (fun q : Nat => s.heap.size ≤ q) s.heap H locs) {ls : Array Slot} (hl : lv_has ls 8 [(4, .int (nI (i))), (0, .ref (b)), (1, .ref (a 0)), (2, .ref (bb 0)), (3, .ref (o))]) (kk : ∀ (v : Nat → Nat) (f : Nat → Nat → Nat) (w : Nat → Nat → Int32) (v' : Nat → Nat) (f' : Nat → Nat → Nat) (w' : Nat → Nat → Int32) (g : Nat → Int64) (H : Heap) (locs : List Loc) (ls : Array Slot), zRel v f w v' f' w' → va_P (dC, dI) vwCl (wL a o bb cI cZ cJ v f w g v' f' w') H → va_D (fun q : Nat => s.heap.size ≤ q) (wL a o bb cI cZ cJ v f w g v' f' w') → va_S (fun q : Nat => s.heap.size ≤ q) s.heap H locs → lv_has ls 8 [(4, .int (nI (i))), (0, .ref (b)), (1, .ref (a 0)), (2, .ref (bb 0)), (3, .ref (o))] → W p l e room_1 s m #[Value.ref b] below meth c H locs (30 + (n9 + 1)) (3463 + 6 * (n9 + 1)) (lw_Z below #[Value.ref b] s) (F0 m 841 ls [])) : W p l e room_1 s m #[Value.ref b] below meth c H locs (30 + n9) (3463 + 6 * n9) (lw_Z below #[Value.ref b] s) (F0 m 772 ls []) := by
  obtain ⟨hx, hb, hr, hml, hown, hts, hX, hbl, hlocks, hgv⟩ := id C0
  have hz : ∀ w ∈ zW, w.before #[Value.ref b] s = true := fun w h => hts w (zW_tbl h)
  have hown : s.vm.findClass "CutLengthsLaw" = some m.cls := hown
  have hA : ∀ q : Nat, s.heap.size ≤ q → (fun q : Nat => s.heap.size ≤ q) q := fun _ h => h
  have hbA : ¬ (fun q : Nat => s.heap.size ≤ q) b := Nat.not_le.mpr hbl
  refine lv_aload_n hx hb d_Law_law_772 rfl (lv_at hl 2 rfl) ?_
  refine lv_aload_n hx hb d_Law_law_773 rfl (lv_at hl 1 rfl) ?_
  refine lv_iload hx hb d_Law_law_774 (lv_at hl 0 rfl) ?_
  refine lv_iconst (v := nI 1) hx hb d_Law_law_776 (by decide) ?_
  refine lv_iadd hx hb d_Law_law_777 ?_
  refine zz_top (nI_add (i) (1)) ?_
  refine zz_sld hx hb hX hbl hbA hS (k := i + 1) (by omega) (by omega) d_Law_law_778 ?_
  refine lv_aload_n hx hb d_Law_law_779 rfl (lv_at hl 4 rfl) ?_
  have hPc := hP.sub (ws' := (wCo a o cI cZ cJ v f w g)) [0, 1, 2, 3, 4, 5, 6, 7, 8, 9, 10, 11, 12, 13, 14, 15] rfl
  have hDc := hD.sub (ws' := (wCo a o cI cZ cJ v f w g)) [0, 1, 2, 3, 4, 5, 6, 7, 8, 9, 10, 11, 12, 13, 14, 15] (by decide) rfl
  have hFc := va_free (wc := (wCo a o cI cZ cJ v f w g)) hD hS hA [0, 1, 2, 3, 4, 5, 6, 7, 8, 9, 10, 11, 12, 13, 14, 15] rfl
  refine va_calli (vx_runSW (hh := [(0, 9, 12, 31)]) (As := [.ref (a 0), .int (xs (i + 1)), .ref (o)]) (rest := []) ⟨hx, hb, hml, hown, hz⟩ (c_Law_count l hl9 dC dI a o cI cZ cJ v f w g H.size (xs (i + 1)) ((xs (i + 1)).toInt) rfl hR.1) (vx_cwSW (hh := [(0, 9, 12, 31)]) 3 hz (zgS tw_464 tw_465 tw_14 tw_466) rfl rfl rfl (by decide +kernel) ⟨Nat.le_of_ble_eq_true rfl, Nat.le_of_ble_eq_true rfl⟩) ⟨(fun a U g mk q => by obtain ⟨q0, q1, qP, qK, qD, qX⟩ := q; exact ⟨q0, q1, qP, va_K.moved (u := U) (U := U.calling g mk a) (Vm.Alike.refl U.vm) qK, qD, zX.call qX⟩), fun U hU hW => ⟨rfl, by rw [hU], by rw [hU]; exact hPc, va_K.moved hW.alike hK, hDc.weaken (fun _ _ _ _ => trivial), hX0.go hS hU hW hFc⟩⟩ rfl rfl hl.1 rfl (lv_room (Nat.le_of_ble_eq_true rfl)) d_Law_law_780 ⟨show 30 + n9 + 1 ≤ 1073 from by omega, show 3463 + 6 * n9 + 6 ≤ 11769 from by omega⟩) hS (fun q _ h => hFc q h) hFc (fun r5 u9 t9 H1 locs ht hvm hw5 hB hz1 hk1 hS => ?_)
  obtain ⟨⟨v1, f1, w1⟩, g1⟩ := u9
  obtain ⟨hP1, hK1, hD1⟩ := hB
  rw [ht] at hP1
  obtain ⟨hP, hD⟩ := va_join (wr := (wM bb cI v' f' w')) (w1 := (wCo a o cI cZ cJ v1 f1 w1 g1)) hP hD [0, 1, 2, 3, 4, 5, 6, 7, 8, 9, 10, 11, 12, 13, 14, 15] [16, 17, 18, 19, 20, 21, 22, 23, 24, 25, 26, 27, 28, 29] rfl rfl (by decide) (by decide) hk1 hFc hP1 hD1
  have hP := hP.sub (ws' := (wL a o bb cI cZ cJ v1 f1 w1 g1 v' f' w')) [14, 15, 16, 17, 18, 19, 20, 21, 22, 23, 24, 25, 26, 27, 28, 29, 0, 1, 2, 3, 4, 5, 6, 7, 8, 9, 10, 11, 12, 13] rfl
  have hD := hD.sub (ws' := (wL a o bb cI cZ cJ v1 f1 w1 g1 v' f' w')) [14, 15, 16, 17, 18, 19, 20, 21, 22, 23, 24, 25, 26, 27, 28, 29, 0, 1, 2, 3, 4, 5, 6, 7, 8, 9, 10, 11, 12, 13] (by decide) rfl
  generalize H1 = H at hP hS ⊢
  refine lv_istore (lv' := [(5, .int (r5)), (4, .int (nI (i))), (0, .ref (b)), (1, .ref (a 0)), (2, .ref (bb 0)), (3, .ref (o))]) hx hb d_Law_law_783 hl (by decide) rfl (fun ls hl => ?_)
  refine lv_aload_n hx hb d_Law_law_785 rfl (lv_at hl 4 rfl) ?_
  refine lv_aload_n hx hb d_Law_law_786 rfl (lv_at hl 2 rfl) ?_
  refine lv_iload hx hb d_Law_law_787 (lv_at hl 1 rfl) ?_
  refine lv_iconst (v := nI 1) hx hb d_Law_law_789 (by decide) ?_
  refine lv_iadd hx hb d_Law_law_790 ?_
  refine zz_top (nI_add (i) (1)) ?_
  refine zz_sld hx hb hX hbl hbA hS (k := i + 1) (by omega) (by omega) d_Law_law_791 ?_
  have hKc := hK.sub (tys' := [(cI, .int)]) [0] rfl
  have hPc := hP.sub (ws' := (wM bb cI v' f' w')) [16, 17, 18, 19, 20, 21, 22, 23, 24, 25, 26, 27, 28, 29] rfl
  have hDc := hD.sub (ws' := (wM bb cI v' f' w')) [16, 17, 18, 19, 20, 21, 22, 23, 24, 25, 26, 27, 28, 29] (by decide) rfl
  have hFc := va_free (wc := (wM bb cI v' f' w')) hD hS hA [16, 17, 18, 19, 20, 21, 22, 23, 24, 25, 26, 27, 28, 29] rfl
  refine va_calli (va_runV (As := [.int (xs (i + 1))]) (rest := []) ⟨hx, hb, hml, hown, hz⟩ (c_Model_count l dC dI bb cI v' f' w' H.size (xs (i + 1)) ((xs (i + 1)).toInt) rfl hR.2.1) (cwV (C := "CutLengthsModel") 1 hz (zgV tw_642 tw_643 tw_644 tw_20 tw_645) rfl rfl rfl (by decide +kernel) ⟨Nat.le_of_ble_eq_true rfl, Nat.le_of_ble_eq_true rfl⟩) ⟨(fun a U g mk q => by obtain ⟨q0, q1, qP, qK, qD⟩ := q; exact ⟨q0, q1, qP, va_K.moved (u := U) (U := U.calling g mk a) (Vm.Alike.refl U.vm) qK, qD⟩), va_recv hKc hPc (ci := 5) (q0 := 0) rfl rfl, fun U hU hW => ⟨rfl, by rw [hU], by rw [hU]; exact hPc, va_K.moved hW.alike hKc, hDc.weaken (fun _ _ _ _ => trivial)⟩⟩ rfl rfl hl.1 rfl (lv_room (Nat.le_of_ble_eq_true rfl)) d_Law_law_792 ⟨show 30 + n9 + 1 ≤ 1073 from by omega, show 3463 + 6 * n9 + 6 ≤ 11769 from by omega⟩) hS (fun q _ h => hFc q h) hFc (fun r6 u9 t9 H1 locs ht hvm hwm hB hz1 hk1 hS => ?_)
  obtain ⟨v2, f2, w2⟩ := u9
  obtain ⟨hP1, hK1, hD1⟩ := hB
  rw [ht] at hP1
  obtain ⟨hP, hD⟩ := va_join (wr := (wCo a o cI cZ cJ v1 f1 w1 g1)) (w1 := (wM bb cI v2 f2 w2)) hP hD [16, 17, 18, 19, 20, 21, 22, 23, 24, 25, 26, 27, 28, 29] [0, 1, 2, 3, 4, 5, 6, 7, 8, 9, 10, 11, 12, 13, 14, 15] rfl rfl (by decide) (by decide) hk1 hFc hP1 hD1
  have hP : va_P (dC, dI) vwCl (wL a o bb cI cZ cJ v1 f1 w1 g1 v2 f2 w2) H1 := hP
  have hD : va_D (fun q : Nat => s.heap.size ≤ q) (wL a o bb cI cZ cJ v1 f1 w1 g1 v2 f2 w2) := hD
  generalize H1 = H at hP hS ⊢
  obtain ⟨c9, hc2, hcr, hct, hR2, hans⟩ := m_count hR hw5 hwm
  refine lv_istore (lv' := [(6, .int (r6)), (5, .int (r5)), (4, .int (nI (i))), (0, .ref (b)), (1, .ref (a 0)), (2, .ref (bb 0)), (3, .ref (o))]) hx hb d_Law_law_795 hl (by decide) rfl (fun ls hl => ?_)
  refine lv_aload_n hx hb d_Law_law_797 rfl (lv_at hl 5 rfl) ?_
  have hKc := hK.sub (tys' := [(cI, .int)]) [0] rfl
  have hPc := hP.sub (ws' := (wM bb cI v2 f2 w2)) [16, 17, 18, 19, 20, 21, 22, 23, 24, 25, 26, 27, 28, 29] rfl
  refine zz_ro (va_runV (As := []) (rest := []) ⟨hx, hb, hml, hown, hz⟩ (c_Model_thrown l dC dI bb cI v2 f2 w2) (cwV (C := "CutLengthsModel") 0 hz (zgV tw_554 tw_555 tw_556 tw_20 tw_557) rfl rfl rfl (by decide +kernel) ⟨Nat.le_of_ble_eq_true rfl, Nat.le_of_ble_eq_true rfl⟩) ⟨(fun a U g mk q => ⟨q.1, q.2.1, va_K.moved (u := U) (U := U.calling g mk a) (Vm.Alike.refl U.vm) q.2.2⟩), va_recv hKc hPc (ci := 5) (q0 := 0) rfl rfl, fun U hU hW => ⟨rfl, by rw [hU]; exact hPc, va_K.moved hW.alike hKc⟩⟩ rfl rfl hl.1 rfl (lv_room (Nat.le_of_ble_eq_true rfl)) d_Law_law_798 ⟨show 30 + n9 + 1 ≤ 1073 from by omega, show 3463 + 6 * n9 + 6 ≤ 11769 from by omega⟩) ?_
  refine lv_iload hx hb d_Law_law_801 (lv_at hl 1 rfl) ?_
  refine lv_icmp_eq (tgt := 808) hx hb d_Law_law_803 (by decide) (fun c_1 => ?_) (fun c_1 => ?_)
  · refine lv_iload hx hb d_Law_law_808 (lv_at hl 1 rfl) ?_
    refine lv_if_ne (tgt := 825) hx hb d_Law_law_810 (by decide) (fun c_2 => ?_) (fun c_2 => ?_)
    · refine lv_goto (tgt := 841) hx hb d_Law_law_825 (by decide) ?_
      refine W.widen (k := 30 + (n9 + 1)) (n := 3463 + 6 * (n9 + 1)) (by omega) (by omega) ?_
      exact kk v1 f1 w1 v2 f2 w2 g1 H locs ls hR2 hP hD hS (lv_sub hl [2, 3, 4, 5, 6] rfl)
    · have hc0 : c9 = 0 := (zz_zero (by omega)).mp (hcr.symm.trans c_2)
      refine lv_aload_n hx hb d_Law_law_813 rfl (lv_at hl 6 rfl) ?_
      refine lv_iconst (v := nI 0) hx hb d_Law_law_814 (by decide) ?_
      refine va_lald hx hb hK hP 15 2 (f := g1) rfl rfl (vp_in_nI (by decide) (by decide)) d_Law_law_815 ?_
      refine zz_topl (show g1 (nI 0).toNatClampNeg = r6.toInt64 from by rw [nI_clamp (by decide)]; exact hans hc0) ?_
      refine lv_iload hx hb d_Law_law_816 (lv_at hl 0 rfl) ?_
      refine lv_i2l (v := (r6).toInt64) hx hb d_Law_law_818 rfl ?_
      refine W.lcmp hx hb d_Law_law_819 ?_
      refine zz_top (zz_cmp _) ?_
      refine lv_if_eq (tgt := 825) hx hb d_Law_law_820 (by decide) (fun _ => ?_) (fun c9 => absurd rfl c9)
      refine lv_goto (tgt := 841) hx hb d_Law_law_825 (by decide) ?_
      refine W.widen (k := 30 + (n9 + 1)) (n := 3463 + 6 * (n9 + 1)) (by omega) (by omega) ?_
      exact kk v1 f1 w1 v2 f2 w2 g1 H locs ls hR2 hP hD hS (lv_sub hl [2, 3, 4, 5, 6] rfl)
  · exact absurd ((congrArg nI hct).trans hcr.symm) c_1
set_option maxHeartbeats 4000000 in
set_option maxRecDepth 100000 in
theorem law_torch {p : Program} {l : Launch} {e : Env} {s : State} {m : MethodId} {below : List Frame} {meth : Method} {c : Code} {dC : Nat → ClassId} {dI : Nat → Nat → Nat} {b L : Nat} {xs : Nat → Int32} {a bb : Nat → Nat} {o : Nat} {cI cZ cJ : ClassId} (hl9 : l.stackTraces = false) (hL : L ≤ 2048) (C0 : lw_At p s m meth c b L xs) (hX0 : zX (fun q : Nat => s.heap.size ≤ q) s s.heap) (hK : va_K (dC, dI) vwCl [(cI, .int), (cZ, .boolean), (cJ, .long)] s) {v : Nat → Nat} {f : Nat → Nat → Nat} {w : Nat → Nat → Int32} {v' : Nat → Nat} {f' : Nat → Nat → Nat} {w' : Nat → Nat → Int32} {g : Nat → Int64} (hR : zRel v f w v' f' w') {i n9 : Nat} (hi : i + 4 ≤ L) (hn9 : n9 < 512) {H : Heap} {locs : List Loc} (hP : va_P (dC, dI) vwCl (wL a o bb cI cZ cJ v f w g v' f' w') H) (hD : va_D (fun q : Nat => s.heap.size ≤ q) (wL a o bb cI cZ cJ v f w g v' f' w')) (hS : va_S (fun q : Nat => s.heap.size ≤ q) s.heap H locs) {ls : Array Slot} (hl : lv_has ls 8 [(4, .int (nI (i))), (0, .ref (b)), (1, .ref (a 0)), (2, .ref (bb 0)), (3, .ref (o))]) (kk : ∀ (v : Nat → Nat) (f : Nat → Nat → Nat) (w : Nat → Nat → Int32) (v' : Nat → Nat) (f' : Nat → Nat → Nat) (w' : Nat → Nat → Int32) (g : Nat → Int64) (H : Heap) (locs : List Loc) (ls : Array Slot), zRel v f w v' f' w' → va_P (dC, dI) vwCl (wL a o bb cI cZ cJ v f w g v' f' w') H → va_D (fun q : Nat => s.heap.size ≤ q) (wL a o bb cI cZ cJ v f w g v' f' w') → va_S (fun q : Nat => s.heap.size ≤ q) s.heap H locs → lv_has ls 8 [(4, .int (nI (i))), (0, .ref (b)), (1, .ref (a 0)), (2, .ref (bb 0)), (3, .ref (o))] → W p l e room_1 s m #[Value.ref b] below meth c H locs (30 + (n9 + 1)) (3463 + 6 * (n9 + 1)) (lw_Z below #[Value.ref b] s) (F0 m 841 ls [])) : W p l e room_1 s m #[Value.ref b] below meth c H locs (30 + n9) (3463 + 6 * n9) (lw_Z below #[Value.ref b] s) (F0 m 828 ls []) := by
  obtain ⟨hx, hb, hr, hml, hown, hts, hX, hbl, hlocks, hgv⟩ := id C0
  have hz : ∀ w ∈ zW, w.before #[Value.ref b] s = true := fun w h => hts w (zW_tbl h)
  have hown : s.vm.findClass "CutLengthsLaw" = some m.cls := hown
  have hA : ∀ q : Nat, s.heap.size ≤ q → (fun q : Nat => s.heap.size ≤ q) q := fun _ h => h
  have hbA : ¬ (fun q : Nat => s.heap.size ≤ q) b := Nat.not_le.mpr hbl
  refine lv_aload_n hx hb d_Law_law_828 rfl (lv_at hl 2 rfl) ?_
  have hKc := hK.sub (tys' := [(cI, .int), (cZ, .boolean)]) [0, 1] rfl
  have hPc := hP.sub (ws' := (wC a cI cZ v f w)) [0, 1, 2, 3, 4, 5, 6, 7, 8, 9, 10, 11, 12, 13, 14] rfl
  refine zz_ro (va_runV (As := []) (rest := []) ⟨hx, hb, hml, hown, hz⟩ (c_Cut_torch l dC dI a cI cZ v f w) (cwV (C := "CutLengths") 0 hz (zgV tw_207 tw_208 tw_209 tw_15 tw_210) rfl rfl rfl (by decide +kernel) ⟨Nat.le_of_ble_eq_true rfl, Nat.le_of_ble_eq_true rfl⟩) ⟨(fun a U g mk q => ⟨q.1, q.2.1, va_K.moved (u := U) (U := U.calling g mk a) (Vm.Alike.refl U.vm) q.2.2⟩), va_recv hKc hPc (ci := 0) (q0 := 0) rfl rfl, fun U hU hW => ⟨rfl, by rw [hU]; exact hPc, va_K.moved hW.alike hKc⟩⟩ rfl rfl hl.1 rfl (lv_room (Nat.le_of_ble_eq_true rfl)) d_Law_law_829 ⟨show 30 + n9 ≤ 1073 from by omega, show 3463 + 6 * n9 ≤ 11769 from by omega⟩) ?_
  refine lv_aload_n hx hb d_Law_law_832 rfl (lv_at hl 3 rfl) ?_
  have hKc := hK.sub (tys' := [(cI, .int)]) [0] rfl
  have hPc := hP.sub (ws' := (wM bb cI v' f' w')) [16, 17, 18, 19, 20, 21, 22, 23, 24, 25, 26, 27, 28, 29] rfl
  have hDc := hD.sub (ws' := (wM bb cI v' f' w')) [16, 17, 18, 19, 20, 21, 22, 23, 24, 25, 26, 27, 28, 29] (by decide) rfl
  have hFc := va_free (wc := (wM bb cI v' f' w')) hD hS hA [16, 17, 18, 19, 20, 21, 22, 23, 24, 25, 26, 27, 28, 29] rfl
  refine va_calli (va_runV (As := []) (rest := [.int (nI (v 4))]) ⟨hx, hb, hml, hown, hz⟩ (c_Model_torch l dC dI bb cI v' f' w' H.size  ) (cwV (C := "CutLengthsModel") 0 hz (zgV tw_646 tw_647 tw_648 tw_20 tw_649) rfl rfl rfl (by decide +kernel) ⟨Nat.le_of_ble_eq_true rfl, Nat.le_of_ble_eq_true rfl⟩) ⟨(fun a U g mk q => by obtain ⟨q0, q1, qP, qK, qD⟩ := q; exact ⟨q0, q1, qP, va_K.moved (u := U) (U := U.calling g mk a) (Vm.Alike.refl U.vm) qK, qD⟩), va_recv hKc hPc (ci := 5) (q0 := 0) rfl rfl, fun U hU hW => ⟨rfl, by rw [hU], by rw [hU]; exact hPc, va_K.moved hW.alike hKc, hDc.weaken (fun _ _ _ _ => trivial)⟩⟩ rfl rfl hl.1 rfl (lv_room (Nat.le_of_ble_eq_true rfl)) d_Law_law_833 ⟨show 30 + n9 ≤ 1073 from by omega, show 3463 + 6 * n9 ≤ 11769 from by omega⟩) hS (fun q _ h => hFc q h) hFc (fun r6 u9 t9 H1 locs ht hvm hwm hB hz1 hk1 hS => ?_)
  obtain ⟨hP1, hK1, hD1⟩ := hB
  rw [ht] at hP1
  obtain ⟨hP, hD⟩ := va_join (wr := (wCo a o cI cZ cJ v f w g)) (w1 := (wM bb cI (zu v' 0 0) f' w')) hP hD [16, 17, 18, 19, 20, 21, 22, 23, 24, 25, 26, 27, 28, 29] [0, 1, 2, 3, 4, 5, 6, 7, 8, 9, 10, 11, 12, 13, 14, 15] rfl rfl (by decide) (by decide) hk1 hFc hP1 hD1
  have hP : va_P (dC, dI) vwCl (wL a o bb cI cZ cJ v f w g (zu v' 0 0) f' w') H1 := hP
  have hD : va_D (fun q : Nat => s.heap.size ≤ q) (wL a o bb cI cZ cJ v f w g (zu v' 0 0) f' w') := hD
  generalize H1 = H at hP hS ⊢
  refine lv_icmp_eq (tgt := 841) hx hb d_Law_law_836 (by decide) (fun c_1 => ?_) (fun c_1 => ?_)
  · refine W.widen (k := 30 + (n9 + 1)) (n := 3463 + 6 * (n9 + 1)) (by omega) (by omega) ?_
    exact kk v f w (zu v' 0 0) f' w' g H locs ls hR hP hD hS (lv_sub hl [0, 1, 2, 3, 4] rfl)
  · exact absurd (by rw [hwm]; exact congrArg nI hR.2.2.2.1.2.2.2.1) c_1
