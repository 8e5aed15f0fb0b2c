/-! THE LAW'S LOOP over the script (rows written by wip/whole/mk_end.py) -/
set_option maxHeartbeats 4000000 in
set_option maxRecDepth 100000 in
theorem law_loop {p : Program} {l : Launch} {e : Env} {s : State} {m : MethodId} {below : List Frame} {meth : Method} {c : Code} {dC : Nat → ClassId} {dI : Nat → Nat → Nat} {b L : Nat} {xs : Nat → Int32} {a bb : Nat → Nat} {o : Nat} {cI cZ cJ : ClassId} (hl9 : l.stackTraces = false) (hL : L ≤ 2048) (C0 : lw_At p s m meth c b L xs) (hX0 : zX (fun q : Nat => s.heap.size ≤ q) s s.heap) (hK : va_K (dC, dI) vwCl [(cI, .int), (cZ, .boolean), (cJ, .long)] s) : ∀ (n i n9 : Nat) (v : Nat → Nat) (f : Nat → Nat → Nat) (w : Nat → Nat → Int32) (v' : Nat → Nat) (f' : Nat → Nat → Nat) (w' : Nat → Nat → Int32) (g : Nat → Int64) (H : Heap) (locs : List Loc) (ls : Array Slot), zRel v f w v' f' w' → i = 4 * n9 → i ≤ L → L < i + n → va_P (dC, dI) vwCl (wL a o bb cI cZ cJ v f w g v' f' w') H → va_D (fun q : Nat => s.heap.size ≤ q) (wL a o bb cI cZ cJ v f w g v' f' w') → va_S (fun q : Nat => s.heap.size ≤ q) s.heap H locs → lv_has ls 8 [(4, .int (nI (i))), (0, .ref (b)), (1, .ref (a 0)), (2, .ref (bb 0)), (3, .ref (o))] → W p l e room_1 s m #[Value.ref b] below meth c H locs (30 + n9) (3463 + 6 * n9) (lw_Z below #[Value.ref b] s) (F0 m 23 ls []) := by
  obtain ⟨hx, hb, hr, hml, hown, hts, hX, hbl, hlocks, hgv⟩ := id C0
  have hbA : ¬ (fun q : Nat => s.heap.size ≤ q) b := Nat.not_le.mpr hbl
  intro n
  induction n with
  | zero => intro i n9 v f w v' f' w' g H locs ls hR hi9 hiL hn; omega
  | succ n ih =>
    intro i n9 v f w v' f' w' g H locs ls hR hi9 hiL hn hP hD hS hl
    refine lv_iload hx hb d_Law_law_23 (lv_at hl 0 rfl) ?_
    refine lv_aload_n hx hb d_Law_law_25 rfl (lv_at hl 1 rfl) ?_
    refine va_slen hx hb hX hbl hbA hS d_Law_law_26 ?_
    refine zz_top (show Int32.ofNat L = nI L from rfl) ?_
    refine lv_iconst (v := nI 4) hx hb d_Law_law_27 (by decide) ?_
    refine lv_isub hx hb d_Law_law_28 ?_
    refine lv_icmp_gt (tgt := 847) hx hb d_Law_law_29 (by decide) (fun c_1 => ?_) (fun c_1 => ?_)
    · refine lv_iconst (v := 1) hx hb d_Law_law_847 (by decide) ?_
      refine va_forget (fun q hq => hS.2.2 q hq) ?_
      refine W.widen (k := 1073) (n := 11769) (by omega) (by omega) ?_
      exact lw_ret hx hb hr hlocks d_Law_law_848
    · have c_2 : ¬ (((L : Nat) : Int) - ((4 : Nat) : Int) < ((i : Nat) : Int)) := fun q => c_1 ((zz_lt (pk_sub_toInt (by omega) (by omega)) (nI_toInt (by omega))).mpr q)
      have h4 : i + 4 ≤ L := by omega
      have nxt : ∀ (v : Nat → Nat) (f : Nat → Nat → Nat) (w : Nat → Nat → Int32) (v' : Nat → Nat) (f' : Nat → Nat → Nat) (w' : Nat → Nat → Int32) (g : Nat → Int64) (H : Heap) (locs : List Loc) (ls : Array Slot), zRel v f w v' f' w' → va_P (dC, dI) vwCl (wL a o bb cI cZ cJ v f w g v' f' w') H → va_D (fun q : Nat => s.heap.size ≤ q) (wL a o bb cI cZ cJ v f w g v' f' w') → va_S (fun q : Nat => s.heap.size ≤ q) s.heap H locs → lv_has ls 8 [(4, .int (nI (i))), (0, .ref (b)), (1, .ref (a 0)), (2, .ref (bb 0)), (3, .ref (o))] → W p l e room_1 s m #[Value.ref b] below meth c H locs (30 + (n9 + 1)) (3463 + 6 * (n9 + 1)) (lw_Z below #[Value.ref b] s) (F0 m 841 ls []) := by
        intro v f w v' f' w' g H locs ls hR hP hD hS hl
        refine lv_iinc (v := nI (i + 4)) (lv' := [(4, .int (nI (i + 4))), (0, .ref (b)), (1, .ref (a 0)), (2, .ref (bb 0)), (3, .ref (o))]) hx hb d_Law_law_841 hl (k := 0) rfl (nI_add i 4) (by decide) rfl (fun ls hl => ?_)
        refine lv_goto (tgt := 23) hx hb d_Law_law_844 (by decide) ?_
        exact ih (i + 4) (n9 + 1) v f w v' f' w' g H locs ls hR (by omega) (by omega) (by omega) hP hD hS hl
      refine lv_aload_n hx hb d_Law_law_32 rfl (lv_at hl 1 rfl) ?_
      refine lv_iload hx hb d_Law_law_33 (lv_at hl 0 rfl) ?_
      refine zz_sld hx hb hX hbl hbA hS (k := i) (by omega) (by omega) d_Law_law_35 ?_
      refine lv_bipush (v := nI 15) hx hb d_Law_law_36 (by decide) ?_
      refine lv_iand hx hb d_Law_law_38 ?_
      obtain ⟨k, hk, ek⟩ := pk_andE (xs i) (m := nI 15) 4 (by decide)
      refine zz_top ek ?_
      have h5 : n9 < 512 := by omega
      rcases (show k = 0 ∨ k = 1 ∨ k = 2 ∨ k = 3 ∨ k = 4 ∨ k = 5 ∨ k = 6 ∨ k = 7 ∨ k = 8 ∨ k = 9 ∨ k = 10 ∨ k = 11 ∨ k = 12 ∨ k = 13 ∨ k = 14 ∨ k = 15 by omega) with rfl | rfl | rfl | rfl | rfl | rfl | rfl | rfl | rfl | rfl | rfl | rfl | rfl | rfl | rfl | rfl
      · exact lv_tableIn (off := 69) (tgt := 108) hx hb d_Law_law_39 (by decide) (by decide) (by decide) (by decide) (law_step hl9 hL C0 hX0 hK hR h4 h5 hP hD hS hl nxt)
      · exact lv_tableIn (off := 117) (tgt := 156) hx hb d_Law_law_39 (by decide) (by decide) (by decide) (by decide) (law_cast hl9 hL C0 hX0 hK hR h4 h5 hP hD hS hl nxt)
      · exact lv_tableIn (off := 173) (tgt := 212) hx hb d_Law_law_39 (by decide) (by decide) (by decide) (by decide) (law_want hl9 hL C0 hX0 hK hR h4 h5 hP hD hS hl nxt)
      · exact lv_tableIn (off := 241) (tgt := 280) hx hb d_Law_law_39 (by decide) (by decide) (by decide) (by decide) (law_span hl9 hL C0 hX0 hK hR h4 h5 hP hD hS hl nxt)
      · exact lv_tableIn (off := 301) (tgt := 340) hx hb d_Law_law_39 (by decide) (by decide) (by decide) (by decide) (law_trim hl9 hL C0 hX0 hK hR h4 h5 hP hD hS hl nxt)
      · exact lv_tableIn (off := 349) (tgt := 388) hx hb d_Law_law_39 (by decide) (by decide) (by decide) (by decide) (law_bad hl9 hL C0 hX0 hK hR h4 h5 hP hD hS hl nxt)
      · exact lv_tableIn (off := 417) (tgt := 456) hx hb d_Law_law_39 (by decide) (by decide) (by decide) (by decide) (law_bar hl9 hL C0 hX0 hK hR h4 h5 hP hD hS hl nxt)
      · exact lv_tableIn (off := 485) (tgt := 524) hx hb d_Law_law_39 (by decide) (by decide) (by decide) (by decide) (law_loss hl9 hL C0 hX0 hK hR h4 h5 hP hD hS hl nxt)
      · exact lv_tableIn (off := 498) (tgt := 537) hx hb d_Law_law_39 (by decide) (by decide) (by decide) (by decide) (law_part hl9 hL C0 hX0 hK hR h4 h5 hP hD hS hl nxt)
      · exact lv_tableIn (off := 566) (tgt := 605) hx hb d_Law_law_39 (by decide) (by decide) (by decide) (by decide) (law_cut hl9 hL C0 hX0 hK hR h4 h5 hP hD hS hl nxt)
      · exact lv_tableIn (off := 610) (tgt := 649) hx hb d_Law_law_39 (by decide) (by decide) (by decide) (by decide) (law_slab hl9 hL C0 hX0 hK hR h4 h5 hP hD hS hl nxt)
      · exact lv_tableIn (off := 678) (tgt := 717) hx hb d_Law_law_39 (by decide) (by decide) (by decide) (by decide) (law_weight hl9 hL C0 hX0 hK hR h4 h5 hP hD hS hl nxt)
      · exact lv_tableIn (off := 733) (tgt := 772) hx hb d_Law_law_39 (by decide) (by decide) (by decide) (by decide) (law_count hl9 hL C0 hX0 hK hR h4 h5 hP hD hS hl nxt)
      · exact lv_tableIn (off := 789) (tgt := 828) hx hb d_Law_law_39 (by decide) (by decide) (by decide) (by decide) (law_torch hl9 hL C0 hX0 hK hR h4 h5 hP hD hS hl nxt)
      · exact lv_tableOut (tgt := 841) hx hb d_Law_law_39 (Or.inr (by decide)) (by decide) (W.widen (k := 30 + (n9 + 1)) (n := 3463 + 6 * (n9 + 1)) (by omega) (by omega) (nxt v f w v' f' w' g H locs ls hR hP hD hS hl))
      · exact lv_tableOut (tgt := 841) hx hb d_Law_law_39 (Or.inr (by decide)) (by decide) (W.widen (k := 30 + (n9 + 1)) (n := 3463 + 6 * (n9 + 1)) (by omega) (by omega) (nxt v f w v' f' w' g H locs ls hR hP hD hS hl))
