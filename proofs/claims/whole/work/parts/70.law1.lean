/-! THE LAW, case by case (rows written by wip/whole/mk_law2.py); the words of the claim's skeleton first -/
/-! THE CLAIM OUT OF ONE WALK OF THE LAW'S BODY. Your part is whole_start (and what it stands on); all else here is the same for every law, but numbers. -/
def R_law : String := "CutLengthsLaw"
def lw_P (b : Addr) (xs : List Int32) (args : Array Value) (s : State) : Prop := args = #[.ref b] ∧ s.IntsAt b xs ∧ xs.length ≤ 2048 ∧ (Jvm.Cond.and given_1 narrow_1).before args s = true
def lw_Q (_ : Array Value) (s : State) (o : Outcome) (t : State) : Prop := o = .returned (some (.int 1)) ∧ Framed s o t [] 1073 11769
def lw_Z (below : List Frame) (a : Array Value) (s : State) : State → Prop := fun t => ∃ o, t.status = .running ∧ Ended t below o ∧ lw_Q a s o t
/-- the law's own end, with 1 on the stack, nothing written that was there before, its room as the claim has it -/
theorem lw_ret {p : Program} {l : Launch} {e : Env} {s : State} {m : MethodId} {below : List Frame} {meth : Method} {c : Code} {b : Nat} (hx : p.tables.exec = Jvm.exec) (hb : c.code = code) (hr : meth.sig.returnType = ret) (hlocks : meth.locks = false) {pc : Nat} {H : Heap} {ls : Array Slot} (hdg : decode code pc = .ok (.ireturn, 1)) : W p l e room_1 s m #[Value.ref b] below meth c H [] 1073 11769 (lw_Z below #[Value.ref b] s) (F0 m pc ls [.int 1]) := by
  intro T hT X
  obtain ⟨fs, hret, hrun, hended, hW, hframe⟩ := X.leave (v := some (.int 1)) (hlocks := hlocks) (fun h => by rw [hr] at h; cases h)
  have hmeth' : T.vm.method? m = some meth := X.method'
  refine ⟨T.setFrames fs, ?_, .returned (some (.int 1)), hrun, hended, rfl, ⟨_, rfl⟩, hW, hframe⟩
  jvm_step X.here [X.here.top, hx, hb, hdg, hmeth', hr, ret, narrow_b1]
  (try refine ⟨rfl, ?_⟩); (try refine ⟨rfl, ?_⟩)
  first | (intro acts; rw [hret _ acts rfl rfl rfl]) | rw [hret _ _ rfl rfl rfl]
  exact Steps.refl _
/-- what holds at the law's entry: the machine, the code, the tables' words (any of lw_tbl by 'hts w (by decide +kernel)'), the script of L ints xs at the cell b, what the Statement gives of the start (any of its parts by flat_of_before) -/
def lw_At (p : Program) (s : State) (m : MethodId) (meth : Method) (c : Code) (b L : Nat) (xs : Nat → Int32) : Prop :=
  p.tables.exec = Jvm.exec ∧ c.code = code ∧ meth.sig.returnType = ret ∧ c.maxLocals = 8 ∧ s.vm.findClass R_law = some m.cls ∧ (∀ w ∈ lw_tbl, w.before #[Value.ref b] s = true) ∧ va_X b L xs s s.heap ∧ b < s.heap.size ∧ meth.locks = false ∧ (Jvm.Cond.and given_1 narrow_1).before #[Value.ref b] s = true

abbrev wL (a : Nat → Nat) (o : Nat) (bb : Nat → Nat) (cI cZ cJ : ClassId) (v : Nat → Nat) (f : Nat → Nat → Nat) (w : Nat → Nat → Int32) (g : Nat → Int64) (v' : Nat → Nat) (f' : Nat → Nat → Nat) (w' : Nat → Nat → Int32) : va_W := wCo a o cI cZ cJ v f w g ++ wM bb cI v' f' w'
theorem zz_cmp (x : Int64) : lg_cmp x x = 0 := by simp [lg_cmp]
section ZL
variable {p : Program} {l : Launch} {e : Env} {R : Room} {s : State} {m : MethodId} {args : Array Value} {below : List Frame} {meth : Method} {c : Code} {H : Heap} {locs : List Loc} {cells slots : Nat} {Q : State → Prop}
variable {cc : ByteArray} {pc : Nat} {ls : Array Slot} {rest : List Value} {A : Nat → Prop} {H0 : Heap}
theorem zz_sld (hexec : p.tables.exec = Jvm.exec) (hb : c.code = cc) {b L : Nat} {xs : Nat → Int32} (hX : va_X b L xs s H0) (hbl : b < H0.size) (hbA : ¬ A b) (hS : va_S A H0 H locs) {k : Nat} (hk : k < L) (hL : L < 2 ^ 31) (hdg : decode cc pc = .ok (.iaload, 1))
    (kk : W p l e R s m args below meth c H locs cells slots Q (F0 m (pc + 1) ls (.int (xs k) :: rest))) : W p l e R s m args below meth c H locs cells slots Q (F0 m pc ls (.int (nI k) :: .ref b :: rest)) := by
  refine va_sld hexec hb hX hbl hbA hS (vp_in_nI hk hL) hdg ?_
  rw [nI_clamp (Nat.lt_trans hk hL)]
  exact kk
end ZL
set_option maxHeartbeats 4000000 in
set_option maxRecDepth 100000 in
theorem law_step {p : Program} {l : Launch} {e : Env} {s : State} {m : MethodId} {below : List Frame} {meth : Method} {c : Code} {dC : Nat → ClassId} {dI : Nat → Nat → Nat} {b L : Nat} {xs : Nat → Int32} {a bb : Nat → Nat} {o : Nat} {cI cZ cJ : ClassId} (hl9 : l.stackTraces = false) (hL : L ≤ 2048) (C0 : lw_At p s m meth c b L xs) (hX0 : zX (fun q : Nat => s.heap.size ≤ q) s s.heap) (hK : va_K (dC, dI) vwCl [(cI, .int), (cZ, .boolean), (cJ, .long)] s) {v : Nat → Nat} {f : Nat → Nat → Nat} {w : Nat → Nat → Int32} {v' : Nat → Nat} {f' : Nat → Nat → Nat} {w' : Nat → Nat → Int32} {g : Nat → Int64} (hR : zRel v f w v' f' w') {i n9 : Nat} (hi : i + 4 ≤ L) (hn9 : n9 < 512) {H : Heap} {locs : List Loc} (hP : va_P (dC, dI) vwCl (wL a o bb cI cZ cJ v f w g v' f' w') H) (hD : va_D (fun q : Nat => s.heap.size ≤ q) (wL a o bb cI cZ cJ v f w g v' f' w')) (hS : va_S (fun q : Nat => s.heap.size ≤ q) s.heap H locs) {ls : Array Slot} (hl : lv_has ls 8 [(4, .int (nI (i))), (0, .ref (b)), (1, .ref (a 0)), (2, .ref (bb 0)), (3, .ref (o))]) (kk : ∀ (v : Nat → Nat) (f : Nat → Nat → Nat) (w : Nat → Nat → Int32) (v' : Nat → Nat) (f' : Nat → Nat → Nat) (w' : Nat → Nat → Int32) (g : Nat → Int64) (H : Heap) (locs : List Loc) (ls : Array Slot), zRel v f w v' f' w' → va_P (dC, dI) vwCl (wL a o bb cI cZ cJ v f w g v' f' w') H → va_D (fun q : Nat => s.heap.size ≤ q) (wL a o bb cI cZ cJ v f w g v' f' w') → va_S (fun q : Nat => s.heap.size ≤ q) s.heap H locs → lv_has ls 8 [(4, .int (nI (i))), (0, .ref (b)), (1, .ref (a 0)), (2, .ref (bb 0)), (3, .ref (o))] → W p l e room_1 s m #[Value.ref b] below meth c H locs (30 + (n9 + 1)) (3463 + 6 * (n9 + 1)) (lw_Z below #[Value.ref b] s) (F0 m 841 ls [])) : W p l e room_1 s m #[Value.ref b] below meth c H locs (30 + n9) (3463 + 6 * n9) (lw_Z below #[Value.ref b] s) (F0 m 108 ls []) := by
  obtain ⟨hx, hb, hr, hml, hown, hts, hX, hbl, hlocks, hgv⟩ := id C0
  have hz : ∀ w ∈ zW, w.before #[Value.ref b] s = true := fun w h => hts w (zW_tbl h)
  have hown : s.vm.findClass "CutLengthsLaw" = some m.cls := hown
  have hA : ∀ q : Nat, s.heap.size ≤ q → (fun q : Nat => s.heap.size ≤ q) q := fun _ h => h
  have hbA : ¬ (fun q : Nat => s.heap.size ≤ q) b := Nat.not_le.mpr hbl
  refine lv_aload_n hx hb d_Law_law_108 rfl (lv_at hl 2 rfl) ?_
  refine lv_aload_n hx hb d_Law_law_109 rfl (lv_at hl 1 rfl) ?_
  refine lv_iload hx hb d_Law_law_110 (lv_at hl 0 rfl) ?_
  refine lv_iconst (v := nI 1) hx hb d_Law_law_112 (by decide) ?_
  refine lv_iadd hx hb d_Law_law_113 ?_
  refine zz_top (nI_add (i) (1)) ?_
  refine zz_sld hx hb hX hbl hbA hS (k := i + 1) (by omega) (by omega) d_Law_law_114 ?_
  refine lv_aload_n hx hb d_Law_law_115 rfl (lv_at hl 1 rfl) ?_
  refine lv_iload hx hb d_Law_law_116 (lv_at hl 0 rfl) ?_
  refine lv_iconst (v := nI 2) hx hb d_Law_law_118 (by decide) ?_
  refine lv_iadd hx hb d_Law_law_119 ?_
  refine zz_top (nI_add (i) (2)) ?_
  refine zz_sld hx hb hX hbl hbA hS (k := i + 2) (by omega) (by omega) d_Law_law_120 ?_
  have hPc := hP.sub (ws' := (wCo a o cI cZ cJ v f w g)) [0, 1, 2, 3, 4, 5, 6, 7, 8, 9, 10, 11, 12, 13, 14, 15] rfl
  have hDc := hD.sub (ws' := (wCo a o cI cZ cJ v f w g)) [0, 1, 2, 3, 4, 5, 6, 7, 8, 9, 10, 11, 12, 13, 14, 15] (by decide) rfl
  have hFc := va_free (wc := (wCo a o cI cZ cJ v f w g)) hD hS hA [0, 1, 2, 3, 4, 5, 6, 7, 8, 9, 10, 11, 12, 13, 14, 15] rfl
  refine va_calli (vx_runSW (hh := [(0, 6, 9, 13), (0, 6, 12, 15)]) (As := [.ref (a 0), .int (xs (i + 1)), .int (xs (i + 2))]) (rest := []) ⟨hx, hb, hml, hown, hz⟩ (c_Law_step l hl9 dC dI a o cI cZ cJ v f w g H.size (xs (i + 1)) ((xs (i + 1)).toInt) rfl (xs (i + 2)) ((xs (i + 2)).toInt) rfl hR.1) (vx_cwSW (hh := [(0, 6, 9, 13), (0, 6, 12, 15)]) 3 hz (zgS tw_211 tw_212 tw_14 tw_213) rfl rfl rfl (by decide +kernel) ⟨Nat.le_of_ble_eq_true rfl, Nat.le_of_ble_eq_true rfl⟩) ⟨(fun a U g mk q => by obtain ⟨q0, q1, qP, qK, qD, qX⟩ := q; exact ⟨q0, q1, qP, va_K.moved (u := U) (U := U.calling g mk a) (Vm.Alike.refl U.vm) qK, qD, zX.call qX⟩), fun U hU hW => ⟨rfl, by rw [hU], by rw [hU]; exact hPc, va_K.moved hW.alike hK, hDc.weaken (fun _ _ _ _ => trivial), hX0.go hS hU hW hFc⟩⟩ rfl rfl hl.1 rfl (lv_room (Nat.le_of_ble_eq_true rfl)) d_Law_law_121 ⟨show 30 + n9 + 1 ≤ 1073 from by omega, show 3463 + 6 * n9 + 6 ≤ 11769 from by omega⟩) hS (fun q _ h => hFc q h) hFc (fun r5 u9 t9 H1 locs ht hvm hw5 hB hz1 hk1 hS => ?_)
  obtain ⟨⟨v1, f1, w1⟩, g1⟩ := u9
  obtain ⟨hP1, hK1, hD1⟩ := hB
  rw [ht] at hP1
  obtain ⟨hP, hD⟩ := va_join (wr := (wM bb cI v' f' w')) (w1 := (wCo a o cI cZ cJ v1 f1 w1 g1)) hP hD [0, 1, 2, 3, 4, 5, 6, 7, 8, 9, 10, 11, 12, 13, 14, 15] [16, 17, 18, 19, 20, 21, 22, 23, 24, 25, 26, 27, 28, 29] rfl rfl (by decide) (by decide) hk1 hFc hP1 hD1
  have hP := hP.sub (ws' := (wL a o bb cI cZ cJ v1 f1 w1 g1 v' f' w')) [14, 15, 16, 17, 18, 19, 20, 21, 22, 23, 24, 25, 26, 27, 28, 29, 0, 1, 2, 3, 4, 5, 6, 7, 8, 9, 10, 11, 12, 13] rfl
  have hD := hD.sub (ws' := (wL a o bb cI cZ cJ v1 f1 w1 g1 v' f' w')) [14, 15, 16, 17, 18, 19, 20, 21, 22, 23, 24, 25, 26, 27, 28, 29, 0, 1, 2, 3, 4, 5, 6, 7, 8, 9, 10, 11, 12, 13] (by decide) rfl
  generalize H1 = H at hP hS ⊢
  refine lv_istore (lv' := [(5, .int (r5)), (4, .int (nI (i))), (0, .ref (b)), (1, .ref (a 0)), (2, .ref (bb 0)), (3, .ref (o))]) hx hb d_Law_law_124 hl (by decide) rfl (fun ls hl => ?_)
  refine lv_aload_n hx hb d_Law_law_126 rfl (lv_at hl 4 rfl) ?_
  refine lv_aload_n hx hb d_Law_law_127 rfl (lv_at hl 2 rfl) ?_
  refine lv_iload hx hb d_Law_law_128 (lv_at hl 1 rfl) ?_
  refine lv_iconst (v := nI 1) hx hb d_Law_law_130 (by decide) ?_
  refine lv_iadd hx hb d_Law_law_131 ?_
  refine zz_top (nI_add (i) (1)) ?_
  refine zz_sld hx hb hX hbl hbA hS (k := i + 1) (by omega) (by omega) d_Law_law_132 ?_
  refine lv_aload_n hx hb d_Law_law_133 rfl (lv_at hl 2 rfl) ?_
  refine lv_iload hx hb d_Law_law_134 (lv_at hl 1 rfl) ?_
  refine lv_iconst (v := nI 2) hx hb d_Law_law_136 (by decide) ?_
  refine lv_iadd hx hb d_Law_law_137 ?_
  refine zz_top (nI_add (i) (2)) ?_
  refine zz_sld hx hb hX hbl hbA hS (k := i + 2) (by omega) (by omega) d_Law_law_138 ?_
  have hKc := hK.sub (tys' := [(cI, .int)]) [0] rfl
  have hPc := hP.sub (ws' := (wM bb cI v' f' w')) [16, 17, 18, 19, 20, 21, 22, 23, 24, 25, 26, 27, 28, 29] rfl
  have hDc := hD.sub (ws' := (wM bb cI v' f' w')) [16, 17, 18, 19, 20, 21, 22, 23, 24, 25, 26, 27, 28, 29] (by decide) rfl
  have hFc := va_free (wc := (wM bb cI v' f' w')) hD hS hA [16, 17, 18, 19, 20, 21, 22, 23, 24, 25, 26, 27, 28, 29] rfl
  refine va_callv (va_runV (As := [.int (xs (i + 1)), .int (xs (i + 2))]) (rest := []) ⟨hx, hb, hml, hown, hz⟩ (c_Model_step l dC dI bb cI v' f' w' H.size (xs (i + 1)) ((xs (i + 1)).toInt) rfl (xs (i + 2)) ((xs (i + 2)).toInt) rfl hR.2.1) (cwV (C := "CutLengthsModel") 2 hz (zgV tw_558 tw_559 tw_560 tw_20 tw_561) rfl rfl rfl (by decide +kernel) ⟨Nat.le_of_ble_eq_true rfl, Nat.le_of_ble_eq_true rfl⟩) ⟨(fun a U g mk q => by obtain ⟨q0, q1, qP, qK, qD⟩ := q; exact ⟨q0, q1, qP, va_K.moved (u := U) (U := U.calling g mk a) (Vm.Alike.refl U.vm) qK, qD⟩), va_recv hKc hPc (ci := 5) (q0 := 0) rfl rfl, fun U hU hW => ⟨rfl, by rw [hU], by rw [hU]; exact hPc, va_K.moved hW.alike hKc, hDc.weaken (fun _ _ _ _ => trivial)⟩⟩ rfl rfl hl.1 rfl (lv_room (Nat.le_of_ble_eq_true rfl)) d_Law_law_139 ⟨show 30 + n9 + 1 ≤ 1073 from by omega, show 3463 + 6 * n9 + 6 ≤ 11769 from by omega⟩) hS (fun q _ h => hFc q h) hFc (fun u9 t9 H1 locs ht hvm hwm hB hz1 hk1 hS => ?_)
  obtain ⟨v2, f2, w2⟩ := u9
  obtain ⟨hP1, hK1, hD1⟩ := hB
  rw [ht] at hP1
  obtain ⟨hP, hD⟩ := va_join (wr := (wCo a o cI cZ cJ v1 f1 w1 g1)) (w1 := (wM bb cI v2 f2 w2)) hP hD [16, 17, 18, 19, 20, 21, 22, 23, 24, 25, 26, 27, 28, 29] [0, 1, 2, 3, 4, 5, 6, 7, 8, 9, 10, 11, 12, 13, 14, 15] rfl rfl (by decide) (by decide) hk1 hFc hP1 hD1
  have hP : va_P (dC, dI) vwCl (wL a o bb cI cZ cJ v1 f1 w1 g1 v2 f2 w2) H1 := hP
  have hD : va_D (fun q : Nat => s.heap.size ≤ q) (wL a o bb cI cZ cJ v1 f1 w1 g1 v2 f2 w2) := hD
  generalize H1 = H at hP hS ⊢
  obtain ⟨c9, hc2, hcr, hct, hR2⟩ := m_step hR hw5 hwm
  refine lv_aload_n hx hb d_Law_law_142 rfl (lv_at hl 4 rfl) ?_
  have hKc := hK.sub (tys' := [(cI, .int)]) [0] rfl
  have hPc := hP.sub (ws' := (wM bb cI v2 f2 w2)) [16, 17, 18, 19, 20, 21, 22, 23, 24, 25, 26, 27, 28, 29] rfl
  refine zz_ro (va_runV (As := []) (rest := []) ⟨hx, hb, hml, hown, hz⟩ (c_Model_thrown l dC dI bb cI v2 f2 w2) (cwV (C := "CutLengthsModel") 0 hz (zgV tw_554 tw_555 tw_556 tw_20 tw_557) rfl rfl rfl (by decide +kernel) ⟨Nat.le_of_ble_eq_true rfl, Nat.le_of_ble_eq_true rfl⟩) ⟨(fun a U g mk q => ⟨q.1, q.2.1, va_K.moved (u := U) (U := U.calling g mk a) (Vm.Alike.refl U.vm) q.2.2⟩), va_recv hKc hPc (ci := 5) (q0 := 0) rfl rfl, fun U hU hW => ⟨rfl, by rw [hU]; exact hPc, va_K.moved hW.alike hKc⟩⟩ rfl rfl hl.1 rfl (lv_room (Nat.le_of_ble_eq_true rfl)) d_Law_law_143 ⟨show 30 + n9 + 1 ≤ 1073 from by omega, show 3463 + 6 * n9 + 6 ≤ 11769 from by omega⟩) ?_
  refine lv_iload hx hb d_Law_law_146 (lv_at hl 0 rfl) ?_
  refine lv_icmp_eq (tgt := 153) hx hb d_Law_law_148 (by decide) (fun c_1 => ?_) (fun c_1 => ?_)
  · refine lv_goto (tgt := 841) hx hb d_Law_law_153 (by decide) ?_
    refine W.widen (k := 30 + (n9 + 1)) (n := 3463 + 6 * (n9 + 1)) (by omega) (by omega) ?_
    exact kk v1 f1 w1 v2 f2 w2 g1 H locs ls hR2 hP hD hS (lv_sub hl [1, 2, 3, 4, 5] rfl)
  · exact absurd ((congrArg nI hct).trans hcr.symm) c_1
set_option maxHeartbeats 4000000 in
set_option maxRecDepth 100000 in
theorem law_cast {p : Program} {l : Launch} {e : Env} {s : State} {m : MethodId} {below : List Frame} {meth : Method} {c : Code} {dC : Nat → ClassId} {dI : Nat → Nat → Nat} {b L : Nat} {xs : Nat → Int32} {a bb : Nat → Nat} {o : Nat} {cI cZ cJ : ClassId} (hl9 : l.stackTraces = false) (hL : L ≤ 2048) (C0 : lw_At p s m meth c b L xs) (hX0 : zX (fun q : Nat => s.heap.size ≤ q) s s.heap) (hK : va_K (dC, dI) vwCl [(cI, .int), (cZ, .boolean), (cJ, .long)] s) {v : Nat → Nat} {f : Nat → Nat → Nat} {w : Nat → Nat → Int32} {v' : Nat → Nat} {f' : Nat → Nat → Nat} {w' : Nat → Nat → Int32} {g : Nat → Int64} (hR : zRel v f w v' f' w') {i n9 : Nat} (hi : i + 4 ≤ L) (hn9 : n9 < 512) {H : Heap} {locs : List Loc} (hP : va_P (dC, dI) vwCl (wL a o bb cI cZ cJ v f w g v' f' w') H) (hD : va_D (fun q : Nat => s.heap.size ≤ q) (wL a o bb cI cZ cJ v f w g v' f' w')) (hS : va_S (fun q : Nat => s.heap.size ≤ q) s.heap H locs) {ls : Array Slot} (hl : lv_has ls 8 [(4, .int (nI (i))), (0, .ref (b)), (1, .ref (a 0)), (2, .ref (bb 0)), (3, .ref (o))]) (kk : ∀ (v : Nat → Nat) (f : Nat → Nat → Nat) (w : Nat → Nat → Int32) (v' : Nat → Nat) (f' : Nat → Nat → Nat) (w' : Nat → Nat → Int32) (g : Nat → Int64) (H : Heap) (locs : List Loc) (ls : Array Slot), zRel v f w v' f' w' → va_P (dC, dI) vwCl (wL a o bb cI cZ cJ v f w g v' f' w') H → va_D (fun q : Nat => s.heap.size ≤ q) (wL a o bb cI cZ cJ v f w g v' f' w') → va_S (fun q : Nat => s.heap.size ≤ q) s.heap H locs → lv_has ls 8 [(4, .int (nI (i))), (0, .ref (b)), (1, .ref (a 0)), (2, .ref (bb 0)), (3, .ref (o))] → W p l e room_1 s m #[Value.ref b] below meth c H locs (30 + (n9 + 1)) (3463 + 6 * (n9 + 1)) (lw_Z below #[Value.ref b] s) (F0 m 841 ls [])) : W p l e room_1 s m #[Value.ref b] below meth c H locs (30 + n9) (3463 + 6 * n9) (lw_Z below #[Value.ref b] s) (F0 m 156 ls []) := by
  obtain ⟨hx, hb, hr, hml, hown, hts, hX, hbl, hlocks, hgv⟩ := id C0
  have hz : ∀ w ∈ zW, w.before #[Value.ref b] s = true := fun w h => hts w (zW_tbl h)
  have hown : s.vm.findClass "CutLengthsLaw" = some m.cls := hown
  have hA : ∀ q : Nat, s.heap.size ≤ q → (fun q : Nat => s.heap.size ≤ q) q := fun _ h => h
  have hbA : ¬ (fun q : Nat => s.heap.size ≤ q) b := Nat.not_le.mpr hbl
  refine lv_aload_n hx hb d_Law_law_156 rfl (lv_at hl 2 rfl) ?_
  refine lv_aload_n hx hb d_Law_law_157 rfl (lv_at hl 1 rfl) ?_
  refine lv_iload hx hb d_Law_law_158 (lv_at hl 0 rfl) ?_
  refine lv_iconst (v := nI 1) hx hb d_Law_law_160 (by decide) ?_
  refine lv_iadd hx hb d_Law_law_161 ?_
  refine zz_top (nI_add (i) (1)) ?_
  refine zz_sld hx hb hX hbl hbA hS (k := i + 1) (by omega) (by omega) d_Law_law_162 ?_
  refine lv_aload_n hx hb d_Law_law_163 rfl (lv_at hl 4 rfl) ?_
  have hPc := hP.sub (ws' := (wCo a o cI cZ cJ v f w g)) [0, 1, 2, 3, 4, 5, 6, 7, 8, 9, 10, 11, 12, 13, 14, 15] rfl
  have hDc := hD.sub (ws' := (wCo a o cI cZ cJ v f w g)) [0, 1, 2, 3, 4, 5, 6, 7, 8, 9, 10, 11, 12, 13, 14, 15] (by decide) rfl
  have hFc := va_free (wc := (wCo a o cI cZ cJ v f w g)) hD hS hA [0, 1, 2, 3, 4, 5, 6, 7, 8, 9, 10, 11, 12, 13, 14, 15] rfl
  refine va_calli (vx_runSW (hh := [(0, 9, 12, 15), (0, 9, 15, 21)]) (As := [.ref (a 0), .int (xs (i + 1)), .ref (o)]) (rest := []) ⟨hx, hb, hml, hown, hz⟩ (c_Law_cast l hl9 dC dI a o cI cZ cJ v f w g H.size (xs (i + 1)) ((xs (i + 1)).toInt) rfl hR.1) (vx_cwSW (hh := [(0, 9, 12, 15), (0, 9, 15, 21)]) 3 hz (zgS tw_310 tw_311 tw_14 tw_312) rfl rfl rfl (by decide +kernel) ⟨Nat.le_of_ble_eq_true rfl, Nat.le_of_ble_eq_true rfl⟩) ⟨(fun a U g mk q => by obtain ⟨q0, q1, qP, qK, qD, qX⟩ := q; exact ⟨q0, q1, qP, va_K.moved (u := U) (U := U.calling g mk a) (Vm.Alike.refl U.vm) qK, qD, zX.call qX⟩), fun U hU hW => ⟨rfl, by rw [hU], by rw [hU]; exact hPc, va_K.moved hW.alike hK, hDc.weaken (fun _ _ _ _ => trivial), hX0.go hS hU hW hFc⟩⟩ rfl rfl hl.1 rfl (lv_room (Nat.le_of_ble_eq_true rfl)) d_Law_law_164 ⟨show 30 + n9 + 1 ≤ 1073 from by omega, show 3463 + 6 * n9 + 6 ≤ 11769 from by omega⟩) hS (fun q _ h => hFc q h) hFc (fun r5 u9 t9 H1 locs ht hvm hw5 hB hz1 hk1 hS => ?_)
  obtain ⟨⟨v1, f1, w1⟩, g1⟩ := u9
  obtain ⟨hP1, hK1, hD1⟩ := hB
  rw [ht] at hP1
  obtain ⟨hP, hD⟩ := va_join (wr := (wM bb cI v' f' w')) (w1 := (wCo a o cI cZ cJ v1 f1 w1 g1)) hP hD [0, 1, 2, 3, 4, 5, 6, 7, 8, 9, 10, 11, 12, 13, 14, 15] [16, 17, 18, 19, 20, 21, 22, 23, 24, 25, 26, 27, 28, 29] rfl rfl (by decide) (by decide) hk1 hFc hP1 hD1
  have hP := hP.sub (ws' := (wL a o bb cI cZ cJ v1 f1 w1 g1 v' f' w')) [14, 15, 16, 17, 18, 19, 20, 21, 22, 23, 24, 25, 26, 27, 28, 29, 0, 1, 2, 3, 4, 5, 6, 7, 8, 9, 10, 11, 12, 13] rfl
  have hD := hD.sub (ws' := (wL a o bb cI cZ cJ v1 f1 w1 g1 v' f' w')) [14, 15, 16, 17, 18, 19, 20, 21, 22, 23, 24, 25, 26, 27, 28, 29, 0, 1, 2, 3, 4, 5, 6, 7, 8, 9, 10, 11, 12, 13] (by decide) rfl
  generalize H1 = H at hP hS ⊢
  refine lv_istore (lv' := [(5, .int (r5)), (4, .int (nI (i))), (0, .ref (b)), (1, .ref (a 0)), (2, .ref (bb 0)), (3, .ref (o))]) hx hb d_Law_law_167 hl (by decide) rfl (fun ls hl => ?_)
  refine lv_aload_n hx hb d_Law_law_169 rfl (lv_at hl 4 rfl) ?_
  refine lv_aload_n hx hb d_Law_law_170 rfl (lv_at hl 2 rfl) ?_
  refine lv_iload hx hb d_Law_law_171 (lv_at hl 1 rfl) ?_
  refine lv_iconst (v := nI 1) hx hb d_Law_law_173 (by decide) ?_
  refine lv_iadd hx hb d_Law_law_174 ?_
  refine zz_top (nI_add (i) (1)) ?_
  refine zz_sld hx hb hX hbl hbA hS (k := i + 1) (by omega) (by omega) d_Law_law_175 ?_
  have hKc := hK.sub (tys' := [(cI, .int)]) [0] rfl
  have hPc := hP.sub (ws' := (wM bb cI v' f' w')) [16, 17, 18, 19, 20, 21, 22, 23, 24, 25, 26, 27, 28, 29] rfl
  have hDc := hD.sub (ws' := (wM bb cI v' f' w')) [16, 17, 18, 19, 20, 21, 22, 23, 24, 25, 26, 27, 28, 29] (by decide) rfl
  have hFc := va_free (wc := (wM bb cI v' f' w')) hD hS hA [16, 17, 18, 19, 20, 21, 22, 23, 24, 25, 26, 27, 28, 29] rfl
  refine va_calli (va_runV (As := [.int (xs (i + 1))]) (rest := []) ⟨hx, hb, hml, hown, hz⟩ (c_Model_cast l dC dI bb cI v' f' w' H.size (xs (i + 1)) ((xs (i + 1)).toInt) rfl hR.2.1) (cwV (C := "CutLengthsModel") 1 hz (zgV tw_571 tw_572 tw_573 tw_20 tw_574) rfl rfl rfl (by decide +kernel) ⟨Nat.le_of_ble_eq_true rfl, Nat.le_of_ble_eq_true rfl⟩) ⟨(fun a U g mk q => by obtain ⟨q0, q1, qP, qK, qD⟩ := q; exact ⟨q0, q1, qP, va_K.moved (u := U) (U := U.calling g mk a) (Vm.Alike.refl U.vm) qK, qD⟩), va_recv hKc hPc (ci := 5) (q0 := 0) rfl rfl, fun U hU hW => ⟨rfl, by rw [hU], by rw [hU]; exact hPc, va_K.moved hW.alike hKc, hDc.weaken (fun _ _ _ _ => trivial)⟩⟩ rfl rfl hl.1 rfl (lv_room (Nat.le_of_ble_eq_true rfl)) d_Law_law_176 ⟨show 30 + n9 + 1 ≤ 1073 from by omega, show 3463 + 6 * n9 + 6 ≤ 11769 from by omega⟩) hS (fun q _ h => hFc q h) hFc (fun r6 u9 t9 H1 locs ht hvm hwm hB hz1 hk1 hS => ?_)
  obtain ⟨v2, f2, w2⟩ := u9
  obtain ⟨hP1, hK1, hD1⟩ := hB
  rw [ht] at hP1
  obtain ⟨hP, hD⟩ := va_join (wr := (wCo a o cI cZ cJ v1 f1 w1 g1)) (w1 := (wM bb cI v2 f2 w2)) hP hD [16, 17, 18, 19, 20, 21, 22, 23, 24, 25, 26, 27, 28, 29] [0, 1, 2, 3, 4, 5, 6, 7, 8, 9, 10, 11, 12, 13, 14, 15] rfl rfl (by decide) (by decide) hk1 hFc hP1 hD1
  have hP : va_P (dC, dI) vwCl (wL a o bb cI cZ cJ v1 f1 w1 g1 v2 f2 w2) H1 := hP
  have hD : va_D (fun q : Nat => s.heap.size ≤ q) (wL a o bb cI cZ cJ v1 f1 w1 g1 v2 f2 w2) := hD
  generalize H1 = H at hP hS ⊢
  obtain ⟨c9, hc2, hcr, hct, hR2, hans⟩ := m_cast hR hw5 hwm
  refine lv_istore (lv' := [(6, .int (r6)), (5, .int (r5)), (4, .int (nI (i))), (0, .ref (b)), (1, .ref (a 0)), (2, .ref (bb 0)), (3, .ref (o))]) hx hb d_Law_law_179 hl (by decide) rfl (fun ls hl => ?_)
  refine lv_aload_n hx hb d_Law_law_181 rfl (lv_at hl 5 rfl) ?_
  have hKc := hK.sub (tys' := [(cI, .int)]) [0] rfl
  have hPc := hP.sub (ws' := (wM bb cI v2 f2 w2)) [16, 17, 18, 19, 20, 21, 22, 23, 24, 25, 26, 27, 28, 29] rfl
  refine zz_ro (va_runV (As := []) (rest := []) ⟨hx, hb, hml, hown, hz⟩ (c_Model_thrown l dC dI bb cI v2 f2 w2) (cwV (C := "CutLengthsModel") 0 hz (zgV tw_554 tw_555 tw_556 tw_20 tw_557) rfl rfl rfl (by decide +kernel) ⟨Nat.le_of_ble_eq_true rfl, Nat.le_of_ble_eq_true rfl⟩) ⟨(fun a U g mk q => ⟨q.1, q.2.1, va_K.moved (u := U) (U := U.calling g mk a) (Vm.Alike.refl U.vm) q.2.2⟩), va_recv hKc hPc (ci := 5) (q0 := 0) rfl rfl, fun U hU hW => ⟨rfl, by rw [hU]; exact hPc, va_K.moved hW.alike hKc⟩⟩ rfl rfl hl.1 rfl (lv_room (Nat.le_of_ble_eq_true rfl)) d_Law_law_182 ⟨show 30 + n9 + 1 ≤ 1073 from by omega, show 3463 + 6 * n9 + 6 ≤ 11769 from by omega⟩) ?_
  refine lv_iload hx hb d_Law_law_185 (lv_at hl 1 rfl) ?_
  refine lv_icmp_eq (tgt := 192) hx hb d_Law_law_187 (by decide) (fun c_1 => ?_) (fun c_1 => ?_)
  · refine lv_iload hx hb d_Law_law_192 (lv_at hl 1 rfl) ?_
    refine lv_if_ne (tgt := 209) hx hb d_Law_law_194 (by decide) (fun c_2 => ?_) (fun c_2 => ?_)
    · refine lv_goto (tgt := 841) hx hb d_Law_law_209 (by decide) ?_
      refine W.widen (k := 30 + (n9 + 1)) (n := 3463 + 6 * (n9 + 1)) (by omega) (by omega) ?_
      exact kk v1 f1 w1 v2 f2 w2 g1 H locs ls hR2 hP hD hS (lv_sub hl [2, 3, 4, 5, 6] rfl)
    · have hc0 : c9 = 0 := (zz_zero (by omega)).mp (hcr.symm.trans c_2)
      refine lv_aload_n hx hb d_Law_law_197 rfl (lv_at hl 6 rfl) ?_
      refine lv_iconst (v := nI 0) hx hb d_Law_law_198 (by decide) ?_
      refine va_lald hx hb hK hP 15 2 (f := g1) rfl rfl (vp_in_nI (by decide) (by decide)) d_Law_law_199 ?_
      refine zz_topl (show g1 (nI 0).toNatClampNeg = r6.toInt64 from by rw [nI_clamp (by decide)]; exact hans hc0) ?_
      refine lv_iload hx hb d_Law_law_200 (lv_at hl 0 rfl) ?_
      refine lv_i2l (v := (r6).toInt64) hx hb d_Law_law_202 rfl ?_
      refine W.lcmp hx hb d_Law_law_203 ?_
      refine zz_top (zz_cmp _) ?_
      refine lv_if_eq (tgt := 209) hx hb d_Law_law_204 (by decide) (fun _ => ?_) (fun c9 => absurd rfl c9)
      refine lv_goto (tgt := 841) hx hb d_Law_law_209 (by decide) ?_
      refine W.widen (k := 30 + (n9 + 1)) (n := 3463 + 6 * (n9 + 1)) (by omega) (by omega) ?_
      exact kk v1 f1 w1 v2 f2 w2 g1 H locs ls hR2 hP hD hS (lv_sub hl [2, 3, 4, 5, 6] rfl)
  · exact absurd ((congrArg nI hct).trans hcr.symm) c_1
set_option maxHeartbeats 4000000 in
set_option maxRecDepth 100000 in
theorem law_want {p : Program} {l : Launch} {e : Env} {s : State} {m : MethodId} {below : List Frame} {meth : Method} {c : Code} {dC : Nat → ClassId} {dI : Nat → Nat → Nat} {b L : Nat} {xs : Nat → Int32} {a bb : Nat → Nat} {o : Nat} {cI cZ cJ : ClassId} (hl9 : l.stackTraces = false) (hL : L ≤ 2048) (C0 : lw_At p s m meth c b L xs) (hX0 : zX (fun q : Nat => s.heap.size ≤ q) s s.heap) (hK : va_K (dC, dI) vwCl [(cI, .int), (cZ, .boolean), (cJ, .long)] s) {v : Nat → Nat} {f : Nat → Nat → Nat} {w : Nat → Nat → Int32} {v' : Nat → Nat} {f' : Nat → Nat → Nat} {w' : Nat → Nat → Int32} {g : Nat → Int64} (hR : zRel v f w v' f' w') {i n9 : Nat} (hi : i + 4 ≤ L) (hn9 : n9 < 512) {H : Heap} {locs : List Loc} (hP : va_P (dC, dI) vwCl (wL a o bb cI cZ cJ v f w g v' f' w') H) (hD : va_D (fun q : Nat => s.heap.size ≤ q) (wL a o bb cI cZ cJ v f w g v' f' w')) (hS : va_S (fun q : Nat => s.heap.size ≤ q) s.heap H locs) {ls : Array Slot} (hl : lv_has ls 8 [(4, .int (nI (i))), (0, .ref (b)), (1, .ref (a 0)), (2, .ref (bb 0)), (3, .ref (o))]) (kk : ∀ (v : Nat → Nat) (f : Nat → Nat → Nat) (w : Nat → Nat → Int32) (v' : Nat → Nat) (f' : Nat → Nat → Nat) (w' : Nat → Nat → Int32) (g : Nat → Int64) (H : Heap) (locs : List Loc) (ls : Array Slot), zRel v f w v' f' w' → va_P (dC, dI) vwCl (wL a o bb cI cZ cJ v f w g v' f' w') H → va_D (fun q : Nat => s.heap.size ≤ q) (wL a o bb cI cZ cJ v f w g v' f' w') → va_S (fun q : Nat => s.heap.size ≤ q) s.heap H locs → lv_has ls 8 [(4, .int (nI (i))), (0, .ref (b)), (1, .ref (a 0)), (2, .ref (bb 0)), (3, .ref (o))] → W p l e room_1 s m #[Value.ref b] below meth c H locs (30 + (n9 + 1)) (3463 + 6 * (n9 + 1)) (lw_Z below #[Value.ref b] s) (F0 m 841 ls [])) : W p l e room_1 s m #[Value.ref b] below meth c H locs (30 + n9) (3463 + 6 * n9) (lw_Z below #[Value.ref b] s) (F0 m 212 ls []) := by
  obtain ⟨hx, hb, hr, hml, hown, hts, hX, hbl, hlocks, hgv⟩ := id C0
  have hz : ∀ w ∈ zW, w.before #[Value.ref b] s = true := fun w h => hts w (zW_tbl h)
  have hown : s.vm.findClass "CutLengthsLaw" = some m.cls := hown
  have hA : ∀ q : Nat, s.heap.size ≤ q → (fun q : Nat => s.heap.size ≤ q) q := fun _ h => h
  have hbA : ¬ (fun q : Nat => s.heap.size ≤ q) b := Nat.not_le.mpr hbl
  refine lv_aload_n hx hb d_Law_law_212 rfl (lv_at hl 2 rfl) ?_
  refine lv_aload_n hx hb d_Law_law_213 rfl (lv_at hl 1 rfl) ?_
  refine lv_iload hx hb d_Law_law_214 (lv_at hl 0 rfl) ?_
  refine lv_iconst (v := nI 1) hx hb d_Law_law_216 (by decide) ?_
  refine lv_iadd hx hb d_Law_law_217 ?_
  refine zz_top (nI_add (i) (1)) ?_
  refine zz_sld hx hb hX hbl hbA hS (k := i + 1) (by omega) (by omega) d_Law_law_218 ?_
  refine lv_aload_n hx hb d_Law_law_219 rfl (lv_at hl 1 rfl) ?_
  refine lv_iload hx hb d_Law_law_220 (lv_at hl 0 rfl) ?_
  refine lv_iconst (v := nI 2) hx hb d_Law_law_222 (by decide) ?_
  refine lv_iadd hx hb d_Law_law_223 ?_
  refine zz_top (nI_add (i) (2)) ?_
  refine zz_sld hx hb hX hbl hbA hS (k := i + 2) (by omega) (by omega) d_Law_law_224 ?_
  refine lv_aload_n hx hb d_Law_law_225 rfl (lv_at hl 4 rfl) ?_
  have hPc := hP.sub (ws' := (wCo a o cI cZ cJ v f w g)) [0, 1, 2, 3, 4, 5, 6, 7, 8, 9, 10, 11, 12, 13, 14, 15] rfl
  have hDc := hD.sub (ws' := (wCo a o cI cZ cJ v f w g)) [0, 1, 2, 3, 4, 5, 6, 7, 8, 9, 10, 11, 12, 13, 14, 15] (by decide) rfl
  have hFc := va_free (wc := (wCo a o cI cZ cJ v f w g)) hD hS hA [0, 1, 2, 3, 4, 5, 6, 7, 8, 9, 10, 11, 12, 13, 14, 15] rfl
  refine va_calli (vx_runSW (hh := [(0, 10, 13, 13), (0, 10, 17, 15)]) (As := [.ref (a 0), .int (xs (i + 1)), .int (xs (i + 2)), .ref (o)]) (rest := []) ⟨hx, hb, hml, hown, hz⟩ (c_Law_want l hl9 dC dI a o cI cZ cJ v f w g H.size (xs (i + 1)) ((xs (i + 1)).toInt) rfl (xs (i + 2)) ((xs (i + 2)).toInt) rfl hR.1) (vx_cwSW (hh := [(0, 10, 13, 13), (0, 10, 17, 15)]) 4 hz (zgS tw_335 tw_336 tw_14 tw_337) rfl rfl rfl (by decide +kernel) ⟨Nat.le_of_ble_eq_true rfl, Nat.le_of_ble_eq_true rfl⟩) ⟨(fun a U g mk q => by obtain ⟨q0, q1, qP, qK, qD, qX⟩ := q; exact ⟨q0, q1, qP, va_K.moved (u := U) (U := U.calling g mk a) (Vm.Alike.refl U.vm) qK, qD, zX.call qX⟩), fun U hU hW => ⟨rfl, by rw [hU], by rw [hU]; exact hPc, va_K.moved hW.alike hK, hDc.weaken (fun _ _ _ _ => trivial), hX0.go hS hU hW hFc⟩⟩ rfl rfl hl.1 rfl (lv_room (Nat.le_of_ble_eq_true rfl)) d_Law_law_226 ⟨show 30 + n9 + 1 ≤ 1073 from by omega, show 3463 + 6 * n9 + 6 ≤ 11769 from by omega⟩) hS (fun q _ h => hFc q h) hFc (fun r5 u9 t9 H1 locs ht hvm hw5 hB hz1 hk1 hS => ?_)
  obtain ⟨⟨v1, f1, w1⟩, g1⟩ := u9
  obtain ⟨hP1, hK1, hD1⟩ := hB
  rw [ht] at hP1
  obtain ⟨hP, hD⟩ := va_join (wr := (wM bb cI v' f' w')) (w1 := (wCo a o cI cZ cJ v1 f1 w1 g1)) hP hD [0, 1, 2, 3, 4, 5, 6, 7, 8, 9, 10, 11, 12, 13, 14, 15] [16, 17, 18, 19, 20, 21, 22, 23, 24, 25, 26, 27, 28, 29] rfl rfl (by decide) (by decide) hk1 hFc hP1 hD1
  have hP := hP.sub (ws' := (wL a o bb cI cZ cJ v1 f1 w1 g1 v' f' w')) [14, 15, 16, 17, 18, 19, 20, 21, 22, 23, 24, 25, 26, 27, 28, 29, 0, 1, 2, 3, 4, 5, 6, 7, 8, 9, 10, 11, 12, 13] rfl
  have hD := hD.sub (ws' := (wL a o bb cI cZ cJ v1 f1 w1 g1 v' f' w')) [14, 15, 16, 17, 18, 19, 20, 21, 22, 23, 24, 25, 26, 27, 28, 29, 0, 1, 2, 3, 4, 5, 6, 7, 8, 9, 10, 11, 12, 13] (by decide) rfl
  generalize H1 = H at hP hS ⊢
  refine lv_istore (lv' := [(5, .int (r5)), (4, .int (nI (i))), (0, .ref (b)), (1, .ref (a 0)), (2, .ref (bb 0)), (3, .ref (o))]) hx hb d_Law_law_229 hl (by decide) rfl (fun ls hl => ?_)
  refine lv_aload_n hx hb d_Law_law_231 rfl (lv_at hl 4 rfl) ?_
  refine lv_aload_n hx hb d_Law_law_232 rfl (lv_at hl 2 rfl) ?_
  refine lv_iload hx hb d_Law_law_233 (lv_at hl 1 rfl) ?_
  refine lv_iconst (v := nI 1) hx hb d_Law_law_235 (by decide) ?_
  refine lv_iadd hx hb d_Law_law_236 ?_
  refine zz_top (nI_add (i) (1)) ?_
  refine zz_sld hx hb hX hbl hbA hS (k := i + 1) (by omega) (by omega) d_Law_law_237 ?_
  refine lv_aload_n hx hb d_Law_law_238 rfl (lv_at hl 2 rfl) ?_
  refine lv_iload hx hb d_Law_law_239 (lv_at hl 1 rfl) ?_
  refine lv_iconst (v := nI 2) hx hb d_Law_law_241 (by decide) ?_
  refine lv_iadd hx hb d_Law_law_242 ?_
  refine zz_top (nI_add (i) (2)) ?_
  refine zz_sld hx hb hX hbl hbA hS (k := i + 2) (by omega) (by omega) d_Law_law_243 ?_
  have hKc := hK.sub (tys' := [(cI, .int)]) [0] rfl
  have hPc := hP.sub (ws' := (wM bb cI v' f' w')) [16, 17, 18, 19, 20, 21, 22, 23, 24, 25, 26, 27, 28, 29] rfl
  have hDc := hD.sub (ws' := (wM bb cI v' f' w')) [16, 17, 18, 19, 20, 21, 22, 23, 24, 25, 26, 27, 28, 29] (by decide) rfl
  have hFc := va_free (wc := (wM bb cI v' f' w')) hD hS hA [16, 17, 18, 19, 20, 21, 22, 23, 24, 25, 26, 27, 28, 29] rfl
  refine va_calli (va_runV (As := [.int (xs (i + 1)), .int (xs (i + 2))]) (rest := []) ⟨hx, hb, hml, hown, hz⟩ (c_Model_want l dC dI bb cI v' f' w' H.size (xs (i + 1)) ((xs (i + 1)).toInt) rfl (xs (i + 2)) ((xs (i + 2)).toInt) rfl hR.2.1) (cwV (C := "CutLengthsModel") 2 hz (zgV tw_575 tw_576 tw_577 tw_20 tw_578) rfl rfl rfl (by decide +kernel) ⟨Nat.le_of_ble_eq_true rfl, Nat.le_of_ble_eq_true rfl⟩) ⟨(fun a U g mk q => by obtain ⟨q0, q1, qP, qK, qD⟩ := q; exact ⟨q0, q1, qP, va_K.moved (u := U) (U := U.calling g mk a) (Vm.Alike.refl U.vm) qK, qD⟩), va_recv hKc hPc (ci := 5) (q0 := 0) rfl rfl, fun U hU hW => ⟨rfl, by rw [hU], by rw [hU]; exact hPc, va_K.moved hW.alike hKc, hDc.weaken (fun _ _ _ _ => trivial)⟩⟩ rfl rfl hl.1 rfl (lv_room (Nat.le_of_ble_eq_true rfl)) d_Law_law_244 ⟨show 30 + n9 + 1 ≤ 1073 from by omega, show 3463 + 6 * n9 + 6 ≤ 11769 from by omega⟩) hS (fun q _ h => hFc q h) hFc (fun r6 u9 t9 H1 locs ht hvm hwm hB hz1 hk1 hS => ?_)
  obtain ⟨v2, f2, w2⟩ := u9
  obtain ⟨hP1, hK1, hD1⟩ := hB
  rw [ht] at hP1
  obtain ⟨hP, hD⟩ := va_join (wr := (wCo a o cI cZ cJ v1 f1 w1 g1)) (w1 := (wM bb cI v2 f2 w2)) hP hD [16, 17, 18, 19, 20, 21, 22, 23, 24, 25, 26, 27, 28, 29] [0, 1, 2, 3, 4, 5, 6, 7, 8, 9, 10, 11, 12, 13, 14, 15] rfl rfl (by decide) (by decide) hk1 hFc hP1 hD1
  have hP : va_P (dC, dI) vwCl (wL a o bb cI cZ cJ v1 f1 w1 g1 v2 f2 w2) H1 := hP
  have hD : va_D (fun q : Nat => s.heap.size ≤ q) (wL a o bb cI cZ cJ v1 f1 w1 g1 v2 f2 w2) := hD
  generalize H1 = H at hP hS ⊢
  obtain ⟨c9, hc2, hcr, hct, hR2, hans⟩ := m_want hR hw5 hwm
  refine lv_istore (lv' := [(6, .int (r6)), (5, .int (r5)), (4, .int (nI (i))), (0, .ref (b)), (1, .ref (a 0)), (2, .ref (bb 0)), (3, .ref (o))]) hx hb d_Law_law_247 hl (by decide) rfl (fun ls hl => ?_)
  refine lv_aload_n hx hb d_Law_law_249 rfl (lv_at hl 5 rfl) ?_
  have hKc := hK.sub (tys' := [(cI, .int)]) [0] rfl
  have hPc := hP.sub (ws' := (wM bb cI v2 f2 w2)) [16, 17, 18, 19, 20, 21, 22, 23, 24, 25, 26, 27, 28, 29] rfl
  refine zz_ro (va_runV (As := []) (rest := []) ⟨hx, hb, hml, hown, hz⟩ (c_Model_thrown l dC dI bb cI v2 f2 w2) (cwV (C := "CutLengthsModel") 0 hz (zgV tw_554 tw_555 tw_556 tw_20 tw_557) rfl rfl rfl (by decide +kernel) ⟨Nat.le_of_ble_eq_true rfl, Nat.le_of_ble_eq_true rfl⟩) ⟨(fun a U g mk q => ⟨q.1, q.2.1, va_K.moved (u := U) (U := U.calling g mk a) (Vm.Alike.refl U.vm) q.2.2⟩), va_recv hKc hPc (ci := 5) (q0 := 0) rfl rfl, fun U hU hW => ⟨rfl, by rw [hU]; exact hPc, va_K.moved hW.alike hKc⟩⟩ rfl rfl hl.1 rfl (lv_room (Nat.le_of_ble_eq_true rfl)) d_Law_law_250 ⟨show 30 + n9 + 1 ≤ 1073 from by omega, show 3463 + 6 * n9 + 6 ≤ 11769 from by omega⟩) ?_
  refine lv_iload hx hb d_Law_law_253 (lv_at hl 1 rfl) ?_
  refine lv_icmp_eq (tgt := 260) hx hb d_Law_law_255 (by decide) (fun c_1 => ?_) (fun c_1 => ?_)
  · refine lv_iload hx hb d_Law_law_260 (lv_at hl 1 rfl) ?_
    refine lv_if_ne (tgt := 277) hx hb d_Law_law_262 (by decide) (fun c_2 => ?_) (fun c_2 => ?_)
    · refine lv_goto (tgt := 841) hx hb d_Law_law_277 (by decide) ?_
      refine W.widen (k := 30 + (n9 + 1)) (n := 3463 + 6 * (n9 + 1)) (by omega) (by omega) ?_
      exact kk v1 f1 w1 v2 f2 w2 g1 H locs ls hR2 hP hD hS (lv_sub hl [2, 3, 4, 5, 6] rfl)
    · have hc0 : c9 = 0 := (zz_zero (by omega)).mp (hcr.symm.trans c_2)
      refine lv_aload_n hx hb d_Law_law_265 rfl (lv_at hl 6 rfl) ?_
      refine lv_iconst (v := nI 0) hx hb d_Law_law_266 (by decide) ?_
      refine va_lald hx hb hK hP 15 2 (f := g1) rfl rfl (vp_in_nI (by decide) (by decide)) d_Law_law_267 ?_
      refine zz_topl (show g1 (nI 0).toNatClampNeg = r6.toInt64 from by rw [nI_clamp (by decide)]; exact hans hc0) ?_
      refine lv_iload hx hb d_Law_law_268 (lv_at hl 0 rfl) ?_
      refine lv_i2l (v := (r6).toInt64) hx hb d_Law_law_270 rfl ?_
      refine W.lcmp hx hb d_Law_law_271 ?_
      refine zz_top (zz_cmp _) ?_
      refine lv_if_eq (tgt := 277) hx hb d_Law_law_272 (by decide) (fun _ => ?_) (fun c9 => absurd rfl c9)
      refine lv_goto (tgt := 841) hx hb d_Law_law_277 (by decide) ?_
      refine W.widen (k := 30 + (n9 + 1)) (n := 3463 + 6 * (n9 + 1)) (by omega) (by omega) ?_
      exact kk v1 f1 w1 v2 f2 w2 g1 H locs ls hR2 hP hD hS (lv_sub hl [2, 3, 4, 5, 6] rfl)
  · exact absurd ((congrArg nI hct).trans hcr.symm) c_1
set_option maxHeartbeats 4000000 in
set_option maxRecDepth 100000 in
theorem law_span {p : Program} {l : Launch} {e : Env} {s : State} {m : MethodId} {below : List Frame} {meth : Method} {c : Code} {dC : Nat → ClassId} {dI : Nat → Nat → Nat} {b L : Nat} {xs : Nat → Int32} {a bb : Nat → Nat} {o : Nat} {cI cZ cJ : ClassId} (hl9 : l.stackTraces = false) (hL : L ≤ 2048) (C0 : lw_At p s m meth c b L xs) (hX0 : zX (fun q : Nat => s.heap.size ≤ q) s s.heap) (hK : va_K (dC, dI) vwCl [(cI, .int), (cZ, .boolean), (cJ, .long)] s) {v : Nat → Nat} {f : Nat → Nat → Nat} {w : Nat → Nat → Int32} {v' : Nat → Nat} {f' : Nat → Nat → Nat} {w' : Nat → Nat → Int32} {g : Nat → Int64} (hR : zRel v f w v' f' w') {i n9 : Nat} (hi : i + 4 ≤ L) (hn9 : n9 < 512) {H : Heap} {locs : List Loc} (hP : va_P (dC, dI) vwCl (wL a o bb cI cZ cJ v f w g v' f' w') H) (hD : va_D (fun q : Nat => s.heap.size ≤ q) (wL a o bb cI cZ cJ v f w g v' f' w')) (hS : va_S (fun q : Nat => s.heap.size ≤ q) s.heap H locs) {ls : Array Slot} (hl : lv_has ls 8 [(4, .int (nI (i))), (0, .ref (b)), (1, .ref (a 0)), (2, .ref (bb 0)), (3, .ref (o))]) (kk : ∀ (v : Nat → Nat) (f : Nat → Nat → Nat) (w : Nat → Nat → Int32) (v' : Nat → Nat) (f' : Nat → Nat → Nat) (w' : Nat → Nat → Int32) (g : Nat → Int64) (H : Heap) (locs : List Loc) (ls : Array Slot), zRel v f w v' f' w' → va_P (dC, dI) vwCl (wL a o bb cI cZ cJ v f w g v' f' w') H → va_D (fun q : Nat => s.heap.size ≤ q) (wL a o bb cI cZ cJ v f w g v' f' w') → va_S (fun q : Nat => s.heap.size ≤ q) s.heap H locs → lv_has ls 8 [(4, .int (nI (i))), (0, .ref (b)), (1, .ref (a 0)), (2, .ref (bb 0)), (3, .ref (o))] → W p l e room_1 s m #[Value.ref b] below meth c H locs (30 + (n9 + 1)) (3463 + 6 * (n9 + 1)) (lw_Z below #[Value.ref b] s) (F0 m 841 ls [])) : W p l e room_1 s m #[Value.ref b] below meth c H locs (30 + n9) (3463 + 6 * n9) (lw_Z below #[Value.ref b] s) (F0 m 280 ls []) := by
  obtain ⟨hx, hb, hr, hml, hown, hts, hX, hbl, hlocks, hgv⟩ := id C0
  have hz : ∀ w ∈ zW, w.before #[Value.ref b] s = true := fun w h => hts w (zW_tbl h)
  have hown : s.vm.findClass "CutLengthsLaw" = some m.cls := hown
  have hA : ∀ q : Nat, s.heap.size ≤ q → (fun q : Nat => s.heap.size ≤ q) q := fun _ h => h
  have hbA : ¬ (fun q : Nat => s.heap.size ≤ q) b := Nat.not_le.mpr hbl
  refine lv_aload_n hx hb d_Law_law_280 rfl (lv_at hl 2 rfl) ?_
  refine lv_aload_n hx hb d_Law_law_281 rfl (lv_at hl 1 rfl) ?_
  refine lv_iload hx hb d_Law_law_282 (lv_at hl 0 rfl) ?_
  refine lv_iconst (v := nI 1) hx hb d_Law_law_284 (by decide) ?_
  refine lv_iadd hx hb d_Law_law_285 ?_
  refine zz_top (nI_add (i) (1)) ?_
  refine zz_sld hx hb hX hbl hbA hS (k := i + 1) (by omega) (by omega) d_Law_law_286 ?_
  refine lv_aload_n hx hb d_Law_law_287 rfl (lv_at hl 1 rfl) ?_
  refine lv_iload hx hb d_Law_law_288 (lv_at hl 0 rfl) ?_
  refine lv_iconst (v := nI 2) hx hb d_Law_law_290 (by decide) ?_
  refine lv_iadd hx hb d_Law_law_291 ?_
  refine zz_top (nI_add (i) (2)) ?_
  refine zz_sld hx hb hX hbl hbA hS (k := i + 2) (by omega) (by omega) d_Law_law_292 ?_
  refine lv_aload_n hx hb d_Law_law_293 rfl (lv_at hl 1 rfl) ?_
  refine lv_iload hx hb d_Law_law_294 (lv_at hl 0 rfl) ?_
  refine lv_iconst (v := nI 3) hx hb d_Law_law_296 (by decide) ?_
  refine lv_iadd hx hb d_Law_law_297 ?_
  refine zz_top (nI_add (i) (3)) ?_
  refine zz_sld hx hb hX hbl hbA hS (k := i + 3) (by omega) (by omega) d_Law_law_298 ?_
  have hPc := hP.sub (ws' := (wCo a o cI cZ cJ v f w g)) [0, 1, 2, 3, 4, 5, 6, 7, 8, 9, 10, 11, 12, 13, 14, 15] rfl
  have hDc := hD.sub (ws' := (wCo a o cI cZ cJ v f w g)) [0, 1, 2, 3, 4, 5, 6, 7, 8, 9, 10, 11, 12, 13, 14, 15] (by decide) rfl
  have hFc := va_free (wc := (wCo a o cI cZ cJ v f w g)) hD hS hA [0, 1, 2, 3, 4, 5, 6, 7, 8, 9, 10, 11, 12, 13, 14, 15] rfl
  refine va_calli (vx_runSW (hh := [(0, 7, 10, 31), (0, 7, 14, 15)]) (As := [.ref (a 0), .int (xs (i + 1)), .int (xs (i + 2)), .int (xs (i + 3))]) (rest := []) ⟨hx, hb, hml, hown, hz⟩ (c_Law_span l hl9 dC dI a o cI cZ cJ v f w g H.size (xs (i + 1)) ((xs (i + 1)).toInt) rfl (xs (i + 2)) ((xs (i + 2)).toInt) rfl (xs (i + 3)) ((xs (i + 3)).toInt) rfl hR.1) (vx_cwSW (hh := [(0, 7, 10, 31), (0, 7, 14, 15)]) 4 hz (zgS tw_351 tw_352 tw_14 tw_353) rfl rfl rfl (by decide +kernel) ⟨Nat.le_of_ble_eq_true rfl, Nat.le_of_ble_eq_true rfl⟩) ⟨(fun a U g mk q => by obtain ⟨q0, q1, qP, qK, qD, qX⟩ := q; exact ⟨q0, q1, qP, va_K.moved (u := U) (U := U.calling g mk a) (Vm.Alike.refl U.vm) qK, qD, zX.call qX⟩), fun U hU hW => ⟨rfl, by rw [hU], by rw [hU]; exact hPc, va_K.moved hW.alike hK, hDc.weaken (fun _ _ _ _ => trivial), hX0.go hS hU hW hFc⟩⟩ rfl rfl hl.1 rfl (lv_room (Nat.le_of_ble_eq_true rfl)) d_Law_law_299 ⟨show 30 + n9 + 1 ≤ 1073 from by omega, show 3463 + 6 * n9 + 6 ≤ 11769 from by omega⟩) hS (fun q _ h => hFc q h) hFc (fun r5 u9 t9 H1 locs ht hvm hw5 hB hz1 hk1 hS => ?_)
  obtain ⟨⟨v1, f1, w1⟩, g1⟩ := u9
  obtain ⟨hP1, hK1, hD1⟩ := hB
  rw [ht] at hP1
  obtain ⟨hP, hD⟩ := va_join (wr := (wM bb cI v' f' w')) (w1 := (wCo a o cI cZ cJ v1 f1 w1 g1)) hP hD [0, 1, 2, 3, 4, 5, 6, 7, 8, 9, 10, 11, 12, 13, 14, 15] [16, 17, 18, 19, 20, 21, 22, 23, 24, 25, 26, 27, 28, 29] rfl rfl (by decide) (by decide) hk1 hFc hP1 hD1
  have hP := hP.sub (ws' := (wL a o bb cI cZ cJ v1 f1 w1 g1 v' f' w')) [14, 15, 16, 17, 18, 19, 20, 21, 22, 23, 24, 25, 26, 27, 28, 29, 0, 1, 2, 3, 4, 5, 6, 7, 8, 9, 10, 11, 12, 13] rfl
  have hD := hD.sub (ws' := (wL a o bb cI cZ cJ v1 f1 w1 g1 v' f' w')) [14, 15, 16, 17, 18, 19, 20, 21, 22, 23, 24, 25, 26, 27, 28, 29, 0, 1, 2, 3, 4, 5, 6, 7, 8, 9, 10, 11, 12, 13] (by decide) rfl
  generalize H1 = H at hP hS ⊢
  refine lv_istore (lv' := [(5, .int (r5)), (4, .int (nI (i))), (0, .ref (b)), (1, .ref (a 0)), (2, .ref (bb 0)), (3, .ref (o))]) hx hb d_Law_law_302 hl (by decide) rfl (fun ls hl => ?_)
  refine lv_aload_n hx hb d_Law_law_304 rfl (lv_at hl 4 rfl) ?_
  refine lv_aload_n hx hb d_Law_law_305 rfl (lv_at hl 2 rfl) ?_
  refine lv_iload hx hb d_Law_law_306 (lv_at hl 1 rfl) ?_
  refine lv_iconst (v := nI 1) hx hb d_Law_law_308 (by decide) ?_
  refine lv_iadd hx hb d_Law_law_309 ?_
  refine zz_top (nI_add (i) (1)) ?_
  refine zz_sld hx hb hX hbl hbA hS (k := i + 1) (by omega) (by omega) d_Law_law_310 ?_
  refine lv_aload_n hx hb d_Law_law_311 rfl (lv_at hl 2 rfl) ?_
  refine lv_iload hx hb d_Law_law_312 (lv_at hl 1 rfl) ?_
  refine lv_iconst (v := nI 2) hx hb d_Law_law_314 (by decide) ?_
  refine lv_iadd hx hb d_Law_law_315 ?_
  refine zz_top (nI_add (i) (2)) ?_
  refine zz_sld hx hb hX hbl hbA hS (k := i + 2) (by omega) (by omega) d_Law_law_316 ?_
  refine lv_aload_n hx hb d_Law_law_317 rfl (lv_at hl 2 rfl) ?_
  refine lv_iload hx hb d_Law_law_318 (lv_at hl 1 rfl) ?_
  refine lv_iconst (v := nI 3) hx hb d_Law_law_320 (by decide) ?_
  refine lv_iadd hx hb d_Law_law_321 ?_
  refine zz_top (nI_add (i) (3)) ?_
  refine zz_sld hx hb hX hbl hbA hS (k := i + 3) (by omega) (by omega) d_Law_law_322 ?_
  have hKc := hK.sub (tys' := [(cI, .int)]) [0] rfl
  have hPc := hP.sub (ws' := (wM bb cI v' f' w')) [16, 17, 18, 19, 20, 21, 22, 23, 24, 25, 26, 27, 28, 29] rfl
  have hDc := hD.sub (ws' := (wM bb cI v' f' w')) [16, 17, 18, 19, 20, 21, 22, 23, 24, 25, 26, 27, 28, 29] (by decide) rfl
  have hFc := va_free (wc := (wM bb cI v' f' w')) hD hS hA [16, 17, 18, 19, 20, 21, 22, 23, 24, 25, 26, 27, 28, 29] rfl
  refine va_callv (va_runV (As := [.int (xs (i + 1)), .int (xs (i + 2)), .int (xs (i + 3))]) (rest := []) ⟨hx, hb, hml, hown, hz⟩ (c_Model_span l dC dI bb cI v' f' w' H.size (xs (i + 1)) ((xs (i + 1)).toInt) rfl (xs (i + 2)) ((xs (i + 2)).toInt) rfl (xs (i + 3)) ((xs (i + 3)).toInt) rfl hR.2.1) (cwV (C := "CutLengthsModel") 3 hz (zgV tw_582 tw_583 tw_584 tw_20 tw_585) rfl rfl rfl (by decide +kernel) ⟨Nat.le_of_ble_eq_true rfl, Nat.le_of_ble_eq_true rfl⟩) ⟨(fun a U g mk q => by obtain ⟨q0, q1, qP, qK, qD⟩ := q; exact ⟨q0, q1, qP, va_K.moved (u := U) (U := U.calling g mk a) (Vm.Alike.refl U.vm) qK, qD⟩), va_recv hKc hPc (ci := 5) (q0 := 0) rfl rfl, fun U hU hW => ⟨rfl, by rw [hU], by rw [hU]; exact hPc, va_K.moved hW.alike hKc, hDc.weaken (fun _ _ _ _ => trivial)⟩⟩ rfl rfl hl.1 rfl (lv_room (Nat.le_of_ble_eq_true rfl)) d_Law_law_323 ⟨show 30 + n9 + 1 ≤ 1073 from by omega, show 3463 + 6 * n9 + 6 ≤ 11769 from by omega⟩) hS (fun q _ h => hFc q h) hFc (fun u9 t9 H1 locs ht hvm hwm hB hz1 hk1 hS => ?_)
  obtain ⟨v2, f2, w2⟩ := u9
  obtain ⟨hP1, hK1, hD1⟩ := hB
  rw [ht] at hP1
  obtain ⟨hP, hD⟩ := va_join (wr := (wCo a o cI cZ cJ v1 f1 w1 g1)) (w1 := (wM bb cI v2 f2 w2)) hP hD [16, 17, 18, 19, 20, 21, 22, 23, 24, 25, 26, 27, 28, 29] [0, 1, 2, 3, 4, 5, 6, 7, 8, 9, 10, 11, 12, 13, 14, 15] rfl rfl (by decide) (by decide) hk1 hFc hP1 hD1
  have hP : va_P (dC, dI) vwCl (wL a o bb cI cZ cJ v1 f1 w1 g1 v2 f2 w2) H1 := hP
  have hD : va_D (fun q : Nat => s.heap.size ≤ q) (wL a o bb cI cZ cJ v1 f1 w1 g1 v2 f2 w2) := hD
  generalize H1 = H at hP hS ⊢
  obtain ⟨c9, hc2, hcr, hct, hR2⟩ := m_span hR hw5 hwm
  refine lv_aload_n hx hb d_Law_law_326 rfl (lv_at hl 4 rfl) ?_
  have hKc := hK.sub (tys' := [(cI, .int)]) [0] rfl
  have hPc := hP.sub (ws' := (wM bb cI v2 f2 w2)) [16, 17, 18, 19, 20, 21, 22, 23, 24, 25, 26, 27, 28, 29] rfl
  refine zz_ro (va_runV (As := []) (rest := []) ⟨hx, hb, hml, hown, hz⟩ (c_Model_thrown l dC dI bb cI v2 f2 w2) (cwV (C := "CutLengthsModel") 0 hz (zgV tw_554 tw_555 tw_556 tw_20 tw_557) rfl rfl rfl (by decide +kernel) ⟨Nat.le_of_ble_eq_true rfl, Nat.le_of_ble_eq_true rfl⟩) ⟨(fun a U g mk q => ⟨q.1, q.2.1, va_K.moved (u := U) (U := U.calling g mk a) (Vm.Alike.refl U.vm) q.2.2⟩), va_recv hKc hPc (ci := 5) (q0 := 0) rfl rfl, fun U hU hW => ⟨rfl, by rw [hU]; exact hPc, va_K.moved hW.alike hKc⟩⟩ rfl rfl hl.1 rfl (lv_room (Nat.le_of_ble_eq_true rfl)) d_Law_law_327 ⟨show 30 + n9 + 1 ≤ 1073 from by omega, show 3463 + 6 * n9 + 6 ≤ 11769 from by omega⟩) ?_
  refine lv_iload hx hb d_Law_law_330 (lv_at hl 0 rfl) ?_
  refine lv_icmp_eq (tgt := 337) hx hb d_Law_law_332 (by decide) (fun c_1 => ?_) (fun c_1 => ?_)
  · refine lv_goto (tgt := 841) hx hb d_Law_law_337 (by decide) ?_
    refine W.widen (k := 30 + (n9 + 1)) (n := 3463 + 6 * (n9 + 1)) (by omega) (by omega) ?_
    exact kk v1 f1 w1 v2 f2 w2 g1 H locs ls hR2 hP hD hS (lv_sub hl [1, 2, 3, 4, 5] rfl)
  · exact absurd ((congrArg nI hct).trans hcr.symm) c_1
set_option maxHeartbeats 4000000 in
set_option maxRecDepth 100000 in
theorem law_trim {p : Program} {l : Launch} {e : Env} {s : State} {m : MethodId} {below : List Frame} {meth : Method} {c : Code} {dC : Nat → ClassId} {dI : Nat → Nat → Nat} {b L : Nat} {xs : Nat → Int32} {a bb : Nat → Nat} {o : Nat} {cI cZ cJ : ClassId} (hl9 : l.stackTraces = false) (hL : L ≤ 2048) (C0 : lw_At p s m meth c b L xs) (hX0 : zX (fun q : Nat => s.heap.size ≤ q) s s.heap) (hK : va_K (dC, dI) vwCl [(cI, .int), (cZ, .boolean), (cJ, .long)] s) {v : Nat → Nat} {f : Nat → Nat → Nat} {w : Nat → Nat → Int32} {v' : Nat → Nat} {f' : Nat → Nat → Nat} {w' : Nat → Nat → Int32} {g : Nat → Int64} (hR : zRel v f w v' f' w') {i n9 : Nat} (hi : i + 4 ≤ L) (hn9 : n9 < 512) {H : Heap} {locs : List Loc} (hP : va_P (dC, dI) vwCl (wL a o bb cI cZ cJ v f w g v' f' w') H) (hD : va_D (fun q : Nat => s.heap.size ≤ q) (wL a o bb cI cZ cJ v f w g v' f' w')) (hS : va_S (fun q : Nat => s.heap.size ≤ q) s.heap H locs) {ls : Array Slot} (hl : lv_has ls 8 [(4, .int (nI (i))), (0, .ref (b)), (1, .ref (a 0)), (2, .ref (bb 0)), (3, .ref (o))]) (kk : ∀ (v : Nat → Nat) (f : Nat → Nat → Nat) (w : Nat → Nat → Int32) (v' : Nat → Nat) (f' : Nat → Nat → Nat) (w' : Nat → Nat → Int32) (g : Nat → Int64) (H : Heap) (locs : List Loc) (ls : Array Slot), zRel v f w v' f' w' → va_P (dC, dI) vwCl (wL a o bb cI cZ cJ v f w g v' f' w') H → va_D (fun q : Nat => s.heap.size ≤ q) (wL a o bb cI cZ cJ v f w g v' f' w') → va_S (fun q : Nat => s.heap.size ≤ q) s.heap H locs → lv_has ls 8 [(4, .int (nI (i))), (0, .ref (b)), (1, .ref (a 0)), (2, .ref (bb 0)), (3, .ref (o))] → W p l e room_1 s m #[Value.ref b] below meth c H locs (30 + (n9 + 1)) (3463 + 6 * (n9 + 1)) (lw_Z below #[Value.ref b] s) (F0 m 841 ls [])) : W p l e room_1 s m #[Value.ref b] below meth c H locs (30 + n9) (3463 + 6 * n9) (lw_Z below #[Value.ref b] s) (F0 m 340 ls []) := by
  obtain ⟨hx, hb, hr, hml, hown, hts, hX, hbl, hlocks, hgv⟩ := id C0
  have hz : ∀ w ∈ zW, w.before #[Value.ref b] s = true := fun w h => hts w (zW_tbl h)
  have hown : s.vm.findClass "CutLengthsLaw" = some m.cls := hown
  have hA : ∀ q : Nat, s.heap.size ≤ q → (fun q : Nat => s.heap.size ≤ q) q := fun _ h => h
  have hbA : ¬ (fun q : Nat => s.heap.size ≤ q) b := Nat.not_le.mpr hbl
  refine lv_aload_n hx hb d_Law_law_340 rfl (lv_at hl 2 rfl) ?_
  refine lv_aload_n hx hb d_Law_law_341 rfl (lv_at hl 1 rfl) ?_
  refine lv_iload hx hb d_Law_law_342 (lv_at hl 0 rfl) ?_
  refine lv_iconst (v := nI 1) hx hb d_Law_law_344 (by decide) ?_
  refine lv_iadd hx hb d_Law_law_345 ?_
  refine zz_top (nI_add (i) (1)) ?_
  refine zz_sld hx hb hX hbl hbA hS (k := i + 1) (by omega) (by omega) d_Law_law_346 ?_
  refine lv_aload_n hx hb d_Law_law_347 rfl (lv_at hl 1 rfl) ?_
  refine lv_iload hx hb d_Law_law_348 (lv_at hl 0 rfl) ?_
  refine lv_iconst (v := nI 2) hx hb d_Law_law_350 (by decide) ?_
  refine lv_iadd hx hb d_Law_law_351 ?_
  refine zz_top (nI_add (i) (2)) ?_
  refine zz_sld hx hb hX hbl hbA hS (k := i + 2) (by omega) (by omega) d_Law_law_352 ?_
  have hPc := hP.sub (ws' := (wCo a o cI cZ cJ v f w g)) [0, 1, 2, 3, 4, 5, 6, 7, 8, 9, 10, 11, 12, 13, 14, 15] rfl
  have hDc := hD.sub (ws' := (wCo a o cI cZ cJ v f w g)) [0, 1, 2, 3, 4, 5, 6, 7, 8, 9, 10, 11, 12, 13, 14, 15] (by decide) rfl
  have hFc := va_free (wc := (wCo a o cI cZ cJ v f w g)) hD hS hA [0, 1, 2, 3, 4, 5, 6, 7, 8, 9, 10, 11, 12, 13, 14, 15] rfl
  refine va_calli (vx_runSW (hh := [(0, 6, 9, 15)]) (As := [.ref (a 0), .int (xs (i + 1)), .int (xs (i + 2))]) (rest := []) ⟨hx, hb, hml, hown, hz⟩ (c_Law_trim l hl9 dC dI a o cI cZ cJ v f w g H.size (xs (i + 1)) ((xs (i + 1)).toInt) rfl (xs (i + 2)) ((xs (i + 2)).toInt) rfl hR.1) (vx_cwSW (hh := [(0, 6, 9, 15)]) 3 hz (zgS tw_375 tw_376 tw_14 tw_377) rfl rfl rfl (by decide +kernel) ⟨Nat.le_of_ble_eq_true rfl, Nat.le_of_ble_eq_true rfl⟩) ⟨(fun a U g mk q => by obtain ⟨q0, q1, qP, qK, qD, qX⟩ := q; exact ⟨q0, q1, qP, va_K.moved (u := U) (U := U.calling g mk a) (Vm.Alike.refl U.vm) qK, qD, zX.call qX⟩), fun U hU hW => ⟨rfl, by rw [hU], by rw [hU]; exact hPc, va_K.moved hW.alike hK, hDc.weaken (fun _ _ _ _ => trivial), hX0.go hS hU hW hFc⟩⟩ rfl rfl hl.1 rfl (lv_room (Nat.le_of_ble_eq_true rfl)) d_Law_law_353 ⟨show 30 + n9 + 1 ≤ 1073 from by omega, show 3463 + 6 * n9 + 6 ≤ 11769 from by omega⟩) hS (fun q _ h => hFc q h) hFc (fun r5 u9 t9 H1 locs ht hvm hw5 hB hz1 hk1 hS => ?_)
  obtain ⟨⟨v1, f1, w1⟩, g1⟩ := u9
  obtain ⟨hP1, hK1, hD1⟩ := hB
  rw [ht] at hP1
  obtain ⟨hP, hD⟩ := va_join (wr := (wM bb cI v' f' w')) (w1 := (wCo a o cI cZ cJ v1 f1 w1 g1)) hP hD [0, 1, 2, 3, 4, 5, 6, 7, 8, 9, 10, 11, 12, 13, 14, 15] [16, 17, 18, 19, 20, 21, 22, 23, 24, 25, 26, 27, 28, 29] rfl rfl (by decide) (by decide) hk1 hFc hP1 hD1
  have hP := hP.sub (ws' := (wL a o bb cI cZ cJ v1 f1 w1 g1 v' f' w')) [14, 15, 16, 17, 18, 19, 20, 21, 22, 23, 24, 25, 26, 27, 28, 29, 0, 1, 2, 3, 4, 5, 6, 7, 8, 9, 10, 11, 12, 13] rfl
  have hD := hD.sub (ws' := (wL a o bb cI cZ cJ v1 f1 w1 g1 v' f' w')) [14, 15, 16, 17, 18, 19, 20, 21, 22, 23, 24, 25, 26, 27, 28, 29, 0, 1, 2, 3, 4, 5, 6, 7, 8, 9, 10, 11, 12, 13] (by decide) rfl
  generalize H1 = H at hP hS ⊢
  refine lv_istore (lv' := [(5, .int (r5)), (4, .int (nI (i))), (0, .ref (b)), (1, .ref (a 0)), (2, .ref (bb 0)), (3, .ref (o))]) hx hb d_Law_law_356 hl (by decide) rfl (fun ls hl => ?_)
  refine lv_aload_n hx hb d_Law_law_358 rfl (lv_at hl 4 rfl) ?_
  refine lv_aload_n hx hb d_Law_law_359 rfl (lv_at hl 2 rfl) ?_
  refine lv_iload hx hb d_Law_law_360 (lv_at hl 1 rfl) ?_
  refine lv_iconst (v := nI 1) hx hb d_Law_law_362 (by decide) ?_
  refine lv_iadd hx hb d_Law_law_363 ?_
  refine zz_top (nI_add (i) (1)) ?_
  refine zz_sld hx hb hX hbl hbA hS (k := i + 1) (by omega) (by omega) d_Law_law_364 ?_
  refine lv_aload_n hx hb d_Law_law_365 rfl (lv_at hl 2 rfl) ?_
  refine lv_iload hx hb d_Law_law_366 (lv_at hl 1 rfl) ?_
  refine lv_iconst (v := nI 2) hx hb d_Law_law_368 (by decide) ?_
  refine lv_iadd hx hb d_Law_law_369 ?_
  refine zz_top (nI_add (i) (2)) ?_
  refine zz_sld hx hb hX hbl hbA hS (k := i + 2) (by omega) (by omega) d_Law_law_370 ?_
  have hKc := hK.sub (tys' := [(cI, .int)]) [0] rfl
  have hPc := hP.sub (ws' := (wM bb cI v' f' w')) [16, 17, 18, 19, 20, 21, 22, 23, 24, 25, 26, 27, 28, 29] rfl
  have hDc := hD.sub (ws' := (wM bb cI v' f' w')) [16, 17, 18, 19, 20, 21, 22, 23, 24, 25, 26, 27, 28, 29] (by decide) rfl
  have hFc := va_free (wc := (wM bb cI v' f' w')) hD hS hA [16, 17, 18, 19, 20, 21, 22, 23, 24, 25, 26, 27, 28, 29] rfl
  refine va_callv (va_runV (As := [.int (xs (i + 1)), .int (xs (i + 2))]) (rest := []) ⟨hx, hb, hml, hown, hz⟩ (c_Model_trim l dC dI bb cI v' f' w' H.size (xs (i + 1)) ((xs (i + 1)).toInt) rfl (xs (i + 2)) ((xs (i + 2)).toInt) rfl hR.2.1) (cwV (C := "CutLengthsModel") 2 hz (zgV tw_586 tw_587 tw_588 tw_20 tw_589) rfl rfl rfl (by decide +kernel) ⟨Nat.le_of_ble_eq_true rfl, Nat.le_of_ble_eq_true rfl⟩) ⟨(fun a U g mk q => by obtain ⟨q0, q1, qP, qK, qD⟩ := q; exact ⟨q0, q1, qP, va_K.moved (u := U) (U := U.calling g mk a) (Vm.Alike.refl U.vm) qK, qD⟩), va_recv hKc hPc (ci := 5) (q0 := 0) rfl rfl, fun U hU hW => ⟨rfl, by rw [hU], by rw [hU]; exact hPc, va_K.moved hW.alike hKc, hDc.weaken (fun _ _ _ _ => trivial)⟩⟩ rfl rfl hl.1 rfl (lv_room (Nat.le_of_ble_eq_true rfl)) d_Law_law_371 ⟨show 30 + n9 + 1 ≤ 1073 from by omega, show 3463 + 6 * n9 + 6 ≤ 11769 from by omega⟩) hS (fun q _ h => hFc q h) hFc (fun u9 t9 H1 locs ht hvm hwm hB hz1 hk1 hS => ?_)
  obtain ⟨v2, f2, w2⟩ := u9
  obtain ⟨hP1, hK1, hD1⟩ := hB
  rw [ht] at hP1
  obtain ⟨hP, hD⟩ := va_join (wr := (wCo a o cI cZ cJ v1 f1 w1 g1)) (w1 := (wM bb cI v2 f2 w2)) hP hD [16, 17, 18, 19, 20, 21, 22, 23, 24, 25, 26, 27, 28, 29] [0, 1, 2, 3, 4, 5, 6, 7, 8, 9, 10, 11, 12, 13, 14, 15] rfl rfl (by decide) (by decide) hk1 hFc hP1 hD1
  have hP : va_P (dC, dI) vwCl (wL a o bb cI cZ cJ v1 f1 w1 g1 v2 f2 w2) H1 := hP
  have hD : va_D (fun q : Nat => s.heap.size ≤ q) (wL a o bb cI cZ cJ v1 f1 w1 g1 v2 f2 w2) := hD
  generalize H1 = H at hP hS ⊢
  obtain ⟨c9, hc2, hcr, hct, hR2⟩ := m_trim hR hw5 hwm
  refine lv_aload_n hx hb d_Law_law_374 rfl (lv_at hl 4 rfl) ?_
  have hKc := hK.sub (tys' := [(cI, .int)]) [0] rfl
  have hPc := hP.sub (ws' := (wM bb cI v2 f2 w2)) [16, 17, 18, 19, 20, 21, 22, 23, 24, 25, 26, 27, 28, 29] rfl
  refine zz_ro (va_runV (As := []) (rest := []) ⟨hx, hb, hml, hown, hz⟩ (c_Model_thrown l dC dI bb cI v2 f2 w2) (cwV (C := "CutLengthsModel") 0 hz (zgV tw_554 tw_555 tw_556 tw_20 tw_557) rfl rfl rfl (by decide +kernel) ⟨Nat.le_of_ble_eq_true rfl, Nat.le_of_ble_eq_true rfl⟩) ⟨(fun a U g mk q => ⟨q.1, q.2.1, va_K.moved (u := U) (U := U.calling g mk a) (Vm.Alike.refl U.vm) q.2.2⟩), va_recv hKc hPc (ci := 5) (q0 := 0) rfl rfl, fun U hU hW => ⟨rfl, by rw [hU]; exact hPc, va_K.moved hW.alike hKc⟩⟩ rfl rfl hl.1 rfl (lv_room (Nat.le_of_ble_eq_true rfl)) d_Law_law_375 ⟨show 30 + n9 + 1 ≤ 1073 from by omega, show 3463 + 6 * n9 + 6 ≤ 11769 from by omega⟩) ?_
  refine lv_iload hx hb d_Law_law_378 (lv_at hl 0 rfl) ?_
  refine lv_icmp_eq (tgt := 385) hx hb d_Law_law_380 (by decide) (fun c_1 => ?_) (fun c_1 => ?_)
  · refine lv_goto (tgt := 841) hx hb d_Law_law_385 (by decide) ?_
    refine W.widen (k := 30 + (n9 + 1)) (n := 3463 + 6 * (n9 + 1)) (by omega) (by omega) ?_
    exact kk v1 f1 w1 v2 f2 w2 g1 H locs ls hR2 hP hD hS (lv_sub hl [1, 2, 3, 4, 5] rfl)
  · exact absurd ((congrArg nI hct).trans hcr.symm) c_1
set_option maxHeartbeats 4000000 in
set_option maxRecDepth 100000 in
theorem law_bad {p : Program} {l : Launch} {e : Env} {s : State} {m : MethodId} {below : List Frame} {meth : Method} {c : Code} {dC : Nat → ClassId} {dI : Nat → Nat → Nat} {b L : Nat} {xs : Nat → Int32} {a bb : Nat → Nat} {o : Nat} {cI cZ cJ : ClassId} (hl9 : l.stackTraces = false) (hL : L ≤ 2048) (C0 : lw_At p s m meth c b L xs) (hX0 : zX (fun q : Nat => s.heap.size ≤ q) s s.heap) (hK : va_K (dC, dI) vwCl [(cI, .int), (cZ, .boolean), (cJ, .long)] s) {v : Nat → Nat} {f : Nat → Nat → Nat} {w : Nat → Nat → Int32} {v' : Nat → Nat} {f' : Nat → Nat → Nat} {w' : Nat → Nat → Int32} {g : Nat → Int64} (hR : zRel v f w v' f' w') {i n9 : Nat} (hi : i + 4 ≤ L) (hn9 : n9 < 512) {H : Heap} {locs : List Loc} (hP : va_P (dC, dI) vwCl (wL a o bb cI cZ cJ v f w g v' f' w') H) (hD : va_D (fun q : Nat => s.heap.size ≤ q) (wL a o bb cI cZ cJ v f w g v' f' w')) (hS : va_S (fun q : Nat => s.heap.size ≤ q) s.heap H locs) {ls : Array Slot} (hl : lv_has ls 8 [(4, .int (nI (i))), (0, .ref (b)), (1, .ref (a 0)), (2, .ref (bb 0)), (3, .ref (o))]) (kk : ∀ (v : Nat → Nat) (f : Nat → Nat → Nat) (w : Nat → Nat → Int32) (v' : Nat → Nat) (f' : Nat → Nat → Nat) (w' : Nat → Nat → Int32) (g : Nat → Int64) (H : Heap) (locs : List Loc) (ls : Array Slot), zRel v f w v' f' w' → va_P (dC, dI) vwCl (wL a o bb cI cZ cJ v f w g v' f' w') H → va_D (fun q : Nat => s.heap.size ≤ q) (wL a o bb cI cZ cJ v f w g v' f' w') → va_S (fun q : Nat => s.heap.size ≤ q) s.heap H locs → lv_has ls 8 [(4, .int (nI (i))), (0, .ref (b)), (1, .ref (a 0)), (2, .ref (bb 0)), (3, .ref (o))] → W p l e room_1 s m #[Value.ref b] below meth c H locs (30 + (n9 + 1)) (3463 + 6 * (n9 + 1)) (lw_Z below #[Value.ref b] s) (F0 m 841 ls [])) : W p l e room_1 s m #[Value.ref b] below meth c H locs (30 + n9) (3463 + 6 * n9) (lw_Z below #[Value.ref b] s) (F0 m 388 ls []) := by
  obtain ⟨hx, hb, hr, hml, hown, hts, hX, hbl, hlocks, hgv⟩ := id C0
  have hz : ∀ w ∈ zW, w.before #[Value.ref b] s = true := fun w h => hts w (zW_tbl h)
  have hown : s.vm.findClass "CutLengthsLaw" = some m.cls := hown
  have hA : ∀ q : Nat, s.heap.size ≤ q → (fun q : Nat => s.heap.size ≤ q) q := fun _ h => h
  have hbA : ¬ (fun q : Nat => s.heap.size ≤ q) b := Nat.not_le.mpr hbl
  refine lv_aload_n hx hb d_Law_law_388 rfl (lv_at hl 2 rfl) ?_
  refine lv_aload_n hx hb d_Law_law_389 rfl (lv_at hl 1 rfl) ?_
  refine lv_iload hx hb d_Law_law_390 (lv_at hl 0 rfl) ?_
  refine lv_iconst (v := nI 1) hx hb d_Law_law_392 (by decide) ?_
  refine lv_iadd hx hb d_Law_law_393 ?_
  refine zz_top (nI_add (i) (1)) ?_
  refine zz_sld hx hb hX hbl hbA hS (k := i + 1) (by omega) (by omega) d_Law_law_394 ?_
  refine lv_aload_n hx hb d_Law_law_395 rfl (lv_at hl 1 rfl) ?_
  refine lv_iload hx hb d_Law_law_396 (lv_at hl 0 rfl) ?_
  refine lv_iconst (v := nI 2) hx hb d_Law_law_398 (by decide) ?_
  refine lv_iadd hx hb d_Law_law_399 ?_
  refine zz_top (nI_add (i) (2)) ?_
  refine zz_sld hx hb hX hbl hbA hS (k := i + 2) (by omega) (by omega) d_Law_law_400 ?_
  refine lv_aload_n hx hb d_Law_law_401 rfl (lv_at hl 4 rfl) ?_
  have hPc := hP.sub (ws' := (wCo a o cI cZ cJ v f w g)) [0, 1, 2, 3, 4, 5, 6, 7, 8, 9, 10, 11, 12, 13, 14, 15] rfl
  have hDc := hD.sub (ws' := (wCo a o cI cZ cJ v f w g)) [0, 1, 2, 3, 4, 5, 6, 7, 8, 9, 10, 11, 12, 13, 14, 15] (by decide) rfl
  have hFc := va_free (wc := (wCo a o cI cZ cJ v f w g)) hD hS hA [0, 1, 2, 3, 4, 5, 6, 7, 8, 9, 10, 11, 12, 13, 14, 15] rfl
  refine va_calli (vx_runSW (hh := [(0, 10, 13, 13), (0, 10, 17, 15)]) (As := [.ref (a 0), .int (xs (i + 1)), .int (xs (i + 2)), .ref (o)]) (rest := []) ⟨hx, hb, hml, hown, hz⟩ (c_Law_bad l hl9 dC dI a o cI cZ cJ v f w g H.size (xs (i + 1)) ((xs (i + 1)).toInt) rfl (xs (i + 2)) ((xs (i + 2)).toInt) rfl hR.1) (vx_cwSW (hh := [(0, 10, 13, 13), (0, 10, 17, 15)]) 4 hz (zgS tw_383 tw_384 tw_14 tw_385) rfl rfl rfl (by decide +kernel) ⟨Nat.le_of_ble_eq_true rfl, Nat.le_of_ble_eq_true rfl⟩) ⟨(fun a U g mk q => by obtain ⟨q0, q1, qP, qK, qD, qX⟩ := q; exact ⟨q0, q1, qP, va_K.moved (u := U) (U := U.calling g mk a) (Vm.Alike.refl U.vm) qK, qD, zX.call qX⟩), fun U hU hW => ⟨rfl, by rw [hU], by rw [hU]; exact hPc, va_K.moved hW.alike hK, hDc.weaken (fun _ _ _ _ => trivial), hX0.go hS hU hW hFc⟩⟩ rfl rfl hl.1 rfl (lv_room (Nat.le_of_ble_eq_true rfl)) d_Law_law_402 ⟨show 30 + n9 + 1 ≤ 1073 from by omega, show 3463 + 6 * n9 + 6 ≤ 11769 from by omega⟩) hS (fun q _ h => hFc q h) hFc (fun r5 u9 t9 H1 locs ht hvm hw5 hB hz1 hk1 hS => ?_)
  obtain ⟨⟨v1, f1, w1⟩, g1⟩ := u9
  obtain ⟨hP1, hK1, hD1⟩ := hB
  rw [ht] at hP1
  obtain ⟨hP, hD⟩ := va_join (wr := (wM bb cI v' f' w')) (w1 := (wCo a o cI cZ cJ v1 f1 w1 g1)) hP hD [0, 1, 2, 3, 4, 5, 6, 7, 8, 9, 10, 11, 12, 13, 14, 15] [16, 17, 18, 19, 20, 21, 22, 23, 24, 25, 26, 27, 28, 29] rfl rfl (by decide) (by decide) hk1 hFc hP1 hD1
  have hP := hP.sub (ws' := (wL a o bb cI cZ cJ v1 f1 w1 g1 v' f' w')) [14, 15, 16, 17, 18, 19, 20, 21, 22, 23, 24, 25, 26, 27, 28, 29, 0, 1, 2, 3, 4, 5, 6, 7, 8, 9, 10, 11, 12, 13] rfl
  have hD := hD.sub (ws' := (wL a o bb cI cZ cJ v1 f1 w1 g1 v' f' w')) [14, 15, 16, 17, 18, 19, 20, 21, 22, 23, 24, 25, 26, 27, 28, 29, 0, 1, 2, 3, 4, 5, 6, 7, 8, 9, 10, 11, 12, 13] (by decide) rfl
  generalize H1 = H at hP hS ⊢
  refine lv_istore (lv' := [(5, .int (r5)), (4, .int (nI (i))), (0, .ref (b)), (1, .ref (a 0)), (2, .ref (bb 0)), (3, .ref (o))]) hx hb d_Law_law_405 hl (by decide) rfl (fun ls hl => ?_)
  refine lv_aload_n hx hb d_Law_law_407 rfl (lv_at hl 4 rfl) ?_
  refine lv_aload_n hx hb d_Law_law_408 rfl (lv_at hl 2 rfl) ?_
  refine lv_iload hx hb d_Law_law_409 (lv_at hl 1 rfl) ?_
  refine lv_iconst (v := nI 1) hx hb d_Law_law_411 (by decide) ?_
  refine lv_iadd hx hb d_Law_law_412 ?_
  refine zz_top (nI_add (i) (1)) ?_
  refine zz_sld hx hb hX hbl hbA hS (k := i + 1) (by omega) (by omega) d_Law_law_413 ?_
  refine lv_aload_n hx hb d_Law_law_414 rfl (lv_at hl 2 rfl) ?_
  refine lv_iload hx hb d_Law_law_415 (lv_at hl 1 rfl) ?_
  refine lv_iconst (v := nI 2) hx hb d_Law_law_417 (by decide) ?_
  refine lv_iadd hx hb d_Law_law_418 ?_
  refine zz_top (nI_add (i) (2)) ?_
  refine zz_sld hx hb hX hbl hbA hS (k := i + 2) (by omega) (by omega) d_Law_law_419 ?_
  have hKc := hK.sub (tys' := [(cI, .int)]) [0] rfl
  have hPc := hP.sub (ws' := (wM bb cI v' f' w')) [16, 17, 18, 19, 20, 21, 22, 23, 24, 25, 26, 27, 28, 29] rfl
  have hDc := hD.sub (ws' := (wM bb cI v' f' w')) [16, 17, 18, 19, 20, 21, 22, 23, 24, 25, 26, 27, 28, 29] (by decide) rfl
  have hFc := va_free (wc := (wM bb cI v' f' w')) hD hS hA [16, 17, 18, 19, 20, 21, 22, 23, 24, 25, 26, 27, 28, 29] rfl
  refine va_calli (va_runV (As := [.int (xs (i + 1)), .int (xs (i + 2))]) (rest := []) ⟨hx, hb, hml, hown, hz⟩ (c_Model_bad l dC dI bb cI v' f' w' H.size (xs (i + 1)) ((xs (i + 1)).toInt) rfl (xs (i + 2)) ((xs (i + 2)).toInt) rfl hR.2.1) (cwV (C := "CutLengthsModel") 2 hz (zgV tw_590 tw_591 tw_592 tw_20 tw_593) rfl rfl rfl (by decide +kernel) ⟨Nat.le_of_ble_eq_true rfl, Nat.le_of_ble_eq_true rfl⟩) ⟨(fun a U g mk q => by obtain ⟨q0, q1, qP, qK, qD⟩ := q; exact ⟨q0, q1, qP, va_K.moved (u := U) (U := U.calling g mk a) (Vm.Alike.refl U.vm) qK, qD⟩), va_recv hKc hPc (ci := 5) (q0 := 0) rfl rfl, fun U hU hW => ⟨rfl, by rw [hU], by rw [hU]; exact hPc, va_K.moved hW.alike hKc, hDc.weaken (fun _ _ _ _ => trivial)⟩⟩ rfl rfl hl.1 rfl (lv_room (Nat.le_of_ble_eq_true rfl)) d_Law_law_420 ⟨show 30 + n9 + 1 ≤ 1073 from by omega, show 3463 + 6 * n9 + 6 ≤ 11769 from by omega⟩) hS (fun q _ h => hFc q h) hFc (fun r6 u9 t9 H1 locs ht hvm hwm hB hz1 hk1 hS => ?_)
  obtain ⟨v2, f2, w2⟩ := u9
  obtain ⟨hP1, hK1, hD1⟩ := hB
  rw [ht] at hP1
  obtain ⟨hP, hD⟩ := va_join (wr := (wCo a o cI cZ cJ v1 f1 w1 g1)) (w1 := (wM bb cI v2 f2 w2)) hP hD [16, 17, 18, 19, 20, 21, 22, 23, 24, 25, 26, 27, 28, 29] [0, 1, 2, 3, 4, 5, 6, 7, 8, 9, 10, 11, 12, 13, 14, 15] rfl rfl (by decide) (by decide) hk1 hFc hP1 hD1
  have hP : va_P (dC, dI) vwCl (wL a o bb cI cZ cJ v1 f1 w1 g1 v2 f2 w2) H1 := hP
  have hD : va_D (fun q : Nat => s.heap.size ≤ q) (wL a o bb cI cZ cJ v1 f1 w1 g1 v2 f2 w2) := hD
  generalize H1 = H at hP hS ⊢
  obtain ⟨c9, hc2, hcr, hct, hR2, hans⟩ := m_bad hR hw5 hwm
  refine lv_istore (lv' := [(6, .int (r6)), (5, .int (r5)), (4, .int (nI (i))), (0, .ref (b)), (1, .ref (a 0)), (2, .ref (bb 0)), (3, .ref (o))]) hx hb d_Law_law_423 hl (by decide) rfl (fun ls hl => ?_)
  refine lv_aload_n hx hb d_Law_law_425 rfl (lv_at hl 5 rfl) ?_
  have hKc := hK.sub (tys' := [(cI, .int)]) [0] rfl
  have hPc := hP.sub (ws' := (wM bb cI v2 f2 w2)) [16, 17, 18, 19, 20, 21, 22, 23, 24, 25, 26, 27, 28, 29] rfl
  refine zz_ro (va_runV (As := []) (rest := []) ⟨hx, hb, hml, hown, hz⟩ (c_Model_thrown l dC dI bb cI v2 f2 w2) (cwV (C := "CutLengthsModel") 0 hz (zgV tw_554 tw_555 tw_556 tw_20 tw_557) rfl rfl rfl (by decide +kernel) ⟨Nat.le_of_ble_eq_true rfl, Nat.le_of_ble_eq_true rfl⟩) ⟨(fun a U g mk q => ⟨q.1, q.2.1, va_K.moved (u := U) (U := U.calling g mk a) (Vm.Alike.refl U.vm) q.2.2⟩), va_recv hKc hPc (ci := 5) (q0 := 0) rfl rfl, fun U hU hW => ⟨rfl, by rw [hU]; exact hPc, va_K.moved hW.alike hKc⟩⟩ rfl rfl hl.1 rfl (lv_room (Nat.le_of_ble_eq_true rfl)) d_Law_law_426 ⟨show 30 + n9 + 1 ≤ 1073 from by omega, show 3463 + 6 * n9 + 6 ≤ 11769 from by omega⟩) ?_
  refine lv_iload hx hb d_Law_law_429 (lv_at hl 1 rfl) ?_
  refine lv_icmp_eq (tgt := 436) hx hb d_Law_law_431 (by decide) (fun c_1 => ?_) (fun c_1 => ?_)
  · refine lv_iload hx hb d_Law_law_436 (lv_at hl 1 rfl) ?_
    refine lv_if_ne (tgt := 453) hx hb d_Law_law_438 (by decide) (fun c_2 => ?_) (fun c_2 => ?_)
    · refine lv_goto (tgt := 841) hx hb d_Law_law_453 (by decide) ?_
      refine W.widen (k := 30 + (n9 + 1)) (n := 3463 + 6 * (n9 + 1)) (by omega) (by omega) ?_
      exact kk v1 f1 w1 v2 f2 w2 g1 H locs ls hR2 hP hD hS (lv_sub hl [2, 3, 4, 5, 6] rfl)
    · have hc0 : c9 = 0 := (zz_zero (by omega)).mp (hcr.symm.trans c_2)
      refine lv_aload_n hx hb d_Law_law_441 rfl (lv_at hl 6 rfl) ?_
      refine lv_iconst (v := nI 0) hx hb d_Law_law_442 (by decide) ?_
      refine va_lald hx hb hK hP 15 2 (f := g1) rfl rfl (vp_in_nI (by decide) (by decide)) d_Law_law_443 ?_
      refine zz_topl (show g1 (nI 0).toNatClampNeg = r6.toInt64 from by rw [nI_clamp (by decide)]; exact hans hc0) ?_
      refine lv_iload hx hb d_Law_law_444 (lv_at hl 0 rfl) ?_
      refine lv_i2l (v := (r6).toInt64) hx hb d_Law_law_446 rfl ?_
      refine W.lcmp hx hb d_Law_law_447 ?_
      refine zz_top (zz_cmp _) ?_
      refine lv_if_eq (tgt := 453) hx hb d_Law_law_448 (by decide) (fun _ => ?_) (fun c9 => absurd rfl c9)
      refine lv_goto (tgt := 841) hx hb d_Law_law_453 (by decide) ?_
      refine W.widen (k := 30 + (n9 + 1)) (n := 3463 + 6 * (n9 + 1)) (by omega) (by omega) ?_
      exact kk v1 f1 w1 v2 f2 w2 g1 H locs ls hR2 hP hD hS (lv_sub hl [2, 3, 4, 5, 6] rfl)
  · exact absurd ((congrArg nI hct).trans hcr.symm) c_1
set_option maxHeartbeats 4000000 in
set_option maxRecDepth 100000 in
theorem law_bar {p : Program} {l : Launch} {e : Env} {s : State} {m : MethodId} {below : List Frame} {meth : Method} {c : Code} {dC : Nat → ClassId} {dI : Nat → Nat → Nat} {b L : Nat} {xs : Nat → Int32} {a bb : Nat → Nat} {o : Nat} {cI cZ cJ : ClassId} (hl9 : l.stackTraces = false) (hL : L ≤ 2048) (C0 : lw_At p s m meth c b L xs) (hX0 : zX (fun q : Nat => s.heap.size ≤ q) s s.heap) (hK : va_K (dC, dI) vwCl [(cI, .int), (cZ, .boolean), (cJ, .long)] s) {v : Nat → Nat} {f : Nat → Nat → Nat} {w : Nat → Nat → Int32} {v' : Nat → Nat} {f' : Nat → Nat → Nat} {w' : Nat → Nat → Int32} {g : Nat → Int64} (hR : zRel v f w v' f' w') {i n9 : Nat} (hi : i + 4 ≤ L) (hn9 : n9 < 512) {H : Heap} {locs : List Loc} (hP : va_P (dC, dI) vwCl (wL a o bb cI cZ cJ v f w g v' f' w') H) (hD : va_D (fun q : Nat => s.heap.size ≤ q) (wL a o bb cI cZ cJ v f w g v' f' w')) (hS : va_S (fun q : Nat => s.heap.size ≤ q) s.heap H locs) {ls : Array Slot} (hl : lv_has ls 8 [(4, .int (nI (i))), (0, .ref (b)), (1, .ref (a 0)), (2, .ref (bb 0)), (3, .ref (o))]) (kk : ∀ (v : Nat → Nat) (f : Nat → Nat → Nat) (w : Nat → Nat → Int32) (v' : Nat → Nat) (f' : Nat → Nat → Nat) (w' : Nat → Nat → Int32) (g : Nat → Int64) (H : Heap) (locs : List Loc) (ls : Array Slot), zRel v f w v' f' w' → va_P (dC, dI) vwCl (wL a o bb cI cZ cJ v f w g v' f' w') H → va_D (fun q : Nat => s.heap.size ≤ q) (wL a o bb cI cZ cJ v f w g v' f' w') → va_S (fun q : Nat => s.heap.size ≤ q) s.heap H locs → lv_has ls 8 [(4, .int (nI (i))), (0, .ref (b)), (1, .ref (a 0)), (2, .ref (bb 0)), (3, .ref (o))] → W p l e room_1 s m #[Value.ref b] below meth c H locs (30 + (n9 + 1)) (3463 + 6 * (n9 + 1)) (lw_Z below #[Value.ref b] s) (F0 m 841 ls [])) : W p l e room_1 s m #[Value.ref b] below meth c H locs (30 + n9) (3463 + 6 * n9) (lw_Z below #[Value.ref b] s) (F0 m 456 ls []) := by
  obtain ⟨hx, hb, hr, hml, hown, hts, hX, hbl, hlocks, hgv⟩ := id C0
  have hz : ∀ w ∈ zW, w.before #[Value.ref b] s = true := fun w h => hts w (zW_tbl h)
  have hown : s.vm.findClass "CutLengthsLaw" = some m.cls := hown
  have hA : ∀ q : Nat, s.heap.size ≤ q → (fun q : Nat => s.heap.size ≤ q) q := fun _ h => h
  have hbA : ¬ (fun q : Nat => s.heap.size ≤ q) b := Nat.not_le.mpr hbl
  refine lv_aload_n hx hb d_Law_law_456 rfl (lv_at hl 2 rfl) ?_
  refine lv_aload_n hx hb d_Law_law_457 rfl (lv_at hl 1 rfl) ?_
  refine lv_iload hx hb d_Law_law_458 (lv_at hl 0 rfl) ?_
  refine lv_iconst (v := nI 1) hx hb d_Law_law_460 (by decide) ?_
  refine lv_iadd hx hb d_Law_law_461 ?_
  refine zz_top (nI_add (i) (1)) ?_
  refine zz_sld hx hb hX hbl hbA hS (k := i + 1) (by omega) (by omega) d_Law_law_462 ?_
  refine lv_aload_n hx hb d_Law_law_463 rfl (lv_at hl 1 rfl) ?_
  refine lv_iload hx hb d_Law_law_464 (lv_at hl 0 rfl) ?_
  refine lv_iconst (v := nI 2) hx hb d_Law_law_466 (by decide) ?_
  refine lv_iadd hx hb d_Law_law_467 ?_
  refine zz_top (nI_add (i) (2)) ?_
  refine zz_sld hx hb hX hbl hbA hS (k := i + 2) (by omega) (by omega) d_Law_law_468 ?_
  refine lv_aload_n hx hb d_Law_law_469 rfl (lv_at hl 4 rfl) ?_
  have hPc := hP.sub (ws' := (wCo a o cI cZ cJ v f w g)) [0, 1, 2, 3, 4, 5, 6, 7, 8, 9, 10, 11, 12, 13, 14, 15] rfl
  have hDc := hD.sub (ws' := (wCo a o cI cZ cJ v f w g)) [0, 1, 2, 3, 4, 5, 6, 7, 8, 9, 10, 11, 12, 13, 14, 15] (by decide) rfl
  have hFc := va_free (wc := (wCo a o cI cZ cJ v f w g)) hD hS hA [0, 1, 2, 3, 4, 5, 6, 7, 8, 9, 10, 11, 12, 13, 14, 15] rfl
  refine va_calli (vx_runSW (hh := [(0, 10, 13, 13), (0, 10, 17, 15)]) (As := [.ref (a 0), .int (xs (i + 1)), .int (xs (i + 2)), .ref (o)]) (rest := []) ⟨hx, hb, hml, hown, hz⟩ (c_Law_bar l hl9 dC dI a o cI cZ cJ v f w g H.size (xs (i + 1)) ((xs (i + 1)).toInt) rfl (xs (i + 2)) ((xs (i + 2)).toInt) rfl hR.1) (vx_cwSW (hh := [(0, 10, 13, 13), (0, 10, 17, 15)]) 4 hz (zgS tw_399 tw_400 tw_14 tw_401) rfl rfl rfl (by decide +kernel) ⟨Nat.le_of_ble_eq_true rfl, Nat.le_of_ble_eq_true rfl⟩) ⟨(fun a U g mk q => by obtain ⟨q0, q1, qP, qK, qD, qX⟩ := q; exact ⟨q0, q1, qP, va_K.moved (u := U) (U := U.calling g mk a) (Vm.Alike.refl U.vm) qK, qD, zX.call qX⟩), fun U hU hW => ⟨rfl, by rw [hU], by rw [hU]; exact hPc, va_K.moved hW.alike hK, hDc.weaken (fun _ _ _ _ => trivial), hX0.go hS hU hW hFc⟩⟩ rfl rfl hl.1 rfl (lv_room (Nat.le_of_ble_eq_true rfl)) d_Law_law_470 ⟨show 30 + n9 + 1 ≤ 1073 from by omega, show 3463 + 6 * n9 + 6 ≤ 11769 from by omega⟩) hS (fun q _ h => hFc q h) hFc (fun r5 u9 t9 H1 locs ht hvm hw5 hB hz1 hk1 hS => ?_)
  obtain ⟨⟨v1, f1, w1⟩, g1⟩ := u9
  obtain ⟨hP1, hK1, hD1⟩ := hB
  rw [ht] at hP1
  obtain ⟨hP, hD⟩ := va_join (wr := (wM bb cI v' f' w')) (w1 := (wCo a o cI cZ cJ v1 f1 w1 g1)) hP hD [0, 1, 2, 3, 4, 5, 6, 7, 8, 9, 10, 11, 12, 13, 14, 15] [16, 17, 18, 19, 20, 21, 22, 23, 24, 25, 26, 27, 28, 29] rfl rfl (by decide) (by decide) hk1 hFc hP1 hD1
  have hP := hP.sub (ws' := (wL a o bb cI cZ cJ v1 f1 w1 g1 v' f' w')) [14, 15, 16, 17, 18, 19, 20, 21, 22, 23, 24, 25, 26, 27, 28, 29, 0, 1, 2, 3, 4, 5, 6, 7, 8, 9, 10, 11, 12, 13] rfl
  have hD := hD.sub (ws' := (wL a o bb cI cZ cJ v1 f1 w1 g1 v' f' w')) [14, 15, 16, 17, 18, 19, 20, 21, 22, 23, 24, 25, 26, 27, 28, 29, 0, 1, 2, 3, 4, 5, 6, 7, 8, 9, 10, 11, 12, 13] (by decide) rfl
  generalize H1 = H at hP hS ⊢
  refine lv_istore (lv' := [(5, .int (r5)), (4, .int (nI (i))), (0, .ref (b)), (1, .ref (a 0)), (2, .ref (bb 0)), (3, .ref (o))]) hx hb d_Law_law_473 hl (by decide) rfl (fun ls hl => ?_)
  refine lv_aload_n hx hb d_Law_law_475 rfl (lv_at hl 4 rfl) ?_
  refine lv_aload_n hx hb d_Law_law_476 rfl (lv_at hl 2 rfl) ?_
  refine lv_iload hx hb d_Law_law_477 (lv_at hl 1 rfl) ?_
  refine lv_iconst (v := nI 1) hx hb d_Law_law_479 (by decide) ?_
  refine lv_iadd hx hb d_Law_law_480 ?_
  refine zz_top (nI_add (i) (1)) ?_
  refine zz_sld hx hb hX hbl hbA hS (k := i + 1) (by omega) (by omega) d_Law_law_481 ?_
  refine lv_aload_n hx hb d_Law_law_482 rfl (lv_at hl 2 rfl) ?_
  refine lv_iload hx hb d_Law_law_483 (lv_at hl 1 rfl) ?_
  refine lv_iconst (v := nI 2) hx hb d_Law_law_485 (by decide) ?_
  refine lv_iadd hx hb d_Law_law_486 ?_
  refine zz_top (nI_add (i) (2)) ?_
  refine zz_sld hx hb hX hbl hbA hS (k := i + 2) (by omega) (by omega) d_Law_law_487 ?_
  have hKc := hK.sub (tys' := [(cI, .int)]) [0] rfl
  have hPc := hP.sub (ws' := (wM bb cI v' f' w')) [16, 17, 18, 19, 20, 21, 22, 23, 24, 25, 26, 27, 28, 29] rfl
  have hDc := hD.sub (ws' := (wM bb cI v' f' w')) [16, 17, 18, 19, 20, 21, 22, 23, 24, 25, 26, 27, 28, 29] (by decide) rfl
  have hFc := va_free (wc := (wM bb cI v' f' w')) hD hS hA [16, 17, 18, 19, 20, 21, 22, 23, 24, 25, 26, 27, 28, 29] rfl
  refine va_calli (va_runV (As := [.int (xs (i + 1)), .int (xs (i + 2))]) (rest := []) ⟨hx, hb, hml, hown, hz⟩ (c_Model_bar l dC dI bb cI v' f' w' H.size (xs (i + 1)) ((xs (i + 1)).toInt) rfl (xs (i + 2)) ((xs (i + 2)).toInt) rfl hR.2.1) (cwV (C := "CutLengthsModel") 2 hz (zgV tw_597 tw_598 tw_599 tw_20 tw_600) rfl rfl rfl (by decide +kernel) ⟨Nat.le_of_ble_eq_true rfl, Nat.le_of_ble_eq_true rfl⟩) ⟨(fun a U g mk q => by obtain ⟨q0, q1, qP, qK, qD⟩ := q; exact ⟨q0, q1, qP, va_K.moved (u := U) (U := U.calling g mk a) (Vm.Alike.refl U.vm) qK, qD⟩), va_recv hKc hPc (ci := 5) (q0 := 0) rfl rfl, fun U hU hW => ⟨rfl, by rw [hU], by rw [hU]; exact hPc, va_K.moved hW.alike hKc, hDc.weaken (fun _ _ _ _ => trivial)⟩⟩ rfl rfl hl.1 rfl (lv_room (Nat.le_of_ble_eq_true rfl)) d_Law_law_488 ⟨show 30 + n9 + 1 ≤ 1073 from by omega, show 3463 + 6 * n9 + 6 ≤ 11769 from by omega⟩) hS (fun q _ h => hFc q h) hFc (fun r6 u9 t9 H1 locs ht hvm hwm hB hz1 hk1 hS => ?_)
  obtain ⟨v2, f2, w2⟩ := u9
  obtain ⟨hP1, hK1, hD1⟩ := hB
  rw [ht] at hP1
  obtain ⟨hP, hD⟩ := va_join (wr := (wCo a o cI cZ cJ v1 f1 w1 g1)) (w1 := (wM bb cI v2 f2 w2)) hP hD [16, 17, 18, 19, 20, 21, 22, 23, 24, 25, 26, 27, 28, 29] [0, 1, 2, 3, 4, 5, 6, 7, 8, 9, 10, 11, 12, 13, 14, 15] rfl rfl (by decide) (by decide) hk1 hFc hP1 hD1
  have hP : va_P (dC, dI) vwCl (wL a o bb cI cZ cJ v1 f1 w1 g1 v2 f2 w2) H1 := hP
  have hD : va_D (fun q : Nat => s.heap.size ≤ q) (wL a o bb cI cZ cJ v1 f1 w1 g1 v2 f2 w2) := hD
  generalize H1 = H at hP hS ⊢
  obtain ⟨c9, hc2, hcr, hct, hR2, hans⟩ := m_bar hR hw5 hwm
  refine lv_istore (lv' := [(6, .int (r6)), (5, .int (r5)), (4, .int (nI (i))), (0, .ref (b)), (1, .ref (a 0)), (2, .ref (bb 0)), (3, .ref (o))]) hx hb d_Law_law_491 hl (by decide) rfl (fun ls hl => ?_)
  refine lv_aload_n hx hb d_Law_law_493 rfl (lv_at hl 5 rfl) ?_
  have hKc := hK.sub (tys' := [(cI, .int)]) [0] rfl
  have hPc := hP.sub (ws' := (wM bb cI v2 f2 w2)) [16, 17, 18, 19, 20, 21, 22, 23, 24, 25, 26, 27, 28, 29] rfl
  refine zz_ro (va_runV (As := []) (rest := []) ⟨hx, hb, hml, hown, hz⟩ (c_Model_thrown l dC dI bb cI v2 f2 w2) (cwV (C := "CutLengthsModel") 0 hz (zgV tw_554 tw_555 tw_556 tw_20 tw_557) rfl rfl rfl (by decide +kernel) ⟨Nat.le_of_ble_eq_true rfl, Nat.le_of_ble_eq_true rfl⟩) ⟨(fun a U g mk q => ⟨q.1, q.2.1, va_K.moved (u := U) (U := U.calling g mk a) (Vm.Alike.refl U.vm) q.2.2⟩), va_recv hKc hPc (ci := 5) (q0 := 0) rfl rfl, fun U hU hW => ⟨rfl, by rw [hU]; exact hPc, va_K.moved hW.alike hKc⟩⟩ rfl rfl hl.1 rfl (lv_room (Nat.le_of_ble_eq_true rfl)) d_Law_law_494 ⟨show 30 + n9 + 1 ≤ 1073 from by omega, show 3463 + 6 * n9 + 6 ≤ 11769 from by omega⟩) ?_
  refine lv_iload hx hb d_Law_law_497 (lv_at hl 1 rfl) ?_
  refine lv_icmp_eq (tgt := 504) hx hb d_Law_law_499 (by decide) (fun c_1 => ?_) (fun c_1 => ?_)
  · refine lv_iload hx hb d_Law_law_504 (lv_at hl 1 rfl) ?_
    refine lv_if_ne (tgt := 521) hx hb d_Law_law_506 (by decide) (fun c_2 => ?_) (fun c_2 => ?_)
    · refine lv_goto (tgt := 841) hx hb d_Law_law_521 (by decide) ?_
      refine W.widen (k := 30 + (n9 + 1)) (n := 3463 + 6 * (n9 + 1)) (by omega) (by omega) ?_
      exact kk v1 f1 w1 v2 f2 w2 g1 H locs ls hR2 hP hD hS (lv_sub hl [2, 3, 4, 5, 6] rfl)
    · have hc0 : c9 = 0 := (zz_zero (by omega)).mp (hcr.symm.trans c_2)
      refine lv_aload_n hx hb d_Law_law_509 rfl (lv_at hl 6 rfl) ?_
      refine lv_iconst (v := nI 0) hx hb d_Law_law_510 (by decide) ?_
      refine va_lald hx hb hK hP 15 2 (f := g1) rfl rfl (vp_in_nI (by decide) (by decide)) d_Law_law_511 ?_
      refine zz_topl (show g1 (nI 0).toNatClampNeg = r6.toInt64 from by rw [nI_clamp (by decide)]; exact hans hc0) ?_
      refine lv_iload hx hb d_Law_law_512 (lv_at hl 0 rfl) ?_
      refine lv_i2l (v := (r6).toInt64) hx hb d_Law_law_514 rfl ?_
      refine W.lcmp hx hb d_Law_law_515 ?_
      refine zz_top (zz_cmp _) ?_
      refine lv_if_eq (tgt := 521) hx hb d_Law_law_516 (by decide) (fun _ => ?_) (fun c9 => absurd rfl c9)
      refine lv_goto (tgt := 841) hx hb d_Law_law_521 (by decide) ?_
      refine W.widen (k := 30 + (n9 + 1)) (n := 3463 + 6 * (n9 + 1)) (by omega) (by omega) ?_
      exact kk v1 f1 w1 v2 f2 w2 g1 H locs ls hR2 hP hD hS (lv_sub hl [2, 3, 4, 5, 6] rfl)
  · exact absurd ((congrArg nI hct).trans hcr.symm) c_1
