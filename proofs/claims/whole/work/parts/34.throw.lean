/-! WHAT A THROW NEEDS (words that are not good, texts), and the codes of refusal (written by wip/whole/mk_class.py) -/
def zNG : List Cond := [Cond.declares ⟨"java/lang/RuntimeException", "<init>", "(Ljava/lang/String;)V"⟩, Cond.declares ⟨"java/lang/Exception", "<init>", "(Ljava/lang/String;)V"⟩, Cond.declares ⟨"java/lang/Throwable", "<init>", "(Ljava/lang/String;)V"⟩, Cond.castable "java/lang/IllegalStateException" "java/lang/IllegalStateException", Cond.castable "java/lang/IllegalArgumentException" "java/lang/IllegalArgumentException", Cond.castable "java/lang/UnsupportedOperationException" "java/lang/UnsupportedOperationException", Cond.castable "java/lang/IndexOutOfBoundsException" "java/lang/IndexOutOfBoundsException"]
def zStrs : List (Nat × String) := [(53, "something was cut"), (66, "no such step or kilos"), (69, "steps below 0"), (76, "the strand would be too long"), (80, "no more wanted lengths"), (86, "no such span"), (94, "no such wanted length"), (97, "no such trims"), (108, "no more bad parts"), (113, "no such steps"), (122, "no more bars"), (124, "no such places"), (143, "no such part or what"), (159, "nothing is ahead of the torch"), (161, "no more slabs"), (169, "no such slab or what"), (176, "no such slab")]
def zNcs : List (String × String) := [("java/lang/IllegalArgumentException", "java/lang/IllegalStateException"), ("java/lang/UnsupportedOperationException", "java/lang/IllegalArgumentException"), ("java/lang/IllegalArgumentException", "java/lang/IndexOutOfBoundsException"), ("java/lang/UnsupportedOperationException", "java/lang/IllegalStateException")]
def zTx (U : State) : Prop := (∀ w ∈ zNG, va_Nw w U) ∧ (∀ x ∈ zStrs, ∃ q, vk_R "CutLengths" x.1 x.2 q U) ∧ ∀ x ∈ zNcs, va_Nc x.1 x.2 U
theorem zNG_on : ∀ w ∈ zNG, w.onTables = true := by decide +kernel
theorem zTx.same {u U : State} (hv : u.vm = U.vm) (h : zTx u) : zTx U :=
  ⟨fun w hw => va_Nw.same (zNG_on w hw) hv (h.1 w hw), fun x hx => (h.2.1 x hx).elim fun q hq => ⟨q, vk_R.same hv.symm hq⟩, fun x hx => by
    obtain ⟨c, t, h1, h2, h3⟩ := h.2.2 x hx
    exact ⟨c, t, by rw [← hv]; exact h1, by rw [← hv]; exact h2, by rw [← hv]; exact h3⟩⟩
theorem zTx.warm {s U : State} (hW : s.WarmedH U.vm) (h : zTx s) : zTx U := by
  refine ⟨?_, fun x hx => (h.2.1 x hx).elim fun q hq => ⟨q, vk_R.warm hW hq⟩, fun x hx => va_Nc.moved hW.alike (h.2.2 x hx)⟩
  have h1 := h.1
  unfold zNG at h1 ⊢
  simp only [List.forall_mem_cons] at h1 ⊢
  obtain ⟨a1, a2, a3, a4, a5, a6, a7, -⟩ := h1
  exact ⟨a1.warmD hW, a2.warmD hW, a3.warmD hW, a4.warmC hW, a5.warmC hW, a6.warmC hW, a7.warmC hW, fun _ h => absurd h List.not_mem_nil⟩
/-- the statics that a throw reads, the words, the texts -/
def zX (A : Nat → Prop) (U : State) (H : Heap) : Prop := vx_Zq Bundle.tN "UNASSIGNED_STACK" Bundle.steD A U H ∧ vx_Zq Bundle.tN "SUPPRESSED_SENTINEL" Bundle.listD A U H ∧ zTx U
theorem zX.call {A : Nat → Prop} {U : State} {g : JFrame} {mk : MethodId} {a : Array Value} (h : zX A U U.heap) : zX A (U.calling g mk a) (U.calling g mk a).heap :=
  ⟨vx_Zq.moved (u := U) (U := U.calling g mk a) (Vm.Alike.refl U.vm) h.1, vx_Zq.moved (u := U) (U := U.calling g mk a) (Vm.Alike.refl U.vm) h.2.1, zTx.same (u := U) (U := U.calling g mk a) rfl h.2.2⟩
theorem zX.go {A A1 : Nat → Prop} {s U : State} {H : Heap} {locs : List Loc} (h : zX A s s.heap) (hS : va_S A s.heap H locs) (hU : U.heap = H) (hW : s.WarmedH U.vm) (hA : ∀ q, A1 q → A q) : zX A1 U U.heap := by
  refine ⟨?_, ?_, h.2.2.warm hW⟩
  · rw [hU]; exact ((h.1.kept (fun a h1 h2 => hS.2.1 a h1 h2)).moved hW.alike).narrow hA
  · rw [hU]; exact ((h.2.1.kept (fun a h1 h2 => hS.2.1 a h1 h2)).moved hW.alike).narrow hA
theorem zNG_use {args : Array Value} {s : State} (h : zTx s) : ∀ w ∈ zNG, w.before args s = true := fun w hw => va_Nw.use (zNG_on w hw) (h.1 w hw)
set_option maxRecDepth 100000 in
theorem zth_ISE : ∀ w ∈ (vx_atS "CutLengths" 55 "java/lang/IllegalStateException" ["java/lang/RuntimeException", "java/lang/Exception"]).filter goodWord, w ∈ lw_tbl := by decide +kernel
set_option maxRecDepth 100000 in
theorem zhat_ISE {args : Array Value} {s : State} (hz : ∀ w ∈ zW, w.before args s = true) (hT : zTx s) : ∀ w ∈ vx_atS "CutLengths" 55 "java/lang/IllegalStateException" ["java/lang/RuntimeException", "java/lang/Exception"], w.before args s = true :=
  vx_hat (B := zNG) (fun w h => hz w (List.mem_filter.mpr ⟨zth_ISE w h, (List.mem_filter.mp h).2⟩)) (by decide +kernel) (zNG_use hT)
set_option maxRecDepth 100000 in
theorem zgd_ISE : ∀ w ∈ Cond.classLink "CutLengths" 51 "java/lang/IllegalStateException" :: Cond.initialized "java/lang/IllegalStateException" :: vx_atS "CutLengths" 55 "java/lang/IllegalStateException" ["java/lang/RuntimeException", "java/lang/Exception"], vx_ot w = true := by decide +kernel
set_option maxRecDepth 100000 in
theorem zth_IAE : ∀ w ∈ (vx_atS "CutLengths" 68 "java/lang/IllegalArgumentException" ["java/lang/RuntimeException", "java/lang/Exception"]).filter goodWord, w ∈ lw_tbl := by decide +kernel
set_option maxRecDepth 100000 in
theorem zhat_IAE {args : Array Value} {s : State} (hz : ∀ w ∈ zW, w.before args s = true) (hT : zTx s) : ∀ w ∈ vx_atS "CutLengths" 68 "java/lang/IllegalArgumentException" ["java/lang/RuntimeException", "java/lang/Exception"], w.before args s = true :=
  vx_hat (B := zNG) (fun w h => hz w (List.mem_filter.mpr ⟨zth_IAE w h, (List.mem_filter.mp h).2⟩)) (by decide +kernel) (zNG_use hT)
set_option maxRecDepth 100000 in
theorem zgd_IAE : ∀ w ∈ Cond.classLink "CutLengths" 64 "java/lang/IllegalArgumentException" :: Cond.initialized "java/lang/IllegalArgumentException" :: vx_atS "CutLengths" 68 "java/lang/IllegalArgumentException" ["java/lang/RuntimeException", "java/lang/Exception"], vx_ot w = true := by decide +kernel
set_option maxRecDepth 100000 in
theorem zth_UOE : ∀ w ∈ (vx_atS "CutLengths" 78 "java/lang/UnsupportedOperationException" ["java/lang/RuntimeException", "java/lang/Exception"]).filter goodWord, w ∈ lw_tbl := by decide +kernel
set_option maxRecDepth 100000 in
theorem zhat_UOE {args : Array Value} {s : State} (hz : ∀ w ∈ zW, w.before args s = true) (hT : zTx s) : ∀ w ∈ vx_atS "CutLengths" 78 "java/lang/UnsupportedOperationException" ["java/lang/RuntimeException", "java/lang/Exception"], w.before args s = true :=
  vx_hat (B := zNG) (fun w h => hz w (List.mem_filter.mpr ⟨zth_UOE w h, (List.mem_filter.mp h).2⟩)) (by decide +kernel) (zNG_use hT)
set_option maxRecDepth 100000 in
theorem zgd_UOE : ∀ w ∈ Cond.classLink "CutLengths" 74 "java/lang/UnsupportedOperationException" :: Cond.initialized "java/lang/UnsupportedOperationException" :: vx_atS "CutLengths" 78 "java/lang/UnsupportedOperationException" ["java/lang/RuntimeException", "java/lang/Exception"], vx_ot w = true := by decide +kernel
set_option maxRecDepth 100000 in
theorem zth_IOB : ∀ w ∈ (vx_atS "CutLengths" 96 "java/lang/IndexOutOfBoundsException" ["java/lang/RuntimeException", "java/lang/Exception"]).filter goodWord, w ∈ lw_tbl := by decide +kernel
set_option maxRecDepth 100000 in
theorem zhat_IOB {args : Array Value} {s : State} (hz : ∀ w ∈ zW, w.before args s = true) (hT : zTx s) : ∀ w ∈ vx_atS "CutLengths" 96 "java/lang/IndexOutOfBoundsException" ["java/lang/RuntimeException", "java/lang/Exception"], w.before args s = true :=
  vx_hat (B := zNG) (fun w h => hz w (List.mem_filter.mpr ⟨zth_IOB w h, (List.mem_filter.mp h).2⟩)) (by decide +kernel) (zNG_use hT)
set_option maxRecDepth 100000 in
theorem zgd_IOB : ∀ w ∈ Cond.classLink "CutLengths" 92 "java/lang/IndexOutOfBoundsException" :: Cond.initialized "java/lang/IndexOutOfBoundsException" :: vx_atS "CutLengths" 96 "java/lang/IndexOutOfBoundsException" ["java/lang/RuntimeException", "java/lang/Exception"], vx_ot w = true := by decide +kernel
theorem zz_nat {x : Int32} {z : Int} (hz : x.toInt = z) (h : 0 ≤ z) : x = nI z.toNat := by
  have h1 := Int32.toInt_lt x
  have h2 : z.toNat < 2 ^ 31 := by omega
  exact Int32.toInt_inj.mp (by rw [nI_toInt h2, hz]; omega)
def k_step (s : Nat) (z0 z1 : Int) : Nat := if 0 < s then 1 else if z0 < 1 ∨ 65536 < z0 ∨ z1 < 1 ∨ 100000 < z1 then 2 else 0
def k_cast (n : Nat) (z0 : Int) : Nat := if z0 < 0 then 1 else if (300 : Int) - (n : Nat) < z0 then 2 else 0
def k_want (c : Nat) (z0 z1 : Int) : Nat := if 6 ≤ c then 1 else if ¬ (1 ≤ z0 ∧ z0 ≤ z1 ∧ z1 ≤ 60) then 2 else 0
def k_span (c : Nat) (z0 z1 z2 : Int) : Nat := if ¬ (0 ≤ z0 ∧ z0 < (c : Nat)) then 1 else if ¬ (1 ≤ z1 ∧ z1 ≤ z2 ∧ z2 ≤ 60) then 2 else 0
def k_trim (z0 z1 : Int) : Nat := if z0 < 0 ∨ 300 < z0 ∨ z1 < 0 ∨ 300 < z1 then 1 else 0
def k_bad (c : Nat) (z0 z1 : Int) : Nat := if 20 ≤ c then 1 else if ¬ (0 ≤ z0 ∧ z0 ≤ z1 ∧ z1 ≤ 300) then 2 else 0
def k_part (z0 z1 : Int) : Nat := if z0 < 0 ∨ ¬ (0 ≤ z1 ∧ z1 ≤ 2) then 1 else 0
def k_cut (t n s : Nat) : Nat := if n ≤ t then 1 else if 100 ≤ s then 2 else 0
def k_slab (s : Nat) (z0 z1 : Int) : Nat := if ¬ (0 ≤ z0 ∧ z0 < (s : Nat)) ∨ ¬ (0 ≤ z1 ∧ z1 ≤ 2) then 1 else 0
def k_weight (s : Nat) (z0 : Int) : Nat := if ¬ (0 ≤ z0 ∧ z0 < (s : Nat)) then 1 else 0
def k_count (c : Nat) (z0 : Int) : Nat := if z0 < -1 ∨ ((c : Nat) : Int) ≤ z0 then 1 else 0
