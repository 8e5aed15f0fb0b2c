/-! BOTH SIDES: how the class's numbers and the reference's belong together; one plan; each call keeps it -/
theorem zinv_torch {n t t' W : Nat} {lo hi G B L S : Nat → Nat} {F : Nat → Int32} (h : zinv n t W lo hi G B t L F S) (ht : t ≤ t') (hb : t' = n ∨ B t' = 0) : zinv n t' W lo hi G B t' L F S := by
  refine ⟨h.1, h.2.1, fun p hp hlt => ?_, fun p hp hlt => h.2.2.2 p (by omega) hlt⟩
  refine zB_congr ?_ (h.2.2.1 p (by omega) hlt)
  intro w l
  unfold zcand
  have e : (p = t ∨ B p = 0) ↔ (p = t' ∨ B p = 0) := by
    constructor
    · rintro (q | q)
      · exact Or.inl (by omega)
      · exact Or.inr q
    · rintro (q | q)
      · rcases hb with hb | hb
        · omega
        · exact Or.inr (by rw [q]; exact hb)
      · exact Or.inr q
  rw [e]
theorem zscan_congr {F F' : Nat → Int32} {n : Nat} : ∀ k p, k = n - p → p ≤ n → (∀ q, p ≤ q → q < n → F q = F' q) → zscan F n p = zscan F' n p := by
  intro k
  induction k with
  | zero =>
    intro p hk hp _
    have e : p = n := by omega
    rw [e, zscan_n, zscan_n]
  | succ k ih =>
    intro p hk hp h
    rw [zscan_s (F := F) (show p < n from by omega), zscan_s (F := F') (show p < n from by omega), h p (Nat.le_refl _) (by omega), ih (p + 1) (by omega) (by omega) (fun q h1 h2 => h q (by omega) h2)]
theorem zscan_end {F : Nat → Int32} {n : Nat} : ∀ k p, k = n - p → p ≤ n → zscan F n p = n ∨ F (zscan F n p) ≠ -1 := by
  intro k
  induction k with
  | zero =>
    intro p hk hp
    have e : p = n := by omega
    rw [e, zscan_n]
    exact Or.inl rfl
  | succ k ih =>
    intro p hk hp
    rw [zscan_s (by omega)]
    by_cases e : F p = -1
    · rw [if_pos e]
      exact ih (p + 1) (by omega) (by omega)
    · rw [if_neg e]
      exact Or.inr e
def zRel (v : Nat → Nat) (f : Nat → Nat → Nat) (w : Nat → Nat → Int32) (v' : Nat → Nat) (f' : Nat → Nat → Nat) (w' : Nat → Nat → Int32) : Prop :=
  zI v f ∧ zJ v' f' ∧ (v 2 = 0 → zCP v f (f 4) (f 5) (w 0)) ∧
  (v 0 = v' 1 ∧ v 1 = v' 2 ∧ v 3 = v' 3 ∧ v 4 = v' 4 ∧ v 5 = v' 5 ∧ v 6 = v' 6 ∧ v 9 = v' 7 ∧ v 7 = v' 8 ∧ v 8 = v' 9 ∧ v 10 = v' 10) ∧
  (∀ k, k < v 9 → f 2 k = f' 0 k ∧ f 3 k = f' 1 k) ∧ (∀ p, f 0 p = zbad (f' 2) (f' 3) p (v 7)) ∧ (∀ p, f 1 p = zbar (f' 4) (f' 5) p (v 8)) ∧
  ∀ k, k < v 10 → f 6 k = f' 6 k ∧ f 7 k = f' 7 k ∧ w 1 k = w' 0 k
/-- one plan: the class's and the reference's are the same from the torch on -/
theorem zplan {v v' : Nat → Nat} {f f' : Nat → Nat → Nat} {w w' : Nat → Nat → Int32} {L S L' S' G' : Nat → Nat} {F F' : Nat → Int32} (h : zRel v f w v' f' w') (hc : zCP v f L S F) (hm : zMP v' f' L' S' G' F') :
    ∀ p, v 4 ≤ p → p ≤ v 3 → L p = L' p ∧ (p < v 3 → F p = F' p ∧ p + S p = zend F' S' (v' 3) p) := by
  obtain ⟨⟨i3, i4, i5, i6, i7, i8, i9, i10, i2, i0, i1, iw, ib, ic, isl⟩, ⟨j3, j4, j5, j6, j7, j8, j9, j10, j1, j2, jw, jb, jr, jsl⟩, hC, ⟨e0, e1, e3, e4, e5, e6, e9, e7, e8, e10⟩, sp, bd, br, sb⟩ := h
  have eB : zMB v' f' = f 1 := by
    funext p
    unfold zMB
    rw [br p, e8]
  have eG : zMG v' f' = zG v f := by
    funext p
    unfold zMG zG
    rw [zgd_bad (by split <;> omega), bd p, e7, e5, e6, e3]
    by_cases a1 : v' 5 ≤ p ∧ p + v' 6 < v' 3
    · by_cases a2 : zbad (f' 2) (f' 3) p (v' 8) = 0
      · rw [if_pos a1, if_neg (by omega), if_pos ⟨a1.1, a1.2, a2⟩]
      · rw [if_pos a1, if_pos (Or.inr a2), if_neg (fun q => a2 q.2.2)]
    · rw [if_neg a1, if_pos (Or.inl rfl), if_neg (fun q => a1 ⟨q.1, q.2.1⟩)]
  have c1 : zPl (v 3) (v 4) (v 9) (f 2) (f 3) (zG v f) (f 1) L F S (zS0 F S) := ⟨hc.1, fun p h1 h2 => hc.2.2.1 p h1 h2⟩
  have c2 : zPl (v 3) (v 4) (v 9) (f 2) (f 3) (zG v f) (f 1) L' F' S' (fun _ => 1) := by
    refine ⟨by rw [e3]; exact hm.1, fun p h1 h2 => ?_⟩
    have hb := hm.2.2.1 p (by omega) (by omega)
    rw [eG, eB, ← e3, ← e4, ← e9] at hb
    refine zB_congr ?_ hb
    intro x l
    unfold zcand
    constructor
    · rintro ⟨q1, q2, q3, q4, q5, q6⟩
      have := sp x q2
      exact ⟨q1, q2, by omega, by omega, q5, q6⟩
    · rintro ⟨q1, q2, q3, q4, q5, q6⟩
      have := sp x q2
      exact ⟨q1, q2, by omega, by omega, q5, q6⟩
  have uni := zPl_uni (fun x q => (iw x q).1) c1 c2
  have hFn : F (v 3) = -2 := hc.2.1
  have scr := zend_scrap (F := F) (S := S) (S0 := zS0 F S) (n := v 3) (t := v 4) (fun p h1 h2 hF => by
    rcases c1.2 p h1 h2 with ⟨-, q, -⟩ | ⟨x, l, g0, -, g2, -⟩
    · exact q
    · exact absurd (g2.symm.trans hF) (zne g0)) (fun p h1 h2 => by
    unfold zS0
    by_cases a : F (p + 1) = -1
    · have hn : p + 1 < v 3 := by
        rcases Nat.lt_or_ge (p + 1) (v 3) with q | q
        · exact q
        · exfalso
          rw [show p + 1 = v 3 from by omega, hFn] at a
          exact absurd a (by decide)
      rw [if_pos a, if_pos ⟨hn, a⟩]
    · rw [if_neg a, if_neg (fun q => a q.2)])
  intro p h1 h2
  refine ⟨(uni _ p rfl h1 h2).1, fun h3 => ?_⟩
  have u := (uni _ p rfl h1 h2).2 h3
  refine ⟨u.1, ?_⟩
  rw [scr _ p rfl h1 h3, ← e3]
  unfold zend
  rw [← u.1]
  by_cases a : F p = -1
  · rw [if_pos a, if_pos a]
    exact zscan_congr _ p rfl h2 (fun q q1 q2 => ((uni _ q rfl (by omega) (by omega)).2 q2).1)
  · rw [if_neg a, if_neg a, u.2 a]
/-- behind the plan's first part no bar is, or the strand's end -/
theorem zcut_free {v : Nat → Nat} {f : Nat → Nat → Nat} {L S : Nat → Nat} {F : Nat → Int32} (hI : zI v f) (hc : zCP v f L S F) (ht : v 4 < v 3) : v 4 + S (v 4) = v 3 ∨ f 1 (v 4 + S (v 4)) = 0 := by
  obtain ⟨i3, i4, i5, i6, i7, i8, i9, i10, i2, i0, i1, iw, ib, ic, isl⟩ := id hI
  have hE := zCP_E hI hc
  have hFn : F (v 3) = -2 := hc.2.1
  by_cases a : F (v 4) = -1
  · have scr := zend_scrap (F := F) (S := S) (S0 := zS0 F S) (n := v 3) (t := v 4) (fun p h1 h2 hF => by
      rcases hc.2.2.1 p h1 h2 with ⟨-, q, -⟩ | ⟨x, l, g0, -, g2, -⟩
      · exact q
      · exact absurd (g2.symm.trans hF) (zne g0)) (fun p h1 h2 => by
      unfold zS0
      by_cases a : F (p + 1) = -1
      · have hn : p + 1 < v 3 := by
          rcases Nat.lt_or_ge (p + 1) (v 3) with q | q
          · exact q
          · exfalso
            rw [show p + 1 = v 3 from by omega, hFn] at a
            exact absurd a (by decide)
        rw [if_pos a, if_pos ⟨hn, a⟩]
      · rw [if_neg a, if_neg (fun q => a q.2)])
    have e := scr _ (v 4) rfl (Nat.le_refl _) ht
    unfold zend at e
    rw [if_pos a] at e
    have hz := zscan_end (F := F) (n := v 3) _ (v 4) rfl i4
    rw [← e] at hz
    rcases hz with hz | hz
    · exact Or.inl hz
    · have h1 := hE _ (v 4) rfl (Nat.le_refl _) ht
      by_cases e2 : v 4 + S (v 4) = v 3
      · exact Or.inl e2
      · rcases hc.2.2.1 (v 4 + S (v 4)) (by omega) (by omega) with ⟨q, -⟩ | ⟨x, l, g0, c, -⟩
        · exact absurd q hz
        · rcases c.1 with q | q
          · omega
          · exact Or.inr q
  · rcases hc.2.2.1 (v 4) (Nat.le_refl _) ht with ⟨q, -⟩ | ⟨x, l, g0, c, g2, g3, -⟩
    · exact absurd q a
    · rw [g3]
      exact c.2.2.2.2.2
theorem k_step_0 {s : Nat} {z0 z1 : Int} (h : k_step s z0 z1 = 0) : s = 0 ∧ 1 ≤ z0 ∧ z0 ≤ 65536 ∧ 1 ≤ z1 ∧ z1 ≤ 100000 := by
  unfold k_step at h
  by_cases a : 0 < s
  · rw [if_pos a] at h; omega
  · rw [if_neg a] at h
    by_cases b : z0 < 1 ∨ 65536 < z0 ∨ z1 < 1 ∨ 100000 < z1
    · rw [if_pos b] at h; omega
    · omega
theorem k_cast_0 {n : Nat} {z0 : Int} (h : k_cast n z0 = 0) : 0 ≤ z0 ∧ z0 ≤ 300 - (n : Nat) := by
  unfold k_cast at h
  by_cases a : z0 < 0
  · rw [if_pos a] at h; omega
  · rw [if_neg a] at h
    by_cases b : (300 : Int) - (n : Nat) < z0
    · rw [if_pos b] at h; omega
    · omega
theorem k_want_0 {c : Nat} {z0 z1 : Int} (h : k_want c z0 z1 = 0) : c < 6 ∧ 1 ≤ z0 ∧ z0 ≤ z1 ∧ z1 ≤ 60 := by
  unfold k_want at h
  by_cases a : 6 ≤ c
  · rw [if_pos a] at h; omega
  · rw [if_neg a] at h
    by_cases b : ¬ (1 ≤ z0 ∧ z0 ≤ z1 ∧ z1 ≤ 60)
    · rw [if_pos b] at h; omega
    · omega
theorem k_span_0 {c : Nat} {z0 z1 z2 : Int} (h : k_span c z0 z1 z2 = 0) : 0 ≤ z0 ∧ z0 < (c : Nat) ∧ 1 ≤ z1 ∧ z1 ≤ z2 ∧ z2 ≤ 60 := by
  unfold k_span at h
  by_cases a : ¬ (0 ≤ z0 ∧ z0 < (c : Nat))
  · rw [if_pos a] at h; omega
  · rw [if_neg a] at h
    by_cases b : ¬ (1 ≤ z1 ∧ z1 ≤ z2 ∧ z2 ≤ 60)
    · rw [if_pos b] at h; omega
    · omega
theorem k_trim_0 {z0 z1 : Int} (h : k_trim z0 z1 = 0) : 0 ≤ z0 ∧ z0 ≤ 300 ∧ 0 ≤ z1 ∧ z1 ≤ 300 := by
  unfold k_trim at h
  by_cases a : z0 < 0 ∨ 300 < z0 ∨ z1 < 0 ∨ 300 < z1
  · rw [if_pos a] at h; omega
  · omega
theorem k_bad_0 {c : Nat} {z0 z1 : Int} (h : k_bad c z0 z1 = 0) : c < 20 ∧ 0 ≤ z0 ∧ z0 ≤ z1 ∧ z1 ≤ 300 := by
  unfold k_bad at h
  by_cases a : 20 ≤ c
  · rw [if_pos a] at h; omega
  · rw [if_neg a] at h
    by_cases b : ¬ (0 ≤ z0 ∧ z0 ≤ z1 ∧ z1 ≤ 300)
    · rw [if_pos b] at h; omega
    · omega
theorem k_cut_0 {t n s : Nat} (h : k_cut t n s = 0) : t < n ∧ s < 100 := by
  unfold k_cut at h
  by_cases a : n ≤ t
  · rw [if_pos a] at h; omega
  · rw [if_neg a] at h
    by_cases b : 100 ≤ s
    · rw [if_pos b] at h; omega
    · omega
theorem k_slab_0 {s : Nat} {z0 z1 : Int} (h : k_slab s z0 z1 = 0) : 0 ≤ z0 ∧ z0 < (s : Nat) ∧ 0 ≤ z1 ∧ z1 ≤ 2 := by
  unfold k_slab at h
  by_cases a : ¬ (0 ≤ z0 ∧ z0 < (s : Nat)) ∨ ¬ (0 ≤ z1 ∧ z1 ≤ 2)
  · rw [if_pos a] at h; omega
  · omega
theorem k_weight_0 {s : Nat} {z0 : Int} (h : k_weight s z0 = 0) : 0 ≤ z0 ∧ z0 < (s : Nat) := by
  unfold k_weight at h
  by_cases a : ¬ (0 ≤ z0 ∧ z0 < (s : Nat))
  · rw [if_pos a] at h; omega
  · omega
theorem k_part_0 {z0 z1 : Int} (h : k_part z0 z1 = 0) : 0 ≤ z0 ∧ 0 ≤ z1 ∧ z1 ≤ 2 := by
  unfold k_part at h
  by_cases a : z0 < 0 ∨ ¬ (0 ≤ z1 ∧ z1 ≤ 2)
  · rw [if_pos a] at h; omega
  · omega
theorem k_le_step (s : Nat) (z0 z1 : Int) : k_step s z0 z1 ≤ 2 := by
  unfold k_step
  split
  · decide
  · split <;> decide
theorem k_le_cast (s : Nat) (z0 : Int) : k_cast s z0 ≤ 2 := by
  unfold k_cast
  split
  · decide
  · split <;> decide
theorem k_le_want (s : Nat) (z0 z1 : Int) : k_want s z0 z1 ≤ 2 := by
  unfold k_want
  split
  · decide
  · split <;> decide
theorem k_le_span (s : Nat) (z0 z1 z2 : Int) : k_span s z0 z1 z2 ≤ 2 := by
  unfold k_span
  split
  · decide
  · split <;> decide
theorem k_le_bad (s : Nat) (z0 z1 : Int) : k_bad s z0 z1 ≤ 2 := by
  unfold k_bad
  split
  · decide
  · split <;> decide
theorem k_le_cut (t n s : Nat) : k_cut t n s ≤ 2 := by
  unfold k_cut
  split
  · decide
  · split <;> decide
theorem k_le_trim (z0 z1 : Int) : k_trim z0 z1 ≤ 2 := by
  unfold k_trim
  split <;> decide
theorem k_le_part (z0 z1 : Int) : k_part z0 z1 ≤ 2 := by
  unfold k_part
  split <;> decide
theorem k_le_slab (s : Nat) (z0 z1 : Int) : k_slab s z0 z1 ≤ 2 := by
  unfold k_slab
  split <;> decide
theorem k_le_weight (s : Nat) (z0 : Int) : k_weight s z0 ≤ 2 := by
  unfold k_weight
  split <;> decide
theorem k_le_count (s : Nat) (z0 : Int) : k_count s z0 ≤ 2 := by
  unfold k_count
  split <;> decide
