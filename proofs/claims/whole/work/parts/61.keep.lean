/-! BOTH SIDES, call by call (rows written by wip/whole/mk_rel.py) -/
theorem r_step {v v' : Nat → Nat} {f f' : Nat → Nat → Nat} {w w' : Nat → Nat → Int32} (h : zRel v f w v' f' w') {z0 : Int} {z1 : Int}(hk : k_step (v 10) z0 z1 = 0) : zRel (zu (zu v 0 (z0.toNat)) 1 (z1.toNat)) f w (zu (zu (zu v' 0 (0)) 1 (z0.toNat)) 2 (z1.toNat)) f' w' := by
  obtain ⟨⟨i3, i4, i5, i6, i7, i8, i9, i10, i2, i0, i1, iw, ib, ic, isl⟩, ⟨j3, j4, j5, j6, j7, j8, j9, j10, j1, j2, jw, jb, jr, jsl⟩, hC, ⟨e0, e1, e3, e4, e5, e6, e9, e7, e8, e10⟩, sp, bd, br, sb⟩ := id h
  have b := k_step_0 hk
  exact ⟨⟨i3, i4, i5, i6, i7, i8, i9, i10, i2, (show z0.toNat ≤ 65536 from by omega), (show z1.toNat ≤ 100000 from by omega), iw, ib, ic, isl⟩, ⟨j3, j4, j5, j6, j7, j8, j9, j10, (show z0.toNat ≤ 65536 from by omega), (show z1.toNat ≤ 100000 from by omega), jw, jb, jr, jsl⟩, hC, ⟨rfl, rfl, e3, e4, e5, e6, e9, e7, e8, e10⟩, sp, bd, br, sb⟩
theorem r_cast {v v' : Nat → Nat} {f f' : Nat → Nat → Nat} {w w' : Nat → Nat → Int32} (h : zRel v f w v' f' w') {z0 : Int}(hk : k_cast (v 3) z0 = 0) : zRel (zu (zu v 3 (v 3 + z0.toNat)) 2 (1)) f w (zu (zu v' 0 (0)) 3 (v' 3 + z0.toNat)) f' w' := by
  obtain ⟨⟨i3, i4, i5, i6, i7, i8, i9, i10, i2, i0, i1, iw, ib, ic, isl⟩, ⟨j3, j4, j5, j6, j7, j8, j9, j10, j1, j2, jw, jb, jr, jsl⟩, hC, ⟨e0, e1, e3, e4, e5, e6, e9, e7, e8, e10⟩, sp, bd, br, sb⟩ := id h
  have b := k_cast_0 hk
  exact ⟨⟨(show v 3 + z0.toNat ≤ 300 from by omega), (show v 4 ≤ v 3 + z0.toNat from by omega), i5, i6, i7, i8, i9, i10, Nat.le_refl 1, i0, i1, iw, ib, ic, isl⟩, ⟨(show v' 3 + z0.toNat ≤ 300 from by omega), (show v' 4 ≤ v' 3 + z0.toNat from by omega), j5, j6, j7, j8, j9, j10, j1, j2, jw, jb, jr, jsl⟩, (fun q => absurd (show (1 : Nat) = 0 from q) (by decide)), ⟨e0, e1, (show v 3 + z0.toNat = v' 3 + z0.toNat from by omega), e4, e5, e6, e9, e7, e8, e10⟩, sp, bd, br, sb⟩
theorem r_want {v v' : Nat → Nat} {f f' : Nat → Nat → Nat} {w w' : Nat → Nat → Int32} (h : zRel v f w v' f' w') {z0 : Int} {z1 : Int}(hk : k_want (v 9) z0 z1 = 0) : zRel (zu (zu v 9 (v 9 + 1)) 2 (1)) (zu (zu f 2 (va_up (f 2) (v 9) z0.toNat)) 3 (va_up (f 3) (v 9) z1.toNat)) w (zu (zu v' 0 (0)) 7 (v' 7 + 1)) (zu (zu f' 0 (va_up (f' 0) (v' 7) z0.toNat)) 1 (va_up (f' 1) (v' 7) z1.toNat)) w' := by
  obtain ⟨⟨i3, i4, i5, i6, i7, i8, i9, i10, i2, i0, i1, iw, ib, ic, isl⟩, ⟨j3, j4, j5, j6, j7, j8, j9, j10, j1, j2, jw, jb, jr, jsl⟩, hC, ⟨e0, e1, e3, e4, e5, e6, e9, e7, e8, e10⟩, sp, bd, br, sb⟩ := id h
  have b := k_want_0 hk
  have hA : 1 ≤ z0.toNat ∧ z0.toNat ≤ z1.toNat ∧ z1.toNat ≤ 60 := by omega
  have iw2 : ∀ k, k < v 9 + 1 → 1 ≤ va_up (f 2) (v 9) z0.toNat k ∧ va_up (f 2) (v 9) z0.toNat k ≤ va_up (f 3) (v 9) z1.toNat k ∧ va_up (f 3) (v 9) z1.toNat k ≤ 60 := by
    intro k hk9
    by_cases e : k = (v 9)
    · rw [e, va_up_self, va_up_self]; exact hA
    · rw [va_up_ne _ _ e, va_up_ne _ _ e]; exact iw k (by omega)
  have jw2 : ∀ k, k < v' 7 + 1 → 1 ≤ va_up (f' 0) (v' 7) z0.toNat k ∧ va_up (f' 0) (v' 7) z0.toNat k ≤ va_up (f' 1) (v' 7) z1.toNat k ∧ va_up (f' 1) (v' 7) z1.toNat k ≤ 60 := by
    intro k hk9
    by_cases e : k = (v' 7)
    · rw [e, va_up_self, va_up_self]; exact hA
    · rw [va_up_ne _ _ e, va_up_ne _ _ e]; exact jw k (by omega)
  have sp2 : ∀ k, k < v 9 + 1 → va_up (f 2) (v 9) z0.toNat k = va_up (f' 0) (v' 7) z0.toNat k ∧ va_up (f 3) (v 9) z1.toNat k = va_up (f' 1) (v' 7) z1.toNat k := by
    intro k hk9
    by_cases e : k = (v 9)
    · have e' : k = (v' 7) := by omega
      refine ⟨?_, ?_⟩
      · rw [show va_up (f 2) (v 9) z0.toNat k = z0.toNat from by rw [e, va_up_self], show va_up (f' 0) (v' 7) z0.toNat k = z0.toNat from by rw [e', va_up_self]]
      · rw [show va_up (f 3) (v 9) z1.toNat k = z1.toNat from by rw [e, va_up_self], show va_up (f' 1) (v' 7) z1.toNat k = z1.toNat from by rw [e', va_up_self]]
    · have e' : k ≠ (v' 7) := by omega
      rw [va_up_ne _ _ e, va_up_ne _ _ e, va_up_ne _ _ e', va_up_ne _ _ e']
      exact sp k (by omega)
  exact ⟨⟨i3, i4, i5, i6, i7, i8, (show v 9 + 1 ≤ 6 from by omega), i10, Nat.le_refl 1, i0, i1, iw2, ib, ic, isl⟩, ⟨j3, j4, j5, j6, (show v' 7 + 1 ≤ 6 from by omega), j8, j9, j10, j1, j2, jw2, jb, jr, jsl⟩, (fun q => absurd (show (1 : Nat) = 0 from q) (by decide)), ⟨e0, e1, e3, e4, e5, e6, (show v 9 + 1 = v' 7 + 1 from by omega), e7, e8, e10⟩, sp2, bd, br, sb⟩
theorem r_span {v v' : Nat → Nat} {f f' : Nat → Nat → Nat} {w w' : Nat → Nat → Int32} (h : zRel v f w v' f' w') {z0 : Int} {z1 : Int} {z2 : Int}(hk : k_span (v 9) z0 z1 z2 = 0) : zRel (zu v 2 (1)) (zu (zu f 2 (va_up (f 2) z0.toNat z1.toNat)) 3 (va_up (f 3) z0.toNat z2.toNat)) w (zu v' 0 (0)) (zu (zu f' 0 (va_up (f' 0) z0.toNat z1.toNat)) 1 (va_up (f' 1) z0.toNat z2.toNat)) w' := by
  obtain ⟨⟨i3, i4, i5, i6, i7, i8, i9, i10, i2, i0, i1, iw, ib, ic, isl⟩, ⟨j3, j4, j5, j6, j7, j8, j9, j10, j1, j2, jw, jb, jr, jsl⟩, hC, ⟨e0, e1, e3, e4, e5, e6, e9, e7, e8, e10⟩, sp, bd, br, sb⟩ := id h
  have b := k_span_0 hk
  have hA : 1 ≤ z1.toNat ∧ z1.toNat ≤ z2.toNat ∧ z2.toNat ≤ 60 := by omega
  have iw2 : ∀ k, k < v 9 → 1 ≤ va_up (f 2) z0.toNat z1.toNat k ∧ va_up (f 2) z0.toNat z1.toNat k ≤ va_up (f 3) z0.toNat z2.toNat k ∧ va_up (f 3) z0.toNat z2.toNat k ≤ 60 := by
    intro k hk9
    by_cases e : k = z0.toNat
    · rw [e, va_up_self, va_up_self]; exact hA
    · rw [va_up_ne _ _ e, va_up_ne _ _ e]; exact iw k (by omega)
  have jw2 : ∀ k, k < v' 7 → 1 ≤ va_up (f' 0) z0.toNat z1.toNat k ∧ va_up (f' 0) z0.toNat z1.toNat k ≤ va_up (f' 1) z0.toNat z2.toNat k ∧ va_up (f' 1) z0.toNat z2.toNat k ≤ 60 := by
    intro k hk9
    by_cases e : k = z0.toNat
    · rw [e, va_up_self, va_up_self]; exact hA
    · rw [va_up_ne _ _ e, va_up_ne _ _ e]; exact jw k (by omega)
  have sp2 : ∀ k, k < v 9 → va_up (f 2) z0.toNat z1.toNat k = va_up (f' 0) z0.toNat z1.toNat k ∧ va_up (f 3) z0.toNat z2.toNat k = va_up (f' 1) z0.toNat z2.toNat k := by
    intro k hk9
    by_cases e : k = z0.toNat
    · have e' : k = z0.toNat := by omega
      refine ⟨?_, ?_⟩
      · rw [show va_up (f 2) z0.toNat z1.toNat k = z1.toNat from by rw [e, va_up_self], show va_up (f' 0) z0.toNat z1.toNat k = z1.toNat from by rw [e', va_up_self]]
      · rw [show va_up (f 3) z0.toNat z2.toNat k = z2.toNat from by rw [e, va_up_self], show va_up (f' 1) z0.toNat z2.toNat k = z2.toNat from by rw [e', va_up_self]]
    · have e' : k ≠ z0.toNat := by omega
      rw [va_up_ne _ _ e, va_up_ne _ _ e, va_up_ne _ _ e', va_up_ne _ _ e']
      exact sp k (by omega)
  exact ⟨⟨i3, i4, i5, i6, i7, i8, i9, i10, Nat.le_refl 1, i0, i1, iw2, ib, ic, isl⟩, ⟨j3, j4, j5, j6, j7, j8, j9, j10, j1, j2, jw2, jb, jr, jsl⟩, (fun q => absurd (show (1 : Nat) = 0 from q) (by decide)), ⟨e0, e1, e3, e4, e5, e6, e9, e7, e8, e10⟩, sp2, bd, br, sb⟩
theorem r_trim {v v' : Nat → Nat} {f f' : Nat → Nat → Nat} {w w' : Nat → Nat → Int32} (h : zRel v f w v' f' w') {z0 : Int} {z1 : Int}(hk : k_trim z0 z1 = 0) : zRel (zu (zu (zu v 5 (z0.toNat)) 6 (z1.toNat)) 2 (1)) f w (zu (zu (zu v' 0 (0)) 5 (z0.toNat)) 6 (z1.toNat)) f' w' := by
  obtain ⟨⟨i3, i4, i5, i6, i7, i8, i9, i10, i2, i0, i1, iw, ib, ic, isl⟩, ⟨j3, j4, j5, j6, j7, j8, j9, j10, j1, j2, jw, jb, jr, jsl⟩, hC, ⟨e0, e1, e3, e4, e5, e6, e9, e7, e8, e10⟩, sp, bd, br, sb⟩ := id h
  have b := k_trim_0 hk
  exact ⟨⟨i3, i4, (show z0.toNat ≤ 300 from by omega), (show z1.toNat ≤ 300 from by omega), i7, i8, i9, i10, Nat.le_refl 1, i0, i1, iw, ib, ic, isl⟩, ⟨j3, j4, (show z0.toNat ≤ 300 from by omega), (show z1.toNat ≤ 300 from by omega), j7, j8, j9, j10, j1, j2, jw, jb, jr, jsl⟩, (fun q => absurd (show (1 : Nat) = 0 from q) (by decide)), ⟨e0, e1, e3, e4, rfl, rfl, e9, e7, e8, e10⟩, sp, bd, br, sb⟩
theorem r_bad {v v' : Nat → Nat} {f f' : Nat → Nat → Nat} {w w' : Nat → Nat → Int32} (h : zRel v f w v' f' w') {z0 : Int} {z1 : Int}{g9 : Nat → Nat} (hk : k_bad (v 7) z0 z1 = 0) (hg : ∀ p, g9 p = if z0.toNat ≤ p ∧ p < z1.toNat then 1 else f 0 p) : zRel (zu (zu v 7 (v 7 + 1)) 2 (1)) (zu f 0 (g9)) w (zu (zu v' 0 (0)) 8 (v' 8 + 1)) (zu (zu f' 2 (va_up (f' 2) (v' 8) z0.toNat)) 3 (va_up (f' 3) (v' 8) z1.toNat)) w' := by
  obtain ⟨⟨i3, i4, i5, i6, i7, i8, i9, i10, i2, i0, i1, iw, ib, ic, isl⟩, ⟨j3, j4, j5, j6, j7, j8, j9, j10, j1, j2, jw, jb, jr, jsl⟩, hC, ⟨e0, e1, e3, e4, e5, e6, e9, e7, e8, e10⟩, sp, bd, br, sb⟩ := id h
  have b := k_bad_0 hk
  have g1 : ∀ p, g9 p ≤ 1 := by
    intro p
    rw [hg p]
    split
    · decide
    · exact ib p
  have j9' : ∀ k, k < v' 8 + 1 → va_up (f' 2) (v' 8) z0.toNat k ≤ 300 ∧ va_up (f' 3) (v' 8) z1.toNat k ≤ 300 := by
    intro k hk9
    by_cases e : k = v' 8
    · rw [e, va_up_self, va_up_self]; omega
    · rw [va_up_ne _ _ e, va_up_ne _ _ e]; exact jb k (by omega)
  have b9 : ∀ p, g9 p = zbad (va_up (f' 2) (v' 8) z0.toNat) (va_up (f' 3) (v' 8) z1.toNat) p (v 7 + 1) := by
    intro p
    show g9 p = if zbad (va_up (f' 2) (v' 8) z0.toNat) (va_up (f' 3) (v' 8) z1.toNat) p (v 7) = 0 ∧ ¬ (va_up (f' 2) (v' 8) z0.toNat (v 7) ≤ p ∧ p < va_up (f' 3) (v' 8) z1.toNat (v 7)) then 0 else 1
    rw [zbad_congr (fr' := f' 2) (to' := f' 3) (v 7) (fun j hj => ⟨va_up_ne _ _ (by omega), va_up_ne _ _ (by omega)⟩), show va_up (f' 2) (v' 8) z0.toNat (v 7) = z0.toNat from by rw [e7, va_up_self], show va_up (f' 3) (v' 8) z1.toNat (v 7) = z1.toNat from by rw [e7, va_up_self], hg p, bd p]
    have q1 := zbad_le (fr := f' 2) (to := f' 3) (p := p) (v 7)
    by_cases a1 : z0.toNat ≤ p ∧ p < z1.toNat
    · rw [if_pos a1, if_neg (by omega)]
    · rw [if_neg a1]
      by_cases a2 : zbad (f' 2) (f' 3) p (v 7) = 0
      · rw [if_pos (by omega), a2]
      · rw [if_neg (by omega)]; omega
  exact ⟨⟨i3, i4, i5, i6, (show v 7 + 1 ≤ 20 from by omega), i8, i9, i10, Nat.le_refl 1, i0, i1, iw, g1, ic, isl⟩, ⟨j3, j4, j5, j6, j7, (show v' 8 + 1 ≤ 20 from by omega), j9, j10, j1, j2, jw, j9', jr, jsl⟩, (fun q => absurd (show (1 : Nat) = 0 from q) (by decide)), ⟨e0, e1, e3, e4, e5, e6, e9, (show v 7 + 1 = v' 8 + 1 from by omega), e8, e10⟩, sp, b9, br, sb⟩
theorem r_bar {v v' : Nat → Nat} {f f' : Nat → Nat → Nat} {w w' : Nat → Nat → Int32} (h : zRel v f w v' f' w') {z0 : Int} {z1 : Int}{g9 : Nat → Nat} (hk : k_bad (v 8) z0 z1 = 0) (hg : ∀ p, g9 p = if z0.toNat ≤ p ∧ p < (z1.toNat + 1) then 1 else f 1 p) : zRel (zu (zu v 8 (v 8 + 1)) 2 (1)) (zu f 1 (g9)) w (zu (zu v' 0 (0)) 9 (v' 9 + 1)) (zu (zu f' 4 (va_up (f' 4) (v' 9) z0.toNat)) 5 (va_up (f' 5) (v' 9) z1.toNat)) w' := by
  obtain ⟨⟨i3, i4, i5, i6, i7, i8, i9, i10, i2, i0, i1, iw, ib, ic, isl⟩, ⟨j3, j4, j5, j6, j7, j8, j9, j10, j1, j2, jw, jb, jr, jsl⟩, hC, ⟨e0, e1, e3, e4, e5, e6, e9, e7, e8, e10⟩, sp, bd, br, sb⟩ := id h
  have b := k_bad_0 hk
  have g1 : ∀ p, g9 p ≤ 1 := by
    intro p
    rw [hg p]
    split
    · decide
    · exact ic p
  have j9' : ∀ k, k < v' 9 + 1 → va_up (f' 4) (v' 9) z0.toNat k ≤ 300 ∧ va_up (f' 5) (v' 9) z1.toNat k ≤ 300 := by
    intro k hk9
    by_cases e : k = v' 9
    · rw [e, va_up_self, va_up_self]; omega
    · rw [va_up_ne _ _ e, va_up_ne _ _ e]; exact jr k (by omega)
  have b9 : ∀ p, g9 p = zbar (va_up (f' 4) (v' 9) z0.toNat) (va_up (f' 5) (v' 9) z1.toNat) p (v 8 + 1) := by
    intro p
    show g9 p = if zbar (va_up (f' 4) (v' 9) z0.toNat) (va_up (f' 5) (v' 9) z1.toNat) p (v 8) = 0 ∧ ¬ (va_up (f' 4) (v' 9) z0.toNat (v 8) ≤ p ∧ p ≤ va_up (f' 5) (v' 9) z1.toNat (v 8)) then 0 else 1
    rw [zbar_congr (fr' := f' 4) (to' := f' 5) (v 8) (fun j hj => ⟨va_up_ne _ _ (by omega), va_up_ne _ _ (by omega)⟩), show va_up (f' 4) (v' 9) z0.toNat (v 8) = z0.toNat from by rw [e8, va_up_self], show va_up (f' 5) (v' 9) z1.toNat (v 8) = z1.toNat from by rw [e8, va_up_self], hg p, br p]
    have q1 := zbar_le (fr := f' 4) (to := f' 5) (p := p) (v 8)
    by_cases a1 : z0.toNat ≤ p ∧ p < (z1.toNat + 1)
    · rw [if_pos a1, if_neg (by omega)]
    · rw [if_neg a1]
      by_cases a2 : zbar (f' 4) (f' 5) p (v 8) = 0
      · rw [if_pos (by omega), a2]
      · rw [if_neg (by omega)]; omega
  exact ⟨⟨i3, i4, i5, i6, i7, (show v 8 + 1 ≤ 20 from by omega), i9, i10, Nat.le_refl 1, i0, i1, iw, ib, g1, isl⟩, ⟨j3, j4, j5, j6, j7, j8, (show v' 9 + 1 ≤ 20 from by omega), j10, j1, j2, jw, jb, j9', jsl⟩, (fun q => absurd (show (1 : Nat) = 0 from q) (by decide)), ⟨e0, e1, e3, e4, e5, e6, e9, e7, (show v 8 + 1 = v' 9 + 1 from by omega), e10⟩, sp, bd, b9, sb⟩
theorem r_part {v v' : Nat → Nat} {f f' : Nat → Nat → Nat} {w w' : Nat → Nat → Int32} (h : zRel v f w v' f' w') {L S L' S' Gd : Nat → Nat} {F F' : Nat → Int32} (hc : zCP v f L S F) : zRel (zu v 2 (0)) (zu (zu f 4 (L)) 5 (S)) (zu w 0 (F)) (zu v' 0 (0)) (zu (zu (zu f' 8 (L')) 9 (S')) 10 (Gd)) (zu w' 1 (F')) := by
  obtain ⟨⟨i3, i4, i5, i6, i7, i8, i9, i10, i2, i0, i1, iw, ib, ic, isl⟩, ⟨j3, j4, j5, j6, j7, j8, j9, j10, j1, j2, jw, jb, jr, jsl⟩, hC, ⟨e0, e1, e3, e4, e5, e6, e9, e7, e8, e10⟩, sp, bd, br, sb⟩ := id h
  exact ⟨⟨i3, i4, i5, i6, i7, i8, i9, i10, Nat.zero_le 1, i0, i1, iw, ib, ic, isl⟩, ⟨j3, j4, j5, j6, j7, j8, j9, j10, j1, j2, jw, jb, jr, jsl⟩, (fun _ => hc), ⟨e0, e1, e3, e4, e5, e6, e9, e7, e8, e10⟩, sp, bd, br, sb⟩
theorem r_cut {v v' : Nat → Nat} {f f' : Nat → Nat → Nat} {w w' : Nat → Nat → Int32} (h : zRel v f w v' f' w') {L S L' S' Gd : Nat → Nat} {F F' : Nat → Int32} (hc : zCP v f L S F) (hm : zMP v' f' L' S' Gd F') (hk : k_cut (v 4) (v 3) (v 10) = 0) : zRel (zu (zu (zu v 2 (0)) 10 (v 10 + 1)) 4 (v 4 + S (v 4))) (zu (zu (zu (zu f 4 (L)) 5 (S)) 6 (va_up (f 6) (v 10) (v 4))) 7 (va_up (f 7) (v 10) (S (v 4)))) (zu (zu w 0 (F)) 1 (va_up (w 1) (v 10) (F (v 4)))) (zu (zu (zu v' 0 (0)) 4 (zend F' S' (v' 3) (v' 4))) 10 (v' 10 + 1)) (zu (zu (zu (zu (zu f' 8 (L')) 9 (S')) 10 (Gd)) 6 (va_up (f' 6) (v' 10) (v' 4))) 7 (va_up (f' 7) (v' 10) (zend F' S' (v' 3) (v' 4) - v' 4))) (zu (zu w' 1 (F')) 0 (va_up (w' 0) (v' 10) (F' (v' 4)))) := by
  obtain ⟨⟨i3, i4, i5, i6, i7, i8, i9, i10, i2, i0, i1, iw, ib, ic, isl⟩, ⟨j3, j4, j5, j6, j7, j8, j9, j10, j1, j2, jw, jb, jr, jsl⟩, hC, ⟨e0, e1, e3, e4, e5, e6, e9, e7, e8, e10⟩, sp, bd, br, sb⟩ := id h
  have b := k_cut_0 hk
  have pl := (zplan h hc hm (v 4) (Nat.le_refl _) i4).2 b.1
  have hE := zCP_E h.1 hc _ (v 4) rfl (Nat.le_refl _) b.1
  have pe : v 4 + S (v 4) = zend F' S' (v' 3) (v' 4) := by rw [← e4]; exact pl.2
  have is2 : ∀ k, k < v 10 + 1 → va_up (f 6) (v 10) (v 4) k ≤ 300 ∧ va_up (f 7) (v 10) (S (v 4)) k ≤ 300 := by
    intro k hk9
    by_cases e : k = v 10
    · rw [e, va_up_self, va_up_self]; omega
    · rw [va_up_ne _ _ e, va_up_ne _ _ e]; exact isl k (by omega)
  have js2 : ∀ k, k < v' 10 + 1 → va_up (f' 6) (v' 10) (v' 4) k ≤ 300 ∧ va_up (f' 7) (v' 10) (zend F' S' (v' 3) (v' 4) - v' 4) k ≤ 300 := by
    intro k hk9
    by_cases e : k = v' 10
    · rw [e, va_up_self, va_up_self]; omega
    · rw [va_up_ne _ _ e, va_up_ne _ _ e]; exact jsl k (by omega)
  have sb2 : ∀ k, k < v 10 + 1 → va_up (f 6) (v 10) (v 4) k = va_up (f' 6) (v' 10) (v' 4) k ∧ va_up (f 7) (v 10) (S (v 4)) k = va_up (f' 7) (v' 10) (zend F' S' (v' 3) (v' 4) - v' 4) k ∧ va_up (w 1) (v 10) (F (v 4)) k = va_up (w' 0) (v' 10) (F' (v' 4)) k := by
    intro k hk9
    by_cases e : k = v 10
    · rw [← e10, e, va_up_self, va_up_self, va_up_self, va_up_self, va_up_self, va_up_self, ← e4]
      exact ⟨rfl, by omega, pl.1⟩
    · have e' : k ≠ v' 10 := by omega
      rw [va_up_ne _ _ e, va_up_ne _ _ e, va_up_ne _ _ e, va_up_ne _ _ e', va_up_ne _ _ e', va_up_ne _ _ e']
      exact sb k (by omega)
  have fr := zcut_free h.1 hc b.1
  have hc2 : zinv (v 3) (v 4 + S (v 4)) (v 9) (f 2) (f 3) (zG v f) (f 1) (v 4 + S (v 4)) L F S := zinv_torch hc (by omega) fr
  exact ⟨⟨i3, (show v 4 + S (v 4) ≤ v 3 from by omega), i5, i6, i7, i8, i9, (show v 10 + 1 ≤ 100 from by omega), Nat.zero_le 1, i0, i1, iw, ib, ic, is2⟩, ⟨j3, (show zend F' S' (v' 3) (v' 4) ≤ v' 3 from by omega), j5, j6, j7, j8, j9, (show v' 10 + 1 ≤ 100 from by omega), j1, j2, jw, jb, jr, js2⟩, (fun _ => hc2), ⟨e0, e1, e3, pe, e5, e6, e9, e7, e8, (show v 10 + 1 = v' 10 + 1 from by omega)⟩, sp, bd, br, sb2⟩
