/-! BOTH SIDES: the answers of each call, merged (rows written by wip/whole/mk_rel.py) -/
theorem zpart_eq {v v' : Nat → Nat} {f f' : Nat → Nat → Nat} {w w' : Nat → Nat → Int32} {L S L' S' G' : Nat → Nat} {F F' : Nat → Int32} (h : zRel v f w v' f' w') (hc : zCP v f L S F) (hm : zMP v' f' L' S' G' F') (i : Nat) (z1 : Int) :
    zpart (v 3) (v 4) S F i z1 = zpartM (v' 3) (v' 4) S' F' i z1 := by
  have pl := zplan h hc hm
  have hE := zCP_E h.1 hc
  obtain ⟨⟨i3, i4, i5, i6, i7, i8, i9, i10, i2, i0, i1, iw, ib, ic, isl⟩, ⟨j3, j4, j5, j6, j7, j8, j9, j10, j1, j2, jw, jb, jr, jsl⟩, hC, ⟨e0, e1, e3, e4, e5, e6, e9, e7, e8, e10⟩, sp, bd, br, sb⟩ := id h
  have hE2 : ∀ p, v 4 ≤ p → p < v 3 → p < (fun p => p + S p) p ∧ (fun p => p + S p) p ≤ v 3 := fun p h1 h2 => hE _ p rfl h1 h2
  have cg : ∀ k, zit (fun p => p + S p) (v 3) k (v 4) = zit (zend F' S' (v 3)) (v 3) k (v 4) := fun k => zit_congr (t := v 4) (fun p h1 h2 => by
    have q1 := (pl p h1 (by omega)).2 h2
    have q2 := hE2 p h1 h2
    refine ⟨?_, by omega⟩
    rw [e3]
    exact q1.2) k (v 4) (Nat.le_refl _)
  have mn : zit (fun p => p + S p) (v 3) (min i 300) (v 4) = zit (fun p => p + S p) (v 3) i (v 4) := by
    by_cases a : i ≤ 300
    · rw [Nat.min_eq_left a]
    · rw [Nat.min_eq_right (by omega), zit_full hE2 300 (v 4) (Nat.le_refl _) i4 (by omega), zit_full hE2 i (v 4) (Nat.le_refl _) i4 (by omega)]
  have hX := zit_in hE2 i (v 4) (Nat.le_refl _) i4
  unfold zpart zpartM
  rw [← e3, ← e4, mn, ← cg i]
  generalize zit (fun p => p + S p) (v 3) i (v 4) = X at hX ⊢
  by_cases a : X < v 3
  · have q := (pl X hX.1 hX.2).2 a
    rw [if_pos a, if_neg (show ¬ X = v 3 from by omega)]
    by_cases b : z1 = 0
    · rw [if_pos b, if_pos b]; exact q.1
    · rw [if_neg b, if_neg b]
      by_cases c : z1 = 1
      · rw [if_pos c, if_pos c]
      · rw [if_neg c, if_neg c]
        have e : zend F' S' (v 3) X = X + S X := by rw [e3]; exact q.2.symm
        rw [e]
        congr 1
        omega
  · rw [if_neg a, if_pos (show X = v 3 from by omega)]
theorem m_step {v v' : Nat → Nat} {f f' : Nat → Nat → Nat} {w w' : Nat → Nat → Int32} (h : zRel v f w v' f' w') {z0 : Int} {z1 : Int} {r : Int32} {u : ZS × (Nat → Int64)} {u' : ZS}  (hc9 : (k_step (v 10) z0 z1 = 0 ∧ r = nI 0 ∧ u.1 = ((zu (zu v 0 (z0.toNat)) 1 (z1.toNat)), f, w)) ∨ (∃ c9, c9 ≠ 0 ∧ k_step (v 10) z0 z1 = c9 ∧ r = nI c9 ∧ u.1 = (v, f, w))) (hm9 : (k_step (v' 10) z0 z1 = 0 ∧ u' = ((zu (zu (zu v' 0 (0)) 1 (z0.toNat)) 2 (z1.toNat)), f', w')) ∨ (∃ c9, c9 ≠ 0 ∧ k_step (v' 10) z0 z1 = c9 ∧ u' = (zu v' 0 c9, f', w'))) : ∃ c, c ≤ 2 ∧ r = nI c ∧ u'.1 0 = c ∧ zRel u.1.1 u.1.2.1 u.1.2.2 u'.1 u'.2.1 u'.2.2 := by
  have h0 := h
  obtain ⟨⟨i3, i4, i5, i6, i7, i8, i9, i10, i2, i0, i1, iw, ib, ic, isl⟩, ⟨j3, j4, j5, j6, j7, j8, j9, j10, j1, j2, jw, jb, jr, jsl⟩, hC, ⟨e0, e1, e3, e4, e5, e6, e9, e7, e8, e10⟩, sp, bd, br, sb⟩ := id h
  have ek : k_step (v 10) z0 z1 = k_step (v' 10) z0 z1 := by rw [e10]
  rcases hc9 with ⟨hk, hr, hu⟩ | ⟨c, hc0, hk, hr, hu⟩
  · rcases hm9 with ⟨hk', hu'⟩ | ⟨c', hc0', hk', hu'⟩
    · refine ⟨0, by decide, hr, by rw [hu']; rfl, by rw [hu, hu']; exact r_step h0 hk⟩
    · exact absurd (hk'.symm.trans (ek.symm.trans hk)) hc0'
  · rcases hm9 with ⟨hk', hu'⟩ | ⟨c', hc0', hk', hu'⟩
    · exact absurd (hk.symm.trans (ek.trans hk')) hc0
    · have e : c' = c := hk'.symm.trans (ek.symm.trans hk)
      refine ⟨c, by rw [← hk]; exact k_le_step _ _ _, hr, by rw [hu', e]; rfl, by rw [hu, hu']; exact h0⟩
theorem m_cast {v v' : Nat → Nat} {f f' : Nat → Nat → Nat} {w w' : Nat → Nat → Int32} (h : zRel v f w v' f' w') {z0 : Int} {r : Int32} {u : ZS × (Nat → Int64)} {u' : ZS} {r6 : Int32} (hc9 : (k_cast (v 3) z0 = 0 ∧ r = nI 0 ∧ u.1 = ((zu (zu v 3 (v 3 + z0.toNat)) 2 (1)), f, w) ∧ u.2 0 = (nI (v 3 + z0.toNat)).toInt64) ∨ (∃ c9, c9 ≠ 0 ∧ k_cast (v 3) z0 = c9 ∧ r = nI c9 ∧ u.1 = (v, f, w))) (hm9 : (k_cast (v' 3) z0 = 0 ∧ u' = ((zu (zu v' 0 (0)) 3 (v' 3 + z0.toNat)), f', w') ∧ r6 = nI (v' 3 + z0.toNat)) ∨ (∃ c9, c9 ≠ 0 ∧ k_cast (v' 3) z0 = c9 ∧ u' = (zu v' 0 c9, f', w'))) : ∃ c, c ≤ 2 ∧ r = nI c ∧ u'.1 0 = c ∧ zRel u.1.1 u.1.2.1 u.1.2.2 u'.1 u'.2.1 u'.2.2 ∧ (c = 0 → u.2 0 = r6.toInt64) := by
  have h0 := h
  obtain ⟨⟨i3, i4, i5, i6, i7, i8, i9, i10, i2, i0, i1, iw, ib, ic, isl⟩, ⟨j3, j4, j5, j6, j7, j8, j9, j10, j1, j2, jw, jb, jr, jsl⟩, hC, ⟨e0, e1, e3, e4, e5, e6, e9, e7, e8, e10⟩, sp, bd, br, sb⟩ := id h
  have ek : k_cast (v 3) z0 = k_cast (v' 3) z0 := by rw [e3]
  rcases hc9 with ⟨hk, hr, hu, ho⟩ | ⟨c, hc0, hk, hr, hu⟩
  · rcases hm9 with ⟨hk', hu', hr6⟩ | ⟨c', hc0', hk', hu'⟩
    · refine ⟨0, by decide, hr, by rw [hu']; rfl, by rw [hu, hu']; exact r_cast h0 hk, fun _ => by rw [ho, hr6]; rw [e3]⟩
    · exact absurd (hk'.symm.trans (ek.symm.trans hk)) hc0'
  · rcases hm9 with ⟨hk', hu', hr6⟩ | ⟨c', hc0', hk', hu'⟩
    · exact absurd (hk.symm.trans (ek.trans hk')) hc0
    · have e : c' = c := hk'.symm.trans (ek.symm.trans hk)
      refine ⟨c, by rw [← hk]; exact k_le_cast _ _, hr, by rw [hu', e]; rfl, by rw [hu, hu']; exact h0, fun q => absurd q hc0⟩
theorem m_want {v v' : Nat → Nat} {f f' : Nat → Nat → Nat} {w w' : Nat → Nat → Int32} (h : zRel v f w v' f' w') {z0 : Int} {z1 : Int} {r : Int32} {u : ZS × (Nat → Int64)} {u' : ZS} {r6 : Int32} (hc9 : (k_want (v 9) z0 z1 = 0 ∧ r = nI 0 ∧ u.1 = ((zu (zu v 9 (v 9 + 1)) 2 (1)), (zu (zu f 2 (va_up (f 2) (v 9) z0.toNat)) 3 (va_up (f 3) (v 9) z1.toNat)), w) ∧ u.2 0 = (nI (v 9)).toInt64) ∨ (∃ c9, c9 ≠ 0 ∧ k_want (v 9) z0 z1 = c9 ∧ r = nI c9 ∧ u.1 = (v, f, w))) (hm9 : (k_want (v' 7) z0 z1 = 0 ∧ u' = ((zu (zu v' 0 (0)) 7 (v' 7 + 1)), (zu (zu f' 0 (va_up (f' 0) (v' 7) z0.toNat)) 1 (va_up (f' 1) (v' 7) z1.toNat)), w') ∧ r6 = nI (v' 7)) ∨ (∃ c9, c9 ≠ 0 ∧ k_want (v' 7) z0 z1 = c9 ∧ u' = (zu v' 0 c9, f', w'))) : ∃ c, c ≤ 2 ∧ r = nI c ∧ u'.1 0 = c ∧ zRel u.1.1 u.1.2.1 u.1.2.2 u'.1 u'.2.1 u'.2.2 ∧ (c = 0 → u.2 0 = r6.toInt64) := by
  have h0 := h
  obtain ⟨⟨i3, i4, i5, i6, i7, i8, i9, i10, i2, i0, i1, iw, ib, ic, isl⟩, ⟨j3, j4, j5, j6, j7, j8, j9, j10, j1, j2, jw, jb, jr, jsl⟩, hC, ⟨e0, e1, e3, e4, e5, e6, e9, e7, e8, e10⟩, sp, bd, br, sb⟩ := id h
  have ek : k_want (v 9) z0 z1 = k_want (v' 7) z0 z1 := by rw [e9]
  rcases hc9 with ⟨hk, hr, hu, ho⟩ | ⟨c, hc0, hk, hr, hu⟩
  · rcases hm9 with ⟨hk', hu', hr6⟩ | ⟨c', hc0', hk', hu'⟩
    · refine ⟨0, by decide, hr, by rw [hu']; rfl, by rw [hu, hu']; exact r_want h0 hk, fun _ => by rw [ho, hr6]; rw [e9]⟩
    · exact absurd (hk'.symm.trans (ek.symm.trans hk)) hc0'
  · rcases hm9 with ⟨hk', hu', hr6⟩ | ⟨c', hc0', hk', hu'⟩
    · exact absurd (hk.symm.trans (ek.trans hk')) hc0
    · have e : c' = c := hk'.symm.trans (ek.symm.trans hk)
      refine ⟨c, by rw [← hk]; exact k_le_want _ _ _, hr, by rw [hu', e]; rfl, by rw [hu, hu']; exact h0, fun q => absurd q hc0⟩
theorem m_span {v v' : Nat → Nat} {f f' : Nat → Nat → Nat} {w w' : Nat → Nat → Int32} (h : zRel v f w v' f' w') {z0 : Int} {z1 : Int} {z2 : Int} {r : Int32} {u : ZS × (Nat → Int64)} {u' : ZS}  (hc9 : (k_span (v 9) z0 z1 z2 = 0 ∧ r = nI 0 ∧ u.1 = ((zu v 2 (1)), (zu (zu f 2 (va_up (f 2) z0.toNat z1.toNat)) 3 (va_up (f 3) z0.toNat z2.toNat)), w)) ∨ (∃ c9, c9 ≠ 0 ∧ k_span (v 9) z0 z1 z2 = c9 ∧ r = nI c9 ∧ u.1 = (v, f, w))) (hm9 : (k_span (v' 7) z0 z1 z2 = 0 ∧ u' = ((zu v' 0 (0)), (zu (zu f' 0 (va_up (f' 0) z0.toNat z1.toNat)) 1 (va_up (f' 1) z0.toNat z2.toNat)), w')) ∨ (∃ c9, c9 ≠ 0 ∧ k_span (v' 7) z0 z1 z2 = c9 ∧ u' = (zu v' 0 c9, f', w'))) : ∃ c, c ≤ 2 ∧ r = nI c ∧ u'.1 0 = c ∧ zRel u.1.1 u.1.2.1 u.1.2.2 u'.1 u'.2.1 u'.2.2 := by
  have h0 := h
  obtain ⟨⟨i3, i4, i5, i6, i7, i8, i9, i10, i2, i0, i1, iw, ib, ic, isl⟩, ⟨j3, j4, j5, j6, j7, j8, j9, j10, j1, j2, jw, jb, jr, jsl⟩, hC, ⟨e0, e1, e3, e4, e5, e6, e9, e7, e8, e10⟩, sp, bd, br, sb⟩ := id h
  have ek : k_span (v 9) z0 z1 z2 = k_span (v' 7) z0 z1 z2 := by rw [e9]
  rcases hc9 with ⟨hk, hr, hu⟩ | ⟨c, hc0, hk, hr, hu⟩
  · rcases hm9 with ⟨hk', hu'⟩ | ⟨c', hc0', hk', hu'⟩
    · refine ⟨0, by decide, hr, by rw [hu']; rfl, by rw [hu, hu']; exact r_span h0 hk⟩
    · exact absurd (hk'.symm.trans (ek.symm.trans hk)) hc0'
  · rcases hm9 with ⟨hk', hu'⟩ | ⟨c', hc0', hk', hu'⟩
    · exact absurd (hk.symm.trans (ek.trans hk')) hc0
    · have e : c' = c := hk'.symm.trans (ek.symm.trans hk)
      refine ⟨c, by rw [← hk]; exact k_le_span _ _ _ _, hr, by rw [hu', e]; rfl, by rw [hu, hu']; exact h0⟩
theorem m_trim {v v' : Nat → Nat} {f f' : Nat → Nat → Nat} {w w' : Nat → Nat → Int32} (h : zRel v f w v' f' w') {z0 : Int} {z1 : Int} {r : Int32} {u : ZS × (Nat → Int64)} {u' : ZS}  (hc9 : (k_trim z0 z1 = 0 ∧ r = nI 0 ∧ u.1 = ((zu (zu (zu v 5 (z0.toNat)) 6 (z1.toNat)) 2 (1)), f, w)) ∨ (∃ c9, c9 ≠ 0 ∧ k_trim z0 z1 = c9 ∧ r = nI c9 ∧ u.1 = (v, f, w))) (hm9 : (k_trim z0 z1 = 0 ∧ u' = ((zu (zu (zu v' 0 (0)) 5 (z0.toNat)) 6 (z1.toNat)), f', w')) ∨ (∃ c9, c9 ≠ 0 ∧ k_trim z0 z1 = c9 ∧ u' = (zu v' 0 c9, f', w'))) : ∃ c, c ≤ 2 ∧ r = nI c ∧ u'.1 0 = c ∧ zRel u.1.1 u.1.2.1 u.1.2.2 u'.1 u'.2.1 u'.2.2 := by
  have h0 := h
  obtain ⟨⟨i3, i4, i5, i6, i7, i8, i9, i10, i2, i0, i1, iw, ib, ic, isl⟩, ⟨j3, j4, j5, j6, j7, j8, j9, j10, j1, j2, jw, jb, jr, jsl⟩, hC, ⟨e0, e1, e3, e4, e5, e6, e9, e7, e8, e10⟩, sp, bd, br, sb⟩ := id h
  have ek : k_trim z0 z1 = k_trim z0 z1 := by rfl
  rcases hc9 with ⟨hk, hr, hu⟩ | ⟨c, hc0, hk, hr, hu⟩
  · rcases hm9 with ⟨hk', hu'⟩ | ⟨c', hc0', hk', hu'⟩
    · refine ⟨0, by decide, hr, by rw [hu']; rfl, by rw [hu, hu']; exact r_trim h0 hk⟩
    · exact absurd (hk'.symm.trans (ek.symm.trans hk)) hc0'
  · rcases hm9 with ⟨hk', hu'⟩ | ⟨c', hc0', hk', hu'⟩
    · exact absurd (hk.symm.trans (ek.trans hk')) hc0
    · have e : c' = c := hk'.symm.trans (ek.symm.trans hk)
      refine ⟨c, by rw [← hk]; exact k_le_trim _ _, hr, by rw [hu', e]; rfl, by rw [hu, hu']; exact h0⟩
theorem m_bad {v v' : Nat → Nat} {f f' : Nat → Nat → Nat} {w w' : Nat → Nat → Int32} (h : zRel v f w v' f' w') {z0 : Int} {z1 : Int} {r : Int32} {u : ZS × (Nat → Int64)} {u' : ZS} {r6 : Int32} (hc9 : (∃ g9 : Nat → Nat, k_bad (v 7) z0 z1 = 0 ∧ (∀ p, g9 p = if z0.toNat ≤ p ∧ p < z1.toNat then 1 else f 0 p) ∧ r = nI 0 ∧ u.1 = ((zu (zu v 7 (v 7 + 1)) 2 (1)), (zu f 0 (g9)), w) ∧ u.2 0 = (nI (v 7 + 1)).toInt64) ∨ (∃ c9, c9 ≠ 0 ∧ k_bad (v 7) z0 z1 = c9 ∧ r = nI c9 ∧ u.1 = (v, f, w))) (hm9 : (k_bad (v' 8) z0 z1 = 0 ∧ u' = ((zu (zu v' 0 (0)) 8 (v' 8 + 1)), (zu (zu f' 2 (va_up (f' 2) (v' 8) z0.toNat)) 3 (va_up (f' 3) (v' 8) z1.toNat)), w') ∧ r6 = nI (v' 8 + 1)) ∨ (∃ c9, c9 ≠ 0 ∧ k_bad (v' 8) z0 z1 = c9 ∧ u' = (zu v' 0 c9, f', w'))) : ∃ c, c ≤ 2 ∧ r = nI c ∧ u'.1 0 = c ∧ zRel u.1.1 u.1.2.1 u.1.2.2 u'.1 u'.2.1 u'.2.2 ∧ (c = 0 → u.2 0 = r6.toInt64) := by
  have h0 := h
  obtain ⟨⟨i3, i4, i5, i6, i7, i8, i9, i10, i2, i0, i1, iw, ib, ic, isl⟩, ⟨j3, j4, j5, j6, j7, j8, j9, j10, j1, j2, jw, jb, jr, jsl⟩, hC, ⟨e0, e1, e3, e4, e5, e6, e9, e7, e8, e10⟩, sp, bd, br, sb⟩ := id h
  have ek : k_bad (v 7) z0 z1 = k_bad (v' 8) z0 z1 := by rw [e7]
  rcases hc9 with ⟨g9, hk, hf, hr, hu, ho⟩ | ⟨c, hc0, hk, hr, hu⟩
  · rcases hm9 with ⟨hk', hu', hr6⟩ | ⟨c', hc0', hk', hu'⟩
    · refine ⟨0, by decide, hr, by rw [hu']; rfl, by rw [hu, hu']; exact r_bad h0 hk hf, fun _ => by rw [ho, hr6]; rw [e7]⟩
    · exact absurd (hk'.symm.trans (ek.symm.trans hk)) hc0'
  · rcases hm9 with ⟨hk', hu', hr6⟩ | ⟨c', hc0', hk', hu'⟩
    · exact absurd (hk.symm.trans (ek.trans hk')) hc0
    · have e : c' = c := hk'.symm.trans (ek.symm.trans hk)
      refine ⟨c, by rw [← hk]; exact k_le_bad _ _ _, hr, by rw [hu', e]; rfl, by rw [hu, hu']; exact h0, fun q => absurd q hc0⟩
theorem m_bar {v v' : Nat → Nat} {f f' : Nat → Nat → Nat} {w w' : Nat → Nat → Int32} (h : zRel v f w v' f' w') {z0 : Int} {z1 : Int} {r : Int32} {u : ZS × (Nat → Int64)} {u' : ZS} {r6 : Int32} (hc9 : (∃ g9 : Nat → Nat, k_bad (v 8) z0 z1 = 0 ∧ (∀ p, g9 p = if z0.toNat ≤ p ∧ p < (z1.toNat + 1) then 1 else f 1 p) ∧ r = nI 0 ∧ u.1 = ((zu (zu v 8 (v 8 + 1)) 2 (1)), (zu f 1 (g9)), w) ∧ u.2 0 = (nI (v 8 + 1)).toInt64) ∨ (∃ c9, c9 ≠ 0 ∧ k_bad (v 8) z0 z1 = c9 ∧ r = nI c9 ∧ u.1 = (v, f, w))) (hm9 : (k_bad (v' 9) z0 z1 = 0 ∧ u' = ((zu (zu v' 0 (0)) 9 (v' 9 + 1)), (zu (zu f' 4 (va_up (f' 4) (v' 9) z0.toNat)) 5 (va_up (f' 5) (v' 9) z1.toNat)), w') ∧ r6 = nI (v' 9 + 1)) ∨ (∃ c9, c9 ≠ 0 ∧ k_bad (v' 9) z0 z1 = c9 ∧ u' = (zu v' 0 c9, f', w'))) : ∃ c, c ≤ 2 ∧ r = nI c ∧ u'.1 0 = c ∧ zRel u.1.1 u.1.2.1 u.1.2.2 u'.1 u'.2.1 u'.2.2 ∧ (c = 0 → u.2 0 = r6.toInt64) := by
  have h0 := h
  obtain ⟨⟨i3, i4, i5, i6, i7, i8, i9, i10, i2, i0, i1, iw, ib, ic, isl⟩, ⟨j3, j4, j5, j6, j7, j8, j9, j10, j1, j2, jw, jb, jr, jsl⟩, hC, ⟨e0, e1, e3, e4, e5, e6, e9, e7, e8, e10⟩, sp, bd, br, sb⟩ := id h
  have ek : k_bad (v 8) z0 z1 = k_bad (v' 9) z0 z1 := by rw [e8]
  rcases hc9 with ⟨g9, hk, hf, hr, hu, ho⟩ | ⟨c, hc0, hk, hr, hu⟩
  · rcases hm9 with ⟨hk', hu', hr6⟩ | ⟨c', hc0', hk', hu'⟩
    · refine ⟨0, by decide, hr, by rw [hu']; rfl, by rw [hu, hu']; exact r_bar h0 hk hf, fun _ => by rw [ho, hr6]; rw [e8]⟩
    · exact absurd (hk'.symm.trans (ek.symm.trans hk)) hc0'
  · rcases hm9 with ⟨hk', hu', hr6⟩ | ⟨c', hc0', hk', hu'⟩
    · exact absurd (hk.symm.trans (ek.trans hk')) hc0
    · have e : c' = c := hk'.symm.trans (ek.symm.trans hk)
      refine ⟨c, by rw [← hk]; exact k_le_bad _ _ _, hr, by rw [hu', e]; rfl, by rw [hu, hu']; exact h0, fun q => absurd q hc0⟩
theorem m_part {v v' : Nat → Nat} {f f' : Nat → Nat → Nat} {w w' : Nat → Nat → Int32} (h : zRel v f w v' f' w') {z0 : Int} {z1 : Int} {r : Int32} {u : ZS × (Nat → Int64)} {u' : ZS} {r6 : Int32} (hc9 : (∃ (L S : Nat → Nat) (F : Nat → Int32), k_part z0 z1 = 0 ∧ zCP v f L S F ∧ r = nI 0 ∧ u.1 = ((zu v 2 (0)), (zu (zu f 4 (L)) 5 (S)), (zu w 0 (F))) ∧ u.2 0 = (zpart (v 3) (v 4) S F z0.toNat z1).toInt64) ∨ (∃ c9, c9 ≠ 0 ∧ k_part z0 z1 = c9 ∧ r = nI c9 ∧ u.1 = (v, f, w))) (hm9 : (∃ L' S' Gd F', zMP v' f' L' S' Gd F' ∧ k_part z0 z1 = 0 ∧ u' = ((zu v' 0 (0)), (zu (zu (zu f' 8 (L')) 9 (S')) 10 (Gd)), (zu w' 1 (F'))) ∧ r6 = zpartM (v' 3) (v' 4) S' F' z0.toNat z1) ∨ (∃ c9, c9 ≠ 0 ∧ k_part z0 z1 = c9 ∧ u' = (zu v' 0 c9, f', w'))) : ∃ c, c ≤ 2 ∧ r = nI c ∧ u'.1 0 = c ∧ zRel u.1.1 u.1.2.1 u.1.2.2 u'.1 u'.2.1 u'.2.2 ∧ (c = 0 → u.2 0 = r6.toInt64) := by
  have h0 := h
  obtain ⟨⟨i3, i4, i5, i6, i7, i8, i9, i10, i2, i0, i1, iw, ib, ic, isl⟩, ⟨j3, j4, j5, j6, j7, j8, j9, j10, j1, j2, jw, jb, jr, jsl⟩, hC, ⟨e0, e1, e3, e4, e5, e6, e9, e7, e8, e10⟩, sp, bd, br, sb⟩ := id h
  have ek : k_part z0 z1 = k_part z0 z1 := by rfl
  rcases hc9 with ⟨L, S, F, hk, hc, hr, hu, ho⟩ | ⟨c, hc0, hk, hr, hu⟩
  · rcases hm9 with ⟨L', S', Gd, F', hm9, hk', hu', hr6⟩ | ⟨c', hc0', hk', hu'⟩
    · refine ⟨0, by decide, hr, by rw [hu']; rfl, by rw [hu, hu']; exact r_part h0 hc, fun _ => by rw [ho, hr6]; rw [zpart_eq h hc hm9]⟩
    · exact absurd (hk'.symm.trans (ek.symm.trans hk)) hc0'
  · rcases hm9 with ⟨L', S', Gd, F', hm9, hk', hu', hr6⟩ | ⟨c', hc0', hk', hu'⟩
    · exact absurd (hk.symm.trans (ek.trans hk')) hc0
    · have e : c' = c := hk'.symm.trans (ek.symm.trans hk)
      refine ⟨c, by rw [← hk]; exact k_le_part _ _, hr, by rw [hu', e]; rfl, by rw [hu, hu']; exact h0, fun q => absurd q hc0⟩
theorem m_cut {v v' : Nat → Nat} {f f' : Nat → Nat → Nat} {w w' : Nat → Nat → Int32} (h : zRel v f w v' f' w')  {r : Int32} {u : ZS × (Nat → Int64)} {u' : ZS} {r6 : Int32} (hc9 : (∃ (L S : Nat → Nat) (F : Nat → Int32), k_cut (v 4) (v 3) (v 10) = 0 ∧ zCP v f L S F ∧ r = nI 0 ∧ u.1 = ((zu (zu (zu v 2 (0)) 10 (v 10 + 1)) 4 (v 4 + S (v 4))), (zu (zu (zu (zu f 4 (L)) 5 (S)) 6 (va_up (f 6) (v 10) (v 4))) 7 (va_up (f 7) (v 10) (S (v 4)))), (zu (zu w 0 (F)) 1 (va_up (w 1) (v 10) (F (v 4))))) ∧ u.2 0 = (nI (v 10)).toInt64) ∨ (∃ c9, c9 ≠ 0 ∧ k_cut (v 4) (v 3) (v 10) = c9 ∧ r = nI c9 ∧ u.1 = (v, f, w))) (hm9 : (∃ L' S' Gd F', zMP v' f' L' S' Gd F' ∧ k_cut (v' 4) (v' 3) (v' 10) = 0 ∧ u' = ((zu (zu (zu v' 0 (0)) 4 (zend F' S' (v' 3) (v' 4))) 10 (v' 10 + 1)), (zu (zu (zu (zu (zu f' 8 (L')) 9 (S')) 10 (Gd)) 6 (va_up (f' 6) (v' 10) (v' 4))) 7 (va_up (f' 7) (v' 10) (zend F' S' (v' 3) (v' 4) - v' 4))), (zu (zu w' 1 (F')) 0 (va_up (w' 0) (v' 10) (F' (v' 4))))) ∧ r6 = nI (v' 10)) ∨ (∃ c9, c9 ≠ 0 ∧ k_cut (v' 4) (v' 3) (v' 10) = c9 ∧ u' = (zu v' 0 c9, f', w'))) : ∃ c, c ≤ 2 ∧ r = nI c ∧ u'.1 0 = c ∧ zRel u.1.1 u.1.2.1 u.1.2.2 u'.1 u'.2.1 u'.2.2 ∧ (c = 0 → u.2 0 = r6.toInt64) := by
  have h0 := h
  obtain ⟨⟨i3, i4, i5, i6, i7, i8, i9, i10, i2, i0, i1, iw, ib, ic, isl⟩, ⟨j3, j4, j5, j6, j7, j8, j9, j10, j1, j2, jw, jb, jr, jsl⟩, hC, ⟨e0, e1, e3, e4, e5, e6, e9, e7, e8, e10⟩, sp, bd, br, sb⟩ := id h
  have ek : k_cut (v 4) (v 3) (v 10) = k_cut (v' 4) (v' 3) (v' 10) := by rw [e4, e3, e10]
  rcases hc9 with ⟨L, S, F, hk, hc, hr, hu, ho⟩ | ⟨c, hc0, hk, hr, hu⟩
  · rcases hm9 with ⟨L', S', Gd, F', hm9, hk', hu', hr6⟩ | ⟨c', hc0', hk', hu'⟩
    · refine ⟨0, by decide, hr, by rw [hu']; rfl, by rw [hu, hu']; exact r_cut h0 hc hm9 hk, fun _ => by rw [ho, hr6]; rw [e10]⟩
    · exact absurd (hk'.symm.trans (ek.symm.trans hk)) hc0'
  · rcases hm9 with ⟨L', S', Gd, F', hm9, hk', hu', hr6⟩ | ⟨c', hc0', hk', hu'⟩
    · exact absurd (hk.symm.trans (ek.trans hk')) hc0
    · have e : c' = c := hk'.symm.trans (ek.symm.trans hk)
      refine ⟨c, by rw [← hk]; exact k_le_cut _ _ _, hr, by rw [hu', e]; rfl, by rw [hu, hu']; exact h0, fun q => absurd q hc0⟩
theorem m_slab {v v' : Nat → Nat} {f f' : Nat → Nat → Nat} {w w' : Nat → Nat → Int32} (h : zRel v f w v' f' w') {z0 : Int} {z1 : Int} {r : Int32} {u : ZS × (Nat → Int64)} {u' : ZS} {r6 : Int32} (hc9 : (k_slab (v 10) z0 z1 = 0 ∧ r = nI 0 ∧ u.1 = (v, f, w) ∧ u.2 0 = ((if z1 = 0 then w 1 z0.toNat else if z1 = 1 then nI (f 6 z0.toNat) else nI (f 7 z0.toNat))).toInt64) ∨ (∃ c9, c9 ≠ 0 ∧ k_slab (v 10) z0 z1 = c9 ∧ r = nI c9 ∧ u.1 = (v, f, w))) (hm9 : (k_slab (v' 10) z0 z1 = 0 ∧ u' = ((zu v' 0 (0)), f', w') ∧ r6 = (if z1 = 0 then w' 0 z0.toNat else if z1 = 1 then nI (f' 6 z0.toNat) else nI (f' 7 z0.toNat))) ∨ (∃ c9, c9 ≠ 0 ∧ k_slab (v' 10) z0 z1 = c9 ∧ u' = (zu v' 0 c9, f', w'))) : ∃ c, c ≤ 2 ∧ r = nI c ∧ u'.1 0 = c ∧ zRel u.1.1 u.1.2.1 u.1.2.2 u'.1 u'.2.1 u'.2.2 ∧ (c = 0 → u.2 0 = r6.toInt64) := by
  have h0 := h
  obtain ⟨⟨i3, i4, i5, i6, i7, i8, i9, i10, i2, i0, i1, iw, ib, ic, isl⟩, ⟨j3, j4, j5, j6, j7, j8, j9, j10, j1, j2, jw, jb, jr, jsl⟩, hC, ⟨e0, e1, e3, e4, e5, e6, e9, e7, e8, e10⟩, sp, bd, br, sb⟩ := id h
  have ek : k_slab (v 10) z0 z1 = k_slab (v' 10) z0 z1 := by rw [e10]
  rcases hc9 with ⟨hk, hr, hu, ho⟩ | ⟨c, hc0, hk, hr, hu⟩
  · rcases hm9 with ⟨hk', hu', hr6⟩ | ⟨c', hc0', hk', hu'⟩
    · have b := k_slab_0 hk
      refine ⟨0, by decide, hr, by rw [hu']; rfl, by rw [hu, hu']; exact h0, fun _ => by rw [ho, hr6]; rw [(sb z0.toNat (by omega)).1, (sb z0.toNat (by omega)).2.1, (sb z0.toNat (by omega)).2.2]⟩
    · exact absurd (hk'.symm.trans (ek.symm.trans hk)) hc0'
  · rcases hm9 with ⟨hk', hu', hr6⟩ | ⟨c', hc0', hk', hu'⟩
    · exact absurd (hk.symm.trans (ek.trans hk')) hc0
    · have e : c' = c := hk'.symm.trans (ek.symm.trans hk)
      refine ⟨c, by rw [← hk]; exact k_le_slab _ _ _, hr, by rw [hu', e]; rfl, by rw [hu, hu']; exact h0, fun q => absurd q hc0⟩
theorem m_weight {v v' : Nat → Nat} {f f' : Nat → Nat → Nat} {w w' : Nat → Nat → Int32} (h : zRel v f w v' f' w') {z0 : Int} {r : Int32} {u : ZS × (Nat → Int64)} {u' : ZS} {r6 : Int64} (hc9 : (k_weight (v 10) z0 = 0 ∧ r = nI 0 ∧ u.1 = (v, f, w) ∧ u.2 0 = lN (f 7 z0.toNat) * lN (v 0) * lN (v 1) / 1000) ∨ (∃ c9, c9 ≠ 0 ∧ k_weight (v 10) z0 = c9 ∧ r = nI c9 ∧ u.1 = (v, f, w))) (hm9 : (k_weight (v' 10) z0 = 0 ∧ u' = ((zu v' 0 (0)), f', w') ∧ r6 = lN (f' 7 z0.toNat) * lN (v' 1) * lN (v' 2) / 1000) ∨ (∃ c9, c9 ≠ 0 ∧ k_weight (v' 10) z0 = c9 ∧ u' = (zu v' 0 c9, f', w'))) : ∃ c, c ≤ 2 ∧ r = nI c ∧ u'.1 0 = c ∧ zRel u.1.1 u.1.2.1 u.1.2.2 u'.1 u'.2.1 u'.2.2 ∧ (c = 0 → u.2 0 = r6) := by
  have h0 := h
  obtain ⟨⟨i3, i4, i5, i6, i7, i8, i9, i10, i2, i0, i1, iw, ib, ic, isl⟩, ⟨j3, j4, j5, j6, j7, j8, j9, j10, j1, j2, jw, jb, jr, jsl⟩, hC, ⟨e0, e1, e3, e4, e5, e6, e9, e7, e8, e10⟩, sp, bd, br, sb⟩ := id h
  have ek : k_weight (v 10) z0 = k_weight (v' 10) z0 := by rw [e10]
  rcases hc9 with ⟨hk, hr, hu, ho⟩ | ⟨c, hc0, hk, hr, hu⟩
  · rcases hm9 with ⟨hk', hu', hr6⟩ | ⟨c', hc0', hk', hu'⟩
    · have b := k_weight_0 hk
      refine ⟨0, by decide, hr, by rw [hu']; rfl, by rw [hu, hu']; exact h0, fun _ => by rw [ho, hr6]; rw [(sb z0.toNat (by omega)).2.1, e0, e1]⟩
    · exact absurd (hk'.symm.trans (ek.symm.trans hk)) hc0'
  · rcases hm9 with ⟨hk', hu', hr6⟩ | ⟨c', hc0', hk', hu'⟩
    · exact absurd (hk.symm.trans (ek.trans hk')) hc0
    · have e : c' = c := hk'.symm.trans (ek.symm.trans hk)
      refine ⟨c, by rw [← hk]; exact k_le_weight _ _, hr, by rw [hu', e]; rfl, by rw [hu, hu']; exact h0, fun q => absurd q hc0⟩
theorem m_count {v v' : Nat → Nat} {f f' : Nat → Nat → Nat} {w w' : Nat → Nat → Int32} (h : zRel v f w v' f' w') {z0 : Int} {p0 : Int32} {r : Int32} {u : ZS × (Nat → Int64)} {u' : ZS} {r6 : Int32} (hc9 : (k_count (v 9) z0 = 0 ∧ r = nI 0 ∧ u.1 = (v, f, w) ∧ u.2 0 = (nI (zcnt (w 1) p0 (v 10))).toInt64) ∨ (∃ c9, c9 ≠ 0 ∧ k_count (v 9) z0 = c9 ∧ r = nI c9 ∧ u.1 = (v, f, w))) (hm9 : (k_count (v' 7) z0 = 0 ∧ u' = ((zu v' 0 (0)), f', w') ∧ r6 = nI (zcnt (w' 0) p0 (v' 10))) ∨ (∃ c9, c9 ≠ 0 ∧ k_count (v' 7) z0 = c9 ∧ u' = (zu v' 0 c9, f', w'))) : ∃ c, c ≤ 2 ∧ r = nI c ∧ u'.1 0 = c ∧ zRel u.1.1 u.1.2.1 u.1.2.2 u'.1 u'.2.1 u'.2.2 ∧ (c = 0 → u.2 0 = r6.toInt64) := by
  have h0 := h
  obtain ⟨⟨i3, i4, i5, i6, i7, i8, i9, i10, i2, i0, i1, iw, ib, ic, isl⟩, ⟨j3, j4, j5, j6, j7, j8, j9, j10, j1, j2, jw, jb, jr, jsl⟩, hC, ⟨e0, e1, e3, e4, e5, e6, e9, e7, e8, e10⟩, sp, bd, br, sb⟩ := id h
  have ek : k_count (v 9) z0 = k_count (v' 7) z0 := by rw [e9]
  rcases hc9 with ⟨hk, hr, hu, ho⟩ | ⟨c, hc0, hk, hr, hu⟩
  · rcases hm9 with ⟨hk', hu', hr6⟩ | ⟨c', hc0', hk', hu'⟩
    · refine ⟨0, by decide, hr, by rw [hu']; rfl, by rw [hu, hu']; exact h0, fun _ => by rw [ho, hr6]; rw [zcnt_congr (g := w' 0) (v 10) (fun j hj => (sb j hj).2.2), e10]⟩
    · exact absurd (hk'.symm.trans (ek.symm.trans hk)) hc0'
  · rcases hm9 with ⟨hk', hu', hr6⟩ | ⟨c', hc0', hk', hu'⟩
    · exact absurd (hk.symm.trans (ek.trans hk')) hc0
    · have e : c' = c := hk'.symm.trans (ek.symm.trans hk)
      refine ⟨c, by rw [← hk]; exact k_le_count _ _, hr, by rw [hu', e]; rfl, by rw [hu, hu']; exact h0, fun q => absurd q hc0⟩
