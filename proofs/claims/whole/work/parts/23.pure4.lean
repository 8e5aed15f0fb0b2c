/-! PURE, fourth part: one candidate more, as the reference tries them -/
/-- candidates (x, l') with l' < l, and all of higher wanted lengths -/
def zQa (c : Nat → Nat → Prop) (x l : Nat) : Nat → Nat → Prop := fun w' l' => c w' l' ∧ (x < w' ∨ (w' = x ∧ l' < l))
theorem zstepM {n t0 W : Nat} {lo hi B L : Nat → Nat} {r p s0 S0 a S x l : Nat} {F : Int32} (hb : zB (zQa (zcand n t0 W lo hi B r p) x l) L p s0 S0 a F S) (hx : x < W) (hW : W ≤ 6) (hl : lo x ≤ l) (hh : l ≤ hi x) (hr : l ≤ r) (hm : p = t0 ∨ B p = 0) :
    ((p + l = n ∨ B (p + l) = 0) → L (p + l) ≤ a → zB (zQa (zcand n t0 W lo hi B r p) x (l + 1)) L p s0 S0 (L (p + l)) (nI x) l) ∧
    (¬ ((p + l = n ∨ B (p + l) = 0) ∧ L (p + l) ≤ a) → zB (zQa (zcand n t0 W lo hi B r p) x (l + 1)) L p s0 S0 a F S) := by
  by_cases hE : p + l = n ∨ B (p + l) = 0
  · have hP : ∀ w' l', zQa (zcand n t0 W lo hi B r p) x (l + 1) w' l' ↔ zQa (zcand n t0 W lo hi B r p) x l w' l' ∨ (w' = x ∧ l' = l) := by
      intro w' l'
      unfold zQa
      constructor
      · rintro ⟨q1, q2⟩
        by_cases e : w' = x ∧ l' = l
        · exact Or.inr e
        · refine Or.inl ⟨q1, ?_⟩
          omega
      · rintro (⟨q1, q2⟩ | ⟨e1, e2⟩)
        · refine ⟨q1, ?_⟩
          omega
        · refine ⟨?_, Or.inr ⟨e1, by omega⟩⟩
          rw [e1, e2]
          exact ⟨hm, hx, hl, hh, hr, hE⟩
    have hq : ∀ w' l', zQa (zcand n t0 W lo hi B r p) x l w' l' → x < w' ∨ (x = w' ∧ l' < l) := fun w' l' q => by
      have := q.2
      omega
    obtain ⟨k1, k2⟩ := zB_pre hb (by omega) hP hq
    exact ⟨fun _ h => k1 h, fun h => k2 (Nat.lt_of_not_le (fun q => h ⟨hE, q⟩))⟩
  · refine ⟨fun h => absurd h hE, fun _ => zB_congr ?_ hb⟩
    intro w' l'
    unfold zQa
    constructor
    · rintro ⟨q1, q2⟩
      exact ⟨q1, by omega⟩
    · rintro ⟨q1, q2⟩
      refine ⟨q1, ?_⟩
      by_cases e : w' = x ∧ l' = l
      · obtain ⟨e1, e2⟩ := e
        rw [e2] at q1
        exact absurd q1.2.2.2.2.2 hE
      · omega
theorem zbeginM {n t0 W : Nat} {lo hi B L : Nat → Nat} {r p s0 S0 : Nat} : zB (fun w l => zcand n t0 W lo hi B r p w l ∧ W ≤ w) L p s0 S0 s0 (-1) S0 := zB_nil (fun w l q => by
  have := q.2
  have := q.1.2.1
  omega)
theorem zinnerM {n t0 W : Nat} {lo hi B L : Nat → Nat} {r p s0 S0 a S x : Nat} {F : Int32} (hb : zB (fun w l => zcand n t0 W lo hi B r p w l ∧ x + 1 ≤ w) L p s0 S0 a F S) : zB (zQa (zcand n t0 W lo hi B r p) x (lo x)) L p s0 S0 a F S := by
  refine zB_congr ?_ hb
  intro w l
  unfold zQa
  constructor
  · rintro ⟨q1, q2⟩
    exact ⟨q1, Or.inl q2⟩
  · rintro ⟨q1, q2⟩
    refine ⟨q1, ?_⟩
    rcases q2 with q2 | ⟨q2, q3⟩
    · exact q2
    · have h4 := q1.2.2.1
      rw [q2] at h4
      omega
theorem zouterM {n t0 W : Nat} {lo hi B L : Nat → Nat} {r p s0 S0 a S x l : Nat} {F : Int32} (hb : zB (zQa (zcand n t0 W lo hi B r p) x l) L p s0 S0 a F S) (hl : hi x < l ∨ r < l) : zB (fun w l => zcand n t0 W lo hi B r p w l ∧ x ≤ w) L p s0 S0 a F S := by
  refine zB_congr ?_ hb
  intro w l'
  unfold zQa
  constructor
  · rintro ⟨q1, q2⟩
    exact ⟨q1, by omega⟩
  · rintro ⟨q1, q2⟩
    refine ⟨q1, ?_⟩
    by_cases e : x < w
    · exact Or.inl e
    · have e1 : w = x := by omega
      have h4 := q1.2.2.2.1
      have h5 := q1.2.2.2.2.1
      rw [e1] at h4
      exact Or.inr ⟨e1, by omega⟩
theorem zfullM {n t0 W : Nat} {lo hi B L : Nat → Nat} {r p s0 S0 a S : Nat} {F : Int32} (hb : zB (fun w l => zcand n t0 W lo hi B r p w l ∧ 0 ≤ w) L p s0 S0 a F S) : zB (zcand n t0 W lo hi B r p) L p s0 S0 a F S := zB_congr (fun w l => ⟨fun q => q.1, fun q => ⟨q, Nat.zero_le _⟩⟩) hb
/-- the reference's numbers, and its plan from place k on -/
def zJ (v : Nat → Nat) (f : Nat → Nat → Nat) : Prop :=
  v 3 ≤ 300 ∧ v 4 ≤ v 3 ∧ v 5 ≤ 300 ∧ v 6 ≤ 300 ∧ v 7 ≤ 6 ∧ v 8 ≤ 20 ∧ v 9 ≤ 20 ∧ v 10 ≤ 100 ∧ v 1 ≤ 65536 ∧ v 2 ≤ 100000 ∧
  (∀ k, k < v 7 → 1 ≤ f 0 k ∧ f 0 k ≤ f 1 k ∧ f 1 k ≤ 60) ∧ (∀ k, k < v 8 → f 2 k ≤ 300 ∧ f 3 k ≤ 300) ∧ (∀ k, k < v 9 → f 4 k ≤ 300 ∧ f 5 k ≤ 300) ∧ ∀ k, k < v 10 → f 6 k ≤ 300 ∧ f 7 k ≤ 300
def zMG (v : Nat → Nat) (f : Nat → Nat → Nat) (p : Nat) : Nat := zgd (if v 5 ≤ p ∧ p + v 6 < v 3 then 1 else 0) (f 2) (f 3) p (v 8)
def zMB (v : Nat → Nat) (f : Nat → Nat → Nat) (p : Nat) : Nat := zbar (f 4) (f 5) p (v 9)
def zinvM (n t W : Nat) (lo hi G B : Nat → Nat) (k : Nat) (L : Nat → Nat) (F : Nat → Int32) (S Gd : Nat → Nat) : Prop :=
  L n = 0 ∧ Gd n = 0 ∧ (∀ p, k ≤ p → p < n → zB (zcand n t W lo hi B (zrun G n p) p) L p (L (p + 1) + 1) 1 (L p) (F p) (S p)) ∧ ∀ p, k ≤ p → p ≤ n → Gd p = zrun G n p ∧ L p ≤ n - p
theorem zinvM_0 {n t W : Nat} {lo hi G B L S Gd : Nat → Nat} {F : Nat → Int32} (h1 : L n = 0) (h2 : Gd n = 0) : zinvM n t W lo hi G B n L F S Gd := by
  refine ⟨h1, h2, fun p q1 q2 => absurd q2 (by omega), fun p q1 q2 => ?_⟩
  have e : p = n := by omega
  rw [e, h1, h2, zrun_n]
  exact ⟨rfl, Nat.zero_le _⟩
theorem zinvM_step {n t W : Nat} {lo hi G B L L' S S' Gd Gd' : Nat → Nat} {F F' : Nat → Int32} {p a s : Nat} {x : Int32} (hlo : ∀ w, w < W → 1 ≤ lo w) (h : zinvM n t W lo hi G B (p + 1) L F S Gd) (hp : p < n)
    (hb : zB (zcand n t W lo hi B (zrun G n p) p) L p (L (p + 1) + 1) 1 a x s) (hLp : L' p = a) (hLq : ∀ q, q ≠ p → L' q = L q) (hFp : F' p = x) (hFq : ∀ q, q ≠ p → F' q = F q) (hSp : S' p = s) (hSq : ∀ q, q ≠ p → S' q = S q)
    (hGp : Gd' p = zrun G n p) (hGq : ∀ q, q ≠ p → Gd' q = Gd q) : zinvM n t W lo hi G B p L' F' S' Gd' := by
  refine ⟨by rw [hLq n (by omega)]; exact h.1, by rw [hGq n (by omega)]; exact h.2.1, fun q h1 h2 => ?_, fun q h1 h2 => ?_⟩
  · by_cases e : q = p
    · rw [e, hLp, hFp, hSp, hLq (p + 1) (by omega)]
      refine zB_L (fun w l c => (hLq (p + l) ?_).symm) hb
      have := hlo w c.2.1
      have := c.2.2.1
      omega
    · rw [hLq q e, hFq q e, hSq q e, hLq (q + 1) (by omega)]
      refine zB_L (fun w l c => (hLq (q + l) (by omega)).symm) (h.2.2.1 q (by omega) h2)
  · by_cases e : q = p
    · rw [e, hLp, hGp]
      have h3 := h.2.2.2 (p + 1) (Nat.le_refl _) hp
      have h4 := zB_le hb
      exact ⟨rfl, by omega⟩
    · rw [hLq q e, hGq q e]
      exact h.2.2.2 q (by omega) h2
/-- the reference's plan is made -/
def zMP (v : Nat → Nat) (f : Nat → Nat → Nat) (L S Gd : Nat → Nat) (F : Nat → Int32) : Prop := zinvM (v 3) (v 4) (v 7) (f 0) (f 1) (zMG v f) (zMB v f) (v 4) L F S Gd
theorem zend_in {v : Nat → Nat} {f : Nat → Nat → Nat} {L S Gd : Nat → Nat} {F : Nat → Int32} (hlo : ∀ w, w < v 7 → 1 ≤ f 0 w) (h : zMP v f L S Gd F) {p : Nat} (h1 : v 4 ≤ p) (h2 : p < v 3) : p < zend F S (v 3) p ∧ zend F S (v 3) p ≤ v 3 := by
  unfold zend
  by_cases hF : F p = -1
  · rw [if_pos hF, zscan_s h2, if_pos hF]
    have := zscan_le (F := F) (n := v 3) _ (p + 1) rfl (by omega)
    omega
  · rw [if_neg hF]
    rcases h.2.2.1 p h1 h2 with ⟨q, -⟩ | ⟨w0, l0, -, c, -, q3, -⟩
    · exact absurd q hF
    · have h3 := zrun_le (G := zMG v f) (n := v 3) (p := p)
      have h4 := hlo w0 c.2.1
      have h5 := c.2.2.1
      have h6 := c.2.2.2.2.1
      rw [q3]
      omega
