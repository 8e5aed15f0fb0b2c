/-! PURE, third part: one candidate more, as the class tries them; the plan grown by one place -/
def zG (v : Nat → Nat) (f : Nat → Nat → Nat) (p : Nat) : Nat := if v 5 ≤ p ∧ p + v 6 < v 3 ∧ f 0 p = 0 then 1 else 0
def zS0 (F : Nat → Int32) (S : Nat → Nat) (p : Nat) : Nat := if F (p + 1) = -1 then S (p + 1) + 1 else 1
/-- candidates (x, l) with t < l, and all of lower wanted lengths -/
def zPa (c : Nat → Nat → Prop) (x t : Nat) : Nat → Nat → Prop := fun w l => c w l ∧ (w < x ∨ (w = x ∧ t < l))
theorem zstep {n t0 W : Nat} {lo hi B L : Nat → Nat} {r p s0 S0 a S x t : Nat} {F : Int32} (hb : zB (zPa (zcand n t0 W lo hi B r p) x t) L p s0 S0 a F S) (h0 : 0 < t) (hx : x < W) (hW : W ≤ 6) (hl : lo x ≤ t) (hh : t ≤ hi x) (hr : t ≤ r) (hm : p = t0 ∨ B p = 0) :
    ((p + t = n ∨ B (p + t) = 0) → (L (p + t) < a ∨ (L (p + t) = a ∧ F = -1)) → zB (zPa (zcand n t0 W lo hi B r p) x (t - 1)) L p s0 S0 (L (p + t)) (nI x) t) ∧
    (¬ ((p + t = n ∨ B (p + t) = 0) ∧ (L (p + t) < a ∨ (L (p + t) = a ∧ F = -1))) → zB (zPa (zcand n t0 W lo hi B r p) x (t - 1)) L p s0 S0 a F S) := by
  by_cases hE : p + t = n ∨ B (p + t) = 0
  · have hP : ∀ w' l', zPa (zcand n t0 W lo hi B r p) x (t - 1) w' l' ↔ zPa (zcand n t0 W lo hi B r p) x t w' l' ∨ (w' = x ∧ l' = t) := by
      intro w' l'
      unfold zPa
      constructor
      · rintro ⟨q1, q2⟩
        by_cases e : w' = x ∧ l' = t
        · exact Or.inr e
        · refine Or.inl ⟨q1, ?_⟩
          omega
      · rintro (⟨q1, q2⟩ | ⟨e1, e2⟩)
        · refine ⟨q1, ?_⟩
          omega
        · refine ⟨?_, Or.inr ⟨e1, by omega⟩⟩
          rw [e1, e2]
          exact ⟨hm, hx, hl, hh, hr, hE⟩
    have hq : ∀ w' l', zPa (zcand n t0 W lo hi B r p) x t w' l' → w' < x ∨ (w' = x ∧ t < l') := fun w' l' q => q.2
    obtain ⟨k1, k2⟩ := zB_post hb (by omega) hP hq
    exact ⟨fun _ h => k1 h, fun h => k2 (fun q => h ⟨hE, q⟩)⟩
  · refine ⟨fun h => absurd h hE, fun _ => zB_congr ?_ hb⟩
    intro w' l'
    unfold zPa
    constructor
    · rintro ⟨q1, q2⟩
      exact ⟨q1, by omega⟩
    · rintro ⟨q1, q2⟩
      refine ⟨q1, ?_⟩
      by_cases e : w' = x ∧ l' = t
      · obtain ⟨e1, e2⟩ := e
        rw [e2] at q1
        exact absurd q1.2.2.2.2.2 hE
      · omega
theorem zstop {n t0 W : Nat} {lo hi B L : Nat → Nat} {r p s0 S0 a S x t : Nat} {F : Int32} (hb : zB (zPa (zcand n t0 W lo hi B r p) x t) L p s0 S0 a F S) (hF : ¬ F = -1) (hs : ∀ l, 0 < l → l ≤ r → a ≤ L (p + l)) (hlo : ∀ w, w < W → 1 ≤ lo w) : zB (zcand n t0 W lo hi B r p) L p s0 S0 a F S := by
  refine zB_all hb hF (fun w l q => q.1) (fun w l q => ?_)
  by_cases h : w < x ∨ (w = x ∧ t < l)
  · exact Or.inl ⟨q, h⟩
  · refine Or.inr ⟨hs l ?_ q.2.2.2.2.1, ?_⟩
    · have := hlo w q.2.1
      have := q.2.2.1
      omega
    · intro w0 l0 q0
      have := q0.2
      omega
theorem zbegin {n t0 W : Nat} {lo hi B L : Nat → Nat} {r p s0 S0 : Nat} {x : Nat} (h : x = 0) : zB (fun w l => zcand n t0 W lo hi B r p w l ∧ w < x) L p s0 S0 s0 (-1) S0 := zB_nil (fun w l q => by have := q.2; omega)
theorem zinner {n t0 W : Nat} {lo hi B L : Nat → Nat} {r p s0 S0 a S x : Nat} {F : Int32} (hb : zB (fun w l => zcand n t0 W lo hi B r p w l ∧ w < x) L p s0 S0 a F S) : zB (zPa (zcand n t0 W lo hi B r p) x (min (hi x) r)) L p s0 S0 a F S := by
  refine zB_congr ?_ hb
  intro w l
  unfold zPa
  constructor
  · rintro ⟨q1, q2⟩
    exact ⟨q1, Or.inl q2⟩
  · rintro ⟨q1, q2⟩
    refine ⟨q1, ?_⟩
    rcases q2 with q2 | ⟨q2, q3⟩
    · exact q2
    · have h4 := q1.2.2.2.1
      have h5 := q1.2.2.2.2.1
      rw [q2] at h4
      omega
theorem zouter {n t0 W : Nat} {lo hi B L : Nat → Nat} {r p s0 S0 a S x t : Nat} {F : Int32} (hb : zB (zPa (zcand n t0 W lo hi B r p) x t) L p s0 S0 a F S) (ht : t < lo x) : zB (fun w l => zcand n t0 W lo hi B r p w l ∧ w < x + 1) L p s0 S0 a F S := by
  refine zB_congr ?_ hb
  intro w l
  unfold zPa
  constructor
  · rintro ⟨q1, q2⟩
    exact ⟨q1, by omega⟩
  · rintro ⟨q1, q2⟩
    refine ⟨q1, ?_⟩
    by_cases e : w < x
    · exact Or.inl e
    · have e1 : w = x := by omega
      have h4 := q1.2.2.1
      rw [e1] at h4
      exact Or.inr ⟨e1, by omega⟩
theorem zfull {n t0 W : Nat} {lo hi B L : Nat → Nat} {r p s0 S0 a S x : Nat} {F : Int32} (hb : zB (fun w l => zcand n t0 W lo hi B r p w l ∧ w < x) L p s0 S0 a F S) (hx : W ≤ x) : zB (zcand n t0 W lo hi B r p) L p s0 S0 a F S := by
  refine zB_congr ?_ hb
  intro w l
  constructor
  · exact fun q => q.1
  · exact fun q => ⟨q, Nat.lt_of_lt_of_le q.2.1 hx⟩
/-- the plan from place k on -/
def zinv (n t W : Nat) (lo hi G B : Nat → Nat) (k : Nat) (L : Nat → Nat) (F : Nat → Int32) (S : Nat → Nat) : Prop :=
  L n = 0 ∧ F n = -2 ∧ (∀ p, k ≤ p → p < n → zB (zcand n t W lo hi B (zrun G n p) p) L p (L (p + 1) + 1) (zS0 F S p) (L p) (F p) (S p)) ∧ ∀ p, k ≤ p → p ≤ n → zsure G n p ≤ L p ∧ L p ≤ n - p
theorem zinv_0 {n t W : Nat} {lo hi G B L S : Nat → Nat} {F : Nat → Int32} (h1 : L n = 0) (h2 : F n = -2) : zinv n t W lo hi G B n L F S := by
  refine ⟨h1, h2, fun p q1 q2 => absurd q2 (by omega), fun p q1 q2 => ?_⟩
  have e : p = n := by omega
  rw [e, h1, zsure_n]
  exact ⟨Nat.le_refl 0, Nat.zero_le _⟩
/-- in a good stretch nothing ahead loses less than what is sure -/
theorem zinv_sure {n t W : Nat} {lo hi G B L S : Nat → Nat} {F : Nat → Int32} {p : Nat} (h : zinv n t W lo hi G B (p + 1) L F S) (hp : p < n) : ∀ l, 0 < l → l ≤ zrun G n p → zsure G n p ≤ L (p + l) := by
  intro l h0 hl
  have h1 := zrun_le (G := G) (n := n) (p := p)
  rw [← zsure_same l p (by omega) hl]
  exact (h.2.2.2 (p + l) (by omega) (by omega)).1
theorem zinv_step {n t W : Nat} {lo hi G B L L' S S' : Nat → Nat} {F F' : Nat → Int32} {p a s : Nat} {x : Int32} (hlo : ∀ w, w < W → 1 ≤ lo w) (h : zinv n t W lo hi G B (p + 1) L F S) (hp : p < n)
    (hb : zB (zcand n t W lo hi B (zrun G n p) p) L p (L (p + 1) + 1) (zS0 F S p) a x s) (hLp : L' p = a) (hLq : ∀ q, q ≠ p → L' q = L q) (hFp : F' p = x) (hFq : ∀ q, q ≠ p → F' q = F q) (hSp : S' p = s) (hSq : ∀ q, q ≠ p → S' q = S q) : zinv n t W lo hi G B p L' F' S' := by
  have key : ∀ q, p ≤ q → zS0 F' S' q = zS0 F S q := by
    intro q hq
    unfold zS0
    rw [hFq (q + 1) (by omega), hSq (q + 1) (by omega)]
  refine ⟨by rw [hLq n (by omega)]; exact h.1, by rw [hFq n (by omega)]; exact h.2.1, fun q h1 h2 => ?_, fun q h1 h2 => ?_⟩
  · by_cases e : q = p
    · rw [key q h1, e, hLp, hFp, hSp, hLq (p + 1) (by omega)]
      refine zB_L (fun w l c => (hLq (p + l) ?_).symm) hb
      have := hlo w c.2.1
      have := c.2.2.1
      omega
    · rw [key q h1, hLq q e, hFq q e, hSq q e, hLq (q + 1) (by omega)]
      refine zB_L (fun w l c => (hLq (q + l) (by omega)).symm) (h.2.2.1 q (by omega) h2)
  · by_cases e : q = p
    · rw [e, hLp]
      have h3 := h.2.2.2 (p + 1) (Nat.le_refl _) hp
      have h4 := zB_le hb
      have h5 := zsure_s (G := G) hp
      refine ⟨?_, by omega⟩
      rcases hb with ⟨-, -, q3, -⟩ | ⟨w0, l0, -, c, -, -, g4, -⟩
      · rw [h5]
        split <;> omega
      · rw [g4]
        refine zinv_sure h hp l0 ?_ c.2.2.2.2.1
        have := hlo w0 c.2.1
        have := c.2.2.1
        omega
    · rw [hLq q e]
      exact h.2.2.2 q (by omega) h2
/-- the class's plan is made -/
def zCP (v : Nat → Nat) (f : Nat → Nat → Nat) (L S : Nat → Nat) (F : Nat → Int32) : Prop := zinv (v 3) (v 4) (v 9) (f 2) (f 3) (zG v f) (f 1) (v 4) L F S
