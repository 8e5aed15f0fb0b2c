/-! PURE: the plan, as both sides make it. Numbers are Nat; a first of -1 is scrap. -/
def zu {α : Type} (f : Nat → α) (k : Nat) (x : α) : Nat → α := fun j => cond (Nat.beq j k) x (f j)
/-- how many steps from place n - k on are good (not 0), side by side -/
def zrk (G : Nat → Nat) (n : Nat) : Nat → Nat
  | 0 => 0
  | k + 1 => if G (n - (k + 1)) = 0 then 0 else zrk G n k + 1
def zrun (G : Nat → Nat) (n p : Nat) : Nat := zrk G n (n - p)
/-- how many steps from place n - k on are not good -/
def zsk (G : Nat → Nat) (n : Nat) : Nat → Nat
  | 0 => 0
  | k + 1 => if G (n - (k + 1)) = 0 then zsk G n k + 1 else zsk G n k
def zsure (G : Nat → Nat) (n p : Nat) : Nat := zsk G n (n - p)
theorem zrun_n {G : Nat → Nat} {n : Nat} : zrun G n n = 0 := by
  unfold zrun
  rw [Nat.sub_self]
  rfl
theorem zsure_n {G : Nat → Nat} {n : Nat} : zsure G n n = 0 := by
  unfold zsure
  rw [Nat.sub_self]
  rfl
theorem zrun_s {G : Nat → Nat} {n p : Nat} (h : p < n) : zrun G n p = if G p = 0 then 0 else zrun G n (p + 1) + 1 := by
  unfold zrun
  have e : n - p = (n - (p + 1)) + 1 := by omega
  have e2 : n - (n - (p + 1) + 1) = p := by omega
  rw [e]
  show (if G (n - (n - (p + 1) + 1)) = 0 then 0 else zrk G n (n - (p + 1)) + 1) = _
  rw [e2]
theorem zsure_s {G : Nat → Nat} {n p : Nat} (h : p < n) : zsure G n p = if G p = 0 then zsure G n (p + 1) + 1 else zsure G n (p + 1) := by
  unfold zsure
  have e : n - p = (n - (p + 1)) + 1 := by omega
  have e2 : n - (n - (p + 1) + 1) = p := by omega
  rw [e]
  show (if G (n - (n - (p + 1) + 1)) = 0 then zsk G n (n - (p + 1)) + 1 else zsk G n (n - (p + 1))) = _
  rw [e2]
theorem zrk_le {G : Nat → Nat} {n : Nat} : ∀ k, zrk G n k ≤ k := by
  intro k
  induction k with
  | zero => exact Nat.le_refl 0
  | succ k ih =>
    show (if G (n - (k + 1)) = 0 then 0 else zrk G n k + 1) ≤ k + 1
    split <;> omega
theorem zrun_le {G : Nat → Nat} {n p : Nat} : zrun G n p ≤ n - p := zrk_le _
theorem zsk_le {G : Nat → Nat} {n : Nat} : ∀ k, zsk G n k ≤ k := by
  intro k
  induction k with
  | zero => exact Nat.le_refl 0
  | succ k ih =>
    show (if G (n - (k + 1)) = 0 then zsk G n k + 1 else zsk G n k) ≤ k + 1
    split <;> omega
theorem zsure_le {G : Nat → Nat} {n p : Nat} : zsure G n p ≤ n - p := zsk_le _
theorem zsure_same {G : Nat → Nat} {n : Nat} : ∀ (l p : Nat), p ≤ n → l ≤ zrun G n p → zsure G n (p + l) = zsure G n p := by
  intro l
  induction l with
  | zero => intro p _ _; rfl
  | succ l ih =>
    intro p hp h
    have h1 := zrun_le (G := G) (n := n) (p := p)
    have hlt : p < n := by omega
    rw [zrun_s hlt] at h
    by_cases hg : G p = 0
    · rw [if_pos hg] at h; omega
    · rw [if_neg hg] at h
      have e : p + (l + 1) = (p + 1) + l := by omega
      rw [e, ih (p + 1) hlt (by omega), zsure_s hlt, if_neg hg]
/-- of the candidates P at place p the best, or scrap (loss s0, steps S0): its loss a, its first F, its steps S -/
def zB (P : Nat → Nat → Prop) (L : Nat → Nat) (p s0 S0 a : Nat) (F : Int32) (S : Nat) : Prop :=
  (F = -1 ∧ S = S0 ∧ a = s0 ∧ ∀ w l, P w l → s0 < L (p + l)) ∨
  (∃ w l, w < 6 ∧ P w l ∧ F = nI w ∧ S = l ∧ a = L (p + l) ∧ a ≤ s0 ∧ (∀ w' l', P w' l' → a ≤ L (p + l')) ∧ ∀ w' l', P w' l' → (w' < w ∨ (w' = w ∧ l < l')) → a < L (p + l'))
theorem zne {w : Nat} (h : w < 6) : nI w ≠ -1 := by
  rcases (show w = 0 ∨ w = 1 ∨ w = 2 ∨ w = 3 ∨ w = 4 ∨ w = 5 by omega) with rfl | rfl | rfl | rfl | rfl | rfl <;> decide
theorem zB_congr {P P' : Nat → Nat → Prop} {L : Nat → Nat} {p s0 S0 a S : Nat} {F : Int32} (h : ∀ w l, P w l ↔ P' w l) (hb : zB P L p s0 S0 a F S) : zB P' L p s0 S0 a F S := by
  have e : P = P' := by
    funext w l
    exact propext (h w l)
  rw [← e]
  exact hb
theorem zB_le {P : Nat → Nat → Prop} {L : Nat → Nat} {p s0 S0 a S : Nat} {F : Int32} (hb : zB P L p s0 S0 a F S) : a ≤ s0 := by
  rcases hb with ⟨-, -, h, -⟩ | ⟨w, l, -, -, -, -, -, h, -⟩
  · omega
  · exact h
theorem zB_min {P : Nat → Nat → Prop} {L : Nat → Nat} {p s0 S0 a S : Nat} {F : Int32} (hb : zB P L p s0 S0 a F S) : ∀ w l, P w l → a ≤ L (p + l) := by
  intro w l h
  rcases hb with ⟨-, -, h1, h2⟩ | ⟨w0, l0, -, -, -, -, -, -, h1, -⟩
  · have := h2 w l h
    omega
  · exact h1 w l h
theorem zB_nil {P : Nat → Nat → Prop} {L : Nat → Nat} {p s0 S0 : Nat} (h : ∀ w l, ¬ P w l) : zB P L p s0 S0 s0 (-1) S0 :=
  Or.inl ⟨rfl, rfl, rfl, fun w l q => absurd q (h w l)⟩
/-- one more, liked better than all before -/
theorem zB_pre {P P' : Nat → Nat → Prop} {L : Nat → Nat} {p s0 S0 a S w l : Nat} {F : Int32} (hb : zB P L p s0 S0 a F S) (hw : w < 6)
    (hP : ∀ w' l', P' w' l' ↔ P w' l' ∨ (w' = w ∧ l' = l)) (hl : ∀ w' l', P w' l' → w < w' ∨ (w = w' ∧ l' < l)) :
    (L (p + l) ≤ a → zB P' L p s0 S0 (L (p + l)) (nI w) l) ∧ (a < L (p + l) → zB P' L p s0 S0 a F S) := by
  have hm := zB_min hb
  have hz := zB_le hb
  constructor
  · intro h
    refine Or.inr ⟨w, l, hw, (hP w l).mpr (Or.inr ⟨rfl, rfl⟩), rfl, rfl, rfl, Nat.le_trans h hz, ?_, ?_⟩
    · intro w' l' h'
      rcases (hP w' l').mp h' with h1 | ⟨-, h2⟩
      · have := hm w' l' h1
        omega
      · rw [h2]
        exact Nat.le_refl _
    · intro w' l' h' hp
      rcases (hP w' l').mp h' with h1 | ⟨h1, h2⟩
      · have := hl w' l' h1
        omega
      · omega
  · intro h
    rcases hb with ⟨h1, h2, h3, h4⟩ | ⟨w0, l0, g0, g1, g2, g3, g4, g5, g6, g7⟩
    · refine Or.inl ⟨h1, h2, h3, ?_⟩
      intro w' l' h'
      rcases (hP w' l').mp h' with q | ⟨-, q⟩
      · exact h4 w' l' q
      · rw [q]; omega
    · refine Or.inr ⟨w0, l0, g0, (hP w0 l0).mpr (Or.inl g1), g2, g3, g4, g5, ?_, ?_⟩
      · intro w' l' h'
        rcases (hP w' l').mp h' with q | ⟨-, q⟩
        · exact g6 w' l' q
        · rw [q]; omega
      · intro w' l' h' hp
        rcases (hP w' l').mp h' with q | ⟨-, q⟩
        · exact g7 w' l' q hp
        · rw [q]; omega
/-- one more, liked less than all before -/
theorem zB_post {P P' : Nat → Nat → Prop} {L : Nat → Nat} {p s0 S0 a S w l : Nat} {F : Int32} (hb : zB P L p s0 S0 a F S) (hw : w < 6)
    (hP : ∀ w' l', P' w' l' ↔ P w' l' ∨ (w' = w ∧ l' = l)) (hl : ∀ w' l', P w' l' → w' < w ∨ (w' = w ∧ l < l')) :
    ((L (p + l) < a ∨ (L (p + l) = a ∧ F = -1)) → zB P' L p s0 S0 (L (p + l)) (nI w) l) ∧ (¬ (L (p + l) < a ∨ (L (p + l) = a ∧ F = -1)) → zB P' L p s0 S0 a F S) := by
  have hm := zB_min hb
  have hz := zB_le hb
  constructor
  · intro h
    refine Or.inr ⟨w, l, hw, (hP w l).mpr (Or.inr ⟨rfl, rfl⟩), rfl, rfl, rfl, by omega, ?_, ?_⟩
    · intro w' l' h'
      rcases (hP w' l').mp h' with h1 | ⟨-, h2⟩
      · have := hm w' l' h1
        omega
      · rw [h2]
        exact Nat.le_refl _
    · intro w' l' h' hp
      rcases (hP w' l').mp h' with h1 | ⟨h1, h2⟩
      · rcases h with h | ⟨h, hF⟩
        · have := hm w' l' h1
          omega
        · rcases hb with ⟨-, -, q3, q4⟩ | ⟨w0, l0, g0, g1, g2, -⟩
          · have := q4 w' l' h1
            omega
          · exact absurd (g2.symm.trans hF) (zne g0)
      · omega
  · intro h
    rcases hb with ⟨h1, h2, h3, h4⟩ | ⟨w0, l0, g0, g1, g2, g3, g4, g5, g6, g7⟩
    · refine Or.inl ⟨h1, h2, h3, ?_⟩
      intro w' l' h'
      rcases (hP w' l').mp h' with q | ⟨-, q⟩
      · exact h4 w' l' q
      · rw [q]
        by_cases e : L (p + l) = a
        · exact absurd (Or.inr ⟨e, h1⟩) h
        · have : ¬ L (p + l) < a := fun q => h (Or.inl q)
          omega
    · have h5 : ¬ L (p + l) < a := fun q => h (Or.inl q)
      refine Or.inr ⟨w0, l0, g0, (hP w0 l0).mpr (Or.inl g1), g2, g3, g4, g5, ?_, ?_⟩
      · intro w' l' h'
        rcases (hP w' l').mp h' with q | ⟨-, q⟩
        · exact g6 w' l' q
        · rw [q]; omega
      · intro w' l' h' hp
        rcases (hP w' l').mp h' with q | ⟨q0, q⟩
        · exact g7 w' l' q hp
        · have := hl w0 l0 g1
          omega
/-- those that come later can't be better -/
theorem zB_all {P P' : Nat → Nat → Prop} {L : Nat → Nat} {p s0 S0 a S : Nat} {F : Int32} (hb : zB P L p s0 S0 a F S) (hF : F ≠ -1) (h1 : ∀ w l, P w l → P' w l)
    (h2 : ∀ w l, P' w l → P w l ∨ (a ≤ L (p + l) ∧ ∀ w0 l0, P w0 l0 → w0 < w ∨ (w0 = w ∧ l < l0))) : zB P' L p s0 S0 a F S := by
  rcases hb with ⟨q, -⟩ | ⟨w0, l0, g0, g1, g2, g3, g4, g5, g6, g7⟩
  · exact absurd q hF
  · refine Or.inr ⟨w0, l0, g0, h1 _ _ g1, g2, g3, g4, g5, ?_, ?_⟩
    · intro w' l' h'
      rcases h2 w' l' h' with q | ⟨q, -⟩
      · exact g6 w' l' q
      · exact q
    · intro w' l' h' hp
      rcases h2 w' l' h' with q | ⟨-, q⟩
      · exact g7 w' l' q hp
      · have := q w0 l0 g1
        omega
theorem zB_uni {P : Nat → Nat → Prop} {L : Nat → Nat} {p s0 S0 S1 a a' S S' : Nat} {F F' : Int32} (hb : zB P L p s0 S0 a F S) (hb' : zB P L p s0 S1 a' F' S') : a = a' ∧ F = F' ∧ (F ≠ -1 → S = S') := by
  have hm := zB_min hb
  have hm' := zB_min hb'
  rcases hb with ⟨h1, h2, h3, h4⟩ | ⟨w0, l0, g0, g1, g2, g3, g4, g5, g6, g7⟩
  · rcases hb' with ⟨k1, k2, k3, k4⟩ | ⟨w1, l1, k0, k1, k2, k3, k4, k5, k6, k7⟩
    · exact ⟨by omega, h1.trans k1.symm, fun q => absurd h1 q⟩
    · have := h4 w1 l1 k1
      omega
  · rcases hb' with ⟨k1, k2, k3, k4⟩ | ⟨w1, l1, k0, k1, k2, k3, k4, k5, k6, k7⟩
    · have := k4 w0 l0 g1
      omega
    · have e1 := g6 w1 l1 k1
      have e2 := k6 w0 l0 g1
      have n1 : ¬ (w1 < w0 ∨ (w1 = w0 ∧ l0 < l1)) := fun q => by
        have := g7 w1 l1 k1 q
        omega
      have n2 : ¬ (w0 < w1 ∨ (w0 = w1 ∧ l1 < l0)) := fun q => by
        have := k7 w0 l0 g1 q
        omega
      have ew : w0 = w1 := by omega
      have el : l0 = l1 := by omega
      refine ⟨by omega, ?_, fun _ => by omega⟩
      rw [g2, k2, ew]
theorem zB_L {P : Nat → Nat → Prop} {L L' : Nat → Nat} {p s0 S0 a S : Nat} {F : Int32} (hL : ∀ w l, P w l → L (p + l) = L' (p + l)) (hb : zB P L p s0 S0 a F S) : zB P L' p s0 S0 a F S := by
  rcases hb with ⟨h1, h2, h3, h4⟩ | ⟨w0, l0, g0, g1, g2, g3, g4, g5, g6, g7⟩
  · exact Or.inl ⟨h1, h2, h3, fun w l q => by rw [← hL w l q]; exact h4 w l q⟩
  · exact Or.inr ⟨w0, l0, g0, g1, g2, g3, by rw [← hL w0 l0 g1]; exact g4, g5, fun w l q => by rw [← hL w l q]; exact g6 w l q, fun w l q r => by rw [← hL w l q]; exact g7 w l q r⟩
/-- the pieces that may begin at p: r good steps from p on -/
def zcand (n t W : Nat) (lo hi B : Nat → Nat) (r p : Nat) : Nat → Nat → Prop := fun w l => (p = t ∨ B p = 0) ∧ w < W ∧ lo w ≤ l ∧ l ≤ hi w ∧ l ≤ r ∧ (p + l = n ∨ B (p + l) = 0)
/-- the plan from t on -/
def zPl (n t W : Nat) (lo hi G B L : Nat → Nat) (F : Nat → Int32) (S S0 : Nat → Nat) : Prop :=
  L n = 0 ∧ ∀ p, t ≤ p → p < n → zB (zcand n t W lo hi B (zrun G n p) p) L p (L (p + 1) + 1) (S0 p) (L p) (F p) (S p)
theorem zPl_uni {n t W : Nat} {lo hi G B L L' : Nat → Nat} {F F' : Nat → Int32} {S S' S0 S1 : Nat → Nat} (hlo : ∀ w, w < W → 1 ≤ lo w) (h : zPl n t W lo hi G B L F S S0) (h' : zPl n t W lo hi G B L' F' S' S1) :
    ∀ k p, k = n - p → t ≤ p → p ≤ n → L p = L' p ∧ (p < n → F p = F' p ∧ (F p ≠ -1 → S p = S' p)) := by
  intro k
  induction k using Nat.strongRecOn with
  | _ k ih =>
    intro p hk ht hp
    by_cases hn : p = n
    · subst hn
      exact ⟨h.1.trans h'.1.symm, fun q => absurd q (Nat.lt_irrefl p)⟩
    · have hlt : p < n := by omega
      have b := h.2 p ht hlt
      have b' := h'.2 p ht hlt
      have e1 : L (p + 1) = L' (p + 1) := (ih (n - (p + 1)) (by omega) (p + 1) rfl (by omega) (by omega)).1
      have b2 := zB_L (L' := L') (fun w l q => by
        obtain ⟨-, q2, q3, -, q5, -⟩ := q
        have h1 := hlo w q2
        have h2 := zrun_le (G := G) (n := n) (p := p)
        exact (ih (n - (p + l)) (by omega) (p + l) rfl (by omega) (by omega)).1) b
      rw [e1] at b2
      obtain ⟨u1, u2, u3⟩ := zB_uni b2 b'
      exact ⟨u1, fun _ => ⟨u2, u3⟩⟩
theorem zPl_torch {n t t' W : Nat} {lo hi G B L : Nat → Nat} {F : Nat → Int32} {S S0 : Nat → Nat} (h : zPl n t W lo hi G B L F S S0) (ht : t ≤ t') (hb : t' = n ∨ B t' = 0) : zPl n t' W lo hi G B L F S S0 := by
  refine ⟨h.1, fun p hp hlt => ?_⟩
  refine zB_congr ?_ (h.2 p (by omega) hlt)
  intro w l
  unfold zcand
  have e : (p = t ∨ B p = 0) ↔ (p = t' ∨ B p = 0) := by
    constructor
    · rintro (q | q)
      · exact Or.inl (by omega)
      · exact Or.inr q
    · rintro (q | q)
      · rcases hb with hb | hb
        · omega
        · exact Or.inr (by rw [q]; exact hb)
      · exact Or.inr q
  rw [e]
/-- where a piece of the plan ends no bar is, or the strand's end -/
theorem zPl_end {n t W : Nat} {lo hi G B L : Nat → Nat} {F : Nat → Int32} {S S0 : Nat → Nat} (h : zPl n t W lo hi G B L F S S0) {p : Nat} (ht : t ≤ p) (hp : p < n) (hF : F p ≠ -1) :
    ∃ w, w < 6 ∧ w < W ∧ F p = nI w ∧ lo w ≤ S p ∧ S p ≤ hi w ∧ p + S p ≤ n ∧ (p = t ∨ B p = 0) ∧ (p + S p = n ∨ B (p + S p) = 0) := by
  rcases h.2 p ht hp with ⟨q, -⟩ | ⟨w, l, g0, ⟨c1, c2, c3, c4, c5, c6⟩, g2, g3, -⟩
  · exact absurd q hF
  · have h2 := zrun_le (G := G) (n := n) (p := p)
    exact ⟨w, g0, c2, g2, by omega, by omega, by omega, c1, by rw [g3]; exact c6⟩
