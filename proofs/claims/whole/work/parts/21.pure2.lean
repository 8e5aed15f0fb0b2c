/-! PURE, second part: bars and bad parts told one by one; where a part ends; the i-th part -/
theorem zrk_congr {G G' : Nat → Nat} {n : Nat} (h : ∀ q, q < n → G q = G' q) : ∀ k, k ≤ n → zrk G n k = zrk G' n k := by
  intro k
  induction k with
  | zero => intro _; rfl
  | succ k ih =>
    intro hk
    show (if G (n - (k + 1)) = 0 then 0 else zrk G n k + 1) = (if G' (n - (k + 1)) = 0 then 0 else zrk G' n k + 1)
    rw [h (n - (k + 1)) (by omega), ih (by omega)]
theorem zrun_congr {G G' : Nat → Nat} {n p : Nat} (h : ∀ q, q < n → G q = G' q) : zrun G n p = zrun G' n p := zrk_congr h _ (Nat.sub_le n p)
/-- 1 where one of the first k bars holds p -/
def zbar (fr to : Nat → Nat) (p : Nat) : Nat → Nat
  | 0 => 0
  | k + 1 => if zbar fr to p k = 0 ∧ ¬ (fr k ≤ p ∧ p ≤ to k) then 0 else 1
/-- 1 where one of the first k bad parts holds p -/
def zbad (fr to : Nat → Nat) (p : Nat) : Nat → Nat
  | 0 => 0
  | k + 1 => if zbad fr to p k = 0 ∧ ¬ (fr k ≤ p ∧ p < to k) then 0 else 1
def zgd (g0 : Nat) (fr to : Nat → Nat) (p : Nat) : Nat → Nat
  | 0 => g0
  | k + 1 => if zgd g0 fr to p k = 0 ∨ (fr k ≤ p ∧ p < to k) then 0 else 1
theorem zbar_le {fr to : Nat → Nat} {p : Nat} : ∀ k, zbar fr to p k ≤ 1 := by
  intro k
  cases k with
  | zero => exact Nat.zero_le 1
  | succ k =>
    show (if zbar fr to p k = 0 ∧ ¬ (fr k ≤ p ∧ p ≤ to k) then 0 else 1) ≤ 1
    split <;> omega
theorem zbad_le {fr to : Nat → Nat} {p : Nat} : ∀ k, zbad fr to p k ≤ 1 := by
  intro k
  cases k with
  | zero => exact Nat.zero_le 1
  | succ k =>
    show (if zbad fr to p k = 0 ∧ ¬ (fr k ≤ p ∧ p < to k) then 0 else 1) ≤ 1
    split <;> omega
theorem zgd_le {g0 : Nat} {fr to : Nat → Nat} {p : Nat} (h : g0 ≤ 1) : ∀ k, zgd g0 fr to p k ≤ 1 := by
  intro k
  cases k with
  | zero => exact h
  | succ k =>
    show (if zgd g0 fr to p k = 0 ∨ (fr k ≤ p ∧ p < to k) then 0 else 1) ≤ 1
    split <;> omega
theorem zgd_bad {g0 : Nat} {fr to : Nat → Nat} {p : Nat} (h : g0 ≤ 1) : ∀ k, zgd g0 fr to p k = if g0 = 0 ∨ ¬ zbad fr to p k = 0 then 0 else 1 := by
  intro k
  induction k with
  | zero =>
    show g0 = if g0 = 0 ∨ ¬ (0 : Nat) = 0 then 0 else 1
    split <;> omega
  | succ k ih =>
    show (if zgd g0 fr to p k = 0 ∨ (fr k ≤ p ∧ p < to k) then 0 else 1) = if g0 = 0 ∨ ¬ (if zbad fr to p k = 0 ∧ ¬ (fr k ≤ p ∧ p < to k) then 0 else 1) = 0 then 0 else 1
    rw [ih]
    by_cases h1 : g0 = 0 <;> by_cases h2 : zbad fr to p k = 0 <;> by_cases h3 : fr k ≤ p ∧ p < to k <;> simp [h1, h2, h3]
theorem zbar_congr {fr to fr' to' : Nat → Nat} {p : Nat} : ∀ k, (∀ j, j < k → fr j = fr' j ∧ to j = to' j) → zbar fr to p k = zbar fr' to' p k := by
  intro k
  induction k with
  | zero => intro _; rfl
  | succ k ih =>
    intro h
    show (if zbar fr to p k = 0 ∧ ¬ (fr k ≤ p ∧ p ≤ to k) then 0 else 1) = (if zbar fr' to' p k = 0 ∧ ¬ (fr' k ≤ p ∧ p ≤ to' k) then 0 else 1)
    rw [ih (fun j hj => h j (by omega)), (h k (by omega)).1, (h k (by omega)).2]
theorem zbad_congr {fr to fr' to' : Nat → Nat} {p : Nat} : ∀ k, (∀ j, j < k → fr j = fr' j ∧ to j = to' j) → zbad fr to p k = zbad fr' to' p k := by
  intro k
  induction k with
  | zero => intro _; rfl
  | succ k ih =>
    intro h
    show (if zbad fr to p k = 0 ∧ ¬ (fr k ≤ p ∧ p < to k) then 0 else 1) = (if zbad fr' to' p k = 0 ∧ ¬ (fr' k ≤ p ∧ p < to' k) then 0 else 1)
    rw [ih (fun j hj => h j (by omega)), (h k (by omega)).1, (h k (by omega)).2]
/-- the first place from n - k on whose first isn't scrap, or n -/
def zsck (F : Nat → Int32) (n : Nat) : Nat → Nat
  | 0 => n
  | k + 1 => if F (n - (k + 1)) = -1 then zsck F n k else n - (k + 1)
def zscan (F : Nat → Int32) (n p : Nat) : Nat := zsck F n (n - p)
theorem zscan_n {F : Nat → Int32} {n : Nat} : zscan F n n = n := by
  unfold zscan
  rw [Nat.sub_self]
  rfl
theorem zscan_s {F : Nat → Int32} {n p : Nat} (h : p < n) : zscan F n p = if F p = -1 then zscan F n (p + 1) else p := by
  unfold zscan
  have e : n - p = (n - (p + 1)) + 1 := by omega
  have e2 : n - (n - (p + 1) + 1) = p := by omega
  rw [e]
  show (if F (n - (n - (p + 1) + 1)) = -1 then zsck F n (n - (p + 1)) else n - (n - (p + 1) + 1)) = _
  rw [e2]
theorem zscan_le {F : Nat → Int32} {n : Nat} : ∀ k p, k = n - p → p ≤ n → p ≤ zscan F n p ∧ zscan F n p ≤ n := by
  intro k
  induction k with
  | zero =>
    intro p hk hp
    have e : p = n := by omega
    rw [e, zscan_n]
    exact ⟨Nat.le_refl n, Nat.le_refl n⟩
  | succ k ih =>
    intro p hk hp
    rw [zscan_s (by omega)]
    split
    · have := ih (p + 1) (by omega) (by omega)
      omega
    · omega
/-- behind the part that begins at p -/
def zend (F : Nat → Int32) (S : Nat → Nat) (n p : Nat) : Nat := if F p = -1 then zscan F n p else p + S p
/-- the steps of scrap side by side, as they are counted backwards, reach just so far -/
theorem zend_scrap {F : Nat → Int32} {S S0 : Nat → Nat} {n t : Nat} (hS : ∀ p, t ≤ p → p < n → F p = -1 → S p = S0 p) (h0 : ∀ p, t ≤ p → p < n → S0 p = if p + 1 < n ∧ F (p + 1) = -1 then S (p + 1) + 1 else 1) :
    ∀ k p, k = n - p → t ≤ p → p < n → p + S p = zend F S n p := by
  intro k
  induction k with
  | zero => intro p hk ht hp; omega
  | succ k ih =>
    intro p hk ht hp
    unfold zend
    by_cases hF : F p = -1
    · rw [if_pos hF, hS p ht hp hF, h0 p ht hp, zscan_s hp, if_pos hF]
      by_cases hn : p + 1 < n
      · by_cases hF1 : F (p + 1) = -1
        · rw [if_pos ⟨hn, hF1⟩]
          have := ih (p + 1) (by omega) (by omega) hn
          unfold zend at this
          rw [if_pos hF1] at this
          omega
        · rw [if_neg (fun q => hF1 q.2), zscan_s hn, if_neg hF1]
      · have e : p + 1 = n := by omega
        rw [if_neg (fun q => hn q.1), e, zscan_n]
    · rw [if_neg hF]
/-- i times on, as long as the end isn't reached -/
def zit (E : Nat → Nat) (n : Nat) : Nat → Nat → Nat
  | 0, p => p
  | k + 1, p => if p < n then zit E n k (E p) else p
theorem zit_n {E : Nat → Nat} {n p : Nat} (h : ¬ p < n) : ∀ k, zit E n k p = p := by
  intro k
  cases k with
  | zero => rfl
  | succ k =>
    show (if p < n then zit E n k (E p) else p) = p
    rw [if_neg h]
theorem zit_full {E : Nat → Nat} {n t : Nat} (hE : ∀ p, t ≤ p → p < n → p < E p ∧ E p ≤ n) : ∀ k p, t ≤ p → p ≤ n → n - p ≤ k → zit E n k p = n := by
  intro k
  induction k with
  | zero =>
    intro p ht hp hk
    show p = n
    omega
  | succ k ih =>
    intro p ht hp hk
    show (if p < n then zit E n k (E p) else p) = n
    by_cases h : p < n
    · rw [if_pos h]
      have := hE p ht h
      exact ih (E p) (by omega) this.2 (by omega)
    · rw [if_neg h]
      omega
theorem zit_congr {E E' : Nat → Nat} {n t : Nat} (hE : ∀ p, t ≤ p → p < n → E p = E' p ∧ t ≤ E p) : ∀ k p, t ≤ p → zit E n k p = zit E' n k p := by
  intro k
  induction k with
  | zero => intro p _; rfl
  | succ k ih =>
    intro p ht
    show (if p < n then zit E n k (E p) else p) = (if p < n then zit E' n k (E' p) else p)
    by_cases h : p < n
    · rw [if_pos h, if_pos h, ← (hE p ht h).1]
      exact ih (E p) (hE p ht h).2
    · rw [if_neg h, if_neg h]
theorem zit_in {E : Nat → Nat} {n t : Nat} (hE : ∀ p, t ≤ p → p < n → p < E p ∧ E p ≤ n) : ∀ k p, t ≤ p → p ≤ n → t ≤ zit E n k p ∧ zit E n k p ≤ n := by
  intro k
  induction k with
  | zero => intro p ht hp; exact ⟨ht, hp⟩
  | succ k ih =>
    intro p ht hp
    show t ≤ (if p < n then zit E n k (E p) else p) ∧ (if p < n then zit E n k (E p) else p) ≤ n
    by_cases h : p < n
    · rw [if_pos h]
      have := hE p ht h
      exact ih (E p) (by omega) this.2
    · rw [if_neg h]
      exact ⟨ht, hp⟩
/-- how many of the first k are x -/
def zcnt (f : Nat → Int32) (x : Int32) : Nat → Nat
  | 0 => 0
  | k + 1 => if f k = x then zcnt f x k + 1 else zcnt f x k
theorem zcnt_le {f : Nat → Int32} {x : Int32} : ∀ k, zcnt f x k ≤ k := by
  intro k
  induction k with
  | zero => exact Nat.le_refl 0
  | succ k ih =>
    show (if f k = x then zcnt f x k + 1 else zcnt f x k) ≤ k + 1
    split <;> omega
theorem zcnt_congr {f g : Nat → Int32} {x : Int32} : ∀ k, (∀ j, j < k → f j = g j) → zcnt f x k = zcnt g x k := by
  intro k
  induction k with
  | zero => intro _; rfl
  | succ k ih =>
    intro h
    show (if f k = x then zcnt f x k + 1 else zcnt f x k) = (if g k = x then zcnt g x k + 1 else zcnt g x k)
    rw [h k (by omega), ih (fun j hj => h j (by omega))]
