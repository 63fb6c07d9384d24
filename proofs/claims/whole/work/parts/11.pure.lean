/-! the reference's numbers, as functions of its row (51) -/
def p_in (v a b : Int32) : Int32 := if v < a then 0 else if b < v then 0 else 1
def p_held (v a b : Int32) : Int32 := if v < a then a else if b < v then b else v
abbrev p_rem (x y : Int32) : Int32 := x - x / y * y
/-- a world with another row -/
def setR (σ : Sg) (f : Nat → Int32) : Sg := (fun c j => if c = 51 then f j else σ.1 c j, σ.2.1, σ.2.2)
theorem setR_51 (σ : Sg) (f : Nat → Int32) : (setR σ f).1 51 = f := by
  funext j
  simp [setR]
theorem setR_at (σ : Sg) (f : Nat → Int32) (j : Nat) : (setR σ f).1 51 j = f j := by simp [setR]
theorem setR_ne {σ : Sg} {f : Nat → Int32} {c j : Nat} (h : c ≠ 51) : (setR σ f).1 c j = σ.1 c j := by simp [setR, h]
theorem setR_setR (σ : Sg) (f g : Nat → Int32) : setR (setR σ f) g = setR σ g := by
  unfold setR
  simp only [Prod.mk.injEq, and_true]
  funext c j
  by_cases h : c = 51 <;> simp [h]
theorem setR_self (σ : Sg) : setR σ (σ.1 51) = σ := by
  obtain ⟨a, b, c⟩ := σ
  unfold setR
  simp only [Prod.mk.injEq, and_true]
  funext c j
  by_cases h : c = 51 <;> simp [h]
theorem wI_51 (σ : Sg) (j : Nat) (v : Int32) : wI σ 51 j v = setR σ (upd (σ.1 51) j v) := by
  unfold wI setR upd
  simp only [Prod.mk.injEq, and_true]
  funext c k
  by_cases h : c = 51
  · subst h
    simp
  · simp [h]
theorem updS {f : Nat → Int32} {k : Nat} {x : Int32} : upd f k x k = x := by simp [upd]
theorem updN {f : Nat → Int32} {k j : Nat} {x : Int32} (h : j ≠ k) : upd f k x j = f j := by simp [upd, h]
def p_draws (f : Nat → Int32) (k : Nat) (c : Int32) : Int32 :=
  let d := if f (9 + 7 * k + 1) < c then c - f (9 + 7 * k + 1) else f (9 + 7 * k + 1) - c
  let h := f (9 + 7 * k + 2)
  let pl := p_held (h - 4 * d) 0 60
  if f (9 + 7 * k) = 1 then pl + 8
  else if f (9 + 7 * k) = 2 then pl + h
  else if f (9 + 7 * k) = 3 then (if pl < 3 then 0 else pl - 3)
  else if f (9 + 7 * k) = 4 then pl + 28
  else if f (9 + 7 * k) = 5 then (if pl + h < 10 then 0 else pl + h - 10)
  else pl
def p_clock (f : Nat → Int32) : Int32 := p_rem (f 5) 24
def p_paidMany (f : Nat → Int32) (k : Nat) : Int32 := p_rem (f (9 + 7 * k + 4) - f (9 + 7 * k + 3) + 24) 24
def p_isPaid (f : Nat → Int32) (k : Nat) : Int32 := if p_rem (p_clock f - f (9 + 7 * k + 3) + 24) 24 < p_paidMany f k then 1 else 0
def p_owes (f : Nat → Int32) (k : Nat) (charge : Int32) : Int32 :=
  let c := if p_isPaid f k = 0 then 0 else charge
  if f (9 + 7 * k) = 1 then c - c / 10
  else if f (9 + 7 * k) = 4 then (c - c / 10) / 2
  else if f (9 + 7 * k) = 3 then 0
  else if f (9 + 7 * k) = 5 then 0
  else c
def oI : Option Nat → Int32
  | none => -1
  | some k => nI k
/-- the best draw of the first rods: whom, and how much -/
def p_best (f : Nat → Int32) (place : Int32) : Nat → Option Nat × Int32
  | 0 => (none, 0)
  | r + 1 => (if (p_best f place r).2 < p_draws f r place then some r else (p_best f place r).1, if (p_best f place r).2 < p_draws f r place then p_draws f r place else (p_best f place r).2)
def p_strk (f : Nat → Int32) (n : Nat) (place : Int32) : Option Nat := (p_best f place n).1
theorem p_best_lt (f : Nat → Int32) (place : Int32) : ∀ n k, (p_best f place n).1 = some k → k < n
  | 0, k, h => by cases h
  | n + 1, k, h => by
    simp only [p_best] at h
    split at h
    · cases h; omega
    · have := p_best_lt f place n k h; omega
theorem p_strk_lt {f : Nat → Int32} {n : Nat} {place : Int32} {k : Nat} (h : p_strk f n place = some k) : k < n := p_best_lt f place n k h
def p_boltO (f : Nat → Int32) : Option Nat → Nat → Int32
  | none => upd (upd f 6 (p_held (f 6 + f 1) 0 99999)) 1 0
  | some k =>
    let o := p_owes f k (f 1)
    let g1 := upd f (9 + 7 * k + 6) (p_held (f (9 + 7 * k + 6) + 1) 0 99999)
    let g := upd g1 (9 + 7 * k + 5) (p_held (g1 (9 + 7 * k + 5) + o) 0 99999)
    upd (if o = 0 then upd g 6 (p_held (g 6 + g 1) 0 99999) else g) 1 0
def p_bolt (f : Nat → Int32) (n : Nat) : Nat → Int32 := p_boltO f (p_strk f n (f 0))
def p_breaks (f : Nat → Int32) : Int32 := if f 1 < f 4 then 0 else 1
def p_drift (g : Nat → Int32) : Nat → Int32 := if p_in (g 0 + g 2) 0 15 = 0 then upd g 2 (-(g 2)) else upd g 0 (g 0 + g 2)
def p_grow (h : Nat → Int32) : Nat → Int32 := upd h 1 (p_held (h 1 + h 3) 0 99)
def p_rest (g : Nat → Int32) : Nat → Int32 := upd (p_grow (p_drift g)) 5 (p_grow (p_drift g) 5 + 1)
def p_hour (f : Nat → Int32) (n : Nat) : Nat → Int32 := p_rest (if p_breaks f = 0 then f else p_bolt f n)
def p_pass (f : Nat → Int32) (n : Nat) : Nat → Nat → Int32
  | 0 => f
  | i + 1 => p_hour (p_pass f n i) n
theorem p_boltO_8 (f : Nat → Int32) : ∀ o, p_boltO f o 8 = f 8
  | none => by rw [p_boltO, updN (by decide), updN (by decide)]
  | some k => by
    simp only [p_boltO]
    rw [updN (by decide)]
    split
    · rw [updN (by decide), updN (by omega), updN (by omega)]
    · rw [updN (by omega), updN (by omega)]
theorem p_bolt_8 (f : Nat → Int32) (n : Nat) : p_bolt f n 8 = f 8 := p_boltO_8 f _
theorem p_drift_ge (g : Nat → Int32) {j : Nat} (h : 3 ≤ j) : p_drift g j = g j := by
  unfold p_drift
  split
  · rw [updN (by omega)]
  · rw [updN (by omega)]
theorem p_rest_ge (g : Nat → Int32) {j : Nat} (h : 6 ≤ j) : p_rest g j = g j := by
  unfold p_rest p_grow
  rw [updN (by omega), updN (by omega), p_drift_ge g (by omega)]
theorem p_hour_8 (f : Nat → Int32) (n : Nat) : p_hour f n 8 = f 8 := by
  unfold p_hour
  rw [p_rest_ge _ (by decide)]
  split
  · rfl
  · exact p_bolt_8 f n
theorem p_pass_8 (f : Nat → Int32) (n : Nat) : ∀ i, p_pass f n i 8 = f 8
  | 0 => rfl
  | i + 1 => by rw [p_pass, p_hour_8, p_pass_8 f n i]
def p_sum (f : Nat → Int32) (w : Nat) : Nat → Int32
  | 0 => 0
  | r + 1 => p_sum f w r + f (9 + 7 * r + w)
def p_paidSum (f : Nat → Int32) : Nat → Int32
  | 0 => 0
  | r + 1 => p_paidSum f r + p_paidMany f r
def p_drawSum (f : Nat → Int32) (c : Int32) : Nat → Int32
  | 0 => 0
  | r + 1 => p_drawSum f c r + p_draws f r c
def p_paidSet (f : Nat → Int32) : Nat → Int32
  | 0 => 0
  | r + 1 => p_paidSet f r ||| (if p_isPaid f r = 0 then (0 : Int32) else (1 : Int32) <<< (nI r &&& 31))
def p_down (f : Nat → Int32) (n r : Nat) : Nat → Int32 := fun j => if j = 8 then nI (n - 1) else if 9 + 7 * r ≤ j ∧ j < 9 + 7 * (n - 1) then f (j + 7) else f j
def p_add (f : Nat → Int32) (n : Nat) (kind place height from_ to_ : Int32) : Nat → Int32 :=
  upd (upd (upd (upd (upd (upd (upd (upd f (9 + 7 * n) kind) (9 + 7 * n + 1) place) (9 + 7 * n + 2) height) (9 + 7 * n + 3) from_) (9 + 7 * n + 4) to_) (9 + 7 * n + 5) 0) (9 + 7 * n + 6) 0) 8 (nI (n + 1))
