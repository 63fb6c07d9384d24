/-! the reference's numbers, as functions of its row (51) -/
def p_in (v a b : Int32) : Int32 := if v < a then 0 else if b < v then 0 else 1
def p_held (v a b : Int32) : Int32 := if v < a then a else if b < v then b else v
abbrev p_rem (x y : Int32) : Int32 := x - x / y * y
/-- a world with another row -/
def setR (σ : Sg) (f : Nat → Int32) : Sg := (fun c j => if c = 51 then f j else σ.1 c j, σ.2.1, σ.2.2)
theorem setR_51 (σ : Sg) (f : Nat → Int32) : (setR σ f).1 51 = f := rfl
theorem setR_at (σ : Sg) (f : Nat → Int32) (j : Nat) : (setR σ f).1 51 j = f j := rfl
theorem setR_ne {σ : Sg} {f : Nat → Int32} {c j : Nat} (h : c ≠ 51) : (setR σ f).1 c j = σ.1 c j := by simp [setR, h]
theorem setR_setR (σ : Sg) (f g : Nat → Int32) : setR (setR σ f) g = setR σ g := by
  unfold setR
  simp only [Prod.mk.injEq, and_true]
  funext c j
  by_cases h : c = 51 <;> simp [h]
theorem setR_self (σ : Sg) : setR σ (σ.1 51) = σ := by
  obtain ⟨a, b, c⟩ := σ
  unfold setR
  simp only [Prod.mk.injEq, and_true]
  funext c j
  by_cases h : c = 51 <;> simp [h]
theorem wI_51 (σ : Sg) (j : Nat) (v : Int32) : wI σ 51 j v = setR σ (upd (σ.1 51) j v) := by
  unfold wI setR upd
  simp only [Prod.mk.injEq, and_true]
  funext c k
  by_cases h : c = 51
  · subst h
    simp
  · simp [h]
theorem updS {f : Nat → Int32} {k : Nat} {x : Int32} : upd f k x k = x := by simp [upd]
theorem updN {f : Nat → Int32} {k j : Nat} {x : Int32} (h : j ≠ k) : upd f k x j = f j := by simp [upd, h]
def p_draws (f : Nat → Int32) (k : Nat) (c : Int32) : Int32 :=
  let d := if f (9 + 7 * k + 1) < c then c - f (9 + 7 * k + 1) else f (9 + 7 * k + 1) - c
  let h := f (9 + 7 * k + 2)
  let pl := p_held (h - 4 * d) 0 60
  if f (9 + 7 * k) = 1 then pl + 8
  else if f (9 + 7 * k) = 2 then pl + h
  else if f (9 + 7 * k) = 3 then (if pl < 3 then 0 else pl - 3)
  else if f (9 + 7 * k) = 4 then pl + 28
  else if f (9 + 7 * k) = 5 then (if pl + h < 10 then 0 else pl + h - 10)
  else pl
def p_clock (f : Nat → Int32) : Int32 := p_rem (f 5) 24
def p_paidMany (f : Nat → Int32) (k : Nat) : Int32 := p_rem (f (9 + 7 * k + 4) - f (9 + 7 * k + 3) + 24) 24
def p_isPaid (f : Nat → Int32) (k : Nat) : Int32 := if p_rem (p_clock f - f (9 + 7 * k + 3) + 24) 24 < p_paidMany f k then 1 else 0
def p_owes (f : Nat → Int32) (k : Nat) (charge : Int32) : Int32 :=
  let c := if p_isPaid f k = 0 then 0 else charge
  if f (9 + 7 * k) = 1 then c - c / 10
  else if f (9 + 7 * k) = 4 then (c - c / 10) / 2
  else if f (9 + 7 * k) = 3 then 0
  else if f (9 + 7 * k) = 5 then 0
  else c
/-- the best draw of the first rods: whom, and how much -/
def p_best (f : Nat → Int32) (place : Int32) : Nat → Int32 × Int32
  | 0 => (-1, 0)
  | r + 1 => (if (p_best f place r).2 < p_draws f r place then nI r else (p_best f place r).1, if (p_best f place r).2 < p_draws f r place then p_draws f r place else (p_best f place r).2)
def p_struck (f : Nat → Int32) (n : Nat) (place : Int32) : Int32 := (p_best f place n).1
