/-! covers, from, fork, share, feed -/
def p_cov (s f m : Int32) : Nat → Int32
  | 0 => 1
  | c + 1 => if p_cov s f m c = 0 then 0 else if (s >>> (nI c &&& 31)) &&& 1 = 0 then 1 else if p_rem (nI c - f + 24) 24 < m then 1 else 0
theorem p_cov_s (s f m : Int32) (c : Nat) : p_cov s f m (c + 1) = if p_cov s f m c = 0 then 0 else if (s >>> (nI c &&& 31)) &&& 1 = 0 then 1 else if p_rem (nI c - f + 24) 24 < m then 1 else 0 := rfl
theorem p_cov_01 (s f m : Int32) : ∀ c, p_cov s f m c = 0 ∨ p_cov s f m c = 1
  | 0 => Or.inr rfl
  | c + 1 => by
    unfold p_cov
    split
    · exact Or.inl rfl
    · split
      · exact Or.inr rfl
      · split
        · exact Or.inr rfl
        · exact Or.inl rfl
theorem cov_all : ∀ c, c < 24 → p_rem (nI c - nI 0 + 24) 24 < nI 24 := by decide
theorem p_cov_24 (s : Int32) : ∀ c, c ≤ 24 → p_cov s (nI 0) (nI 24) c = 1
  | 0, _ => rfl
  | c + 1, h => by
    unfold p_cov
    rw [p_cov_24 s c (by omega), if_neg (by decide)]
    split
    · rfl
    · rw [if_pos (cov_all c (by omega))]
/-- the search for the fewest hours: t stands for t / 24 hours from t % 24 on -/
def p_ct (s : Int32) (t : Nat) : Int32 := p_cov s (nI (t % 24)) (nI (t / 24)) 24
def p_few (s : Int32) : Nat := p_fst (p_ct s) 576 0
theorem p_few_le (s : Int32) : p_few s ≤ 576 := by have := p_fst_le (p_ct s) 576 0; unfold p_few; omega
theorem p_ct_end (s : Int32) : p_ct s 576 = 1 := p_cov_24 s 24 (by omega)
theorem p_fst_0 (p : Nat → Int32) (i : Nat) : p_fst p 0 i = i := rfl
theorem p_fst_s (p : Nat → Int32) (m i : Nat) : p_fst p (m + 1) i = if p i = 0 then p_fst p m (i + 1) else i := rfl
def M_covers (μ : MO) (r q : Int32) : Int32 × MO :=
  if p_in r 0 (μ.1 8 - 1) = 0 then (-1000000001, sFnd μ 0) else if p_in q 0 100 = 0 then (-1000000001, sFnd μ 0) else (nI (p_few (p_clk μ.1 (nR μ) r.toNatClampNeg q.toNatClampNeg) / 24), μ)
def M_from (μ : MO) (r q : Int32) : Int32 × MO :=
  if p_in r 0 (μ.1 8 - 1) = 0 then (-1000000001, sFnd μ 0) else if p_in q 0 100 = 0 then (-1000000001, sFnd μ 0) else (nI (p_few (p_clk μ.1 (nR μ) r.toNatClampNeg q.toNatClampNeg) % 24), μ)
def p_lft (f : Nat → Int32) (all : Int32) : Nat → Int32
  | 0 => f 1
  | k + 1 => p_lft f all k - p_draws f k (f 0) * f 1 / all
def p_ahd (f : Nat → Int32) (all own : Int32) (r : Nat) : Nat → Int32
  | 0 => 0
  | k + 1 => p_ahd f all own r k + (if p_rem own all < p_rem (p_draws f k (f 0) * f 1) all ∨ (p_rem (p_draws f k (f 0) * f 1) all = p_rem own all ∧ nI k < nI r) then 1 else 0)
def p_share (f : Nat → Int32) (n k : Nat) : Int32 :=
  let all := p_drawSum f (f 0) n
  let own := p_draws f k (f 0) * f 1
  if all = 0 then 0 else own / all + (if p_ahd f all own k n < p_lft f all n then 1 else 0)
def M_share (μ : MO) (r : Int32) : Int32 × MO :=
  if p_in r 0 (μ.1 8 - 1) = 0 then (-1000000001, sFnd μ 0) else (p_share μ.1 (nR μ) r.toNatClampNeg, μ)
/-- the tape behind i of the q lowest bytes of b -/
def p_fed (g : Nat → Int32) (t q : Nat) (b : Int32) : Nat → Nat → Int32
  | 0 => g
  | i + 1 => upd (p_fed g t q b i) (t + i) ((b >>> (nI (8 * (q - 1 - i)) &&& 31)) &&& 255)
def M_feed (μ : MO) (b q : Int32) : Int32 × MO :=
  if p_in q 1 4 = 0 then (-1000000001, sFnd μ 0) else if 120 < μ.2.2.2.2.1 + q then (-1000000002, sFnd μ 1)
  else (μ.2.2.2.2.1 + q, sTap (sTm μ (μ.2.2.2.2.1 + q)) (p_fed μ.2.2.2.2.2.1 μ.2.2.2.2.1.toNatClampNeg q.toNatClampNeg b q.toNatClampNeg))
/-- what a fork gives: rod k's part, above and below the line -/
def p_forkA (f : Nat → Int32) (k : Nat) : Nat := (p_draws f k (f 0) * f 1).toNatClampNeg
def p_forkB (f : Nat → Int32) (n k : Nat) : Nat := if p_forkA f k = 0 then 1 else (p_drawSum f (f 0) n).toNatClampNeg
def M_fork (μ : MO) (r part : Int32) : Int32 × MO :=
  if p_in r 0 (μ.1 8 - 1) = 0 then (-1000000001, sFnd μ 0) else if p_in part 0 1 = 0 then (-1000000001, sFnd μ 0)
  else (if part = 0 then nI (p_forkA μ.1 r.toNatClampNeg / Nat.gcd (p_forkA μ.1 r.toNatClampNeg) (p_forkB μ.1 (nR μ) r.toNatClampNeg)) else nI (p_forkB μ.1 (nR μ) r.toNatClampNeg / Nat.gcd (p_forkA μ.1 r.toNatClampNeg) (p_forkB μ.1 (nR μ) r.toNatClampNeg)), μ)
