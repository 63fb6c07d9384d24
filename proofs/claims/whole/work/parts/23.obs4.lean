/-! feed and sheets -/
theorem p_fed_s (g : Nat → Int32) (t q : Nat) (b : Int32) (i : Nat) : p_fed g t q b (i + 1) = upd (p_fed g t q b i) (t + i) ((b >>> (nI (8 * (q - 1 - i)) &&& 31)) &&& 255) := rfl
/-- all but the tape and its length is as it was -/
def Fq (σ τ : Sg) : Prop := (∀ c j, c ≠ 55 → ¬ (c = 50 ∧ j = 10) → τ.1 c j = σ.1 c j) ∧ τ.2 = σ.2
theorem obs_fq {σ τ : Sg} (h : Fq σ τ) : obs τ = sTap (sTm (obs σ) (τ.1 50 10)) (τ.1 55) := by
  unfold obs sTap sTm
  simp only [Prod.mk.injEq]
  refine ⟨funext fun j => h.1 _ _ (by decide) (by omega), funext fun j => h.1 _ _ (by decide) (by omega), funext fun j => h.1 _ _ (by decide) (by omega), h.1 _ _ (by decide) (by omega), trivial, trivial, funext fun j => h.1 _ _ (by decide) (by omega), funext fun j => h.1 _ _ (by decide) (by omega), by rw [h.2]⟩
theorem Co.fq {σ τ : Sg} (h : Fq σ τ) : Co σ τ := ⟨fun c j hc => h.1 c j (by omega) (by omega), fun _ _ _ => by rw [h.2], by rw [h.2]⟩
/-- all but the sheets' longs, lent, row and scratch is as it was -/
def Sq (σ τ : Sg) : Prop := (∀ c j, c ≠ 51 → c ≠ 53 → c ≠ 54 → c ≠ 61 → (c = 50 → scrF j = false) → τ.1 c j = σ.1 c j) ∧ (∀ c j, c ≠ 58 → c ≠ 59 → (c = 50 → j ≠ 14) → τ.2.1 c j = σ.2.1 c j) ∧ τ.2.2 = σ.2.2
theorem obs_sq {σ τ : Sg} (h : Sq σ τ) : obs τ = sShe (sRow (obs σ) (τ.1 51)) (τ.2.1 58) := by
  unfold obs sShe sRow
  simp only [Prod.mk.injEq]
  refine ⟨trivial, funext fun j => h.1 _ _ (by decide) (by decide) (by decide) (by decide) (fun e => by cases e), funext fun j => h.1 _ _ (by decide) (by decide) (by decide) (by decide) (fun e => by cases e), h.1 _ _ (by decide) (by decide) (by decide) (by decide) (fun _ => rfl), h.1 _ _ (by decide) (by decide) (by decide) (by decide) (fun _ => rfl), funext fun j => h.1 _ _ (by decide) (by decide) (by decide) (by decide) (fun e => by cases e), funext fun j => h.1 _ _ (by decide) (by decide) (by decide) (by decide) (fun e => by cases e), funext fun j => h.1 _ _ (by decide) (by decide) (by decide) (by decide) (fun e => by cases e), trivial⟩
theorem Co.sq {σ τ : Sg} (h : Sq σ τ) : Co σ τ := ⟨fun c j hc => h.1 c j (by omega) (by omega) (by omega) (by omega) (by omega), fun c j hc => h.2.1 c j (by omega) (by omega) (by omega), h.2.2⟩
theorem Sq.rfl {σ : Sg} : Sq σ σ := ⟨fun _ _ _ _ _ _ _ => Eq.refl _, fun _ _ _ _ _ => Eq.refl _, Eq.refl _⟩
theorem Sq.trans {a b c : Sg} (h : Sq a b) (k : Sq b c) : Sq a c := ⟨fun x j h1 h2 h3 h4 h5 => (k.1 x j h1 h2 h3 h4 h5).trans (h.1 x j h1 h2 h3 h4 h5), fun x j h1 h2 h3 => (k.2.1 x j h1 h2 h3).trans (h.2.1 x j h1 h2 h3), k.2.2.trans h.2.2⟩
theorem Sq.mr {a b : Sg} (h : Mr a b) : Sq a b := ⟨h.1, fun x j _ h2 h3 => h.2.1 x j h2 h3, h.2.2⟩
theorem Sq.wl {σ : Sg} {c k : Nat} {v : Int64} (h : c = 58 ∨ c = 59) : Sq σ (wL σ c k v) := ⟨fun _ _ _ _ _ _ _ => Eq.refl _, fun x j h1 h2 _ => wL_c (by rcases h with rfl | rfl <;> assumption), Eq.refl _⟩
def p_nar (bits : Int32) (v : Int64) : Int64 := if bits = 8 then (v <<< ((56 : Int32).toInt64 &&& 63)) >>> ((56 : Int32).toInt64 &&& 63) else if bits = 16 then (v <<< ((48 : Int32).toInt64 &&& 63)) >>> ((48 : Int32).toInt64 &&& 63) else v
def mBit (μ : MO) : Nat → Int32 := μ.2.2.2.2.2.2.1
def mSiz (μ : MO) : Nat → Int32 := μ.2.2.2.2.2.2.2.1
def mShe (μ : MO) : Nat → Int64 := μ.2.2.2.2.2.2.2.2
theorem mBit_o (σ : Sg) : mBit (obs σ) = σ.1 56 := by simp [mBit, obs]
theorem mSiz_o (σ : Sg) : mSiz (obs σ) = σ.1 57 := by simp [mSiz, obs]
theorem mShe_o (σ : Sg) : mShe (obs σ) = σ.2.1 58 := by simp [mShe, obs]
def M_sheet (μ : MO) (s bits q : Int32) : Int32 × MO :=
  if p_in s 0 3 = 0 then (-1000000001, sFnd μ 0) else if ¬ bits = 0 ∧ ¬ bits = 8 ∧ ¬ bits = 16 ∧ ¬ bits = 64 then (-1000000001, sFnd μ 0)
  else if q < 0 then (-1000000007, sFnd μ 6) else if 40 < q then (-1000000001, sFnd μ 0)
  else (if bits = 0 then 0 else q, sShe (sSiz (sBit μ (upd (mBit μ) s.toNatClampNeg bits)) (upd (mSiz μ) s.toNatClampNeg (if bits = 0 then 0 else q))) (fun j => if 40 * s.toNatClampNeg ≤ j ∧ j < 40 * s.toNatClampNeg + 40 then 0 else mShe μ j))
def M_write (μ : MO) (s i : Int32) (v : Int64) : Int64 × MO :=
  if p_in s 0 3 = 0 then ((-1000000001 : Int32).toInt64, sFnd μ 0) else if mBit μ s.toNatClampNeg = 0 then ((-1000000006 : Int32).toInt64, sFnd μ 5)
  else if p_in i 0 (mSiz μ s.toNatClampNeg - 1) = 0 then ((-1000000001 : Int32).toInt64, sFnd μ 0)
  else (mShe μ (40 * s.toNatClampNeg + i.toNatClampNeg), sShe μ (vp_updL (mShe μ) (40 * s.toNatClampNeg + i.toNatClampNeg) (p_nar (mBit μ s.toNatClampNeg) v)))
def PQl (σ : Sg) (R : Int64 × MO) : Option Value → Sg → Prop := fun v σ' => v = some (.long R.1) ∧ obs σ' = R.2 ∧ Co σ σ'
theorem PQl.fnd {σ : Sg} {R : Int64 × MO} {x : Int64} {j : Nat} (h : R = (x, sFnd (obs σ) j)) : PQl σ R (some (.long x)) (wI σ 52 j (σ.1 52 j + 1)) := by
  subst h
  exact ⟨rfl, obs_fnd σ j, Co.w (by decide)⟩
/-- does a sheet of z numbers have m from a on -/
def p_part (z a m : Int32) : Int32 := if a < 0 then 0 else if m < 0 then 0 else if z < m then 0 else if z - m < a then 0 else 1
def M_copy (μ : MO) (s a t b m : Int32) : Int32 × MO :=
  if p_in s 0 3 = 0 then (-1000000001, sFnd μ 0) else if p_in t 0 3 = 0 then (-1000000001, sFnd μ 0)
  else if mBit μ s.toNatClampNeg = 0 then (-1000000006, sFnd μ 5) else if mBit μ t.toNatClampNeg = 0 then (-1000000006, sFnd μ 5)
  else if ¬ mBit μ s.toNatClampNeg = mBit μ t.toNatClampNeg then (-1000000003, sFnd μ 2)
  else if p_part (mSiz μ s.toNatClampNeg) a m = 0 then (-1000000001, sFnd μ 0) else if p_part (mSiz μ t.toNatClampNeg) b m = 0 then (-1000000001, sFnd μ 0)
  else (m, sShe μ (fun j => if 40 * t.toNatClampNeg + b.toNatClampNeg ≤ j ∧ j < 40 * t.toNatClampNeg + b.toNatClampNeg + m.toNatClampNeg then mShe μ (40 * s.toNatClampNeg + a.toNatClampNeg + (j - (40 * t.toNatClampNeg + b.toNatClampNeg))) else mShe μ j))
def p_lay (f : Nat → Int32) (S : Nat → Int64) : Nat → (Nat → Int32) × Int32
  | 0 => (f, 0)
  | k + 1 => if lg_cmp (S k) 0 < 0 then p_lay f S k else if 0 < lg_cmp (S k) 60 then p_lay f S k else (upd (p_lay f S k).1 (9 + 7 * k + 2) (S k).toInt32, (p_lay f S k).2 + 1)
def p_bad (μ : MO) (s : Int32) : Int32 := if p_in s 0 3 = 0 then -1000000001 else if mBit μ s.toNatClampNeg = 0 then -1000000006 else 0
def M_lays (μ : MO) (s : Int32) : Int32 × MO :=
  if p_in s 0 3 = 0 then (-1000000001, sFnd μ 0) else if mBit μ s.toNatClampNeg = 0 then (-1000000006, sFnd μ 5)
  else ((p_lay μ.1 (fun k => mShe μ (40 * s.toNatClampNeg + k)) (min (mSiz μ s.toNatClampNeg).toNatClampNeg (nR μ))).2, sRow μ (p_lay μ.1 (fun k => mShe μ (40 * s.toNatClampNeg + k)) (min (mSiz μ s.toNatClampNeg).toNatClampNeg (nR μ))).1)
def M_book (μ : MO) (s r : Int32) : Int32 × MO :=
  if p_in s 0 3 = 0 then (-1000000001, sFnd μ 0) else if mBit μ s.toNatClampNeg = 0 then (-1000000006, sFnd μ 5) else if p_in r 0 (μ.1 8 - 1) = 0 then (-1000000001, sFnd μ 0)
  else (mSiz μ s.toNatClampNeg, sShe μ (fun j => if 40 * s.toNatClampNeg ≤ j ∧ j < 40 * s.toNatClampNeg + (mSiz μ s.toNatClampNeg).toNatClampNeg then p_nar (mBit μ s.toNatClampNeg) (p_pass μ.1 (nR μ) (j - 40 * s.toNatClampNeg) (9 + 7 * r.toNatClampNeg + 6)).toInt64 else mShe μ j))
def p_so (f : Nat → Int32) (n r : Nat) (S : Nat → Int64) : Nat → Int32
  | 0 => 1
  | k + 1 => if p_so f n r S k = 0 then 0 else if lg_cmp (S k) (p_pass f n k (9 + 7 * r + 6)).toInt64 = 0 then 1 else 0
theorem p_so_s (f : Nat → Int32) (n r : Nat) (S : Nat → Int64) (k : Nat) : p_so f n r S (k + 1) = if p_so f n r S k = 0 then 0 else if lg_cmp (S k) (p_pass f n k (9 + 7 * r + 6)).toInt64 = 0 then 1 else 0 := rfl
theorem p_so_0 {f : Nat → Int32} {n r : Nat} {S : Nat → Int64} {k : Nat} (h : p_so f n r S k = 0) : ∀ j, k ≤ j → p_so f n r S j = 0
  | 0, hj => by
    have : k = 0 := by omega
    subst this
    exact h
  | j + 1, hj => by
    rcases Nat.lt_or_ge j k with z | z
    · have : k = j + 1 := by omega
      subst this
      exact h
    · rw [p_so_s, if_pos (p_so_0 h j z)]
/-- how many places, of the first p, at charge c -/
def p_rdP (f : Nat → Int32) (n r z : Nat) (S : Nat → Int64) (c : Nat) : Nat → Int32
  | 0 => 0
  | p + 1 => p_rdP f n r z S c p + (if p_so (upd (upd f 1 (nI c)) 0 (nI p)) n r S z = 0 then 0 else 1)
def p_rdC (f : Nat → Int32) (n r z : Nat) (S : Nat → Int64) : Nat → Int32
  | 0 => 0
  | c + 1 => p_rdC f n r z S c + p_rdP f n r z S c 16
def M_read (μ : MO) (s r : Int32) : Int32 × MO :=
  if p_in s 0 3 = 0 then (-1000000001, sFnd μ 0) else if mBit μ s.toNatClampNeg = 0 then (-1000000006, sFnd μ 5) else if p_in r 0 (μ.1 8 - 1) = 0 then (-1000000001, sFnd μ 0)
  else (p_rdC μ.1 (nR μ) r.toNatClampNeg (mSiz μ s.toNatClampNeg).toNatClampNeg (fun k => mShe μ (40 * s.toNatClampNeg + k)) 100, μ)
theorem in_lt {r x : Int32} {n : Nat} (h : ¬ p_in r 0 (x - 1) = 0) (hn : x = nI n) (h31 : n < 2 ^ 31) : ∃ k, k < n ∧ r = nI k := by
  obtain ⟨h1, h2⟩ := in_of h
  obtain ⟨k, hk, e⟩ := nI_of h1
  refine ⟨k, ?_, e⟩
  subst e
  subst hn
  match n, h31, h2 with
  | 0, _, h2 =>
    exfalso
    apply h2
    have : (nI 0 - 1) < 0 := by decide
    exact Int32.lt_of_lt_of_le this (nI_pos' hk)
  | m + 1, h31, h2 =>
    rw [nI_pred] at h2
    exact Nat.lt_succ_of_le (nlt_nI (by omega) hk h2)
