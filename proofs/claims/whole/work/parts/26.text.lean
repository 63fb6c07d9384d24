/-! the text: tokens -/
def bt (g : Nat → Int32) (t k : Nat) : Int32 := if k < t then g k else -1
def isBl (g : Nat → Int32) (t : Nat) (i : Nat) : Int32 := if bt g t i = 32 then 0 else 1
def isLe (g : Nat → Int32) (t : Nat) (i : Nat) : Int32 := if p_in (bt g t i) 97 122 = 0 then 1 else 0
def isDi (g : Nat → Int32) (t : Nat) (i : Nat) : Int32 := if p_in (bt g t i) 48 57 = 0 then 1 else 0
def tkB (g : Nat → Int32) (t p : Nat) : Nat := p_fst (isBl g t) (t - p) p
def tkS (g : Nat → Int32) (t p : Nat) : Nat := if bt g t (tkB g t p) < 0 then 0 else if ¬ p_in (bt g t (tkB g t p)) 97 122 = 0 then 1 else if ¬ p_in (bt g t (tkB g t p)) 48 57 = 0 then 2 else 3
def tkE (g : Nat → Int32) (t p : Nat) : Nat :=
  if tkS g t p = 0 then tkB g t p else if tkS g t p = 1 then p_fst (isLe g t) (t - tkB g t p) (tkB g t p) else if tkS g t p = 2 then p_fst (isDi g t) (t - tkB g t p) (tkB g t p) else tkB g t p + 1
def p_wc (g : Nat → Int32) (b : Nat) : Nat → Int64
  | 0 => 0
  | i + 1 => if i < 12 then 27 * p_wc g b i + (g (b + i)).toInt64 - 96 else -1
theorem p_wc_s (g : Nat → Int32) (b i : Nat) : p_wc g b (i + 1) = if i < 12 then 27 * p_wc g b i + (g (b + i)).toInt64 - 96 else -1 := rfl
def p_vc (g : Nat → Int32) (b : Nat) : Nat → Int32
  | 0 => 0
  | i + 1 => if 99 < p_vc g b i then 1000 else 10 * p_vc g b i + g (b + i) - 48
theorem p_vc_s (g : Nat → Int32) (b i : Nat) : p_vc g b (i + 1) = if 99 < p_vc g b i then 1000 else 10 * p_vc g b i + g (b + i) - 48 := rfl
def tkW (g : Nat → Int32) (t p : Nat) : Int64 := if tkS g t p = 1 then p_wc g (tkB g t p) (tkE g t p - tkB g t p) else 0
def tkV (g : Nat → Int32) (t p : Nat) : Int32 := if tkS g t p = 2 then p_vc g (tkB g t p) (tkE g t p - tkB g t p) else bt g t (tkB g t p)
theorem p_fst_ge (p : Nat → Int32) : ∀ m i, i ≤ p_fst p m i
  | 0, i => Nat.le_refl _
  | m + 1, i => by
    rw [p_fst_s]
    split
    · have := p_fst_ge p m (i + 1); omega
    · omega
theorem tkB_le {g : Nat → Int32} {t p : Nat} (h : p ≤ t) : p ≤ tkB g t p ∧ tkB g t p ≤ t := by
  have h1 := p_fst_ge (isBl g t) (t - p) p
  have h2 := p_fst_le (isBl g t) (t - p) p
  unfold tkB
  omega
theorem bt_lt {g : Nat → Int32} {t k : Nat} (h : k < t) : bt g t k = g k := if_pos h
theorem bt_ge {g : Nat → Int32} {t k : Nat} (h : t ≤ k) : bt g t k = -1 := if_neg (by omega)
/-- all but the token's fields is as it was -/
def Tq (σ τ : Sg) : Prop := (∀ c j, ¬ (c = 50 ∧ (j = 11 ∨ j = 12 ∨ j = 13 ∨ j = 15)) → τ.1 c j = σ.1 c j) ∧ (∀ c j, ¬ (c = 50 ∧ j = 14) → τ.2.1 c j = σ.2.1 c j) ∧ τ.2.2 = σ.2.2
theorem Tq.rfl {σ : Sg} : Tq σ σ := ⟨fun _ _ _ => Eq.refl _, fun _ _ _ => Eq.refl _, Eq.refl _⟩
theorem Tq.trans {a b c : Sg} (h : Tq a b) (k : Tq b c) : Tq a c := ⟨fun x j hx => (k.1 x j hx).trans (h.1 x j hx), fun x j hx => (k.2.1 x j hx).trans (h.2.1 x j hx), k.2.2.trans h.2.2⟩
theorem Tq.w {σ : Sg} {j : Nat} {v : Int32} (h : j = 11 ∨ j = 12 ∨ j = 13 ∨ j = 15) : Tq σ (wI σ 50 j v) := ⟨fun c i hc => by
  show (if c = 50 ∧ i = j then v else σ.1 c i) = σ.1 c i
  have hne : ¬ (c = 50 ∧ i = j) := by
    rintro ⟨z1, z2⟩
    subst z2
    exact hc ⟨z1, h⟩
  rw [if_neg hne], fun _ _ _ => Eq.refl _, Eq.refl _⟩
theorem Tq.wl {σ : Sg} {v : Int64} : Tq σ (wL σ 50 14 v) := ⟨fun _ _ _ => Eq.refl _, fun c i hc => by
  show (if c = 50 ∧ i = 14 then v else σ.2.1 c i) = σ.2.1 c i
  rw [if_neg hc], Eq.refl _⟩
/-- the token's fields, behind position p -/
def TkQ (σ : Sg) (g : Nat → Int32) (t p : Nat) : Prop := σ.1 50 11 = nI (tkS g t p) ∧ σ.1 50 12 = nI (tkB g t p) ∧ σ.1 50 13 = nI (tkE g t p) ∧ σ.2.1 50 14 = tkW g t p ∧ σ.1 50 15 = tkV g t p

theorem p_fst_stop {p : Nat → Int32} {m i : Nat} (h : ¬ p i = 0) : p_fst p m i = i := by
  cases m with
  | zero => exact p_fst_0 p i
  | succ m => rw [p_fst_s, if_neg h]
theorem p_fst_go {p : Nat → Int32} {t i : Nat} (h : p i = 0) (hi : i < t) : p_fst p (t - i) i = p_fst p (t - (i + 1)) (i + 1) := by
  rw [show t - i = (t - (i + 1)) + 1 by omega, p_fst_s, if_pos h]
theorem Tq.c10 {σ τ : Sg} (h : Tq σ τ) : τ.1 50 10 = σ.1 50 10 := h.1 50 10 (by decide)
theorem Tq.c55 {σ τ : Sg} (h : Tq σ τ) : τ.1 55 = σ.1 55 := funext fun j => h.1 55 j (by rintro ⟨z, _⟩; exact absurd z (by decide))
theorem bt_in {g : Nat → Int32} {t k : Nat} {a b : Int32} (ha : ¬ a < 0) (h : ¬ p_in (bt g t k) a b = 0) : k < t := by
  rcases Nat.lt_or_ge k t with z | z
  · exact z
  · rw [bt_ge z] at h
    obtain ⟨h1, h2⟩ := in_of h
    exact absurd (Int32.lt_of_lt_of_le (by decide : (-1 : Int32) < 0) (Int32.not_lt.mp ha)) h1
theorem isLe_0 {g : Nat → Int32} {t i : Nat} (h : ¬ p_in (bt g t i) 97 122 = 0) : isLe g t i = 0 := if_neg h
theorem isLe_1 {g : Nat → Int32} {t i : Nat} (h : p_in (bt g t i) 97 122 = 0) : ¬ isLe g t i = 0 := by
  unfold isLe
  rw [if_pos h]
  decide
theorem isDi_0 {g : Nat → Int32} {t i : Nat} (h : ¬ p_in (bt g t i) 48 57 = 0) : isDi g t i = 0 := if_neg h
theorem isDi_1 {g : Nat → Int32} {t i : Nat} (h : p_in (bt g t i) 48 57 = 0) : ¬ isDi g t i = 0 := by
  unfold isDi
  rw [if_pos h]
  decide
theorem isBl_0 {g : Nat → Int32} {t i : Nat} (h : bt g t i = 32) : isBl g t i = 0 := if_pos h
theorem isBl_1 {g : Nat → Int32} {t i : Nat} (h : ¬ bt g t i = 32) : ¬ isBl g t i = 0 := by
  unfold isBl
  rw [if_neg h]
  decide
theorem bt_32 {g : Nat → Int32} {t k : Nat} (h : bt g t k = 32) : k < t := by
  rcases Nat.lt_or_ge k t with z | z
  · exact z
  · rw [bt_ge z] at h
    exact absurd h (by decide)
theorem nI_sub2 (b d : Nat) : nI (b + d) - nI b = nI d := by
  rw [← nI_add, Int32.add_comm, Int32.add_sub_cancel]
