/-! frames of the reference's calls; its observable state -/
def cpN (σ : Sg) (a b i : Nat) : Sg := (fun c j => if c = b ∧ j < i then σ.1 a j else σ.1 c j, σ.2.1, σ.2.2)
theorem cpN_0 (σ : Sg) (a b : Nat) : cpN σ a b 0 = σ := by
  obtain ⟨x, y, z⟩ := σ
  unfold cpN
  simp
theorem cpN_a {σ : Sg} {a b i j : Nat} (h : a ≠ b) : (cpN σ a b i).1 a j = σ.1 a j := by simp [cpN, h]
theorem cpN_ne {σ : Sg} {a b i c j : Nat} (h : c ≠ b) : (cpN σ a b i).1 c j = σ.1 c j := by simp [cpN, h]
theorem cpN_b {σ : Sg} {a b i j : Nat} (h : j < i) : (cpN σ a b i).1 b j = σ.1 a j := by simp [cpN, h]
theorem cpN_b' {σ : Sg} {a b i j : Nat} (h : ¬ j < i) : (cpN σ a b i).1 b j = σ.1 b j := by simp [cpN, h]
theorem cpN_s {σ : Sg} {a b i : Nat} {v : Int32} (hv : v = σ.1 a i) : wI (cpN σ a b i) b i v = cpN σ a b (i + 1) := by
  unfold wI cpN
  simp only [Prod.mk.injEq, and_true]
  funext c j
  by_cases h : c = b
  · by_cases h2 : j = i
    · subst h2
      simp [h, hv]
    · by_cases h3 : j < i
      · simp [h, h2, h3, Nat.lt_succ_of_lt h3]
      · have h4 : ¬ j < i + 1 := by omega
        simp [h, h2, h3, h4]
  · simp [h]
/-- the fields of the reference that nobody asks for -/
def scrF (j : Nat) : Bool := [3, 4, 5, 6, 8, 11, 12, 13, 15, 16].contains j
/-- all but the row and what nobody asks for is as it was -/
def Mr (σ σ' : Sg) : Prop := (∀ c j, c ≠ 51 → c ≠ 53 → c ≠ 54 → c ≠ 61 → (c = 50 → scrF j = false) → σ'.1 c j = σ.1 c j) ∧ (∀ c j, c ≠ 59 → (c = 50 → j ≠ 14) → σ'.2.1 c j = σ.2.1 c j) ∧ σ'.2.2 = σ.2.2
theorem Mr.rfl {σ : Sg} : Mr σ σ := ⟨fun _ _ _ _ _ _ _ => Eq.refl _, fun _ _ _ _ => Eq.refl _, Eq.refl _⟩
theorem Mr.trans {a b c : Sg} (h : Mr a b) (k : Mr b c) : Mr a c := ⟨fun x j h1 h2 h3 h4 h5 => (k.1 x j h1 h2 h3 h4 h5).trans (h.1 x j h1 h2 h3 h4 h5), fun x j h1 h2 => (k.2.1 x j h1 h2).trans (h.2.1 x j h1 h2), k.2.2.trans h.2.2⟩
theorem Mr.setR {σ : Sg} {f : Nat → Int32} : Mr σ (setR σ f) := ⟨fun _ _ h _ _ _ _ => setR_ne h, fun _ _ _ _ => Eq.refl _, Eq.refl _⟩
theorem Mr.cp {σ : Sg} {a b : Nat} {i : Nat} (h : b = 51 ∨ b = 53 ∨ b = 54 ∨ b = 61) : Mr σ (cpN σ a b i) := ⟨fun c j h1 h2 h3 h4 _ => cpN_ne (by rcases h with rfl | rfl | rfl | rfl <;> assumption), fun _ _ _ _ => Eq.refl _, Eq.refl _⟩
theorem Mr.fld {σ : Sg} {k : Nat} {v : Int32} (h : scrF k = true) : Mr σ (wI σ 50 k v) := ⟨fun c j h1 h2 h3 h4 h5 => by
  by_cases hc : c = 50
  · refine wI_k (fun e => ?_)
    have := h5 hc
    rw [e, h] at this
    cases this
  · exact wI_c hc, fun _ _ _ _ => Eq.refl _, Eq.refl _⟩
theorem Mr.wR {σ : Sg} {k : Nat} {v : Int32} : Mr σ (wI σ 51 k v) := by rw [wI_51]; exact Mr.setR
/-- the same, and the row too -/
def Mq (σ σ' : Sg) : Prop := σ'.1 51 = σ.1 51 ∧ Mr σ σ'
theorem Mq.rfl {σ : Sg} : Mq σ σ := ⟨Eq.refl _, Mr.rfl⟩
theorem Mq.trans {a b c : Sg} (h : Mq a b) (k : Mq b c) : Mq a c := ⟨k.1.trans h.1, h.2.trans k.2⟩
theorem p_boltO_65 (f : Nat → Int32) {j : Nat} (hj : 65 ≤ j) : ∀ o, (∀ k, o = some k → k < 8) → p_boltO f o j = f j
  | none, _ => by rw [p_boltO, updN (by omega), updN (by omega)]
  | some k, h => by
    have := h k (Eq.refl _)
    simp only [p_boltO]
    rw [updN (by omega)]
    split
    · rw [updN (by omega), updN (by omega), updN (by omega)]
    · rw [updN (by omega), updN (by omega)]
theorem p_hour_65 (f : Nat → Int32) {n : Nat} (h8 : n ≤ 8) {j : Nat} (hj : 65 ≤ j) : p_hour f n j = f j := by
  unfold p_hour
  rw [p_rest_ge _ (by omega)]
  split
  · rfl
  · exact p_boltO_65 f hj _ (fun k hk => by have := p_strk_lt hk; omega)
theorem p_pass_65 (f : Nat → Int32) {n : Nat} (h8 : n ≤ 8) {j : Nat} (hj : 65 ≤ j) : ∀ i, p_pass f n i j = f j
  | 0 => rfl
  | i + 1 => by rw [p_pass, p_hour_65 _ h8 hj, p_pass_65 f h8 hj i]
/-- the row put back -/
theorem back51 {σ τ : Sg} (h1 : ∀ j, j < 65 → τ.1 53 j = σ.1 51 j) (h2 : ∀ j, 65 ≤ j → τ.1 51 j = σ.1 51 j) : (cpN τ 53 51 65).1 51 = σ.1 51 := by
  funext j
  rcases Nat.lt_or_ge j 65 with h | h
  · rw [cpN_b h, h1 j h]
  · rw [cpN_b' (by omega), h2 j h]
/-- the next hour in which it breaks, from hour i on, within m hours -/
def p_find (f : Nat → Int32) (n : Nat) : Nat → Nat → Nat
  | 0, i => i
  | m + 1, i => if p_breaks (p_pass f n i) = 0 then p_find f n m (i + 1) else i
theorem p_find_le (f : Nat → Int32) (n : Nat) : ∀ m i, p_find f n m i ≤ i + m
  | 0, i => Nat.le_refl _
  | m + 1, i => by
    unfold p_find
    split
    · have := p_find_le f n m (i + 1); omega
    · omega
/-- the next bolt: in how many hours (100: none) -/
def p_nx (f : Nat → Int32) (n : Nat) : Nat := p_find f n 100 0
theorem p_nx_le (f : Nat → Int32) (n : Nat) : p_nx f n ≤ 100 := by have := p_find_le f n 100 0; unfold p_nx; omega
/-- the row as the next bolt strikes -/
def p_nf (f : Nat → Int32) (n : Nat) : Nat → Int32 := p_pass f n (p_nx f n)
def p_clk (f : Nat → Int32) (n k : Nat) : Nat → Int32
  | 0 => 0
  | i + 1 => p_clk f n k i ||| (if p_breaks (p_pass f n i) = 0 then (0 : Int32) else if oI (p_strk (p_pass f n i) n (p_pass f n i 0)) = nI k then (1 : Int32) <<< (p_clock (p_pass f n i) &&& 31) else 0)
/-- nothing but 'tried' (53) is changed -/
def Mt (σ σ' : Sg) : Prop := (∀ c j, c ≠ 53 → σ'.1 c j = σ.1 c j) ∧ σ'.2 = σ.2
theorem Mt.row {σ σ' : Sg} (h : Mt σ σ') : σ'.1 51 = σ.1 51 := funext fun j => h.1 51 j (by decide)
theorem Mt.mq {σ σ' : Sg} (h : Mt σ σ') : Mq σ σ' := ⟨h.row, fun c j _ h2 _ _ _ => h.1 c j h2, fun c j _ _ => by rw [h.2], by rw [h.2]⟩
theorem upd_upd (f : Nat → Int32) (i : Nat) (a b : Int32) : upd (upd f i a) i b = upd f i b := by
  funext j
  unfold upd
  by_cases e : j = i <;> simp [e]
theorem upd_same (f : Nat → Int32) (i : Nat) : upd f i (f i) = f := by
  funext j
  unfold upd
  by_cases e : j = i <;> simp [e]
