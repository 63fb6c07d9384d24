/-! the class against a row: ranges, plains -/
def iB (x : Int32) (a b : Int) : Prop := a ≤ x.toInt ∧ x.toInt ≤ b
theorem iB.nat {x : Int32} {b : Nat} (h : iB x 0 b) : ∃ k, k ≤ b ∧ x = nI k := by
  have h1 : ¬ x < 0 := fun z => by
    have q0 := Int32.lt_iff_toInt_lt.mp z
    have q1 := h.1
    rw [show (0 : Int32).toInt = 0 from rfl] at q0
    omega
  obtain ⟨k, hk, e⟩ := nI_of h1
  refine ⟨k, ?_, e⟩
  have q2 := h.2
  rw [e, nI_toInt hk] at q2
  omega
theorem iB.of {k b : Nat} (h : k ≤ b) (hb : b < 2 ^ 31) : iB (nI k) 0 b := by
  unfold iB
  rw [nI_toInt (by omega)]
  omega
theorem iB.in {x a b : Int32} (h : ¬ p_in x a b = 0) : iB x a.toInt b.toInt := by
  obtain ⟨h1, h2⟩ := in_of h
  rw [Int32.lt_iff_toInt_lt] at h1 h2
  exact ⟨by omega, by omega⟩
theorem iB.mono {x : Int32} {a b c d : Int} (h : iB x a b) (h1 : c ≤ a) (h2 : b ≤ d) : iB x c d := ⟨by have := h.1; omega, by have := h.2; omega⟩
theorem iB.held {v a b : Int32} (h : a.toInt ≤ b.toInt) : iB (p_held v a b) a.toInt b.toInt := by
  unfold p_held
  split
  · exact ⟨by omega, h⟩
  · rename_i h1
    rw [Int32.lt_iff_toInt_lt] at h1
    split
    · exact ⟨h, by omega⟩
    · rename_i h2
      rw [Int32.lt_iff_toInt_lt] at h2
      exact ⟨by omega, by omega⟩
/-- a rod's seven numbers in a row -/
def rg (f : Nat → Int32) (r : Nat) : Nat → Int32 := fun w => f (9 + 7 * r + w)
def RVg (g : Nat → Int32) : Prop := iB (g 0) 0 5 ∧ iB (g 1) 0 15 ∧ iB (g 2) 0 60 ∧ iB (g 3) 0 23 ∧ iB (g 4) 0 23 ∧ iB (g 5) 0 99999 ∧ iB (g 6) 0 99999
def RV (f : Nat → Int32) (n : Nat) : Prop := (f 8 = nI n ∧ n ≤ 8) ∧ iB (f 0) 0 15 ∧ iB (f 1) 0 99 ∧ iB (f 2) (-1) 1 ∧ iB (f 3) 0 50 ∧ iB (f 4) 20 99 ∧ iB (f 6) 0 99999 ∧ ∀ r, r < n → RVg (rg f r)
theorem RV.n {f : Nat → Int32} {n : Nat} (h : RV f n) : f 8 = nI n := h.1.1
theorem RV.le {f : Nat → Int32} {n : Nat} (h : RV f n) : n ≤ 8 := h.1.2
theorem RV.rod {f : Nat → Int32} {n r : Nat} (h : RV f n) (hr : r < n) : RVg (rg f r) := h.2.2.2.2.2.2.2 r hr
theorem RV.at {f : Nat → Int32} {n : Nat} (h : RV f n) : iB (f 0) 0 15 := h.2.1
theorem RV.ch {f : Nat → Int32} {n : Nat} (h : RV f n) : iB (f 1) 0 99 := h.2.2.1
theorem RV.cg {f g : Nat → Int32} {n : Nat} (h : RV f n) (he : ∀ j, j < 9 + 7 * n → j ≠ 5 → j ≠ 7 → g j = f j) : RV g n := by
  obtain ⟨⟨h1, h2⟩, a0, a1, a2, a3, a4, a6, hr⟩ := h
  refine ⟨⟨by rw [he 8 (by omega) (by decide) (by decide)]; exact h1, h2⟩, by rw [he 0 (by omega) (by decide) (by decide)]; exact a0, by rw [he 1 (by omega) (by decide) (by decide)]; exact a1, by rw [he 2 (by omega) (by decide) (by decide)]; exact a2, by rw [he 3 (by omega) (by decide) (by decide)]; exact a3, by rw [he 4 (by omega) (by decide) (by decide)]; exact a4, by rw [he 6 (by omega) (by decide) (by decide)]; exact a6, fun r hrn => ?_⟩
  have e : ∀ w, w < 7 → rg g r w = rg f r w := fun w hw => he _ (by omega) (by omega) (by omega)
  have q0 := hr r hrn
  unfold RVg at q0 ⊢
  rw [e 0 (by decide), e 1 (by decide), e 2 (by decide), e 3 (by decide), e 4 (by decide), e 5 (by decide), e 6 (by decide)]
  exact q0
/-! the rods' numbers do not ask for more than their cells -/
theorem c_draws_cg {g h : Nat → Int32} (e : ∀ w, w < 7 → g w = h w) (c : Int32) : c_draws g c = c_draws h c := by
  unfold c_draws
  rw [e 0 (by decide), e 1 (by decide), e 2 (by decide)]
theorem c_paidMany_cg {g h : Nat → Int32} (e : ∀ w, w < 7 → g w = h w) : c_paidMany g = c_paidMany h := by
  unfold c_paidMany
  rw [e 3 (by decide), e 4 (by decide)]
theorem c_isPaid_cg {g h : Nat → Int32} (e : ∀ w, w < 7 → g w = h w) (c : Int32) : c_isPaid g c = c_isPaid h c := by
  unfold c_isPaid
  rw [c_paidMany_cg e, e 3 (by decide)]
theorem c_owes_cg {g h : Nat → Int32} (e : ∀ w, w < 7 → g w = h w) (c d : Int32) : c_owes g c d = c_owes h c d := by
  unfold c_owes
  rw [c_isPaid_cg e, e 0 (by decide)]
theorem c_isOf_cg {g h : Nat → Int32} (e : ∀ w, w < 7 → g w = h w) (c : Int32) : c_isOf g c = c_isOf h c := by
  unfold c_isOf
  rw [e 0 (by decide)]
theorem k_part3_cg {g h : Nat → Int32} (e : ∀ w, w < 7 → g w = h w) (c : Int32) : k_part3 g c = k_part3 h c := by
  unfold k_part3
  rw [e 0 (by decide), e 1 (by decide), e 2 (by decide), e 3 (by decide), e 4 (by decide), e 5 (by decide), e 6 (by decide)]
theorem c_paidMany_p (f : Nat → Int32) (r : Nat) : c_paidMany (rg f r) = p_paidMany f r := rfl
theorem c_isPaid_p (f : Nat → Int32) (r : Nat) : c_isPaid (rg f r) (p_clock f) = p_isPaid f r := rfl
theorem c_owes_p (f : Nat → Int32) (r : Nat) (c : Int32) : c_owes (rg f r) c (p_clock f) = p_owes f r c := rfl
theorem dw_ax : ∀ a, a < 16 → ∀ b, b < 16 → (if 0 ≤ nI a - nI b then nI a - nI b else 0 - (nI a - nI b)) = (if nI a < nI b then nI b - nI a else nI a - nI b) ∧ (if nI a < nI b then nI b - nI a else nI a - nI b) = nI (if a < b then b - a else a - b) := by decide +kernel
theorem dw_pl : ∀ h, h < 61 → ∀ d, d < 16 → (if nI h - 4 * nI d < 0 then 0 else nI h - 4 * nI d) = p_held (nI h - 4 * nI d) 0 60 ∧ p_held (nI h - 4 * nI d) 0 60 = nI (h - 4 * d) := by decide +kernel
theorem dw_k3 : ∀ x, x < 61 → (if nI x - 3 < 0 then 0 else nI x - 3) = (if nI x < 3 then 0 else nI x - 3) := by decide +kernel
theorem dw_k4 (x : Int32) : x + 8 + 20 = x + 28 := by rw [Int32.add_assoc]; rfl
theorem dw_k5 : ∀ x, x < 121 → (if nI x - 10 < 0 then 0 else nI x - 10) = (if nI x < 10 then 0 else nI x - 10) := by decide +kernel
theorem draws_eq {f : Nat → Int32} {r : Nat} {c : Int32} (h : RVg (rg f r)) (hc : iB c 0 15) : c_draws (rg f r) c = p_draws f r c := by
  obtain ⟨b, hb, rfl⟩ := hc.nat (b := 15)
  obtain ⟨-, h1, h2, -⟩ := h
  obtain ⟨a, ha, e1⟩ := h1.nat (b := 15)
  obtain ⟨x, hx, e2⟩ := h2.nat (b := 60)
  have e1' : f (9 + 7 * r + 1) = nI a := e1
  have e2' : f (9 + 7 * r + 2) = nI x := e2
  unfold c_draws p_draws
  rw [e1, e2, e1', e2', (dw_ax a (by omega) b (by omega)).1, (dw_ax a (by omega) b (by omega)).2]
  have hd : (if a < b then b - a else a - b) < 16 := by split <;> omega
  generalize (if a < b then b - a else a - b) = d at hd ⊢
  simp only []
  rw [(dw_pl x (by omega) d hd).1, (dw_pl x (by omega) d hd).2, dw_k3 _ (by omega), dw_k4, nI_add, dw_k5 _ (by omega)]
  rfl
/-! plains of the class -/
def PP (p : Nat) : Prop := 1 ≤ p ∧ p ≤ 3
theorem PP.kd {p : Nat} (h : PP p) : kd p = 1 ∧ kd (p + 8) = 0 ∧ kd (p + 11) = 10 ∧ kd (p + 14) = 8 ∧ ln (p + 14) = 16 := by
  obtain rfl | rfl | rfl : p = 1 ∨ p = 2 ∨ p = 3 := by have := h.1; have := h.2; omega
  · decide
  · decide
  · decide
def Pm (σ : Sg) (p : Nat) : Prop := (∀ r, r < 8 → 18 + 8 * p ≤ σ.2.2 (p + 11) r ∧ σ.2.2 (p + 11) r < 26 + 8 * p) ∧ ∀ r s, r < 8 → s < 8 → σ.2.2 (p + 11) r = σ.2.2 (p + 11) s → r = s
theorem Pm.kd {σ : Sg} {p : Nat} (h : Pm σ p) (hp : PP p) : ∀ j, j < 8 → kd (σ.2.2 (p + 11) j) = 3 := fun j hj => kd_rod (by have := (h.1 j hj).1; have := hp.1; omega) (by have := (h.1 j hj).2; have := hp.2; omega)
theorem Pm.eq {σ τ : Sg} {p : Nat} (h : Pm σ p) (e : ∀ j, τ.2.2 (p + 11) j = σ.2.2 (p + 11) j) : Pm τ p := by
  unfold Pm
  simp only [e]
  exact h
/-- plain p holds the row f, with n rods -/
def Rp (σ : Sg) (p : Nat) (f : Nat → Int32) (n : Nat) : Prop :=
  (∀ k, k < 5 → σ.1 (p + 8) k = f k) ∧ σ.1 p 2 = nI n ∧ σ.1 p 3 = f 5 ∧ σ.1 p 4 = f 6 ∧ σ.1 p 5 = f 7 ∧ ∀ r, r < n → ∀ w, w < 7 → σ.1 (σ.2.2 (p + 11) r) w = rg f r w
theorem Rp.cl {σ : Sg} {p n : Nat} {f : Nat → Int32} (h : Rp σ p f n) {k : Nat} (hk : k < 5) : σ.1 (p + 8) k = f k := h.1 k hk
theorem Rp.n {σ : Sg} {p n : Nat} {f : Nat → Int32} (h : Rp σ p f n) : σ.1 p 2 = nI n := h.2.1
theorem Rp.hr {σ : Sg} {p n : Nat} {f : Nat → Int32} (h : Rp σ p f n) : σ.1 p 3 = f 5 := h.2.2.1
theorem Rp.st {σ : Sg} {p n : Nat} {f : Nat → Int32} (h : Rp σ p f n) : σ.1 p 4 = f 6 := h.2.2.2.1
theorem Rp.z {σ : Sg} {p n : Nat} {f : Nat → Int32} (h : Rp σ p f n) : σ.1 p 5 = f 7 := h.2.2.2.2.1
theorem Rp.rd {σ : Sg} {p n : Nat} {f : Nat → Int32} (h : Rp σ p f n) {r : Nat} (hr : r < n) : ∀ w, w < 7 → σ.1 (σ.2.2 (p + 11) r) w = rg f r w := h.2.2.2.2.2 r hr
/-- nothing but plain p's cells is changed -/
def Fp (p : Nat) (σ τ : Sg) : Prop := (∀ c j, c ≠ p → c ≠ p + 8 → c ≠ p + 14 → ¬ (18 + 8 * p ≤ c ∧ c < 26 + 8 * p) → τ.1 c j = σ.1 c j) ∧ τ.2.1 = σ.2.1 ∧ ∀ c j, c ≠ p + 11 → τ.2.2 c j = σ.2.2 c j
theorem Fp.rfl {p : Nat} {σ : Sg} : Fp p σ σ := ⟨fun _ _ _ _ _ _ => Eq.refl _, Eq.refl _, fun _ _ _ => Eq.refl _⟩
theorem Fp.trans {p : Nat} {a b c : Sg} (h : Fp p a b) (k : Fp p b c) : Fp p a c := ⟨fun x j h1 h2 h3 h4 => (k.1 x j h1 h2 h3 h4).trans (h.1 x j h1 h2 h3 h4), k.2.1.trans h.2.1, fun x j hx => (k.2.2 x j hx).trans (h.2.2 x j hx)⟩
theorem Fp.setC {p : Nat} {σ : Sg} {c : Nat} {g : Nat → Int32} (h : c = p ∨ c = p + 8 ∨ c = p + 14 ∨ (18 + 8 * p ≤ c ∧ c < 26 + 8 * p)) : Fp p σ (setC σ c g) := ⟨fun x j h1 h2 h3 h4 => by rw [setC_ne (by omega)], Eq.refl _, fun _ _ _ => Eq.refl _⟩
/-- another plain is as it was -/
theorem Rp.fr {σ τ : Sg} {p q n : Nat} {f : Nat → Int32} (h : Rp σ q f n) (hF : Fp p σ τ) (hp : PP p) (hq : PP q) (hne : p ≠ q) (hm : Pm σ q) (h8 : n ≤ 8) : Rp τ q f n := by
  have hp1 := hp.1
  have hp2 := hp.2
  have hq1 := hq.1
  have hq2 := hq.2
  have e1 : ∀ j, τ.1 q j = σ.1 q j := fun j => hF.1 q j (by omega) (by omega) (by omega) (by omega)
  refine ⟨fun k hk => ?_, by rw [e1]; exact h.n, by rw [e1]; exact h.hr, by rw [e1]; exact h.st, by rw [e1]; exact h.z, fun r hr w hw => ?_⟩
  · rw [hF.1 (q + 8) k (by omega) (by omega) (by omega) (by omega)]
    exact h.cl hk
  · rw [hF.2.2 _ _ (by omega)]
    have q0 := hm.1 r (by omega)
    rw [hF.1 _ w (by omega) (by omega) (by omega) (by omega)]
    exact h.rd hr w hw
theorem Pm.fr {σ τ : Sg} {p q : Nat} (h : Pm σ q) (hF : Fp p σ τ) (hne : p ≠ q) : Pm τ q := h.eq (fun j => hF.2.2 _ _ (by omega))
theorem cdr_p {σ : Sg} {p n r : Nat} {f : Nat → Int32} (h : Rp σ p f n) (hv : RV f n) (hr : r < n) {c : Int32} (hc : iB c 0 15) : cdr σ p c r = p_draws f r c := by
  unfold cdr
  rw [c_draws_cg (h.rd hr), draws_eq (hv.rod hr) hc]
theorem best_p {σ : Sg} {p n : Nat} {f : Nat → Int32} (h : Rp σ p f n) (hv : RV f n) {c : Int32} (hc : iB c 0 15) : (b_best (cdr σ p c) n).1 = p_strk f n c := by
  unfold p_strk
  rw [b_best_p, b_best_congr (fun r hr => cdr_p h hv hr hc)]
theorem tgt_p {σ : Sg} {p n : Nat} {f : Nat → Int32} (h : Rp σ p f n) (hv : RV f n) {c : Int32} (hc : iB c 0 15) : tgt σ p n c = oI (p_strk f n c) := by
  unfold tgt
  rw [best_p h hv hc]
