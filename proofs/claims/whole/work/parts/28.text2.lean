/-! the text: what a reader of tokens holds -/
abbrev PS := (Nat → Int32) × Int32 × Nat
def Pq (σ τ : Sg) : Prop := (∀ c j, c ≠ 51 → ¬ (c = 50 ∧ (j = 11 ∨ j = 12 ∨ j = 13 ∨ j = 15 ∨ j = 16)) → τ.1 c j = σ.1 c j) ∧ (∀ c j, ¬ (c = 50 ∧ j = 14) → τ.2.1 c j = σ.2.1 c j) ∧ τ.2.2 = σ.2.2
theorem Pq.rfl {σ : Sg} : Pq σ σ := ⟨fun _ _ _ _ => Eq.refl _, fun _ _ _ => Eq.refl _, Eq.refl _⟩
theorem Pq.trans {a b c : Sg} (h : Pq a b) (k : Pq b c) : Pq a c := ⟨fun x j h1 h2 => (k.1 x j h1 h2).trans (h.1 x j h1 h2), fun x j hx => (k.2.1 x j hx).trans (h.2.1 x j hx), k.2.2.trans h.2.2⟩
theorem Pq.tq {σ τ : Sg} (h : Tq σ τ) : Pq σ τ := ⟨fun c j _ h2 => h.1 c j (fun z => h2 ⟨z.1, by
  rcases z.2 with q1 | q1 | q1 | q1
  · exact Or.inl q1
  · exact Or.inr (Or.inl q1)
  · exact Or.inr (Or.inr (Or.inl q1))
  · exact Or.inr (Or.inr (Or.inr (Or.inl q1)))⟩), h.2.1, h.2.2⟩
theorem Pq.gd {σ : Sg} {v : Int32} : Pq σ (wI σ 50 16 v) := ⟨fun c i _ hc => by
  show (if c = 50 ∧ i = 16 then v else σ.1 c i) = σ.1 c i
  have hne : ¬ (c = 50 ∧ i = 16) := fun z => hc ⟨z.1, Or.inr (Or.inr (Or.inr (Or.inr z.2)))⟩
  rw [if_neg hne], fun _ _ _ => Eq.refl _, Eq.refl _⟩
theorem Pq.row {σ : Sg} {f : Nat → Int32} : Pq σ (setR σ f) := ⟨fun c i h1 _ => setR_ne h1, fun _ _ _ => Eq.refl _, Eq.refl _⟩
def PsQ (σ0 σ : Sg) (g : Nat → Int32) (t : Nat) (x : PS) : Prop := (Pq σ0 σ) ∧ (σ.1 51 = x.1) ∧ (σ.1 50 16 = x.2.1) ∧ (x.2.2 ≤ t) ∧ (TkQ σ g t x.2.2) ∧ (σ.1 50 10 = nI t) ∧ (t ≤ 120) ∧ (σ.1 55 = g)
theorem PsQ.fr {σ0 σ : Sg} {g : Nat → Int32} {t : Nat} {x : PS} (h : PsQ σ0 σ g t x) : Pq σ0 σ := h.1
theorem PsQ.row {σ0 σ : Sg} {g : Nat → Int32} {t : Nat} {x : PS} (h : PsQ σ0 σ g t x) : σ.1 51 = x.1 := h.2.1
theorem PsQ.gd {σ0 σ : Sg} {g : Nat → Int32} {t : Nat} {x : PS} (h : PsQ σ0 σ g t x) : σ.1 50 16 = x.2.1 := h.2.2.1
theorem PsQ.ps {σ0 σ : Sg} {g : Nat → Int32} {t : Nat} {x : PS} (h : PsQ σ0 σ g t x) : x.2.2 ≤ t := h.2.2.2.1
theorem PsQ.tk {σ0 σ : Sg} {g : Nat → Int32} {t : Nat} {x : PS} (h : PsQ σ0 σ g t x) : TkQ σ g t x.2.2 := h.2.2.2.2.1
theorem PsQ.tm {σ0 σ : Sg} {g : Nat → Int32} {t : Nat} {x : PS} (h : PsQ σ0 σ g t x) : σ.1 50 10 = nI t := h.2.2.2.2.2.1
theorem PsQ.t1 {σ0 σ : Sg} {g : Nat → Int32} {t : Nat} {x : PS} (h : PsQ σ0 σ g t x) : t ≤ 120 := h.2.2.2.2.2.2.1
theorem PsQ.tp {σ0 σ : Sg} {g : Nat → Int32} {t : Nat} {x : PS} (h : PsQ σ0 σ g t x) : σ.1 55 = g := h.2.2.2.2.2.2.2
theorem tkS_le (g : Nat → Int32) (t p : Nat) : tkS g t p ≤ 3 := by
  unfold tkS
  split
  · omega
  · split
    · omega
    · split <;> omega
theorem tkE_le {g : Nat → Int32} {t p : Nat} (h : p ≤ t) : tkE g t p ≤ t := by
  have h1 := (tkB_le (g := g) h).2
  unfold tkE
  split
  · exact h1
  · split
    · have := p_fst_le (isLe g t) (t - tkB g t p) (tkB g t p); omega
    · split
      · have := p_fst_le (isDi g t) (t - tkB g t p) (tkB g t p); omega
      · rename_i q1 q2 q3
        rcases Nat.lt_or_ge (tkB g t p) t with z | z
        · omega
        · refine absurd ?_ q1
          unfold tkS
          rw [bt_ge z, if_pos (by decide)]
theorem TkQ.eq {σ τ : Sg} {g : Nat → Int32} {t p : Nat} (h : TkQ σ g t p) (h1 : ∀ j, j = 11 ∨ j = 12 ∨ j = 13 ∨ j = 15 → τ.1 50 j = σ.1 50 j) (h2 : τ.2.1 50 14 = σ.2.1 50 14) : TkQ τ g t p :=
  ⟨(h1 11 (by decide)).trans h.1, (h1 12 (by decide)).trans h.2.1, (h1 13 (by decide)).trans h.2.2.1, h2.trans h.2.2.2.1, (h1 15 (by decide)).trans h.2.2.2.2⟩
theorem PsQ.good {σ0 σ : Sg} {g : Nat → Int32} {t : Nat} {x : PS} (h : PsQ σ0 σ g t x) (v : Int32) : PsQ σ0 (wI σ 50 16 v) g t (x.1, v, x.2.2) :=
  ⟨h.fr.trans Pq.gd, (funext fun j => (wI_c (by decide)).trans (congrFun h.row j)), wI_s _ _ _ _, h.ps, h.tk.eq (fun j hj => wI_k (by omega)) rfl, (wI_k (by decide)).trans h.tm, h.t1, (funext fun j => (wI_c (by decide)).trans (congrFun h.tp j))⟩
theorem PsQ.setrow {σ0 σ : Sg} {g : Nat → Int32} {t : Nat} {x : PS} (h : PsQ σ0 σ g t x) (f : Nat → Int32) : PsQ σ0 (setR σ f) g t (f, x.2) :=
  ⟨h.fr.trans Pq.row, setR_51 _ _, (setR_ne (by decide)).trans h.gd, h.ps, h.tk.eq (fun j _ => setR_ne (by decide)) rfl, (setR_ne (by decide)).trans h.tm, h.t1, (funext fun j => (setR_ne (by decide)).trans (congrFun h.tp j))⟩
theorem PsQ.adv {σ0 σ τ : Sg} {g : Nat → Int32} {t p : Nat} {x : PS} (h : PsQ σ0 σ g t x) (hq : Tq σ τ) (hk : TkQ τ g t p) (hp : p ≤ t) : PsQ σ0 τ g t (x.1, x.2.1, p) :=
  ⟨h.fr.trans (Pq.tq hq), (funext fun j => (hq.1 51 j (fun z => absurd z.1 (by decide))).trans (congrFun h.row j)), (hq.1 50 16 (by decide)).trans h.gd, hp, hk, hq.c10.trans h.tm, h.t1, hq.c55.trans h.tp⟩
def t_is (g : Nat → Int32) (t p : Nat) (w : Int64) : Int32 := if tkS g t p = 1 then (if tkW g t p = w then 1 else 0) else 0
def t_gd (g : Nat → Int32) (t : Nat) (a b : Int32) (x : PS) : Int32 := if x.2.1 = 0 then 0 else if tkS g t x.2.2 = 2 then (if p_in (tkV g t x.2.2) a b = 0 then 0 else 1) else 0
def t_num (g : Nat → Int32) (t : Nat) (a b : Int32) (x : PS) : PS := (x.1, t_gd g t a b x, if t_gd g t a b x = 0 then x.2.2 else tkE g t x.2.2)
def t_adv (g : Nat → Int32) (t : Nat) (x : PS) : PS := (x.1, x.2.1, tkE g t x.2.2)
def t_may (g : Nat → Int32) (t : Nat) (w : Int64) (a b d : Int32) (x : PS) : Int32 × PS :=
  if x.2.1 = 0 then (d, x) else if t_is g t x.2.2 w = 0 then (d, x) else (tkV g t (tkE g t x.2.2), t_num g t a b (t_adv g t x))
