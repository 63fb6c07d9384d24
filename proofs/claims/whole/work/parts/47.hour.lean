/-! an hour of a plain against an hour of the row -/
theorem Rp.rod {σ : Sg} {p n k : Nat} {f f' g : Nat → Int32} (h : Rp σ p f n) (hp : PP p) (hm : Pm σ p) (h8 : n ≤ 8) (hk : k < n) (hg : ∀ w, w < 7 → g w = rg f' k w) (hf : ∀ j, ¬ (9 + 7 * k ≤ j ∧ j < 9 + 7 * k + 7) → f' j = f j) : Rp (setC σ (σ.2.2 (p + 11) k) g) p f' n := by
  have hp1 := hp.1
  have hp2 := hp.2
  have q0 := hm.1 k (by omega)
  have e1 : ∀ j, (setC σ (σ.2.2 (p + 11) k) g).1 p j = σ.1 p j := fun j => by rw [setC_ne (by omega)]
  refine ⟨fun j hj => ?_, by rw [e1]; exact h.n, by rw [e1, hf _ (by omega)]; exact h.hr, by rw [e1, hf _ (by omega)]; exact h.st, by rw [e1, hf _ (by omega)]; exact h.z, fun r hr w hw => ?_⟩
  · rw [setC_ne (by omega), hf _ (by omega)]
    exact h.cl hj
  · show (setC σ (σ.2.2 (p + 11) k) g).1 (σ.2.2 (p + 11) r) w = rg f' r w
    by_cases e : r = k
    · subst e
      rw [setC_at]
      exact hg w hw
    · rw [setC_ne (fun z => e (hm.2 r k (by omega) (by omega) z)), h.rd hr w hw]
      exact (hf _ (by omega)).symm
theorem Rp.own {σ : Sg} {p n m : Nat} {f f' g : Nat → Int32} (h : Rp σ p f n) (hp : PP p) (hm : Pm σ p) (h8 : m ≤ 8) (hmn : m ≤ n) (g2 : g 2 = nI m) (g3 : g 3 = f' 5) (g4 : g 4 = f' 6) (g5 : g 5 = f' 7) (hf : ∀ j, ¬ (5 ≤ j ∧ j < 9) → f' j = f j) : Rp (setC σ p g) p f' m := by
  have hp1 := hp.1
  have hp2 := hp.2
  refine ⟨fun j hj => ?_, by rw [setC_at]; exact g2, by rw [setC_at]; exact g3, by rw [setC_at]; exact g4, by rw [setC_at]; exact g5, fun r hr w hw => ?_⟩
  · rw [setC_ne (by omega), hf _ (by omega)]
    exact h.cl hj
  · show (setC σ p g).1 (σ.2.2 (p + 11) r) w = rg f' r w
    have q0 := hm.1 r (by omega)
    rw [setC_ne (by omega), h.rd (by omega) w hw]
    exact (hf _ (by omega)).symm
theorem Rp.cld {σ : Sg} {p n : Nat} {f f' g : Nat → Int32} (h : Rp σ p f n) (hp : PP p) (hm : Pm σ p) (h8 : n ≤ 8) (hg : ∀ k, k < 5 → g k = f' k) (hf : ∀ j, 5 ≤ j → f' j = f j) : Rp (setC σ (p + 8) g) p f' n := by
  have hp1 := hp.1
  have hp2 := hp.2
  have e1 : ∀ j, (setC σ (p + 8) g).1 p j = σ.1 p j := fun j => by rw [setC_ne (by omega)]
  refine ⟨fun j hj => ?_, by rw [e1]; exact h.n, by rw [e1, hf _ (by omega)]; exact h.hr, by rw [e1, hf _ (by omega)]; exact h.st, by rw [e1, hf _ (by omega)]; exact h.z, fun r hr w hw => ?_⟩
  · rw [setC_at]
    exact hg j hj
  · show (setC σ (p + 8) g).1 (σ.2.2 (p + 11) r) w = rg f' r w
    have q0 := hm.1 r (by omega)
    rw [setC_ne (by omega), h.rd hr w hw]
    exact (hf _ (by omega)).symm
theorem Rp.cg {σ : Sg} {p n : Nat} {f f' : Nat → Int32} (h : Rp σ p f n) (hf : ∀ j, j < 9 + 7 * n → j ≠ 8 → f' j = f j) : Rp σ p f' n :=
  ⟨fun k hk => by rw [hf k (by omega) (by omega)]; exact h.cl hk, h.n, by rw [hf 5 (by omega) (by decide)]; exact h.hr, by rw [hf 6 (by omega) (by decide)]; exact h.st, by rw [hf 7 (by omega) (by decide)]; exact h.z, fun r hr w hw => by rw [h.rd hr w hw]; exact (hf _ (by omega) (by omega)).symm⟩
theorem Rp.same {σ τ : Sg} {p n : Nat} {f : Nat → Int32} (h : Rp σ p f n) (h1 : τ.1 p = σ.1 p) (h2 : τ.1 (p + 8) = σ.1 (p + 8)) (h3 : ∀ j, τ.2.2 (p + 11) j = σ.2.2 (p + 11) j) (h4 : ∀ r, r < n → τ.1 (σ.2.2 (p + 11) r) = σ.1 (σ.2.2 (p + 11) r)) : Rp τ p f n :=
  ⟨fun k hk => by rw [h2]; exact h.cl hk, by rw [h1]; exact h.n, by rw [h1]; exact h.hr, by rw [h1]; exact h.st, by rw [h1]; exact h.z, fun r hr w hw => by rw [h3, h4 r hr]; exact h.rd hr w hw⟩
theorem Rp.aim {σ : Sg} {p n : Nat} {f g : Nat → Int32} (h : Rp σ p f n) (hp : PP p) (hm : Pm σ p) (h8 : n ≤ 8) : Rp (setC σ (p + 14) g) p f n := by
  have hp1 := hp.1
  have hp2 := hp.2
  refine h.same (setC_ne (by omega)) (setC_ne (by omega)) (fun _ => Eq.refl _) (fun r hr => setC_ne ?_)
  have q0 := hm.1 r (by omega)
  omega
/-! numbers -/
theorem sum_nn {x y : Int32} {a b : Nat} (hx : iB x 0 a) (hy : iB y 0 b) (h : a + b < 2 ^ 31) : ¬ x + y < 0 ∧ iB (x + y) 0 ((a + b : Nat) : Int) := by
  obtain ⟨i, hi, rfl⟩ := hx.nat
  obtain ⟨j, hj, rfl⟩ := hy.nat
  rw [nI_add]
  exact ⟨nI_pos (by omega), iB.of (by omega) h⟩
theorem held_k {v : Int32} (h : ¬ v < 0) : p_held v 0 99999 = k_held v := by
  unfold p_held k_held
  rw [if_neg h]
theorem ow_1 : ∀ x, x < 100 → iB (nI x - nI x / 10) 0 99 := by
  have h : ∀ x, x < 100 → nI x - nI x / 10 = nI (x - x / 10) := by decide +kernel
  intro x hx
  rw [h x hx]
  exact iB.of (b := 99) (by omega) (by decide)
theorem ow_2 : ∀ x, x < 100 → iB ((nI x - nI x / 10) / 2) 0 99 := by
  have h : ∀ x, x < 100 → (nI x - nI x / 10) / 2 = nI ((x - x / 10) / 2) := by decide +kernel
  intro x hx
  rw [h x hx]
  exact iB.of (b := 99) (by omega) (by decide)
theorem iB_0 {b : Nat} (hb : b < 2 ^ 31) : iB 0 0 b := iB.of (k := 0) (by omega) hb
theorem owes_B {f : Nat → Int32} {k : Nat} {c : Int32} (hc : iB c 0 99) : iB (p_owes f k c) 0 99 := by
  have hcc : ∀ d : Int32, d = (if p_isPaid f k = 0 then 0 else c) → iB d 0 99 := by
    intro d hd
    subst hd
    split
    · exact iB_0 (b := 99) (by decide)
    · exact hc
  unfold p_owes
  simp only []
  have q0 := hcc _ rfl
  generalize (if p_isPaid f k = 0 then (0 : Int32) else c) = d at q0 ⊢
  obtain ⟨x, hx, rfl⟩ := q0.nat (b := 99)
  split
  · exact ow_1 x (by omega)
  · split
    · exact ow_2 x (by omega)
    · split
      · exact iB_0 (b := 99) (by decide)
      · split
        · exact iB_0 (b := 99) (by decide)
        · exact q0
/-! a strike -/
def p_bs (f : Nat → Int32) : Option Nat → Nat → Int32
  | none => upd f 6 (p_held (f 6 + f 1) 0 99999)
  | some k =>
    let o := p_owes f k (f 1)
    let g1 := upd f (9 + 7 * k + 6) (p_held (f (9 + 7 * k + 6) + 1) 0 99999)
    let g := upd g1 (9 + 7 * k + 5) (p_held (g1 (9 + 7 * k + 5) + o) 0 99999)
    if o = 0 then upd g 6 (p_held (g 6 + g 1) 0 99999) else g
theorem p_bs_bolt (f : Nat → Int32) (o : Option Nat) : p_boltO f o = upd (p_bs f o) 1 0 := by cases o <;> rfl
theorem p_bs_low (f : Nat → Int32) (o : Option Nat) {j : Nat} (hj : j < 9) (h6 : j ≠ 6) : p_bs f o j = f j := by
  cases o with
  | none => exact updN h6
  | some k =>
    simp only [p_bs]
    split
    · rw [updN h6, updN (by omega), updN (by omega)]
    · rw [updN (by omega), updN (by omega)]
theorem p_bs_rod (f : Nat → Int32) (o : Option Nat) {r w : Nat} (hw : w < 5) : p_bs f o (9 + 7 * r + w) = f (9 + 7 * r + w) := by
  cases o with
  | none => exact updN (by omega)
  | some k =>
    simp only [p_bs]
    split
    · rw [updN (by omega), updN (by omega), updN (by omega)]
    · rw [updN (by omega), updN (by omega)]
theorem strike_p {σ : Sg} {p n : Nat} {f : Nat → Int32} (h : Rp σ p f n) (hv : RV f n) (hp : PP p) (hm : Pm σ p) (o : Option Nat) (ho : ∀ k, o = some k → k < n) : Rp (k_strike σ p o) p (p_bs f o) n := by
  have h8 := hv.le
  have hst : ¬ f 6 + f 1 < 0 := (sum_nn hv.2.2.2.2.2.2.1 hv.ch (by decide)).1
  cases o with
  | none =>
    have e : σ.1 (p + 8) 1 = f 1 := h.cl (by decide)
    show Rp (setC σ p (upd (σ.1 p) 4 (k_held (σ.1 p 4 + σ.1 (p + 8) 1)))) p (upd f 6 (p_held (f 6 + f 1) 0 99999)) n
    rw [h.st, e, held_k hst]
    refine h.own hp hm h8 (Nat.le_refl _) ?_ ?_ ?_ ?_ (fun j hj => updN (by omega))
    · rw [updN (by decide)]; exact h.n
    · rw [updN (by decide), updN (by decide)]; exact h.hr
    · rw [updS, updS]
    · rw [updN (by decide), updN (by decide)]; exact h.z
  | some k =>
    have hk := ho k rfl
    have e1 : σ.1 (p + 8) 1 = f 1 := h.cl (by decide)
    have hrv := hv.rod hk
    have eo : c_owes (σ.1 (σ.2.2 (p + 11) k)) (σ.1 (p + 8) 1) (p_rem (σ.1 p 3) 24) = p_owes f k (f 1) := by
      rw [c_owes_cg (h.rd hk), e1, h.hr]
      rfl
    have hoB := owes_B (f := f) (k := k) hv.ch
    have n6 : ¬ f (9 + 7 * k + 6) + 1 < 0 := (sum_nn hrv.2.2.2.2.2.2 (iB.of (k := 1) (b := 1) (by decide) (by decide)) (by decide)).1
    have n5 : ¬ f (9 + 7 * k + 5) + p_owes f k (f 1) < 0 := (sum_nn hrv.2.2.2.2.2.1 hoB (by decide)).1
    have hit : Rp (setC σ (σ.2.2 (p + 11) k) (k_hit (σ.1 (σ.2.2 (p + 11) k)) (p_owes f k (f 1)))) p (upd (upd f (9 + 7 * k + 6) (p_held (f (9 + 7 * k + 6) + 1) 0 99999)) (9 + 7 * k + 5) (p_held (upd f (9 + 7 * k + 6) (p_held (f (9 + 7 * k + 6) + 1) 0 99999) (9 + 7 * k + 5) + p_owes f k (f 1)) 0 99999)) n := by
      refine h.rod hp hm h8 hk (fun w hw => ?_) (fun j hj => by rw [updN (by omega), updN (by omega)])
      unfold k_hit
      rw [updN (show (5 : Nat) ≠ 6 by decide), updN (show 9 + 7 * k + 5 ≠ 9 + 7 * k + 6 by omega), held_k n6, held_k n5, h.rd hk 6 (by decide), h.rd hk 5 (by decide)]
      unfold rg
      by_cases w5 : w = 5
      · subst w5
        rw [updS, updS]
      · rw [updN w5, updN (show 9 + 7 * k + w ≠ 9 + 7 * k + 5 by omega)]
        by_cases w6 : w = 6
        · subst w6
          rw [updS, updS]
        · rw [updN w6, updN (show 9 + 7 * k + w ≠ 9 + 7 * k + 6 by omega)]
          exact h.rd hk w hw
    show Rp (if c_owes (σ.1 (σ.2.2 (p + 11) k)) (σ.1 (p + 8) 1) (p_rem (σ.1 p 3) 24) = 0 then _ else _) p _ n
    rw [eo]
    simp only [p_bs]
    by_cases z : p_owes f k (f 1) = 0
    · rw [if_pos z, if_pos z]
      have hp1 := hp.1
      have hp2 := hp.2
      have qm := hm.1 k (by omega)
      have hm2 : Pm (setC σ (σ.2.2 (p + 11) k) (k_hit (σ.1 (σ.2.2 (p + 11) k)) (p_owes f k (f 1)))) p := hm.eq (fun _ => Eq.refl _)
      rw [e1, h.st]
      refine hit.own hp hm2 h8 (Nat.le_refl _) ?_ ?_ ?_ ?_ (fun j hj => updN (by omega))
      · rw [updN (by decide)]; exact h.n
      · rw [updN (by decide), updN (by decide), updN (by omega), updN (by omega)]; exact h.hr
      · rw [updS, updS, updN (by omega), updN (by omega), updN (by omega), updN (by omega), held_k hst]
      · rw [updN (by decide), updN (by decide), updN (by omega), updN (by omega)]; exact h.z
    · rw [if_neg z, if_neg z]
      exact hit
theorem strike_F {σ : Sg} {p n : Nat} (hm : Pm σ p) (h8 : n ≤ 8) (o : Option Nat) (ho : ∀ k, o = some k → k < n) : Fp p σ (k_strike σ p o) ∧ (k_strike σ p o).2.2 = σ.2.2 ∧ (PP p → (k_strike σ p o).1 (p + 14) = σ.1 (p + 14)) := by
  cases o with
  | none => exact ⟨Fp.setC (Or.inl rfl), Eq.refl _, fun _ => setC_ne (by omega)⟩
  | some k =>
    have q0 := hm.1 k (by have := ho k rfl; omega)
    simp only [k_strike]
    split
    · exact ⟨(Fp.setC (Or.inr (Or.inr (Or.inr q0)))).trans (Fp.setC (Or.inl rfl)), Eq.refl _, fun hp => by rw [setC_ne (by omega), setC_ne (by have := hp.1; have := hp.2; omega)]⟩
    · exact ⟨Fp.setC (Or.inr (Or.inr (Or.inr q0))), Eq.refl _, fun hp => by rw [setC_ne (by have := hp.1; have := hp.2; omega)]⟩
/-! the cloud's hour -/
theorem k_on_p {c g : Nat → Int32} (e : ∀ k, k < 5 → c k = g k) (h1 : iB (g 1) 0 99) (h3 : iB (g 3) 0 50) : ∀ k, k < 5 → k_on c k = p_grow (p_drift g) k := by
  have es : ∀ k, k < 5 → k_step c k = p_drift g k := by
    unfold k_step p_drift
    rw [e 0 (by decide), e 2 (by decide)]
    split
    · intro k hk
      by_cases z : k = 2
      · subst z; rw [updS, updS]
      · rw [updN z, updN z, e k hk]
    · intro k hk
      by_cases z : k = 0
      · subst z; rw [updS, updS]
      · rw [updN z, updN z, e k hk]
  have d1 : p_drift g 1 = g 1 := by
    unfold p_drift
    split <;> rw [updN (by decide)]
  have d3 : p_drift g 3 = g 3 := p_drift_ge g (by decide)
  intro k hk
  unfold k_on p_grow
  by_cases z : k = 1
  · subst z
    rw [updS, updS, es 1 (by decide), es 3 (by decide), d1, d3]
    unfold p_held
    rw [if_neg (sum_nn h1 h3 (by decide)).1]
  · rw [updN z, updN z, es k hk]
theorem k_pass_p {c g : Nat → Int32} (e : ∀ k, k < 5 → c k = g k) (h1 : iB (g 1) 0 99) (h3 : iB (g 3) 0 50) : ∀ k, k < 5 → k_pass c k = p_grow (p_drift (if p_breaks g = 0 then g else upd g 1 0)) k := by
  have hb : k_breaks c = p_breaks g := by
    unfold k_breaks p_breaks
    rw [e 1 (by decide), e 4 (by decide)]
  unfold k_pass
  rw [hb]
  split
  · exact k_on_p e h1 h3
  · refine k_on_p (fun k hk => ?_) (by rw [updS]; exact iB_0 (b := 99) (by decide)) (by rw [updN (by decide)]; exact h3)
    by_cases z : k = 1
    · subst z; rw [updS, updS]
    · rw [updN z, updN z, e k hk]
theorem tick_p {σ : Sg} {p n : Nat} {g : Nat → Int32} (h : Rp σ p g n) (hp : PP p) (hm : Pm σ p) (h8 : n ≤ 8) (h1 : iB (g 1) 0 99) (h3 : iB (g 3) 0 50) : Rp (k_tick σ p) p (p_rest (if p_breaks g = 0 then g else upd g 1 0)) n := by
  have hge : ∀ j, 5 ≤ j → p_grow (p_drift (if p_breaks g = 0 then g else upd g 1 0)) j = g j := fun j hj => by
    unfold p_grow
    rw [updN (by omega), p_drift_ge _ (by omega)]
    split
    · rfl
    · rw [updN (by omega)]
  have q1 := h.cld hp hm h8 (k_pass_p h.1 h1 h3) hge
  unfold k_tick
  have hm2 : Pm (setC σ (p + 8) (k_pass (σ.1 (p + 8)))) p := hm.eq (fun _ => Eq.refl _)
  refine q1.own hp hm2 h8 (Nat.le_refl _) ?_ ?_ ?_ ?_ (fun j hj => ?_)
  · rw [updN (by decide)]; exact h.n
  · unfold p_rest
    rw [updS, updS, hge 5 (by decide), h.hr]
  · rw [updN (by decide), p_rest_ge _ (by decide)]
    refine h.st.trans ?_
    split
    · rfl
    · rw [updN (by decide)]
  · rw [updN (by decide), p_rest_ge _ (by decide)]
    refine h.z.trans ?_
    split
    · rfl
    · rw [updN (by decide)]
  · unfold p_rest
    rw [updN (by omega)]
theorem hour_p {σ : Sg} {p n : Nat} {f : Nat → Int32} (h : Rp σ p f n) (hv : RV f n) (hp : PP p) (hm : Pm σ p) : Rp (k_tick (if k_breaks (σ.1 (p + 8)) = 0 then σ else k_strike σ p (p_strk f n (f 0))) p) p (p_hour f n) n := by
  have hb : k_breaks (σ.1 (p + 8)) = p_breaks f := by
    unfold k_breaks p_breaks
    rw [h.cl (by decide), h.cl (by decide)]
  have ho : ∀ k, p_strk f n (f 0) = some k → k < n := fun k hk => p_strk_lt hk
  rw [hb]
  unfold p_hour p_bolt
  rw [p_bs_bolt]
  by_cases z : p_breaks f = 0
  · rw [if_pos z, if_pos z]
    have q0 := tick_p h hp hm hv.le hv.ch hv.2.2.2.2.1
    rw [if_pos z] at q0
    exact q0
  · rw [if_neg z, if_neg z]
    have q1 := strike_p h hv hp hm _ ho
    have q2 := strike_F hm hv.le _ ho
    have e : p_breaks (p_bs f (p_strk f n (f 0))) = p_breaks f := by
      unfold p_breaks
      rw [p_bs_low _ _ (by decide) (by decide), p_bs_low _ _ (by decide) (by decide)]
    have q0 := tick_p q1 hp (hm.eq (fun j => by rw [q2.2.1])) hv.le (by rw [p_bs_low _ _ (by decide) (by decide)]; exact hv.ch) (by rw [p_bs_low _ _ (by decide) (by decide)]; exact hv.2.2.2.2.1)
    rw [e, if_neg z] at q0
    exact q0
/-! what an hour keeps in a row -/
theorem p_hour_rod (f : Nat → Int32) (n : Nat) {r w : Nat} (hw : w < 5) : p_hour f n (9 + 7 * r + w) = f (9 + 7 * r + w) := by
  unfold p_hour
  rw [p_rest_ge _ (by omega)]
  split
  · rfl
  · unfold p_bolt
    rw [p_bs_bolt, updN (by omega), p_bs_rod f _ hw]
theorem p_draws_cg {f g : Nat → Int32} {r : Nat} (e : ∀ w, w < 3 → g (9 + 7 * r + w) = f (9 + 7 * r + w)) (c : Int32) : p_draws g r c = p_draws f r c := by
  unfold p_draws
  rw [show g (9 + 7 * r) = f (9 + 7 * r) from e 0 (by decide), e 1 (by decide), e 2 (by decide)]
theorem p_best_cg {f g : Nat → Int32} {c : Int32} : ∀ {n : Nat}, (∀ r, r < n → ∀ w, w < 3 → g (9 + 7 * r + w) = f (9 + 7 * r + w)) → p_best g c n = p_best f c n
  | 0, _ => rfl
  | n + 1, h => by
    rw [p_best, p_best, p_best_cg (fun r hr => h r (by omega)), p_draws_cg (h n (by omega))]
theorem p_strk_cg {f g : Nat → Int32} {n : Nat} {c : Int32} (h : ∀ r, r < n → ∀ w, w < 3 → g (9 + 7 * r + w) = f (9 + 7 * r + w)) : p_strk g n c = p_strk f n c := by
  unfold p_strk
  rw [p_best_cg h]
theorem p_strk_hour (f : Nat → Int32) (n : Nat) (c : Int32) : p_strk (p_hour f n) n c = p_strk f n c := p_strk_cg (fun r _ w hw => p_hour_rod f n (by omega))
theorem p_hour_5 (f : Nat → Int32) (n : Nat) : p_hour f n 5 = f 5 + 1 := by
  have e : ∀ g : Nat → Int32, p_rest g 5 = g 5 + 1 := fun g => by
    unfold p_rest p_grow
    rw [updS, updN (by decide), p_drift_ge _ (by decide)]
  unfold p_hour
  rw [e]
  split
  · rfl
  · unfold p_bolt
    rw [p_bs_bolt, updN (by decide), p_bs_low _ _ (by decide) (by decide)]
theorem p_pass_5 (f : Nat → Int32) (n : Nat) : ∀ i, p_pass f n i 5 = f 5 + nI i
  | 0 => by rw [nI_0, Int32.add_zero]; rfl
  | i + 1 => by rw [p_pass, p_hour_5, p_pass_5 f n i, ← nI_1, Int32.add_assoc]
theorem p_hour_7 (f : Nat → Int32) (n : Nat) : p_hour f n 7 = f 7 := by
  unfold p_hour
  rw [p_rest_ge _ (by decide)]
  split
  · rfl
  · unfold p_bolt
    rw [p_bs_bolt, updN (by decide), p_bs_low _ _ (by decide) (by decide)]
theorem p_drift_B {g : Nat → Int32} (h0 : iB (g 0) 0 15) (h2 : iB (g 2) (-1) 1) : iB (p_drift g 0) 0 15 ∧ iB (p_drift g 2) (-1) 1 := by
  unfold p_drift
  split
  · rw [updN (by decide), updS]
    refine ⟨h0, ?_⟩
    have e := Int32.toInt_neg (g 2)
    have q1 := h2.1
    have q2 := h2.2
    unfold iB
    rw [e, Int.bmod_def]
    omega
  · rename_i z
    rw [updS, updN (by decide)]
    exact ⟨iB.in z, h2⟩
theorem RV.rest {g : Nat → Int32} {n : Nat} (h : RV g n) : RV (p_rest g) n := by
  obtain ⟨⟨h1, h2⟩, a0, a1, a2, a3, a4, a6, hr⟩ := h
  have d := p_drift_B a0 a2
  have e : ∀ j, j < 5 → p_rest g j = p_grow (p_drift g) j := fun j hj => by unfold p_rest; rw [updN (by omega)]
  refine ⟨⟨by rw [p_rest_ge _ (by decide)]; exact h1, h2⟩, ?_, ?_, ?_, ?_, ?_, by rw [p_rest_ge _ (by decide)]; exact a6, fun r hrn => ?_⟩
  · rw [e 0 (by decide)]; unfold p_grow; rw [updN (by decide)]; exact d.1
  · rw [e 1 (by decide)]; unfold p_grow; rw [updS]; exact iB.held (a := 0) (b := 99) (by decide)
  · rw [e 2 (by decide)]; unfold p_grow; rw [updN (by decide)]; exact d.2
  · rw [e 3 (by decide)]; unfold p_grow; rw [updN (by decide), p_drift_ge _ (by decide)]; exact a3
  · rw [e 4 (by decide)]; unfold p_grow; rw [updN (by decide), p_drift_ge _ (by decide)]; exact a4
  · have q0 := hr r hrn
    have e2 : rg (p_rest g) r = rg g r := funext fun w => p_rest_ge g (by omega)
    rw [e2]
    exact q0
theorem RV.rodset {f f' : Nat → Int32} {n k : Nat} (h : RV f n) (hk : RVg (rg f' k)) (hf : ∀ j, ¬ (9 + 7 * k ≤ j ∧ j < 9 + 7 * k + 7) → f' j = f j) : RV f' n := by
  obtain ⟨⟨h1, h2⟩, a0, a1, a2, a3, a4, a6, hr⟩ := h
  refine ⟨⟨by rw [hf _ (by omega)]; exact h1, h2⟩, by rw [hf _ (by omega)]; exact a0, by rw [hf _ (by omega)]; exact a1, by rw [hf _ (by omega)]; exact a2, by rw [hf _ (by omega)]; exact a3, by rw [hf _ (by omega)]; exact a4, by rw [hf _ (by omega)]; exact a6, fun r hrn => ?_⟩
  by_cases e : r = k
  · subst e; exact hk
  · have q0 := hr r hrn
    have e2 : ∀ w, w < 7 → rg f' r w = rg f r w := fun w hw => hf _ (by omega)
    unfold RVg at q0 ⊢
    rw [e2 0 (by decide), e2 1 (by decide), e2 2 (by decide), e2 3 (by decide), e2 4 (by decide), e2 5 (by decide), e2 6 (by decide)]
    exact q0
theorem RV.low {f f' : Nat → Int32} {n : Nat} (h : RV f n) (h0 : iB (f' 0) 0 15) (h1 : iB (f' 1) 0 99) (h2 : iB (f' 2) (-1) 1) (h3 : iB (f' 3) 0 50) (h4 : iB (f' 4) 20 99) (h6 : iB (f' 6) 0 99999) (hf : ∀ j, 8 ≤ j → f' j = f j) : RV f' n := by
  obtain ⟨⟨q1, q2⟩, -, -, -, -, -, -, hr⟩ := h
  refine ⟨⟨by rw [hf _ (by omega)]; exact q1, q2⟩, h0, h1, h2, h3, h4, h6, fun r hrn => ?_⟩
  have q0 := hr r hrn
  have e2 : rg f' r = rg f r := funext fun w => hf _ (by omega)
  rw [e2]
  exact q0
theorem RV.bs {f : Nat → Int32} {n : Nat} (h : RV f n) (o : Option Nat) (ho : ∀ k, o = some k → k < n) : RV (p_bs f o) n := by
  have hs : ∀ v : Int32, iB (p_held v 0 99999) 0 99999 := fun v => iB.held (a := 0) (b := 99999) (by decide)
  have six : ∀ g : Nat → Int32, RV g n → RV (upd g 6 (p_held (g 6 + g 1) 0 99999)) n := fun g hg => by
    obtain ⟨-, a0, a1, a2, a3, a4, a6, hr⟩ := id hg
    exact hg.low (by rw [updN (by decide)]; exact a0) (by rw [updN (by decide)]; exact a1) (by rw [updN (by decide)]; exact a2) (by rw [updN (by decide)]; exact a3) (by rw [updN (by decide)]; exact a4) (by rw [updS]; exact hs _) (fun j hj => updN (by omega))
  cases o with
  | none => exact six f h
  | some k =>
    have hk := ho k rfl
    obtain ⟨b0, b1, b2, b3, b4, b5, b6⟩ := h.rod hk
    have q0 : RV (upd (upd f (9 + 7 * k + 6) (p_held (f (9 + 7 * k + 6) + 1) 0 99999)) (9 + 7 * k + 5) (p_held (upd f (9 + 7 * k + 6) (p_held (f (9 + 7 * k + 6) + 1) 0 99999) (9 + 7 * k + 5) + p_owes f k (f 1)) 0 99999)) n := by
      refine h.rodset (k := k) ?_ (fun j hj => by rw [updN (by omega), updN (by omega)])
      unfold RVg rg
      refine ⟨?_, ?_, ?_, ?_, ?_, ?_, ?_⟩
      · rw [updN (by omega), updN (by omega)]; exact b0
      · rw [updN (by omega), updN (by omega)]; exact b1
      · rw [updN (by omega), updN (by omega)]; exact b2
      · rw [updN (by omega), updN (by omega)]; exact b3
      · rw [updN (by omega), updN (by omega)]; exact b4
      · rw [updS]; exact hs _
      · rw [updN (by omega), updS]; exact hs _
    simp only [p_bs]
    split
    · exact six _ q0
    · exact q0
theorem RV.hour {f : Nat → Int32} {n : Nat} (h : RV f n) : RV (p_hour f n) n := by
  unfold p_hour
  refine RV.rest ?_
  split
  · exact h
  · unfold p_bolt
    rw [p_bs_bolt]
    have q0 := h.bs (p_strk f n (f 0)) (fun k hk => p_strk_lt hk)
    obtain ⟨-, a0, a1, a2, a3, a4, a6, hr⟩ := id q0
    exact q0.low (by rw [updN (by decide)]; exact a0) (by rw [updS]; exact iB_0 (b := 99) (by decide)) (by rw [updN (by decide)]; exact a2) (by rw [updN (by decide)]; exact a3) (by rw [updN (by decide)]; exact a4) (by rw [updN (by decide)]; exact a6) (fun j hj => updN (by omega))
theorem RV.pass {f : Nat → Int32} {n : Nat} (h : RV f n) : ∀ i, RV (p_pass f n i) n
  | 0 => h
  | i + 1 => (RV.pass h i).hour
