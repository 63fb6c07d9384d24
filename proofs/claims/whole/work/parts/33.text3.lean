/-! the text: the items -/
def t_more (g : Nat → Int32) (t : Nat) (y : PS) : Int32 := if y.2.1 = 0 then 0 else if tkS g t y.2.2 = 3 then (if tkV g t y.2.2 = 59 then 1 else 0) else 0
def t_loop (g : Nat → Int32) (t : Nat) : Nat → PS → Nat → Nat × PS
  | 0, x, cx => (cx, x)
  | m + 1, x, cx => if t_more g t (t_item g t x) = 0 then (cx + 1, t_item g t x) else t_loop g t m (t_adv g t (t_item g t x)) (cx + 1)
theorem t_loop_s (g : Nat → Int32) (t m : Nat) (x : PS) (cx : Nat) : t_loop g t (m + 1) x cx = if t_more g t (t_item g t x) = 0 then (cx + 1, t_item g t x) else t_loop g t m (t_adv g t (t_item g t x)) (cx + 1) := rfl
def t_ok (g : Nat → Int32) (t : Nat) (y : PS) : Int32 := if y.2.1 = 0 then 0 else if tkS g t y.2.2 = 0 then 1 else 0
def t_all (μ : MO) : Nat × PS := t_loop μ.2.2.2.2.2.1 μ.2.2.2.2.1.toNatClampNeg (μ.2.2.2.2.1.toNatClampNeg + 1) (μ.1, 1, 0) 0
def M_plain (μ : MO) : Int32 × MO :=
  if t_ok μ.2.2.2.2.2.1 μ.2.2.2.2.1.toNatClampNeg (t_all μ).2 = 0 then (-1 - nI (tkB μ.2.2.2.2.2.1 μ.2.2.2.2.1.toNatClampNeg (t_all μ).2.2.2), sRow (sTm μ 0) (fun j => if j < 65 then μ.1 j else (t_all μ).2.1 j)) else (nI (t_all μ).1, sRow (sTm μ 0) (t_all μ).2.1)
theorem tkB_ge (g : Nat → Int32) (t p : Nat) : p ≤ tkB g t p := p_fst_ge (isBl g t) (t - p) p
theorem tkE_ge (g : Nat → Int32) (t p : Nat) : p ≤ tkE g t p := by
  have h1 := tkB_ge g t p
  have h2 := p_fst_ge (isLe g t) (t - tkB g t p) (tkB g t p)
  have h3 := p_fst_ge (isDi g t) (t - tkB g t p) (tkB g t p)
  unfold tkE
  split
  · omega
  · split
    · omega
    · split <;> omega
theorem t_num_ps (g : Nat → Int32) (t : Nat) (a b : Int32) (x : PS) : x.2.2 ≤ (t_num g t a b x).2.2 := by
  show x.2.2 ≤ (if t_gd g t a b x = 0 then x.2.2 else tkE g t x.2.2)
  split
  · exact Nat.le_refl _
  · exact tkE_ge _ _ _
theorem t_adv_ps (g : Nat → Int32) (t : Nat) (x : PS) : x.2.2 ≤ (t_adv g t x).2.2 := tkE_ge _ _ _
theorem t_na_ps (g : Nat → Int32) (t : Nat) (a b : Int32) (x : PS) : x.2.2 ≤ (t_num g t a b (t_adv g t x)).2.2 := Nat.le_trans (t_adv_ps g t x) (t_num_ps g t a b (t_adv g t x))
theorem t_may_ps (g : Nat → Int32) (t : Nat) (w : Int64) (a b d : Int32) (x : PS) : x.2.2 ≤ (t_may g t w a b d x).2.2.2 := by
  unfold t_may
  split
  · exact Nat.le_refl _
  · split
    · exact Nat.le_refl _
    · exact t_na_ps g t a b x
theorem t_rule_ps (g : Nat → Int32) (t k : Nat) (a b : Int32) (x : PS) : x.2.2 ≤ (t_rule g t k a b x).2.2 := by
  have h := t_na_ps g t a b x
  unfold t_rule
  split
  · exact h
  · exact h
theorem t_cloud_ps (g : Nat → Int32) (t : Nat) (x : PS) : x.2.2 ≤ (t_cloud g t x).2.2 := by
  have h1 : x.2.2 ≤ (t_cl1 g t x).2.2 := t_na_ps g t 0 15 x
  have h2 : (t_cl1 g t x).2.2 ≤ (t_cl2 g t x).2.2.2 := t_may_ps g t _ _ _ _ _
  have h3 : ∀ y : PS, y.2.2 ≤ (t_dirS g t y).2.2 := fun y => by
    unfold t_dirS
    split
    · exact Nat.le_refl _
    · exact t_adv_ps g t y
  have h4 : ∀ (v1 v2 v3 : Int32) (y : PS), y.2.2 ≤ (t_cl3 g t v1 v2 v3 y).2.2 := fun v1 v2 v3 y => by
    unfold t_cl3
    split <;> exact Nat.le_refl _
  unfold t_cloud
  exact Nat.le_trans h1 (Nat.le_trans h2 (Nat.le_trans (h3 _) (h4 _ _ _ _)))
theorem t_rod_ps (g : Nat → Int32) (t : Nat) (x : PS) (kx : Int32) : x.2.2 ≤ (t_rod g t x kx).2.2 := by
  obtain ⟨y0, y1, y2, y3, y4, y5, zf, y6, y7, y8, e0, e1, e2, e3, e4, e5, eF, e6, e7, e8, eR⟩ := t_rod_ex g t x kx
  have h0 : x.2.2 ≤ y0.2.2 := by rw [e0]; exact Nat.le_refl _
  have h1 : y0.2.2 ≤ y1.2.2 := by rw [e1]; exact t_adv_ps g t y0
  have h2 : y1.2.2 ≤ y2.2.2 := by rw [e2]; exact Nat.le_refl _
  have h3 : y2.2.2 ≤ y3.2.2 := by rw [e3]; exact t_adv_ps g t y2
  have h4 : y3.2.2 ≤ y4.2.2 := by rw [e4]; exact t_num_ps g t _ _ y3
  have h5 : y4.2.2 ≤ y5.2.2.2 := by rw [e5]; exact t_may_ps g t _ _ _ _ y4
  have h6 : y5.2.2.2 ≤ y6.2.2.2 := by rw [e6]; exact t_may_ps g t _ _ _ _ y5.2
  have h7 : y6.2.2.2 ≤ y7.2.2 := by
    rw [e7]
    split
    · exact Nat.le_refl _
    · split <;> exact Nat.le_refl _
  have h8 : y7.2.2 ≤ y8.2.2.2 := by
    rw [e8]
    split
    · exact Nat.le_refl _
    · exact t_may_ps g t _ _ _ _ y7
  rw [eR]
  split
  · exact h0
  · split
    · omega
    · split
      · omega
      · show x.2.2 ≤ y8.2.2.2
        omega
theorem t_item_ps (g : Nat → Int32) (t : Nat) (x : PS) : x.2.2 ≤ (t_item g t x).2.2 := by
  unfold t_item
  split
  · split
    · split
      · split
        · exact Nat.le_refl _
        · exact t_rule_ps g t _ _ _ x
      · exact t_rule_ps g t _ _ _ x
    · exact t_cloud_ps g t x
  · exact t_rod_ps g t x _
def HsQ (σ0 σ : Sg) (g : Nat → Int32) (t : Nat) (x : PS) : Prop := Pq σ0 σ ∧ σ.1 51 = x.1 ∧ σ.1 50 16 = x.2.1 ∧ x.2.2 ≤ t ∧ σ.1 50 13 = nI x.2.2 ∧ σ.1 50 10 = nI t ∧ t ≤ 120 ∧ σ.1 55 = g
theorem HsQ.adv {σ0 σ τ : Sg} {g : Nat → Int32} {t : Nat} {x : PS} (h : HsQ σ0 σ g t x) (hq : Tq σ τ) (hk : TkQ τ g t x.2.2) : PsQ σ0 τ g t x :=
  ⟨h.1.trans (Pq.tq hq), (funext fun j => (hq.1 51 j (fun z => absurd z.1 (by decide))).trans (congrFun h.2.1 j)), (hq.1 50 16 (by decide)).trans h.2.2.1, h.2.2.2.1, hk, hq.c10.trans h.2.2.2.2.2.1, h.2.2.2.2.2.2.1, hq.c55.trans h.2.2.2.2.2.2.2⟩
theorem PsQ.hs {σ0 σ : Sg} {g : Nat → Int32} {t : Nat} {y : PS} (h : PsQ σ0 σ g t y) : HsQ σ0 σ g t (t_adv g t y) :=
  ⟨h.fr, h.row, h.gd, tkE_le h.ps, h.tk.2.2.1, h.tm, h.t1, h.tp⟩
theorem t_more_lt {g : Nat → Int32} {t : Nat} {y : PS} (h : ¬ t_more g t y = 0) : y.2.2 < (t_adv g t y).2.2 := by
  have hb := tkB_ge g t y.2.2
  unfold t_more at h
  split at h
  · exact absurd rfl h
  · split at h
    · rename_i q1 q2
      show y.2.2 < tkE g t y.2.2
      unfold tkE
      rw [q2, if_neg (by decide), if_neg (by decide), if_neg (by decide)]
      omega
    · exact absurd rfl h
theorem t_more_eq {σ0 σ : Sg} {g : Nat → Int32} {t : Nat} {y : PS} (h : PsQ σ0 σ g t y) : t_more g t y = if σ.1 50 16 = 0 then 0 else if σ.1 50 11 = 3 then (if σ.1 50 15 = 59 then 1 else 0) else 0 := by
  unfold t_more
  simp only [show (3 : Int32) = nI 3 from rfl, tkS_of h.tk (show 3 ≤ 3 by decide), h.gd, h.tk.2.2.2.2]
theorem t_ok_eq {σ0 σ : Sg} {g : Nat → Int32} {t : Nat} {y : PS} (h : PsQ σ0 σ g t y) : t_ok g t y = if σ.1 50 16 = 0 then 0 else if σ.1 50 11 = 0 then 1 else 0 := by
  unfold t_ok
  have e := tkS_of h.tk (show 0 ≤ 3 by decide)
  rw [show nI 0 = (0 : Int32) from rfl] at e
  simp only [e, h.gd]
