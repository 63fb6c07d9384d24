/-! drifts that are drawn, sums -/
theorem p_draw_eq (f : Nat → Int32) : p_draw f = upd (upd f 7 (f 7 * 1103515245 + 12345)) 2 (p_rem ((f 7 * 1103515245 + 12345).toUInt32 >>> (Int32.toUInt32 8 &&& Int32.toUInt32 31)).toInt32 3 - 1) := by
  unfold p_draw
  simp only [updS]
theorem draw_end {σ : Sg} {p n : Nat} {f : Nat → Int32} {x y : Int32} (h : Rp σ p f n) (hp : PP p) (hm : Pm σ p) (h8 : n ≤ 8) (e : p_draw f = upd (upd f 7 x) 2 y) : Pl σ (setC (setC σ p (upd (σ.1 p) 5 x)) (p + 8) (upd (σ.1 (p + 8)) 2 y)) p (p_draw f) n := by
  have hp1 := hp.1
  have hp2 := hp.2
  rw [e]
  have q1 : Rp (setC σ p (upd (σ.1 p) 5 x)) p (upd f 7 x) n := by
    refine h.own hp hm h8 (Nat.le_refl _) ?_ ?_ ?_ ?_ (fun j hj => updN (by omega))
    · rw [updN (by decide)]; exact h.n
    · rw [updN (by decide), updN (by decide)]; exact h.hr
    · rw [updN (by decide), updN (by decide)]; exact h.st
    · rw [updS, updS]
  refine ⟨q1.cld hp (hm.eq (fun _ => rfl)) h8 (fun k hk => ?_) (fun j hj => updN (by omega)), hm.eq (fun _ => rfl), (Fp.setC (Or.inl rfl)).trans (Fp.setC (Or.inr (Or.inl rfl)))⟩
  by_cases z : k = 2
  · subst z; rw [updS, updS]
  · rw [updN z, updN z, updN (by omega)]; exact h.cl hk
theorem rem3_B {x : Int32} (h : ¬ x < 0) : iB (p_rem x 3 - 1) (-1) 1 := by
  obtain ⟨k, hk, rfl⟩ := nI_of h
  have e : p_rem (nI k) 3 = nI (k % 3) := pk_rem hk (by decide) (by decide)
  rw [e]
  have h3 : ∀ r, r < 3 → -1 ≤ (nI r - 1).toInt ∧ (nI r - 1).toInt ≤ 1 := by decide
  exact h3 _ (Nat.mod_lt _ (by decide))
theorem shr8_nn (z : Int32) : ¬ (z.toUInt32 >>> (Int32.toUInt32 8 &&& Int32.toUInt32 31)).toInt32 < 0 := by
  rw [Int32.lt_iff_toInt_lt]
  have e : (Int32.toUInt32 8 &&& Int32.toUInt32 31) = 8 := by decide
  rw [e]
  have h2 : (z.toUInt32 >>> 8).toNat < 2 ^ 24 := by
    have h1 := z.toUInt32.toNat_lt
    rw [UInt32.toNat_shiftRight]
    have e8 : (8 : UInt32).toNat % 32 = 8 := by decide
    rw [e8, Nat.shiftRight_eq_div_pow]
    omega
  generalize z.toUInt32 >>> 8 = u at h2
  have h3 : u.toInt32.toInt = (u.toNat : Int) := by
    show u.toBitVec.toInt = _
    rw [BitVec.toInt_eq_toNat_of_lt]
    · rfl
    · show 2 * u.toNat < _
      omega
  rw [h3, show (0 : Int32).toInt = 0 from rfl]
  omega
theorem RV.draw {f : Nat → Int32} {n : Nat} (h : RV f n) : RV (p_draw f) n := by
  rw [p_draw_eq]
  obtain ⟨-, a0, a1, a2, a3, a4, a6, hr⟩ := id h
  refine h.low ?_ ?_ ?_ ?_ ?_ ?_ (fun j hj => by rw [updN (by omega), updN (by omega)])
  · rw [updN (by decide), updN (by decide)]; exact a0
  · rw [updN (by decide), updN (by decide)]; exact a1
  · rw [updS]; exact rem3_B (shr8_nn _)
  · rw [updN (by decide), updN (by decide)]; exact a3
  · rw [updN (by decide), updN (by decide)]; exact a4
  · rw [updN (by decide), updN (by decide)]; exact a6
theorem b_sum_cg {d e : Nat → Int32} : ∀ {n : Nat}, (∀ r, r < n → d r = e r) → b_sum d n = b_sum e n
  | 0, _ => rfl
  | n + 1, h => by rw [b_sum, b_sum, b_sum_cg (fun r hr => h r (by omega)), h n (by omega)]
theorem b_sum_p (f : Nat → Int32) (w : Nat) : ∀ n, p_sum f w n = b_sum (fun r => f (9 + 7 * r + w)) n
  | 0 => rfl
  | n + 1 => by rw [p_sum, b_sum, b_sum_p f w n]
theorem b_sum_q (f : Nat → Int32) : ∀ n, p_paidSum f n = b_sum (fun r => p_paidMany f r) n
  | 0 => rfl
  | n + 1 => by rw [p_paidSum, b_sum, b_sum_q f n]
theorem b_sum_d (f : Nat → Int32) (c : Int32) : ∀ n, p_drawSum f c n = b_sum (fun r => p_draws f r c) n
  | 0 => rfl
  | n + 1 => by rw [p_drawSum, b_sum, b_sum_d f c n]
theorem q1_parts (G : GT) (σ : Sg) (p : Nat) (hp : PP p) {f : Nat → Int32} {n : Nat} (h : Rp σ p f n) (h8 : n ≤ 8) (hm : Pm σ p) (w : Nat) (hw : w < 7) : Evi G mX1_partsOfAll [.ref p, .int (nI w)] σ (p_sum f w n) σ := by
  obtain ⟨k1, k2, k3, k4, k5⟩ := hp.kd
  have q0 := c1_partsOfAll G σ p k1 k2 k3 k4 (hm.kd hp) n h.n h8 (nI w)
  have e : b_sum (fun j => k_part3 (σ.1 (σ.2.2 (p + 11) j)) (nI w)) n = p_sum f w n := by
    rw [b_sum_p]
    refine b_sum_cg (fun r hr => ?_)
    rw [k_part3_cg (h.rd hr)]
    have e7 : ∀ g : Nat → Int32, k_part3 g (nI w) = g w := fun g => by
      match w, hw with
      | 0, _ => rfl
      | 1, _ => rfl
      | 2, _ => rfl
      | 3, _ => rfl
      | 4, _ => rfl
      | 5, _ => rfl
      | 6, _ => rfl
    rw [e7]
    rfl
  rw [e] at q0
  exact q0
theorem q1_paidH (G : GT) (σ : Sg) (p : Nat) (hp : PP p) {f : Nat → Int32} {n : Nat} (h : Rp σ p f n) (h8 : n ≤ 8) (hm : Pm σ p) : Evi G mX1_paidHoursOfAll [.ref p] σ (p_paidSum f n) σ := by
  obtain ⟨k1, k2, k3, k4, k5⟩ := hp.kd
  have q0 := c1_paidHoursOfAll G σ p k1 k2 k3 k4 (hm.kd hp) n h.n h8
  rw [b_sum_cg (e := fun r => p_paidMany f r) (fun r hr => by rw [c_paidMany_cg (h.rd hr), c_paidMany_p]), ← b_sum_q] at q0
  exact q0
theorem q1_drawsAll (G : GT) (σ : Sg) (p : Nat) (hp : PP p) {f : Nat → Int32} {n : Nat} (h : Rp σ p f n) (hv : RV f n) (hm : Pm σ p) : Evi G mX1_drawsOfAll [.ref p] σ (p_drawSum f (f 0) n) σ := by
  obtain ⟨k1, k2, k3, k4, k5⟩ := hp.kd
  have q0 := c1_drawsOfAll G σ p k1 k2 k3 k4 (hm.kd hp) n h.n hv.le
  rw [h.cl (show 0 < 5 by decide), b_sum_cg (e := fun r => p_draws f r (f 0)) (fun r hr => cdr_p h hv hr hv.at), ← b_sum_d] at q0
  exact q0
theorem q1_forked (G : GT) (σ : Sg) (p : Nat) (hp : PP p) {f : Nat → Int32} {n : Nat} (h : Rp σ p f n) (hv : RV f n) (hm : Pm σ p) (k : Nat) (hk : k < n) : Evi G mX1_forked [.ref p, .int (nI k)] σ (p_draws f k (f 0) * f 1) σ := by
  obtain ⟨k1, k2, k3, k4, k5⟩ := hp.kd
  have h8 := hv.le
  have q0 := c1_forked G σ p k1 k2 k3 k4 (hm.kd hp) k (by omega)
  rw [h.cl (show 0 < 5 by decide), h.cl (show 1 < 5 by decide), cdr_p h hv hk hv.at] at q0
  exact q0
theorem q1_target (G : GT) (σ : Sg) (p : Nat) (hp : PP p) {f : Nat → Int32} {n : Nat} (h : Rp σ p f n) (hv : RV f n) (hm : Pm σ p) (c : Int32) (hc : iB c 0 15) : Evi G mX1_targetFrom [.ref p, .int c] σ (oI (p_strk f n c)) σ := by
  obtain ⟨k1, k2, k3, k4, k5⟩ := hp.kd
  have q0 := c1_targetFrom G σ p k1 k2 k3 k4 (hm.kd hp) c n h.n hv.le
  rw [best_p h hv hc] at q0
  exact q0
theorem q1_clock (G : GT) (σ : Sg) (p : Nat) (hp : PP p) {f : Nat → Int32} {n : Nat} (h : Rp σ p f n) (hm : Pm σ p) : Evi G mX1_clock [.ref p] σ (p_clock f) σ := by
  obtain ⟨k1, k2, k3, k4, k5⟩ := hp.kd
  have q0 := c1_clock G σ p k1 k2 k3 k4 (hm.kd hp)
  rw [h.hr] at q0
  exact q0
set_option maxRecDepth 100000 in
set_option maxHeartbeats 800000 in
theorem q1_drawDrift (G : GT) (σ : Sg) (p : Nat) (hp : PP p) {f : Nat → Int32} {n : Nat} (h : Rp σ p f n) (hv : RV f n) (hm : Pm σ p) : Ev G mX1_drawDrift [.ref p] σ (fun v τ => v = none ∧ Pl σ τ p (p_draw f) n) := by
  refine Ev.ofL (m := 0) (L := [some (.ref p)]) rfl (Nat.le_of_ble_eq_true rfl) rfl rfl ?_
  refine w_aload_n dX1_drawDrift_0 rfl ?_
  refine w_aload_n dX1_drawDrift_1 rfl ?_
  refine w_getI dX1_drawDrift_2 fl_X1_35 hp.kd.1 rfl ?_
  refine w_ldc dX1_drawDrift_5 kc_X1_104 ?_
  refine w_imul dX1_drawDrift_7 ?_
  refine w_sipush dX1_drawDrift_8 sp_12345 ?_
  refine w_iadd dX1_drawDrift_11 ?_
  refine w_topi (fun zz hzz => ?_)
  refine w_putI dX1_drawDrift_12 fl_X1_35 hp.kd.1 rfl (by decide +kernel) ?_
  try simp only [wI_C, setC_at, updS, setC_ne (show p + 8 ≠ p by omega)]
  refine w_aload_n dX1_drawDrift_15 rfl ?_
  refine w_getR (t := (p + 8)) dX1_drawDrift_16 fl_X1_12 hp.kd.1 (by decide) (by decide) rfl ?_
  refine w_aload_n dX1_drawDrift_19 rfl ?_
  refine w_getI dX1_drawDrift_20 fl_X1_35 hp.kd.1 rfl ?_
  refine w_bipush dX1_drawDrift_23 bp_8 ?_
  refine w_iushr dX1_drawDrift_25 ?_
  refine w_iconst dX1_drawDrift_26 ic_3 ?_
  refine w_irem dX1_drawDrift_27 (by decide) ?_
  refine w_iconst dX1_drawDrift_28 ic_1 ?_
  refine w_isub dX1_drawDrift_29 ?_
  refine w_putI dX1_drawDrift_30 fl_X1_105 hp.kd.2.1 rfl (by decide +kernel) ?_
  try simp only [wI_C, setC_at, updS, setC_ne (show p + 8 ≠ p by omega)]
  refine w_vret dX1_drawDrift_33 rfl ?_
  refine ⟨rfl, draw_end h hp hm hv.le ?_⟩
  rw [p_draw_eq, hzz, h.z]
set_option maxRecDepth 100000 in
set_option maxHeartbeats 800000 in
theorem q1_paidRods (G : GT) (σ : Sg) (p : Nat) (hp : PP p) {f : Nat → Int32} {n : Nat} (h : Rp σ p f n) (hv : RV f n) (hm : Pm σ p) : Evi G mX1_paidRods [.ref p] σ (p_paidSet f n) (σ) := by
  have h8 := hv.le
  refine Ev.ofL (m := 2) (L := [some (.ref p), none, none]) rfl (Nat.le_of_ble_eq_true rfl) rfl rfl ?_
  refine w_iconst dX1_paidRods_0 ic_0 ?_
  refine w_istore_n dX1_paidRods_1 (by decide) rfl rfl ?_
  dsimp only [List.set]
  refine w_iconst dX1_paidRods_2 ic_0 ?_
  refine w_istore_n dX1_paidRods_3 (by decide) rfl rfl ?_
  dsimp only [List.set]
  have lp : ∀ (m : Nat) (r : Nat), n - r < m → r ≤ n → WP G mX1_paidRods 4 [some (.ref p), some (.int (p_paidSet f r)), some (.int (nI r))] [] (σ) (fun v σ' => v = some (.int (p_paidSet f n)) ∧ σ' = (σ)) := by
    intro m
    induction m with
    | zero => intro r hmz; exact absurd hmz (Nat.not_lt_zero _)
    | succ m ih =>
      intro r hmz hr2
      refine w_iload_n dX1_paidRods_4 rfl ?_
      refine w_aload_n dX1_paidRods_5 rfl ?_
      refine w_getI dX1_paidRods_6 fl_X1_25 hp.kd.1 rfl ?_
      refine w2_icmp_ge (t := 40) dX1_paidRods_9 (by decide) (fun hz1 => ?_) (fun hz1 => ?_)
      · skip
        rw [h.n] at hz1
        have hge := nlt_nI (by omega) (by omega) hz1
        have hen : r = n := by omega
        subst hen
        refine w_iload_n dX1_paidRods_40 rfl ?_
        refine w_iret dX1_paidRods_41 rfl ?_
        exact ⟨rfl, rfl⟩
      · skip
        rw [h.n] at hz1
        have hlt := lt_nI (by omega) (by omega) hz1
        refine w_aload_n dX1_paidRods_12 rfl ?_
        refine w_getR (t := (p + 11)) dX1_paidRods_13 fl_X1_20 hp.kd.1 (by decide) (by decide) rfl ?_
        refine w_iload_n dX1_paidRods_16 rfl ?_
        refine w_aald (j := r) dX1_paidRods_17 hp.kd.2.2.1 rfl (by omega) ?_
        refine w_aload_n dX1_paidRods_18 rfl ?_
        refine w_callVi dX1_paidRods_19 ml_X1_81 mv_X1_clock rfl hp.kd.1 (by decide) rfl (q1_clock G _ p hp h hm) rfl rfl (Nat.le_of_ble_eq_true rfl) ?_
        refine w_callVi dX1_paidRods_22 ml_X1_114 mv_X3_isPaidAt rfl (hm.kd hp r (by omega)) (by decide) rfl (c3_isPaidAt G _ _ (hm.kd hp r (by omega)) _) rfl rfl (Nat.le_of_ble_eq_true rfl) ?_
        refine w_if_eq (t := 34) dX1_paidRods_25 (by decide) (fun hz2 => ?_) (fun hz2 => ?_)
        · skip
          rw [c_isPaid_cg (h.rd hlt), c_isPaid_p] at hz2
          have cc := eq_true hz2
          refine w_iincN (a := r) (b := 1) dX1_paidRods_34 rfl ic_1 (by decide) rfl rfl ?_
          dsimp only [List.set]
          refine w_goto (t := 4) dX1_paidRods_37 (by decide) ?_
          have q0 := ih (r + 1) (by omega) (by omega)
          simp only [p_paidSet, cc, if_true, if_false, Int32.or_zero] at q0
          exact q0
        · skip
          rw [c_isPaid_cg (h.rd hlt), c_isPaid_p] at hz2
          have cc := eq_false hz2
          refine w_iload_n dX1_paidRods_28 rfl ?_
          refine w_iconst dX1_paidRods_29 ic_1 ?_
          refine w_iload_n dX1_paidRods_30 rfl ?_
          refine w_ishl dX1_paidRods_31 ?_
          refine w_ior dX1_paidRods_32 ?_
          refine w_istore_n dX1_paidRods_33 (by decide) rfl rfl ?_
          dsimp only [List.set]
          
          refine w_iincN (a := r) (b := 1) dX1_paidRods_34 rfl ic_1 (by decide) rfl rfl ?_
          dsimp only [List.set]
          refine w_goto (t := 4) dX1_paidRods_37 (by decide) ?_
          have q0 := ih (r + 1) (by omega) (by omega)
          simp only [p_paidSet, cc, if_true, if_false, Int32.or_zero] at q0
          exact q0
  exact lp (n + 1) 0 (by omega) (by omega)
/-! the class holds what the reference shows -/
def mFnd (μ : MO) : Nat → Int32 := μ.2.1
def mImg (μ : MO) : Nat → Int32 := μ.2.2.1
def mKep (μ : MO) : Int32 := μ.2.2.2.1
def mTm (μ : MO) : Int32 := μ.2.2.2.2.1
def mTap (μ : MO) : Nat → Int32 := μ.2.2.2.2.2.1
def RCk (σ : Sg) (μ : MO) : Prop := (mKep μ = 0 ∨ mKep μ = 1) ∧ σ.1 0 3 = mKep μ ∧ (mKep μ = 1 → ∃ m, RV (mImg μ) m ∧ iB (mImg μ 5) 0 9999 ∧ Rp σ 3 (mImg μ) m)
def RCt (σ : Sg) (μ : MO) : Prop := ∃ t : Nat, t ≤ 120 ∧ mTm μ = nI t ∧ σ.1 5 1 = nI t ∧ ∀ j, j < t → σ.1 8 j = mTap μ j ∧ iB (mTap μ j) 0 255
def RCs (σ : Sg) (μ : MO) : Prop := ∀ s, s < 4 → ∃ z : Nat, z ≤ 40 ∧ mSiz μ s = nI z ∧ σ.1 (18 + s) 1 = mBit μ s ∧ σ.1 (18 + s) 2 = nI z ∧ (mBit μ s = 0 ∨ mBit μ s = 8 ∨ mBit μ s = 16 ∨ mBit μ s = 64) ∧ ∀ j, j < z → σ.2.1 (22 + s) j = mShe μ (40 * s + j)
def RC (σ : Sg) (μ : MO) (n : Nat) : Prop := RV μ.1 n ∧ iB (μ.1 5) 0 9999 ∧ Rp σ 1 μ.1 n ∧ (Pm σ 1 ∧ Pm σ 2 ∧ Pm σ 3) ∧ (∀ j, j < 7 → σ.1 7 j = mFnd μ j) ∧ RCk σ μ ∧ RCt σ μ ∧ RCs σ μ
theorem pp1 : PP 1 := ⟨by decide, by decide⟩
theorem pp2 : PP 2 := ⟨by decide, by decide⟩
theorem pp3 : PP 3 := ⟨by decide, by decide⟩
section RCL
variable {σ τ : Sg} {μ : MO} {n : Nat}
theorem RC.rv (h : RC σ μ n) : RV μ.1 n := h.1
theorem RC.h5 (h : RC σ μ n) : iB (μ.1 5) 0 9999 := h.2.1
theorem RC.rp (h : RC σ μ n) : Rp σ 1 μ.1 n := h.2.2.1
theorem RC.p1 (h : RC σ μ n) : Pm σ 1 := h.2.2.2.1.1
theorem RC.p2 (h : RC σ μ n) : Pm σ 2 := h.2.2.2.1.2.1
theorem RC.p3 (h : RC σ μ n) : Pm σ 3 := h.2.2.2.1.2.2
theorem RC.fd (h : RC σ μ n) : ∀ j, j < 7 → σ.1 7 j = mFnd μ j := h.2.2.2.2.1
theorem RC.kp (h : RC σ μ n) : RCk σ μ := h.2.2.2.2.2.1
theorem RC.tp (h : RC σ μ n) : RCt σ μ := h.2.2.2.2.2.2.1
theorem RC.sh (h : RC σ μ n) : RCs σ μ := h.2.2.2.2.2.2.2
theorem RC.nn (h : RC σ μ n) : nR μ = n := by
  have h8 := h.rv.le
  unfold nR
  rw [h.rv.n]
  exact nI_clamp (by omega)
/-- the reference's cells are as they were -/
def Mo (σ τ : Sg) : Prop := (∀ c j, 50 ≤ c → τ.1 c j = σ.1 c j) ∧ ∀ c j, 50 ≤ c → τ.2.1 c j = σ.2.1 c j
theorem Mo.rfl {σ : Sg} : Mo σ σ := ⟨fun _ _ _ => Eq.refl _, fun _ _ _ => Eq.refl _⟩
theorem Mo.trans {a b c : Sg} (h : Mo a b) (k : Mo b c) : Mo a c := ⟨fun x j hx => (k.1 x j hx).trans (h.1 x j hx), fun x j hx => (k.2 x j hx).trans (h.2 x j hx)⟩
theorem Mo.fp {σ τ : Sg} {p : Nat} (hp : PP p) (h : Fp p σ τ) : Mo σ τ := ⟨fun c j hc => h.1 c j (by have := hp.2; omega) (by have := hp.2; omega) (by have := hp.2; omega) (by have := hp.2; omega), fun c j _ => by rw [h.2.1]⟩
theorem Mo.w {σ : Sg} {c k : Nat} {v : Int32} (h : c < 50) : Mo σ (wI σ c k v) := ⟨fun x j hx => wI_c (by omega), fun _ _ _ => Eq.refl _⟩
/-- cells that no plain owns -/
theorem RC.eqs (h : RC σ μ n) (hv : RV μ.1 n) (h1 : Rp τ 1 μ.1 n) (h2 : ∀ c j, c = 0 ∨ c = 5 ∨ c = 7 ∨ c = 8 ∨ (18 ≤ c ∧ c < 22) → τ.1 c j = σ.1 c j) (h3 : ∀ s j, s < 4 → τ.2.1 (22 + s) j = σ.2.1 (22 + s) j) (hp : Pm τ 1 ∧ Pm τ 2 ∧ Pm τ 3) (hk : ∀ m, m ≤ 8 → Rp σ 3 (mImg μ) m → Rp τ 3 (mImg μ) m) : RC τ μ n := by
  obtain ⟨-, h5, -, -, fd, ⟨k1, k2, k3⟩, ⟨t, t1, t2, t3, t4⟩, sh⟩ := h
  refine ⟨hv, h5, h1, hp, fun j hj => ?_, ⟨k1, ?_, fun e => ?_⟩, ⟨t, t1, t2, ?_, fun j hj => ?_⟩, fun s hs => ?_⟩
  · rw [h2 7 j (by omega)]; exact fd j hj
  · rw [h2 0 3 (by omega)]; exact k2
  · obtain ⟨m, m1, m2, m3⟩ := k3 e
    exact ⟨m, m1, m2, hk m m1.le m3⟩
  · rw [h2 5 1 (by omega)]; exact t3
  · rw [h2 8 j (by omega)]; exact t4 j hj
  · obtain ⟨z, z1, z2, z3, z4, z5, z6⟩ := sh s hs
    refine ⟨z, z1, z2, ?_, ?_, z5, fun j hj => ?_⟩
    · rw [h2 (18 + s) 1 (by omega)]; exact z3
    · rw [h2 (18 + s) 2 (by omega)]; exact z4
    · rw [h3 s j hs]; exact z6 j hj
/-- the ghost may be anything -/
theorem RC.ghost (h : RC σ μ n) (hF : Fp 2 σ τ) (hm : Pm τ 2) : RC τ μ n := by
  refine h.eqs h.rv (h.rp.fr hF pp2 pp1 (by decide) h.p1 h.rv.le) (fun c j hc => hF.1 c j (by omega) (by omega) (by omega) (by omega)) (fun s j hs => by rw [hF.2.1]) ⟨h.p1.fr hF (by decide), hm, h.p3.fr hF (by decide)⟩ (fun m h8 hr => ?_)
  exact hr.fr hF pp2 pp3 (by decide) h.p3 h8
theorem sRow_fst (μ : MO) (f : Nat → Int32) : (sRow μ f).1 = f := Eq.refl _
/-- the real plain holds another row -/
theorem RC.real {f : Nat → Int32} {m : Nat} (h : RC σ μ n) (hP : Pl σ τ 1 f m) (hv : RV f m) (h5 : iB (f 5) 0 9999) : RC τ (sRow μ f) m := by
  obtain ⟨r1, r2, hF⟩ := hP
  have hF1 : ∀ c j, c = 0 ∨ c = 5 ∨ c = 7 ∨ c = 8 ∨ (18 ≤ c ∧ c < 22) → τ.1 c j = σ.1 c j := fun c j hc => hF.1 c j (by omega) (by omega) (by omega) (by omega)
  obtain ⟨a1, -, a3, a4, fd, ⟨k1, k2, k3⟩, ⟨t, t1, t2, t3, t4⟩, sh⟩ := h
  refine ⟨hv, h5, r1, ⟨r2, a4.2.1.fr hF (by decide), a4.2.2.fr hF (by decide)⟩, fun j hj => ?_, ⟨k1, ?_, fun e => ?_⟩, ⟨t, t1, t2, ?_, fun j hj => ?_⟩, fun s hs => ?_⟩
  · rw [hF1 7 j (by omega)]; exact fd j hj
  · rw [hF1 0 3 (by omega)]; exact k2
  · obtain ⟨q, m1, m2, m3⟩ := k3 e
    exact ⟨q, m1, m2, m3.fr hF pp1 pp3 (by decide) a4.2.2 m1.le⟩
  · rw [hF1 5 1 (by omega)]; exact t3
  · rw [hF1 8 j (by omega)]; exact t4 j hj
  · obtain ⟨z, z1, z2, z3, z4, z5, z6⟩ := sh s hs
    refine ⟨z, z1, z2, ?_, ?_, z5, fun j hj => ?_⟩
    · rw [hF1 (18 + s) 1 (by omega)]; exact z3
    · rw [hF1 (18 + s) 2 (by omega)]; exact z4
    · rw [hF.2.1]; exact z6 j hj
theorem RC.fnd (h : RC σ μ n) {j : Nat} (hj : j < 7) : RC (wI σ 7 j (σ.1 7 j + 1)) (sFnd μ j) n := by
  have ne : ∀ c k, c ≠ 7 → (wI σ 7 j (σ.1 7 j + 1)).1 c k = σ.1 c k := fun c k hc => wI_c hc
  obtain ⟨a1, a2, a3, a4, fd, ⟨k1, k2, k3⟩, ⟨t, t1, t2, t3, t4⟩, sh⟩ := h
  have rps : ∀ (p : Nat) (f : Nat → Int32) (m : Nat), PP p → Pm σ p → m ≤ 8 → Rp σ p f m → Rp (wI σ 7 j (σ.1 7 j + 1)) p f m := fun p f m hp hm h8 hr => by
    have hp1 := hp.1
    have hp2 := hp.2
    refine hr.same (funext fun i => ne _ _ (by omega)) (funext fun i => ne _ _ (by omega)) (fun _ => Eq.refl _) (fun r hrm => funext fun i => ne _ _ ?_)
    have q0 := hm.1 r (by omega)
    omega
  refine ⟨a1, a2, rps 1 _ _ pp1 a4.1 a1.le a3, a4, fun i hi => ?_, ⟨k1, ?_, fun e => ?_⟩, ⟨t, t1, t2, ?_, fun i hi => ?_⟩, fun s hs => ?_⟩
  · show (wI σ 7 j (σ.1 7 j + 1)).1 7 i = upd (mFnd μ) j (mFnd μ j + 1) i
    by_cases e : i = j
    · subst e; rw [wI_s, updS, fd i hj]
    · rw [wI_k e, updN e, fd i hi]
  · rw [ne _ _ (by decide)]; exact k2
  · obtain ⟨q, m1, m2, m3⟩ := k3 e
    exact ⟨q, m1, m2, rps 3 _ _ pp3 a4.2.2 m1.le m3⟩
  · rw [ne _ _ (by decide)]; exact t3
  · rw [ne _ _ (by decide)]; exact t4 i hi
  · obtain ⟨z, z1, z2, z3, z4, z5, z6⟩ := sh s hs
    exact ⟨z, z1, z2, by rw [ne _ _ (by omega)]; exact z3, by rw [ne _ _ (by omega)]; exact z4, z5, z6⟩
end RCL
/-- a public call's end, on the class's side -/
def CQ (σ : Sg) (R : Int32 × MO) : Option Value → Sg → Prop := fun v τ => v = some (.int R.1) ∧ (∃ n, RC τ R.2 n) ∧ Mo σ τ
theorem CQ.fnd {σ τ : Sg} {μ : MO} {n j : Nat} {R : Int32 × MO} {x : Int32} (h : RC τ μ n) (hM : Mo σ τ) (hj : j < 7) (hR : R = (x, sFnd μ j)) : CQ σ R (some (.int x)) (wI τ 7 j (τ.1 7 j + 1)) := by
  subst hR
  exact ⟨rfl, ⟨n, h.fnd hj⟩, hM.trans (Mo.w (by decide))⟩
theorem CQ.same {σ τ : Sg} {μ : MO} {n : Nat} {R : Int32 × MO} {x : Int32} (h : RC τ μ n) (hM : Mo σ τ) (hR : R = (x, μ)) : CQ σ R (some (.int x)) τ := by
  subst hR
  exact ⟨rfl, ⟨n, h⟩, hM⟩
theorem CQ.row {σ τ : Sg} {μ : MO} {n m : Nat} {R : Int32 × MO} {x : Int32} {f : Nat → Int32} (h : RC σ μ n) (hP : Pl σ τ 1 f m) (hv : RV f m) (h5 : iB (f 5) 0 9999) (hR : R = (x, sRow μ f)) : CQ σ R (some (.int x)) τ := by
  subst hR
  exact ⟨rfl, ⟨m, h.real hP hv h5⟩, Mo.fp pp1 hP.2.2⟩
/-! single numbers put into a plain -/
def wB : Nat → Int
  | 0 => 5
  | 1 => 15
  | 2 => 60
  | 3 => 23
  | 4 => 23
  | _ => 99999
theorem RVg_at {g : Nat → Int32} (h : RVg g) : ∀ w, w < 7 → iB (g w) 0 (wB w)
  | 0, _ => h.1
  | 1, _ => h.2.1
  | 2, _ => h.2.2.1
  | 3, _ => h.2.2.2.1
  | 4, _ => h.2.2.2.2.1
  | 5, _ => h.2.2.2.2.2.1
  | 6, _ => h.2.2.2.2.2.2
theorem RVg_of {g : Nat → Int32} (h : ∀ w, w < 7 → iB (g w) 0 (wB w)) : RVg g := ⟨h 0 (by decide), h 1 (by decide), h 2 (by decide), h 3 (by decide), h 4 (by decide), h 5 (by decide), h 6 (by decide)⟩
theorem RV.rodw {f : Nat → Int32} {n k w : Nat} {v : Int32} (h : RV f n) (hk : k < n) (hw : w < 7) (hb : iB v 0 (wB w)) : RV (upd f (9 + 7 * k + w) v) n := by
  refine h.rodset (k := k) (RVg_of fun i hi => ?_) (fun j hj => updN (by omega))
  unfold rg
  by_cases e : i = w
  · subst e; rw [updS]; exact hb
  · rw [updN (by omega)]; exact RVg_at (h.rod hk) i hi
theorem Pl.rodw {σ : Sg} {p n k w : Nat} {f : Nat → Int32} {v : Int32} (h : Rp σ p f n) (hp : PP p) (hm : Pm σ p) (h8 : n ≤ 8) (hk : k < n) (hw : w < 7) : Pl σ (wI σ (σ.2.2 (p + 11) k) w v) p (upd f (9 + 7 * k + w) v) n := by
  rw [wI_C]
  have q0 := hm.1 k (by omega)
  refine ⟨h.rod hp hm h8 hk (fun i hi => ?_) (fun j hj => updN (by omega)), hm.eq (fun _ => rfl), Fp.setC (Or.inr (Or.inr (Or.inr q0)))⟩
  unfold rg
  by_cases e : i = w
  · subst e; rw [updS, updS]
  · rw [updN e, updN (by omega)]; exact h.rd hk i hi
def cB (k : Nat) (v : Int32) : Prop := match k with | 0 => iB v 0 15 | 1 => iB v 0 99 | 2 => iB v (-1) 1 | 3 => iB v 0 50 | _ => iB v 20 99
theorem RV.cldw {f : Nat → Int32} {n k : Nat} {v : Int32} (h : RV f n) (hk : k < 5) (hb : cB k v) : RV (upd f k v) n := by
  obtain ⟨-, a0, a1, a2, a3, a4, a6, hr⟩ := id h
  refine h.low ?_ ?_ ?_ ?_ ?_ (by rw [updN (by omega)]; exact a6) (fun j hj => updN (by omega))
  · by_cases e : k = 0
    · subst e; rw [updS]; exact hb
    · rw [updN (by omega)]; exact a0
  · by_cases e : k = 1
    · subst e; rw [updS]; exact hb
    · rw [updN (by omega)]; exact a1
  · by_cases e : k = 2
    · subst e; rw [updS]; exact hb
    · rw [updN (by omega)]; exact a2
  · by_cases e : k = 3
    · subst e; rw [updS]; exact hb
    · rw [updN (by omega)]; exact a3
  · by_cases e : k = 4
    · subst e; rw [updS]; exact hb
    · rw [updN (by omega)]; exact a4
theorem Pl.cldw {σ : Sg} {p n k : Nat} {f : Nat → Int32} {v : Int32} (h : Rp σ p f n) (hp : PP p) (hm : Pm σ p) (h8 : n ≤ 8) (hk : k < 5) : Pl σ (wI σ (p + 8) k v) p (upd f k v) n := by
  rw [wI_C]
  refine ⟨h.cld hp hm h8 (fun i hi => ?_) (fun j hj => updN (by omega)), hm.eq (fun _ => rfl), Fp.setC (Or.inr (Or.inl rfl))⟩
  by_cases e : i = k
  · subst e; rw [updS, updS]
  · rw [updN e, updN e]; exact h.cl hi
theorem Pl.trans {a b c : Sg} {p n m : Nat} {f g : Nat → Int32} (h : Pl a b p f n) (k : Pl b c p g m) : Pl a c p g m := ⟨k.1, k.2.1, h.2.2.trans k.2.2⟩
