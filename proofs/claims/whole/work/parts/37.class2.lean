/-! a world with another cell -/
def setC (σ : Sg) (c : Nat) (f : Nat → Int32) : Sg := (fun d j => if d = c then f j else σ.1 d j, σ.2.1, σ.2.2)
theorem setC_at (σ : Sg) (c : Nat) (f : Nat → Int32) : (setC σ c f).1 c = f := by
  funext j
  simp [setC]
theorem setC_ne {σ : Sg} {c d : Nat} {f : Nat → Int32} (h : d ≠ c) : (setC σ c f).1 d = σ.1 d := by
  funext j
  simp [setC, h]
theorem setC_setC (σ : Sg) (c : Nat) (f g : Nat → Int32) : setC (setC σ c f) c g = setC σ c g := by
  unfold setC
  simp only [Prod.mk.injEq, and_true]
  funext d j
  by_cases h : d = c <;> simp [h]
theorem setC_self (σ : Sg) (c : Nat) : setC σ c (σ.1 c) = σ := by
  obtain ⟨a, b, d⟩ := σ
  unfold setC
  simp only [Prod.mk.injEq, and_true]
  funext d j
  by_cases h : d = c <;> simp [h]
theorem wI_C (σ : Sg) (c j : Nat) (v : Int32) : wI σ c j v = setC σ c (upd (σ.1 c) j v) := by
  unfold wI setC upd
  simp only [Prod.mk.injEq, and_true]
  funext d k
  by_cases h : d = c
  · subst h
    simp
  · simp [h]
def k_breaks (g : Nat → Int32) : Int32 := if g 1 < g 4 then 0 else 1
def k_step (g : Nat → Int32) : Nat → Int32 := if p_in (g 0 + g 2) 0 15 = 0 then upd g 2 (-(g 2)) else upd g 0 (g 0 + g 2)
def k_on (g : Nat → Int32) : Nat → Int32 := upd (k_step g) 1 (if 99 < k_step g 1 + k_step g 3 then 99 else k_step g 1 + k_step g 3)
def k_pass (g : Nat → Int32) : Nat → Int32 := if k_breaks g = 0 then k_on g else k_on (upd g 1 0)
set_option maxRecDepth 100000 in
set_option maxHeartbeats 800000 in
theorem c_isPlace (G : GT) (σ : Sg) (v : Int32) : Evi G mX6_isPlace [.int v] σ (p_in v 0 15) (σ) := by
  refine Ev.ofL (m := 0) (L := [some (.int v)]) rfl (Nat.le_of_ble_eq_true rfl) rfl rfl ?_
  refine w_iload_n dX6_isPlace_0 rfl ?_
  refine w_iconst dX6_isPlace_1 ic_0 ?_
  refine w_bipush dX6_isPlace_2 bp_15 ?_
  refine w_callSi dX6_isPlace_4 ml_X6_66 ms_X6_isWithin rfl (c_isWithin G _ _ _ _) rfl rfl (Nat.le_of_ble_eq_true rfl) ?_
  refine w_zret dX6_isPlace_7 rfl (p_in_z _ _ _) ?_
  exact ⟨rfl, rfl⟩
set_option maxRecDepth 100000 in
set_option maxHeartbeats 800000 in
theorem c0_isBreaking (G : GT) (σ : Sg) (c : Nat) (hc : kd c = 0) : Evi G mX0_isBreaking [.ref c] σ (k_breaks (σ.1 c)) (σ) := by
  refine Ev.ofL (m := 0) (L := [some (.ref c)]) rfl (Nat.le_of_ble_eq_true rfl) rfl rfl ?_
  refine w_aload_n dX0_isBreaking_0 rfl ?_
  refine w_getI dX0_isBreaking_1 fl_X0_15 hc rfl ?_
  refine w_aload_n dX0_isBreaking_4 rfl ?_
  refine w_getI dX0_isBreaking_5 fl_X0_24 hc rfl ?_
  refine w_icmp_lt (t := 15) dX0_isBreaking_8 (by decide) (fun hz1 => ?_) (fun hz1 => ?_)
  · skip
    refine w_iconst dX0_isBreaking_15 ic_0 ?_
    refine w_zret dX0_isBreaking_16 rfl rfl ?_
    exact ⟨by simp [k_breaks, hz1], rfl⟩
  · skip
    refine w_iconst dX0_isBreaking_11 ic_1 ?_
    refine w_goto (t := 16) dX0_isBreaking_12 (by decide) ?_
    refine w_zret dX0_isBreaking_16 rfl rfl ?_
    exact ⟨by simp [k_breaks, hz1], rfl⟩
set_option maxRecDepth 100000 in
set_option maxHeartbeats 800000 in
theorem c0_goOn (G : GT) (σ : Sg) (c : Nat) (hc : kd c = 0) : Evv G mX0_goOn [.ref c] σ (setC σ c (k_on (σ.1 c))) := by
  refine Ev.ofL (m := 1) (L := [some (.ref c), none]) rfl (Nat.le_of_ble_eq_true rfl) rfl rfl ?_
  refine w_aload_n dX0_goOn_0 rfl ?_
  refine w_getI dX0_goOn_1 fl_X0_9 hc rfl ?_
  refine w_aload_n dX0_goOn_4 rfl ?_
  refine w_getI dX0_goOn_5 fl_X0_18 hc rfl ?_
  refine w_iadd dX0_goOn_8 ?_
  refine w_istore_n dX0_goOn_9 (by decide) rfl rfl ?_
  dsimp only [List.set]
  refine w_iload_n dX0_goOn_10 rfl ?_
  refine w_callNi (host := "BoltsByOrder") dX0_goOn_11 (by decide +kernel) ms_X6_isPlace rfl (c_isPlace G _ _) rfl rfl (Nat.le_of_ble_eq_true rfl) ?_
  try simp only [wI_C, setC_setC, setC_at]
  refine w_if_eq (t := 25) dX0_goOn_14 (by decide) (fun hz1 => ?_) (fun hz1 => ?_)
  · skip
    refine w_aload_n dX0_goOn_25 rfl ?_
    refine w_aload_n dX0_goOn_26 rfl ?_
    refine w_getI dX0_goOn_27 fl_X0_18 hc rfl ?_
    refine w_ineg dX0_goOn_30 ?_
    refine w_putI dX0_goOn_31 fl_X0_18 hc rfl (by decide +kernel) ?_
    try simp only [wI_C, setC_setC, setC_at]
    refine w_aload_n dX0_goOn_34 rfl ?_
    refine w_aload_n dX0_goOn_35 rfl ?_
    refine w_getI dX0_goOn_36 fl_X0_15 hc rfl ?_
    refine w_aload_n dX0_goOn_39 rfl ?_
    refine w_getI dX0_goOn_40 fl_X0_21 hc rfl ?_
    refine w_iadd dX0_goOn_43 ?_
    refine w_bipush dX0_goOn_44 bp_99 ?_
    refine w_min dX0_goOn_46 mi_X0_49 mm_min rfl ?_
    try simp only [wI_C, setC_setC, setC_at]
    refine w_putI dX0_goOn_49 fl_X0_15 hc rfl (by decide +kernel) ?_
    try simp only [wI_C, setC_setC, setC_at]
    refine w_vret dX0_goOn_52 rfl ?_
    have hst : k_step (σ.1 c) = upd (σ.1 c) 2 (-(σ.1 c 2)) := by rw [k_step, if_pos hz1]
    exact ⟨rfl, by rw [k_on, hst]⟩
  · skip
    refine w_aload_n dX0_goOn_17 rfl ?_
    refine w_iload_n dX0_goOn_18 rfl ?_
    refine w_putI dX0_goOn_19 fl_X0_9 hc rfl (by decide +kernel) ?_
    try simp only [wI_C, setC_setC, setC_at]
    refine w_goto (t := 34) dX0_goOn_22 (by decide) ?_
    refine w_aload_n dX0_goOn_34 rfl ?_
    refine w_aload_n dX0_goOn_35 rfl ?_
    refine w_getI dX0_goOn_36 fl_X0_15 hc rfl ?_
    refine w_aload_n dX0_goOn_39 rfl ?_
    refine w_getI dX0_goOn_40 fl_X0_21 hc rfl ?_
    refine w_iadd dX0_goOn_43 ?_
    refine w_bipush dX0_goOn_44 bp_99 ?_
    refine w_min dX0_goOn_46 mi_X0_49 mm_min rfl ?_
    try simp only [wI_C, setC_setC, setC_at]
    refine w_putI dX0_goOn_49 fl_X0_15 hc rfl (by decide +kernel) ?_
    try simp only [wI_C, setC_setC, setC_at]
    refine w_vret dX0_goOn_52 rfl ?_
    have hst : k_step (σ.1 c) = upd (σ.1 c) 0 (σ.1 c 0 + σ.1 c 2) := by rw [k_step, if_neg hz1]
    exact ⟨rfl, by rw [k_on, hst]⟩
set_option maxRecDepth 100000 in
set_option maxHeartbeats 800000 in
theorem c0_passHour (G : GT) (σ : Sg) (c : Nat) (hc : kd c = 0) : Evv G mX0_passHour [.ref c] σ (setC σ c (k_pass (σ.1 c))) := by
  refine Ev.ofL (m := 0) (L := [some (.ref c)]) rfl (Nat.le_of_ble_eq_true rfl) rfl rfl ?_
  refine w_aload_n dX0_passHour_0 rfl ?_
  refine w_callVi dX0_passHour_1 ml_X0_38 mv_X0_isBreaking rfl hc (by decide) rfl (c0_isBreaking G _ c hc) rfl rfl (Nat.le_of_ble_eq_true rfl) ?_
  try simp only [wI_C, setC_setC, setC_at]
  refine w_if_eq (t := 12) dX0_passHour_4 (by decide) (fun hz1 => ?_) (fun hz1 => ?_)
  · skip
    refine w_aload_n dX0_passHour_12 rfl ?_
    refine w_callVv dX0_passHour_13 ml_X0_42 mv_X0_goOn rfl hc (by decide) rfl (c0_goOn G _ c hc) rfl rfl (Nat.le_of_ble_eq_true rfl) ?_
    try simp only [wI_C, setC_setC, setC_at]
    refine w_vret dX0_passHour_16 rfl ?_
    exact ⟨rfl, by rw [k_pass, if_pos hz1]⟩
  · skip
    refine w_aload_n dX0_passHour_7 rfl ?_
    refine w_iconst dX0_passHour_8 ic_0 ?_
    refine w_putI dX0_passHour_9 fl_X0_15 hc rfl (by decide +kernel) ?_
    try simp only [wI_C, setC_setC, setC_at]
    refine w_aload_n dX0_passHour_12 rfl ?_
    refine w_callVv dX0_passHour_13 ml_X0_42 mv_X0_goOn rfl hc (by decide) rfl (c0_goOn G _ c hc) rfl rfl (Nat.le_of_ble_eq_true rfl) ?_
    try simp only [wI_C, setC_setC, setC_at]
    refine w_vret dX0_passHour_16 rfl ?_
    exact ⟨rfl, by rw [k_pass, if_neg hz1]⟩
def b_best (d : Nat → Int32) : Nat → Option Nat × Int32
  | 0 => (none, 0)
  | r + 1 => (if (b_best d r).2 < d r then some r else (b_best d r).1, if (b_best d r).2 < d r then d r else (b_best d r).2)
theorem b_best_p (f : Nat → Int32) (place : Int32) : ∀ n, p_best f place n = b_best (fun r => p_draws f r place) n
  | 0 => rfl
  | r + 1 => by
    rw [p_best, b_best, b_best_p f place r]
/-- the draw of a plain's rod r -/
def cdr (σ : Sg) (p : Nat) (place : Int32) (r : Nat) : Int32 := c_draws (σ.1 (σ.2.2 (p + 11) r)) place
set_option maxRecDepth 100000 in
set_option maxHeartbeats 800000 in
theorem c1_clock (G : GT) (σ : Sg) (p : Nat) (hp : kd p = 1) (hp8 : kd (p + 8) = 0) (hp11 : kd (p + 11) = 10) (hp14 : kd (p + 14) = 8) (hr : ∀ j, j < 8 → kd (σ.2.2 (p + 11) j) = 3) : Evi G mX1_clock [.ref p] σ (p_rem (σ.1 p 3) 24) (σ) := by
  refine Ev.ofL (m := 0) (L := [some (.ref p)]) rfl (Nat.le_of_ble_eq_true rfl) rfl rfl ?_
  refine w_aload_n dX1_clock_0 rfl ?_
  refine w_getI dX1_clock_1 fl_X1_29 hp rfl ?_
  refine w_bipush dX1_clock_4 bp_24 ?_
  refine w_irem dX1_clock_6 (by decide) ?_
  refine w_iret dX1_clock_7 rfl ?_
  exact ⟨rfl, rfl⟩
set_option maxRecDepth 100000 in
set_option maxHeartbeats 800000 in
theorem c1_isFull (G : GT) (σ : Sg) (p : Nat) (hp : kd p = 1) (hp8 : kd (p + 8) = 0) (hp11 : kd (p + 11) = 10) (hp14 : kd (p + 14) = 8) (hr : ∀ j, j < 8 → kd (σ.2.2 (p + 11) j) = 3) : Evi G mX1_isFull [.ref p] σ (if σ.1 p 2 < 8 then 0 else 1) (σ) := by
  refine Ev.ofL (m := 0) (L := [some (.ref p)]) rfl (Nat.le_of_ble_eq_true rfl) rfl rfl ?_
  refine w_aload_n dX1_isFull_0 rfl ?_
  refine w_getI dX1_isFull_1 fl_X1_25 hp rfl ?_
  refine w_bipush dX1_isFull_4 bp_8 ?_
  refine w_icmp_lt (t := 13) dX1_isFull_6 (by decide) (fun hz1 => ?_) (fun hz1 => ?_)
  · skip
    refine w_iconst dX1_isFull_13 ic_0 ?_
    refine w_zret dX1_isFull_14 rfl rfl ?_
    exact ⟨by rw [if_pos hz1], rfl⟩
  · skip
    refine w_iconst dX1_isFull_9 ic_1 ?_
    refine w_goto (t := 14) dX1_isFull_10 (by decide) ?_
    refine w_zret dX1_isFull_14 rfl rfl ?_
    exact ⟨by rw [if_neg hz1], rfl⟩
set_option maxRecDepth 100000 in
set_option maxHeartbeats 800000 in
theorem c1_targetFrom (G : GT) (σ : Sg) (p : Nat) (hp : kd p = 1) (hp8 : kd (p + 8) = 0) (hp11 : kd (p + 11) = 10) (hp14 : kd (p + 14) = 8) (hr : ∀ j, j < 8 → kd (σ.2.2 (p + 11) j) = 3) (pl : Int32) (n : Nat) (hn : σ.1 p 2 = nI n) (h8 : n ≤ 8) : Evi G mX1_targetFrom [.ref p, .int pl] σ (oI (b_best (cdr σ p pl) n).1) (σ) := by
  refine Ev.ofL (m := 4) (L := [some (.ref p), some (.int pl), none, none, none, none]) rfl (Nat.le_of_ble_eq_true rfl) rfl rfl ?_
  refine w_iconst dX1_targetFrom_0 ic_m1 ?_
  refine w_istore_n dX1_targetFrom_1 (by decide) rfl rfl ?_
  dsimp only [List.set]
  refine w_iconst dX1_targetFrom_2 ic_0 ?_
  refine w_istore_n dX1_targetFrom_3 (by decide) rfl rfl ?_
  dsimp only [List.set]
  refine w_iconst dX1_targetFrom_4 ic_0 ?_
  refine w_istore dX1_targetFrom_5 (by decide) rfl rfl ?_
  dsimp only [List.set]
  have lp : ∀ (m : Nat) (r : Nat) (x5 : Option Value), n - r < m → r ≤ n → WP G mX1_targetFrom 7 [some (.ref p), some (.int pl), some (.int (oI (b_best (cdr σ p pl) r).1)), some (.int (b_best (cdr σ p pl) r).2), some (.int (nI r)), x5] [] (σ) (fun v σ' => v = some (.int (oI (b_best (cdr σ p pl) n).1)) ∧ σ' = (σ)) := by
    intro m
    induction m with
    | zero => intro r x5 hm; exact absurd hm (Nat.not_lt_zero _)
    | succ m ih =>
      intro r x5 hm hr2
      refine w_iload dX1_targetFrom_7 rfl ?_
      refine w_aload_n dX1_targetFrom_9 rfl ?_
      refine w_getI dX1_targetFrom_10 fl_X1_25 hp rfl ?_
      refine w2_icmp_ge (t := 47) dX1_targetFrom_13 (by decide) (fun hz1 => ?_) (fun hz1 => ?_)
      · skip
        rw [hn] at hz1
        have hge := nlt_nI (by omega) (by omega) hz1
        have hen : r = n := by omega
        subst hen
        refine w_iload_n dX1_targetFrom_47 rfl ?_
        refine w_iret dX1_targetFrom_48 rfl ?_
        exact ⟨rfl, rfl⟩
      · skip
        rw [hn] at hz1
        have hlt := lt_nI (by omega) (by omega) hz1
        refine w_aload_n dX1_targetFrom_16 rfl ?_
        refine w_getR (t := (p + 11)) dX1_targetFrom_17 fl_X1_20 hp (by decide) (by decide) rfl ?_
        refine w_iload dX1_targetFrom_20 rfl ?_
        refine w_aald (j := r) dX1_targetFrom_22 hp11 rfl (by omega) ?_
        refine w_iload_n dX1_targetFrom_23 rfl ?_
        refine w_callVi dX1_targetFrom_24 ml_X1_53 mv_X3_drawsFrom rfl (hr r (by omega)) (by decide) rfl (c3_drawsFrom G _ _ (hr r (by omega)) _) rfl rfl (Nat.le_of_ble_eq_true rfl) ?_
        refine w_istore dX1_targetFrom_27 (by decide) rfl rfl ?_
        dsimp only [List.set]
        refine w_iload dX1_targetFrom_29 rfl ?_
        refine w_iload_n dX1_targetFrom_31 rfl ?_
        refine w2_icmp_le (t := 41) dX1_targetFrom_32 (by decide) (fun hz2 => ?_) (fun hz2 => ?_)
        · skip
          have cc := eq_false (show ¬ (b_best (cdr σ p pl) r).2 < cdr σ p pl r from hz2)
          refine w_iincN (a := r) (b := 1) dX1_targetFrom_41 rfl ic_1 (by decide) rfl rfl ?_
          dsimp only [List.set]
          refine w_goto (t := 7) dX1_targetFrom_44 (by decide) ?_
          have q0 := ih (r + 1) (some (.int (cdr σ p pl r))) (by omega) (by omega)
          simp only [b_best, cc, if_true, if_false] at q0
          exact q0
        · skip
          have cc := eq_true (show (b_best (cdr σ p pl) r).2 < cdr σ p pl r from hz2)
          refine w_iload dX1_targetFrom_35 rfl ?_
          refine w_istore_n dX1_targetFrom_37 (by decide) rfl rfl ?_
          dsimp only [List.set]
          refine w_iload dX1_targetFrom_38 rfl ?_
          refine w_istore_n dX1_targetFrom_40 (by decide) rfl rfl ?_
          dsimp only [List.set]
          
          refine w_iincN (a := r) (b := 1) dX1_targetFrom_41 rfl ic_1 (by decide) rfl rfl ?_
          dsimp only [List.set]
          refine w_goto (t := 7) dX1_targetFrom_44 (by decide) ?_
          have q0 := ih (r + 1) (some (.int (cdr σ p pl r))) (by omega) (by omega)
          simp only [b_best, cc, if_true, if_false] at q0
          exact q0
  exact lp (n + 1) 0 none (by omega) (by omega)
