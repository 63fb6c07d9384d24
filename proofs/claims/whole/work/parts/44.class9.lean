def b_sum (d : Nat → Int32) : Nat → Int32
  | 0 => 0
  | r + 1 => b_sum d r + d r
set_option maxRecDepth 100000 in
set_option maxHeartbeats 800000 in
theorem c1_partsOfAll (G : GT) (σ : Sg) (p : Nat) (hp : kd p = 1) (hp8 : kd (p + 8) = 0) (hp11 : kd (p + 11) = 10) (hp14 : kd (p + 14) = 8) (hr : ∀ j, j < 8 → kd (σ.2.2 (p + 11) j) = 3) (n : Nat) (hn : σ.1 p 2 = nI n) (h8 : n ≤ 8) (w : Int32) : Evi G mX1_partsOfAll [.ref p, .int w] σ (b_sum (fun j => k_part3 (σ.1 (σ.2.2 (p + 11) j)) w) n) (σ) := by
  refine Ev.ofL (m := 2) (L := [some (.ref p), some (.int w), none, none]) rfl (Nat.le_of_ble_eq_true rfl) rfl rfl ?_
  refine w_iconst dX1_partsOfAll_0 ic_0 ?_
  refine w_istore_n dX1_partsOfAll_1 (by decide) rfl rfl ?_
  dsimp only [List.set]
  refine w_iconst dX1_partsOfAll_2 ic_0 ?_
  refine w_istore_n dX1_partsOfAll_3 (by decide) rfl rfl ?_
  dsimp only [List.set]
  have lp : ∀ (m : Nat) (r : Nat), n - r < m → r ≤ n → WP G mX1_partsOfAll 4 [some (.ref p), some (.int w), some (.int (b_sum (fun j => k_part3 (σ.1 (σ.2.2 (p + 11) j)) w) r)), some (.int (nI r))] [] (σ) (fun v σ' => v = some (.int (b_sum (fun j => k_part3 (σ.1 (σ.2.2 (p + 11) j)) w) n)) ∧ σ' = (σ)) := by
    intro m
    induction m with
    | zero => intro r hm; exact absurd hm (Nat.not_lt_zero _)
    | succ m ih =>
      intro r hm hr2
      refine w_iload_n dX1_partsOfAll_4 rfl ?_
      refine w_aload_n dX1_partsOfAll_5 rfl ?_
      refine w_getI dX1_partsOfAll_6 fl_X1_25 hp rfl ?_
      refine w2_icmp_ge (t := 31) dX1_partsOfAll_9 (by decide) (fun hz1 => ?_) (fun hz1 => ?_)
      · skip
        rw [hn] at hz1
        have hge := nlt_nI (by omega) (by omega) hz1
        have hen : r = n := by omega
        subst hen
        refine w_iload_n dX1_partsOfAll_31 rfl ?_
        refine w_iret dX1_partsOfAll_32 rfl ?_
        exact ⟨rfl, rfl⟩
      · skip
        rw [hn] at hz1
        have hlt := lt_nI (by omega) (by omega) hz1
        refine w_iload_n dX1_partsOfAll_12 rfl ?_
        refine w_aload_n dX1_partsOfAll_13 rfl ?_
        refine w_getR (t := (p + 11)) dX1_partsOfAll_14 fl_X1_20 hp (by decide) (by decide) rfl ?_
        refine w_iload_n dX1_partsOfAll_17 rfl ?_
        refine w_aald (j := r) dX1_partsOfAll_18 hp11 rfl (by omega) ?_
        refine w_iload_n dX1_partsOfAll_19 rfl ?_
        refine w_callVi dX1_partsOfAll_20 ml_X1_108 mv_X3_part rfl (hr r (by omega)) (by decide) rfl (c3_part G _ _ (hr r (by omega)) _) rfl rfl (Nat.le_of_ble_eq_true rfl) ?_
        refine w_iadd dX1_partsOfAll_23 ?_
        refine w_istore_n dX1_partsOfAll_24 (by decide) rfl rfl ?_
        dsimp only [List.set]
        refine w_iincN (a := r) (b := 1) dX1_partsOfAll_25 rfl ic_1 (by decide) rfl rfl ?_
        dsimp only [List.set]
        refine w_goto (t := 4) dX1_partsOfAll_28 (by decide) ?_
        exact ih (r + 1) (by omega) (by omega)
  exact lp (n + 1) 0 (by omega) (by omega)
set_option maxRecDepth 100000 in
set_option maxHeartbeats 800000 in
theorem c1_paidHoursOfAll (G : GT) (σ : Sg) (p : Nat) (hp : kd p = 1) (hp8 : kd (p + 8) = 0) (hp11 : kd (p + 11) = 10) (hp14 : kd (p + 14) = 8) (hr : ∀ j, j < 8 → kd (σ.2.2 (p + 11) j) = 3) (n : Nat) (hn : σ.1 p 2 = nI n) (h8 : n ≤ 8)  : Evi G mX1_paidHoursOfAll [.ref p] σ (b_sum (fun j => c_paidMany (σ.1 (σ.2.2 (p + 11) j))) n) (σ) := by
  refine Ev.ofL (m := 2) (L := [some (.ref p), none, none]) rfl (Nat.le_of_ble_eq_true rfl) rfl rfl ?_
  refine w_iconst dX1_paidHoursOfAll_0 ic_0 ?_
  refine w_istore_n dX1_paidHoursOfAll_1 (by decide) rfl rfl ?_
  dsimp only [List.set]
  refine w_iconst dX1_paidHoursOfAll_2 ic_0 ?_
  refine w_istore_n dX1_paidHoursOfAll_3 (by decide) rfl rfl ?_
  dsimp only [List.set]
  have lp : ∀ (m : Nat) (r : Nat), n - r < m → r ≤ n → WP G mX1_paidHoursOfAll 4 [some (.ref p), some (.int (b_sum (fun j => c_paidMany (σ.1 (σ.2.2 (p + 11) j))) r)), some (.int (nI r))] [] (σ) (fun v σ' => v = some (.int (b_sum (fun j => c_paidMany (σ.1 (σ.2.2 (p + 11) j))) n)) ∧ σ' = (σ)) := by
    intro m
    induction m with
    | zero => intro r hm; exact absurd hm (Nat.not_lt_zero _)
    | succ m ih =>
      intro r hm hr2
      refine w_iload_n dX1_paidHoursOfAll_4 rfl ?_
      refine w_aload_n dX1_paidHoursOfAll_5 rfl ?_
      refine w_getI dX1_paidHoursOfAll_6 fl_X1_25 hp rfl ?_
      refine w2_icmp_ge (t := 30) dX1_paidHoursOfAll_9 (by decide) (fun hz1 => ?_) (fun hz1 => ?_)
      · skip
        rw [hn] at hz1
        have hge := nlt_nI (by omega) (by omega) hz1
        have hen : r = n := by omega
        subst hen
        refine w_iload_n dX1_paidHoursOfAll_30 rfl ?_
        refine w_iret dX1_paidHoursOfAll_31 rfl ?_
        exact ⟨rfl, rfl⟩
      · skip
        rw [hn] at hz1
        have hlt := lt_nI (by omega) (by omega) hz1
        refine w_iload_n dX1_paidHoursOfAll_12 rfl ?_
        refine w_aload_n dX1_paidHoursOfAll_13 rfl ?_
        refine w_getR (t := (p + 11)) dX1_paidHoursOfAll_14 fl_X1_20 hp (by decide) (by decide) rfl ?_
        refine w_iload_n dX1_paidHoursOfAll_17 rfl ?_
        refine w_aald (j := r) dX1_paidHoursOfAll_18 hp11 rfl (by omega) ?_
        refine w_callVi dX1_paidHoursOfAll_19 ml_X1_111 mv_X3_paidHours rfl (hr r (by omega)) (by decide) rfl (c3_paidHours G _ _ (hr r (by omega))) rfl rfl (Nat.le_of_ble_eq_true rfl) ?_
        refine w_iadd dX1_paidHoursOfAll_22 ?_
        refine w_istore_n dX1_paidHoursOfAll_23 (by decide) rfl rfl ?_
        dsimp only [List.set]
        refine w_iincN (a := r) (b := 1) dX1_paidHoursOfAll_24 rfl ic_1 (by decide) rfl rfl ?_
        dsimp only [List.set]
        refine w_goto (t := 4) dX1_paidHoursOfAll_27 (by decide) ?_
        exact ih (r + 1) (by omega) (by omega)
  exact lp (n + 1) 0 (by omega) (by omega)
set_option maxRecDepth 100000 in
set_option maxHeartbeats 800000 in
theorem c1_drawsOfAll (G : GT) (σ : Sg) (p : Nat) (hp : kd p = 1) (hp8 : kd (p + 8) = 0) (hp11 : kd (p + 11) = 10) (hp14 : kd (p + 14) = 8) (hr : ∀ j, j < 8 → kd (σ.2.2 (p + 11) j) = 3) (n : Nat) (hn : σ.1 p 2 = nI n) (h8 : n ≤ 8)  : Evi G mX1_drawsOfAll [.ref p] σ (b_sum (cdr σ p (σ.1 (p + 8) 0)) n) (σ) := by
  refine Ev.ofL (m := 2) (L := [some (.ref p), none, none]) rfl (Nat.le_of_ble_eq_true rfl) rfl rfl ?_
  refine w_iconst dX1_drawsOfAll_0 ic_0 ?_
  refine w_istore_n dX1_drawsOfAll_1 (by decide) rfl rfl ?_
  dsimp only [List.set]
  refine w_iconst dX1_drawsOfAll_2 ic_0 ?_
  refine w_istore_n dX1_drawsOfAll_3 (by decide) rfl rfl ?_
  dsimp only [List.set]
  have lp : ∀ (m : Nat) (r : Nat), n - r < m → r ≤ n → WP G mX1_drawsOfAll 4 [some (.ref p), some (.int (b_sum (cdr σ p (σ.1 (p + 8) 0)) r)), some (.int (nI r))] [] (σ) (fun v σ' => v = some (.int (b_sum (cdr σ p (σ.1 (p + 8) 0)) n)) ∧ σ' = (σ)) := by
    intro m
    induction m with
    | zero => intro r hm; exact absurd hm (Nat.not_lt_zero _)
    | succ m ih =>
      intro r hm hr2
      refine w_iload_n dX1_drawsOfAll_4 rfl ?_
      refine w_aload_n dX1_drawsOfAll_5 rfl ?_
      refine w_getI dX1_drawsOfAll_6 fl_X1_25 hp rfl ?_
      refine w2_icmp_ge (t := 37) dX1_drawsOfAll_9 (by decide) (fun hz1 => ?_) (fun hz1 => ?_)
      · skip
        rw [hn] at hz1
        have hge := nlt_nI (by omega) (by omega) hz1
        have hen : r = n := by omega
        subst hen
        refine w_iload_n dX1_drawsOfAll_37 rfl ?_
        refine w_iret dX1_drawsOfAll_38 rfl ?_
        exact ⟨rfl, rfl⟩
      · skip
        rw [hn] at hz1
        have hlt := lt_nI (by omega) (by omega) hz1
        refine w_iload_n dX1_drawsOfAll_12 rfl ?_
        refine w_aload_n dX1_drawsOfAll_13 rfl ?_
        refine w_getR (t := (p + 11)) dX1_drawsOfAll_14 fl_X1_20 hp (by decide) (by decide) rfl ?_
        refine w_iload_n dX1_drawsOfAll_17 rfl ?_
        refine w_aald (j := r) dX1_drawsOfAll_18 hp11 rfl (by omega) ?_
        refine w_aload_n dX1_drawsOfAll_19 rfl ?_
        refine w_getR (t := (p + 8)) dX1_drawsOfAll_20 fl_X1_12 hp (by decide) (by decide) rfl ?_
        refine w_getI dX1_drawsOfAll_23 fl_X1_64 hp8 rfl ?_
        refine w_callVi dX1_drawsOfAll_26 ml_X1_53 mv_X3_drawsFrom rfl (hr r (by omega)) (by decide) rfl (c3_drawsFrom G _ _ (hr r (by omega)) _) rfl rfl (Nat.le_of_ble_eq_true rfl) ?_
        refine w_iadd dX1_drawsOfAll_29 ?_
        refine w_istore_n dX1_drawsOfAll_30 (by decide) rfl rfl ?_
        dsimp only [List.set]
        refine w_iincN (a := r) (b := 1) dX1_drawsOfAll_31 rfl ic_1 (by decide) rfl rfl ?_
        dsimp only [List.set]
        refine w_goto (t := 4) dX1_drawsOfAll_34 (by decide) ?_
        exact ih (r + 1) (by omega) (by omega)
  exact lp (n + 1) 0 (by omega) (by omega)
set_option maxRecDepth 100000 in
set_option maxHeartbeats 800000 in
theorem c1_forked (G : GT) (σ : Sg) (p : Nat) (hp : kd p = 1) (hp8 : kd (p + 8) = 0) (hp11 : kd (p + 11) = 10) (hp14 : kd (p + 14) = 8) (hr : ∀ j, j < 8 → kd (σ.2.2 (p + 11) j) = 3) (k : Nat) (hk : k < 8) : Evi G mX1_forked [.ref p, .int (nI k)] σ (cdr σ p (σ.1 (p + 8) 0) k * σ.1 (p + 8) 1) (σ) := by
  refine Ev.ofL (m := 0) (L := [some (.ref p), some (.int (nI k))]) rfl (Nat.le_of_ble_eq_true rfl) rfl rfl ?_
  refine w_aload_n dX1_forked_0 rfl ?_
  refine w_getR (t := (p + 11)) dX1_forked_1 fl_X1_20 hp (by decide) (by decide) rfl ?_
  refine w_iload_n dX1_forked_4 rfl ?_
  refine w_aald (j := k) dX1_forked_5 hp11 rfl (by omega) ?_
  refine w_aload_n dX1_forked_6 rfl ?_
  refine w_getR (t := (p + 8)) dX1_forked_7 fl_X1_12 hp (by decide) (by decide) rfl ?_
  refine w_getI dX1_forked_10 fl_X1_64 hp8 rfl ?_
  refine w_callVi dX1_forked_13 ml_X1_53 mv_X3_drawsFrom rfl (hr k (by omega)) (by decide) rfl (c3_drawsFrom G _ _ (hr k (by omega)) _) rfl rfl (Nat.le_of_ble_eq_true rfl) ?_
  refine w_aload_n dX1_forked_16 rfl ?_
  refine w_getR (t := (p + 8)) dX1_forked_17 fl_X1_12 hp (by decide) (by decide) rfl ?_
  refine w_getI dX1_forked_20 fl_X1_78 hp8 rfl ?_
  refine w_imul dX1_forked_23 ?_
  refine w_iret dX1_forked_24 rfl ?_
  exact ⟨rfl, rfl⟩
