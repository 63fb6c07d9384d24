set_option maxRecDepth 100000 in
set_option maxHeartbeats 800000 in
theorem c1_add (G : GT) (σ : Sg) (p : Nat) (hp : kd p = 1) (hp8 : kd (p + 8) = 0) (hp11 : kd (p + 11) = 10) (hp14 : kd (p + 14) = 8) (hr : ∀ j, j < 8 → kd (σ.2.2 (p + 11) j) = 3) (n : Nat) (hn : σ.1 p 2 = nI n) (h8 : n < 8) (kx pl : Int32) : Evr G mX1_add [.ref p, .int kx, .int pl] σ (σ.2.2 (p + 11) n) (setC (setC σ (σ.2.2 (p + 11) n) (k_new (σ.1 (σ.2.2 (p + 11) n)) kx pl)) p (upd (σ.1 p) 2 (nI (n + 1)))) := by
  have hpr : p ≠ σ.2.2 (p + 11) n := by
    intro z
    have q0 := hr n h8
    rw [← z, hp] at q0
    exact absurd q0 (by decide)
  refine Ev.ofL (m := 1) (L := [some (.ref p), some (.int kx), some (.int pl), none]) rfl (Nat.le_of_ble_eq_true rfl) rfl rfl ?_
  refine w_aload_n dX1_add_0 rfl ?_
  refine w_getR (t := (p + 11)) dX1_add_1 fl_X1_20 hp (by decide) (by decide) rfl ?_
  refine w_aload_n dX1_add_4 rfl ?_
  refine w_getI dX1_add_5 fl_X1_25 hp rfl ?_
  refine w_eqi hn ?_
  · skip
    refine w_aald (j := n) dX1_add_8 hp11 rfl (by omega) ?_
    refine w_astore_n dX1_add_9 (by decide) rfl rfl ?_
    dsimp only [List.set]
    refine w_aload_n dX1_add_10 rfl ?_
    refine w_iload_n dX1_add_11 rfl ?_
    refine w_iload_n dX1_add_12 rfl ?_
    refine w_callVv dX1_add_13 ml_X1_49 mv_X3_becomeNew rfl (hr n h8) (by decide) rfl (c3_becomeNew G _ _ (hr n h8) _ _) rfl rfl (Nat.le_of_ble_eq_true rfl) ?_
    try simp only [wI_C, setC_at, setC_ne hpr]
    refine w_aload_n dX1_add_16 rfl ?_
    refine w_dup dX1_add_17 rfl ?_
    refine w_getI dX1_add_18 fl_X1_25 hp rfl ?_
    refine w_iconst dX1_add_21 ic_1 ?_
    refine w_iadd dX1_add_22 ?_
    refine w_putI dX1_add_23 fl_X1_25 hp rfl (by decide +kernel) ?_
    try simp only [wI_C, setC_at, setC_ne hpr]
    refine w_aload_n dX1_add_26 rfl ?_
    refine w_aret dX1_add_27 rfl ?_
    exact ⟨rfl, by rw [hn, nI_1]⟩
set_option maxRecDepth 100000 in
set_option maxHeartbeats 800000 in
theorem c_isKind (G : GT) (σ : Sg) (v : Int32) : Evi G mX6_isKind [.int v] σ (p_in v 0 5) (σ) := by
  refine Ev.ofL (m := 0) (L := [some (.int v)]) rfl (Nat.le_of_ble_eq_true rfl) rfl rfl ?_
  refine w_iload_n dX6_isKind_0 rfl ?_
  refine w_iconst dX6_isKind_1 ic_0 ?_
  refine w_iconst dX6_isKind_2 ic_5 ?_
  refine w_callSi dX6_isKind_3 ml_X6_66 ms_X6_isWithin rfl (c_isWithin G _ _ _ _) rfl rfl (Nat.le_of_ble_eq_true rfl) ?_
  refine w_zret dX6_isKind_6 rfl (p_in_z _ _ _) ?_
  exact ⟨rfl, rfl⟩
set_option maxRecDepth 100000 in
set_option maxHeartbeats 800000 in
theorem c_isHeight (G : GT) (σ : Sg) (v : Int32) : Evi G mX6_isHeight [.int v] σ (p_in v 0 60) (σ) := by
  refine Ev.ofL (m := 0) (L := [some (.int v)]) rfl (Nat.le_of_ble_eq_true rfl) rfl rfl ?_
  refine w_iload_n dX6_isHeight_0 rfl ?_
  refine w_iconst dX6_isHeight_1 ic_0 ?_
  refine w_bipush dX6_isHeight_2 bp_60 ?_
  refine w_callSi dX6_isHeight_4 ml_X6_66 ms_X6_isWithin rfl (c_isWithin G _ _ _ _) rfl rfl (Nat.le_of_ble_eq_true rfl) ?_
  refine w_zret dX6_isHeight_7 rfl (p_in_z _ _ _) ?_
  exact ⟨rfl, rfl⟩
set_option maxRecDepth 100000 in
set_option maxHeartbeats 800000 in
theorem c_isClock (G : GT) (σ : Sg) (v : Int32) : Evi G mX6_isClock [.int v] σ (p_in v 0 23) (σ) := by
  refine Ev.ofL (m := 0) (L := [some (.int v)]) rfl (Nat.le_of_ble_eq_true rfl) rfl rfl ?_
  refine w_iload_n dX6_isClock_0 rfl ?_
  refine w_iconst dX6_isClock_1 ic_0 ?_
  refine w_bipush dX6_isClock_2 bp_23 ?_
  refine w_callSi dX6_isClock_4 ml_X6_66 ms_X6_isWithin rfl (c_isWithin G _ _ _ _) rfl rfl (Nat.le_of_ble_eq_true rfl) ?_
  refine w_zret dX6_isClock_7 rfl (p_in_z _ _ _) ?_
  exact ⟨rfl, rfl⟩
set_option maxRecDepth 100000 in
set_option maxHeartbeats 800000 in
theorem c_isSheet (G : GT) (σ : Sg) (v : Int32) : Evi G mX6_isSheet [.int v] σ (p_in v 0 3) (σ) := by
  refine Ev.ofL (m := 0) (L := [some (.int v)]) rfl (Nat.le_of_ble_eq_true rfl) rfl rfl ?_
  refine w_iload_n dX6_isSheet_0 rfl ?_
  refine w_iconst dX6_isSheet_1 ic_0 ?_
  refine w_iconst dX6_isSheet_2 ic_3 ?_
  refine w_callSi dX6_isSheet_3 ml_X6_66 ms_X6_isWithin rfl (c_isWithin G _ _ _ _) rfl rfl (Nat.le_of_ble_eq_true rfl) ?_
  refine w_zret dX6_isSheet_6 rfl (p_in_z _ _ _) ?_
  exact ⟨rfl, rfl⟩
