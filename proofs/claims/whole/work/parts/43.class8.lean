set_option maxRecDepth 100000 in
set_option maxHeartbeats 800000 in
theorem c_isRod (G : GT) (σ : Sg) (v : Int32) : Evi G mX6_isRod [.ref 0, .int v] σ (p_in v 0 (σ.1 1 2 - 1)) (σ) := by
  refine Ev.ofL (m := 0) (L := [some (.ref 0), some (.int v)]) rfl (Nat.le_of_ble_eq_true rfl) rfl rfl ?_
  refine w_iload_n dX6_isRod_0 rfl ?_
  refine w_iconst dX6_isRod_1 ic_0 ?_
  refine w_aload_n dX6_isRod_2 rfl ?_
  refine w_getR (t := 1) dX6_isRod_3 fl_X6_10 rfl (by decide) (by decide) rfl ?_
  refine w_getI dX6_isRod_6 fl_X6_86 rfl rfl ?_
  refine w_iconst dX6_isRod_9 ic_1 ?_
  refine w_isub dX6_isRod_10 ?_
  refine w_callSi dX6_isRod_11 ml_X6_66 ms_X6_isWithin rfl (c_isWithin G _ _ _ _) rfl rfl (Nat.le_of_ble_eq_true rfl) ?_
  refine w_zret dX6_isRod_14 rfl (p_in_z _ _ _) ?_
  exact ⟨rfl, rfl⟩
set_option maxRecDepth 100000 in
set_option maxHeartbeats 800000 in
theorem c_tell (G : GT) (σ : Sg) (v : Int32) (j : Nat) (hj : -1000000001 - v = nI j) (hj7 : j < 7) : Evi G mX6_tell [.ref 0, .int v] σ (v) (wI σ 7 j (σ.1 7 j + 1)) := by
  refine Ev.ofL (m := 1) (L := [some (.ref 0), some (.int v), none]) rfl (Nat.le_of_ble_eq_true rfl) rfl rfl ?_
  refine w_ldc dX6_tell_0 kc_X6_50 ?_
  refine w_iload_n dX6_tell_2 rfl ?_
  refine w_isub dX6_tell_3 ?_
  refine w_eqi hj ?_
  · skip
    refine w_istore_n dX6_tell_4 (by decide) rfl rfl ?_
    dsimp only [List.set]
    refine w_iload_n dX6_tell_5 rfl ?_
    refine w_iconst dX6_tell_6 ic_0 ?_
    refine w_bipush dX6_tell_7 bp_6 ?_
    refine w_callSi dX6_tell_9 ml_X6_66 ms_X6_isWithin rfl (c_isWithin G _ _ _ _) rfl rfl (Nat.le_of_ble_eq_true rfl) ?_
    refine w_if_eq (t := 25) dX6_tell_12 (by decide) (fun hz1 => absurd hz1 (by have q0 := in_rod (n := 7) hj7 (by decide); rw [show nI 7 - 1 = 6 from by decide] at q0; exact q0)) (fun hz1 => ?_)
    refine w_aload_n dX6_tell_15 rfl ?_
    refine w_getR (t := 7) dX6_tell_16 fl_X6_40 rfl (by decide) (by decide) rfl ?_
    refine w_iload_n dX6_tell_19 rfl ?_
    refine w_dup2 dX6_tell_20 rfl rfl ?_
    refine w_iald (j := j) dX6_tell_21 rfl (by decide) rfl (show j < 7 by omega) ?_
    refine w_iconst dX6_tell_22 ic_1 ?_
    refine w_iadd dX6_tell_23 ?_
    refine w_iast (j := j) dX6_tell_24 rfl (by decide) rfl (show j < 7 by omega) ?_
    refine w_iload_n dX6_tell_25 rfl ?_
    refine w_iret dX6_tell_26 rfl ?_
    exact ⟨rfl, rfl⟩
set_option maxRecDepth 100000 in
set_option maxHeartbeats 800000 in
theorem c5_add (G : GT) (σ : Sg) (v : Int32) (t : Nat) (ht : σ.1 5 1 = nI t) (ht2 : t < 120) : Evv G mX5_add [.ref 5, .int v] σ (setC (setC σ 8 (upd (σ.1 8) t v)) 5 (upd (σ.1 5) 1 (nI (t + 1)))) := by
  refine Ev.ofL (m := 0) (L := [some (.ref 5), some (.int v)]) rfl (Nat.le_of_ble_eq_true rfl) rfl rfl ?_
  refine w_aload_n dX5_add_0 rfl ?_
  refine w_getI dX5_add_1 fl_X5_15 rfl rfl ?_
  refine w_bipush dX5_add_4 bp_120 ?_
  refine w2_icmp_ge (t := 29) dX5_add_6 (by decide) (fun hz1 => absurd (by rw [ht]; exact (nI_ltI (a := t) (b := 120) (by omega) (by decide)).mpr ht2) hz1) (fun hz1 => ?_)
  refine w_aload_n dX5_add_9 rfl ?_
  refine w_getR (t := 8) dX5_add_10 fl_X5_9 rfl (by decide) (by decide) rfl ?_
  refine w_aload_n dX5_add_13 rfl ?_
  refine w_getI dX5_add_14 fl_X5_15 rfl rfl ?_
  refine w_eqi ht ?_
  · skip
    refine w_iload_n dX5_add_17 rfl ?_
    refine w_iast (j := t) dX5_add_18 rfl (by decide) rfl (show t < 120 by omega) ?_
    try simp only [wI_C, setC_at, setC_ne (show (5 : Nat) ≠ 8 by decide)]
    refine w_aload_n dX5_add_19 rfl ?_
    refine w_dup dX5_add_20 rfl ?_
    refine w_getI dX5_add_21 fl_X5_15 rfl rfl ?_
    refine w_iconst dX5_add_24 ic_1 ?_
    refine w_iadd dX5_add_25 ?_
    refine w_putI dX5_add_26 fl_X5_15 rfl rfl (by decide +kernel) ?_
    try simp only [wI_C, setC_at, setC_ne (show (5 : Nat) ≠ 8 by decide)]
    refine w_vret dX5_add_29 rfl ?_
    exact ⟨rfl, by rw [ht, nI_1]⟩
