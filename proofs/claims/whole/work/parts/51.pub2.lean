/-! hours, days, now -/
theorem h5_pass {x : Int32} {j : Nat} (h : iB x 0 9999) (hj : j ≤ 100) (hz : ¬ 9999 < x + nI j) : iB (x + nI j) 0 9999 := by
  have q0 := (sum_nn h (iB.of (k := j) (b := 100) hj (by decide)) (by decide)).2
  refine ⟨q0.1, ?_⟩
  rw [Int32.lt_iff_toInt_lt, show (9999 : Int32).toInt = 9999 from rfl] at hz
  omega
theorem RV.days {f : Nat → Int32} {n : Nat} (h : RV f n) : ∀ i, RV (p_days f n i) n
  | 0 => h
  | i + 1 => ((RV.days h i).draw).pass 24
theorem p_draw_5 (f : Nat → Int32) : p_draw f 5 = f 5 := by
  rw [p_draw_eq, updN (by decide), updN (by decide)]
theorem p_days_5 (f : Nat → Int32) (n : Nat) : ∀ i, p_days f n i 5 = f 5 + nI (i * 24)
  | 0 => by rw [Nat.zero_mul, nI_0, Int32.add_zero]; rfl
  | i + 1 => by rw [p_days, p_pass_5, p_draw_5, p_days_5 f n i, Int32.add_assoc, nI_add, Nat.succ_mul]
theorem nI_m24 (j : Nat) : 24 * nI j = nI (j * 24) := by
  rw [Int32.mul_comm, show (24 : Int32) = nI 24 from rfl]
  exact (Int32.ofNat_mul j 24).symm
set_option maxRecDepth 100000 in
set_option maxHeartbeats 800000 in
theorem k_hours (G : GT) (σ : Sg) (μ : MO) (n : Nat) (hC : RC σ μ n) (q : Int32) : Ev G mX6_hours [.ref 0, .int q] σ (CQ σ (M_hours μ q)) := by
  have h8 := hC.rv.le
  have hn := hC.rv.n
  have hnR := hC.nn
  have hr1 : ∀ j, j < 8 → kd (σ.2.2 12 j) = 3 := hC.p1.kd pp1
  refine Ev.ofL (m := 0) (L := [some (.ref 0), some (.int q)]) rfl (Nat.le_of_ble_eq_true rfl) rfl rfl ?_
  refine w_iload_n dX6_hours_0 rfl ?_
  refine w_iconst dX6_hours_1 ic_1 ?_
  refine w_bipush dX6_hours_2 bp_100 ?_
  refine w_callSi dX6_hours_4 ml_X6_66 ms_X6_isWithin rfl (c_isWithin G _ _ _ _) rfl rfl (Nat.le_of_ble_eq_true rfl) ?_
  refine w_if_ne (t := 17) dX6_hours_7 (by decide) (fun hz1 => ?_) (fun hz1 => ?_)
  · skip
    refine w_aload_n dX6_hours_17 rfl ?_
    refine w_getR (t := 1) dX6_hours_18 fl_X6_10 rfl (by decide) (by decide) rfl ?_
    refine w_getI dX6_hours_21 fl_X6_153 rfl rfl ?_
    refine w_eqi hC.rp.hr ?_
    refine w_iload_n dX6_hours_24 rfl ?_
    refine w_iadd dX6_hours_25 ?_
    refine w_sipush dX6_hours_26 sp_9999 ?_
    refine w2_icmp_le (t := 39) dX6_hours_29 (by decide) (fun hz2 => ?_) (fun hz2 => ?_)
    · skip
      obtain ⟨j, hj, rfl⟩ := in_0 (m := 100) (in_low hz1 (by decide)) rfl (by decide)
      have hcj : (nI j).toNatClampNeg = j := nI_clamp (by omega)
      · skip
        refine w_aload_n dX6_hours_39 rfl ?_
        refine w_getR (t := 1) dX6_hours_40 fl_X6_10 rfl (by decide) (by decide) rfl ?_
        refine w_iload_n dX6_hours_43 rfl ?_
        refine w_callVqv dX6_hours_44 ml_X6_157 mv_X1_goHours rfl rfl (by decide) rfl (q1_goHours G _ 1 pp1 hC.rp hC.rv hC.p1 j (by omega)) rfl rfl (Nat.le_of_ble_eq_true rfl) (fun τ hq => ?_)
        refine w_aload_n dX6_hours_47 rfl ?_
        refine w_getR (t := 1) dX6_hours_48 fl_X6_10 rfl (by decide) (by decide) rfl ?_
        refine w_iconst dX6_hours_51 ic_5 ?_
        refine w_callVi dX6_hours_52 ml_X6_160 mv_X1_partsOfAll rfl rfl (by decide) rfl (q1_parts G _ 1 pp1 hq.1 h8 hq.2.1 5 (by decide)) rfl rfl (Nat.le_of_ble_eq_true rfl) ?_
        refine w_iret dX6_hours_55 rfl ?_
        exact CQ.row hC hq (hC.rv.pass j) (by rw [p_pass_5]; exact h5_pass hC.h5 hj hz2) (by simp only [M_hours, hnR, hcj, if_false, eq_false hz1, eq_false hz2])
    · skip
      refine w_aload_n dX6_hours_32 rfl ?_
      refine w_ldc dX6_hours_33 kc_X6_156 ?_
      refine w_callVi dX6_hours_35 ml_X6_51 mv_X6_tell rfl rfl (by decide) rfl (c_tell G _ _ 4 (by decide) (by decide)) rfl rfl (Nat.le_of_ble_eq_true rfl) ?_
      refine w_iret dX6_hours_38 rfl ?_
      first
      | exact CQ.fnd hC Mo.rfl (by decide) (by simp only [M_hours, hnR, if_true, if_false, eq_false hz1, eq_true hz2])
      | exact CQ.same hC Mo.rfl (by simp only [M_hours, hnR, if_true, if_false, eq_false hz1, eq_true hz2])
  · skip
    refine w_aload_n dX6_hours_10 rfl ?_
    refine w_ldc dX6_hours_11 kc_X6_50 ?_
    refine w_callVi dX6_hours_13 ml_X6_51 mv_X6_tell rfl rfl (by decide) rfl (c_tell G _ _ 0 (by decide) (by decide)) rfl rfl (Nat.le_of_ble_eq_true rfl) ?_
    refine w_iret dX6_hours_16 rfl ?_
    first
    | exact CQ.fnd hC Mo.rfl (by decide) (by simp only [M_hours, hnR, if_true, if_false, eq_true hz1])
    | exact CQ.same hC Mo.rfl (by simp only [M_hours, hnR, if_true, if_false, eq_true hz1])
set_option maxRecDepth 100000 in
set_option maxHeartbeats 800000 in
theorem k_days (G : GT) (σ : Sg) (μ : MO) (n : Nat) (hC : RC σ μ n) (q : Int32) : Ev G mX6_days [.ref 0, .int q] σ (CQ σ (M_days μ q)) := by
  have h8 := hC.rv.le
  have hn := hC.rv.n
  have hnR := hC.nn
  have hr1 : ∀ j, j < 8 → kd (σ.2.2 12 j) = 3 := hC.p1.kd pp1
  refine Ev.ofL (m := 1) (L := [some (.ref 0), some (.int q), none]) rfl (Nat.le_of_ble_eq_true rfl) rfl rfl ?_
  refine w_iload_n dX6_days_0 rfl ?_
  refine w_iconst dX6_days_1 ic_1 ?_
  refine w_iconst dX6_days_2 ic_4 ?_
  refine w_callSi dX6_days_3 ml_X6_66 ms_X6_isWithin rfl (c_isWithin G _ _ _ _) rfl rfl (Nat.le_of_ble_eq_true rfl) ?_
  refine w_if_ne (t := 16) dX6_days_6 (by decide) (fun hz1 => ?_) (fun hz1 => ?_)
  · skip
    refine w_aload_n dX6_days_16 rfl ?_
    refine w_getR (t := 1) dX6_days_17 fl_X6_10 rfl (by decide) (by decide) rfl ?_
    refine w_getI dX6_days_20 fl_X6_153 rfl rfl ?_
    refine w_eqi hC.rp.hr ?_
    refine w_iload_n dX6_days_23 rfl ?_
    refine w_bipush dX6_days_24 bp_24 ?_
    refine w_imul dX6_days_26 ?_
    refine w_eqi (Int32.mul_comm _ _) ?_
    refine w_iadd dX6_days_27 ?_
    refine w_sipush dX6_days_28 sp_9999 ?_
    refine w2_icmp_le (t := 41) dX6_days_31 (by decide) (fun hz2 => ?_) (fun hz2 => ?_)
    · skip
      obtain ⟨j, hj, rfl⟩ := in_0 (m := 4) (in_low hz1 (by decide)) rfl (by decide)
      have hcj : (nI j).toNatClampNeg = j := nI_clamp (by omega)
      · skip
        refine w_iconst dX6_days_41 ic_0 ?_
        refine w_istore_n dX6_days_42 (by decide) rfl rfl ?_
        dsimp only [List.set]
        have lp : ∀ (m : Nat) (i : Nat) (τ : Sg), j - i < m → i ≤ j → Pl σ τ 1 (p_days μ.1 n i) n → WP G mX6_days 43 [some (.ref 0), some (.int (nI j)), some (.int (nI i))] [] (τ) (CQ σ (M_days μ (nI j))) := by
          intro m
          induction m with
          | zero => intro i τ hmz; exact absurd hmz (Nat.not_lt_zero _)
          | succ m ih =>
            intro i τ hmz hi ht
            refine w_iload_n dX6_days_43 rfl ?_
            refine w_iload_n dX6_days_44 rfl ?_
            refine w2_icmp_ge (t := 70) dX6_days_45 (by decide) (fun hz3 => ?_) (fun hz3 => ?_)
            · skip
              have hge := nlt_nI (by omega) (by omega) hz3
              have hen : i = j := by omega
              subst hen
              refine w_aload_n dX6_days_70 rfl ?_
              refine w_getR (t := 1) dX6_days_71 fl_X6_10 rfl (by decide) (by decide) rfl ?_
              refine w_iconst dX6_days_74 ic_5 ?_
              refine w_callVi dX6_days_75 ml_X6_160 mv_X1_partsOfAll rfl rfl (by decide) rfl (q1_parts G _ 1 pp1 ht.1 h8 ht.2.1 5 (by decide)) rfl rfl (Nat.le_of_ble_eq_true rfl) ?_
              refine w_iret dX6_days_78 rfl ?_
              have hz := hz2
              rw [nI_m24] at hz
              exact CQ.row hC ht (hC.rv.days i) (by rw [p_days_5]; exact h5_pass hC.h5 (by omega) hz) (by simp only [M_days, hnR, hcj, if_false, eq_false hz1, eq_false hz2])
            · skip
              have hlt := lt_nI (by omega) (by omega) hz3
              refine w_aload_n dX6_days_48 rfl ?_
              refine w_getR (t := 1) dX6_days_49 fl_X6_10 rfl (by decide) (by decide) rfl ?_
              refine w_callVqv dX6_days_52 ml_X6_163 mv_X1_drawDrift rfl rfl (by decide) rfl (q1_drawDrift G _ 1 pp1 ht.1 (hC.rv.days i) ht.2.1) rfl rfl (Nat.le_of_ble_eq_true rfl) (fun τ1 h1 => ?_)
              refine w_aload_n dX6_days_55 rfl ?_
              refine w_getR (t := 1) dX6_days_56 fl_X6_10 rfl (by decide) (by decide) rfl ?_
              refine w_bipush dX6_days_59 bp_24 ?_
              refine w_callVqv dX6_days_61 ml_X6_157 mv_X1_goHours rfl rfl (by decide) rfl (q1_goHours G _ 1 pp1 h1.1 (hC.rv.days i).draw h1.2.1 24 (by decide)) rfl rfl (Nat.le_of_ble_eq_true rfl) (fun τ2 h2 => ?_)
              refine w_iincN (a := i) (b := 1) dX6_days_64 rfl ic_1 (by decide) rfl rfl ?_
              dsimp only [List.set]
              refine w_goto (t := 43) dX6_days_67 (by decide) ?_
              exact ih (i + 1) τ2 (by omega) (by omega) (ht.trans (h1.trans h2))
        exact lp (j + 1) 0 σ (by omega) (by omega) ⟨hC.rp, hC.p1, Fp.rfl⟩
    · skip
      refine w_aload_n dX6_days_34 rfl ?_
      refine w_ldc dX6_days_35 kc_X6_156 ?_
      refine w_callVi dX6_days_37 ml_X6_51 mv_X6_tell rfl rfl (by decide) rfl (c_tell G _ _ 4 (by decide) (by decide)) rfl rfl (Nat.le_of_ble_eq_true rfl) ?_
      refine w_iret dX6_days_40 rfl ?_
      first
      | exact CQ.fnd hC Mo.rfl (by decide) (by simp only [M_days, hnR, if_true, if_false, eq_false hz1, eq_true hz2])
      | exact CQ.same hC Mo.rfl (by simp only [M_days, hnR, if_true, if_false, eq_false hz1, eq_true hz2])
  · skip
    refine w_aload_n dX6_days_9 rfl ?_
    refine w_ldc dX6_days_10 kc_X6_50 ?_
    refine w_callVi dX6_days_12 ml_X6_51 mv_X6_tell rfl rfl (by decide) rfl (c_tell G _ _ 0 (by decide) (by decide)) rfl rfl (Nat.le_of_ble_eq_true rfl) ?_
    refine w_iret dX6_days_15 rfl ?_
    first
    | exact CQ.fnd hC Mo.rfl (by decide) (by simp only [M_days, hnR, if_true, if_false, eq_true hz1])
    | exact CQ.same hC Mo.rfl (by simp only [M_days, hnR, if_true, if_false, eq_true hz1])
set_option maxRecDepth 100000 in
set_option maxHeartbeats 800000 in
theorem k_seed (G : GT) (σ : Sg) (μ : MO) (n : Nat) (hC : RC σ μ n) (v : Int32) : Ev G mX6_seed [.ref 0, .int v] σ (CQ σ (M_seed μ v)) := by
  have h8 := hC.rv.le
  have hn := hC.rv.n
  have hnR := hC.nn
  have hr1 : ∀ j, j < 8 → kd (σ.2.2 12 j) = 3 := hC.p1.kd pp1
  refine Ev.ofL (m := 1) (L := [some (.ref 0), some (.int v), none]) rfl (Nat.le_of_ble_eq_true rfl) rfl rfl ?_
  refine w_aload_n dX6_seed_0 rfl ?_
  refine w_getR (t := 1) dX6_seed_1 fl_X6_10 rfl (by decide) (by decide) rfl ?_
  refine w_getI dX6_seed_4 fl_X6_166 rfl rfl ?_
  refine w_eqi hC.rp.z ?_
  refine w_istore_n dX6_seed_7 (by decide) rfl rfl ?_
  dsimp only [List.set]
  refine w_aload_n dX6_seed_8 rfl ?_
  refine w_getR (t := 1) dX6_seed_9 fl_X6_10 rfl (by decide) (by decide) rfl ?_
  refine w_iload_n dX6_seed_12 rfl ?_
  refine w_putI dX6_seed_13 fl_X6_166 rfl rfl (by decide +kernel) ?_
  refine w_iload_n dX6_seed_16 rfl ?_
  refine w_iret dX6_seed_17 rfl ?_
  rw [wI_C]
  refine CQ.row (f := upd μ.1 7 v) (m := n) hC ⟨hC.rp.own pp1 hC.p1 h8 (Nat.le_refl _) ?_ ?_ ?_ ?_ (fun j hj => updN (by omega)), hC.p1.eq (fun _ => rfl), Fp.setC (Or.inl rfl)⟩ (hC.rv.cg (fun j _ _ h7 => updN h7)) (by rw [updN (by decide)]; exact hC.h5) rfl
  · rw [updN (by decide)]; exact hC.rp.n
  · rw [updN (by decide), updN (by decide)]; exact hC.rp.hr
  · rw [updN (by decide), updN (by decide)]; exact hC.rp.st
  · rw [updS, updS]
set_option maxRecDepth 100000 in
set_option maxHeartbeats 800000 in
theorem k_now (G : GT) (σ : Sg) (μ : MO) (n : Nat) (hC : RC σ μ n) (what : Int32) : Ev G mX6_now [.ref 0, .int what] σ (CQ σ (M_now μ what)) := by
  have h8 := hC.rv.le
  have hn := hC.rv.n
  have hnR := hC.nn
  have hr1 : ∀ j, j < 8 → kd (σ.2.2 12 j) = 3 := hC.p1.kd pp1
  refine Ev.ofL (m := 0) (L := [some (.ref 0), some (.int what)]) rfl (Nat.le_of_ble_eq_true rfl) rfl rfl ?_
  refine w_iload_n dX6_now_0 rfl ?_
  refine sw_0_5 (fun hz1 => ?_) (fun hz1 => ?_) (fun hz1 => ?_) (fun hz1 => ?_) (fun hz1 => ?_) (fun hz1 => ?_) (fun hz1 => ?_)
  · skip
    refine w_tableIn (t := 40) (off := 39) dX6_now_1 (by rw [hz1]; decide) (by rw [hz1]; decide) (by rw [hz1]; rfl) (by decide) ?_
    refine w_aload_n dX6_now_40 rfl ?_
    refine w_getR (t := 1) dX6_now_41 fl_X6_10 rfl (by decide) (by decide) rfl ?_
    refine w_getI dX6_now_44 fl_X6_153 rfl rfl ?_
    refine w_eqi hC.rp.hr ?_
    refine w_iret dX6_now_47 rfl ?_
    first
    | exact CQ.fnd hC Mo.rfl (by decide) (by simp only [M_now, hnR, if_true, if_false, eq_true hz1, eq_false (show ¬ what = 1 by rw [hz1]; decide), eq_false (show ¬ what = 2 by rw [hz1]; decide), eq_false (show ¬ what = 3 by rw [hz1]; decide), eq_false (show ¬ what = 4 by rw [hz1]; decide), eq_false (show ¬ what = 5 by rw [hz1]; decide)])
    | exact CQ.same hC Mo.rfl (by simp only [M_now, hnR, if_true, if_false, eq_true hz1, eq_false (show ¬ what = 1 by rw [hz1]; decide), eq_false (show ¬ what = 2 by rw [hz1]; decide), eq_false (show ¬ what = 3 by rw [hz1]; decide), eq_false (show ¬ what = 4 by rw [hz1]; decide), eq_false (show ¬ what = 5 by rw [hz1]; decide)])
  · skip
    refine w_tableIn (t := 48) (off := 47) dX6_now_1 (by rw [hz1]; decide) (by rw [hz1]; decide) (by rw [hz1]; rfl) (by decide) ?_
    refine w_aload_n dX6_now_48 rfl ?_
    refine w_getR (t := 1) dX6_now_49 fl_X6_10 rfl (by decide) (by decide) rfl ?_
    refine w_callVi dX6_now_52 ml_X6_108 mv_X1_clock rfl rfl (by decide) rfl (q1_clock G _ 1 pp1 hC.rp hC.p1) rfl rfl (Nat.le_of_ble_eq_true rfl) ?_
    refine w_iret dX6_now_55 rfl ?_
    first
    | exact CQ.fnd hC Mo.rfl (by decide) (by simp only [M_now, hnR, if_true, if_false, eq_true hz1, eq_false (show ¬ what = 0 by rw [hz1]; decide), eq_false (show ¬ what = 2 by rw [hz1]; decide), eq_false (show ¬ what = 3 by rw [hz1]; decide), eq_false (show ¬ what = 4 by rw [hz1]; decide), eq_false (show ¬ what = 5 by rw [hz1]; decide)])
    | exact CQ.same hC Mo.rfl (by simp only [M_now, hnR, if_true, if_false, eq_true hz1, eq_false (show ¬ what = 0 by rw [hz1]; decide), eq_false (show ¬ what = 2 by rw [hz1]; decide), eq_false (show ¬ what = 3 by rw [hz1]; decide), eq_false (show ¬ what = 4 by rw [hz1]; decide), eq_false (show ¬ what = 5 by rw [hz1]; decide)])
  · skip
    refine w_tableIn (t := 56) (off := 55) dX6_now_1 (by rw [hz1]; decide) (by rw [hz1]; decide) (by rw [hz1]; rfl) (by decide) ?_
    refine w_aload_n dX6_now_56 rfl ?_
    refine w_getR (t := 1) dX6_now_57 fl_X6_10 rfl (by decide) (by decide) rfl ?_
    refine w_iconst dX6_now_60 ic_5 ?_
    refine w_callVi dX6_now_61 ml_X6_160 mv_X1_partsOfAll rfl rfl (by decide) rfl (q1_parts G _ 1 pp1 hC.rp h8 hC.p1 5 (by decide)) rfl rfl (Nat.le_of_ble_eq_true rfl) ?_
    refine w_iret dX6_now_64 rfl ?_
    first
    | exact CQ.fnd hC Mo.rfl (by decide) (by simp only [M_now, hnR, if_true, if_false, eq_true hz1, eq_false (show ¬ what = 0 by rw [hz1]; decide), eq_false (show ¬ what = 1 by rw [hz1]; decide), eq_false (show ¬ what = 3 by rw [hz1]; decide), eq_false (show ¬ what = 4 by rw [hz1]; decide), eq_false (show ¬ what = 5 by rw [hz1]; decide)])
    | exact CQ.same hC Mo.rfl (by simp only [M_now, hnR, if_true, if_false, eq_true hz1, eq_false (show ¬ what = 0 by rw [hz1]; decide), eq_false (show ¬ what = 1 by rw [hz1]; decide), eq_false (show ¬ what = 3 by rw [hz1]; decide), eq_false (show ¬ what = 4 by rw [hz1]; decide), eq_false (show ¬ what = 5 by rw [hz1]; decide)])
  · skip
    refine w_tableIn (t := 65) (off := 64) dX6_now_1 (by rw [hz1]; decide) (by rw [hz1]; decide) (by rw [hz1]; rfl) (by decide) ?_
    refine w_aload_n dX6_now_65 rfl ?_
    refine w_getR (t := 1) dX6_now_66 fl_X6_10 rfl (by decide) (by decide) rfl ?_
    refine w_bipush dX6_now_69 bp_6 ?_
    refine w_callVi dX6_now_71 ml_X6_160 mv_X1_partsOfAll rfl rfl (by decide) rfl (q1_parts G _ 1 pp1 hC.rp h8 hC.p1 6 (by decide)) rfl rfl (Nat.le_of_ble_eq_true rfl) ?_
    refine w_iret dX6_now_74 rfl ?_
    first
    | exact CQ.fnd hC Mo.rfl (by decide) (by simp only [M_now, hnR, if_true, if_false, eq_true hz1, eq_false (show ¬ what = 0 by rw [hz1]; decide), eq_false (show ¬ what = 1 by rw [hz1]; decide), eq_false (show ¬ what = 2 by rw [hz1]; decide), eq_false (show ¬ what = 4 by rw [hz1]; decide), eq_false (show ¬ what = 5 by rw [hz1]; decide)])
    | exact CQ.same hC Mo.rfl (by simp only [M_now, hnR, if_true, if_false, eq_true hz1, eq_false (show ¬ what = 0 by rw [hz1]; decide), eq_false (show ¬ what = 1 by rw [hz1]; decide), eq_false (show ¬ what = 2 by rw [hz1]; decide), eq_false (show ¬ what = 4 by rw [hz1]; decide), eq_false (show ¬ what = 5 by rw [hz1]; decide)])
  · skip
    refine w_tableIn (t := 75) (off := 74) dX6_now_1 (by rw [hz1]; decide) (by rw [hz1]; decide) (by rw [hz1]; rfl) (by decide) ?_
    refine w_aload_n dX6_now_75 rfl ?_
    refine w_getR (t := 1) dX6_now_76 fl_X6_10 rfl (by decide) (by decide) rfl ?_
    refine w_getI dX6_now_79 fl_X6_169 rfl rfl ?_
    refine w_eqi hC.rp.st ?_
    refine w_iret dX6_now_82 rfl ?_
    first
    | exact CQ.fnd hC Mo.rfl (by decide) (by simp only [M_now, hnR, if_true, if_false, eq_true hz1, eq_false (show ¬ what = 0 by rw [hz1]; decide), eq_false (show ¬ what = 1 by rw [hz1]; decide), eq_false (show ¬ what = 2 by rw [hz1]; decide), eq_false (show ¬ what = 3 by rw [hz1]; decide), eq_false (show ¬ what = 5 by rw [hz1]; decide)])
    | exact CQ.same hC Mo.rfl (by simp only [M_now, hnR, if_true, if_false, eq_true hz1, eq_false (show ¬ what = 0 by rw [hz1]; decide), eq_false (show ¬ what = 1 by rw [hz1]; decide), eq_false (show ¬ what = 2 by rw [hz1]; decide), eq_false (show ¬ what = 3 by rw [hz1]; decide), eq_false (show ¬ what = 5 by rw [hz1]; decide)])
  · skip
    refine w_tableIn (t := 83) (off := 82) dX6_now_1 (by rw [hz1]; decide) (by rw [hz1]; decide) (by rw [hz1]; rfl) (by decide) ?_
    refine w_aload_n dX6_now_83 rfl ?_
    refine w_getR (t := 1) dX6_now_84 fl_X6_10 rfl (by decide) (by decide) rfl ?_
    refine w_callVi dX6_now_87 ml_X6_172 mv_X1_paidRods rfl rfl (by decide) rfl (q1_paidRods G _ 1 pp1 hC.rp hC.rv hC.p1) rfl rfl (Nat.le_of_ble_eq_true rfl) ?_
    refine w_iret dX6_now_90 rfl ?_
    first
    | exact CQ.fnd hC Mo.rfl (by decide) (by simp only [M_now, hnR, if_true, if_false, eq_true hz1, eq_false (show ¬ what = 0 by rw [hz1]; decide), eq_false (show ¬ what = 1 by rw [hz1]; decide), eq_false (show ¬ what = 2 by rw [hz1]; decide), eq_false (show ¬ what = 3 by rw [hz1]; decide), eq_false (show ¬ what = 4 by rw [hz1]; decide)])
    | exact CQ.same hC Mo.rfl (by simp only [M_now, hnR, if_true, if_false, eq_true hz1, eq_false (show ¬ what = 0 by rw [hz1]; decide), eq_false (show ¬ what = 1 by rw [hz1]; decide), eq_false (show ¬ what = 2 by rw [hz1]; decide), eq_false (show ¬ what = 3 by rw [hz1]; decide), eq_false (show ¬ what = 4 by rw [hz1]; decide)])
  · skip
    refine w_tableOut (t := 91) dX6_now_1 hz1.1 (by decide) ?_
    refine w_aload_n dX6_now_91 rfl ?_
    refine w_ldc dX6_now_92 kc_X6_50 ?_
    refine w_callVi dX6_now_94 ml_X6_51 mv_X6_tell rfl rfl (by decide) rfl (c_tell G _ _ 0 (by decide) (by decide)) rfl rfl (Nat.le_of_ble_eq_true rfl) ?_
    refine w_iret dX6_now_97 rfl ?_
    first
    | exact CQ.fnd hC Mo.rfl (by decide) (by simp only [M_now, hnR, if_true, if_false, eq_false hz1.2.1, eq_false hz1.2.2.1, eq_false hz1.2.2.2.1, eq_false hz1.2.2.2.2.1, eq_false hz1.2.2.2.2.2.1, eq_false hz1.2.2.2.2.2.2])
    | exact CQ.same hC Mo.rfl (by simp only [M_now, hnR, if_true, if_false, eq_false hz1.2.1, eq_false hz1.2.2.1, eq_false hz1.2.2.2.1, eq_false hz1.2.2.2.2.1, eq_false hz1.2.2.2.2.2.1, eq_false hz1.2.2.2.2.2.2])
set_option maxRecDepth 100000 in
set_option maxHeartbeats 800000 in
theorem k_struck (G : GT) (σ : Sg) (μ : MO) (n : Nat) (hC : RC σ μ n) (place : Int32) : Ev G mX6_struck [.ref 0, .int place] σ (CQ σ (M_struck μ place)) := by
  have h8 := hC.rv.le
  have hn := hC.rv.n
  have hnR := hC.nn
  have hr1 : ∀ j, j < 8 → kd (σ.2.2 12 j) = 3 := hC.p1.kd pp1
  refine Ev.ofL (m := 0) (L := [some (.ref 0), some (.int place)]) rfl (Nat.le_of_ble_eq_true rfl) rfl rfl ?_
  refine w_iload_n dX6_struck_0 rfl ?_
  refine w_callSi dX6_struck_1 ml_X6_74 ms_X6_isPlace rfl (c_isPlace G _ _) rfl rfl (Nat.le_of_ble_eq_true rfl) ?_
  refine w_if_ne (t := 14) dX6_struck_4 (by decide) (fun hz1 => ?_) (fun hz1 => ?_)
  · skip
    refine w_aload_n dX6_struck_14 rfl ?_
    refine w_getR (t := 1) dX6_struck_15 fl_X6_10 rfl (by decide) (by decide) rfl ?_
    refine w_iload_n dX6_struck_18 rfl ?_
    refine w_callVi dX6_struck_19 ml_X6_185 mv_X1_targetFrom rfl rfl (by decide) rfl (q1_target G _ 1 pp1 hC.rp hC.rv hC.p1 _ (iB.in hz1)) rfl rfl (Nat.le_of_ble_eq_true rfl) ?_
    refine w_iret dX6_struck_22 rfl ?_
    first
    | exact CQ.fnd hC Mo.rfl (by decide) (by simp only [M_struck, hnR, if_true, if_false, eq_false hz1])
    | exact CQ.same hC Mo.rfl (by simp only [M_struck, hnR, if_true, if_false, eq_false hz1])
  · skip
    refine w_aload_n dX6_struck_7 rfl ?_
    refine w_ldc dX6_struck_8 kc_X6_50 ?_
    refine w_callVi dX6_struck_10 ml_X6_51 mv_X6_tell rfl rfl (by decide) rfl (c_tell G _ _ 0 (by decide) (by decide)) rfl rfl (Nat.le_of_ble_eq_true rfl) ?_
    refine w_iret dX6_struck_13 rfl ?_
    first
    | exact CQ.fnd hC Mo.rfl (by decide) (by simp only [M_struck, hnR, if_true, if_false, eq_true hz1])
    | exact CQ.same hC Mo.rfl (by simp only [M_struck, hnR, if_true, if_false, eq_true hz1])
set_option maxRecDepth 100000 in
set_option maxHeartbeats 800000 in
theorem k_reach (G : GT) (σ : Sg) (μ : MO) (n : Nat) (hC : RC σ μ n) (r : Int32) : Ev G mX6_reach [.ref 0, .int r] σ (CQ σ (M_reach μ r)) := by
  have h8 := hC.rv.le
  have hn := hC.rv.n
  have hnR := hC.nn
  have hr1 : ∀ j, j < 8 → kd (σ.2.2 12 j) = 3 := hC.p1.kd pp1
  refine Ev.ofL (m := 2) (L := [some (.ref 0), some (.int r), none, none]) rfl (Nat.le_of_ble_eq_true rfl) rfl rfl ?_
  refine w_aload_n dX6_reach_0 rfl ?_
  refine w_iload_n dX6_reach_1 rfl ?_
  refine w_callVi dX6_reach_2 ml_X6_90 mv_X6_isRod rfl rfl (by decide) rfl (k_isRod G _ μ n hC _) rfl rfl (Nat.le_of_ble_eq_true rfl) ?_
  refine w_if_ne (t := 15) dX6_reach_5 (by decide) (fun hz1 => ?_) (fun hz1 => ?_)
  · skip
    obtain ⟨k, hk, rfl⟩ := rod_of hz1 hn h8
    have hck : (nI k).toNatClampNeg = k := nI_clamp (by omega)
    · skip
      refine w_iconst dX6_reach_15 ic_0 ?_
      refine w_istore_n dX6_reach_16 (by decide) rfl rfl ?_
      dsimp only [List.set]
      refine w_iconst dX6_reach_17 ic_0 ?_
      refine w_istore_n dX6_reach_18 (by decide) rfl rfl ?_
      dsimp only [List.set]
      have lp : ∀ (m : Nat) (i : Nat), 16 - i < m → i ≤ 16 → WP G mX6_reach 19 [some (.ref 0), some (.int (nI k)), some (.int (p_reach μ.1 n k i)), some (.int (nI i))] [] (σ) (CQ σ (M_reach μ (nI k))) := by
        intro m
        induction m with
        | zero => intro i hmz; exact absurd hmz (Nat.not_lt_zero _)
        | succ m ih =>
          intro i hmz hi
          refine w_iload_n dX6_reach_19 rfl ?_
          refine w_bipush dX6_reach_20 bp_16 ?_
          refine w2_icmp_ge (t := 49) dX6_reach_22 (by decide) (fun hz2 => ?_) (fun hz2 => ?_)
          · skip
            have hge := nlt_nI (n := 16) (by omega) (by decide) hz2
            have hen : i = 16 := by omega
            subst hen
            refine w_iload_n dX6_reach_49 rfl ?_
            refine w_iret dX6_reach_50 rfl ?_
            first
            | exact CQ.fnd hC Mo.rfl (by decide) (by simp only [M_reach, hnR, if_true, if_false, eq_false hz1, hck])
            | exact CQ.same hC Mo.rfl (by simp only [M_reach, hnR, if_true, if_false, eq_false hz1, hck])
          · skip
            have hlt := lt_nI (n := 16) (by omega) (by decide) hz2
            refine w_aload_n dX6_reach_25 rfl ?_
            refine w_getR (t := 1) dX6_reach_26 fl_X6_10 rfl (by decide) (by decide) rfl ?_
            refine w_iload_n dX6_reach_29 rfl ?_
            refine w_callVi dX6_reach_30 ml_X6_185 mv_X1_targetFrom rfl rfl (by decide) rfl (q1_target G _ 1 pp1 hC.rp hC.rv hC.p1 _ (iB.of (b := 15) (by omega) (by decide))) rfl rfl (Nat.le_of_ble_eq_true rfl) ?_
            refine w_iload_n dX6_reach_33 rfl ?_
            refine w_icmp_ne (t := 43) dX6_reach_34 (by decide) (fun hz3 => ?_) (fun hz3 => ?_)
            · skip
              have cc := eq_false hz3
              refine w_iincN (a := i) (b := 1) dX6_reach_43 rfl ic_1 (by decide) rfl rfl ?_
              dsimp only [List.set]
              refine w_goto (t := 19) dX6_reach_46 (by decide) ?_
              have q0 := ih (i + 1) (by omega) (by omega)
              simp only [p_reach, cc, if_true, if_false, Int32.or_zero] at q0
              exact q0
            · skip
              have cc := eq_true hz3
              refine w_iload_n dX6_reach_37 rfl ?_
              refine w_iconst dX6_reach_38 ic_1 ?_
              refine w_iload_n dX6_reach_39 rfl ?_
              refine w_ishl dX6_reach_40 ?_
              refine w_ior dX6_reach_41 ?_
              refine w_istore_n dX6_reach_42 (by decide) rfl rfl ?_
              dsimp only [List.set]
              
              refine w_iincN (a := i) (b := 1) dX6_reach_43 rfl ic_1 (by decide) rfl rfl ?_
              dsimp only [List.set]
              refine w_goto (t := 19) dX6_reach_46 (by decide) ?_
              have q0 := ih (i + 1) (by omega) (by omega)
              simp only [p_reach, cc, if_true, if_false, Int32.or_zero] at q0
              exact q0
      exact lp 17 0 (by omega) (by omega)
  · skip
    refine w_aload_n dX6_reach_8 rfl ?_
    refine w_ldc dX6_reach_9 kc_X6_50 ?_
    refine w_callVi dX6_reach_11 ml_X6_51 mv_X6_tell rfl rfl (by decide) rfl (c_tell G _ _ 0 (by decide) (by decide)) rfl rfl (Nat.le_of_ble_eq_true rfl) ?_
    refine w_iret dX6_reach_14 rfl ?_
    first
    | exact CQ.fnd hC Mo.rfl (by decide) (by simp only [M_reach, hnR, if_true, if_false, eq_true hz1])
    | exact CQ.same hC Mo.rfl (by simp only [M_reach, hnR, if_true, if_false, eq_true hz1])
set_option maxRecDepth 100000 in
set_option maxHeartbeats 800000 in
theorem k_raise (G : GT) (σ : Sg) (μ : MO) (n : Nat) (hC : RC σ μ n) : Ev G mX6_raiseGhost [.ref 0] σ (fun v τ => v = none ∧ Pl σ τ 2 μ.1 n) := by
  refine Ev.ofL (m := 0) (L := [some (.ref 0)]) rfl (Nat.le_of_ble_eq_true rfl) rfl rfl ?_
  refine w_aload_n dX6_raiseGhost_0 rfl ?_
  refine w_getR (t := 2) dX6_raiseGhost_1 fl_X6_16 rfl (by decide) (by decide) rfl ?_
  refine w_aload_n dX6_raiseGhost_4 rfl ?_
  refine w_getR (t := 1) dX6_raiseGhost_5 fl_X6_10 rfl (by decide) (by decide) rfl ?_
  refine w_callVqv dX6_raiseGhost_8 ml_X6_224 mv_X1_takeFrom rfl rfl (by decide) rfl (q1_takeFrom G _ 2 1 pp2 pp1 (by decide) hC.rp hC.rv.le hC.p2 hC.p1) rfl rfl (Nat.le_of_ble_eq_true rfl) (fun τ hq => ?_)
  refine w_vret dX6_raiseGhost_11 rfl ?_
  exact ⟨rfl, hq⟩
/-- from σ to τ the ghost alone has changed -/
def Gh (σ τ : Sg) : Prop := Fp 2 σ τ ∧ Pm τ 2
theorem Pl.gh {σ τ : Sg} {f : Nat → Int32} {n : Nat} (h : Pl σ τ 2 f n) : Gh σ τ := ⟨h.2.2, h.2.1⟩
theorem Gh.trans {a b c : Sg} (h : Gh a b) (k : Gh b c) : Gh a c := ⟨h.1.trans k.1, k.2⟩
theorem RC.gh {σ τ : Sg} {μ : MO} {n : Nat} (h : RC σ μ n) (k : Gh σ τ) : RC τ μ n := h.ghost k.1 k.2
theorem Gh.mo {σ τ : Sg} (h : Gh σ τ) : Mo σ τ := Mo.fp pp2 h.1
set_option maxRecDepth 100000 in
set_option maxHeartbeats 800000 in
theorem k_on_ (G : GT) (σ : Sg) (μ : MO) (n : Nat) (hC : RC σ μ n) (r q what : Int32) : Ev G mX6_on [.ref 0, .int r, .int q, .int what] σ (CQ σ (M_on μ r q what)) := by
  have h8 := hC.rv.le
  have hn := hC.rv.n
  have hnR := hC.nn
  have hr1 : ∀ j, j < 8 → kd (σ.2.2 12 j) = 3 := hC.p1.kd pp1
  refine Ev.ofL (m := 0) (L := [some (.ref 0), some (.int r), some (.int q), some (.int what)]) rfl (Nat.le_of_ble_eq_true rfl) rfl rfl ?_
  refine w_aload_n dX6_on_0 rfl ?_
  refine w_iload_n dX6_on_1 rfl ?_
  refine w_callVi dX6_on_2 ml_X6_90 mv_X6_isRod rfl rfl (by decide) rfl (k_isRod G _ μ n hC _) rfl rfl (Nat.le_of_ble_eq_true rfl) ?_
  refine w_if_eq (t := 27) dX6_on_5 (by decide) (fun hz1 => ?_) (fun hz1 => ?_)
  · skip
    refine w_aload_n dX6_on_27 rfl ?_
    refine w_ldc dX6_on_28 kc_X6_50 ?_
    refine w_callVi dX6_on_30 ml_X6_51 mv_X6_tell rfl rfl (by decide) rfl (c_tell G _ _ 0 (by decide) (by decide)) rfl rfl (Nat.le_of_ble_eq_true rfl) ?_
    refine w_iret dX6_on_33 rfl ?_
    first
    | exact CQ.fnd hC Mo.rfl (by decide) (by simp only [M_on, hnR, if_true, if_false, eq_true hz1])
    | exact CQ.same hC Mo.rfl (by simp only [M_on, hnR, if_true, if_false, eq_true hz1])
  · skip
    refine w_iload_n dX6_on_8 rfl ?_
    refine w_iconst dX6_on_9 ic_0 ?_
    refine w_bipush dX6_on_10 bp_100 ?_
    refine w_callSi dX6_on_12 ml_X6_66 ms_X6_isWithin rfl (c_isWithin G _ _ _ _) rfl rfl (Nat.le_of_ble_eq_true rfl) ?_
    refine w_if_eq (t := 27) dX6_on_15 (by decide) (fun hz2 => ?_) (fun hz2 => ?_)
    · skip
      refine w_aload_n dX6_on_27 rfl ?_
      refine w_ldc dX6_on_28 kc_X6_50 ?_
      refine w_callVi dX6_on_30 ml_X6_51 mv_X6_tell rfl rfl (by decide) rfl (c_tell G _ _ 0 (by decide) (by decide)) rfl rfl (Nat.le_of_ble_eq_true rfl) ?_
      refine w_iret dX6_on_33 rfl ?_
      first
      | exact CQ.fnd hC Mo.rfl (by decide) (by simp only [M_on, hnR, if_true, if_false, eq_false hz1, eq_true hz2])
      | exact CQ.same hC Mo.rfl (by simp only [M_on, hnR, if_true, if_false, eq_false hz1, eq_true hz2])
    · skip
      refine w_iload_n dX6_on_18 rfl ?_
      refine w_iconst dX6_on_19 ic_0 ?_
      refine w_iconst dX6_on_20 ic_1 ?_
      refine w_callSi dX6_on_21 ml_X6_66 ms_X6_isWithin rfl (c_isWithin G _ _ _ _) rfl rfl (Nat.le_of_ble_eq_true rfl) ?_
      refine w_if_ne (t := 34) dX6_on_24 (by decide) (fun hz3 => ?_) (fun hz3 => ?_)
      · skip
        obtain ⟨k, hk, rfl⟩ := rod_of hz1 hn h8
        have hck : (nI k).toNatClampNeg = k := nI_clamp (by omega)
        obtain ⟨j, hj, rfl⟩ := in_0 (m := 100) hz2 rfl (by decide)
        have hcj : (nI j).toNatClampNeg = j := nI_clamp (by omega)
        · skip
          refine w_aload_n dX6_on_34 rfl ?_
          refine w_callVqv dX6_on_35 ml_X6_175 mv_X6_raiseGhost rfl rfl (by decide) rfl (k_raise G _ μ n hC) rfl rfl (Nat.le_of_ble_eq_true rfl) (fun τ1 h1 => ?_)
          refine w_aload_n dX6_on_38 rfl ?_
          refine w_getR (t := 2) dX6_on_39 fl_X6_16 rfl (by decide) (by decide) rfl ?_
          refine w_iload_n dX6_on_42 rfl ?_
          refine w_callVqv dX6_on_43 ml_X6_157 mv_X1_goHours rfl rfl (by decide) rfl (q1_goHours G _ 2 pp2 h1.1 hC.rv h1.2.1 j (by omega)) rfl rfl (Nat.le_of_ble_eq_true rfl) (fun τ2 h2 => ?_)
          refine w_iload_n dX6_on_46 rfl ?_
          refine w_if_ne (t := 65) dX6_on_47 (by decide) (fun hz4 => ?_) (fun hz4 => ?_)
          · skip
            refine w_aload_n dX6_on_65 rfl ?_
            refine w_getR (t := 2) dX6_on_66 fl_X6_16 rfl (by decide) (by decide) rfl ?_
            refine w_getR (t := 13) dX6_on_69 fl_X6_93 rfl (by decide) (by decide) rfl ?_
            refine w_iload_n dX6_on_72 rfl ?_
            refine w_aald (j := k) dX6_on_73 rfl rfl (by omega) ?_
            refine w_getI dX6_on_74 fl_X6_178 (h2.2.1.kd pp2 k (by omega)) rfl ?_
            refine w_eqi (show _ = p_pass μ.1 n j (9 + 7 * k + 6) from h2.1.rd hk 6 (by decide)) ?_
            refine w_iret dX6_on_77 rfl ?_
            first
            | exact CQ.same (hC.gh (h1.gh.trans h2.gh)) (h1.gh.trans h2.gh).mo (by simp only [M_on, hnR, if_true, if_false, eq_false hz1, eq_false hz2, eq_false hz3, eq_false hz4, hck, hcj])
          · skip
            refine w_aload_n dX6_on_50 rfl ?_
            refine w_getR (t := 2) dX6_on_51 fl_X6_16 rfl (by decide) (by decide) rfl ?_
            refine w_getR (t := 13) dX6_on_54 fl_X6_93 rfl (by decide) (by decide) rfl ?_
            refine w_iload_n dX6_on_57 rfl ?_
            refine w_aald (j := k) dX6_on_58 rfl rfl (by omega) ?_
            refine w_getI dX6_on_59 fl_X6_146 (h2.2.1.kd pp2 k (by omega)) rfl ?_
            refine w_eqi (show _ = p_pass μ.1 n j (9 + 7 * k + 5) from h2.1.rd hk 5 (by decide)) ?_
            refine w_goto (t := 77) dX6_on_62 (by decide) ?_
            
            refine w_iret dX6_on_77 rfl ?_
            first
            | exact CQ.same (hC.gh (h1.gh.trans h2.gh)) (h1.gh.trans h2.gh).mo (by simp only [M_on, hnR, if_true, if_false, eq_false hz1, eq_false hz2, eq_false hz3, eq_true hz4, hck, hcj])
      · skip
        refine w_aload_n dX6_on_27 rfl ?_
        refine w_ldc dX6_on_28 kc_X6_50 ?_
        refine w_callVi dX6_on_30 ml_X6_51 mv_X6_tell rfl rfl (by decide) rfl (c_tell G _ _ 0 (by decide) (by decide)) rfl rfl (Nat.le_of_ble_eq_true rfl) ?_
        refine w_iret dX6_on_33 rfl ?_
        first
        | exact CQ.fnd hC Mo.rfl (by decide) (by simp only [M_on, hnR, if_true, if_false, eq_false hz1, eq_false hz2, eq_true hz3])
        | exact CQ.same hC Mo.rfl (by simp only [M_on, hnR, if_true, if_false, eq_false hz1, eq_false hz2, eq_true hz3])
set_option maxRecDepth 100000 in
set_option maxHeartbeats 800000 in
theorem k_strays (G : GT) (σ : Sg) (μ : MO) (n : Nat) (hC : RC σ μ n) (q : Int32) : Ev G mX6_strays [.ref 0, .int q] σ (CQ σ (M_strays μ q)) := by
  have h8 := hC.rv.le
  have hn := hC.rv.n
  have hnR := hC.nn
  have hr1 : ∀ j, j < 8 → kd (σ.2.2 12 j) = 3 := hC.p1.kd pp1
  refine Ev.ofL (m := 0) (L := [some (.ref 0), some (.int q)]) rfl (Nat.le_of_ble_eq_true rfl) rfl rfl ?_
  refine w_iload_n dX6_strays_0 rfl ?_
  refine w_iconst dX6_strays_1 ic_0 ?_
  refine w_bipush dX6_strays_2 bp_100 ?_
  refine w_callSi dX6_strays_4 ml_X6_66 ms_X6_isWithin rfl (c_isWithin G _ _ _ _) rfl rfl (Nat.le_of_ble_eq_true rfl) ?_
  refine w_if_ne (t := 17) dX6_strays_7 (by decide) (fun hz1 => ?_) (fun hz1 => ?_)
  · skip
    obtain ⟨j, hj, rfl⟩ := in_0 (m := 100) hz1 rfl (by decide)
    have hcj : (nI j).toNatClampNeg = j := nI_clamp (by omega)
    · skip
      refine w_aload_n dX6_strays_17 rfl ?_
      refine w_callVqv dX6_strays_18 ml_X6_175 mv_X6_raiseGhost rfl rfl (by decide) rfl (k_raise G _ μ n hC) rfl rfl (Nat.le_of_ble_eq_true rfl) (fun τ1 h1 => ?_)
      refine w_aload_n dX6_strays_21 rfl ?_
      refine w_getR (t := 2) dX6_strays_22 fl_X6_16 rfl (by decide) (by decide) rfl ?_
      refine w_iload_n dX6_strays_25 rfl ?_
      refine w_callVqv dX6_strays_26 ml_X6_157 mv_X1_goHours rfl rfl (by decide) rfl (q1_goHours G _ 2 pp2 h1.1 hC.rv h1.2.1 j (by omega)) rfl rfl (Nat.le_of_ble_eq_true rfl) (fun τ2 h2 => ?_)
      refine w_aload_n dX6_strays_29 rfl ?_
      refine w_getR (t := 2) dX6_strays_30 fl_X6_16 rfl (by decide) (by decide) rfl ?_
      refine w_getI dX6_strays_33 fl_X6_169 rfl rfl ?_
      refine w_eqi h2.1.st ?_
      refine w_iret dX6_strays_36 rfl ?_
      first
      | exact CQ.same (hC.gh (h1.gh.trans h2.gh)) (h1.gh.trans h2.gh).mo (by simp only [M_strays, hnR, if_true, if_false, eq_false hz1, hcj])
  · skip
    refine w_aload_n dX6_strays_10 rfl ?_
    refine w_ldc dX6_strays_11 kc_X6_50 ?_
    refine w_callVi dX6_strays_13 ml_X6_51 mv_X6_tell rfl rfl (by decide) rfl (c_tell G _ _ 0 (by decide) (by decide)) rfl rfl (Nat.le_of_ble_eq_true rfl) ?_
    refine w_iret dX6_strays_16 rfl ?_
    first
    | exact CQ.fnd hC Mo.rfl (by decide) (by simp only [M_strays, hnR, if_true, if_false, eq_true hz1])
    | exact CQ.same hC Mo.rfl (by simp only [M_strays, hnR, if_true, if_false, eq_true hz1])
set_option maxRecDepth 100000 in
set_option maxHeartbeats 800000 in
theorem k_place (G : GT) (σ : Sg) (μ : MO) (n : Nat) (hC : RC σ μ n) (r q : Int32) : Ev G mX6_place [.ref 0, .int r, .int q] σ (CQ σ (M_place μ r q)) := by
  have h8 := hC.rv.le
  have hn := hC.rv.n
  have hnR := hC.nn
  have hr1 : ∀ j, j < 8 → kd (σ.2.2 12 j) = 3 := hC.p1.kd pp1
  refine Ev.ofL (m := 3) (L := [some (.ref 0), some (.int r), some (.int q), none, none, none]) rfl (Nat.le_of_ble_eq_true rfl) rfl rfl ?_
  refine w_aload_n dX6_place_0 rfl ?_
  refine w_iload_n dX6_place_1 rfl ?_
  refine w_callVi dX6_place_2 ml_X6_90 mv_X6_isRod rfl rfl (by decide) rfl (k_isRod G _ μ n hC _) rfl rfl (Nat.le_of_ble_eq_true rfl) ?_
  refine w_if_eq (t := 18) dX6_place_5 (by decide) (fun hz1 => ?_) (fun hz1 => ?_)
  · skip
    refine w_aload_n dX6_place_18 rfl ?_
    refine w_ldc dX6_place_19 kc_X6_50 ?_
    refine w_callVi dX6_place_21 ml_X6_51 mv_X6_tell rfl rfl (by decide) rfl (c_tell G _ _ 0 (by decide) (by decide)) rfl rfl (Nat.le_of_ble_eq_true rfl) ?_
    refine w_iret dX6_place_24 rfl ?_
    first
    | exact CQ.fnd hC Mo.rfl (by decide) (by simp only [M_place, hnR, if_true, if_false, eq_true hz1])
    | exact CQ.same hC Mo.rfl (by simp only [M_place, hnR, if_true, if_false, eq_true hz1])
  · skip
    refine w_iload_n dX6_place_8 rfl ?_
    refine w_iconst dX6_place_9 ic_0 ?_
    refine w_bipush dX6_place_10 bp_100 ?_
    refine w_callSi dX6_place_12 ml_X6_66 ms_X6_isWithin rfl (c_isWithin G _ _ _ _) rfl rfl (Nat.le_of_ble_eq_true rfl) ?_
    refine w_if_ne (t := 25) dX6_place_15 (by decide) (fun hz2 => ?_) (fun hz2 => ?_)
    · skip
      obtain ⟨k, hk, rfl⟩ := rod_of hz1 hn h8
      have hck : (nI k).toNatClampNeg = k := nI_clamp (by omega)
      obtain ⟨j, hj, rfl⟩ := in_0 (m := 100) hz2 rfl (by decide)
      have hcj : (nI j).toNatClampNeg = j := nI_clamp (by omega)
      · skip
        refine w_iconst dX6_place_25 ic_0 ?_
        refine w_istore_n dX6_place_26 (by decide) rfl rfl ?_
        dsimp only [List.set]
        refine w_iconst dX6_place_27 ic_m1 ?_
        refine w_istore dX6_place_28 (by decide) rfl rfl ?_
        dsimp only [List.set]
        refine w_iconst dX6_place_30 ic_0 ?_
        refine w_istore dX6_place_31 (by decide) rfl rfl ?_
        dsimp only [List.set]
        have lp : ∀ (m : Nat) (i : Nat) (τ : Sg), 16 - i < m → i ≤ 16 → Gh σ τ → WP G mX6_place 33 [some (.ref 0), some (.int (nI k)), some (.int (nI j)), some (.int (p_plc μ.1 n k j i).1), some (.int (p_plc μ.1 n k j i).2), some (.int (nI i))] [] (τ) (CQ σ (M_place μ (nI k) (nI j))) := by
          intro m
          induction m with
          | zero => intro i τ hmz; exact absurd hmz (Nat.not_lt_zero _)
          | succ m ih =>
            intro i τ hmz hi ht
            refine w_iload dX6_place_33 rfl ?_
            refine w_bipush dX6_place_35 bp_16 ?_
            refine w2_icmp_ge (t := 106) dX6_place_37 (by decide) (fun hz3 => ?_) (fun hz3 => ?_)
            · skip
              have hge := nlt_nI (n := 16) (by omega) (by decide) hz3
              have hen : i = 16 := by omega
              subst hen
              refine w_iload_n dX6_place_106 rfl ?_
              refine w_iret dX6_place_107 rfl ?_
              first
              | exact CQ.same (hC.gh ht) ht.mo (by simp only [M_place, hnR, if_true, if_false, eq_false hz1, eq_false hz2, hck, hcj])
            · skip
              have hlt := lt_nI (n := 16) (by omega) (by decide) hz3
              refine w_aload_n dX6_place_40 rfl ?_
              refine w_callVqv dX6_place_41 ml_X6_175 mv_X6_raiseGhost rfl rfl (by decide) rfl (k_raise G _ μ n (hC.gh ht)) rfl rfl (Nat.le_of_ble_eq_true rfl) (fun τ1 h1 => ?_)
              have KX := h1.2.1.kd pp2 k (by omega)
              refine w_aload_n dX6_place_44 rfl ?_
              refine w_getR (t := 2) dX6_place_45 fl_X6_16 rfl (by decide) (by decide) rfl ?_
              refine w_getR (t := 13) dX6_place_48 fl_X6_93 rfl (by decide) (by decide) rfl ?_
              refine w_iload_n dX6_place_51 rfl ?_
              refine w_aald (j := k) dX6_place_52 rfl rfl (by omega) ?_
              refine w_iload dX6_place_53 rfl ?_
              refine w_putI dX6_place_55 fl_X6_120 KX rfl (by decide +kernel) ?_
              have hw : Pl τ1 (wI τ1 (τ1.2.2 13 k) 1 (nI i)) 2 (upd μ.1 (9 + 7 * k + 1) (nI i)) n := Pl.rodw h1.1 pp2 h1.2.1 h8 hk (by decide)
              refine w_aload_n dX6_place_58 rfl ?_
              refine w_getR (t := 2) dX6_place_59 fl_X6_16 rfl (by decide) (by decide) rfl ?_
              refine w_iload_n dX6_place_62 rfl ?_
              refine w_callVqv dX6_place_63 ml_X6_157 mv_X1_goHours rfl rfl (by decide) rfl (q1_goHours G _ 2 pp2 hw.1 (hC.rv.rodw hk (by decide) (iB.of (b := 15) (by omega) (by decide))) hw.2.1 j (by omega)) rfl rfl (Nat.le_of_ble_eq_true rfl) (fun τ2 h2 => ?_)
              have KX := h2.2.1.kd pp2 k (by omega)
              refine w_aload_n dX6_place_66 rfl ?_
              refine w_getR (t := 2) dX6_place_67 fl_X6_16 rfl (by decide) (by decide) rfl ?_
              refine w_getR (t := 13) dX6_place_70 fl_X6_93 rfl (by decide) (by decide) rfl ?_
              refine w_iload_n dX6_place_73 rfl ?_
              refine w_aald (j := k) dX6_place_74 rfl rfl (by omega) ?_
              refine w_getI dX6_place_75 fl_X6_178 KX rfl ?_
              refine w_eqi (show _ = p_pass (upd μ.1 (9 + 7 * k + 1) (nI i)) n j (9 + 7 * k + 6) from h2.1.rd hk 6 (by decide)) ?_
              refine w_iload dX6_place_78 rfl ?_
              refine w2_icmp_le (t := 100) dX6_place_80 (by decide) (fun hz4 => ?_) (fun hz4 => ?_)
              · skip
                have cc := eq_false hz4
                refine w_iincN (a := i) (b := 1) dX6_place_100 rfl ic_1 (by decide) rfl rfl ?_
                dsimp only [List.set]
                refine w_goto (t := 33) dX6_place_103 (by decide) ?_
                have q0 := ih (i + 1) τ2 (by omega) (by omega) (ht.trans (h1.gh.trans (hw.gh.trans h2.gh)))
                simp only [p_plc, cc, if_true, if_false] at q0
                exact q0
              · skip
                have cc := eq_true hz4
                refine w_aload_n dX6_place_83 rfl ?_
                refine w_getR (t := 2) dX6_place_84 fl_X6_16 rfl (by decide) (by decide) rfl ?_
                refine w_getR (t := 13) dX6_place_87 fl_X6_93 rfl (by decide) (by decide) rfl ?_
                refine w_iload_n dX6_place_90 rfl ?_
                refine w_aald (j := k) dX6_place_91 rfl rfl (by omega) ?_
                refine w_getI dX6_place_92 fl_X6_178 KX rfl ?_
                refine w_eqi (show _ = p_pass (upd μ.1 (9 + 7 * k + 1) (nI i)) n j (9 + 7 * k + 6) from h2.1.rd hk 6 (by decide)) ?_
                refine w_istore dX6_place_95 (by decide) rfl rfl ?_
                dsimp only [List.set]
                refine w_iload dX6_place_97 rfl ?_
                refine w_istore_n dX6_place_99 (by decide) rfl rfl ?_
                dsimp only [List.set]
                
                refine w_iincN (a := i) (b := 1) dX6_place_100 rfl ic_1 (by decide) rfl rfl ?_
                dsimp only [List.set]
                refine w_goto (t := 33) dX6_place_103 (by decide) ?_
                have q0 := ih (i + 1) τ2 (by omega) (by omega) (ht.trans (h1.gh.trans (hw.gh.trans h2.gh)))
                simp only [p_plc, cc, if_true, if_false] at q0
                exact q0
        exact lp 17 0 σ (by omega) (by omega) ⟨Fp.rfl, hC.p2⟩
    · skip
      refine w_aload_n dX6_place_18 rfl ?_
      refine w_ldc dX6_place_19 kc_X6_50 ?_
      refine w_callVi dX6_place_21 ml_X6_51 mv_X6_tell rfl rfl (by decide) rfl (c_tell G _ _ 0 (by decide) (by decide)) rfl rfl (Nat.le_of_ble_eq_true rfl) ?_
      refine w_iret dX6_place_24 rfl ?_
      first
      | exact CQ.fnd hC Mo.rfl (by decide) (by simp only [M_place, hnR, if_true, if_false, eq_false hz1, eq_true hz2])
      | exact CQ.same hC Mo.rfl (by simp only [M_place, hnR, if_true, if_false, eq_false hz1, eq_true hz2])
/-- the class's look for the best kind -/
def k_knd (f : Nat → Int32) (n k q : Nat) : Nat → Int32 × Int32 × Int32
  | 0 => (0, -1, 0)
  | j + 1 =>
    if (k_knd f n k q j).2.1 < p_pass (upd f (9 + 7 * k) (nI j)) n q (9 + 7 * k + 6) ∨ (p_pass (upd f (9 + 7 * k) (nI j)) n q (9 + 7 * k + 6) = (k_knd f n k q j).2.1 ∧ p_pass (upd f (9 + 7 * k) (nI j)) n q (9 + 7 * k + 5) < (k_knd f n k q j).2.2) then (nI j, p_pass (upd f (9 + 7 * k) (nI j)) n q (9 + 7 * k + 6), p_pass (upd f (9 + 7 * k) (nI j)) n q (9 + 7 * k + 5)) else k_knd f n k q j
theorem p_knd_s (f : Nat → Int32) (n k q j : Nat) : p_knd f n k q (j + 1) = if (p_knd f n k q j).1 < 0 ∨ (p_knd f n k q j).2.1 < p_pass (upd f (9 + 7 * k) (nI j)) n q (9 + 7 * k + 6) ∨ (p_pass (upd f (9 + 7 * k) (nI j)) n q (9 + 7 * k + 6) = (p_knd f n k q j).2.1 ∧ p_pass (upd f (9 + 7 * k) (nI j)) n q (9 + 7 * k + 5) < (p_knd f n k q j).2.2) then (nI j, p_pass (upd f (9 + 7 * k) (nI j)) n q (9 + 7 * k + 6), p_pass (upd f (9 + 7 * k) (nI j)) n q (9 + 7 * k + 5)) else p_knd f n k q j := rfl
theorem k_knd_p {f : Nat → Int32} {n k q : Nat} (hv : RV f n) (hk : k < n) : ∀ j, j < 6 → k_knd f n k q (j + 1) = p_knd f n k q (j + 1) ∧ ¬ (p_knd f n k q (j + 1)).1 < 0
  | 0, _ => by
    have h0 : RV (upd f (9 + 7 * k) (nI 0)) n := hv.rodw (w := 0) hk (by decide) (iB.of (k := 0) (b := 5) (by decide) (by decide))
    have h1 := RVg_at ((h0.pass q).rod hk) 6 (by decide)
    have h2 : (-1 : Int32) < p_pass (upd f (9 + 7 * k) (nI 0)) n q (9 + 7 * k + 6) := by
      rw [Int32.lt_iff_toInt_lt]
      have := h1.1
      unfold rg at this
      rw [show (-1 : Int32).toInt = -1 from rfl]
      omega
    have e1 : k_knd f n k q 1 = (nI 0, p_pass (upd f (9 + 7 * k) (nI 0)) n q (9 + 7 * k + 6), p_pass (upd f (9 + 7 * k) (nI 0)) n q (9 + 7 * k + 5)) := if_pos (Or.inl h2)
    have e2 : p_knd f n k q 1 = (nI 0, p_pass (upd f (9 + 7 * k) (nI 0)) n q (9 + 7 * k + 6), p_pass (upd f (9 + 7 * k) (nI 0)) n q (9 + 7 * k + 5)) := by
      rw [p_knd_s, if_pos (Or.inl (show (p_knd f n k q 0).1 < 0 from (show (-1 : Int32) < 0 by decide)))]
    rw [e1, e2]
    exact ⟨rfl, show ¬ nI 0 < 0 by decide⟩
  | j + 1, hj => by
    obtain ⟨e, hn0⟩ := k_knd_p hv hk j (by omega)
    rw [p_knd_s, k_knd, e]
    by_cases c : (p_knd f n k q (j + 1)).2.1 < p_pass (upd f (9 + 7 * k) (nI (j + 1))) n q (9 + 7 * k + 6) ∨ (p_pass (upd f (9 + 7 * k) (nI (j + 1))) n q (9 + 7 * k + 6) = (p_knd f n k q (j + 1)).2.1 ∧ p_pass (upd f (9 + 7 * k) (nI (j + 1))) n q (9 + 7 * k + 5) < (p_knd f n k q (j + 1)).2.2)
    · rw [if_pos c, if_pos (Or.inr c)]
      exact ⟨rfl, nI_pos (by omega)⟩
    · rw [if_neg c, if_neg (fun z => z.elim hn0 c)]
      exact ⟨rfl, hn0⟩
set_option maxRecDepth 100000 in
set_option maxHeartbeats 800000 in
theorem k_kind (G : GT) (σ : Sg) (μ : MO) (n : Nat) (hC : RC σ μ n) (r q : Int32) : Ev G mX6_kind [.ref 0, .int r, .int q] σ (CQ σ (M_kind μ r q)) := by
  have h8 := hC.rv.le
  have hn := hC.rv.n
  have hnR := hC.nn
  have hr1 : ∀ j, j < 8 → kd (σ.2.2 12 j) = 3 := hC.p1.kd pp1
  refine Ev.ofL (m := 5) (L := [some (.ref 0), some (.int r), some (.int q), none, none, none, none, none]) rfl (Nat.le_of_ble_eq_true rfl) rfl rfl ?_
  refine w_aload_n dX6_kind_0 rfl ?_
  refine w_iload_n dX6_kind_1 rfl ?_
  refine w_callVi dX6_kind_2 ml_X6_90 mv_X6_isRod rfl rfl (by decide) rfl (k_isRod G _ μ n hC _) rfl rfl (Nat.le_of_ble_eq_true rfl) ?_
  refine w_if_eq (t := 18) dX6_kind_5 (by decide) (fun hz1 => ?_) (fun hz1 => ?_)
  · skip
    refine w_aload_n dX6_kind_18 rfl ?_
    refine w_ldc dX6_kind_19 kc_X6_50 ?_
    refine w_callVi dX6_kind_21 ml_X6_51 mv_X6_tell rfl rfl (by decide) rfl (c_tell G _ _ 0 (by decide) (by decide)) rfl rfl (Nat.le_of_ble_eq_true rfl) ?_
    refine w_iret dX6_kind_24 rfl ?_
    first
    | exact CQ.fnd hC Mo.rfl (by decide) (by simp only [M_kind, hnR, if_true, if_false, eq_true hz1])
    | exact CQ.same hC Mo.rfl (by simp only [M_kind, hnR, if_true, if_false, eq_true hz1])
  · skip
    refine w_iload_n dX6_kind_8 rfl ?_
    refine w_iconst dX6_kind_9 ic_0 ?_
    refine w_bipush dX6_kind_10 bp_60 ?_
    refine w_callSi dX6_kind_12 ml_X6_66 ms_X6_isWithin rfl (c_isWithin G _ _ _ _) rfl rfl (Nat.le_of_ble_eq_true rfl) ?_
    refine w_if_ne (t := 25) dX6_kind_15 (by decide) (fun hz2 => ?_) (fun hz2 => ?_)
    · skip
      obtain ⟨k, hk, rfl⟩ := rod_of hz1 hn h8
      have hck : (nI k).toNatClampNeg = k := nI_clamp (by omega)
      obtain ⟨j, hj, rfl⟩ := in_0 (m := 60) hz2 rfl (by decide)
      have hcj : (nI j).toNatClampNeg = j := nI_clamp (by omega)
      · skip
        refine w_iconst dX6_kind_25 ic_0 ?_
        refine w_istore_n dX6_kind_26 (by decide) rfl rfl ?_
        dsimp only [List.set]
        refine w_iconst dX6_kind_27 ic_m1 ?_
        refine w_istore dX6_kind_28 (by decide) rfl rfl ?_
        dsimp only [List.set]
        refine w_iconst dX6_kind_30 ic_0 ?_
        refine w_istore dX6_kind_31 (by decide) rfl rfl ?_
        dsimp only [List.set]
        refine w_iconst dX6_kind_33 ic_0 ?_
        refine w_istore dX6_kind_34 (by decide) rfl rfl ?_
        dsimp only [List.set]
        have lp : ∀ (m : Nat) (i : Nat) (τ : Sg) (x7 : Option Value), 6 - i < m → i ≤ 6 → Gh σ τ → WP G mX6_kind 36 [some (.ref 0), some (.int (nI k)), some (.int (nI j)), some (.int (k_knd μ.1 n k j i).1), some (.int (k_knd μ.1 n k j i).2.1), some (.int (k_knd μ.1 n k j i).2.2), some (.int (nI i)), x7] [] (τ) (CQ σ (M_kind μ (nI k) (nI j))) := by
          intro m
          induction m with
          | zero => intro i τ x7 hmz; exact absurd hmz (Nat.not_lt_zero _)
          | succ m ih =>
            intro i τ x7 hmz hi ht
            refine w_iload dX6_kind_36 rfl ?_
            refine w_bipush dX6_kind_38 bp_6 ?_
            refine w2_icmp_ge (t := 126) dX6_kind_40 (by decide) (fun hz3 => ?_) (fun hz3 => ?_)
            · skip
              have hge := nlt_nI (n := 6) (by omega) (by decide) hz3
              have hen : i = 6 := by omega
              subst hen
              refine w_iload_n dX6_kind_126 rfl ?_
              refine w_iret dX6_kind_127 rfl ?_
              rw [(k_knd_p hC.rv hk 5 (by decide)).1]
              first
              | exact CQ.same (hC.gh ht) ht.mo (by simp only [M_kind, hnR, if_true, if_false, eq_false hz1, eq_false hz2, hck, hcj])
            · skip
              have hlt := lt_nI (n := 6) (by omega) (by decide) hz3
              refine w_aload_n dX6_kind_43 rfl ?_
              refine w_callVqv dX6_kind_44 ml_X6_175 mv_X6_raiseGhost rfl rfl (by decide) rfl (k_raise G _ μ n (hC.gh ht)) rfl rfl (Nat.le_of_ble_eq_true rfl) (fun τ1 h1 => ?_)
              have KX := h1.2.1.kd pp2 k (by omega)
              refine w_aload_n dX6_kind_47 rfl ?_
              refine w_getR (t := 2) dX6_kind_48 fl_X6_16 rfl (by decide) (by decide) rfl ?_
              refine w_getR (t := 13) dX6_kind_51 fl_X6_93 rfl (by decide) (by decide) rfl ?_
              refine w_iload_n dX6_kind_54 rfl ?_
              refine w_aald (j := k) dX6_kind_55 rfl rfl (by omega) ?_
              refine w_astore dX6_kind_56 (by decide) rfl rfl ?_
              dsimp only [List.set]
              refine w_aload dX6_kind_58 rfl ?_
              refine w_iload dX6_kind_60 rfl ?_
              refine w_putI dX6_kind_62 fl_X6_139 KX rfl (by decide +kernel) ?_
              have hw : Pl τ1 (wI τ1 (τ1.2.2 13 k) 0 (nI i)) 2 (upd μ.1 (9 + 7 * k) (nI i)) n := Pl.rodw (w := 0) h1.1 pp2 h1.2.1 h8 hk (by decide)
              have hvk : RV (upd μ.1 (9 + 7 * k) (nI i)) n := hC.rv.rodw (w := 0) hk (by decide) (iB.of (b := 5) (by omega) (by decide))
              refine w_aload_n dX6_kind_65 rfl ?_
              refine w_getR (t := 2) dX6_kind_66 fl_X6_16 rfl (by decide) (by decide) rfl ?_
              refine w_iload_n dX6_kind_69 rfl ?_
              refine w_callVqv dX6_kind_70 ml_X6_157 mv_X1_goHours rfl rfl (by decide) rfl (q1_goHoursP G _ 2 pp2 hw.1 hvk hw.2.1 j (by omega)) rfl rfl (Nat.le_of_ble_eq_true rfl) (fun τ2 h2x => ?_)
              have h2 := h2x.1
              have KY : τ2.2.2 13 k = τ1.2.2 13 k := by rw [h2x.2]; rfl
              have h6 : τ2.1 (τ1.2.2 13 k) 6 = p_pass (upd μ.1 (9 + 7 * k) (nI i)) n j (9 + 7 * k + 6) := by rw [← KY]; exact h2.1.rd hk 6 (by decide)
              have h5 : τ2.1 (τ1.2.2 13 k) 5 = p_pass (upd μ.1 (9 + 7 * k) (nI i)) n j (9 + 7 * k + 5) := by rw [← KY]; exact h2.1.rd hk 5 (by decide)
              refine w_aload dX6_kind_73 rfl ?_
              refine w_getI dX6_kind_75 fl_X6_178 KX rfl ?_
              refine w_eqi (show _ = p_pass (upd μ.1 (9 + 7 * k) (nI i)) n j (9 + 7 * k + 6) from h6) ?_
              refine w_iload dX6_kind_78 rfl ?_
              refine w_icmp_gt (t := 103) dX6_kind_80 (by decide) (fun hz4 => ?_) (fun hz4 => ?_)
              · skip
                have ks : k_knd μ.1 n k j (i + 1) = (nI i, p_pass (upd μ.1 (9 + 7 * k) (nI i)) n j (9 + 7 * k + 6), p_pass (upd μ.1 (9 + 7 * k) (nI i)) n j (9 + 7 * k + 5)) := if_pos (Or.inl hz4)
                refine w_iload dX6_kind_103 rfl ?_
                refine w_istore_n dX6_kind_105 (by decide) rfl rfl ?_
                dsimp only [List.set]
                refine w_aload dX6_kind_106 rfl ?_
                refine w_getI dX6_kind_108 fl_X6_178 KX rfl ?_
                refine w_eqi (show _ = p_pass (upd μ.1 (9 + 7 * k) (nI i)) n j (9 + 7 * k + 6) from h6) ?_
                refine w_istore dX6_kind_111 (by decide) rfl rfl ?_
                dsimp only [List.set]
                refine w_aload dX6_kind_113 rfl ?_
                refine w_getI dX6_kind_115 fl_X6_146 KX rfl ?_
                refine w_eqi (show _ = p_pass (upd μ.1 (9 + 7 * k) (nI i)) n j (9 + 7 * k + 5) from h5) ?_
                refine w_istore dX6_kind_118 (by decide) rfl rfl ?_
                dsimp only [List.set]
                
                refine w_iincN (a := i) (b := 1) dX6_kind_120 rfl ic_1 (by decide) rfl rfl ?_
                dsimp only [List.set]
                refine w_goto (t := 36) dX6_kind_123 (by decide) ?_
                have q0 := ih (i + 1) τ2 (some (.ref (τ1.2.2 13 k))) (by omega) (by omega) (ht.trans (h1.gh.trans (hw.gh.trans h2.gh)))
                rw [ks] at q0
                exact q0
              · skip
                refine w_aload dX6_kind_83 rfl ?_
                refine w_getI dX6_kind_85 fl_X6_178 KX rfl ?_
                refine w_eqi (show _ = p_pass (upd μ.1 (9 + 7 * k) (nI i)) n j (9 + 7 * k + 6) from h6) ?_
                refine w_iload dX6_kind_88 rfl ?_
                refine w_icmp_ne (t := 120) dX6_kind_90 (by decide) (fun hz5 => ?_) (fun hz5 => ?_)
                · skip
                  have ks : k_knd μ.1 n k j (i + 1) = (k_knd μ.1 n k j i) := if_neg (show ¬ ((k_knd μ.1 n k j i).2.1 < p_pass (upd μ.1 (9 + 7 * k) (nI i)) n j (9 + 7 * k + 6) ∨ (p_pass (upd μ.1 (9 + 7 * k) (nI i)) n j (9 + 7 * k + 6) = (k_knd μ.1 n k j i).2.1 ∧ p_pass (upd μ.1 (9 + 7 * k) (nI i)) n j (9 + 7 * k + 5) < (k_knd μ.1 n k j i).2.2)) from fun z => z.elim hz4 (fun y => hz5 y.1))
                  refine w_iincN (a := i) (b := 1) dX6_kind_120 rfl ic_1 (by decide) rfl rfl ?_
                  dsimp only [List.set]
                  refine w_goto (t := 36) dX6_kind_123 (by decide) ?_
                  have q0 := ih (i + 1) τ2 (some (.ref (τ1.2.2 13 k))) (by omega) (by omega) (ht.trans (h1.gh.trans (hw.gh.trans h2.gh)))
                  rw [ks] at q0
                  exact q0
                · skip
                  refine w_aload dX6_kind_93 rfl ?_
                  refine w_getI dX6_kind_95 fl_X6_146 KX rfl ?_
                  refine w_eqi (show _ = p_pass (upd μ.1 (9 + 7 * k) (nI i)) n j (9 + 7 * k + 5) from h5) ?_
                  refine w_iload dX6_kind_98 rfl ?_
                  refine w2_icmp_ge (t := 120) dX6_kind_100 (by decide) (fun hz6 => ?_) (fun hz6 => ?_)
                  · skip
                    have ks : k_knd μ.1 n k j (i + 1) = (k_knd μ.1 n k j i) := if_neg (show ¬ ((k_knd μ.1 n k j i).2.1 < p_pass (upd μ.1 (9 + 7 * k) (nI i)) n j (9 + 7 * k + 6) ∨ (p_pass (upd μ.1 (9 + 7 * k) (nI i)) n j (9 + 7 * k + 6) = (k_knd μ.1 n k j i).2.1 ∧ p_pass (upd μ.1 (9 + 7 * k) (nI i)) n j (9 + 7 * k + 5) < (k_knd μ.1 n k j i).2.2)) from fun z => z.elim hz4 (fun y => hz6 y.2))
                    refine w_iincN (a := i) (b := 1) dX6_kind_120 rfl ic_1 (by decide) rfl rfl ?_
                    dsimp only [List.set]
                    refine w_goto (t := 36) dX6_kind_123 (by decide) ?_
                    have q0 := ih (i + 1) τ2 (some (.ref (τ1.2.2 13 k))) (by omega) (by omega) (ht.trans (h1.gh.trans (hw.gh.trans h2.gh)))
                    rw [ks] at q0
                    exact q0
                  · skip
                    have ks : k_knd μ.1 n k j (i + 1) = (nI i, p_pass (upd μ.1 (9 + 7 * k) (nI i)) n j (9 + 7 * k + 6), p_pass (upd μ.1 (9 + 7 * k) (nI i)) n j (9 + 7 * k + 5)) := if_pos (Or.inr ⟨hz5, hz6⟩)
                    refine w_iload dX6_kind_103 rfl ?_
                    refine w_istore_n dX6_kind_105 (by decide) rfl rfl ?_
                    dsimp only [List.set]
                    refine w_aload dX6_kind_106 rfl ?_
                    refine w_getI dX6_kind_108 fl_X6_178 KX rfl ?_
                    refine w_eqi (show _ = p_pass (upd μ.1 (9 + 7 * k) (nI i)) n j (9 + 7 * k + 6) from h6) ?_
                    refine w_istore dX6_kind_111 (by decide) rfl rfl ?_
                    dsimp only [List.set]
                    refine w_aload dX6_kind_113 rfl ?_
                    refine w_getI dX6_kind_115 fl_X6_146 KX rfl ?_
                    refine w_eqi (show _ = p_pass (upd μ.1 (9 + 7 * k) (nI i)) n j (9 + 7 * k + 5) from h5) ?_
                    refine w_istore dX6_kind_118 (by decide) rfl rfl ?_
                    dsimp only [List.set]
                    
                    refine w_iincN (a := i) (b := 1) dX6_kind_120 rfl ic_1 (by decide) rfl rfl ?_
                    dsimp only [List.set]
                    refine w_goto (t := 36) dX6_kind_123 (by decide) ?_
                    have q0 := ih (i + 1) τ2 (some (.ref (τ1.2.2 13 k))) (by omega) (by omega) (ht.trans (h1.gh.trans (hw.gh.trans h2.gh)))
                    rw [ks] at q0
                    exact q0
        exact lp 7 0 σ none (by omega) (by omega) ⟨Fp.rfl, hC.p2⟩
    · skip
      refine w_aload_n dX6_kind_18 rfl ?_
      refine w_ldc dX6_kind_19 kc_X6_50 ?_
      refine w_callVi dX6_kind_21 ml_X6_51 mv_X6_tell rfl rfl (by decide) rfl (c_tell G _ _ 0 (by decide) (by decide)) rfl rfl (Nat.le_of_ble_eq_true rfl) ?_
      refine w_iret dX6_kind_24 rfl ?_
      first
      | exact CQ.fnd hC Mo.rfl (by decide) (by simp only [M_kind, hnR, if_true, if_false, eq_false hz1, eq_true hz2])
      | exact CQ.same hC Mo.rfl (by simp only [M_kind, hnR, if_true, if_false, eq_false hz1, eq_true hz2])
