def k_may (v : Int32) : Int32 := if v = 0 then 1 else if v = 8 then 1 else if v = 16 then 1 else if v = 64 then 1 else 0
def k_miss (g : Nat → Int32) : Int32 := if g 1 = 0 then 1 else 0
def k_has (g : Nat → Int32) (a m : Int32) : Int32 := if a < 0 then 0 else if m < 0 then 0 else if g 2 - a < m then 0 else 1
set_option maxRecDepth 100000 in
set_option maxHeartbeats 800000 in
theorem c4_mayHave (G : GT) (σ : Sg) (v : Int32) : Evi G mX4_mayHave [.int v] σ (k_may v) (σ) := by
  refine Ev.ofL (m := 0) (L := [some (.int v)]) rfl (Nat.le_of_ble_eq_true rfl) rfl rfl ?_
  refine w_iload_n dX4_mayHave_0 rfl ?_
  refine w_if_eq (t := 22) dX4_mayHave_1 (by decide) (fun hz1 => ?_) (fun hz1 => ?_)
  · skip
    refine w_iconst dX4_mayHave_22 ic_1 ?_
    refine w_goto (t := 27) dX4_mayHave_23 (by decide) ?_
    refine w_zret dX4_mayHave_27 rfl rfl ?_
    exact ⟨by simp only [k_may, eq_true hz1, if_true, if_false], rfl⟩
  · skip
    refine w_iload_n dX4_mayHave_4 rfl ?_
    refine w_bipush dX4_mayHave_5 bp_8 ?_
    refine w_icmp_eq (t := 22) dX4_mayHave_7 (by decide) (fun hz2 => ?_) (fun hz2 => ?_)
    · skip
      refine w_iconst dX4_mayHave_22 ic_1 ?_
      refine w_goto (t := 27) dX4_mayHave_23 (by decide) ?_
      refine w_zret dX4_mayHave_27 rfl rfl ?_
      exact ⟨by simp only [k_may, eq_false hz1, eq_true hz2, if_true, if_false], rfl⟩
    · skip
      refine w_iload_n dX4_mayHave_10 rfl ?_
      refine w_bipush dX4_mayHave_11 bp_16 ?_
      refine w_icmp_eq (t := 22) dX4_mayHave_13 (by decide) (fun hz3 => ?_) (fun hz3 => ?_)
      · skip
        refine w_iconst dX4_mayHave_22 ic_1 ?_
        refine w_goto (t := 27) dX4_mayHave_23 (by decide) ?_
        refine w_zret dX4_mayHave_27 rfl rfl ?_
        exact ⟨by simp only [k_may, eq_false hz1, eq_false hz2, eq_true hz3, if_true, if_false], rfl⟩
      · skip
        refine w_iload_n dX4_mayHave_16 rfl ?_
        refine w_bipush dX4_mayHave_17 bp_64 ?_
        refine w_icmp_ne (t := 26) dX4_mayHave_19 (by decide) (fun hz4 => ?_) (fun hz4 => ?_)
        · skip
          refine w_iconst dX4_mayHave_26 ic_0 ?_
          refine w_zret dX4_mayHave_27 rfl rfl ?_
          exact ⟨by simp only [k_may, eq_false hz1, eq_false hz2, eq_false hz3, eq_false hz4, if_true, if_false], rfl⟩
        · skip
          refine w_iconst dX4_mayHave_22 ic_1 ?_
          refine w_goto (t := 27) dX4_mayHave_23 (by decide) ?_
          refine w_zret dX4_mayHave_27 rfl rfl ?_
          exact ⟨by simp only [k_may, eq_false hz1, eq_false hz2, eq_false hz3, eq_true hz4, if_true, if_false], rfl⟩
set_option maxRecDepth 100000 in
set_option maxHeartbeats 800000 in
theorem c4_isMissing (G : GT) (σ : Sg) (c : Nat) (hc : kd c = 4) : Evi G mX4_isMissing [.ref c] σ (k_miss (σ.1 c)) (σ) := by
  refine Ev.ofL (m := 0) (L := [some (.ref c)]) rfl (Nat.le_of_ble_eq_true rfl) rfl rfl ?_
  refine w_aload_n dX4_isMissing_0 rfl ?_
  refine w_getI dX4_isMissing_1 fl_X4_15 hc rfl ?_
  refine w_if_ne (t := 11) dX4_isMissing_4 (by decide) (fun hz1 => ?_) (fun hz1 => ?_)
  · skip
    refine w_iconst dX4_isMissing_11 ic_0 ?_
    refine w_zret dX4_isMissing_12 rfl rfl ?_
    exact ⟨by simp only [k_miss, eq_false hz1, if_true, if_false], rfl⟩
  · skip
    refine w_iconst dX4_isMissing_7 ic_1 ?_
    refine w_goto (t := 12) dX4_isMissing_8 (by decide) ?_
    refine w_zret dX4_isMissing_12 rfl rfl ?_
    exact ⟨by simp only [k_miss, eq_true hz1, if_true, if_false], rfl⟩
set_option maxRecDepth 100000 in
set_option maxHeartbeats 800000 in
theorem c4_has (G : GT) (σ : Sg) (c : Nat) (hc : kd c = 4) (ax mx : Int32) : Evi G mX4_has [.ref c, .int ax, .int mx] σ (k_has (σ.1 c) ax mx) (σ) := by
  refine Ev.ofL (m := 0) (L := [some (.ref c), some (.int ax), some (.int mx)]) rfl (Nat.le_of_ble_eq_true rfl) rfl rfl ?_
  refine w_iload_n dX4_has_0 rfl ?_
  refine w_if_lt (t := 22) dX4_has_1 (by decide) (fun hz1 => ?_) (fun hz1 => ?_)
  · skip
    refine w_iconst dX4_has_22 ic_0 ?_
    refine w_zret dX4_has_23 rfl rfl ?_
    exact ⟨by simp only [k_has, eq_true hz1, if_true, if_false], rfl⟩
  · skip
    refine w_iload_n dX4_has_4 rfl ?_
    refine w_if_lt (t := 22) dX4_has_5 (by decide) (fun hz2 => ?_) (fun hz2 => ?_)
    · skip
      refine w_iconst dX4_has_22 ic_0 ?_
      refine w_zret dX4_has_23 rfl rfl ?_
      exact ⟨by simp only [k_has, eq_false hz1, eq_true hz2, if_true, if_false], rfl⟩
    · skip
      refine w_iload_n dX4_has_8 rfl ?_
      refine w_aload_n dX4_has_9 rfl ?_
      refine w_getI dX4_has_10 fl_X4_19 hc rfl ?_
      refine w_iload_n dX4_has_13 rfl ?_
      refine w_isub dX4_has_14 ?_
      refine w_icmp_gt (t := 22) dX4_has_15 (by decide) (fun hz3 => ?_) (fun hz3 => ?_)
      · skip
        refine w_iconst dX4_has_22 ic_0 ?_
        refine w_zret dX4_has_23 rfl rfl ?_
        exact ⟨by simp only [k_has, eq_false hz1, eq_false hz2, eq_true hz3, if_true, if_false], rfl⟩
      · skip
        refine w_iconst dX4_has_18 ic_1 ?_
        refine w_goto (t := 23) dX4_has_19 (by decide) ?_
        refine w_zret dX4_has_23 rfl rfl ?_
        exact ⟨by simp only [k_has, eq_false hz1, eq_false hz2, eq_false hz3, if_true, if_false], rfl⟩
