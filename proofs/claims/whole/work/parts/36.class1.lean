/-! the class's side: a rod's cell, read as the first rod of a row -/
def g3 (σ : Sg) (c : Nat) : Nat → Int32 := fun i => σ.1 c (i - 9)
def c_draws (g : Nat → Int32) (place : Int32) : Int32 :=
  let ax := if 0 ≤ g 1 - place then g 1 - place else 0 - (g 1 - place)
  let pl := if g 2 - 4 * ax < 0 then 0 else g 2 - 4 * ax
  if g 0 = 1 then pl + 8 else if g 0 = 2 then pl + g 2 else if g 0 = 3 then (if pl - 3 < 0 then 0 else pl - 3) else if g 0 = 4 then pl + 8 + 20 else if g 0 = 5 then (if pl + g 2 - 10 < 0 then 0 else pl + g 2 - 10) else pl
def c_paidMany (g : Nat → Int32) : Int32 := p_rem (g 4 - g 3 + 24) 24
def c_isPaid (g : Nat → Int32) (clock : Int32) : Int32 := if p_rem (clock - g 3 + 24) 24 < c_paidMany g then 1 else 0
def c_owes (g : Nat → Int32) (charge clock : Int32) : Int32 :=
  let cc := if c_isPaid g clock = 0 then 0 else charge
  if g 0 = 1 then cc - cc / 10 else if g 0 = 4 then (cc - cc / 10) / 2 else if g 0 = 3 then 0 else if g 0 = 5 then 0 else cc
def c_isOf (g : Nat → Int32) (a : Int32) : Int32 := if a = g 0 then 1 else if a = 0 then 1 else if g 0 = 4 ∧ a = 1 then 1 else if g 0 = 5 ∧ a = 2 then 1 else 0
set_option maxRecDepth 100000 in
set_option maxHeartbeats 800000 in
theorem c_isWithin (G : GT) (σ : Sg) (v a b : Int32) : Evi G mX6_isWithin [.int v, .int a, .int b] σ (p_in v a b) (σ) := by
  refine Ev.ofL (m := 0) (L := [some (.int v), some (.int a), some (.int b)]) rfl (Nat.le_of_ble_eq_true rfl) rfl rfl ?_
  refine w_iload_n dX6_isWithin_0 rfl ?_
  refine w_iload_n dX6_isWithin_1 rfl ?_
  refine w_icmp_lt (t := 14) dX6_isWithin_2 (by decide) (fun hz1 => ?_) (fun hz1 => ?_)
  · skip
    refine w_iconst dX6_isWithin_14 ic_0 ?_
    refine w_zret dX6_isWithin_15 rfl rfl ?_
    exact ⟨by simp [p_in, hz1], rfl⟩
  · skip
    refine w_iload_n dX6_isWithin_5 rfl ?_
    refine w_iload_n dX6_isWithin_6 rfl ?_
    refine w_icmp_gt (t := 14) dX6_isWithin_7 (by decide) (fun hz2 => ?_) (fun hz2 => ?_)
    · skip
      refine w_iconst dX6_isWithin_14 ic_0 ?_
      refine w_zret dX6_isWithin_15 rfl rfl ?_
      exact ⟨by simp [p_in, hz1, hz2], rfl⟩
    · skip
      refine w_iconst dX6_isWithin_10 ic_1 ?_
      refine w_goto (t := 15) dX6_isWithin_11 (by decide) ?_
      refine w_zret dX6_isWithin_15 rfl rfl ?_
      exact ⟨by simp [p_in, hz1, hz2], rfl⟩
set_option maxRecDepth 100000 in
set_option maxHeartbeats 800000 in
theorem c3_paidHours (G : GT) (σ : Sg) (c : Nat) (hc : kd c = 3) : Evi G mX3_paidHours [.ref c] σ (c_paidMany (σ.1 c)) (σ) := by
  refine Ev.ofL (m := 0) (L := [some (.ref c)]) rfl (Nat.le_of_ble_eq_true rfl) rfl rfl ?_
  refine w_aload_n dX3_paidHours_0 rfl ?_
  refine w_getI dX3_paidHours_1 fl_X3_24 hc rfl ?_
  refine w_aload_n dX3_paidHours_4 rfl ?_
  refine w_getI dX3_paidHours_5 fl_X3_21 hc rfl ?_
  refine w_isub dX3_paidHours_8 ?_
  refine w_bipush dX3_paidHours_9 bp_24 ?_
  refine w_iadd dX3_paidHours_11 ?_
  refine w_bipush dX3_paidHours_12 bp_24 ?_
  refine w_irem dX3_paidHours_14 (by decide) ?_
  refine w_iret dX3_paidHours_15 rfl ?_
  exact ⟨rfl, rfl⟩
set_option maxRecDepth 100000 in
set_option maxHeartbeats 800000 in
theorem c3_isPaidAt (G : GT) (σ : Sg) (c : Nat) (hc : kd c = 3) (clock : Int32) : Evi G mX3_isPaidAt [.ref c, .int clock] σ (c_isPaid (σ.1 c) clock) (σ) := by
  refine Ev.ofL (m := 0) (L := [some (.ref c), some (.int clock)]) rfl (Nat.le_of_ble_eq_true rfl) rfl rfl ?_
  refine w_iload_n dX3_isPaidAt_0 rfl ?_
  refine w_aload_n dX3_isPaidAt_1 rfl ?_
  refine w_getI dX3_isPaidAt_2 fl_X3_21 hc rfl ?_
  refine w_isub dX3_isPaidAt_5 ?_
  refine w_bipush dX3_isPaidAt_6 bp_24 ?_
  refine w_iadd dX3_isPaidAt_8 ?_
  refine w_bipush dX3_isPaidAt_9 bp_24 ?_
  refine w_irem dX3_isPaidAt_11 (by decide) ?_
  refine w_aload_n dX3_isPaidAt_12 rfl ?_
  refine w_callVi dX3_isPaidAt_13 ml_X3_47 mv_X3_paidHours rfl hc (by decide) rfl (c3_paidHours G _ c hc) rfl rfl (Nat.le_of_ble_eq_true rfl) ?_
  refine w2_icmp_ge (t := 23) dX3_isPaidAt_16 (by decide) (fun hz1 => ?_) (fun hz1 => ?_)
  · skip
    refine w_iconst dX3_isPaidAt_23 ic_0 ?_
    refine w_zret dX3_isPaidAt_24 rfl rfl ?_
    exact ⟨by simp [c_isPaid, hz1], rfl⟩
  · skip
    refine w_iconst dX3_isPaidAt_19 ic_1 ?_
    refine w_goto (t := 24) dX3_isPaidAt_20 (by decide) ?_
    refine w_zret dX3_isPaidAt_24 rfl rfl ?_
    exact ⟨by simp [c_isPaid, hz1], rfl⟩
set_option maxRecDepth 100000 in
set_option maxHeartbeats 800000 in
theorem c3_owesFor (G : GT) (σ : Sg) (c : Nat) (hc : kd c = 3) (charge clock : Int32) : Evi G mX3_owesFor [.ref c, .int charge, .int clock] σ (c_owes (σ.1 c) charge clock) (σ) := by
  refine Ev.ofL (m := 2) (L := [some (.ref c), some (.int charge), some (.int clock), none, none]) rfl (Nat.le_of_ble_eq_true rfl) rfl rfl ?_
  refine w_aload_n dX3_owesFor_0 rfl ?_
  refine w_iload_n dX3_owesFor_1 rfl ?_
  refine w_callVi dX3_owesFor_2 ml_X3_43 mv_X3_isPaidAt rfl hc (by decide) rfl (c3_isPaidAt G _ c hc _) rfl rfl (Nat.le_of_ble_eq_true rfl) ?_
  refine w_if_eq (t := 12) dX3_owesFor_5 (by decide) (fun hz1 => ?_) (fun hz1 => ?_)
  · skip
    refine w_iconst dX3_owesFor_12 ic_0 ?_
    refine w_istore_n dX3_owesFor_13 (by decide) rfl rfl ?_
    dsimp only [List.set]
    refine w_iload_n dX3_owesFor_14 rfl ?_
    refine w_iload_n dX3_owesFor_15 rfl ?_
    refine w_bipush dX3_owesFor_16 bp_10 ?_
    refine w_idiv dX3_owesFor_18 (by decide) ?_
    refine w_isub dX3_owesFor_19 ?_
    refine w_istore dX3_owesFor_20 (by decide) rfl rfl ?_
    dsimp only [List.set]
    refine w_aload_n dX3_owesFor_22 rfl ?_
    refine w_getI dX3_owesFor_23 fl_X3_9 hc rfl ?_
    refine sw_1_5 (fun hz2 => ?_) (fun hz2 => ?_) (fun hz2 => ?_) (fun hz2 => ?_) (fun hz2 => ?_) (fun hz2 => ?_)
    · skip
      refine w_tableIn (t := 60) (off := 34) dX3_owesFor_26 (by rw [hz2]; decide) (by rw [hz2]; decide) (by rw [hz2]; rfl) (by decide) ?_
      refine w_iload dX3_owesFor_60 rfl ?_
      refine w_iret dX3_owesFor_62 rfl ?_
      exact ⟨by simp only [c_owes, eq_true hz1, eq_true hz2, eq_false (show ¬ σ.1 c 0 = 2 by rw [hz2]; decide), eq_false (show ¬ σ.1 c 0 = 3 by rw [hz2]; decide), eq_false (show ¬ σ.1 c 0 = 4 by rw [hz2]; decide), eq_false (show ¬ σ.1 c 0 = 5 by rw [hz2]; decide), if_true, if_false], rfl⟩
    · skip
      refine w_tableIn (t := 72) (off := 46) dX3_owesFor_26 (by rw [hz2]; decide) (by rw [hz2]; decide) (by rw [hz2]; rfl) (by decide) ?_
      refine w_iload_n dX3_owesFor_72 rfl ?_
      refine w_iret dX3_owesFor_73 rfl ?_
      exact ⟨by simp only [c_owes, eq_true hz1, eq_true hz2, eq_false (show ¬ σ.1 c 0 = 1 by rw [hz2]; decide), eq_false (show ¬ σ.1 c 0 = 3 by rw [hz2]; decide), eq_false (show ¬ σ.1 c 0 = 4 by rw [hz2]; decide), eq_false (show ¬ σ.1 c 0 = 5 by rw [hz2]; decide), if_true, if_false], rfl⟩
    · skip
      refine w_tableIn (t := 63) (off := 37) dX3_owesFor_26 (by rw [hz2]; decide) (by rw [hz2]; decide) (by rw [hz2]; rfl) (by decide) ?_
      refine w_iconst dX3_owesFor_63 ic_0 ?_
      refine w_iret dX3_owesFor_64 rfl ?_
      exact ⟨by simp only [c_owes, eq_true hz1, eq_true hz2, eq_false (show ¬ σ.1 c 0 = 1 by rw [hz2]; decide), eq_false (show ¬ σ.1 c 0 = 2 by rw [hz2]; decide), eq_false (show ¬ σ.1 c 0 = 4 by rw [hz2]; decide), eq_false (show ¬ σ.1 c 0 = 5 by rw [hz2]; decide), if_true, if_false], rfl⟩
    · skip
      refine w_tableIn (t := 65) (off := 39) dX3_owesFor_26 (by rw [hz2]; decide) (by rw [hz2]; decide) (by rw [hz2]; rfl) (by decide) ?_
      refine w_iload dX3_owesFor_65 rfl ?_
      refine w_iconst dX3_owesFor_67 ic_2 ?_
      refine w_idiv dX3_owesFor_68 (by decide) ?_
      refine w_iret dX3_owesFor_69 rfl ?_
      exact ⟨by simp only [c_owes, eq_true hz1, eq_true hz2, eq_false (show ¬ σ.1 c 0 = 1 by rw [hz2]; decide), eq_false (show ¬ σ.1 c 0 = 2 by rw [hz2]; decide), eq_false (show ¬ σ.1 c 0 = 3 by rw [hz2]; decide), eq_false (show ¬ σ.1 c 0 = 5 by rw [hz2]; decide), if_true, if_false], rfl⟩
    · skip
      refine w_tableIn (t := 70) (off := 44) dX3_owesFor_26 (by rw [hz2]; decide) (by rw [hz2]; decide) (by rw [hz2]; rfl) (by decide) ?_
      refine w_iconst dX3_owesFor_70 ic_0 ?_
      refine w_iret dX3_owesFor_71 rfl ?_
      exact ⟨by simp only [c_owes, eq_true hz1, eq_true hz2, eq_false (show ¬ σ.1 c 0 = 1 by rw [hz2]; decide), eq_false (show ¬ σ.1 c 0 = 2 by rw [hz2]; decide), eq_false (show ¬ σ.1 c 0 = 3 by rw [hz2]; decide), eq_false (show ¬ σ.1 c 0 = 4 by rw [hz2]; decide), if_true, if_false], rfl⟩
    · skip
      refine w_tableOut (t := 72) dX3_owesFor_26 hz2.1 (by decide) ?_
      refine w_iload_n dX3_owesFor_72 rfl ?_
      refine w_iret dX3_owesFor_73 rfl ?_
      exact ⟨by simp only [c_owes, eq_true hz1, eq_false hz2.2.1, eq_false hz2.2.2.1, eq_false hz2.2.2.2.1, eq_false hz2.2.2.2.2.1, eq_false hz2.2.2.2.2.2, if_true, if_false], rfl⟩
  · skip
    refine w_iload_n dX3_owesFor_8 rfl ?_
    refine w_goto (t := 13) dX3_owesFor_9 (by decide) ?_
    refine w_istore_n dX3_owesFor_13 (by decide) rfl rfl ?_
    dsimp only [List.set]
    refine w_iload_n dX3_owesFor_14 rfl ?_
    refine w_iload_n dX3_owesFor_15 rfl ?_
    refine w_bipush dX3_owesFor_16 bp_10 ?_
    refine w_idiv dX3_owesFor_18 (by decide) ?_
    refine w_isub dX3_owesFor_19 ?_
    refine w_istore dX3_owesFor_20 (by decide) rfl rfl ?_
    dsimp only [List.set]
    refine w_aload_n dX3_owesFor_22 rfl ?_
    refine w_getI dX3_owesFor_23 fl_X3_9 hc rfl ?_
    refine sw_1_5 (fun hz3 => ?_) (fun hz3 => ?_) (fun hz3 => ?_) (fun hz3 => ?_) (fun hz3 => ?_) (fun hz3 => ?_)
    · skip
      refine w_tableIn (t := 60) (off := 34) dX3_owesFor_26 (by rw [hz3]; decide) (by rw [hz3]; decide) (by rw [hz3]; rfl) (by decide) ?_
      refine w_iload dX3_owesFor_60 rfl ?_
      refine w_iret dX3_owesFor_62 rfl ?_
      exact ⟨by simp only [c_owes, eq_false hz1, eq_true hz3, eq_false (show ¬ σ.1 c 0 = 2 by rw [hz3]; decide), eq_false (show ¬ σ.1 c 0 = 3 by rw [hz3]; decide), eq_false (show ¬ σ.1 c 0 = 4 by rw [hz3]; decide), eq_false (show ¬ σ.1 c 0 = 5 by rw [hz3]; decide), if_true, if_false], rfl⟩
    · skip
      refine w_tableIn (t := 72) (off := 46) dX3_owesFor_26 (by rw [hz3]; decide) (by rw [hz3]; decide) (by rw [hz3]; rfl) (by decide) ?_
      refine w_iload_n dX3_owesFor_72 rfl ?_
      refine w_iret dX3_owesFor_73 rfl ?_
      exact ⟨by simp only [c_owes, eq_false hz1, eq_true hz3, eq_false (show ¬ σ.1 c 0 = 1 by rw [hz3]; decide), eq_false (show ¬ σ.1 c 0 = 3 by rw [hz3]; decide), eq_false (show ¬ σ.1 c 0 = 4 by rw [hz3]; decide), eq_false (show ¬ σ.1 c 0 = 5 by rw [hz3]; decide), if_true, if_false], rfl⟩
    · skip
      refine w_tableIn (t := 63) (off := 37) dX3_owesFor_26 (by rw [hz3]; decide) (by rw [hz3]; decide) (by rw [hz3]; rfl) (by decide) ?_
      refine w_iconst dX3_owesFor_63 ic_0 ?_
      refine w_iret dX3_owesFor_64 rfl ?_
      exact ⟨by simp only [c_owes, eq_false hz1, eq_true hz3, eq_false (show ¬ σ.1 c 0 = 1 by rw [hz3]; decide), eq_false (show ¬ σ.1 c 0 = 2 by rw [hz3]; decide), eq_false (show ¬ σ.1 c 0 = 4 by rw [hz3]; decide), eq_false (show ¬ σ.1 c 0 = 5 by rw [hz3]; decide), if_true, if_false], rfl⟩
    · skip
      refine w_tableIn (t := 65) (off := 39) dX3_owesFor_26 (by rw [hz3]; decide) (by rw [hz3]; decide) (by rw [hz3]; rfl) (by decide) ?_
      refine w_iload dX3_owesFor_65 rfl ?_
      refine w_iconst dX3_owesFor_67 ic_2 ?_
      refine w_idiv dX3_owesFor_68 (by decide) ?_
      refine w_iret dX3_owesFor_69 rfl ?_
      exact ⟨by simp only [c_owes, eq_false hz1, eq_true hz3, eq_false (show ¬ σ.1 c 0 = 1 by rw [hz3]; decide), eq_false (show ¬ σ.1 c 0 = 2 by rw [hz3]; decide), eq_false (show ¬ σ.1 c 0 = 3 by rw [hz3]; decide), eq_false (show ¬ σ.1 c 0 = 5 by rw [hz3]; decide), if_true, if_false], rfl⟩
    · skip
      refine w_tableIn (t := 70) (off := 44) dX3_owesFor_26 (by rw [hz3]; decide) (by rw [hz3]; decide) (by rw [hz3]; rfl) (by decide) ?_
      refine w_iconst dX3_owesFor_70 ic_0 ?_
      refine w_iret dX3_owesFor_71 rfl ?_
      exact ⟨by simp only [c_owes, eq_false hz1, eq_true hz3, eq_false (show ¬ σ.1 c 0 = 1 by rw [hz3]; decide), eq_false (show ¬ σ.1 c 0 = 2 by rw [hz3]; decide), eq_false (show ¬ σ.1 c 0 = 3 by rw [hz3]; decide), eq_false (show ¬ σ.1 c 0 = 4 by rw [hz3]; decide), if_true, if_false], rfl⟩
    · skip
      refine w_tableOut (t := 72) dX3_owesFor_26 hz3.1 (by decide) ?_
      refine w_iload_n dX3_owesFor_72 rfl ?_
      refine w_iret dX3_owesFor_73 rfl ?_
      exact ⟨by simp only [c_owes, eq_false hz1, eq_false hz3.2.1, eq_false hz3.2.2.1, eq_false hz3.2.2.2.1, eq_false hz3.2.2.2.2.1, eq_false hz3.2.2.2.2.2, if_true, if_false], rfl⟩
set_option maxRecDepth 100000 in
set_option maxHeartbeats 800000 in
theorem c3_drawsFrom (G : GT) (σ : Sg) (c : Nat) (hc : kd c = 3) (pl : Int32) : Evi G mX3_drawsFrom [.ref c, .int pl] σ (c_draws (σ.1 c) pl) (σ) := by
  refine Ev.ofL (m := 3) (L := [some (.ref c), some (.int pl), none, none, none]) rfl (Nat.le_of_ble_eq_true rfl) rfl rfl ?_
  refine w_aload_n dX3_drawsFrom_0 rfl ?_
  refine w_getI dX3_drawsFrom_1 fl_X3_18 hc rfl ?_
  refine w_iconst dX3_drawsFrom_4 ic_4 ?_
  refine w_aload_n dX3_drawsFrom_5 rfl ?_
  refine w_getI dX3_drawsFrom_6 fl_X3_15 hc rfl ?_
  refine w_iload_n dX3_drawsFrom_9 rfl ?_
  refine w_isub dX3_drawsFrom_10 ?_
  refine w_abs dX3_drawsFrom_11 mi_X3_33 mm_abs rfl ?_
  refine w_imul dX3_drawsFrom_14 ?_
  refine w_isub dX3_drawsFrom_15 ?_
  refine w_iconst dX3_drawsFrom_16 ic_0 ?_
  refine w_max dX3_drawsFrom_17 mi_X3_39 mm_max rfl ?_
  refine w_istore_n dX3_drawsFrom_20 (by decide) rfl rfl ?_
  dsimp only [List.set]
  refine w_iload_n dX3_drawsFrom_21 rfl ?_
  refine w_bipush dX3_drawsFrom_22 bp_8 ?_
  refine w_iadd dX3_drawsFrom_24 ?_
  refine w_istore_n dX3_drawsFrom_25 (by decide) rfl rfl ?_
  dsimp only [List.set]
  refine w_iload_n dX3_drawsFrom_26 rfl ?_
  refine w_aload_n dX3_drawsFrom_27 rfl ?_
  refine w_getI dX3_drawsFrom_28 fl_X3_18 hc rfl ?_
  refine w_iadd dX3_drawsFrom_31 ?_
  refine w_istore dX3_drawsFrom_32 (by decide) rfl rfl ?_
  dsimp only [List.set]
  refine w_aload_n dX3_drawsFrom_34 rfl ?_
  refine w_getI dX3_drawsFrom_35 fl_X3_9 hc rfl ?_
  refine sw_1_5 (fun hz1 => ?_) (fun hz1 => ?_) (fun hz1 => ?_) (fun hz1 => ?_) (fun hz1 => ?_) (fun hz1 => ?_)
  · skip
    refine w_tableIn (t := 72) (off := 34) dX3_drawsFrom_38 (by rw [hz1]; decide) (by rw [hz1]; decide) (by rw [hz1]; rfl) (by decide) ?_
    refine w_iload_n dX3_drawsFrom_72 rfl ?_
    refine w_iret dX3_drawsFrom_73 rfl ?_
    exact ⟨by simp only [c_draws, eq_true hz1, eq_false (show ¬ σ.1 c 0 = 2 by rw [hz1]; decide), eq_false (show ¬ σ.1 c 0 = 3 by rw [hz1]; decide), eq_false (show ¬ σ.1 c 0 = 4 by rw [hz1]; decide), eq_false (show ¬ σ.1 c 0 = 5 by rw [hz1]; decide), if_true, if_false], rfl⟩
  · skip
    refine w_tableIn (t := 74) (off := 36) dX3_drawsFrom_38 (by rw [hz1]; decide) (by rw [hz1]; decide) (by rw [hz1]; rfl) (by decide) ?_
    refine w_iload dX3_drawsFrom_74 rfl ?_
    refine w_iret dX3_drawsFrom_76 rfl ?_
    exact ⟨by simp only [c_draws, eq_true hz1, eq_false (show ¬ σ.1 c 0 = 1 by rw [hz1]; decide), eq_false (show ¬ σ.1 c 0 = 3 by rw [hz1]; decide), eq_false (show ¬ σ.1 c 0 = 4 by rw [hz1]; decide), eq_false (show ¬ σ.1 c 0 = 5 by rw [hz1]; decide), if_true, if_false], rfl⟩
  · skip
    refine w_tableIn (t := 77) (off := 39) dX3_drawsFrom_38 (by rw [hz1]; decide) (by rw [hz1]; decide) (by rw [hz1]; rfl) (by decide) ?_
    refine w_iload_n dX3_drawsFrom_77 rfl ?_
    refine w_iconst dX3_drawsFrom_78 ic_3 ?_
    refine w_isub dX3_drawsFrom_79 ?_
    refine w_iconst dX3_drawsFrom_80 ic_0 ?_
    refine w_max dX3_drawsFrom_81 mi_X3_39 mm_max rfl ?_
    refine w_iret dX3_drawsFrom_84 rfl ?_
    exact ⟨by simp only [c_draws, eq_true hz1, eq_false (show ¬ σ.1 c 0 = 1 by rw [hz1]; decide), eq_false (show ¬ σ.1 c 0 = 2 by rw [hz1]; decide), eq_false (show ¬ σ.1 c 0 = 4 by rw [hz1]; decide), eq_false (show ¬ σ.1 c 0 = 5 by rw [hz1]; decide), if_true, if_false], rfl⟩
  · skip
    refine w_tableIn (t := 85) (off := 47) dX3_drawsFrom_38 (by rw [hz1]; decide) (by rw [hz1]; decide) (by rw [hz1]; rfl) (by decide) ?_
    refine w_iload_n dX3_drawsFrom_85 rfl ?_
    refine w_bipush dX3_drawsFrom_86 bp_20 ?_
    refine w_iadd dX3_drawsFrom_88 ?_
    refine w_iret dX3_drawsFrom_89 rfl ?_
    exact ⟨by simp only [c_draws, eq_true hz1, eq_false (show ¬ σ.1 c 0 = 1 by rw [hz1]; decide), eq_false (show ¬ σ.1 c 0 = 2 by rw [hz1]; decide), eq_false (show ¬ σ.1 c 0 = 3 by rw [hz1]; decide), eq_false (show ¬ σ.1 c 0 = 5 by rw [hz1]; decide), if_true, if_false], rfl⟩
  · skip
    refine w_tableIn (t := 90) (off := 52) dX3_drawsFrom_38 (by rw [hz1]; decide) (by rw [hz1]; decide) (by rw [hz1]; rfl) (by decide) ?_
    refine w_iload dX3_drawsFrom_90 rfl ?_
    refine w_bipush dX3_drawsFrom_92 bp_10 ?_
    refine w_isub dX3_drawsFrom_94 ?_
    refine w_iconst dX3_drawsFrom_95 ic_0 ?_
    refine w_max dX3_drawsFrom_96 mi_X3_39 mm_max rfl ?_
    refine w_iret dX3_drawsFrom_99 rfl ?_
    exact ⟨by simp only [c_draws, eq_true hz1, eq_false (show ¬ σ.1 c 0 = 1 by rw [hz1]; decide), eq_false (show ¬ σ.1 c 0 = 2 by rw [hz1]; decide), eq_false (show ¬ σ.1 c 0 = 3 by rw [hz1]; decide), eq_false (show ¬ σ.1 c 0 = 4 by rw [hz1]; decide), if_true, if_false], rfl⟩
  · skip
    refine w_tableOut (t := 100) dX3_drawsFrom_38 hz1.1 (by decide) ?_
    refine w_iload_n dX3_drawsFrom_100 rfl ?_
    refine w_iret dX3_drawsFrom_101 rfl ?_
    exact ⟨by simp only [c_draws, eq_false hz1.2.1, eq_false hz1.2.2.1, eq_false hz1.2.2.2.1, eq_false hz1.2.2.2.2.1, eq_false hz1.2.2.2.2.2, if_true, if_false], rfl⟩
set_option maxRecDepth 100000 in
set_option maxHeartbeats 800000 in
theorem c3_isOf (G : GT) (σ : Sg) (c : Nat) (hc : kd c = 3) (ak : Int32) : Evi G mX3_isOf [.ref c, .int ak] σ (c_isOf (σ.1 c) ak) (σ) := by
  refine Ev.ofL (m := 0) (L := [some (.ref c), some (.int ak)]) rfl (Nat.le_of_ble_eq_true rfl) rfl rfl ?_
  refine w_iload_n dX3_isOf_0 rfl ?_
  refine w_aload_n dX3_isOf_1 rfl ?_
  refine w_getI dX3_isOf_2 fl_X3_9 hc rfl ?_
  refine w_icmp_eq (t := 12) dX3_isOf_5 (by decide) (fun hz1 => ?_) (fun hz1 => ?_)
  · skip
    refine w_iconst dX3_isOf_12 ic_1 ?_
    refine w_zret dX3_isOf_13 rfl rfl ?_
    exact ⟨by simp only [c_isOf, eq_true hz1, if_true, if_false, and_self, and_true, true_and, and_false, false_and], rfl⟩
  · skip
    refine w_iload_n dX3_isOf_8 rfl ?_
    refine w_if_ne (t := 14) dX3_isOf_9 (by decide) (fun hz2 => ?_) (fun hz2 => ?_)
    · skip
      refine w_aload_n dX3_isOf_14 rfl ?_
      refine w_getI dX3_isOf_15 fl_X3_9 hc rfl ?_
      refine w_iconst dX3_isOf_18 ic_4 ?_
      refine w_icmp_ne (t := 27) dX3_isOf_19 (by decide) (fun hz3 => ?_) (fun hz3 => ?_)
      · skip
        refine w_aload_n dX3_isOf_27 rfl ?_
        refine w_getI dX3_isOf_28 fl_X3_9 hc rfl ?_
        refine w_iconst dX3_isOf_31 ic_5 ?_
        refine w_icmp_ne (t := 44) dX3_isOf_32 (by decide) (fun hz4 => ?_) (fun hz4 => ?_)
        · skip
          refine w_iconst dX3_isOf_44 ic_0 ?_
          refine w_zret dX3_isOf_45 rfl rfl ?_
          exact ⟨by simp only [c_isOf, eq_false hz1, eq_false hz2, eq_false hz3, eq_false hz4, if_true, if_false, and_self, and_true, true_and, and_false, false_and], rfl⟩
        · skip
          refine w_iload_n dX3_isOf_35 rfl ?_
          refine w_iconst dX3_isOf_36 ic_2 ?_
          refine w_icmp_ne (t := 44) dX3_isOf_37 (by decide) (fun hz5 => ?_) (fun hz5 => ?_)
          · skip
            refine w_iconst dX3_isOf_44 ic_0 ?_
            refine w_zret dX3_isOf_45 rfl rfl ?_
            exact ⟨by simp only [c_isOf, eq_false hz1, eq_false hz2, eq_false hz3, eq_true hz4, eq_false hz5, if_true, if_false, and_self, and_true, true_and, and_false, false_and], rfl⟩
          · skip
            refine w_iconst dX3_isOf_40 ic_1 ?_
            refine w_goto (t := 45) dX3_isOf_41 (by decide) ?_
            refine w_zret dX3_isOf_45 rfl rfl ?_
            exact ⟨by simp only [c_isOf, eq_false hz1, eq_false hz2, eq_false hz3, eq_true hz4, eq_true hz5, if_true, if_false, and_self, and_true, true_and, and_false, false_and], rfl⟩
      · skip
        refine w_iload_n dX3_isOf_22 rfl ?_
        refine w_iconst dX3_isOf_23 ic_1 ?_
        refine w_icmp_eq (t := 40) dX3_isOf_24 (by decide) (fun hz6 => ?_) (fun hz6 => ?_)
        · skip
          refine w_iconst dX3_isOf_40 ic_1 ?_
          refine w_goto (t := 45) dX3_isOf_41 (by decide) ?_
          refine w_zret dX3_isOf_45 rfl rfl ?_
          exact ⟨by simp only [c_isOf, eq_false hz1, eq_false hz2, eq_true hz3, eq_true hz6, if_true, if_false, and_self, and_true, true_and, and_false, false_and], rfl⟩
        · skip
          refine w_aload_n dX3_isOf_27 rfl ?_
          refine w_getI dX3_isOf_28 fl_X3_9 hc rfl ?_
          refine w_iconst dX3_isOf_31 ic_5 ?_
          refine w_icmp_ne (t := 44) dX3_isOf_32 (by decide) (fun hz7 => ?_) (fun hz7 => ?_)
          · skip
            refine w_iconst dX3_isOf_44 ic_0 ?_
            refine w_zret dX3_isOf_45 rfl rfl ?_
            exact ⟨by simp only [c_isOf, eq_false hz1, eq_false hz2, eq_true hz3, eq_false hz6, eq_false hz7, if_true, if_false, and_self, and_true, true_and, and_false, false_and], rfl⟩
          · skip
            refine w_iload_n dX3_isOf_35 rfl ?_
            refine w_iconst dX3_isOf_36 ic_2 ?_
            refine w_icmp_ne (t := 44) dX3_isOf_37 (by decide) (fun hz8 => ?_) (fun hz8 => ?_)
            · skip
              refine w_iconst dX3_isOf_44 ic_0 ?_
              refine w_zret dX3_isOf_45 rfl rfl ?_
              exact ⟨by simp only [c_isOf, eq_false hz1, eq_false hz2, eq_true hz3, eq_false hz6, eq_true hz7, eq_false hz8, if_true, if_false, and_self, and_true, true_and, and_false, false_and], rfl⟩
            · skip
              refine w_iconst dX3_isOf_40 ic_1 ?_
              refine w_goto (t := 45) dX3_isOf_41 (by decide) ?_
              refine w_zret dX3_isOf_45 rfl rfl ?_
              exact ⟨by simp only [c_isOf, eq_false hz1, eq_false hz2, eq_true hz3, eq_false hz6, eq_true hz7, eq_true hz8, if_true, if_false, and_self, and_true, true_and, and_false, false_and], rfl⟩
    · skip
      refine w_iconst dX3_isOf_12 ic_1 ?_
      refine w_zret dX3_isOf_13 rfl rfl ?_
      exact ⟨by simp only [c_isOf, eq_false hz1, eq_true hz2, if_true, if_false, and_self, and_true, true_and, and_false, false_and], rfl⟩
