def k_take5 (f g : Nat → Int32) : Nat → Int32 := upd (upd (upd (upd (upd (f) 0 (g 0)) 1 (g 1)) 2 (g 2)) 3 (g 3)) 4 (g 4)
def k_take7 (f g : Nat → Int32) : Nat → Int32 := upd (upd (upd (upd (upd (upd (upd (f) 0 (g 0)) 1 (g 1)) 2 (g 2)) 3 (g 3)) 4 (g 4)) 5 (g 5)) 6 (g 6)
def k_new (f : Nat → Int32) (kx pl : Int32) : Nat → Int32 := upd (upd (upd (upd (upd (upd (upd f 0 kx) 1 pl) 2 10) 3 0) 4 0) 5 0) 6 0
set_option maxRecDepth 100000 in
set_option maxHeartbeats 800000 in
theorem c0_takeFrom (G : GT) (σ : Sg) (c d : Nat) (hc : kd c = 0) (hd : kd d = 0) (hdc : d ≠ c) : Evv G mX0_takeFrom [.ref c, .ref d] σ (setC σ c (k_take5 (σ.1 c) (σ.1 d))) := by
  refine Ev.ofL (m := 0) (L := [some (.ref c), some (.ref d)]) rfl (Nat.le_of_ble_eq_true rfl) rfl rfl ?_
  refine w_aload_n dX0_takeFrom_0 rfl ?_
  refine w_aload_n dX0_takeFrom_1 rfl ?_
  refine w_getI dX0_takeFrom_2 fl_X0_9 hd rfl ?_
  refine w_putI dX0_takeFrom_5 fl_X0_9 hc rfl (by decide +kernel) ?_
  try simp only [wI_C, setC_setC, setC_at, setC_ne hdc]
  refine w_aload_n dX0_takeFrom_8 rfl ?_
  refine w_aload_n dX0_takeFrom_9 rfl ?_
  refine w_getI dX0_takeFrom_10 fl_X0_15 hd rfl ?_
  refine w_putI dX0_takeFrom_13 fl_X0_15 hc rfl (by decide +kernel) ?_
  try simp only [wI_C, setC_setC, setC_at, setC_ne hdc]
  refine w_aload_n dX0_takeFrom_16 rfl ?_
  refine w_aload_n dX0_takeFrom_17 rfl ?_
  refine w_getI dX0_takeFrom_18 fl_X0_18 hd rfl ?_
  refine w_putI dX0_takeFrom_21 fl_X0_18 hc rfl (by decide +kernel) ?_
  try simp only [wI_C, setC_setC, setC_at, setC_ne hdc]
  refine w_aload_n dX0_takeFrom_24 rfl ?_
  refine w_aload_n dX0_takeFrom_25 rfl ?_
  refine w_getI dX0_takeFrom_26 fl_X0_21 hd rfl ?_
  refine w_putI dX0_takeFrom_29 fl_X0_21 hc rfl (by decide +kernel) ?_
  try simp only [wI_C, setC_setC, setC_at, setC_ne hdc]
  refine w_aload_n dX0_takeFrom_32 rfl ?_
  refine w_aload_n dX0_takeFrom_33 rfl ?_
  refine w_getI dX0_takeFrom_34 fl_X0_24 hd rfl ?_
  refine w_putI dX0_takeFrom_37 fl_X0_24 hc rfl (by decide +kernel) ?_
  try simp only [wI_C, setC_setC, setC_at, setC_ne hdc]
  refine w_vret dX0_takeFrom_40 rfl ?_
  exact ⟨rfl, rfl⟩
set_option maxRecDepth 100000 in
set_option maxHeartbeats 800000 in
theorem c3_takeFrom (G : GT) (σ : Sg) (c d : Nat) (hc : kd c = 3) (hd : kd d = 3) (hdc : d ≠ c) : Evv G mX3_takeFrom [.ref c, .ref d] σ (setC σ c (k_take7 (σ.1 c) (σ.1 d))) := by
  refine Ev.ofL (m := 0) (L := [some (.ref c), some (.ref d)]) rfl (Nat.le_of_ble_eq_true rfl) rfl rfl ?_
  refine w_aload_n dX3_takeFrom_0 rfl ?_
  refine w_aload_n dX3_takeFrom_1 rfl ?_
  refine w_getI dX3_takeFrom_2 fl_X3_9 hd rfl ?_
  refine w_putI dX3_takeFrom_5 fl_X3_9 hc rfl (by decide +kernel) ?_
  try simp only [wI_C, setC_setC, setC_at, setC_ne hdc]
  refine w_aload_n dX3_takeFrom_8 rfl ?_
  refine w_aload_n dX3_takeFrom_9 rfl ?_
  refine w_getI dX3_takeFrom_10 fl_X3_15 hd rfl ?_
  refine w_putI dX3_takeFrom_13 fl_X3_15 hc rfl (by decide +kernel) ?_
  try simp only [wI_C, setC_setC, setC_at, setC_ne hdc]
  refine w_aload_n dX3_takeFrom_16 rfl ?_
  refine w_aload_n dX3_takeFrom_17 rfl ?_
  refine w_getI dX3_takeFrom_18 fl_X3_18 hd rfl ?_
  refine w_putI dX3_takeFrom_21 fl_X3_18 hc rfl (by decide +kernel) ?_
  try simp only [wI_C, setC_setC, setC_at, setC_ne hdc]
  refine w_aload_n dX3_takeFrom_24 rfl ?_
  refine w_aload_n dX3_takeFrom_25 rfl ?_
  refine w_getI dX3_takeFrom_26 fl_X3_21 hd rfl ?_
  refine w_putI dX3_takeFrom_29 fl_X3_21 hc rfl (by decide +kernel) ?_
  try simp only [wI_C, setC_setC, setC_at, setC_ne hdc]
  refine w_aload_n dX3_takeFrom_32 rfl ?_
  refine w_aload_n dX3_takeFrom_33 rfl ?_
  refine w_getI dX3_takeFrom_34 fl_X3_24 hd rfl ?_
  refine w_putI dX3_takeFrom_37 fl_X3_24 hc rfl (by decide +kernel) ?_
  try simp only [wI_C, setC_setC, setC_at, setC_ne hdc]
  refine w_aload_n dX3_takeFrom_40 rfl ?_
  refine w_aload_n dX3_takeFrom_41 rfl ?_
  refine w_getI dX3_takeFrom_42 fl_X3_27 hd rfl ?_
  refine w_putI dX3_takeFrom_45 fl_X3_27 hc rfl (by decide +kernel) ?_
  try simp only [wI_C, setC_setC, setC_at, setC_ne hdc]
  refine w_aload_n dX3_takeFrom_48 rfl ?_
  refine w_aload_n dX3_takeFrom_49 rfl ?_
  refine w_getI dX3_takeFrom_50 fl_X3_30 hd rfl ?_
  refine w_putI dX3_takeFrom_53 fl_X3_30 hc rfl (by decide +kernel) ?_
  try simp only [wI_C, setC_setC, setC_at, setC_ne hdc]
  refine w_vret dX3_takeFrom_56 rfl ?_
  exact ⟨rfl, rfl⟩
set_option maxRecDepth 100000 in
set_option maxHeartbeats 800000 in
theorem c3_becomeNew (G : GT) (σ : Sg) (c : Nat) (hc : kd c = 3) (kx pl : Int32) : Evv G mX3_becomeNew [.ref c, .int kx, .int pl] σ (setC σ c (k_new (σ.1 c) kx pl)) := by
  refine Ev.ofL (m := 0) (L := [some (.ref c), some (.int kx), some (.int pl)]) rfl (Nat.le_of_ble_eq_true rfl) rfl rfl ?_
  refine w_aload_n dX3_becomeNew_0 rfl ?_
  refine w_iload_n dX3_becomeNew_1 rfl ?_
  refine w_putI dX3_becomeNew_2 fl_X3_9 hc rfl (by decide +kernel) ?_
  try simp only [wI_C, setC_setC, setC_at]
  refine w_aload_n dX3_becomeNew_5 rfl ?_
  refine w_iload_n dX3_becomeNew_6 rfl ?_
  refine w_putI dX3_becomeNew_7 fl_X3_15 hc rfl (by decide +kernel) ?_
  try simp only [wI_C, setC_setC, setC_at]
  refine w_aload_n dX3_becomeNew_10 rfl ?_
  refine w_bipush dX3_becomeNew_11 bp_10 ?_
  refine w_putI dX3_becomeNew_13 fl_X3_18 hc rfl (by decide +kernel) ?_
  try simp only [wI_C, setC_setC, setC_at]
  refine w_aload_n dX3_becomeNew_16 rfl ?_
  refine w_iconst dX3_becomeNew_17 ic_0 ?_
  refine w_putI dX3_becomeNew_18 fl_X3_21 hc rfl (by decide +kernel) ?_
  try simp only [wI_C, setC_setC, setC_at]
  refine w_aload_n dX3_becomeNew_21 rfl ?_
  refine w_iconst dX3_becomeNew_22 ic_0 ?_
  refine w_putI dX3_becomeNew_23 fl_X3_24 hc rfl (by decide +kernel) ?_
  try simp only [wI_C, setC_setC, setC_at]
  refine w_aload_n dX3_becomeNew_26 rfl ?_
  refine w_iconst dX3_becomeNew_27 ic_0 ?_
  refine w_putI dX3_becomeNew_28 fl_X3_27 hc rfl (by decide +kernel) ?_
  try simp only [wI_C, setC_setC, setC_at]
  refine w_aload_n dX3_becomeNew_31 rfl ?_
  refine w_iconst dX3_becomeNew_32 ic_0 ?_
  refine w_putI dX3_becomeNew_33 fl_X3_30 hc rfl (by decide +kernel) ?_
  try simp only [wI_C, setC_setC, setC_at]
  refine w_vret dX3_becomeNew_36 rfl ?_
  exact ⟨rfl, rfl⟩
def k_part3 (g : Nat → Int32) (w : Int32) : Int32 := if w = 0 then g 0 else if w = 1 then g 1 else if w = 2 then g 2 else if w = 3 then g 3 else if w = 4 then g 4 else if w = 5 then g 5 else g 6
def k_part0 (g : Nat → Int32) (w : Int32) : Int32 := if w = 0 then g 0 else if w = 1 then g 1 else if w = 2 then g 2 else if w = 3 then g 3 else g 4
def k_put0 (g : Nat → Int32) (w v : Int32) : Nat → Int32 := if w = 0 then upd g 0 v else if w = 1 then upd g 1 v else if w = 2 then upd g 2 v else if w = 3 then upd g 3 v else upd g 4 v
set_option maxRecDepth 100000 in
set_option maxHeartbeats 800000 in
theorem c3_part (G : GT) (σ : Sg) (c : Nat) (hc : kd c = 3) (w : Int32) : Evi G mX3_part [.ref c, .int w] σ (k_part3 (σ.1 c) w) (σ) := by
  refine Ev.ofL (m := 0) (L := [some (.ref c), some (.int w)]) rfl (Nat.le_of_ble_eq_true rfl) rfl rfl ?_
  refine w_iload_n dX3_part_0 rfl ?_
  refine sw_0_5 (fun hz1 => ?_) (fun hz1 => ?_) (fun hz1 => ?_) (fun hz1 => ?_) (fun hz1 => ?_) (fun hz1 => ?_) (fun hz1 => ?_)
  · skip
    refine w_tableIn (t := 40) (off := 39) dX3_part_1 (by rw [hz1]; decide) (by rw [hz1]; decide) (by rw [hz1]; rfl) (by decide) ?_
    refine w_aload_n dX3_part_40 rfl ?_
    refine w_getI dX3_part_41 fl_X3_9 hc rfl ?_
    refine w_iret dX3_part_44 rfl ?_
    exact ⟨by simp only [k_part3, eq_true hz1, eq_false (show ¬ w = 1 by rw [hz1]; decide), eq_false (show ¬ w = 2 by rw [hz1]; decide), eq_false (show ¬ w = 3 by rw [hz1]; decide), eq_false (show ¬ w = 4 by rw [hz1]; decide), eq_false (show ¬ w = 5 by rw [hz1]; decide), if_true, if_false], rfl⟩
  · skip
    refine w_tableIn (t := 45) (off := 44) dX3_part_1 (by rw [hz1]; decide) (by rw [hz1]; decide) (by rw [hz1]; rfl) (by decide) ?_
    refine w_aload_n dX3_part_45 rfl ?_
    refine w_getI dX3_part_46 fl_X3_15 hc rfl ?_
    refine w_iret dX3_part_49 rfl ?_
    exact ⟨by simp only [k_part3, eq_true hz1, eq_false (show ¬ w = 0 by rw [hz1]; decide), eq_false (show ¬ w = 2 by rw [hz1]; decide), eq_false (show ¬ w = 3 by rw [hz1]; decide), eq_false (show ¬ w = 4 by rw [hz1]; decide), eq_false (show ¬ w = 5 by rw [hz1]; decide), if_true, if_false], rfl⟩
  · skip
    refine w_tableIn (t := 50) (off := 49) dX3_part_1 (by rw [hz1]; decide) (by rw [hz1]; decide) (by rw [hz1]; rfl) (by decide) ?_
    refine w_aload_n dX3_part_50 rfl ?_
    refine w_getI dX3_part_51 fl_X3_18 hc rfl ?_
    refine w_iret dX3_part_54 rfl ?_
    exact ⟨by simp only [k_part3, eq_true hz1, eq_false (show ¬ w = 0 by rw [hz1]; decide), eq_false (show ¬ w = 1 by rw [hz1]; decide), eq_false (show ¬ w = 3 by rw [hz1]; decide), eq_false (show ¬ w = 4 by rw [hz1]; decide), eq_false (show ¬ w = 5 by rw [hz1]; decide), if_true, if_false], rfl⟩
  · skip
    refine w_tableIn (t := 55) (off := 54) dX3_part_1 (by rw [hz1]; decide) (by rw [hz1]; decide) (by rw [hz1]; rfl) (by decide) ?_
    refine w_aload_n dX3_part_55 rfl ?_
    refine w_getI dX3_part_56 fl_X3_21 hc rfl ?_
    refine w_iret dX3_part_59 rfl ?_
    exact ⟨by simp only [k_part3, eq_true hz1, eq_false (show ¬ w = 0 by rw [hz1]; decide), eq_false (show ¬ w = 1 by rw [hz1]; decide), eq_false (show ¬ w = 2 by rw [hz1]; decide), eq_false (show ¬ w = 4 by rw [hz1]; decide), eq_false (show ¬ w = 5 by rw [hz1]; decide), if_true, if_false], rfl⟩
  · skip
    refine w_tableIn (t := 60) (off := 59) dX3_part_1 (by rw [hz1]; decide) (by rw [hz1]; decide) (by rw [hz1]; rfl) (by decide) ?_
    refine w_aload_n dX3_part_60 rfl ?_
    refine w_getI dX3_part_61 fl_X3_24 hc rfl ?_
    refine w_iret dX3_part_64 rfl ?_
    exact ⟨by simp only [k_part3, eq_true hz1, eq_false (show ¬ w = 0 by rw [hz1]; decide), eq_false (show ¬ w = 1 by rw [hz1]; decide), eq_false (show ¬ w = 2 by rw [hz1]; decide), eq_false (show ¬ w = 3 by rw [hz1]; decide), eq_false (show ¬ w = 5 by rw [hz1]; decide), if_true, if_false], rfl⟩
  · skip
    refine w_tableIn (t := 65) (off := 64) dX3_part_1 (by rw [hz1]; decide) (by rw [hz1]; decide) (by rw [hz1]; rfl) (by decide) ?_
    refine w_aload_n dX3_part_65 rfl ?_
    refine w_getI dX3_part_66 fl_X3_27 hc rfl ?_
    refine w_iret dX3_part_69 rfl ?_
    exact ⟨by simp only [k_part3, eq_true hz1, eq_false (show ¬ w = 0 by rw [hz1]; decide), eq_false (show ¬ w = 1 by rw [hz1]; decide), eq_false (show ¬ w = 2 by rw [hz1]; decide), eq_false (show ¬ w = 3 by rw [hz1]; decide), eq_false (show ¬ w = 4 by rw [hz1]; decide), if_true, if_false], rfl⟩
  · skip
    refine w_tableOut (t := 70) dX3_part_1 hz1.1 (by decide) ?_
    refine w_aload_n dX3_part_70 rfl ?_
    refine w_getI dX3_part_71 fl_X3_30 hc rfl ?_
    refine w_iret dX3_part_74 rfl ?_
    exact ⟨by simp only [k_part3, eq_false hz1.2.1, eq_false hz1.2.2.1, eq_false hz1.2.2.2.1, eq_false hz1.2.2.2.2.1, eq_false hz1.2.2.2.2.2.1, eq_false hz1.2.2.2.2.2.2, if_true, if_false], rfl⟩
set_option maxRecDepth 100000 in
set_option maxHeartbeats 800000 in
theorem c0_part (G : GT) (σ : Sg) (c : Nat) (hc : kd c = 0) (w : Int32) : Evi G mX0_part [.ref c, .int w] σ (k_part0 (σ.1 c) w) (σ) := by
  refine Ev.ofL (m := 0) (L := [some (.ref c), some (.int w)]) rfl (Nat.le_of_ble_eq_true rfl) rfl rfl ?_
  refine w_iload_n dX0_part_0 rfl ?_
  refine sw_0_3 (fun hz1 => ?_) (fun hz1 => ?_) (fun hz1 => ?_) (fun hz1 => ?_) (fun hz1 => ?_)
  · skip
    refine w_tableIn (t := 32) (off := 31) dX0_part_1 (by rw [hz1]; decide) (by rw [hz1]; decide) (by rw [hz1]; rfl) (by decide) ?_
    refine w_aload_n dX0_part_32 rfl ?_
    refine w_getI dX0_part_33 fl_X0_9 hc rfl ?_
    refine w_iret dX0_part_36 rfl ?_
    exact ⟨by simp only [k_part0, eq_true hz1, eq_false (show ¬ w = 1 by rw [hz1]; decide), eq_false (show ¬ w = 2 by rw [hz1]; decide), eq_false (show ¬ w = 3 by rw [hz1]; decide), if_true, if_false], rfl⟩
  · skip
    refine w_tableIn (t := 37) (off := 36) dX0_part_1 (by rw [hz1]; decide) (by rw [hz1]; decide) (by rw [hz1]; rfl) (by decide) ?_
    refine w_aload_n dX0_part_37 rfl ?_
    refine w_getI dX0_part_38 fl_X0_15 hc rfl ?_
    refine w_iret dX0_part_41 rfl ?_
    exact ⟨by simp only [k_part0, eq_true hz1, eq_false (show ¬ w = 0 by rw [hz1]; decide), eq_false (show ¬ w = 2 by rw [hz1]; decide), eq_false (show ¬ w = 3 by rw [hz1]; decide), if_true, if_false], rfl⟩
  · skip
    refine w_tableIn (t := 42) (off := 41) dX0_part_1 (by rw [hz1]; decide) (by rw [hz1]; decide) (by rw [hz1]; rfl) (by decide) ?_
    refine w_aload_n dX0_part_42 rfl ?_
    refine w_getI dX0_part_43 fl_X0_18 hc rfl ?_
    refine w_iret dX0_part_46 rfl ?_
    exact ⟨by simp only [k_part0, eq_true hz1, eq_false (show ¬ w = 0 by rw [hz1]; decide), eq_false (show ¬ w = 1 by rw [hz1]; decide), eq_false (show ¬ w = 3 by rw [hz1]; decide), if_true, if_false], rfl⟩
  · skip
    refine w_tableIn (t := 47) (off := 46) dX0_part_1 (by rw [hz1]; decide) (by rw [hz1]; decide) (by rw [hz1]; rfl) (by decide) ?_
    refine w_aload_n dX0_part_47 rfl ?_
    refine w_getI dX0_part_48 fl_X0_21 hc rfl ?_
    refine w_iret dX0_part_51 rfl ?_
    exact ⟨by simp only [k_part0, eq_true hz1, eq_false (show ¬ w = 0 by rw [hz1]; decide), eq_false (show ¬ w = 1 by rw [hz1]; decide), eq_false (show ¬ w = 2 by rw [hz1]; decide), if_true, if_false], rfl⟩
  · skip
    refine w_tableOut (t := 52) dX0_part_1 hz1.1 (by decide) ?_
    refine w_aload_n dX0_part_52 rfl ?_
    refine w_getI dX0_part_53 fl_X0_24 hc rfl ?_
    refine w_iret dX0_part_56 rfl ?_
    exact ⟨by simp only [k_part0, eq_false hz1.2.1, eq_false hz1.2.2.1, eq_false hz1.2.2.2.1, eq_false hz1.2.2.2.2, if_true, if_false], rfl⟩
set_option maxRecDepth 100000 in
set_option maxHeartbeats 800000 in
theorem c0_setPart (G : GT) (σ : Sg) (c : Nat) (hc : kd c = 0) (w v : Int32) : Evv G mX0_setPart [.ref c, .int w, .int v] σ (setC σ c (k_put0 (σ.1 c) w v)) := by
  refine Ev.ofL (m := 0) (L := [some (.ref c), some (.int w), some (.int v)]) rfl (Nat.le_of_ble_eq_true rfl) rfl rfl ?_
  refine w_iload_n dX0_setPart_0 rfl ?_
  refine sw_0_3 (fun hz1 => ?_) (fun hz1 => ?_) (fun hz1 => ?_) (fun hz1 => ?_) (fun hz1 => ?_)
  · skip
    refine w_tableIn (t := 32) (off := 31) dX0_setPart_1 (by rw [hz1]; decide) (by rw [hz1]; decide) (by rw [hz1]; rfl) (by decide) ?_
    refine w_aload_n dX0_setPart_32 rfl ?_
    refine w_iload_n dX0_setPart_33 rfl ?_
    refine w_putI dX0_setPart_34 fl_X0_9 hc rfl (by decide +kernel) ?_
    try simp only [wI_C, setC_setC, setC_at]
    refine w_goto (t := 69) dX0_setPart_37 (by decide) ?_
    refine w_vret dX0_setPart_69 rfl ?_
    exact ⟨rfl, by simp only [k_put0, eq_true hz1, eq_false (show ¬ w = 1 by rw [hz1]; decide), eq_false (show ¬ w = 2 by rw [hz1]; decide), eq_false (show ¬ w = 3 by rw [hz1]; decide), if_true, if_false]⟩
  · skip
    refine w_tableIn (t := 40) (off := 39) dX0_setPart_1 (by rw [hz1]; decide) (by rw [hz1]; decide) (by rw [hz1]; rfl) (by decide) ?_
    refine w_aload_n dX0_setPart_40 rfl ?_
    refine w_iload_n dX0_setPart_41 rfl ?_
    refine w_putI dX0_setPart_42 fl_X0_15 hc rfl (by decide +kernel) ?_
    try simp only [wI_C, setC_setC, setC_at]
    refine w_goto (t := 69) dX0_setPart_45 (by decide) ?_
    refine w_vret dX0_setPart_69 rfl ?_
    exact ⟨rfl, by simp only [k_put0, eq_true hz1, eq_false (show ¬ w = 0 by rw [hz1]; decide), eq_false (show ¬ w = 2 by rw [hz1]; decide), eq_false (show ¬ w = 3 by rw [hz1]; decide), if_true, if_false]⟩
  · skip
    refine w_tableIn (t := 48) (off := 47) dX0_setPart_1 (by rw [hz1]; decide) (by rw [hz1]; decide) (by rw [hz1]; rfl) (by decide) ?_
    refine w_aload_n dX0_setPart_48 rfl ?_
    refine w_iload_n dX0_setPart_49 rfl ?_
    refine w_putI dX0_setPart_50 fl_X0_18 hc rfl (by decide +kernel) ?_
    try simp only [wI_C, setC_setC, setC_at]
    refine w_goto (t := 69) dX0_setPart_53 (by decide) ?_
    refine w_vret dX0_setPart_69 rfl ?_
    exact ⟨rfl, by simp only [k_put0, eq_true hz1, eq_false (show ¬ w = 0 by rw [hz1]; decide), eq_false (show ¬ w = 1 by rw [hz1]; decide), eq_false (show ¬ w = 3 by rw [hz1]; decide), if_true, if_false]⟩
  · skip
    refine w_tableIn (t := 56) (off := 55) dX0_setPart_1 (by rw [hz1]; decide) (by rw [hz1]; decide) (by rw [hz1]; rfl) (by decide) ?_
    refine w_aload_n dX0_setPart_56 rfl ?_
    refine w_iload_n dX0_setPart_57 rfl ?_
    refine w_putI dX0_setPart_58 fl_X0_21 hc rfl (by decide +kernel) ?_
    try simp only [wI_C, setC_setC, setC_at]
    refine w_goto (t := 69) dX0_setPart_61 (by decide) ?_
    refine w_vret dX0_setPart_69 rfl ?_
    exact ⟨rfl, by simp only [k_put0, eq_true hz1, eq_false (show ¬ w = 0 by rw [hz1]; decide), eq_false (show ¬ w = 1 by rw [hz1]; decide), eq_false (show ¬ w = 2 by rw [hz1]; decide), if_true, if_false]⟩
  · skip
    refine w_tableOut (t := 64) dX0_setPart_1 hz1.1 (by decide) ?_
    refine w_aload_n dX0_setPart_64 rfl ?_
    refine w_iload_n dX0_setPart_65 rfl ?_
    refine w_putI dX0_setPart_66 fl_X0_24 hc rfl (by decide +kernel) ?_
    try simp only [wI_C, setC_setC, setC_at]
    refine w_vret dX0_setPart_69 rfl ?_
    exact ⟨rfl, by simp only [k_put0, eq_false hz1.2.1, eq_false hz1.2.2.1, eq_false hz1.2.2.2.1, eq_false hz1.2.2.2.2, if_true, if_false]⟩
