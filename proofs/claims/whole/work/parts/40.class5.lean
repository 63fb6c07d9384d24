/-- a plain after a strike at target o -/
def k_strike (σ : Sg) (p : Nat) : Option Nat → Sg
  | none => setC σ p (upd (σ.1 p) 4 (k_held (σ.1 p 4 + σ.1 (p + 8) 1)))
  | some k => if c_owes (σ.1 (σ.2.2 (p + 11) k)) (σ.1 (p + 8) 1) (p_rem (σ.1 p 3) 24) = 0 then setC (setC σ (σ.2.2 (p + 11) k) (k_hit (σ.1 (σ.2.2 (p + 11) k)) (c_owes (σ.1 (σ.2.2 (p + 11) k)) (σ.1 (p + 8) 1) (p_rem (σ.1 p 3) 24)))) p (upd (σ.1 p) 4 (k_held (σ.1 p 4 + σ.1 (p + 8) 1))) else setC σ (σ.2.2 (p + 11) k) (k_hit (σ.1 (σ.2.2 (p + 11) k)) (c_owes (σ.1 (σ.2.2 (p + 11) k)) (σ.1 (p + 8) 1) (p_rem (σ.1 p 3) 24)))
theorem c1_strike (G : GT) (σ : Sg) (p : Nat) (hp : kd p = 1) (hp8 : kd (p + 8) = 0) (hp11 : kd (p + 11) = 10) (hp14 : kd (p + 14) = 8) (hr : ∀ j, j < 8 → kd (σ.2.2 (p + 11) j) = 3) (n : Nat) (hn : σ.1 p 2 = nI n) (h8 : n ≤ 8) (o : Option Nat) (ho : ∀ k, o = some k → k < n) : Evv G mX1_strike [.ref p, .int (oI o)] σ (k_strike σ p o) := by
  cases o with
  | none => exact c1_strike0 G σ p hp hp8 hp11 hp14 hr n hn h8
  | some k => exact c1_strikeK G σ p hp hp8 hp11 hp14 hr n hn h8 k (ho k rfl)
def k_tick (σ : Sg) (p : Nat) : Sg := setC (setC σ (p + 8) (k_pass (σ.1 (p + 8)))) p (upd (σ.1 p) 3 (σ.1 p 3 + 1))
set_option maxRecDepth 100000 in
set_option maxHeartbeats 800000 in
theorem c1_goHour (G : GT) (σ : Sg) (p : Nat) (hp : kd p = 1) (hp8 : kd (p + 8) = 0) (hp11 : kd (p + 11) = 10) (hp14 : kd (p + 14) = 8) (hr : ∀ j, j < 8 → kd (σ.2.2 (p + 11) j) = 3) (h62 : p + 14 < 62) (hl14 : ln (p + 14) = 16) (n : Nat) (hn : σ.1 p 2 = nI n) (h8 : n ≤ 8) (q : Nat) (hq16 : q < 16) (hq : σ.1 (p + 8) 0 = nI q) (o : Option Nat) (ho : ∀ k, o = some k → k < n) (hto : σ.1 (p + 14) q = oI o) : Evv G mX1_goHour [.ref p] σ (k_tick (if k_breaks (σ.1 (p + 8)) = 0 then σ else k_strike σ p o) p) := by
  refine Ev.ofL (m := 0) (L := [some (.ref p)]) rfl (Nat.le_of_ble_eq_true rfl) rfl rfl ?_
  refine w_aload_n dX1_goHour_0 rfl ?_
  refine w_getR (t := (p + 8)) dX1_goHour_1 fl_X1_12 hp (by decide) (by decide) rfl ?_
  refine w_callVi dX1_goHour_4 ml_X1_60 mv_X0_isBreaking rfl hp8 (by decide) rfl (c0_isBreaking G _ (p + 8) hp8) rfl rfl (Nat.le_of_ble_eq_true rfl) ?_
  try simp only [wI_C, setC_at, setC_ne (show p ≠ p + 8 by omega)]
  refine w_if_eq (t := 26) dX1_goHour_7 (by decide) (fun hz1 => ?_) (fun hz1 => ?_)
  · skip
    refine w_aload_n dX1_goHour_26 rfl ?_
    refine w_getR (t := (p + 8)) dX1_goHour_27 fl_X1_12 hp (by decide) (by decide) rfl ?_
    refine w_callVv dX1_goHour_30 ml_X1_71 mv_X0_passHour rfl hp8 (by decide) rfl (c0_passHour G _ (p + 8) hp8) rfl rfl (Nat.le_of_ble_eq_true rfl) ?_
    try simp only [wI_C, setC_at, setC_ne (show p ≠ p + 8 by omega)]
    refine w_aload_n dX1_goHour_33 rfl ?_
    refine w_dup dX1_goHour_34 rfl ?_
    refine w_getI dX1_goHour_35 fl_X1_29 hp rfl ?_
    refine w_iconst dX1_goHour_38 ic_1 ?_
    refine w_iadd dX1_goHour_39 ?_
    refine w_putI dX1_goHour_40 fl_X1_29 hp rfl (by decide +kernel) ?_
    try simp only [wI_C, setC_at, setC_ne (show p ≠ p + 8 by omega)]
    refine w_vret dX1_goHour_43 rfl ?_
    exact ⟨rfl, by rw [if_pos hz1]; rfl⟩
  · skip
    refine w_aload_n dX1_goHour_10 rfl ?_
    refine w_aload_n dX1_goHour_11 rfl ?_
    refine w_getR (t := (p + 14)) dX1_goHour_12 fl_X1_38 hp (by decide) (by decide) rfl ?_
    refine w_aload_n dX1_goHour_15 rfl ?_
    refine w_getR (t := (p + 8)) dX1_goHour_16 fl_X1_12 hp (by decide) (by decide) rfl ?_
    refine w_getI dX1_goHour_19 fl_X1_64 hp8 rfl ?_
    refine w_eqi hq ?_
    · skip
      refine w_iald (j := q) dX1_goHour_22 hp14 (by omega) rfl (by rw [hl14]; exact hq16) ?_
      refine w_eqi hto ?_
      · skip
        refine w_callVv dX1_goHour_23 ml_X1_67 mv_X1_strike rfl hp (by decide) rfl (c1_strike G σ p hp hp8 hp11 hp14 hr n hn h8 o ho) rfl rfl (Nat.le_of_ble_eq_true rfl) ?_
        try simp only [wI_C, setC_at, setC_ne (show p ≠ p + 8 by omega)]
        refine w_aload_n dX1_goHour_26 rfl ?_
        refine w_getR (t := (p + 8)) dX1_goHour_27 fl_X1_12 hp (by decide) (by decide) rfl ?_
        refine w_callVv dX1_goHour_30 ml_X1_71 mv_X0_passHour rfl hp8 (by decide) rfl (c0_passHour G _ (p + 8) hp8) rfl rfl (Nat.le_of_ble_eq_true rfl) ?_
        try simp only [wI_C, setC_at, setC_ne (show p ≠ p + 8 by omega)]
        refine w_aload_n dX1_goHour_33 rfl ?_
        refine w_dup dX1_goHour_34 rfl ?_
        refine w_getI dX1_goHour_35 fl_X1_29 hp rfl ?_
        refine w_iconst dX1_goHour_38 ic_1 ?_
        refine w_iadd dX1_goHour_39 ?_
        refine w_putI dX1_goHour_40 fl_X1_29 hp rfl (by decide +kernel) ?_
        try simp only [wI_C, setC_at, setC_ne (show p ≠ p + 8 by omega)]
        refine w_vret dX1_goHour_43 rfl ?_
        exact ⟨rfl, by rw [if_neg hz1]; rfl⟩
