theorem in_rod {k n : Nat} (hk : k < n) (h8 : n ≤ 8) : ¬ p_in (nI k) 0 (nI n - 1) = 0 := by
  obtain ⟨m, rfl⟩ : ∃ m, n = m + 1 := ⟨n - 1, by omega⟩
  rw [nI_pred m]
  unfold p_in
  have h1 : ¬ nI k < 0 := fun z => absurd (lt_nI (n := 0) (by omega) (by decide) z) (by omega)
  have h2 : ¬ nI m < nI k := fun z => absurd (lt_nI (by omega) (by omega) z) (by omega)
  rw [if_neg h1, if_neg h2]
  decide
def k_held (v : Int32) : Int32 := if 99999 < v then 99999 else v
/-- a rod that is struck, and owes v -/
def k_hit (g : Nat → Int32) (v : Int32) : Nat → Int32 := upd (upd g 6 (k_held (g 6 + 1))) 5 (k_held (upd g 6 (k_held (g 6 + 1)) 5 + v))
set_option maxRecDepth 100000 in
set_option maxHeartbeats 800000 in
theorem c_held (G : GT) (σ : Sg) (v : Int32) : Evi G mX6_held [.int v] σ (k_held v) (σ) := by
  refine Ev.ofL (m := 0) (L := [some (.int v)]) rfl (Nat.le_of_ble_eq_true rfl) rfl rfl ?_
  refine w_iload_n dX6_held_0 rfl ?_
  refine w_ldcw dX6_held_1 kc_X6_313 ?_
  refine w_min dX6_held_4 mi_X6_266 mm_min rfl ?_
  refine w_iret dX6_held_7 rfl ?_
  exact ⟨rfl, rfl⟩
set_option maxRecDepth 100000 in
set_option maxHeartbeats 800000 in
theorem c1_strike0 (G : GT) (σ : Sg) (p : Nat) (hp : kd p = 1) (hp8 : kd (p + 8) = 0) (hp11 : kd (p + 11) = 10) (hp14 : kd (p + 14) = 8) (hr : ∀ j, j < 8 → kd (σ.2.2 (p + 11) j) = 3) (n : Nat) (hn : σ.1 p 2 = nI n) (h8 : n ≤ 8) : Evv G mX1_strike [.ref p, .int (-1)] σ (setC σ p (upd (σ.1 p) 4 (k_held (σ.1 p 4 + σ.1 (p + 8) 1)))) := by
  refine Ev.ofL (m := 2) (L := [some (.ref p), some (.int (-1)), none, none]) rfl (Nat.le_of_ble_eq_true rfl) rfl rfl ?_
  refine w_iconst dX1_strike_0 ic_0 ?_
  refine w_istore_n dX1_strike_1 (by decide) rfl rfl ?_
  dsimp only [List.set]
  refine w_iload_n dX1_strike_2 rfl ?_
  refine w_iconst dX1_strike_3 ic_0 ?_
  refine w_aload_n dX1_strike_4 rfl ?_
  refine w_getI dX1_strike_5 fl_X1_25 hp rfl ?_
  refine w_iconst dX1_strike_8 ic_1 ?_
  refine w_isub dX1_strike_9 ?_
  refine w_callNi (host := "BoltsByOrder") dX1_strike_10 (by decide +kernel) ms_X6_isWithin rfl (c_isWithin G _ _ _ _) rfl rfl (Nat.le_of_ble_eq_true rfl) ?_
  try simp only [wI_C, setC_setC, setC_at]
  refine w_if_eq (t := 65) dX1_strike_13 (by decide) (fun hz1 => ?_) (fun hz1 => absurd rfl hz1)
  refine w_iload_n dX1_strike_65 rfl ?_
  refine w_if_ne (t := 88) dX1_strike_66 (by decide) (fun hz2 => absurd rfl hz2) (fun hz2 => ?_)
  refine w_aload_n dX1_strike_69 rfl ?_
  refine w_aload_n dX1_strike_70 rfl ?_
  refine w_getI dX1_strike_71 fl_X1_32 hp rfl ?_
  refine w_aload_n dX1_strike_74 rfl ?_
  refine w_getR (t := (p + 8)) dX1_strike_75 fl_X1_12 hp (by decide) (by decide) rfl ?_
  refine w_getI dX1_strike_78 fl_X1_78 hp8 rfl ?_
  refine w_iadd dX1_strike_81 ?_
  refine w_callNi (host := "BoltsByOrder") dX1_strike_82 (by decide +kernel) ms_X6_held rfl (c_held G _ _) rfl rfl (Nat.le_of_ble_eq_true rfl) ?_
  try simp only [wI_C, setC_setC, setC_at]
  refine w_putI dX1_strike_85 fl_X1_32 hp rfl (by decide +kernel) ?_
  try simp only [wI_C, setC_setC, setC_at]
  refine w_vret dX1_strike_88 rfl ?_
  exact ⟨rfl, rfl⟩
set_option maxRecDepth 100000 in
set_option maxHeartbeats 800000 in
theorem c1_strikeK (G : GT) (σ : Sg) (p : Nat) (hp : kd p = 1) (hp8 : kd (p + 8) = 0) (hp11 : kd (p + 11) = 10) (hp14 : kd (p + 14) = 8) (hr : ∀ j, j < 8 → kd (σ.2.2 (p + 11) j) = 3) (n : Nat) (hn : σ.1 p 2 = nI n) (h8 : n ≤ 8) (k : Nat) (hk : k < n) : Evv G mX1_strike [.ref p, .int (nI k)] σ (if c_owes (σ.1 (σ.2.2 (p + 11) k)) (σ.1 (p + 8) 1) (p_rem (σ.1 p 3) 24) = 0 then setC (setC σ (σ.2.2 (p + 11) k) (k_hit (σ.1 (σ.2.2 (p + 11) k)) (c_owes (σ.1 (σ.2.2 (p + 11) k)) (σ.1 (p + 8) 1) (p_rem (σ.1 p 3) 24)))) p (upd (σ.1 p) 4 (k_held (σ.1 p 4 + σ.1 (p + 8) 1))) else setC σ (σ.2.2 (p + 11) k) (k_hit (σ.1 (σ.2.2 (p + 11) k)) (c_owes (σ.1 (σ.2.2 (p + 11) k)) (σ.1 (p + 8) 1) (p_rem (σ.1 p 3) 24)))) := by
  have hpr : p ≠ σ.2.2 (p + 11) k := by
    intro z
    have q0 := hr k (by omega)
    rw [← z, hp] at q0
    exact absurd q0 (by decide)
  have hp8r : p + 8 ≠ σ.2.2 (p + 11) k := by
    intro z
    have q0 := hr k (by omega)
    rw [← z, hp8] at q0
    exact absurd q0 (by decide)
  refine Ev.ofL (m := 2) (L := [some (.ref p), some (.int (nI k)), none, none]) rfl (Nat.le_of_ble_eq_true rfl) rfl rfl ?_
  refine w_iconst dX1_strike_0 ic_0 ?_
  refine w_istore_n dX1_strike_1 (by decide) rfl rfl ?_
  dsimp only [List.set]
  refine w_iload_n dX1_strike_2 rfl ?_
  refine w_iconst dX1_strike_3 ic_0 ?_
  refine w_aload_n dX1_strike_4 rfl ?_
  refine w_getI dX1_strike_5 fl_X1_25 hp rfl ?_
  refine w_iconst dX1_strike_8 ic_1 ?_
  refine w_isub dX1_strike_9 ?_
  refine w_callNi (host := "BoltsByOrder") dX1_strike_10 (by decide +kernel) ms_X6_isWithin rfl (c_isWithin G _ _ _ _) rfl rfl (Nat.le_of_ble_eq_true rfl) ?_
  try simp only [wI_C, setC_setC, setC_at, setC_ne hpr, setC_ne hp8r]
  refine w_if_eq (t := 65) dX1_strike_13 (by decide) (fun hz1 => absurd hz1 (by rw [hn]; exact in_rod hk h8)) (fun hz1 => ?_)
  refine w_aload_n dX1_strike_16 rfl ?_
  refine w_getR (t := (p + 11)) dX1_strike_17 fl_X1_20 hp (by decide) (by decide) rfl ?_
  refine w_iload_n dX1_strike_20 rfl ?_
  refine w_aald (j := k) dX1_strike_21 hp11 rfl (by omega) ?_
  refine w_astore_n dX1_strike_22 (by decide) rfl rfl ?_
  dsimp only [List.set]
  refine w_aload_n dX1_strike_23 rfl ?_
  refine w_aload_n dX1_strike_24 rfl ?_
  refine w_getR (t := (p + 8)) dX1_strike_25 fl_X1_12 hp (by decide) (by decide) rfl ?_
  refine w_getI dX1_strike_28 fl_X1_78 hp8 rfl ?_
  refine w_aload_n dX1_strike_31 rfl ?_
  refine w_callVi dX1_strike_32 ml_X1_81 mv_X1_clock rfl hp (by decide) rfl (c1_clock G σ p hp hp8 hp11 hp14 hr) rfl rfl (Nat.le_of_ble_eq_true rfl) ?_
  try simp only [wI_C, setC_setC, setC_at, setC_ne hpr, setC_ne hp8r]
  refine w_callVi dX1_strike_35 ml_X1_85 mv_X3_owesFor rfl (hr k (by omega)) (by decide) rfl (c3_owesFor G _ _ (hr k (by omega)) _ _) rfl rfl (Nat.le_of_ble_eq_true rfl) ?_
  try simp only [wI_C, setC_setC, setC_at, setC_ne hpr, setC_ne hp8r]
  refine w_istore_n dX1_strike_38 (by decide) rfl rfl ?_
  dsimp only [List.set]
  refine w_aload_n dX1_strike_39 rfl ?_
  refine w_aload_n dX1_strike_40 rfl ?_
  refine w_getI dX1_strike_41 fl_X1_89 (hr k (by omega)) rfl ?_
  refine w_iconst dX1_strike_44 ic_1 ?_
  refine w_iadd dX1_strike_45 ?_
  refine w_callNi (host := "BoltsByOrder") dX1_strike_46 (by decide +kernel) ms_X6_held rfl (c_held G _ _) rfl rfl (Nat.le_of_ble_eq_true rfl) ?_
  try simp only [wI_C, setC_setC, setC_at, setC_ne hpr, setC_ne hp8r]
  refine w_putI dX1_strike_49 fl_X1_89 (hr k (by omega)) rfl (by decide +kernel) ?_
  try simp only [wI_C, setC_setC, setC_at, setC_ne hpr, setC_ne hp8r]
  refine w_aload_n dX1_strike_52 rfl ?_
  refine w_aload_n dX1_strike_53 rfl ?_
  refine w_getI dX1_strike_54 fl_X1_95 (hr k (by omega)) rfl ?_
  refine w_iload_n dX1_strike_57 rfl ?_
  refine w_iadd dX1_strike_58 ?_
  refine w_callNi (host := "BoltsByOrder") dX1_strike_59 (by decide +kernel) ms_X6_held rfl (c_held G _ _) rfl rfl (Nat.le_of_ble_eq_true rfl) ?_
  try simp only [wI_C, setC_setC, setC_at, setC_ne hpr, setC_ne hp8r]
  refine w_putI dX1_strike_62 fl_X1_95 (hr k (by omega)) rfl (by decide +kernel) ?_
  try simp only [wI_C, setC_setC, setC_at, setC_ne hpr, setC_ne hp8r]
  refine w_iload_n dX1_strike_65 rfl ?_
  refine w_if_ne (t := 88) dX1_strike_66 (by decide) (fun hz2 => ?_) (fun hz2 => ?_)
  · skip
    refine w_vret dX1_strike_88 rfl ?_
    exact ⟨rfl, by rw [if_neg hz2]; rfl⟩
  · skip
    refine w_aload_n dX1_strike_69 rfl ?_
    refine w_aload_n dX1_strike_70 rfl ?_
    refine w_getI dX1_strike_71 fl_X1_32 hp rfl ?_
    refine w_aload_n dX1_strike_74 rfl ?_
    refine w_getR (t := (p + 8)) dX1_strike_75 fl_X1_12 hp (by decide) (by decide) rfl ?_
    refine w_getI dX1_strike_78 fl_X1_78 hp8 rfl ?_
    refine w_iadd dX1_strike_81 ?_
    refine w_callNi (host := "BoltsByOrder") dX1_strike_82 (by decide +kernel) ms_X6_held rfl (c_held G _ _) rfl rfl (Nat.le_of_ble_eq_true rfl) ?_
    try simp only [wI_C, setC_setC, setC_at, setC_ne hpr, setC_ne hp8r]
    refine w_putI dX1_strike_85 fl_X1_32 hp rfl (by decide +kernel) ?_
    try simp only [wI_C, setC_setC, setC_at, setC_ne hpr, setC_ne hp8r]
    refine w_vret dX1_strike_88 rfl ?_
    exact ⟨rfl, by rw [if_pos hz2]; rfl⟩
