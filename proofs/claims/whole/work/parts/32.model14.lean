def t_item (g : Nat → Int32) (t : Nat) (x : PS) : PS := if t_kind g t x.2.2 < 0 then (if t_is g t x.2.2 1842025 = 0 then (if t_is g t x.2.2 4085956 = 0 then (if t_is g t x.2.2 38363212 = 0 then (x.1, 0, x.2.2) else t_rule g t 4 20 99 x) else t_rule g t 3 0 50 x) else t_cloud g t x) else t_rod g t x (t_kind g t x.2.2)
set_option maxRecDepth 100000 in
set_option maxHeartbeats 800000 in
theorem e7_wantItem (G : GT) (σ : Sg) (σ0 : Sg) (gg : Nat → Int32) (tt : Nat) (x : PS) (hx : PsQ σ0 σ gg tt x) (n : Nat) (hn : x.1 8 = nI n) (h8 : n ≤ 8) : Ev G mX7_wantItem [.ref 50] σ (fun v σ' => v = none ∧ PsQ σ0 σ' gg tt (t_item gg tt x)) := by
  refine Ev.ofL (m := 0) (L := [some (.ref 50)]) rfl (Nat.le_of_ble_eq_true rfl) rfl rfl ?_
  refine w_aload_n dX7_wantItem_0 rfl ?_
  refine w_callVi dX7_wantItem_1 ml_X7_252 mv_X7_kindHere rfl rfl (by decide) rfl (e7_kindHere G _ σ0 gg tt x hx) rfl rfl (Nat.le_of_ble_eq_true rfl) ?_
  refine w_if_lt (t := 18) dX7_wantItem_4 (by decide) (fun hz1 => ?_) (fun hz1 => ?_)
  · skip
    refine w_aload_n dX7_wantItem_18 rfl ?_
    refine w_ldc2 dX7_wantItem_19 kl_X7_258 ?_
    refine w_callVi dX7_wantItem_22 ml_X7_208 mv_X7_isWord rfl rfl (by decide) rfl (e7_isWord G _ σ0 gg tt x hx _) rfl rfl (Nat.le_of_ble_eq_true rfl) ?_
    refine w_if_eq (t := 35) dX7_wantItem_25 (by decide) (fun hz2 => ?_) (fun hz2 => ?_)
    · skip
      refine w_aload_n dX7_wantItem_35 rfl ?_
      refine w_ldc2 dX7_wantItem_36 kl_X7_263 ?_
      refine w_callVi dX7_wantItem_39 ml_X7_208 mv_X7_isWord rfl rfl (by decide) rfl (e7_isWord G _ σ0 gg tt x hx _) rfl rfl (Nat.le_of_ble_eq_true rfl) ?_
      refine w_if_eq (t := 56) dX7_wantItem_42 (by decide) (fun hz3 => ?_) (fun hz3 => ?_)
      · skip
        refine w_aload_n dX7_wantItem_56 rfl ?_
        refine w_ldc2 dX7_wantItem_57 kl_X7_268 ?_
        refine w_callVi dX7_wantItem_60 ml_X7_208 mv_X7_isWord rfl rfl (by decide) rfl (e7_isWord G _ σ0 gg tt x hx _) rfl rfl (Nat.le_of_ble_eq_true rfl) ?_
        refine w_if_eq (t := 78) dX7_wantItem_63 (by decide) (fun hz4 => ?_) (fun hz4 => ?_)
        · skip
          refine w_aload_n dX7_wantItem_78 rfl ?_
          refine w_iconst dX7_wantItem_79 ic_0 ?_
          refine w_putZ dX7_wantItem_80 fl_X7_222 rfl rfl (by decide +kernel) (by decide) ?_
          refine w_vret dX7_wantItem_83 rfl ?_
          rw [t_item, if_pos hz1, if_pos hz2, if_pos hz3, if_pos hz4]
          exact ⟨rfl, hx.good 0⟩
        · skip
          refine w_aload_n dX7_wantItem_66 rfl ?_
          refine w_iconst dX7_wantItem_67 ic_4 ?_
          refine w_bipush dX7_wantItem_68 bp_20 ?_
          refine w_bipush dX7_wantItem_70 bp_99 ?_
          refine w_callVqv dX7_wantItem_72 ml_X7_265 mv_X7_wantRule rfl rfl (by decide) rfl (e7_wantRule G _ σ0 gg tt x hx 4 (by decide) _ _) rfl rfl (Nat.le_of_ble_eq_true rfl) (fun τ9 hx9 => ?_)
          refine w_goto (t := 83) dX7_wantItem_75 (by decide) ?_
          refine w_vret dX7_wantItem_83 rfl ?_
          rw [t_item, if_pos hz1, if_pos hz2, if_pos hz3, if_neg hz4]
          exact ⟨rfl, hx9⟩
      · skip
        refine w_aload_n dX7_wantItem_45 rfl ?_
        refine w_iconst dX7_wantItem_46 ic_3 ?_
        refine w_iconst dX7_wantItem_47 ic_0 ?_
        refine w_bipush dX7_wantItem_48 bp_50 ?_
        refine w_callVqv dX7_wantItem_50 ml_X7_265 mv_X7_wantRule rfl rfl (by decide) rfl (e7_wantRule G _ σ0 gg tt x hx 3 (by decide) _ _) rfl rfl (Nat.le_of_ble_eq_true rfl) (fun τ9 hx9 => ?_)
        refine w_goto (t := 83) dX7_wantItem_53 (by decide) ?_
        refine w_vret dX7_wantItem_83 rfl ?_
        rw [t_item, if_pos hz1, if_pos hz2, if_neg hz3]
        exact ⟨rfl, hx9⟩
    · skip
      refine w_aload_n dX7_wantItem_28 rfl ?_
      refine w_callVqv dX7_wantItem_29 ml_X7_260 mv_X7_wantCloud rfl rfl (by decide) rfl (e7_wantCloud G _ σ0 gg tt x hx) rfl rfl (Nat.le_of_ble_eq_true rfl) (fun τ9 hx9 => ?_)
      refine w_goto (t := 83) dX7_wantItem_32 (by decide) ?_
      refine w_vret dX7_wantItem_83 rfl ?_
      rw [t_item, if_pos hz1, if_neg hz2]
      exact ⟨rfl, hx9⟩
  · skip
    refine w_aload_n dX7_wantItem_7 rfl ?_
    refine w_aload_n dX7_wantItem_8 rfl ?_
    refine w_callVi dX7_wantItem_9 ml_X7_252 mv_X7_kindHere rfl rfl (by decide) rfl (e7_kindHere G _ σ0 gg tt x hx) rfl rfl (Nat.le_of_ble_eq_true rfl) ?_
    refine w_callVqv dX7_wantItem_12 ml_X7_255 mv_X7_wantRod rfl rfl (by decide) rfl (e7_wantRod G _ σ0 gg tt x hx _ n hn h8) rfl rfl (Nat.le_of_ble_eq_true rfl) (fun τ9 hx9 => ?_)
    refine w_goto (t := 83) dX7_wantItem_15 (by decide) ?_
    refine w_vret dX7_wantItem_83 rfl ?_
    rw [t_item, if_neg hz1]
    exact ⟨rfl, hx9⟩
theorem t_rule_8 (g : Nat → Int32) (t k : Nat) (a b : Int32) (x : PS) (hk : 8 ≠ k) : (t_rule g t k a b x).1 8 = x.1 8 := by
  unfold t_rule
  split
  · rfl
  · exact updN hk
theorem t_cl2_row (g : Nat → Int32) (t : Nat) (x : PS) : (t_cl2 g t x).2.1 = x.1 := by
  rw [t_cl2, t_may_row]
  rfl
theorem t_dirS_row (g : Nat → Int32) (t : Nat) (y : PS) : (t_dirS g t y).1 = y.1 := by
  unfold t_dirS
  split <;> rfl
theorem t_cl3_8 (g : Nat → Int32) (t : Nat) (v1 v2 v3 : Int32) (y : PS) : (t_cl3 g t v1 v2 v3 y).1 8 = y.1 8 := by
  unfold t_cl3
  split
  · rfl
  · show upd (upd (upd y.1 0 v1) 1 v2) 2 v3 8 = _
    rw [updN (by decide), updN (by decide), updN (by decide)]
theorem t_cloud_8 (g : Nat → Int32) (t : Nat) (x : PS) : (t_cloud g t x).1 8 = x.1 8 := by
  rw [t_cloud, t_cl3_8, t_dirS_row, t_cl2_row]
theorem t_rod_8 (g : Nat → Int32) (t : Nat) (x : PS) (kx : Int32) {n : Nat} (hn : x.1 8 = nI n) (h8 : n ≤ 8) : ∃ n', (t_rod g t x kx).1 8 = nI n' ∧ n' ≤ 8 := by
  obtain ⟨y0, y1, y2, y3, y4, y5, zf, y6, y7, y8, e0, e1, e2, e3, e4, e5, eF, e6, e7, e8, eR⟩ := t_rod_ex g t x kx
  have h4r : y4.1 = x.1 := by rw [e4, e3, e2, e1, e0]; rfl
  have h5r : y5.2.1 = x.1 := by rw [e5, t_may_row, h4r]
  have h6r : y6.2.1 = x.1 := by rw [e6, t_may_row, h5r]
  have h7r : y7.1 = x.1 := by
    rw [e7]
    split
    · exact h6r
    · split
      · exact h6r
      · exact h6r
  have h8r : y8.2.1 = x.1 := by
    rw [e8]
    split
    · exact h7r
    · rw [t_may_row, h7r]
  rw [eR]
  split
  · exact ⟨n, by rw [e0]; exact hn, h8⟩
  · rename_i q0
    split
    · exact ⟨n, by rw [e2, e1, e0]; exact hn, h8⟩
    · split
      · exact ⟨n, by rw [h8r]; exact hn, h8⟩
      · refine ⟨n + 1, ?_, ?_⟩
        · show p_add y8.2.1 (x.1 8).toNatClampNeg kx (tkV g t y3.2.2) y5.1 y6.1 y8.1 8 = _
          rw [show (x.1 8).toNatClampNeg = n by rw [hn]; exact nI_clamp (by omega), p_add, updS]
        · rw [e0] at q0
          have q1 : x.1 8 < 8 := by
            apply Classical.byContradiction
            intro hh
            exact q0 (if_neg hh)
          rw [hn] at q1
          have := lt_nI (n := 8) (by omega) (by decide) q1
          omega
theorem t_item_8 (g : Nat → Int32) (t : Nat) (x : PS) {n : Nat} (hn : x.1 8 = nI n) (h8 : n ≤ 8) : ∃ n', (t_item g t x).1 8 = nI n' ∧ n' ≤ 8 := by
  unfold t_item
  split
  · split
    · split
      · split
        · exact ⟨n, hn, h8⟩
        · exact ⟨n, by rw [t_rule_8 _ _ _ _ _ _ (by decide)]; exact hn, h8⟩
      · exact ⟨n, by rw [t_rule_8 _ _ _ _ _ _ (by decide)]; exact hn, h8⟩
    · exact ⟨n, by rw [t_cloud_8]; exact hn, h8⟩
  · exact t_rod_8 g t x _ hn h8
