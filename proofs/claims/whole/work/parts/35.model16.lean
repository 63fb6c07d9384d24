/-- what fork wants of a row -/
def FkV (f : Nat → Int32) (n : Nat) : Prop := (∀ k, k < n → ∃ a : Nat, a < 2 ^ 31 ∧ p_draws f k (f 0) * f 1 = nI a) ∧ ∃ b : Nat, b < 2 ^ 31 ∧ p_drawSum f (f 0) n = nI b ∧ ∀ k, k < n → ¬ p_draws f k (f 0) * f 1 = 0 → 0 < b
theorem gcd_nz {a b : Nat} (hb : 0 < b) (h31 : b < 2 ^ 31) : ¬ nI (Nat.gcd a b) = 0 := by
  have h1 := Nat.gcd_pos_of_pos_right a hb
  have h2 := Nat.gcd_le_right a hb
  intro h
  have h3 := (nI_eq (show Nat.gcd a b < 2 ^ 31 by omega) (show 0 < 2 ^ 31 by decide)).mp (h.trans rfl)
  omega
set_option maxRecDepth 100000 in
set_option maxHeartbeats 800000 in
theorem m_fork (G : GT) (σ : Sg) (r part : Int32) (n : Nat) (hn : σ.1 51 8 = nI n) (h8 : n ≤ 8) (hfk : FkV (σ.1 51) n) : Ev G mX7_fork [.ref 50, .int r, .int part] σ (PQ σ (M_fork (obs σ) r part)) := by
  have hnR := nR_of hn h8
  refine Ev.ofL (m := 3) (L := [some (.ref 50), some (.int r), some (.int part), none, none, none]) rfl (Nat.le_of_ble_eq_true rfl) rfl rfl ?_
  refine w_aload_n dX7_fork_0 rfl ?_
  refine w_iload_n dX7_fork_1 rfl ?_
  refine w_callVi dX7_fork_2 ml_X7_87 mv_X7_isRod rfl rfl (by decide) rfl (e7_isRod G _ _) rfl rfl (Nat.le_of_ble_eq_true rfl) ?_
  refine w_if_eq (t := 17) dX7_fork_5 (by decide) (fun hz1 => ?_) (fun hz1 => ?_)
  · skip
    refine w_aload_n dX7_fork_17 rfl ?_
    refine w_ldc dX7_fork_18 kc_X7_44 ?_
    refine w_callVi dX7_fork_20 ml_X7_53 mv_X7_finds rfl rfl (by decide) rfl (e7_finds G _ _ 0 (by decide) (by decide)) rfl rfl (Nat.le_of_ble_eq_true rfl) ?_
    refine w_iret dX7_fork_23 rfl ?_
    try simp only [setR_51, setR_setR, wI_51]
    first
    | exact PQ.fnd (by simp only [M_fork, obs_1, hnR, if_true, if_false, eq_true hz1])
    | exact PQ.same (by simp only [M_fork, obs_1, hnR, if_true, if_false, eq_true hz1])
    | exact PQ.row (by simp only [M_fork, obs_1, hnR, if_true, if_false, eq_true hz1])
  · skip
    refine w_iload_n dX7_fork_8 rfl ?_
    refine w_iconst dX7_fork_9 ic_0 ?_
    refine w_iconst dX7_fork_10 ic_1 ?_
    refine w_callSi dX7_fork_11 ml_X7_45 ms_X7_in rfl (e7_in G _ _ _ _) rfl rfl (Nat.le_of_ble_eq_true rfl) ?_
    refine w_if_ne (t := 24) dX7_fork_14 (by decide) (fun hz2 => ?_) (fun hz2 => ?_)
    · skip
      obtain ⟨k, hk, rfl⟩ := rod_of hz1 hn h8
      have hck : (nI k).toNatClampNeg = k := nI_clamp (by omega)
      · skip
        refine w_aload_n dX7_fork_24 rfl ?_
        refine w_iload_n dX7_fork_25 rfl ?_
        refine w_aload_n dX7_fork_26 rfl ?_
        refine w_getR (t := 51) dX7_fork_27 fl_X7_7 rfl (by decide) (by decide) rfl ?_
        refine w_iconst dX7_fork_30 ic_0 ?_
        refine w_iald (j := 0) dX7_fork_31 rfl (by decide) rfl (by decide) ?_
        refine w_callVi dX7_fork_32 ml_X7_90 mv_X7_draws rfl rfl (by decide) rfl (e7_draws G _ k _ (by omega)) rfl rfl (Nat.le_of_ble_eq_true rfl) ?_
        refine w_aload_n dX7_fork_35 rfl ?_
        refine w_getR (t := 51) dX7_fork_36 fl_X7_7 rfl (by decide) (by decide) rfl ?_
        refine w_iconst dX7_fork_39 ic_1 ?_
        refine w_iald (j := 1) dX7_fork_40 rfl (by decide) rfl (by decide) ?_
        refine w_imul dX7_fork_41 ?_
        obtain ⟨a, ha, hea⟩ := hfk.1 k (by omega)
        obtain ⟨b, hb31, heb, hbz⟩ := hfk.2
        refine w_eqi hea ?_
        · skip
          refine w_istore_n dX7_fork_42 (by decide) rfl rfl ?_
          dsimp only [List.set]
          refine w_iload_n dX7_fork_43 rfl ?_
          refine w_if_ne (t := 51) dX7_fork_44 (by decide) (fun hz3 => ?_) (fun hz3 => ?_)
          · skip
            refine w_aload_n dX7_fork_51 rfl ?_
            refine w_callVi dX7_fork_52 ml_X7_166 mv_X7_drawAll rfl rfl (by decide) rfl (e7_drawAll G _ n hn h8) rfl rfl (Nat.le_of_ble_eq_true rfl) ?_
            have hbp : 0 < b := hbz k (by omega) (by rw [hea]; exact hz3)
            refine w_eqi heb ?_
            · skip
              refine w_istore dX7_fork_55 (by decide) rfl rfl ?_
              dsimp only [List.set]
              refine w_iload_n dX7_fork_57 rfl ?_
              refine w_iload dX7_fork_58 rfl ?_
              refine w_callSi dX7_fork_60 ml_X7_169 ms_X7_divisor rfl (e7_divisor G _ a b ha hb31) rfl rfl (Nat.le_of_ble_eq_true rfl) ?_
              refine w_istore dX7_fork_63 (by decide) rfl rfl ?_
              dsimp only [List.set]
              refine w_iload_n dX7_fork_65 rfl ?_
              refine w_if_ne (t := 76) dX7_fork_66 (by decide) (fun hz4 => ?_) (fun hz4 => ?_)
              · skip
                refine w_iload dX7_fork_76 rfl ?_
                refine w_iload dX7_fork_78 rfl ?_
                refine w_idiv dX7_fork_80 (gcd_nz hbp hb31) ?_
                refine w_iret dX7_fork_81 rfl ?_
                have hfA : p_forkA (σ.1 51) k = a := by
                  unfold p_forkA
                  rw [hea]
                  exact nI_clamp (by omega)
                have ha0 := (nI_eq ha (by decide : 0 < 2 ^ 31))
                have hfB : p_forkB (σ.1 51) n k = b := by
                  unfold p_forkB
                  rw [hfA, if_neg (fun z => hz3 (by rw [z]; rfl)), heb]
                  exact nI_clamp (by omega)
                rw [pk_div hb31 (Nat.gcd_pos_of_pos_right a hbp) (by have := Nat.gcd_le_right a hbp; omega)]
                exact PQ.same (by simp only [M_fork, obs_1, hnR, hck, hfA, hfB, eq_false hz1, eq_false hz2, eq_false hz4, if_true, if_false])
              · skip
                refine w_iload_n dX7_fork_69 rfl ?_
                refine w_iload dX7_fork_70 rfl ?_
                refine w_idiv dX7_fork_72 (gcd_nz hbp hb31) ?_
                refine w_goto (t := 81) dX7_fork_73 (by decide) ?_
                refine w_iret dX7_fork_81 rfl ?_
                have hfA : p_forkA (σ.1 51) k = a := by
                  unfold p_forkA
                  rw [hea]
                  exact nI_clamp (by omega)
                have ha0 := (nI_eq ha (by decide : 0 < 2 ^ 31))
                have hfB : p_forkB (σ.1 51) n k = b := by
                  unfold p_forkB
                  rw [hfA, if_neg (fun z => hz3 (by rw [z]; rfl)), heb]
                  exact nI_clamp (by omega)
                rw [pk_div ha (Nat.gcd_pos_of_pos_right a hbp) (by have := Nat.gcd_le_right a hbp; omega)]
                exact PQ.same (by simp only [M_fork, obs_1, hnR, hck, hfA, hfB, eq_false hz1, eq_false hz2, eq_true hz4, if_true, if_false])
          · skip
            refine w_iconst dX7_fork_47 ic_1 ?_
            refine w_goto (t := 55) dX7_fork_48 (by decide) ?_
            have hbp : 0 < 1 := by decide
            replace hb31 : 1 < 2 ^ 31 := by decide
            · skip
              refine w_istore dX7_fork_55 (by decide) rfl rfl ?_
              dsimp only [List.set]
              refine w_iload_n dX7_fork_57 rfl ?_
              refine w_iload dX7_fork_58 rfl ?_
              refine w_callSi dX7_fork_60 ml_X7_169 ms_X7_divisor rfl (e7_divisor G _ a 1 ha hb31) rfl rfl (Nat.le_of_ble_eq_true rfl) ?_
              refine w_istore dX7_fork_63 (by decide) rfl rfl ?_
              dsimp only [List.set]
              refine w_iload_n dX7_fork_65 rfl ?_
              refine w_if_ne (t := 76) dX7_fork_66 (by decide) (fun hz5 => ?_) (fun hz5 => ?_)
              · skip
                refine w_iload dX7_fork_76 rfl ?_
                refine w_iload dX7_fork_78 rfl ?_
                refine w_idiv dX7_fork_80 (gcd_nz hbp hb31) ?_
                refine w_iret dX7_fork_81 rfl ?_
                have hfA : p_forkA (σ.1 51) k = a := by
                  unfold p_forkA
                  rw [hea]
                  exact nI_clamp (by omega)
                have ha0 := (nI_eq ha (by decide : 0 < 2 ^ 31))
                have hfB : p_forkB (σ.1 51) n k = 1 := by
                  unfold p_forkB
                  rw [hfA, if_pos (ha0.mp (hz3.trans rfl))]
                rw [show (1 : Int32) / nI (Nat.gcd a 1) = nI 1 / nI (Nat.gcd a 1) from rfl]
                rw [pk_div hb31 (Nat.gcd_pos_of_pos_right a hbp) (by have := Nat.gcd_le_right a hbp; omega)]
                exact PQ.same (by simp only [M_fork, obs_1, hnR, hck, hfA, hfB, eq_false hz1, eq_false hz2, eq_false hz5, if_true, if_false])
              · skip
                refine w_iload_n dX7_fork_69 rfl ?_
                refine w_iload dX7_fork_70 rfl ?_
                refine w_idiv dX7_fork_72 (gcd_nz hbp hb31) ?_
                refine w_goto (t := 81) dX7_fork_73 (by decide) ?_
                refine w_iret dX7_fork_81 rfl ?_
                have hfA : p_forkA (σ.1 51) k = a := by
                  unfold p_forkA
                  rw [hea]
                  exact nI_clamp (by omega)
                have ha0 := (nI_eq ha (by decide : 0 < 2 ^ 31))
                have hfB : p_forkB (σ.1 51) n k = 1 := by
                  unfold p_forkB
                  rw [hfA, if_pos (ha0.mp (hz3.trans rfl))]
                rw [pk_div ha (Nat.gcd_pos_of_pos_right a hbp) (by have := Nat.gcd_le_right a hbp; omega)]
                exact PQ.same (by simp only [M_fork, obs_1, hnR, hck, hfA, hfB, eq_false hz1, eq_false hz2, eq_true hz5, if_true, if_false])
    · skip
      refine w_aload_n dX7_fork_17 rfl ?_
      refine w_ldc dX7_fork_18 kc_X7_44 ?_
      refine w_callVi dX7_fork_20 ml_X7_53 mv_X7_finds rfl rfl (by decide) rfl (e7_finds G _ _ 0 (by decide) (by decide)) rfl rfl (Nat.le_of_ble_eq_true rfl) ?_
      refine w_iret dX7_fork_23 rfl ?_
      try simp only [setR_51, setR_setR, wI_51]
      first
      | exact PQ.fnd (by simp only [M_fork, obs_1, hnR, if_true, if_false, eq_false hz1, eq_true hz2])
      | exact PQ.same (by simp only [M_fork, obs_1, hnR, if_true, if_false, eq_false hz1, eq_true hz2])
      | exact PQ.row (by simp only [M_fork, obs_1, hnR, if_true, if_false, eq_false hz1, eq_true hz2])
