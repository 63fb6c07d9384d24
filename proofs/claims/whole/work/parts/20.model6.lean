set_option maxRecDepth 100000 in
set_option maxHeartbeats 4000000 in
theorem m_steals (G : GT) (σ : Sg) (r : Int32) (n : Nat) (hn : σ.1 51 8 = nI n) (h8 : n ≤ 8) : Ev G mX7_steals [.ref 50, .int r] σ (PQ σ (M_steals (obs σ) r)) := by
  have hnR := nR_of hn h8
  refine Ev.ofL (m := 1) (L := [some (.ref 50), some (.int r), none]) rfl (Nat.le_of_ble_eq_true rfl) rfl rfl ?_
  refine w_aload_n dX7_steals_0 rfl ?_
  refine w_iload_n dX7_steals_1 rfl ?_
  refine w_callVi dX7_steals_2 ml_X7_87 mv_X7_isRod rfl rfl (by decide) rfl (e7_isRod G _ _) rfl rfl (Nat.le_of_ble_eq_true rfl) ?_
  try simp only [wI_51, setR_setR, setR_51]
  refine w_if_ne (t := 15) dX7_steals_5 (by decide) (fun hz1 => ?_) (fun hz1 => ?_)
  · skip
    obtain ⟨k, hk, rfl⟩ := rod_of hz1 hn h8
    have hck : (nI k).toNatClampNeg = k := nI_clamp (by omega)
    · skip
      refine w_iconst dX7_steals_15 ic_0 ?_
      refine w_istore_n dX7_steals_16 (by decide) rfl rfl ?_
      dsimp only [List.set]
      have lp : ∀ (m : Nat) (i : Nat) (τ : Sg), 61 - i < m → i ≤ 61 → Mq σ τ → p_fst (fun i => p_isStr (σ.1 51) n k (nI i)) (61 - i) i = p_fst (fun i => p_isStr (σ.1 51) n k (nI i)) 61 0 → WP G mX7_steals 17 [some (.ref 50), some (.int (nI k)), some (.int (nI i))] [] (τ) (PQ σ (M_steals (obs σ) (nI k))) := by
        intro m
        induction m with
        | zero => intro i τ hm; exact absurd hm (Nat.not_lt_zero _)
        | succ m ih =>
          intro i τ hm hi hmq hps
          refine w_iload_n dX7_steals_17 rfl ?_
          refine w_bipush dX7_steals_18 bp_60 ?_
          refine w_icmp_gt (t := 38) dX7_steals_20 (by decide) (fun hz2 => ?_) (fun hz2 => ?_)
          · skip
            have hmq2 := hmq
            have h61 := lt_nI (r := 60) (by decide) (by omega) hz2
            have h6e : i = p_fst (fun i => p_isStr (σ.1 51) n k (nI i)) 61 0 := by rw [← hps, show 61 - i = 0 by omega]; rfl
            refine w_iload_n dX7_steals_38 rfl ?_
            refine w_bipush dX7_steals_39 bp_60 ?_
            refine w2_icmp_le (t := 53) dX7_steals_41 (by decide) (fun hz3 => ?_) (fun hz3 => ?_)
            · skip
              refine w_iload_n dX7_steals_53 rfl ?_
              refine w_iret dX7_steals_54 rfl ?_
              have h60 : ¬ i = 61 := by
                have := nlt_nI (r := 60) (by decide) (by omega) hz3
                omega
              exact PQ.mq (by simp only [M_steals, obs_1, hnR, hck, ← h6e, eq_false hz1, eq_false h60, if_false]) hmq2
            · skip
              refine w_aload_n dX7_steals_44 rfl ?_
              refine w_ldc dX7_steals_45 kc_X7_149 ?_
              refine w_callVi dX7_steals_47 ml_X7_53 mv_X7_finds rfl rfl (by decide) rfl (e7_finds G _ _ 3 (by decide) (by decide)) rfl rfl (Nat.le_of_ble_eq_true rfl) ?_
              try simp only [wI_51, setR_setR, setR_51]
              refine w_goto (t := 54) dX7_steals_50 (by decide) ?_
              refine w_iret dX7_steals_54 rfl ?_
              have h61 : i = 61 := by
                have := lt_nI (r := 60) (by decide) (by omega) hz3
                omega
              subst h61
              exact PQ.mqf (by simp only [M_steals, obs_1, hnR, hck, ← h6e, eq_false hz1, if_true, if_false]) hmq2
          · skip
            have hle := nlt_nI (r := 60) (by decide) (by omega) hz2
            refine w_aload_n dX7_steals_23 rfl ?_
            refine w_iload_n dX7_steals_24 rfl ?_
            refine w_iload_n dX7_steals_25 rfl ?_
            refine w_callVqi dX7_steals_26 ml_X7_150 mv_X7_isStruckBy rfl rfl (by decide) rfl (e7_isStruckBy G _ k (nI i) (by omega) n (by rw [hmq.1]; exact hn) h8) rfl rfl (Nat.le_of_ble_eq_true rfl) (fun τ1 hq => ?_)
            try simp only [wI_51, setR_setR, setR_51]
            refine w_if_ne (t := 38) dX7_steals_29 (by decide) (fun hz4 => ?_) (fun hz4 => ?_)
            · skip
              have hmq2 := hmq.trans hq
              have hb1 := hz4
              rw [hmq.1] at hb1
              have h61 := nlt_nI (r := 60) (by decide) (by omega) hz2
              have h6e : i = p_fst (fun i => p_isStr (σ.1 51) n k (nI i)) 61 0 := by rw [← hps, show 61 - i = (61 - (i + 1)) + 1 by omega, p_fst, if_neg hb1]
              refine w_iload_n dX7_steals_38 rfl ?_
              refine w_bipush dX7_steals_39 bp_60 ?_
              refine w2_icmp_le (t := 53) dX7_steals_41 (by decide) (fun hz5 => ?_) (fun hz5 => ?_)
              · skip
                refine w_iload_n dX7_steals_53 rfl ?_
                refine w_iret dX7_steals_54 rfl ?_
                have h60 : ¬ i = 61 := by
                  have := nlt_nI (r := 60) (by decide) (by omega) hz5
                  omega
                exact PQ.mq (by simp only [M_steals, obs_1, hnR, hck, ← h6e, eq_false hz1, eq_false h60, if_false]) hmq2
              · skip
                refine w_aload_n dX7_steals_44 rfl ?_
                refine w_ldc dX7_steals_45 kc_X7_149 ?_
                refine w_callVi dX7_steals_47 ml_X7_53 mv_X7_finds rfl rfl (by decide) rfl (e7_finds G _ _ 3 (by decide) (by decide)) rfl rfl (Nat.le_of_ble_eq_true rfl) ?_
                try simp only [wI_51, setR_setR, setR_51]
                refine w_goto (t := 54) dX7_steals_50 (by decide) ?_
                refine w_iret dX7_steals_54 rfl ?_
                have h61 : i = 61 := by
                  have := lt_nI (r := 60) (by decide) (by omega) hz5
                  omega
                subst h61
                exact PQ.mqf (by simp only [M_steals, obs_1, hnR, hck, ← h6e, eq_false hz1, if_true, if_false]) hmq2
            · skip
              have hb0 := hz4
              rw [hmq.1] at hb0
              refine w_iincN (a := i) (b := 1) dX7_steals_32 rfl ic_1 (by decide) rfl rfl ?_
              dsimp only [List.set]
              refine w_goto (t := 17) dX7_steals_35 (by decide) ?_
              exact ih (i + 1) _ (by omega) (by omega) (hmq.trans hq) (by rw [← hps, show 61 - i = (61 - (i + 1)) + 1 by omega, p_fst, if_pos hb0])
      exact lp 62 0 σ (by omega) (by omega) Mq.rfl rfl
  · skip
    refine w_aload_n dX7_steals_8 rfl ?_
    refine w_ldc dX7_steals_9 kc_X7_44 ?_
    refine w_callVi dX7_steals_11 ml_X7_53 mv_X7_finds rfl rfl (by decide) rfl (e7_finds G _ _ 0 (by decide) (by decide)) rfl rfl (Nat.le_of_ble_eq_true rfl) ?_
    try simp only [wI_51, setR_setR, setR_51]
    refine w_iret dX7_steals_14 rfl ?_
    try simp only [setR_51, setR_setR, wI_51]
    first
    | exact PQ.fnd (by simp only [M_steals, obs_1, hnR, if_true, if_false, eq_true hz1])
    | exact PQ.same (by simp only [M_steals, obs_1, hnR, if_true, if_false, eq_true hz1])
    | exact PQ.row (by simp only [M_steals, obs_1, hnR, if_true, if_false, eq_true hz1])
set_option maxRecDepth 100000 in
set_option maxHeartbeats 4000000 in
theorem m_ducks (G : GT) (σ : Sg) (r : Int32) (n : Nat) (hn : σ.1 51 8 = nI n) (h8 : n ≤ 8) : Ev G mX7_ducks [.ref 50, .int r] σ (PQ σ (M_ducks (obs σ) r)) := by
  have hnR := nR_of hn h8
  refine Ev.ofL (m := 1) (L := [some (.ref 50), some (.int r), none]) rfl (Nat.le_of_ble_eq_true rfl) rfl rfl ?_
  refine w_aload_n dX7_ducks_0 rfl ?_
  refine w_iload_n dX7_ducks_1 rfl ?_
  refine w_callVi dX7_ducks_2 ml_X7_87 mv_X7_isRod rfl rfl (by decide) rfl (e7_isRod G _ _) rfl rfl (Nat.le_of_ble_eq_true rfl) ?_
  try simp only [wI_51, setR_setR, setR_51]
  refine w_if_ne (t := 15) dX7_ducks_5 (by decide) (fun hz1 => ?_) (fun hz1 => ?_)
  · skip
    obtain ⟨k, hk, rfl⟩ := rod_of hz1 hn h8
    have hck : (nI k).toNatClampNeg = k := nI_clamp (by omega)
    · skip
      refine w_bipush dX7_ducks_15 bp_60 ?_
      refine w_istore_n dX7_ducks_17 (by decide) rfl rfl ?_
      dsimp only [List.set]
      have lp : ∀ (m : Nat) (i : Nat) (τ : Sg), i < m → i ≤ 61 → Mq σ τ → p_lst (fun i => p_isStr (σ.1 51) n k (nI i)) i = p_lst (fun i => p_isStr (σ.1 51) n k (nI i)) 61 → WP G mX7_ducks 18 [some (.ref 50), some (.int (nI k)), some (.int (nI i - 1))] [] (τ) (PQ σ (M_ducks (obs σ) (nI k))) := by
        intro m
        induction m with
        | zero => intro i τ hm; exact absurd hm (Nat.not_lt_zero _)
        | succ m ih =>
          intro i τ hm hi hmq hps
          rcases i with _ | i
          · skip
            refine w_iload_n dX7_ducks_18 rfl ?_
            refine w_if_lt (t := 37) dX7_ducks_19 (by decide) (fun hz2 => ?_) (fun hz2 => absurd (by decide) hz2)
            skip
            refine w_iload_n dX7_ducks_37 rfl ?_
            refine w2_if_ge (t := 50) dX7_ducks_38 (by decide) (fun hz3 => absurd (by decide) hz3) (fun hz3 => ?_)
            refine w_aload_n dX7_ducks_41 rfl ?_
            refine w_ldc dX7_ducks_42 kc_X7_149 ?_
            refine w_callVi dX7_ducks_44 ml_X7_53 mv_X7_finds rfl rfl (by decide) rfl (e7_finds G _ _ 3 (by decide) (by decide)) rfl rfl (Nat.le_of_ble_eq_true rfl) ?_
            try simp only [wI_51, setR_setR, setR_51]
            refine w_goto (t := 51) dX7_ducks_47 (by decide) ?_
            refine w_iret dX7_ducks_51 rfl ?_
            have hA : M_ducks (obs σ) (nI k) = M_opt (obs σ) (p_lst (fun i => p_isStr (σ.1 51) n k (nI i)) 61) := by simp only [M_ducks, obs_1, hnR, hck, eq_false hz1, if_false]
            rw [hA, ← hps, p_lst_0]
            exact PQ.mqf rfl hmq
          · skip
            refine w_L (L' := [some (.ref 50), some (.int (nI k)), some (.int (nI i))]) (by rw [nI_pred]) ?_
            refine w_iload_n dX7_ducks_18 rfl ?_
            refine w_if_lt (t := 37) dX7_ducks_19 (by decide) (fun hz4 => absurd hz4 (nI_pos (by omega))) (fun hz4 => ?_)
            refine w_aload_n dX7_ducks_22 rfl ?_
            refine w_iload_n dX7_ducks_23 rfl ?_
            refine w_iload_n dX7_ducks_24 rfl ?_
            refine w_callVqi dX7_ducks_25 ml_X7_150 mv_X7_isStruckBy rfl rfl (by decide) rfl (e7_isStruckBy G _ k (nI i) (by omega) n (by rw [hmq.1]; exact hn) h8) rfl rfl (Nat.le_of_ble_eq_true rfl) (fun τ1 hq => ?_)
            try simp only [wI_51, setR_setR, setR_51]
            refine w_if_eq (t := 37) dX7_ducks_28 (by decide) (fun hz5 => ?_) (fun hz5 => ?_)
            · skip
              have hb1 := hz5
              rw [hmq.1] at hb1
              refine w_iload_n dX7_ducks_37 rfl ?_
              refine w2_if_ge (t := 50) dX7_ducks_38 (by decide) (fun hz6 => ?_) (fun hz6 => absurd hz6 (nI_pos (by omega)))
              refine w_iload_n dX7_ducks_50 rfl ?_
              refine w_iret dX7_ducks_51 rfl ?_
              have hA : M_ducks (obs σ) (nI k) = M_opt (obs σ) (p_lst (fun i => p_isStr (σ.1 51) n k (nI i)) 61) := by simp only [M_ducks, obs_1, hnR, hck, eq_false hz1, if_false]
              rw [hA, ← hps, p_lst_s, if_pos hb1]
              exact PQ.mq rfl (hmq.trans hq)
            · skip
              have hb0 := hz5
              rw [hmq.1] at hb0
              refine w_iinc dX7_ducks_31 rfl rfl (by decide) rfl rfl ?_
              dsimp only [List.set]
              refine w_goto (t := 18) dX7_ducks_34 (by decide) ?_
              refine w_L (L' := [some (.ref 50), some (.int (nI k)), some (.int (nI i - 1))]) (by rw [Int32.sub_eq_add_neg]; rfl) ?_
              exact ih i _ (by omega) (by omega) (hmq.trans hq) ((if_neg hb0).symm.trans ((p_lst_s _ i).symm.trans hps))
      exact lp 62 61 σ (by omega) (by omega) Mq.rfl rfl
  · skip
    refine w_aload_n dX7_ducks_8 rfl ?_
    refine w_ldc dX7_ducks_9 kc_X7_44 ?_
    refine w_callVi dX7_ducks_11 ml_X7_53 mv_X7_finds rfl rfl (by decide) rfl (e7_finds G _ _ 0 (by decide) (by decide)) rfl rfl (Nat.le_of_ble_eq_true rfl) ?_
    try simp only [wI_51, setR_setR, setR_51]
    refine w_iret dX7_ducks_14 rfl ?_
    try simp only [setR_51, setR_setR, wI_51]
    first
    | exact PQ.fnd (by simp only [M_ducks, obs_1, hnR, if_true, if_false, eq_true hz1])
    | exact PQ.same (by simp only [M_ducks, obs_1, hnR, if_true, if_false, eq_true hz1])
    | exact PQ.row (by simp only [M_ducks, obs_1, hnR, if_true, if_false, eq_true hz1])
set_option maxRecDepth 100000 in
set_option maxHeartbeats 4000000 in
theorem m_place (G : GT) (σ : Sg) (r q : Int32) (n : Nat) (hn : σ.1 51 8 = nI n) (h8 : n ≤ 8) : Ev G mX7_place [.ref 50, .int r, .int q] σ (PQ σ (M_place (obs σ) r q)) := by
  have hnR := nR_of hn h8
  refine Ev.ofL (m := 5) (L := [some (.ref 50), some (.int r), some (.int q), none, none, none, none, none]) rfl (Nat.le_of_ble_eq_true rfl) rfl rfl ?_
  refine w_aload_n dX7_place_0 rfl ?_
  refine w_iload_n dX7_place_1 rfl ?_
  refine w_callVi dX7_place_2 ml_X7_87 mv_X7_isRod rfl rfl (by decide) rfl (e7_isRod G _ _) rfl rfl (Nat.le_of_ble_eq_true rfl) ?_
  refine w_if_eq (t := 18) dX7_place_5 (by decide) (fun hz1 => ?_) (fun hz1 => ?_)
  · skip
    refine w_aload_n dX7_place_18 rfl ?_
    refine w_ldc dX7_place_19 kc_X7_44 ?_
    refine w_callVi dX7_place_21 ml_X7_53 mv_X7_finds rfl rfl (by decide) rfl (e7_finds G _ _ 0 (by decide) (by decide)) rfl rfl (Nat.le_of_ble_eq_true rfl) ?_
    refine w_iret dX7_place_24 rfl ?_
    try simp only [setR_51, setR_setR, wI_51]
    first
    | exact PQ.fnd (by simp only [M_place, obs_1, hnR, if_true, if_false, eq_true hz1])
    | exact PQ.same (by simp only [M_place, obs_1, hnR, if_true, if_false, eq_true hz1])
    | exact PQ.row (by simp only [M_place, obs_1, hnR, if_true, if_false, eq_true hz1])
  · skip
    refine w_iload_n dX7_place_8 rfl ?_
    refine w_iconst dX7_place_9 ic_0 ?_
    refine w_bipush dX7_place_10 bp_100 ?_
    refine w_callSi dX7_place_12 ml_X7_45 ms_X7_in rfl (e7_in G _ _ _ _) rfl rfl (Nat.le_of_ble_eq_true rfl) ?_
    refine w_if_ne (t := 25) dX7_place_15 (by decide) (fun hz2 => ?_) (fun hz2 => ?_)
    · skip
      obtain ⟨k, hk, rfl⟩ := rod_of hz1 hn h8
      have hck : (nI k).toNatClampNeg = k := nI_clamp (by omega)
      obtain ⟨j, hj, rfl⟩ := in_0 (m := 100) hz2 rfl (by decide)
      have hcj : (nI j).toNatClampNeg = j := nI_clamp (by omega)
      · skip
        refine w_aload_n dX7_place_25 rfl ?_
        refine w_iload_n dX7_place_26 rfl ?_
        refine w_iconst dX7_place_27 ic_1 ?_
        refine w_callVi dX7_place_28 ml_X7_69 mv_X7_its rfl rfl (by decide) rfl (e7_its G _ (k) (1) (by omega) (by omega)) rfl rfl (Nat.le_of_ble_eq_true rfl) ?_
        refine w_istore_n dX7_place_31 (by decide) rfl rfl ?_
        dsimp only [List.set]
        refine w_iconst dX7_place_32 ic_0 ?_
        refine w_istore dX7_place_33 (by decide) rfl rfl ?_
        dsimp only [List.set]
        refine w_iconst dX7_place_35 ic_m1 ?_
        refine w_istore dX7_place_36 (by decide) rfl rfl ?_
        dsimp only [List.set]
        refine w_iconst dX7_place_38 ic_0 ?_
        refine w_istore dX7_place_39 (by decide) rfl rfl ?_
        dsimp only [List.set]
        have lp : ∀ (m : Nat) (i : Nat) (τ : Sg) (vv : Int32) (xx : Option Value), 16 - i < m → i ≤ 16 → τ.1 51 = upd (σ.1 51) (9 + 7 * k + 1) vv → Mr σ τ → WP G mX7_place 41 [some (.ref 50), some (.int (nI k)), some (.int (nI j)), some (.int (σ.1 51 (9 + 7 * k + 1))), some (.int (p_plc (σ.1 51) n k j i).1), some (.int (p_plc (σ.1 51) n k j i).2), some (.int (nI i)), xx] [] (τ) (PQ σ (M_place (obs σ) (nI k) (nI j))) := by
          intro m
          induction m with
          | zero => intro i τ vv xx hm; exact absurd hm (Nat.not_lt_zero _)
          | succ m ih =>
            intro i τ vv xx hm hi hro hmr
            refine w_iload dX7_place_41 rfl ?_
            refine w_bipush dX7_place_43 bp_16 ?_
            refine w2_icmp_ge (t := 104) dX7_place_45 (by decide) (fun hz3 => ?_) (fun hz3 => ?_)
            · skip
              have hge := nlt_nI (n := 16) (by omega) (by decide) hz3
              have hen : i = 16 := by omega
              subst hen
              refine w_aload_n dX7_place_104 rfl ?_
              refine w_iload_n dX7_place_105 rfl ?_
              refine w_iconst dX7_place_106 ic_1 ?_
              refine w_iload_n dX7_place_107 rfl ?_
              refine w_callVv dX7_place_108 ml_X7_57 mv_X7_puts rfl rfl (by decide) rfl (e7_puts G _ (k) (1) _ (by omega) (by omega)) rfl rfl (Nat.le_of_ble_eq_true rfl) ?_
              refine w_iload dX7_place_111 rfl ?_
              refine w_iret dX7_place_113 rfl ?_
              exact PQ.mq (by simp only [M_place, obs_1, hnR, hck, hcj, eq_false hz1, eq_false hz2, if_false]) ⟨by rw [setR_51, hro, upd_back], hmr.trans Mr.setR⟩
            · skip
              have hlt := lt_nI (n := 16) (by omega) (by decide) hz3
              refine w_aload_n dX7_place_48 rfl ?_
              refine w_iload_n dX7_place_49 rfl ?_
              refine w_iconst dX7_place_50 ic_1 ?_
              refine w_iload dX7_place_51 rfl ?_
              refine w_callVv dX7_place_53 ml_X7_57 mv_X7_puts rfl rfl (by decide) rfl (e7_puts G _ (k) (1) _ (by omega) (by omega)) rfl rfl (Nat.le_of_ble_eq_true rfl) ?_
              refine w_aload_n dX7_place_56 rfl ?_
              refine w_iload_n dX7_place_57 rfl ?_
              refine w_iload_n dX7_place_58 rfl ?_
              refine w_bipush dX7_place_59 bp_6 ?_
              refine w_callVqi dX7_place_61 ml_X7_130 mv_X7_onOf rfl rfl (by decide) rfl (e7_onOf G _ k j 6 (by omega) (by omega) (by decide) n (by rw [setR_51, updN (by omega), hro, updN (by omega)]; exact hn) h8) rfl rfl (Nat.le_of_ble_eq_true rfl) (fun τ1 hq => ?_)
              refine w_istore dX7_place_64 (by decide) rfl rfl ?_
              dsimp only [List.set]
              simp only [setR_51, hro, upd_upd]
              · skip
                refine w_iload dX7_place_66 rfl ?_
                refine w_iload dX7_place_68 rfl ?_
                refine w2_icmp_le (t := 78) dX7_place_70 (by decide) (fun hz4 => ?_) (fun hz4 => ?_)
                · skip
                  refine w_iload dX7_place_78 rfl ?_
                  refine w_istore dX7_place_80 (by decide) rfl rfl ?_
                  dsimp only [List.set]
                  have cc := hz4
                  refine w_iload dX7_place_82 rfl ?_
                  refine w_iload dX7_place_84 rfl ?_
                  refine w2_icmp_le (t := 94) dX7_place_86 (by decide) (fun hz5 => ?_) (fun hz5 => absurd hz5 hz4)
                  refine w_iload dX7_place_94 rfl ?_
                  refine w_istore dX7_place_96 (by decide) rfl rfl ?_
                  dsimp only [List.set]
                  refine w_iincN (a := i) (b := 1) dX7_place_98 rfl ic_1 (by decide) rfl rfl ?_
                  dsimp only [List.set]
                  refine w_goto (t := 41) dX7_place_101 (by decide) ?_
                  have q0 := ih (i + 1) τ1 (nI i) (some (.int (p_pass (upd (σ.1 51) (9 + 7 * k + 1) (nI i)) n j (9 + 7 * k + 6)))) (by omega) (by omega) (by rw [hq.row, setR_51, hro, upd_upd]) (hmr.trans (Mr.setR.trans hq.mq.2))
                  simp only [p_plc, cc, if_true, if_false] at q0
                  exact q0
                · skip
                  refine w_iload dX7_place_73 rfl ?_
                  refine w_goto (t := 80) dX7_place_75 (by decide) ?_
                  refine w_istore dX7_place_80 (by decide) rfl rfl ?_
                  dsimp only [List.set]
                  have cc := hz4
                  refine w_iload dX7_place_82 rfl ?_
                  refine w_iload dX7_place_84 rfl ?_
                  refine w2_icmp_le (t := 94) dX7_place_86 (by decide) (fun hz6 => absurd hz4 hz6) (fun hz6 => ?_)
                  refine w_iload dX7_place_89 rfl ?_
                  refine w_goto (t := 96) dX7_place_91 (by decide) ?_
                  refine w_istore dX7_place_96 (by decide) rfl rfl ?_
                  dsimp only [List.set]
                  refine w_iincN (a := i) (b := 1) dX7_place_98 rfl ic_1 (by decide) rfl rfl ?_
                  dsimp only [List.set]
                  refine w_goto (t := 41) dX7_place_101 (by decide) ?_
                  have q0 := ih (i + 1) τ1 (nI i) (some (.int (p_pass (upd (σ.1 51) (9 + 7 * k + 1) (nI i)) n j (9 + 7 * k + 6)))) (by omega) (by omega) (by rw [hq.row, setR_51, hro, upd_upd]) (hmr.trans (Mr.setR.trans hq.mq.2))
                  simp only [p_plc, cc, if_true, if_false] at q0
                  exact q0
        exact lp 17 0 σ (σ.1 51 (9 + 7 * k + 1)) none (by omega) (by omega) (upd_same _ _).symm Mr.rfl
    · skip
      refine w_aload_n dX7_place_18 rfl ?_
      refine w_ldc dX7_place_19 kc_X7_44 ?_
      refine w_callVi dX7_place_21 ml_X7_53 mv_X7_finds rfl rfl (by decide) rfl (e7_finds G _ _ 0 (by decide) (by decide)) rfl rfl (Nat.le_of_ble_eq_true rfl) ?_
      refine w_iret dX7_place_24 rfl ?_
      try simp only [setR_51, setR_setR, wI_51]
      first
      | exact PQ.fnd (by simp only [M_place, obs_1, hnR, if_true, if_false, eq_false hz1, eq_true hz2])
      | exact PQ.same (by simp only [M_place, obs_1, hnR, if_true, if_false, eq_false hz1, eq_true hz2])
      | exact PQ.row (by simp only [M_place, obs_1, hnR, if_true, if_false, eq_false hz1, eq_true hz2])
set_option maxRecDepth 100000 in
set_option maxHeartbeats 4000000 in
theorem m_clocks (G : GT) (σ : Sg) (r q : Int32) (n : Nat) (hn : σ.1 51 8 = nI n) (h8 : n ≤ 8) : Ev G mX7_clocks [.ref 50, .int r, .int q] σ (PQ σ (M_clocks (obs σ) r q)) := by
  have hnR := nR_of hn h8
  refine Ev.ofL (m := 0) (L := [some (.ref 50), some (.int r), some (.int q)]) rfl (Nat.le_of_ble_eq_true rfl) rfl rfl ?_
  refine w_aload_n dX7_clocks_0 rfl ?_
  refine w_iload_n dX7_clocks_1 rfl ?_
  refine w_callVi dX7_clocks_2 ml_X7_87 mv_X7_isRod rfl rfl (by decide) rfl (e7_isRod G _ _) rfl rfl (Nat.le_of_ble_eq_true rfl) ?_
  try simp only [wI_51, setR_setR, setR_51]
  refine w_if_eq (t := 27) dX7_clocks_5 (by decide) (fun hz1 => ?_) (fun hz1 => ?_)
  · skip
    refine w_aload_n dX7_clocks_27 rfl ?_
    refine w_ldc dX7_clocks_28 kc_X7_44 ?_
    refine w_callVi dX7_clocks_30 ml_X7_53 mv_X7_finds rfl rfl (by decide) rfl (e7_finds G _ _ 0 (by decide) (by decide)) rfl rfl (Nat.le_of_ble_eq_true rfl) ?_
    try simp only [wI_51, setR_setR, setR_51]
    refine w_iret dX7_clocks_33 rfl ?_
    try simp only [setR_51, setR_setR, wI_51]
    first
    | exact PQ.fnd (by simp only [M_clocks, obs_1, hnR, if_true, if_false, eq_true hz1])
    | exact PQ.same (by simp only [M_clocks, obs_1, hnR, if_true, if_false, eq_true hz1])
    | exact PQ.row (by simp only [M_clocks, obs_1, hnR, if_true, if_false, eq_true hz1])
  · skip
    refine w_iload_n dX7_clocks_8 rfl ?_
    refine w_iconst dX7_clocks_9 ic_0 ?_
    refine w_bipush dX7_clocks_10 bp_100 ?_
    refine w_callSi dX7_clocks_12 ml_X7_45 ms_X7_in rfl (e7_in G _ _ _ _) rfl rfl (Nat.le_of_ble_eq_true rfl) ?_
    try simp only [wI_51, setR_setR, setR_51]
    refine w_if_eq (t := 27) dX7_clocks_15 (by decide) (fun hz2 => ?_) (fun hz2 => ?_)
    · skip
      refine w_aload_n dX7_clocks_27 rfl ?_
      refine w_ldc dX7_clocks_28 kc_X7_44 ?_
      refine w_callVi dX7_clocks_30 ml_X7_53 mv_X7_finds rfl rfl (by decide) rfl (e7_finds G _ _ 0 (by decide) (by decide)) rfl rfl (Nat.le_of_ble_eq_true rfl) ?_
      try simp only [wI_51, setR_setR, setR_51]
      refine w_iret dX7_clocks_33 rfl ?_
      try simp only [setR_51, setR_setR, wI_51]
      first
      | exact PQ.fnd (by simp only [M_clocks, obs_1, hnR, if_true, if_false, eq_false hz1, eq_true hz2])
      | exact PQ.same (by simp only [M_clocks, obs_1, hnR, if_true, if_false, eq_false hz1, eq_true hz2])
      | exact PQ.row (by simp only [M_clocks, obs_1, hnR, if_true, if_false, eq_false hz1, eq_true hz2])
    · skip
      obtain ⟨k, hk, rfl⟩ := rod_of hz1 hn h8
      have hck : (nI k).toNatClampNeg = k := nI_clamp (by omega)
      obtain ⟨j, hj, rfl⟩ := in_0 (m := 100) hz2 rfl (by decide)
      have hcj : (nI j).toNatClampNeg = j := nI_clamp (by omega)
      · skip
        refine w_aload_n dX7_clocks_18 rfl ?_
        refine w_iload_n dX7_clocks_19 rfl ?_
        refine w_iload_n dX7_clocks_20 rfl ?_
        refine w_callVqi dX7_clocks_21 ml_X7_154 mv_X7_clocksOf rfl rfl (by decide) rfl (e7_clocksOf G _ k j (by omega) (by omega) n hn h8) rfl rfl (Nat.le_of_ble_eq_true rfl) (fun τ1 hq => ?_)
        try simp only [wI_51, setR_setR, setR_51]
        refine w_goto (t := 33) dX7_clocks_24 (by decide) ?_
        refine w_iret dX7_clocks_33 rfl ?_
        exact PQ.mq (by simp only [M_clocks, obs_1, hnR, hck, hcj, eq_false hz1, eq_false hz2, if_false]) hq
set_option maxRecDepth 100000 in
set_option maxHeartbeats 4000000 in
theorem m_strays (G : GT) (σ : Sg) (q : Int32) (n : Nat) (hn : σ.1 51 8 = nI n) (h8 : n ≤ 8) : Ev G mX7_strays [.ref 50, .int q] σ (PQ σ (M_strays (obs σ) q)) := by
  have hnR := nR_of hn h8
  refine Ev.ofL (m := 1) (L := [some (.ref 50), some (.int q), none]) rfl (Nat.le_of_ble_eq_true rfl) rfl rfl ?_
  refine w_iload_n dX7_strays_0 rfl ?_
  refine w_iconst dX7_strays_1 ic_0 ?_
  refine w_bipush dX7_strays_2 bp_100 ?_
  refine w_callSi dX7_strays_4 ml_X7_45 ms_X7_in rfl (e7_in G _ _ _ _) rfl rfl (Nat.le_of_ble_eq_true rfl) ?_
  refine w_if_ne (t := 17) dX7_strays_7 (by decide) (fun hz1 => ?_) (fun hz1 => ?_)
  · skip
    obtain ⟨j, hj, rfl⟩ := in_0 (m := 100) hz1 rfl (by decide)
    have hcj : (nI j).toNatClampNeg = j := nI_clamp (by omega)
    · skip
      refine w_aload_n dX7_strays_17 rfl ?_
      refine w_iconst dX7_strays_18 ic_1 ?_
      refine w_aload_n dX7_strays_19 rfl ?_
      refine w_getR (t := 53) dX7_strays_20 fl_X7_16 rfl (by decide) (by decide) rfl ?_
      refine w_callVv dX7_strays_23 ml_X7_126 mv_X7_moveAll rfl rfl (by decide) rfl (e7_move1 G _ 53 rfl rfl (by decide) (by decide)) rfl rfl (Nat.le_of_ble_eq_true rfl) ?_
      refine w_aload_n dX7_strays_26 rfl ?_
      refine w_iload_n dX7_strays_27 rfl ?_
      refine w_callVv dX7_strays_28 ml_X7_116 mv_X7_passes rfl rfl (by decide) rfl (e7_passes G _ j (by omega) n (by rw [cpN_ne (by decide)]; exact hn) h8) rfl rfl (Nat.le_of_ble_eq_true rfl) ?_
      refine w_aload_n dX7_strays_31 rfl ?_
      refine w_getR (t := 51) dX7_strays_32 fl_X7_7 rfl (by decide) (by decide) rfl ?_
      refine w_bipush dX7_strays_35 bp_6 ?_
      refine w_iald (j := 6) dX7_strays_37 rfl (by decide) rfl (by decide) ?_
      refine w_topi (fun vv hvv => ?_)
      refine w_istore_n dX7_strays_38 (by decide) rfl rfl ?_
      dsimp only [List.set]
      refine w_aload_n dX7_strays_39 rfl ?_
      refine w_iconst dX7_strays_40 ic_0 ?_
      refine w_aload_n dX7_strays_41 rfl ?_
      refine w_getR (t := 53) dX7_strays_42 fl_X7_16 rfl (by decide) (by decide) rfl ?_
      refine w_callVv dX7_strays_45 ml_X7_126 mv_X7_moveAll rfl rfl (by decide) rfl (e7_move0 G _ 53 rfl rfl (by decide) (by decide)) rfl rfl (Nat.le_of_ble_eq_true rfl) ?_
      refine w_iload_n dX7_strays_48 rfl ?_
      refine w_iret dX7_strays_49 rfl ?_
      have e51 : (cpN σ 51 53 65).1 51 = σ.1 51 := funext fun j => cpN_ne (by decide)
      rw [hvv, setR_51, e51]
      exact PQ.mq (by simp only [M_strays, obs_1, hnR, hcj, eq_false hz1, if_false]) ⟨back51 (fun j h => by rw [setR_ne (by decide), cpN_b h]) (fun j h => by rw [setR_51, p_pass_65 _ h8 h]), (Mr.cp (by decide)).trans (Mr.setR.trans (Mr.cp (by decide)))⟩
  · skip
    refine w_aload_n dX7_strays_10 rfl ?_
    refine w_ldc dX7_strays_11 kc_X7_44 ?_
    refine w_callVi dX7_strays_13 ml_X7_53 mv_X7_finds rfl rfl (by decide) rfl (e7_finds G _ _ 0 (by decide) (by decide)) rfl rfl (Nat.le_of_ble_eq_true rfl) ?_
    refine w_iret dX7_strays_16 rfl ?_
    try simp only [setR_51, setR_setR, wI_51]
    first
    | exact PQ.fnd (by simp only [M_strays, obs_1, hnR, if_true, if_false, eq_true hz1])
    | exact PQ.same (by simp only [M_strays, obs_1, hnR, if_true, if_false, eq_true hz1])
    | exact PQ.row (by simp only [M_strays, obs_1, hnR, if_true, if_false, eq_true hz1])
set_option maxRecDepth 100000 in
set_option maxHeartbeats 4000000 in
theorem m_count (G : GT) (σ : Sg) (what : Int32) (n : Nat) (hn : σ.1 51 8 = nI n) (h8 : n ≤ 8) : Ev G mX7_count [.ref 50, .int what] σ (PQ σ (M_count (obs σ) what)) := by
  have hnR := nR_of hn h8
  refine Ev.ofL (m := 0) (L := [some (.ref 50), some (.int what)]) rfl (Nat.le_of_ble_eq_true rfl) rfl rfl ?_
  refine w_iload_n dX7_count_0 rfl ?_
  refine sw_0_3 (fun hz1 => ?_) (fun hz1 => ?_) (fun hz1 => ?_) (fun hz1 => ?_) (fun hz1 => ?_)
  · skip
    refine w_tableIn (t := 32) (off := 31) dX7_count_1 (by rw [hz1]; decide) (by rw [hz1]; decide) (by rw [hz1]; rfl) (by decide) ?_
    refine w_aload_n dX7_count_32 rfl ?_
    refine w_getR (t := 51) dX7_count_33 fl_X7_7 rfl (by decide) (by decide) rfl ?_
    refine w_bipush dX7_count_36 bp_8 ?_
    refine w_iald (j := 8) dX7_count_38 rfl (by decide) rfl (by decide) ?_
    refine w_iret dX7_count_39 rfl ?_
    try simp only [setR_51, setR_setR, wI_51]
    first
    | exact PQ.fnd (by simp only [M_count, obs_1, hnR, if_true, if_false, eq_true hz1, eq_false (show ¬ what = 1 by rw [hz1]; decide), eq_false (show ¬ what = 2 by rw [hz1]; decide), eq_false (show ¬ what = 3 by rw [hz1]; decide), obs_tm])
    | exact PQ.same (by simp only [M_count, obs_1, hnR, if_true, if_false, eq_true hz1, eq_false (show ¬ what = 1 by rw [hz1]; decide), eq_false (show ¬ what = 2 by rw [hz1]; decide), eq_false (show ¬ what = 3 by rw [hz1]; decide), obs_tm])
    | exact PQ.row (by simp only [M_count, obs_1, hnR, if_true, if_false, eq_true hz1, eq_false (show ¬ what = 1 by rw [hz1]; decide), eq_false (show ¬ what = 2 by rw [hz1]; decide), eq_false (show ¬ what = 3 by rw [hz1]; decide), obs_tm])
  · skip
    refine w_tableIn (t := 40) (off := 39) dX7_count_1 (by rw [hz1]; decide) (by rw [hz1]; decide) (by rw [hz1]; rfl) (by decide) ?_
    refine w_aload_n dX7_count_40 rfl ?_
    refine w_getI dX7_count_41 fl_X7_172 rfl rfl ?_
    refine w_iret dX7_count_44 rfl ?_
    try simp only [setR_51, setR_setR, wI_51]
    first
    | exact PQ.fnd (by simp only [M_count, obs_1, hnR, if_true, if_false, eq_true hz1, eq_false (show ¬ what = 0 by rw [hz1]; decide), eq_false (show ¬ what = 2 by rw [hz1]; decide), eq_false (show ¬ what = 3 by rw [hz1]; decide), obs_tm])
    | exact PQ.same (by simp only [M_count, obs_1, hnR, if_true, if_false, eq_true hz1, eq_false (show ¬ what = 0 by rw [hz1]; decide), eq_false (show ¬ what = 2 by rw [hz1]; decide), eq_false (show ¬ what = 3 by rw [hz1]; decide), obs_tm])
    | exact PQ.row (by simp only [M_count, obs_1, hnR, if_true, if_false, eq_true hz1, eq_false (show ¬ what = 0 by rw [hz1]; decide), eq_false (show ¬ what = 2 by rw [hz1]; decide), eq_false (show ¬ what = 3 by rw [hz1]; decide), obs_tm])
  · skip
    refine w_tableIn (t := 45) (off := 44) dX7_count_1 (by rw [hz1]; decide) (by rw [hz1]; decide) (by rw [hz1]; rfl) (by decide) ?_
    refine w_aload_n dX7_count_45 rfl ?_
    refine w_iconst dX7_count_46 ic_2 ?_
    refine w_callVi dX7_count_47 ml_X7_119 mv_X7_sumOf rfl rfl (by decide) rfl (e7_sumOf G _ (2) (by omega) n hn h8) rfl rfl (Nat.le_of_ble_eq_true rfl) ?_
    try simp only [wI_51, setR_setR, setR_51]
    refine w_iret dX7_count_50 rfl ?_
    try simp only [setR_51, setR_setR, wI_51]
    first
    | exact PQ.fnd (by simp only [M_count, obs_1, hnR, if_true, if_false, eq_true hz1, eq_false (show ¬ what = 0 by rw [hz1]; decide), eq_false (show ¬ what = 1 by rw [hz1]; decide), eq_false (show ¬ what = 3 by rw [hz1]; decide), obs_tm])
    | exact PQ.same (by simp only [M_count, obs_1, hnR, if_true, if_false, eq_true hz1, eq_false (show ¬ what = 0 by rw [hz1]; decide), eq_false (show ¬ what = 1 by rw [hz1]; decide), eq_false (show ¬ what = 3 by rw [hz1]; decide), obs_tm])
    | exact PQ.row (by simp only [M_count, obs_1, hnR, if_true, if_false, eq_true hz1, eq_false (show ¬ what = 0 by rw [hz1]; decide), eq_false (show ¬ what = 1 by rw [hz1]; decide), eq_false (show ¬ what = 3 by rw [hz1]; decide), obs_tm])
  · skip
    refine w_tableIn (t := 51) (off := 50) dX7_count_1 (by rw [hz1]; decide) (by rw [hz1]; decide) (by rw [hz1]; rfl) (by decide) ?_
    refine w_aload_n dX7_count_51 rfl ?_
    refine w_callVi dX7_count_52 ml_X7_296 mv_X7_paidAll rfl rfl (by decide) rfl (e7_paidAll G _ n hn h8) rfl rfl (Nat.le_of_ble_eq_true rfl) ?_
    try simp only [wI_51, setR_setR, setR_51]
    refine w_iret dX7_count_55 rfl ?_
    try simp only [setR_51, setR_setR, wI_51]
    first
    | exact PQ.fnd (by simp only [M_count, obs_1, hnR, if_true, if_false, eq_true hz1, eq_false (show ¬ what = 0 by rw [hz1]; decide), eq_false (show ¬ what = 1 by rw [hz1]; decide), eq_false (show ¬ what = 2 by rw [hz1]; decide), obs_tm])
    | exact PQ.same (by simp only [M_count, obs_1, hnR, if_true, if_false, eq_true hz1, eq_false (show ¬ what = 0 by rw [hz1]; decide), eq_false (show ¬ what = 1 by rw [hz1]; decide), eq_false (show ¬ what = 2 by rw [hz1]; decide), obs_tm])
    | exact PQ.row (by simp only [M_count, obs_1, hnR, if_true, if_false, eq_true hz1, eq_false (show ¬ what = 0 by rw [hz1]; decide), eq_false (show ¬ what = 1 by rw [hz1]; decide), eq_false (show ¬ what = 2 by rw [hz1]; decide), obs_tm])
  · skip
    refine w_tableOut (t := 56) dX7_count_1 hz1.1 (by decide) ?_
    refine w_aload_n dX7_count_56 rfl ?_
    refine w_ldc dX7_count_57 kc_X7_44 ?_
    refine w_callVi dX7_count_59 ml_X7_53 mv_X7_finds rfl rfl (by decide) rfl (e7_finds G _ _ 0 (by decide) (by decide)) rfl rfl (Nat.le_of_ble_eq_true rfl) ?_
    try simp only [wI_51, setR_setR, setR_51]
    refine w_iret dX7_count_62 rfl ?_
    try simp only [setR_51, setR_setR, wI_51]
    first
    | exact PQ.fnd (by simp only [M_count, obs_1, hnR, if_true, if_false, eq_false hz1.2.1, eq_false hz1.2.2.1, eq_false hz1.2.2.2.1, eq_false hz1.2.2.2.2, obs_tm])
    | exact PQ.same (by simp only [M_count, obs_1, hnR, if_true, if_false, eq_false hz1.2.1, eq_false hz1.2.2.1, eq_false hz1.2.2.2.1, eq_false hz1.2.2.2.2, obs_tm])
    | exact PQ.row (by simp only [M_count, obs_1, hnR, if_true, if_false, eq_false hz1.2.1, eq_false hz1.2.2.1, eq_false hz1.2.2.2.1, eq_false hz1.2.2.2.2, obs_tm])
set_option maxRecDepth 100000 in
set_option maxHeartbeats 4000000 in
theorem m_wipe (G : GT) (σ : Sg) (n : Nat) (hn : σ.1 51 8 = nI n) (h8 : n ≤ 8) : Ev G mX7_wipe [.ref 50] σ (PQ σ (M_wipe (obs σ) )) := by
  have hnR := nR_of hn h8
  refine Ev.ofL (m := 1) (L := [some (.ref 50), none]) rfl (Nat.le_of_ble_eq_true rfl) rfl rfl ?_
  refine w_aload_n dX7_wipe_0 rfl ?_
  refine w_getI dX7_wipe_1 fl_X7_172 rfl rfl ?_
  refine w_istore_n dX7_wipe_4 (by decide) rfl rfl ?_
  dsimp only [List.set]
  refine w_aload_n dX7_wipe_5 rfl ?_
  refine w_iconst dX7_wipe_6 ic_0 ?_
  refine w_putI dX7_wipe_7 fl_X7_172 rfl rfl (by decide +kernel) ?_
  refine w_iload_n dX7_wipe_10 rfl ?_
  refine w_iret dX7_wipe_11 rfl ?_
  exact ⟨rfl, obs_w10 _ _, Co.w (by decide)⟩
set_option maxRecDepth 100000 in
set_option maxHeartbeats 4000000 in
theorem m_tear (G : GT) (σ : Sg) (n : Nat) (hn : σ.1 51 8 = nI n) (h8 : n ≤ 8) : Ev G mX7_tear [.ref 50] σ (PQ σ (M_tear (obs σ) )) := by
  have hnR := nR_of hn h8
  refine Ev.ofL (m := 1) (L := [some (.ref 50), none]) rfl (Nat.le_of_ble_eq_true rfl) rfl rfl ?_
  refine w_aload_n dX7_tear_0 rfl ?_
  refine w_getI dX7_tear_1 fl_X7_293 rfl rfl ?_
  refine w_if_eq (t := 11) dX7_tear_4 (by decide) (fun hz1 => ?_) (fun hz1 => ?_)
  · skip
    refine w_iconst dX7_tear_11 ic_0 ?_
    refine w_istore_n dX7_tear_12 (by decide) rfl rfl ?_
    dsimp only [List.set]
    refine w_aload_n dX7_tear_13 rfl ?_
    refine w_iconst dX7_tear_14 ic_0 ?_
    refine w_putZ dX7_tear_15 fl_X7_293 rfl rfl (by decide +kernel) (by decide) ?_
    refine w_iload_n dX7_tear_18 rfl ?_
    refine w_iret dX7_tear_19 rfl ?_
    exact ⟨by simp only [M_tear, obs, eq_true hz1, if_true, if_false], obs_w23 _ _, Co.w (by decide)⟩
  · skip
    refine w_iconst dX7_tear_7 ic_1 ?_
    refine w_goto (t := 12) dX7_tear_8 (by decide) ?_
    refine w_istore_n dX7_tear_12 (by decide) rfl rfl ?_
    dsimp only [List.set]
    refine w_aload_n dX7_tear_13 rfl ?_
    refine w_iconst dX7_tear_14 ic_0 ?_
    refine w_putZ dX7_tear_15 fl_X7_293 rfl rfl (by decide +kernel) (by decide) ?_
    refine w_iload_n dX7_tear_18 rfl ?_
    refine w_iret dX7_tear_19 rfl ?_
    exact ⟨by simp only [M_tear, obs, eq_false hz1, if_true, if_false], obs_w23 _ _, Co.w (by decide)⟩
set_option maxRecDepth 100000 in
set_option maxHeartbeats 4000000 in
theorem m_image (G : GT) (σ : Sg) (n : Nat) (hn : σ.1 51 8 = nI n) (h8 : n ≤ 8) : Ev G mX7_image [.ref 50] σ (PQ σ (M_image (obs σ) )) := by
  have hnR := nR_of hn h8
  refine Ev.ofL (m := 0) (L := [some (.ref 50)]) rfl (Nat.le_of_ble_eq_true rfl) rfl rfl ?_
  refine w_aload_n dX7_image_0 rfl ?_
  refine w_iconst dX7_image_1 ic_1 ?_
  refine w_aload_n dX7_image_2 rfl ?_
  refine w_getR (t := 60) dX7_image_3 fl_X7_38 rfl (by decide) (by decide) rfl ?_
  refine w_callVv dX7_image_6 ml_X7_126 mv_X7_moveAll rfl rfl (by decide) rfl (e7_move1 G _ 60 rfl rfl (by decide) (by decide)) rfl rfl (Nat.le_of_ble_eq_true rfl) ?_
  refine w_aload_n dX7_image_9 rfl ?_
  refine w_iconst dX7_image_10 ic_1 ?_
  refine w_putZ dX7_image_11 fl_X7_293 rfl rfl (by decide +kernel) (by decide) ?_
  refine w_iconst dX7_image_14 ic_1 ?_
  refine w_iret dX7_image_15 rfl ?_
  exact ⟨rfl, by rw [obs_w23, obs_img]; rfl, (Co.cp (by decide)).trans (Co.w (by decide))⟩
set_option maxRecDepth 100000 in
set_option maxHeartbeats 4000000 in
theorem m_undo (G : GT) (σ : Sg) (n : Nat) (hn : σ.1 51 8 = nI n) (h8 : n ≤ 8) : Ev G mX7_undo [.ref 50] σ (PQ σ (M_undo (obs σ) )) := by
  have hnR := nR_of hn h8
  refine Ev.ofL (m := 0) (L := [some (.ref 50)]) rfl (Nat.le_of_ble_eq_true rfl) rfl rfl ?_
  refine w_aload_n dX7_undo_0 rfl ?_
  refine w_getI dX7_undo_1 fl_X7_293 rfl rfl ?_
  refine w_if_ne (t := 14) dX7_undo_4 (by decide) (fun hz1 => ?_) (fun hz1 => ?_)
  · skip
    refine w_aload_n dX7_undo_14 rfl ?_
    refine w_iconst dX7_undo_15 ic_0 ?_
    refine w_aload_n dX7_undo_16 rfl ?_
    refine w_getR (t := 60) dX7_undo_17 fl_X7_38 rfl (by decide) (by decide) rfl ?_
    refine w_callVv dX7_undo_20 ml_X7_126 mv_X7_moveAll rfl rfl (by decide) rfl (e7_move0 G _ 60 rfl rfl (by decide) (by decide)) rfl rfl (Nat.le_of_ble_eq_true rfl) ?_
    refine w_aload_n dX7_undo_23 rfl ?_
    refine w_getR (t := 51) dX7_undo_24 fl_X7_7 rfl (by decide) (by decide) rfl ?_
    refine w_bipush dX7_undo_27 bp_8 ?_
    refine w_iald (j := 8) dX7_undo_29 rfl (by decide) rfl (by decide) ?_
    refine w_iret dX7_undo_30 rfl ?_
    exact ⟨by simp only [M_undo, obs, eq_false hz1, if_false]; rw [cpN_b (by decide)], by rw [obs_und]; simp only [M_undo, obs, eq_false hz1, if_false], Co.cp (by decide)⟩
  · skip
    refine w_aload_n dX7_undo_7 rfl ?_
    refine w_ldc dX7_undo_8 kc_X7_149 ?_
    refine w_callVi dX7_undo_10 ml_X7_53 mv_X7_finds rfl rfl (by decide) rfl (e7_finds G _ _ 3 (by decide) (by decide)) rfl rfl (Nat.le_of_ble_eq_true rfl) ?_
    refine w_iret dX7_undo_13 rfl ?_
    exact PQ.fnd (by simp only [M_undo, obs, eq_true hz1, if_true])
set_option maxRecDepth 100000 in
set_option maxHeartbeats 4000000 in
theorem m_status (G : GT) (σ : Sg) (which : Int32) (n : Nat) (hn : σ.1 51 8 = nI n) (h8 : n ≤ 8) : Ev G mX7_status [.ref 50, .int which] σ (PQ σ (M_status (obs σ) which)) := by
  have hnR := nR_of hn h8
  refine Ev.ofL (m := 2) (L := [some (.ref 50), some (.int which), none, none]) rfl (Nat.le_of_ble_eq_true rfl) rfl rfl ?_
  refine w_iload_n dX7_status_0 rfl ?_
  refine w_iconst dX7_status_1 ic_m1 ?_
  refine w_bipush dX7_status_2 bp_6 ?_
  refine w_callSi dX7_status_4 ml_X7_45 ms_X7_in rfl (e7_in G _ _ _ _) rfl rfl (Nat.le_of_ble_eq_true rfl) ?_
  refine w_if_ne (t := 17) dX7_status_7 (by decide) (fun hz1 => ?_) (fun hz1 => ?_)
  · skip
    refine w_iconst dX7_status_17 ic_0 ?_
    refine w_istore_n dX7_status_18 (by decide) rfl rfl ?_
    dsimp only [List.set]
    refine w_iconst dX7_status_19 ic_0 ?_
    refine w_istore_n dX7_status_20 (by decide) rfl rfl ?_
    dsimp only [List.set]
    have lp : ∀ (m : Nat) (i : Nat), 7 - i < m → i ≤ 7 → WP G mX7_status 21 [some (.ref 50), some (.int which), some (.int (s_sum (σ.1 52) i)), some (.int (nI i))] [] (σ) (PQ σ (M_status (obs σ) which)) := by
      intro m
      induction m with
      | zero => intro i hm; exact absurd hm (Nat.not_lt_zero _)
      | succ m ih =>
        intro i hm hi
        refine w_iload_n dX7_status_21 rfl ?_
        refine w_bipush dX7_status_22 bp_7 ?_
        refine w2_icmp_ge (t := 42) dX7_status_24 (by decide) (fun hz2 => ?_) (fun hz2 => ?_)
        · skip
          have hge := nlt_nI (n := 7) (by omega) (by decide) hz2
          have hen : i = 7 := by omega
          subst hen
          refine w_iload_n dX7_status_42 rfl ?_
          refine w2_if_ge (t := 50) dX7_status_43 (by decide) (fun hz3 => ?_) (fun hz3 => ?_)
          · skip
            refine w_aload_n dX7_status_50 rfl ?_
            refine w_getR (t := 52) dX7_status_51 fl_X7_13 rfl (by decide) (by decide) rfl ?_
            refine w_iload_n dX7_status_54 rfl ?_
            refine w2_if_ge (t := 62) dX7_status_55 (by decide) (fun hz4 => ?_) (fun hz4 => absurd hz4 hz3)
            refine w_iload_n dX7_status_62 rfl ?_
            obtain ⟨jw, hjw6, hjw⟩ : ∃ jw, jw ≤ 6 ∧ which = nI jw := by
              obtain ⟨jw, hw1, hw2⟩ := nI_of hz3
              refine ⟨jw, nlt_nI (by decide) hw1 ?_, hw2⟩
              have := (in_of hz1).2
              rw [hw2] at this
              exact this
            have hcw : which.toNatClampNeg = jw := by rw [hjw]; exact nI_clamp (by omega)
            refine w_iald (j := jw) dX7_status_63 rfl (by decide) hjw (show jw < 7 by omega) ?_
            refine w_iret dX7_status_64 rfl ?_
            exact PQ.same (by simp only [M_status, obs, eq_false hz1, eq_false hz3, if_true, if_false, hcw])
          · skip
            refine w_iload_n dX7_status_46 rfl ?_
            refine w_goto (t := 64) dX7_status_47 (by decide) ?_
            refine w_iret dX7_status_64 rfl ?_
            exact PQ.same (by simp only [M_status, obs, eq_false hz1, eq_true hz3, if_true, if_false])
        · skip
          have hlt := lt_nI (n := 7) (by omega) (by decide) hz2
          refine w_iload_n dX7_status_27 rfl ?_
          refine w_aload_n dX7_status_28 rfl ?_
          refine w_getR (t := 52) dX7_status_29 fl_X7_13 rfl (by decide) (by decide) rfl ?_
          refine w_iload_n dX7_status_32 rfl ?_
          refine w_iald (j := i) dX7_status_33 rfl (by decide) rfl (show i < 7 by omega) ?_
          refine w_iadd dX7_status_34 ?_
          refine w_istore_n dX7_status_35 (by decide) rfl rfl ?_
          dsimp only [List.set]
          refine w_iincN (a := i) (b := 1) dX7_status_36 rfl ic_1 (by decide) rfl rfl ?_
          dsimp only [List.set]
          refine w_goto (t := 21) dX7_status_39 (by decide) ?_
          exact ih (i + 1) (by omega) (by omega)
    exact lp 8 0 (by omega) (by omega)
  · skip
    refine w_aload_n dX7_status_10 rfl ?_
    refine w_ldc dX7_status_11 kc_X7_44 ?_
    refine w_callVi dX7_status_13 ml_X7_53 mv_X7_finds rfl rfl (by decide) rfl (e7_finds G _ _ 0 (by decide) (by decide)) rfl rfl (Nat.le_of_ble_eq_true rfl) ?_
    refine w_iret dX7_status_16 rfl ?_
    try simp only [setR_51, setR_setR, wI_51]
    first
    | exact PQ.fnd (by simp only [M_status, obs_1, hnR, if_true, if_false, eq_true hz1])
    | exact PQ.same (by simp only [M_status, obs_1, hnR, if_true, if_false, eq_true hz1])
    | exact PQ.row (by simp only [M_status, obs_1, hnR, if_true, if_false, eq_true hz1])
set_option maxRecDepth 100000 in
set_option maxHeartbeats 4000000 in
theorem m_kind (G : GT) (σ : Sg) (r q : Int32) (n : Nat) (hn : σ.1 51 8 = nI n) (h8 : n ≤ 8) : Ev G mX7_kind [.ref 50, .int r, .int q] σ (PQ σ (M_kind (obs σ) r q)) := by
  have hnR := nR_of hn h8
  refine Ev.ofL (m := 8) (L := [some (.ref 50), some (.int r), some (.int q), none, none, none, none, none, none, none, none]) rfl (Nat.le_of_ble_eq_true rfl) rfl rfl ?_
  refine w_aload_n dX7_kind_0 rfl ?_
  refine w_iload_n dX7_kind_1 rfl ?_
  refine w_callVi dX7_kind_2 ml_X7_87 mv_X7_isRod rfl rfl (by decide) rfl (e7_isRod G _ _) rfl rfl (Nat.le_of_ble_eq_true rfl) ?_
  refine w_if_eq (t := 18) dX7_kind_5 (by decide) (fun hz1 => ?_) (fun hz1 => ?_)
  · skip
    refine w_aload_n dX7_kind_18 rfl ?_
    refine w_ldc dX7_kind_19 kc_X7_44 ?_
    refine w_callVi dX7_kind_21 ml_X7_53 mv_X7_finds rfl rfl (by decide) rfl (e7_finds G _ _ 0 (by decide) (by decide)) rfl rfl (Nat.le_of_ble_eq_true rfl) ?_
    refine w_iret dX7_kind_24 rfl ?_
    try simp only [setR_51, setR_setR, wI_51]
    first
    | exact PQ.fnd (by simp only [M_kind, obs_1, hnR, if_true, if_false, eq_true hz1])
    | exact PQ.same (by simp only [M_kind, obs_1, hnR, if_true, if_false, eq_true hz1])
    | exact PQ.row (by simp only [M_kind, obs_1, hnR, if_true, if_false, eq_true hz1])
  · skip
    refine w_iload_n dX7_kind_8 rfl ?_
    refine w_iconst dX7_kind_9 ic_0 ?_
    refine w_bipush dX7_kind_10 bp_60 ?_
    refine w_callSi dX7_kind_12 ml_X7_45 ms_X7_in rfl (e7_in G _ _ _ _) rfl rfl (Nat.le_of_ble_eq_true rfl) ?_
    refine w_if_ne (t := 25) dX7_kind_15 (by decide) (fun hz2 => ?_) (fun hz2 => ?_)
    · skip
      obtain ⟨k, hk, rfl⟩ := rod_of hz1 hn h8
      have hck : (nI k).toNatClampNeg = k := nI_clamp (by omega)
      obtain ⟨j, hj, rfl⟩ := in_0 (m := 60) hz2 rfl (by decide)
      have hcj : (nI j).toNatClampNeg = j := nI_clamp (by omega)
      · skip
        refine w_aload_n dX7_kind_25 rfl ?_
        refine w_iload_n dX7_kind_26 rfl ?_
        refine w_iconst dX7_kind_27 ic_0 ?_
        refine w_callVi dX7_kind_28 ml_X7_69 mv_X7_its rfl rfl (by decide) rfl (e7_its0 G _ (k) (by omega)) rfl rfl (Nat.le_of_ble_eq_true rfl) ?_
        refine w_istore_n dX7_kind_31 (by decide) rfl rfl ?_
        dsimp only [List.set]
        refine w_iconst dX7_kind_32 ic_m1 ?_
        refine w_istore dX7_kind_33 (by decide) rfl rfl ?_
        dsimp only [List.set]
        refine w_iconst dX7_kind_35 ic_0 ?_
        refine w_istore dX7_kind_36 (by decide) rfl rfl ?_
        dsimp only [List.set]
        refine w_iconst dX7_kind_38 ic_0 ?_
        refine w_istore dX7_kind_39 (by decide) rfl rfl ?_
        dsimp only [List.set]
        refine w_iconst dX7_kind_41 ic_0 ?_
        refine w_istore dX7_kind_42 (by decide) rfl rfl ?_
        dsimp only [List.set]
        have lp : ∀ (m : Nat) (i : Nat) (τ : Sg) (vv : Int32) (x8 x9 x10 : Option Value), 6 - i < m → i ≤ 6 → τ.1 51 = upd (σ.1 51) (9 + 7 * k) vv → Mr σ τ → WP G mX7_kind 44 [some (.ref 50), some (.int (nI k)), some (.int (nI j)), some (.int (σ.1 51 (9 + 7 * k))), some (.int (p_knd (σ.1 51) n k j i).1), some (.int (p_knd (σ.1 51) n k j i).2.1), some (.int (p_knd (σ.1 51) n k j i).2.2), some (.int (nI i)), x8, x9, x10] [] (τ) (PQ σ (M_kind (obs σ) (nI k) (nI j))) := by
          intro m
          induction m with
          | zero => intro i τ vv x8 x9 x10 hm; exact absurd hm (Nat.not_lt_zero _)
          | succ m ih =>
            intro i τ vv x8 x9 x10 hm hi hro hmr
            refine w_iload dX7_kind_44 rfl ?_
            refine w_iconst dX7_kind_46 ic_5 ?_
            refine w_icmp_gt (t := 158) dX7_kind_47 (by decide) (fun hz3 => ?_) (fun hz3 => ?_)
            · skip
              have hge := lt_nI (r := 5) (by decide) (by omega) hz3
              have hen : i = 6 := by omega
              subst hen
              refine w_aload_n dX7_kind_158 rfl ?_
              refine w_iload_n dX7_kind_159 rfl ?_
              refine w_iconst dX7_kind_160 ic_0 ?_
              refine w_iload_n dX7_kind_161 rfl ?_
              refine w_callVv dX7_kind_162 ml_X7_57 mv_X7_puts rfl rfl (by decide) rfl (e7_puts0 G _ (k) _ (by omega)) rfl rfl (Nat.le_of_ble_eq_true rfl) ?_
              refine w_iload dX7_kind_165 rfl ?_
              refine w_iret dX7_kind_167 rfl ?_
              exact PQ.mq (by simp only [M_kind, obs_1, hnR, hck, hcj, eq_false hz1, eq_false hz2, if_false]) ⟨by rw [setR_51, hro, upd_back], hmr.trans Mr.setR⟩
            · skip
              have hlt := nlt_nI (r := 5) (by decide) (by omega) hz3
              refine w_aload_n dX7_kind_50 rfl ?_
              refine w_iload_n dX7_kind_51 rfl ?_
              refine w_iconst dX7_kind_52 ic_0 ?_
              refine w_iload dX7_kind_53 rfl ?_
              refine w_callVv dX7_kind_55 ml_X7_57 mv_X7_puts rfl rfl (by decide) rfl (e7_puts0 G _ (k) _ (by omega)) rfl rfl (Nat.le_of_ble_eq_true rfl) ?_
              refine w_aload_n dX7_kind_58 rfl ?_
              refine w_iload_n dX7_kind_59 rfl ?_
              refine w_iload_n dX7_kind_60 rfl ?_
              refine w_bipush dX7_kind_61 bp_6 ?_
              refine w_callVqi dX7_kind_63 ml_X7_130 mv_X7_onOf rfl rfl (by decide) rfl (e7_onOf G _ k j 6 (by omega) (by omega) (by decide) n (by rw [setR_51, updN (by omega), hro, updN (by omega)]; exact hn) h8) rfl rfl (Nat.le_of_ble_eq_true rfl) (fun τ1 hq1 => ?_)
              simp only [setR_51, hro, upd_upd]
              · skip
                refine w_istore dX7_kind_66 (by decide) rfl rfl ?_
                dsimp only [List.set]
                refine w_aload_n dX7_kind_68 rfl ?_
                refine w_iload_n dX7_kind_69 rfl ?_
                refine w_iload_n dX7_kind_70 rfl ?_
                refine w_iconst dX7_kind_71 ic_5 ?_
                refine w_callVqi dX7_kind_72 ml_X7_130 mv_X7_onOf rfl rfl (by decide) rfl (e7_onOf G _ k j 5 (by omega) (by omega) (by decide) n (by rw [hq1.row, setR_51, updN (by omega), hro, updN (by omega)]; exact hn) h8) rfl rfl (Nat.le_of_ble_eq_true rfl) (fun τ2 hq2 => ?_)
                simp only [hq1.row, setR_51, hro, upd_upd]
                · skip
                  refine w_istore dX7_kind_75 (by decide) rfl rfl ?_
                  dsimp only [List.set]
                  refine w_iload dX7_kind_77 rfl ?_
                  refine w_if_lt (t := 103) dX7_kind_79 (by decide) (fun hz4 => ?_) (fun hz4 => ?_)
                  · skip
                    refine w_iconst dX7_kind_103 ic_1 ?_
                    refine w_goto (t := 108) dX7_kind_104 (by decide) ?_
                    have cc : ((p_knd (σ.1 51) n k j i).1 < 0 ∨ (p_knd (σ.1 51) n k j i).2.1 < p_pass (upd (σ.1 51) (9 + 7 * k) (nI i)) n j (9 + 7 * k + 6) ∨ (p_pass (upd (σ.1 51) (9 + 7 * k) (nI i)) n j (9 + 7 * k + 6) = (p_knd (σ.1 51) n k j i).2.1 ∧ p_pass (upd (σ.1 51) (9 + 7 * k) (nI i)) n j (9 + 7 * k + 5) < (p_knd (σ.1 51) n k j i).2.2)) = True := eq_true (Or.inl hz4)
                    refine w_istore dX7_kind_108 (by decide) rfl rfl ?_
                    dsimp only [List.set]
                    refine w_iload dX7_kind_110 rfl ?_
                    refine w_if_eq (t := 120) dX7_kind_112 (by decide) (fun hz5 => absurd hz5 (by decide)) (fun hz5 => ?_)
                    refine w_iload dX7_kind_115 rfl ?_
                    refine w_goto (t := 122) dX7_kind_117 (by decide) ?_
                    refine w_istore dX7_kind_122 (by decide) rfl rfl ?_
                    dsimp only [List.set]
                    refine w_iload dX7_kind_124 rfl ?_
                    refine w_if_eq (t := 134) dX7_kind_126 (by decide) (fun hz6 => absurd hz6 (by decide)) (fun hz6 => ?_)
                    refine w_iload dX7_kind_129 rfl ?_
                    refine w_goto (t := 136) dX7_kind_131 (by decide) ?_
                    refine w_istore dX7_kind_136 (by decide) rfl rfl ?_
                    dsimp only [List.set]
                    refine w_iload dX7_kind_138 rfl ?_
                    refine w_if_eq (t := 148) dX7_kind_140 (by decide) (fun hz7 => absurd hz7 (by decide)) (fun hz7 => ?_)
                    refine w_iload dX7_kind_143 rfl ?_
                    refine w_goto (t := 150) dX7_kind_145 (by decide) ?_
                    refine w_istore dX7_kind_150 (by decide) rfl rfl ?_
                    dsimp only [List.set]
                    refine w_iincN (a := i) (b := 1) dX7_kind_152 rfl ic_1 (by decide) rfl rfl ?_
                    dsimp only [List.set]
                    refine w_goto (t := 44) dX7_kind_155 (by decide) ?_
                    have q0 := ih (i + 1) τ2 (nI i) (some (.int (p_pass (upd (σ.1 51) (9 + 7 * k) (nI i)) n j (9 + 7 * k + 6)))) (some (.int (p_pass (upd (σ.1 51) (9 + 7 * k) (nI i)) n j (9 + 7 * k + 5)))) (some (.int 1)) (by omega) (by omega) (by rw [hq2.row, hq1.row, setR_51, hro, upd_upd]) (hmr.trans (Mr.setR.trans (hq1.mq.2.trans hq2.mq.2)))
                    simp only [p_knd, cc, if_true, if_false] at q0
                    exact q0
                  · skip
                    refine w_iload dX7_kind_82 rfl ?_
                    refine w_iload dX7_kind_84 rfl ?_
                    refine w_icmp_gt (t := 103) dX7_kind_86 (by decide) (fun hz8 => ?_) (fun hz8 => ?_)
                    · skip
                      refine w_iconst dX7_kind_103 ic_1 ?_
                      refine w_goto (t := 108) dX7_kind_104 (by decide) ?_
                      have cc : ((p_knd (σ.1 51) n k j i).1 < 0 ∨ (p_knd (σ.1 51) n k j i).2.1 < p_pass (upd (σ.1 51) (9 + 7 * k) (nI i)) n j (9 + 7 * k + 6) ∨ (p_pass (upd (σ.1 51) (9 + 7 * k) (nI i)) n j (9 + 7 * k + 6) = (p_knd (σ.1 51) n k j i).2.1 ∧ p_pass (upd (σ.1 51) (9 + 7 * k) (nI i)) n j (9 + 7 * k + 5) < (p_knd (σ.1 51) n k j i).2.2)) = True := eq_true (Or.inr (Or.inl hz8))
                      refine w_istore dX7_kind_108 (by decide) rfl rfl ?_
                      dsimp only [List.set]
                      refine w_iload dX7_kind_110 rfl ?_
                      refine w_if_eq (t := 120) dX7_kind_112 (by decide) (fun hz9 => absurd hz9 (by decide)) (fun hz9 => ?_)
                      refine w_iload dX7_kind_115 rfl ?_
                      refine w_goto (t := 122) dX7_kind_117 (by decide) ?_
                      refine w_istore dX7_kind_122 (by decide) rfl rfl ?_
                      dsimp only [List.set]
                      refine w_iload dX7_kind_124 rfl ?_
                      refine w_if_eq (t := 134) dX7_kind_126 (by decide) (fun hz10 => absurd hz10 (by decide)) (fun hz10 => ?_)
                      refine w_iload dX7_kind_129 rfl ?_
                      refine w_goto (t := 136) dX7_kind_131 (by decide) ?_
                      refine w_istore dX7_kind_136 (by decide) rfl rfl ?_
                      dsimp only [List.set]
                      refine w_iload dX7_kind_138 rfl ?_
                      refine w_if_eq (t := 148) dX7_kind_140 (by decide) (fun hz11 => absurd hz11 (by decide)) (fun hz11 => ?_)
                      refine w_iload dX7_kind_143 rfl ?_
                      refine w_goto (t := 150) dX7_kind_145 (by decide) ?_
                      refine w_istore dX7_kind_150 (by decide) rfl rfl ?_
                      dsimp only [List.set]
                      refine w_iincN (a := i) (b := 1) dX7_kind_152 rfl ic_1 (by decide) rfl rfl ?_
                      dsimp only [List.set]
                      refine w_goto (t := 44) dX7_kind_155 (by decide) ?_
                      have q0 := ih (i + 1) τ2 (nI i) (some (.int (p_pass (upd (σ.1 51) (9 + 7 * k) (nI i)) n j (9 + 7 * k + 6)))) (some (.int (p_pass (upd (σ.1 51) (9 + 7 * k) (nI i)) n j (9 + 7 * k + 5)))) (some (.int 1)) (by omega) (by omega) (by rw [hq2.row, hq1.row, setR_51, hro, upd_upd]) (hmr.trans (Mr.setR.trans (hq1.mq.2.trans hq2.mq.2)))
                      simp only [p_knd, cc, if_true, if_false] at q0
                      exact q0
                    · skip
                      refine w_iload dX7_kind_89 rfl ?_
                      refine w_iload dX7_kind_91 rfl ?_
                      refine w_icmp_ne (t := 107) dX7_kind_93 (by decide) (fun hz12 => ?_) (fun hz12 => ?_)
                      · skip
                        refine w_iconst dX7_kind_107 ic_0 ?_
                        have cc : ((p_knd (σ.1 51) n k j i).1 < 0 ∨ (p_knd (σ.1 51) n k j i).2.1 < p_pass (upd (σ.1 51) (9 + 7 * k) (nI i)) n j (9 + 7 * k + 6) ∨ (p_pass (upd (σ.1 51) (9 + 7 * k) (nI i)) n j (9 + 7 * k + 6) = (p_knd (σ.1 51) n k j i).2.1 ∧ p_pass (upd (σ.1 51) (9 + 7 * k) (nI i)) n j (9 + 7 * k + 5) < (p_knd (σ.1 51) n k j i).2.2)) = False := eq_false (fun z => z.elim hz4 (fun z => z.elim hz8 (fun z => hz12 z.1)))
                        refine w_istore dX7_kind_108 (by decide) rfl rfl ?_
                        dsimp only [List.set]
                        refine w_iload dX7_kind_110 rfl ?_
                        refine w_if_eq (t := 120) dX7_kind_112 (by decide) (fun hz13 => ?_) (fun hz13 => absurd rfl hz13)
                        refine w_iload dX7_kind_120 rfl ?_
                        refine w_istore dX7_kind_122 (by decide) rfl rfl ?_
                        dsimp only [List.set]
                        refine w_iload dX7_kind_124 rfl ?_
                        refine w_if_eq (t := 134) dX7_kind_126 (by decide) (fun hz14 => ?_) (fun hz14 => absurd rfl hz14)
                        refine w_iload dX7_kind_134 rfl ?_
                        refine w_istore dX7_kind_136 (by decide) rfl rfl ?_
                        dsimp only [List.set]
                        refine w_iload dX7_kind_138 rfl ?_
                        refine w_if_eq (t := 148) dX7_kind_140 (by decide) (fun hz15 => ?_) (fun hz15 => absurd rfl hz15)
                        refine w_iload dX7_kind_148 rfl ?_
                        refine w_istore dX7_kind_150 (by decide) rfl rfl ?_
                        dsimp only [List.set]
                        refine w_iincN (a := i) (b := 1) dX7_kind_152 rfl ic_1 (by decide) rfl rfl ?_
                        dsimp only [List.set]
                        refine w_goto (t := 44) dX7_kind_155 (by decide) ?_
                        have q0 := ih (i + 1) τ2 (nI i) (some (.int (p_pass (upd (σ.1 51) (9 + 7 * k) (nI i)) n j (9 + 7 * k + 6)))) (some (.int (p_pass (upd (σ.1 51) (9 + 7 * k) (nI i)) n j (9 + 7 * k + 5)))) (some (.int 0)) (by omega) (by omega) (by rw [hq2.row, hq1.row, setR_51, hro, upd_upd]) (hmr.trans (Mr.setR.trans (hq1.mq.2.trans hq2.mq.2)))
                        simp only [p_knd, cc, if_true, if_false] at q0
                        exact q0
                      · skip
                        refine w_iload dX7_kind_96 rfl ?_
                        refine w_iload dX7_kind_98 rfl ?_
                        refine w2_icmp_ge (t := 107) dX7_kind_100 (by decide) (fun hz16 => ?_) (fun hz16 => ?_)
                        · skip
                          refine w_iconst dX7_kind_107 ic_0 ?_
                          have cc : ((p_knd (σ.1 51) n k j i).1 < 0 ∨ (p_knd (σ.1 51) n k j i).2.1 < p_pass (upd (σ.1 51) (9 + 7 * k) (nI i)) n j (9 + 7 * k + 6) ∨ (p_pass (upd (σ.1 51) (9 + 7 * k) (nI i)) n j (9 + 7 * k + 6) = (p_knd (σ.1 51) n k j i).2.1 ∧ p_pass (upd (σ.1 51) (9 + 7 * k) (nI i)) n j (9 + 7 * k + 5) < (p_knd (σ.1 51) n k j i).2.2)) = False := eq_false (fun z => z.elim hz4 (fun z => z.elim hz8 (fun z => hz16 z.2)))
                          refine w_istore dX7_kind_108 (by decide) rfl rfl ?_
                          dsimp only [List.set]
                          refine w_iload dX7_kind_110 rfl ?_
                          refine w_if_eq (t := 120) dX7_kind_112 (by decide) (fun hz17 => ?_) (fun hz17 => absurd rfl hz17)
                          refine w_iload dX7_kind_120 rfl ?_
                          refine w_istore dX7_kind_122 (by decide) rfl rfl ?_
                          dsimp only [List.set]
                          refine w_iload dX7_kind_124 rfl ?_
                          refine w_if_eq (t := 134) dX7_kind_126 (by decide) (fun hz18 => ?_) (fun hz18 => absurd rfl hz18)
                          refine w_iload dX7_kind_134 rfl ?_
                          refine w_istore dX7_kind_136 (by decide) rfl rfl ?_
                          dsimp only [List.set]
                          refine w_iload dX7_kind_138 rfl ?_
                          refine w_if_eq (t := 148) dX7_kind_140 (by decide) (fun hz19 => ?_) (fun hz19 => absurd rfl hz19)
                          refine w_iload dX7_kind_148 rfl ?_
                          refine w_istore dX7_kind_150 (by decide) rfl rfl ?_
                          dsimp only [List.set]
                          refine w_iincN (a := i) (b := 1) dX7_kind_152 rfl ic_1 (by decide) rfl rfl ?_
                          dsimp only [List.set]
                          refine w_goto (t := 44) dX7_kind_155 (by decide) ?_
                          have q0 := ih (i + 1) τ2 (nI i) (some (.int (p_pass (upd (σ.1 51) (9 + 7 * k) (nI i)) n j (9 + 7 * k + 6)))) (some (.int (p_pass (upd (σ.1 51) (9 + 7 * k) (nI i)) n j (9 + 7 * k + 5)))) (some (.int 0)) (by omega) (by omega) (by rw [hq2.row, hq1.row, setR_51, hro, upd_upd]) (hmr.trans (Mr.setR.trans (hq1.mq.2.trans hq2.mq.2)))
                          simp only [p_knd, cc, if_true, if_false] at q0
                          exact q0
                        · skip
                          refine w_iconst dX7_kind_103 ic_1 ?_
                          refine w_goto (t := 108) dX7_kind_104 (by decide) ?_
                          have cc : ((p_knd (σ.1 51) n k j i).1 < 0 ∨ (p_knd (σ.1 51) n k j i).2.1 < p_pass (upd (σ.1 51) (9 + 7 * k) (nI i)) n j (9 + 7 * k + 6) ∨ (p_pass (upd (σ.1 51) (9 + 7 * k) (nI i)) n j (9 + 7 * k + 6) = (p_knd (σ.1 51) n k j i).2.1 ∧ p_pass (upd (σ.1 51) (9 + 7 * k) (nI i)) n j (9 + 7 * k + 5) < (p_knd (σ.1 51) n k j i).2.2)) = True := eq_true (Or.inr (Or.inr ⟨hz12, hz16⟩))
                          refine w_istore dX7_kind_108 (by decide) rfl rfl ?_
                          dsimp only [List.set]
                          refine w_iload dX7_kind_110 rfl ?_
                          refine w_if_eq (t := 120) dX7_kind_112 (by decide) (fun hz20 => absurd hz20 (by decide)) (fun hz20 => ?_)
                          refine w_iload dX7_kind_115 rfl ?_
                          refine w_goto (t := 122) dX7_kind_117 (by decide) ?_
                          refine w_istore dX7_kind_122 (by decide) rfl rfl ?_
                          dsimp only [List.set]
                          refine w_iload dX7_kind_124 rfl ?_
                          refine w_if_eq (t := 134) dX7_kind_126 (by decide) (fun hz21 => absurd hz21 (by decide)) (fun hz21 => ?_)
                          refine w_iload dX7_kind_129 rfl ?_
                          refine w_goto (t := 136) dX7_kind_131 (by decide) ?_
                          refine w_istore dX7_kind_136 (by decide) rfl rfl ?_
                          dsimp only [List.set]
                          refine w_iload dX7_kind_138 rfl ?_
                          refine w_if_eq (t := 148) dX7_kind_140 (by decide) (fun hz22 => absurd hz22 (by decide)) (fun hz22 => ?_)
                          refine w_iload dX7_kind_143 rfl ?_
                          refine w_goto (t := 150) dX7_kind_145 (by decide) ?_
                          refine w_istore dX7_kind_150 (by decide) rfl rfl ?_
                          dsimp only [List.set]
                          refine w_iincN (a := i) (b := 1) dX7_kind_152 rfl ic_1 (by decide) rfl rfl ?_
                          dsimp only [List.set]
                          refine w_goto (t := 44) dX7_kind_155 (by decide) ?_
                          have q0 := ih (i + 1) τ2 (nI i) (some (.int (p_pass (upd (σ.1 51) (9 + 7 * k) (nI i)) n j (9 + 7 * k + 6)))) (some (.int (p_pass (upd (σ.1 51) (9 + 7 * k) (nI i)) n j (9 + 7 * k + 5)))) (some (.int 1)) (by omega) (by omega) (by rw [hq2.row, hq1.row, setR_51, hro, upd_upd]) (hmr.trans (Mr.setR.trans (hq1.mq.2.trans hq2.mq.2)))
                          simp only [p_knd, cc, if_true, if_false] at q0
                          exact q0
        exact lp 7 0 σ (σ.1 51 (9 + 7 * k)) none none none (by omega) (by omega) (upd_same _ _).symm Mr.rfl
    · skip
      refine w_aload_n dX7_kind_18 rfl ?_
      refine w_ldc dX7_kind_19 kc_X7_44 ?_
      refine w_callVi dX7_kind_21 ml_X7_53 mv_X7_finds rfl rfl (by decide) rfl (e7_finds G _ _ 0 (by decide) (by decide)) rfl rfl (Nat.le_of_ble_eq_true rfl) ?_
      refine w_iret dX7_kind_24 rfl ?_
      try simp only [setR_51, setR_setR, wI_51]
      first
      | exact PQ.fnd (by simp only [M_kind, obs_1, hnR, if_true, if_false, eq_false hz1, eq_true hz2])
      | exact PQ.same (by simp only [M_kind, obs_1, hnR, if_true, if_false, eq_false hz1, eq_true hz2])
      | exact PQ.row (by simp only [M_kind, obs_1, hnR, if_true, if_false, eq_false hz1, eq_true hz2])
theorem p_down_8 (f : Nat → Int32) (n r : Nat) : p_down f n r 8 = nI (n - 1) := by
  unfold p_down
  rw [if_pos rfl]
theorem p_down_65 (f : Nat → Int32) {n r j : Nat} (h8 : n ≤ 8) (hj : 65 ≤ j) : p_down f n r j = f j := by
  unfold p_down
  rw [if_neg (by omega), if_neg (by omega)]
theorem back54 {σ τ : Sg} (h1 : ∀ j, j < 65 → τ.1 54 j = σ.1 51 j) (h2 : ∀ j, 65 ≤ j → τ.1 51 j = σ.1 51 j) : (cpN τ 54 51 65).1 51 = σ.1 51 := by
  funext j
  rcases Nat.lt_or_ge j 65 with h | h
  · rw [cpN_b h, h1 j h]
  · rw [cpN_b' (by omega), h2 j h]
set_option maxRecDepth 100000 in
set_option maxHeartbeats 4000000 in
theorem m_thief (G : GT) (σ : Sg) (r q : Int32) (n : Nat) (hn : σ.1 51 8 = nI n) (h8 : n ≤ 8) : Ev G mX7_thief [.ref 50, .int r, .int q] σ (PQ σ (M_thief (obs σ) r q)) := by
  have hnR := nR_of hn h8
  refine Ev.ofL (m := 5) (L := [some (.ref 50), some (.int r), some (.int q), none, none, none, none, none]) rfl (Nat.le_of_ble_eq_true rfl) rfl rfl ?_
  refine w_aload_n dX7_thief_0 rfl ?_
  refine w_iload_n dX7_thief_1 rfl ?_
  refine w_callVi dX7_thief_2 ml_X7_87 mv_X7_isRod rfl rfl (by decide) rfl (e7_isRod G _ _) rfl rfl (Nat.le_of_ble_eq_true rfl) ?_
  refine w_if_eq (t := 18) dX7_thief_5 (by decide) (fun hz1 => ?_) (fun hz1 => ?_)
  · skip
    refine w_aload_n dX7_thief_18 rfl ?_
    refine w_ldc dX7_thief_19 kc_X7_44 ?_
    refine w_callVi dX7_thief_21 ml_X7_53 mv_X7_finds rfl rfl (by decide) rfl (e7_finds G _ _ 0 (by decide) (by decide)) rfl rfl (Nat.le_of_ble_eq_true rfl) ?_
    refine w_iret dX7_thief_24 rfl ?_
    try simp only [setR_51, setR_setR, wI_51]
    first
    | exact PQ.fnd (by simp only [M_thief, obs_1, hnR, if_true, if_false, eq_true hz1])
    | exact PQ.same (by simp only [M_thief, obs_1, hnR, if_true, if_false, eq_true hz1])
    | exact PQ.row (by simp only [M_thief, obs_1, hnR, if_true, if_false, eq_true hz1])
  · skip
    refine w_iload_n dX7_thief_8 rfl ?_
    refine w_iconst dX7_thief_9 ic_0 ?_
    refine w_bipush dX7_thief_10 bp_60 ?_
    refine w_callSi dX7_thief_12 ml_X7_45 ms_X7_in rfl (e7_in G _ _ _ _) rfl rfl (Nat.le_of_ble_eq_true rfl) ?_
    refine w_if_ne (t := 25) dX7_thief_15 (by decide) (fun hz2 => ?_) (fun hz2 => ?_)
    · skip
      obtain ⟨k, hk, rfl⟩ := rod_of hz1 hn h8
      have hck : (nI k).toNatClampNeg = k := nI_clamp (by omega)
      obtain ⟨j, hj, rfl⟩ := in_0 (m := 60) hz2 rfl (by decide)
      have hcj : (nI j).toNatClampNeg = j := nI_clamp (by omega)
      · skip
        refine w_iconst dX7_thief_25 ic_m1 ?_
        refine w_istore_n dX7_thief_26 (by decide) rfl rfl ?_
        dsimp only [List.set]
        refine w_aload_n dX7_thief_27 rfl ?_
        refine w_iload_n dX7_thief_28 rfl ?_
        refine w_iload_n dX7_thief_29 rfl ?_
        refine w_bipush dX7_thief_30 bp_6 ?_
        refine w_callVqi dX7_thief_32 ml_X7_130 mv_X7_onOf rfl rfl (by decide) rfl (e7_onOf G _ k j 6 (by omega) (by omega) (by decide) n hn h8) rfl rfl (Nat.le_of_ble_eq_true rfl) (fun τ0 hq0 => ?_)
        refine w_istore dX7_thief_35 (by decide) rfl rfl ?_
        dsimp only [List.set]
        refine w_aload_n dX7_thief_37 rfl ?_
        refine w_iconst dX7_thief_38 ic_1 ?_
        refine w_aload_n dX7_thief_39 rfl ?_
        refine w_getR (t := 54) dX7_thief_40 fl_X7_19 rfl (by decide) (by decide) rfl ?_
        refine w_callVv dX7_thief_43 ml_X7_126 mv_X7_moveAll rfl rfl (by decide) rfl (e7_move1 G _ 54 rfl rfl (by decide) (by decide)) rfl rfl (Nat.le_of_ble_eq_true rfl) ?_
        refine w_aload_n dX7_thief_46 rfl ?_
        refine w_getR (t := 51) dX7_thief_47 fl_X7_7 rfl (by decide) (by decide) rfl ?_
        refine w_bipush dX7_thief_50 bp_8 ?_
        refine w_iald (j := 8) dX7_thief_52 rfl (by decide) rfl (by decide) ?_
        refine w_eqi (y := nI n) (by rw [cpN_ne (by decide), hq0.row]; exact hn) ?_
        · skip
          refine w_istore dX7_thief_53 (by decide) rfl rfl ?_
          dsimp only [List.set]
          refine w_iconst dX7_thief_55 ic_0 ?_
          refine w_istore dX7_thief_56 (by decide) rfl rfl ?_
          dsimp only [List.set]
          have lp : ∀ (m : Nat) (i : Nat) (τ : Sg) (x7 : Option Value), n - i < m → i ≤ n → τ.1 51 = σ.1 51 → Mr σ τ → (∀ j, j < 65 → τ.1 54 j = σ.1 51 j) → WP G mX7_thief 58 [some (.ref 50), some (.int (nI k)), some (.int (nI j)), some (.int (oI (p_thf (σ.1 51) n k j i).1)), some (.int (p_thf (σ.1 51) n k j i).2), some (.int (nI n)), some (.int (nI i)), x7] [] (τ) (PQ σ (M_thief (obs σ) (nI k) (nI j))) := by
            intro m
            induction m with
            | zero => intro i τ x7 hm; exact absurd hm (Nat.not_lt_zero _)
            | succ m ih =>
              intro i τ x7 hm hi hro hmr h54
              refine w_iload dX7_thief_58 rfl ?_
              refine w_iload dX7_thief_60 rfl ?_
              refine w2_icmp_ge (t := 144) dX7_thief_62 (by decide) (fun hz3 => ?_) (fun hz3 => ?_)
              · skip
                have hge := nlt_nI (by omega) (by omega) hz3
                have hen : i = n := by omega
                subst hen
                refine w_iload_n dX7_thief_144 rfl ?_
                refine w2_if_ge (t := 157) dX7_thief_145 (by decide) (fun hz4 => ?_) (fun hz4 => ?_)
                · skip
                  refine w_iload_n dX7_thief_157 rfl ?_
                  refine w_iret dX7_thief_158 rfl ?_
                  rcases ho : (p_thf (σ.1 51) i k j i).1 with _ | o
                  · rw [ho] at hz4
                    exact absurd (by decide) hz4
                  · exact PQ.mq (by simp only [M_thief, obs_1, hnR, hck, hcj, eq_false hz1, eq_false hz2, if_false, ho, M_opt, oI]) ⟨hro, hmr⟩
                · skip
                  refine w_aload_n dX7_thief_148 rfl ?_
                  refine w_ldc dX7_thief_149 kc_X7_149 ?_
                  refine w_callVi dX7_thief_151 ml_X7_53 mv_X7_finds rfl rfl (by decide) rfl (e7_finds G _ _ 3 (by decide) (by decide)) rfl rfl (Nat.le_of_ble_eq_true rfl) ?_
                  refine w_goto (t := 158) dX7_thief_154 (by decide) ?_
                  refine w_iret dX7_thief_158 rfl ?_
                  rcases ho : (p_thf (σ.1 51) i k j i).1 with _ | o
                  · exact PQ.mqf (by simp only [M_thief, obs_1, hnR, hck, hcj, eq_false hz1, eq_false hz2, if_false, ho, M_opt]) ⟨hro, hmr⟩
                  · rw [ho] at hz4
                    exact absurd hz4 (nI_pos (by have := p_thf_lt (σ.1 51) i k j i o ho; omega))
              · skip
                have hlt := lt_nI (by omega) (by omega) hz3
                refine w_iload dX7_thief_65 rfl ?_
                refine w_iload_n dX7_thief_67 rfl ?_
                refine w_icmp_eq (t := 138) dX7_thief_68 (by decide) (fun hz5 => ?_) (fun hz5 => ?_)
                · skip
                  have hik : i = k := (nI_eq (by omega) (by omega)).mp hz5
                  refine w_iincN (a := i) (b := 1) dX7_thief_138 rfl ic_1 (by decide) rfl rfl ?_
                  dsimp only [List.set]
                  refine w_goto (t := 58) dX7_thief_141 (by decide) ?_
                  have q0 := ih (i + 1) τ x7 (by omega) (by omega) hro hmr h54
                  simp only [p_thf, eq_true hik, if_true] at q0
                  exact q0
                · skip
                  have hik : ¬ i = k := fun z => hz5 (by rw [z])
                  refine w_aload_n dX7_thief_71 rfl ?_
                  refine w_iload dX7_thief_72 rfl ?_
                  refine w_callVv dX7_thief_74 ml_X7_97 mv_X7_comesDown rfl rfl (by decide) rfl (e7_comesDown G _ n i (by omega) (by rw [hro]; exact hn) h8) rfl rfl (Nat.le_of_ble_eq_true rfl) ?_
                  refine w_aload_n dX7_thief_77 rfl ?_
                  refine w_iload dX7_thief_78 rfl ?_
                  refine w_iload_n dX7_thief_80 rfl ?_
                  refine w2_icmp_ge (t := 90) dX7_thief_81 (by decide) (fun hz6 => ?_) (fun hz6 => ?_)
                  · skip
                    have hik2 : ¬ i < k := Nat.not_lt.mpr (nlt_nI (by omega) (by omega) hz6)
                    refine w_iload_n dX7_thief_90 rfl ?_
                    refine w_eqi (y := nI (if i < k then k - 1 else k)) (by rw [if_neg hik2]) ?_
                    · skip
                      refine w_iload_n dX7_thief_91 rfl ?_
                      refine w_bipush dX7_thief_92 bp_6 ?_
                      refine w_callVqi dX7_thief_94 ml_X7_130 mv_X7_onOf rfl rfl (by decide) rfl (e7_onOf G _ (if i < k then k - 1 else k) j 6 (by split <;> omega) (by omega) (by decide) (n - 1) (by rw [setR_51, p_down_8]) (by omega)) rfl rfl (Nat.le_of_ble_eq_true rfl) (fun τ1 hq1 => ?_)
                      simp only [setR_51, hro]
                      refine w_eqi (y := p_wo (σ.1 51) n k j i) rfl ?_
                      · skip
                        refine w_istore dX7_thief_97 (by decide) rfl rfl ?_
                        dsimp only [List.set]
                        refine w_iload dX7_thief_99 rfl ?_
                        refine w_iload dX7_thief_101 rfl ?_
                        refine w2_icmp_le (t := 111) dX7_thief_103 (by decide) (fun hz7 => ?_) (fun hz7 => ?_)
                        · skip
                          refine w_iload_n dX7_thief_111 rfl ?_
                          refine w_istore_n dX7_thief_112 (by decide) rfl rfl ?_
                          dsimp only [List.set]
                          have cc := hz7
                          refine w_iload dX7_thief_113 rfl ?_
                          refine w_iload dX7_thief_115 rfl ?_
                          refine w2_icmp_le (t := 125) dX7_thief_117 (by decide) (fun hz8 => ?_) (fun hz8 => absurd hz8 hz7)
                          refine w_iload dX7_thief_125 rfl ?_
                          refine w_istore dX7_thief_127 (by decide) rfl rfl ?_
                          dsimp only [List.set]
                          refine w_aload_n dX7_thief_129 rfl ?_
                          refine w_iconst dX7_thief_130 ic_0 ?_
                          refine w_aload_n dX7_thief_131 rfl ?_
                          refine w_getR (t := 54) dX7_thief_132 fl_X7_19 rfl (by decide) (by decide) rfl ?_
                          refine w_callVv dX7_thief_135 ml_X7_126 mv_X7_moveAll rfl rfl (by decide) rfl (e7_move0 G _ 54 rfl rfl (by decide) (by decide)) rfl rfl (Nat.le_of_ble_eq_true rfl) ?_
                          skip
                          refine w_iincN (a := i) (b := 1) dX7_thief_138 rfl ic_1 (by decide) rfl rfl ?_
                          dsimp only [List.set]
                          refine w_goto (t := 58) dX7_thief_141 (by decide) ?_
                          have q0 := ih (i + 1) (cpN τ1 54 51 65) (some (.int (p_wo (σ.1 51) n k j i))) (by omega) (by omega) (back54 (fun j hj => by rw [hq1.1 54 j (by decide), setR_ne (by decide)]; exact h54 j hj) (fun j hj => by rw [hq1.row, setR_51, hro, p_down_65 _ h8 hj])) (hmr.trans (Mr.setR.trans (hq1.mq.2.trans (Mr.cp (by decide))))) (fun j hj => by rw [cpN_ne (by decide), hq1.1 54 j (by decide), setR_ne (by decide)]; exact h54 j hj)
                          simp only [p_thf, eq_false hik, cc, if_true, if_false] at q0
                          exact q0
                        · skip
                          refine w_iload dX7_thief_106 rfl ?_
                          refine w_goto (t := 112) dX7_thief_108 (by decide) ?_
                          refine w_istore_n dX7_thief_112 (by decide) rfl rfl ?_
                          dsimp only [List.set]
                          have cc := hz7
                          refine w_iload dX7_thief_113 rfl ?_
                          refine w_iload dX7_thief_115 rfl ?_
                          refine w2_icmp_le (t := 125) dX7_thief_117 (by decide) (fun hz9 => absurd hz7 hz9) (fun hz9 => ?_)
                          refine w_iload dX7_thief_120 rfl ?_
                          refine w_goto (t := 127) dX7_thief_122 (by decide) ?_
                          refine w_istore dX7_thief_127 (by decide) rfl rfl ?_
                          dsimp only [List.set]
                          refine w_aload_n dX7_thief_129 rfl ?_
                          refine w_iconst dX7_thief_130 ic_0 ?_
                          refine w_aload_n dX7_thief_131 rfl ?_
                          refine w_getR (t := 54) dX7_thief_132 fl_X7_19 rfl (by decide) (by decide) rfl ?_
                          refine w_callVv dX7_thief_135 ml_X7_126 mv_X7_moveAll rfl rfl (by decide) rfl (e7_move0 G _ 54 rfl rfl (by decide) (by decide)) rfl rfl (Nat.le_of_ble_eq_true rfl) ?_
                          skip
                          refine w_iincN (a := i) (b := 1) dX7_thief_138 rfl ic_1 (by decide) rfl rfl ?_
                          dsimp only [List.set]
                          refine w_goto (t := 58) dX7_thief_141 (by decide) ?_
                          have q0 := ih (i + 1) (cpN τ1 54 51 65) (some (.int (p_wo (σ.1 51) n k j i))) (by omega) (by omega) (back54 (fun j hj => by rw [hq1.1 54 j (by decide), setR_ne (by decide)]; exact h54 j hj) (fun j hj => by rw [hq1.row, setR_51, hro, p_down_65 _ h8 hj])) (hmr.trans (Mr.setR.trans (hq1.mq.2.trans (Mr.cp (by decide))))) (fun j hj => by rw [cpN_ne (by decide), hq1.1 54 j (by decide), setR_ne (by decide)]; exact h54 j hj)
                          simp only [p_thf, eq_false hik, cc, if_true, if_false] at q0
                          exact q0
                  · skip
                    have hik2 := lt_nI (by omega) (by omega) hz6
                    refine w_iload_n dX7_thief_84 rfl ?_
                    refine w_iconst dX7_thief_85 ic_1 ?_
                    refine w_isub dX7_thief_86 ?_
                    refine w_goto (t := 91) dX7_thief_87 (by decide) ?_
                    refine w_eqi (y := nI (if i < k then k - 1 else k)) (by rw [if_pos hik2]; exact pk_sub (b := 1) (by omega)) ?_
                    · skip
                      refine w_iload_n dX7_thief_91 rfl ?_
                      refine w_bipush dX7_thief_92 bp_6 ?_
                      refine w_callVqi dX7_thief_94 ml_X7_130 mv_X7_onOf rfl rfl (by decide) rfl (e7_onOf G _ (if i < k then k - 1 else k) j 6 (by split <;> omega) (by omega) (by decide) (n - 1) (by rw [setR_51, p_down_8]) (by omega)) rfl rfl (Nat.le_of_ble_eq_true rfl) (fun τ1 hq1 => ?_)
                      simp only [setR_51, hro]
                      refine w_eqi (y := p_wo (σ.1 51) n k j i) rfl ?_
                      · skip
                        refine w_istore dX7_thief_97 (by decide) rfl rfl ?_
                        dsimp only [List.set]
                        refine w_iload dX7_thief_99 rfl ?_
                        refine w_iload dX7_thief_101 rfl ?_
                        refine w2_icmp_le (t := 111) dX7_thief_103 (by decide) (fun hz10 => ?_) (fun hz10 => ?_)
                        · skip
                          refine w_iload_n dX7_thief_111 rfl ?_
                          refine w_istore_n dX7_thief_112 (by decide) rfl rfl ?_
                          dsimp only [List.set]
                          have cc := hz10
                          refine w_iload dX7_thief_113 rfl ?_
                          refine w_iload dX7_thief_115 rfl ?_
                          refine w2_icmp_le (t := 125) dX7_thief_117 (by decide) (fun hz11 => ?_) (fun hz11 => absurd hz11 hz10)
                          refine w_iload dX7_thief_125 rfl ?_
                          refine w_istore dX7_thief_127 (by decide) rfl rfl ?_
                          dsimp only [List.set]
                          refine w_aload_n dX7_thief_129 rfl ?_
                          refine w_iconst dX7_thief_130 ic_0 ?_
                          refine w_aload_n dX7_thief_131 rfl ?_
                          refine w_getR (t := 54) dX7_thief_132 fl_X7_19 rfl (by decide) (by decide) rfl ?_
                          refine w_callVv dX7_thief_135 ml_X7_126 mv_X7_moveAll rfl rfl (by decide) rfl (e7_move0 G _ 54 rfl rfl (by decide) (by decide)) rfl rfl (Nat.le_of_ble_eq_true rfl) ?_
                          skip
                          refine w_iincN (a := i) (b := 1) dX7_thief_138 rfl ic_1 (by decide) rfl rfl ?_
                          dsimp only [List.set]
                          refine w_goto (t := 58) dX7_thief_141 (by decide) ?_
                          have q0 := ih (i + 1) (cpN τ1 54 51 65) (some (.int (p_wo (σ.1 51) n k j i))) (by omega) (by omega) (back54 (fun j hj => by rw [hq1.1 54 j (by decide), setR_ne (by decide)]; exact h54 j hj) (fun j hj => by rw [hq1.row, setR_51, hro, p_down_65 _ h8 hj])) (hmr.trans (Mr.setR.trans (hq1.mq.2.trans (Mr.cp (by decide))))) (fun j hj => by rw [cpN_ne (by decide), hq1.1 54 j (by decide), setR_ne (by decide)]; exact h54 j hj)
                          simp only [p_thf, eq_false hik, cc, if_true, if_false] at q0
                          exact q0
                        · skip
                          refine w_iload dX7_thief_106 rfl ?_
                          refine w_goto (t := 112) dX7_thief_108 (by decide) ?_
                          refine w_istore_n dX7_thief_112 (by decide) rfl rfl ?_
                          dsimp only [List.set]
                          have cc := hz10
                          refine w_iload dX7_thief_113 rfl ?_
                          refine w_iload dX7_thief_115 rfl ?_
                          refine w2_icmp_le (t := 125) dX7_thief_117 (by decide) (fun hz12 => absurd hz10 hz12) (fun hz12 => ?_)
                          refine w_iload dX7_thief_120 rfl ?_
                          refine w_goto (t := 127) dX7_thief_122 (by decide) ?_
                          refine w_istore dX7_thief_127 (by decide) rfl rfl ?_
                          dsimp only [List.set]
                          refine w_aload_n dX7_thief_129 rfl ?_
                          refine w_iconst dX7_thief_130 ic_0 ?_
                          refine w_aload_n dX7_thief_131 rfl ?_
                          refine w_getR (t := 54) dX7_thief_132 fl_X7_19 rfl (by decide) (by decide) rfl ?_
                          refine w_callVv dX7_thief_135 ml_X7_126 mv_X7_moveAll rfl rfl (by decide) rfl (e7_move0 G _ 54 rfl rfl (by decide) (by decide)) rfl rfl (Nat.le_of_ble_eq_true rfl) ?_
                          skip
                          refine w_iincN (a := i) (b := 1) dX7_thief_138 rfl ic_1 (by decide) rfl rfl ?_
                          dsimp only [List.set]
                          refine w_goto (t := 58) dX7_thief_141 (by decide) ?_
                          have q0 := ih (i + 1) (cpN τ1 54 51 65) (some (.int (p_wo (σ.1 51) n k j i))) (by omega) (by omega) (back54 (fun j hj => by rw [hq1.1 54 j (by decide), setR_ne (by decide)]; exact h54 j hj) (fun j hj => by rw [hq1.row, setR_51, hro, p_down_65 _ h8 hj])) (hmr.trans (Mr.setR.trans (hq1.mq.2.trans (Mr.cp (by decide))))) (fun j hj => by rw [cpN_ne (by decide), hq1.1 54 j (by decide), setR_ne (by decide)]; exact h54 j hj)
                          simp only [p_thf, eq_false hik, cc, if_true, if_false] at q0
                          exact q0
          exact lp (n + 1) 0 _ none (by omega) (by omega) (funext fun j => by rw [cpN_ne (by decide)]; exact congrFun hq0.row j) (hq0.mq.2.trans (Mr.cp (by decide))) (fun j hj => by rw [cpN_b hj]; exact congrFun hq0.row j)
    · skip
      refine w_aload_n dX7_thief_18 rfl ?_
      refine w_ldc dX7_thief_19 kc_X7_44 ?_
      refine w_callVi dX7_thief_21 ml_X7_53 mv_X7_finds rfl rfl (by decide) rfl (e7_finds G _ _ 0 (by decide) (by decide)) rfl rfl (Nat.le_of_ble_eq_true rfl) ?_
      refine w_iret dX7_thief_24 rfl ?_
      try simp only [setR_51, setR_setR, wI_51]
      first
      | exact PQ.fnd (by simp only [M_thief, obs_1, hnR, if_true, if_false, eq_false hz1, eq_true hz2])
      | exact PQ.same (by simp only [M_thief, obs_1, hnR, if_true, if_false, eq_false hz1, eq_true hz2])
      | exact PQ.row (by simp only [M_thief, obs_1, hnR, if_true, if_false, eq_false hz1, eq_true hz2])
