set_option maxRecDepth 100000 in
set_option maxHeartbeats 800000 in
theorem e7_doesCover (G : GT) (σ : Sg) (sv fv0 mv0 : Int32) : Evi G mX7_doesCover [.int sv, .int fv0, .int mv0] σ (p_cov sv fv0 mv0 24) (σ) := by
  refine Ev.ofL (m := 2) (L := [some (.int sv), some (.int fv0), some (.int mv0), none, none]) rfl (Nat.le_of_ble_eq_true rfl) rfl rfl ?_
  refine w_iconst dX7_doesCover_0 ic_1 ?_
  refine w_istore_n dX7_doesCover_1 (by decide) rfl rfl ?_
  dsimp only [List.set]
  refine w_iconst dX7_doesCover_2 ic_0 ?_
  refine w_istore dX7_doesCover_3 (by decide) rfl rfl ?_
  dsimp only [List.set]
  have lp : ∀ (m : Nat) (i : Nat), 24 - i < m → i ≤ 24 → WP G mX7_doesCover 5 [some (.int sv), some (.int fv0), some (.int mv0), some (.int (p_cov sv fv0 mv0 i)), some (.int (nI i))] [] (σ) (fun v σ' => v = some (.int (p_cov sv fv0 mv0 24)) ∧ σ' = (σ)) := by
    intro m
    induction m with
    | zero => intro i hm; exact absurd hm (Nat.not_lt_zero _)
    | succ m ih =>
      intro i hm hi
      refine w_iload dX7_doesCover_5 rfl ?_
      refine w_bipush dX7_doesCover_7 bp_24 ?_
      refine w2_icmp_ge (t := 51) dX7_doesCover_9 (by decide) (fun hz1 => ?_) (fun hz1 => ?_)
      · skip
        have hge := nlt_nI (n := 24) (by omega) (by decide) hz1
        have hen : i = 24 := by omega
        subst hen
        refine w_iload_n dX7_doesCover_51 rfl ?_
        refine w_zret dX7_doesCover_52 rfl (by rcases p_cov_01 sv fv0 mv0 24 with e | e <;> rw [e] <;> rfl) ?_
        exact ⟨rfl, rfl⟩
      · skip
        have hlt := lt_nI (n := 24) (by omega) (by decide) hz1
        refine w_iload_n dX7_doesCover_12 rfl ?_
        refine w_if_eq (t := 43) dX7_doesCover_13 (by decide) (fun hz2 => ?_) (fun hz2 => ?_)
        · skip
          refine w_iconst dX7_doesCover_43 ic_0 ?_
          refine w_istore_n dX7_doesCover_44 (by decide) rfl rfl ?_
          dsimp only [List.set]
          refine w_iincN (a := i) (b := 1) dX7_doesCover_45 rfl ic_1 (by decide) rfl rfl ?_
          dsimp only [List.set]
          refine w_goto (t := 5) dX7_doesCover_48 (by decide) ?_
          have q0 := ih (i + 1) (by omega) (by omega)
          rw [p_cov_s sv fv0 mv0 i, if_pos hz2] at q0
          exact q0
        · skip
          refine w_iload_n dX7_doesCover_16 rfl ?_
          refine w_iload dX7_doesCover_17 rfl ?_
          refine w_ishr dX7_doesCover_19 ?_
          refine w_iconst dX7_doesCover_20 ic_1 ?_
          refine w_iand dX7_doesCover_21 ?_
          refine w_if_eq (t := 39) dX7_doesCover_22 (by decide) (fun hz3 => ?_) (fun hz3 => ?_)
          · skip
            refine w_iconst dX7_doesCover_39 ic_1 ?_
            refine w_goto (t := 44) dX7_doesCover_40 (by decide) ?_
            refine w_istore_n dX7_doesCover_44 (by decide) rfl rfl ?_
            dsimp only [List.set]
            refine w_iincN (a := i) (b := 1) dX7_doesCover_45 rfl ic_1 (by decide) rfl rfl ?_
            dsimp only [List.set]
            refine w_goto (t := 5) dX7_doesCover_48 (by decide) ?_
            have q0 := ih (i + 1) (by omega) (by omega)
            rw [p_cov_s sv fv0 mv0 i, if_neg hz2, if_pos hz3] at q0
            exact q0
          · skip
            refine w_iload dX7_doesCover_25 rfl ?_
            refine w_iload_n dX7_doesCover_27 rfl ?_
            refine w_isub dX7_doesCover_28 ?_
            refine w_bipush dX7_doesCover_29 bp_24 ?_
            refine w_iadd dX7_doesCover_31 ?_
            refine w_bipush dX7_doesCover_32 bp_24 ?_
            refine w_irem dX7_doesCover_34 (by decide) ?_
            refine w_iload_n dX7_doesCover_35 rfl ?_
            refine w2_icmp_ge (t := 43) dX7_doesCover_36 (by decide) (fun hz4 => ?_) (fun hz4 => ?_)
            · skip
              refine w_iconst dX7_doesCover_43 ic_0 ?_
              refine w_istore_n dX7_doesCover_44 (by decide) rfl rfl ?_
              dsimp only [List.set]
              refine w_iincN (a := i) (b := 1) dX7_doesCover_45 rfl ic_1 (by decide) rfl rfl ?_
              dsimp only [List.set]
              refine w_goto (t := 5) dX7_doesCover_48 (by decide) ?_
              have q0 := ih (i + 1) (by omega) (by omega)
              rw [p_cov_s sv fv0 mv0 i, if_neg hz2, if_neg hz3, if_neg hz4] at q0
              exact q0
            · skip
              refine w_iconst dX7_doesCover_39 ic_1 ?_
              refine w_goto (t := 44) dX7_doesCover_40 (by decide) ?_
              refine w_istore_n dX7_doesCover_44 (by decide) rfl rfl ?_
              dsimp only [List.set]
              refine w_iincN (a := i) (b := 1) dX7_doesCover_45 rfl ic_1 (by decide) rfl rfl ?_
              dsimp only [List.set]
              refine w_goto (t := 5) dX7_doesCover_48 (by decide) ?_
              have q0 := ih (i + 1) (by omega) (by omega)
              rw [p_cov_s sv fv0 mv0 i, if_neg hz2, if_neg hz3, if_pos hz4] at q0
              exact q0
  exact lp 25 0 (by omega) (by omega)
theorem nI_rem24 (t : Nat) (ht : t < 2 ^ 31) : p_rem (nI t) 24 = nI (t % 24) := pk_rem ht (by decide) (by decide)
set_option maxRecDepth 100000 in
set_option maxHeartbeats 800000 in
theorem e7_fewest (G : GT) (σ : Sg) (sv : Int32) : Ev G mX7_fewest [.ref 50, .int sv] σ (fun v σ' => v = some (.int (nI (p_few sv / 24))) ∧ Mq σ σ' ∧ σ'.1 50 8 = nI (p_few sv % 24)) := by
  refine Ev.ofL (m := 1) (L := [some (.ref 50), some (.int sv), none]) rfl (Nat.le_of_ble_eq_true rfl) rfl rfl ?_
  refine w_iconst dX7_fewest_0 ic_0 ?_
  refine w_istore_n dX7_fewest_1 (by decide) rfl rfl ?_
  dsimp only [List.set]
  refine w_aload_n dX7_fewest_2 rfl ?_
  refine w_iconst dX7_fewest_3 ic_0 ?_
  refine w_putI dX7_fewest_4 fl_X7_157 rfl rfl (by decide +kernel) ?_
  have lp : ∀ (m : Nat) (t : Nat) (τ : Sg), 577 - t < m → t ≤ 576 → Mq σ τ → τ.1 50 8 = nI (t % 24) → p_fst (p_ct sv) (576 - t) t = p_few sv → WP G mX7_fewest 7 [some (.ref 50), some (.int sv), some (.int (nI (t / 24)))] [] (τ) (fun v σ' => v = some (.int (nI (p_few sv / 24))) ∧ Mq σ σ' ∧ σ'.1 50 8 = nI (p_few sv % 24)) := by
    intro m
    induction m with
    | zero => intro t τ hm; exact absurd hm (Nat.not_lt_zero _)
    | succ m ih =>
      intro t τ hm ht hmq hcf hps
      refine w_iload_n dX7_fewest_7 rfl ?_
      refine w_aload_n dX7_fewest_8 rfl ?_
      refine w_getI dX7_fewest_9 fl_X7_157 rfl rfl ?_
      refine w_eqi hcf ?_
      · skip
        refine w_iload_n dX7_fewest_12 rfl ?_
        refine w_callSi dX7_fewest_13 ml_X7_160 ms_X7_doesCover rfl (e7_doesCover G _ _ _ _) rfl rfl (Nat.le_of_ble_eq_true rfl) ?_
        refine w_if_ne (t := 60) dX7_fewest_16 (by decide) (fun hz1 => ?_) (fun hz1 => ?_)
        · skip
          refine w_iload_n dX7_fewest_60 rfl ?_
          refine w_iret dX7_fewest_61 rfl ?_
          have hb1 : ¬ p_ct sv t = 0 := hz1
          have h6 : t = p_few sv := by
            rw [← hps]
            rcases Nat.lt_or_ge t 576 with z | z
            · rw [show 576 - t = (576 - (t + 1)) + 1 by omega, p_fst_s, if_neg hb1]
            · rw [show 576 - t = 0 by omega, p_fst_0]
          rw [← h6]
          exact ⟨rfl, hmq, hcf⟩
        · skip
          refine w_aload_n dX7_fewest_19 rfl ?_
          refine w_dup dX7_fewest_20 rfl ?_
          refine w_getI dX7_fewest_21 fl_X7_157 rfl rfl ?_
          refine w_iconst dX7_fewest_24 ic_1 ?_
          refine w_iadd dX7_fewest_25 ?_
          refine w_putI dX7_fewest_26 fl_X7_157 rfl rfl (by decide +kernel) ?_
          refine w_iload_n dX7_fewest_29 rfl ?_
          refine w_aload_n dX7_fewest_30 rfl ?_
          refine w_getI dX7_fewest_31 fl_X7_157 rfl rfl ?_
          refine w_bipush dX7_fewest_34 bp_24 ?_
          refine w_icmp_ne (t := 43) dX7_fewest_36 (by decide) (fun hz2 => ?_) (fun hz2 => ?_)
          · skip
            refine w_iconst dX7_fewest_43 ic_0 ?_
            refine w_iaddN (a := (t / 24)) (b := 0) dX7_fewest_44 ?_
            refine w_istore_n dX7_fewest_45 (by decide) rfl rfl ?_
            dsimp only [List.set]
            refine w_aload_n dX7_fewest_46 rfl ?_
            refine w_dup dX7_fewest_47 rfl ?_
            refine w_getI dX7_fewest_48 fl_X7_157 rfl rfl ?_
            refine w_bipush dX7_fewest_51 bp_24 ?_
            refine w_irem dX7_fewest_53 (by decide) ?_
            refine w_putI dX7_fewest_54 fl_X7_157 rfl rfl (by decide +kernel) ?_
            refine w_goto (t := 7) dX7_fewest_57 (by decide) ?_
            have hb0 : p_ct sv t = 0 := hz1
            have ht2 : ¬ t = 576 := fun z => by
              have e : p_ct sv t = 0 := hb0
              rw [z, p_ct_end] at e
              cases e
            refine w_L (L' := [some (.ref 50), some (.int sv), some (.int (nI ((t + 1) / 24)))]) ?_ (ih (t + 1) _ (by omega) (by omega) (hmq.trans ⟨funext fun _ => by rw [wI_c (by decide), wI_c (by decide)], (Mr.fld rfl).trans (Mr.fld rfl)⟩) ?_ ?_)
            · have e24 := hz2
              simp only [wI_s, hcf] at e24
              rw [nI_1] at e24
              have e25 : ¬ t % 24 + 1 = 24 := fun z => e24 (by rw [z]; rfl)
              rw [show t / 24 + 0 = (t + 1) / 24 by omega]
            · rw [wI_s, wI_s, hcf, nI_1]
              exact (nI_rem24 _ (by omega)).trans (by rw [show (t % 24 + 1) % 24 = (t + 1) % 24 by omega])
            · rw [← hps, show 576 - t = (576 - (t + 1)) + 1 by omega, p_fst_s, if_pos hb0]
          · skip
            refine w_iconst dX7_fewest_39 ic_1 ?_
            refine w_goto (t := 44) dX7_fewest_40 (by decide) ?_
            refine w_iaddN (a := (t / 24)) (b := 1) dX7_fewest_44 ?_
            refine w_istore_n dX7_fewest_45 (by decide) rfl rfl ?_
            dsimp only [List.set]
            refine w_aload_n dX7_fewest_46 rfl ?_
            refine w_dup dX7_fewest_47 rfl ?_
            refine w_getI dX7_fewest_48 fl_X7_157 rfl rfl ?_
            refine w_bipush dX7_fewest_51 bp_24 ?_
            refine w_irem dX7_fewest_53 (by decide) ?_
            refine w_putI dX7_fewest_54 fl_X7_157 rfl rfl (by decide +kernel) ?_
            refine w_goto (t := 7) dX7_fewest_57 (by decide) ?_
            have hb0 : p_ct sv t = 0 := hz1
            have ht2 : ¬ t = 576 := fun z => by
              have e : p_ct sv t = 0 := hb0
              rw [z, p_ct_end] at e
              cases e
            refine w_L (L' := [some (.ref 50), some (.int sv), some (.int (nI ((t + 1) / 24)))]) ?_ (ih (t + 1) _ (by omega) (by omega) (hmq.trans ⟨funext fun _ => by rw [wI_c (by decide), wI_c (by decide)], (Mr.fld rfl).trans (Mr.fld rfl)⟩) ?_ ?_)
            · have e24 := hz2
              simp only [wI_s, hcf] at e24
              rw [nI_1] at e24
              have e25 : t % 24 + 1 = 24 := (nI_eq (by omega) (by decide)).mp (e24.trans rfl)
              rw [show t / 24 + 1 = (t + 1) / 24 by omega]
            · rw [wI_s, wI_s, hcf, nI_1]
              exact (nI_rem24 _ (by omega)).trans (by rw [show (t % 24 + 1) % 24 = (t + 1) % 24 by omega])
            · rw [← hps, show 576 - t = (576 - (t + 1)) + 1 by omega, p_fst_s, if_pos hb0]
  refine lp 578 0 _ (by omega) (by omega) ⟨funext fun _ => wI_c (by decide), Mr.fld rfl⟩ ?_ rfl
  rw [wI_s]
  rfl
set_option maxRecDepth 100000 in
set_option maxHeartbeats 800000 in
theorem m_covers (G : GT) (σ : Sg) (r q : Int32) (n : Nat) (hn : σ.1 51 8 = nI n) (h8 : n ≤ 8) : Ev G mX7_covers [.ref 50, .int r, .int q] σ (PQ σ (M_covers (obs σ) r q)) := by
  have hnR := nR_of hn h8
  refine Ev.ofL (m := 0) (L := [some (.ref 50), some (.int r), some (.int q)]) rfl (Nat.le_of_ble_eq_true rfl) rfl rfl ?_
  refine w_aload_n dX7_covers_0 rfl ?_
  refine w_iload_n dX7_covers_1 rfl ?_
  refine w_callVi dX7_covers_2 ml_X7_87 mv_X7_isRod rfl rfl (by decide) rfl (e7_isRod G _ _) rfl rfl (Nat.le_of_ble_eq_true rfl) ?_
  refine w_if_eq (t := 31) dX7_covers_5 (by decide) (fun hz1 => ?_) (fun hz1 => ?_)
  · skip
    refine w_aload_n dX7_covers_31 rfl ?_
    refine w_ldc dX7_covers_32 kc_X7_44 ?_
    refine w_callVi dX7_covers_34 ml_X7_53 mv_X7_finds rfl rfl (by decide) rfl (e7_finds G _ _ 0 (by decide) (by decide)) rfl rfl (Nat.le_of_ble_eq_true rfl) ?_
    refine w_iret dX7_covers_37 rfl ?_
    try simp only [setR_51, setR_setR, wI_51]
    first
    | exact PQ.fnd (by simp only [M_covers, obs_1, hnR, if_true, if_false, eq_true hz1])
    | exact PQ.same (by simp only [M_covers, obs_1, hnR, if_true, if_false, eq_true hz1])
    | exact PQ.row (by simp only [M_covers, obs_1, hnR, if_true, if_false, eq_true hz1])
  · skip
    refine w_iload_n dX7_covers_8 rfl ?_
    refine w_iconst dX7_covers_9 ic_0 ?_
    refine w_bipush dX7_covers_10 bp_100 ?_
    refine w_callSi dX7_covers_12 ml_X7_45 ms_X7_in rfl (e7_in G _ _ _ _) rfl rfl (Nat.le_of_ble_eq_true rfl) ?_
    refine w_if_eq (t := 31) dX7_covers_15 (by decide) (fun hz2 => ?_) (fun hz2 => ?_)
    · skip
      refine w_aload_n dX7_covers_31 rfl ?_
      refine w_ldc dX7_covers_32 kc_X7_44 ?_
      refine w_callVi dX7_covers_34 ml_X7_53 mv_X7_finds rfl rfl (by decide) rfl (e7_finds G _ _ 0 (by decide) (by decide)) rfl rfl (Nat.le_of_ble_eq_true rfl) ?_
      refine w_iret dX7_covers_37 rfl ?_
      try simp only [setR_51, setR_setR, wI_51]
      first
      | exact PQ.fnd (by simp only [M_covers, obs_1, hnR, if_true, if_false, eq_false hz1, eq_true hz2])
      | exact PQ.same (by simp only [M_covers, obs_1, hnR, if_true, if_false, eq_false hz1, eq_true hz2])
      | exact PQ.row (by simp only [M_covers, obs_1, hnR, if_true, if_false, eq_false hz1, eq_true hz2])
    · skip
      obtain ⟨k, hk, rfl⟩ := rod_of hz1 hn h8
      have hck : (nI k).toNatClampNeg = k := nI_clamp (by omega)
      obtain ⟨j, hj, rfl⟩ := in_0 (m := 100) hz2 rfl (by decide)
      have hcj : (nI j).toNatClampNeg = j := nI_clamp (by omega)
      · skip
        refine w_aload_n dX7_covers_18 rfl ?_
        refine w_aload_n dX7_covers_19 rfl ?_
        refine w_iload_n dX7_covers_20 rfl ?_
        refine w_iload_n dX7_covers_21 rfl ?_
        refine w_callVqi dX7_covers_22 ml_X7_154 mv_X7_clocksOf rfl rfl (by decide) rfl (e7_clocksOf G _ k j (by omega) (by omega) n hn h8) rfl rfl (Nat.le_of_ble_eq_true rfl) (fun τ1 hq => ?_)
        refine w_callVqi dX7_covers_25 ml_X7_163 mv_X7_fewest rfl rfl (by decide) rfl (e7_fewest G _ _) rfl rfl (Nat.le_of_ble_eq_true rfl) (fun τ2 hq2 => ?_)
        refine w_goto (t := 37) dX7_covers_28 (by decide) ?_
        refine w_iret dX7_covers_37 rfl ?_
        exact PQ.mq (by simp only [M_covers, obs_1, hnR, hck, hcj, eq_false hz1, eq_false hz2, if_false]) (hq.trans hq2.1)
set_option maxRecDepth 100000 in
set_option maxHeartbeats 800000 in
theorem m_from (G : GT) (σ : Sg) (r q : Int32) (n : Nat) (hn : σ.1 51 8 = nI n) (h8 : n ≤ 8) : Ev G mX7_from [.ref 50, .int r, .int q] σ (PQ σ (M_from (obs σ) r q)) := by
  have hnR := nR_of hn h8
  refine Ev.ofL (m := 1) (L := [some (.ref 50), some (.int r), some (.int q), none]) rfl (Nat.le_of_ble_eq_true rfl) rfl rfl ?_
  refine w_aload_n dX7_from_0 rfl ?_
  refine w_iload_n dX7_from_1 rfl ?_
  refine w_callVi dX7_from_2 ml_X7_87 mv_X7_isRod rfl rfl (by decide) rfl (e7_isRod G _ _) rfl rfl (Nat.le_of_ble_eq_true rfl) ?_
  refine w_if_eq (t := 18) dX7_from_5 (by decide) (fun hz1 => ?_) (fun hz1 => ?_)
  · skip
    refine w_aload_n dX7_from_18 rfl ?_
    refine w_ldc dX7_from_19 kc_X7_44 ?_
    refine w_callVi dX7_from_21 ml_X7_53 mv_X7_finds rfl rfl (by decide) rfl (e7_finds G _ _ 0 (by decide) (by decide)) rfl rfl (Nat.le_of_ble_eq_true rfl) ?_
    refine w_iret dX7_from_24 rfl ?_
    try simp only [setR_51, setR_setR, wI_51]
    first
    | exact PQ.fnd (by simp only [M_from, obs_1, hnR, if_true, if_false, eq_true hz1])
    | exact PQ.same (by simp only [M_from, obs_1, hnR, if_true, if_false, eq_true hz1])
    | exact PQ.row (by simp only [M_from, obs_1, hnR, if_true, if_false, eq_true hz1])
  · skip
    refine w_iload_n dX7_from_8 rfl ?_
    refine w_iconst dX7_from_9 ic_0 ?_
    refine w_bipush dX7_from_10 bp_100 ?_
    refine w_callSi dX7_from_12 ml_X7_45 ms_X7_in rfl (e7_in G _ _ _ _) rfl rfl (Nat.le_of_ble_eq_true rfl) ?_
    refine w_if_ne (t := 25) dX7_from_15 (by decide) (fun hz2 => ?_) (fun hz2 => ?_)
    · skip
      obtain ⟨k, hk, rfl⟩ := rod_of hz1 hn h8
      have hck : (nI k).toNatClampNeg = k := nI_clamp (by omega)
      obtain ⟨j, hj, rfl⟩ := in_0 (m := 100) hz2 rfl (by decide)
      have hcj : (nI j).toNatClampNeg = j := nI_clamp (by omega)
      · skip
        refine w_aload_n dX7_from_25 rfl ?_
        refine w_aload_n dX7_from_26 rfl ?_
        refine w_iload_n dX7_from_27 rfl ?_
        refine w_iload_n dX7_from_28 rfl ?_
        refine w_callVqi dX7_from_29 ml_X7_154 mv_X7_clocksOf rfl rfl (by decide) rfl (e7_clocksOf G _ k j (by omega) (by omega) n hn h8) rfl rfl (Nat.le_of_ble_eq_true rfl) (fun τ1 hq => ?_)
        refine w_callVqi dX7_from_32 ml_X7_163 mv_X7_fewest rfl rfl (by decide) rfl (e7_fewest G _ _) rfl rfl (Nat.le_of_ble_eq_true rfl) (fun τ2 hq2 => ?_)
        refine w_istore_n dX7_from_35 (by decide) rfl rfl ?_
        dsimp only [List.set]
        refine w_iload_n dX7_from_36 rfl ?_
        refine w2_if_ge (t := 44) dX7_from_37 (by decide) (fun hz3 => ?_) (fun hz3 => absurd hz3 (nI_pos (by have := p_few_le (p_clk (σ.1 51) n k j); omega)))
        refine w_aload_n dX7_from_44 rfl ?_
        refine w_getI dX7_from_45 fl_X7_157 rfl rfl ?_
        refine w_iret dX7_from_48 rfl ?_
        rw [hq2.2]
        exact PQ.mq (by simp only [M_from, obs_1, hnR, hck, hcj, eq_false hz1, eq_false hz2, if_false]) (hq.trans hq2.1)
    · skip
      refine w_aload_n dX7_from_18 rfl ?_
      refine w_ldc dX7_from_19 kc_X7_44 ?_
      refine w_callVi dX7_from_21 ml_X7_53 mv_X7_finds rfl rfl (by decide) rfl (e7_finds G _ _ 0 (by decide) (by decide)) rfl rfl (Nat.le_of_ble_eq_true rfl) ?_
      refine w_iret dX7_from_24 rfl ?_
      try simp only [setR_51, setR_setR, wI_51]
      first
      | exact PQ.fnd (by simp only [M_from, obs_1, hnR, if_true, if_false, eq_false hz1, eq_true hz2])
      | exact PQ.same (by simp only [M_from, obs_1, hnR, if_true, if_false, eq_false hz1, eq_true hz2])
      | exact PQ.row (by simp only [M_from, obs_1, hnR, if_true, if_false, eq_false hz1, eq_true hz2])
set_option maxRecDepth 100000 in
set_option maxHeartbeats 800000 in
theorem m_share (G : GT) (σ : Sg) (r : Int32) (n : Nat) (hn : σ.1 51 8 = nI n) (h8 : n ≤ 8) : Ev G mX7_share [.ref 50, .int r] σ (PQ σ (M_share (obs σ) r)) := by
  have hnR := nR_of hn h8
  refine Ev.ofL (m := 6) (L := [some (.ref 50), some (.int r), none, none, none, none, none, none]) rfl (Nat.le_of_ble_eq_true rfl) rfl rfl ?_
  refine w_aload_n dX7_share_0 rfl ?_
  refine w_iload_n dX7_share_1 rfl ?_
  refine w_callVi dX7_share_2 ml_X7_87 mv_X7_isRod rfl rfl (by decide) rfl (e7_isRod G _ _) rfl rfl (Nat.le_of_ble_eq_true rfl) ?_
  refine w_if_ne (t := 15) dX7_share_5 (by decide) (fun hz1 => ?_) (fun hz1 => ?_)
  · skip
    obtain ⟨k, hk, rfl⟩ := rod_of hz1 hn h8
    have hck : (nI k).toNatClampNeg = k := nI_clamp (by omega)
    · skip
      refine w_aload_n dX7_share_15 rfl ?_
      refine w_callVi dX7_share_16 ml_X7_166 mv_X7_drawAll rfl rfl (by decide) rfl (e7_drawAll G _ n hn h8) rfl rfl (Nat.le_of_ble_eq_true rfl) ?_
      refine w_istore_n dX7_share_19 (by decide) rfl rfl ?_
      dsimp only [List.set]
      refine w_iload_n dX7_share_20 rfl ?_
      refine w_if_ne (t := 26) dX7_share_21 (by decide) (fun hz2 => ?_) (fun hz2 => ?_)
      · skip
        have hal := hz2
        refine w_aload_n dX7_share_26 rfl ?_
        refine w_getR (t := 51) dX7_share_27 fl_X7_7 rfl (by decide) (by decide) rfl ?_
        refine w_iconst dX7_share_30 ic_1 ?_
        refine w_iald (j := 1) dX7_share_31 rfl (by decide) rfl (by decide) ?_
        refine w_istore_n dX7_share_32 (by decide) rfl rfl ?_
        dsimp only [List.set]
        refine w_iconst dX7_share_33 ic_0 ?_
        refine w_istore dX7_share_34 (by decide) rfl rfl ?_
        dsimp only [List.set]
        have lp : ∀ (m : Nat) (i : Nat) (x5 x6 x7 : Option Value), n - i < m → i ≤ n → WP G mX7_share 36 [some (.ref 50), some (.int (nI k)), some (.int (p_drawSum (σ.1 51) (σ.1 51 0) n)), some (.int (p_lft (σ.1 51) (p_drawSum (σ.1 51) (σ.1 51 0) n) i)), some (.int (nI i)), x5, x6, x7] [] (σ) (PQ σ (M_share (obs σ) (nI k))) := by
          intro m
          induction m with
          | zero => intro i x5 x6 x7 hm; exact absurd hm (Nat.not_lt_zero _)
          | succ m ih =>
            intro i x5 x6 x7 hm hi
            refine w_iload dX7_share_36 rfl ?_
            refine w_aload_n dX7_share_38 rfl ?_
            refine w_getR (t := 51) dX7_share_39 fl_X7_7 rfl (by decide) (by decide) rfl ?_
            refine w_bipush dX7_share_42 bp_8 ?_
            refine w_iald (j := 8) dX7_share_44 rfl (by decide) rfl (by decide) ?_
            refine w2_icmp_ge (t := 78) dX7_share_45 (by decide) (fun hz3 => ?_) (fun hz3 => ?_)
            · skip
              rw [hn] at hz3
              have hge := nlt_nI (by omega) (by omega) hz3
              have hen : i = n := by omega
              rw [hen]
              clear ih hm hi hge hen
              refine w_aload_n dX7_share_78 rfl ?_
              refine w_iload_n dX7_share_79 rfl ?_
              refine w_aload_n dX7_share_80 rfl ?_
              refine w_getR (t := 51) dX7_share_81 fl_X7_7 rfl (by decide) (by decide) rfl ?_
              refine w_iconst dX7_share_84 ic_0 ?_
              refine w_iald (j := 0) dX7_share_85 rfl (by decide) rfl (by decide) ?_
              refine w_callVi dX7_share_86 ml_X7_90 mv_X7_draws rfl rfl (by decide) rfl (e7_draws G _ (k) _ (by omega)) rfl rfl (Nat.le_of_ble_eq_true rfl) ?_
              refine w_aload_n dX7_share_89 rfl ?_
              refine w_getR (t := 51) dX7_share_90 fl_X7_7 rfl (by decide) (by decide) rfl ?_
              refine w_iconst dX7_share_93 ic_1 ?_
              refine w_iald (j := 1) dX7_share_94 rfl (by decide) rfl (by decide) ?_
              refine w_imul dX7_share_95 ?_
              refine w_istore dX7_share_96 (by decide) rfl rfl ?_
              dsimp only [List.set]
              refine w_iconst dX7_share_98 ic_0 ?_
              refine w_istore dX7_share_99 (by decide) rfl rfl ?_
              dsimp only [List.set]
              refine w_iconst dX7_share_101 ic_0 ?_
              refine w_istore dX7_share_102 (by decide) rfl rfl ?_
              dsimp only [List.set]
              have lpb : ∀ (m : Nat) (i : Nat) (x7 : Option Value), n - i < m → i ≤ n → WP G mX7_share 104 [some (.ref 50), some (.int (nI k)), some (.int (p_drawSum (σ.1 51) (σ.1 51 0) n)), some (.int (p_lft (σ.1 51) (p_drawSum (σ.1 51) (σ.1 51 0) n) n)), some (.int (p_draws (σ.1 51) k (σ.1 51 0) * σ.1 51 1)), some (.int (p_ahd (σ.1 51) (p_drawSum (σ.1 51) (σ.1 51 0) n) (p_draws (σ.1 51) k (σ.1 51 0) * σ.1 51 1) k i)), some (.int (nI i)), x7] [] (σ) (PQ σ (M_share (obs σ) (nI k))) := by
                intro m
                induction m with
                | zero => intro i x7 hm; exact absurd hm (Nat.not_lt_zero _)
                | succ m ih =>
                  intro i x7 hm hi
                  refine w_iload dX7_share_104 rfl ?_
                  refine w_aload_n dX7_share_106 rfl ?_
                  refine w_getR (t := 51) dX7_share_107 fl_X7_7 rfl (by decide) (by decide) rfl ?_
                  refine w_bipush dX7_share_110 bp_8 ?_
                  refine w_iald (j := 8) dX7_share_112 rfl (by decide) rfl (by decide) ?_
                  refine w2_icmp_ge (t := 179) dX7_share_113 (by decide) (fun hz4 => ?_) (fun hz4 => ?_)
                  · skip
                    rw [hn] at hz4
                    have hge := nlt_nI (by omega) (by omega) hz4
                    have hen : i = n := by omega
                    rw [hen]
                    refine w_iload dX7_share_179 rfl ?_
                    refine w_iload_n dX7_share_181 rfl ?_
                    refine w_idiv dX7_share_182 hal ?_
                    refine w_iload dX7_share_183 rfl ?_
                    refine w_iload_n dX7_share_185 rfl ?_
                    refine w2_icmp_ge (t := 193) dX7_share_186 (by decide) (fun hz5 => ?_) (fun hz5 => ?_)
                    · skip
                      refine w_iconst dX7_share_193 ic_0 ?_
                      refine w_iadd dX7_share_194 ?_
                      refine w_iret dX7_share_195 rfl ?_
                      exact PQ.same (by simp only [M_share, p_share, obs_1, hnR, hck, eq_false hz1, eq_false hz2, eq_false hz5, if_true, if_false])
                    · skip
                      refine w_iconst dX7_share_189 ic_1 ?_
                      refine w_goto (t := 194) dX7_share_190 (by decide) ?_
                      refine w_iadd dX7_share_194 ?_
                      refine w_iret dX7_share_195 rfl ?_
                      exact PQ.same (by simp only [M_share, p_share, obs_1, hnR, hck, eq_false hz1, eq_false hz2, eq_true hz5, if_true, if_false])
                  · skip
                    rw [hn] at hz4
                    have hlt := lt_nI (by omega) (by omega) hz4
                    refine w_aload_n dX7_share_116 rfl ?_
                    refine w_iload dX7_share_117 rfl ?_
                    refine w_aload_n dX7_share_119 rfl ?_
                    refine w_getR (t := 51) dX7_share_120 fl_X7_7 rfl (by decide) (by decide) rfl ?_
                    refine w_iconst dX7_share_123 ic_0 ?_
                    refine w_iald (j := 0) dX7_share_124 rfl (by decide) rfl (by decide) ?_
                    refine w_callVi dX7_share_125 ml_X7_90 mv_X7_draws rfl rfl (by decide) rfl (e7_draws G _ (i) _ (by omega)) rfl rfl (Nat.le_of_ble_eq_true rfl) ?_
                    refine w_aload_n dX7_share_128 rfl ?_
                    refine w_getR (t := 51) dX7_share_129 fl_X7_7 rfl (by decide) (by decide) rfl ?_
                    refine w_iconst dX7_share_132 ic_1 ?_
                    refine w_iald (j := 1) dX7_share_133 rfl (by decide) rfl (by decide) ?_
                    refine w_imul dX7_share_134 ?_
                    refine w_iload_n dX7_share_135 rfl ?_
                    refine w_irem dX7_share_136 hal ?_
                    refine w_istore dX7_share_137 (by decide) rfl rfl ?_
                    dsimp only [List.set]
                    refine w_iload dX7_share_139 rfl ?_
                    refine w_iload dX7_share_141 rfl ?_
                    refine w_iload dX7_share_143 rfl ?_
                    refine w_iload_n dX7_share_145 rfl ?_
                    refine w_irem dX7_share_146 hal ?_
                    refine w_icmp_gt (t := 165) dX7_share_147 (by decide) (fun hz6 => ?_) (fun hz6 => ?_)
                    · skip
                      refine w_iconst dX7_share_165 ic_1 ?_
                      refine w_goto (t := 170) dX7_share_166 (by decide) ?_
                      have cc : (p_rem (p_draws (σ.1 51) k (σ.1 51 0) * σ.1 51 1) (p_drawSum (σ.1 51) (σ.1 51 0) n) < p_rem (p_draws (σ.1 51) i (σ.1 51 0) * σ.1 51 1) (p_drawSum (σ.1 51) (σ.1 51 0) n) ∨ (p_rem (p_draws (σ.1 51) i (σ.1 51 0) * σ.1 51 1) (p_drawSum (σ.1 51) (σ.1 51 0) n) = p_rem (p_draws (σ.1 51) k (σ.1 51 0) * σ.1 51 1) (p_drawSum (σ.1 51) (σ.1 51 0) n) ∧ nI i < nI k)) = True := eq_true (Or.inl hz6)
                      refine w_iadd dX7_share_170 ?_
                      refine w_istore dX7_share_171 (by decide) rfl rfl ?_
                      dsimp only [List.set]
                      refine w_iincN (a := i) (b := 1) dX7_share_173 rfl ic_1 (by decide) rfl rfl ?_
                      dsimp only [List.set]
                      refine w_goto (t := 104) dX7_share_176 (by decide) ?_
                      have q0 := ih (i + 1) (some (.int (p_rem (p_draws (σ.1 51) i (σ.1 51 0) * σ.1 51 1) (p_drawSum (σ.1 51) (σ.1 51 0) n)))) (by omega) (by omega)
                      simp only [p_ahd, cc, if_true, if_false] at q0
                      exact q0
                    · skip
                      refine w_iload dX7_share_150 rfl ?_
                      refine w_iload dX7_share_152 rfl ?_
                      refine w_iload_n dX7_share_154 rfl ?_
                      refine w_irem dX7_share_155 hal ?_
                      refine w_icmp_ne (t := 169) dX7_share_156 (by decide) (fun hz7 => ?_) (fun hz7 => ?_)
                      · skip
                        refine w_iconst dX7_share_169 ic_0 ?_
                        have cc : (p_rem (p_draws (σ.1 51) k (σ.1 51 0) * σ.1 51 1) (p_drawSum (σ.1 51) (σ.1 51 0) n) < p_rem (p_draws (σ.1 51) i (σ.1 51 0) * σ.1 51 1) (p_drawSum (σ.1 51) (σ.1 51 0) n) ∨ (p_rem (p_draws (σ.1 51) i (σ.1 51 0) * σ.1 51 1) (p_drawSum (σ.1 51) (σ.1 51 0) n) = p_rem (p_draws (σ.1 51) k (σ.1 51 0) * σ.1 51 1) (p_drawSum (σ.1 51) (σ.1 51 0) n) ∧ nI i < nI k)) = False := eq_false (fun z => z.elim hz6 (fun z => hz7 z.1))
                        refine w_iadd dX7_share_170 ?_
                        refine w_istore dX7_share_171 (by decide) rfl rfl ?_
                        dsimp only [List.set]
                        refine w_iincN (a := i) (b := 1) dX7_share_173 rfl ic_1 (by decide) rfl rfl ?_
                        dsimp only [List.set]
                        refine w_goto (t := 104) dX7_share_176 (by decide) ?_
                        have q0 := ih (i + 1) (some (.int (p_rem (p_draws (σ.1 51) i (σ.1 51 0) * σ.1 51 1) (p_drawSum (σ.1 51) (σ.1 51 0) n)))) (by omega) (by omega)
                        simp only [p_ahd, cc, if_true, if_false] at q0
                        exact q0
                      · skip
                        refine w_iload dX7_share_159 rfl ?_
                        refine w_iload_n dX7_share_161 rfl ?_
                        refine w2_icmp_ge (t := 169) dX7_share_162 (by decide) (fun hz8 => ?_) (fun hz8 => ?_)
                        · skip
                          refine w_iconst dX7_share_169 ic_0 ?_
                          have cc : (p_rem (p_draws (σ.1 51) k (σ.1 51 0) * σ.1 51 1) (p_drawSum (σ.1 51) (σ.1 51 0) n) < p_rem (p_draws (σ.1 51) i (σ.1 51 0) * σ.1 51 1) (p_drawSum (σ.1 51) (σ.1 51 0) n) ∨ (p_rem (p_draws (σ.1 51) i (σ.1 51 0) * σ.1 51 1) (p_drawSum (σ.1 51) (σ.1 51 0) n) = p_rem (p_draws (σ.1 51) k (σ.1 51 0) * σ.1 51 1) (p_drawSum (σ.1 51) (σ.1 51 0) n) ∧ nI i < nI k)) = False := eq_false (fun z => z.elim hz6 (fun z => hz8 z.2))
                          refine w_iadd dX7_share_170 ?_
                          refine w_istore dX7_share_171 (by decide) rfl rfl ?_
                          dsimp only [List.set]
                          refine w_iincN (a := i) (b := 1) dX7_share_173 rfl ic_1 (by decide) rfl rfl ?_
                          dsimp only [List.set]
                          refine w_goto (t := 104) dX7_share_176 (by decide) ?_
                          have q0 := ih (i + 1) (some (.int (p_rem (p_draws (σ.1 51) i (σ.1 51 0) * σ.1 51 1) (p_drawSum (σ.1 51) (σ.1 51 0) n)))) (by omega) (by omega)
                          simp only [p_ahd, cc, if_true, if_false] at q0
                          exact q0
                        · skip
                          refine w_iconst dX7_share_165 ic_1 ?_
                          refine w_goto (t := 170) dX7_share_166 (by decide) ?_
                          have cc : (p_rem (p_draws (σ.1 51) k (σ.1 51 0) * σ.1 51 1) (p_drawSum (σ.1 51) (σ.1 51 0) n) < p_rem (p_draws (σ.1 51) i (σ.1 51 0) * σ.1 51 1) (p_drawSum (σ.1 51) (σ.1 51 0) n) ∨ (p_rem (p_draws (σ.1 51) i (σ.1 51 0) * σ.1 51 1) (p_drawSum (σ.1 51) (σ.1 51 0) n) = p_rem (p_draws (σ.1 51) k (σ.1 51 0) * σ.1 51 1) (p_drawSum (σ.1 51) (σ.1 51 0) n) ∧ nI i < nI k)) = True := eq_true (Or.inr ⟨hz7, hz8⟩)
                          refine w_iadd dX7_share_170 ?_
                          refine w_istore dX7_share_171 (by decide) rfl rfl ?_
                          dsimp only [List.set]
                          refine w_iincN (a := i) (b := 1) dX7_share_173 rfl ic_1 (by decide) rfl rfl ?_
                          dsimp only [List.set]
                          refine w_goto (t := 104) dX7_share_176 (by decide) ?_
                          have q0 := ih (i + 1) (some (.int (p_rem (p_draws (σ.1 51) i (σ.1 51 0) * σ.1 51 1) (p_drawSum (σ.1 51) (σ.1 51 0) n)))) (by omega) (by omega)
                          simp only [p_ahd, cc, if_true, if_false] at q0
                          exact q0
              exact lpb (n + 1) 0 _ (by omega) (by omega)
            · skip
              rw [hn] at hz3
              have hlt := lt_nI (by omega) (by omega) hz3
              refine w_iload_n dX7_share_48 rfl ?_
              refine w_aload_n dX7_share_49 rfl ?_
              refine w_iload dX7_share_50 rfl ?_
              refine w_aload_n dX7_share_52 rfl ?_
              refine w_getR (t := 51) dX7_share_53 fl_X7_7 rfl (by decide) (by decide) rfl ?_
              refine w_iconst dX7_share_56 ic_0 ?_
              refine w_iald (j := 0) dX7_share_57 rfl (by decide) rfl (by decide) ?_
              refine w_callVi dX7_share_58 ml_X7_90 mv_X7_draws rfl rfl (by decide) rfl (e7_draws G _ (i) _ (by omega)) rfl rfl (Nat.le_of_ble_eq_true rfl) ?_
              refine w_aload_n dX7_share_61 rfl ?_
              refine w_getR (t := 51) dX7_share_62 fl_X7_7 rfl (by decide) (by decide) rfl ?_
              refine w_iconst dX7_share_65 ic_1 ?_
              refine w_iald (j := 1) dX7_share_66 rfl (by decide) rfl (by decide) ?_
              refine w_imul dX7_share_67 ?_
              refine w_iload_n dX7_share_68 rfl ?_
              refine w_idiv dX7_share_69 hal ?_
              refine w_isub dX7_share_70 ?_
              refine w_istore_n dX7_share_71 (by decide) rfl rfl ?_
              dsimp only [List.set]
              refine w_iincN (a := i) (b := 1) dX7_share_72 rfl ic_1 (by decide) rfl rfl ?_
              dsimp only [List.set]
              refine w_goto (t := 36) dX7_share_75 (by decide) ?_
              exact ih (i + 1) _ _ _ (by omega) (by omega)
        exact lp (n + 1) 0 _ _ _ (by omega) (by omega)
      · skip
        refine w_iconst dX7_share_24 ic_0 ?_
        refine w_iret dX7_share_25 rfl ?_
        exact PQ.same (by simp only [M_share, p_share, obs_1, hnR, hck, eq_false hz1, eq_true hz2, if_true, if_false])
  · skip
    refine w_aload_n dX7_share_8 rfl ?_
    refine w_ldc dX7_share_9 kc_X7_44 ?_
    refine w_callVi dX7_share_11 ml_X7_53 mv_X7_finds rfl rfl (by decide) rfl (e7_finds G _ _ 0 (by decide) (by decide)) rfl rfl (Nat.le_of_ble_eq_true rfl) ?_
    refine w_iret dX7_share_14 rfl ?_
    try simp only [setR_51, setR_setR, wI_51]
    first
    | exact PQ.fnd (by simp only [M_share, obs_1, hnR, if_true, if_false, eq_true hz1])
    | exact PQ.same (by simp only [M_share, obs_1, hnR, if_true, if_false, eq_true hz1])
    | exact PQ.row (by simp only [M_share, obs_1, hnR, if_true, if_false, eq_true hz1])
set_option maxRecDepth 100000 in
set_option maxHeartbeats 800000 in
theorem e7_divisor (G : GT) (σ : Sg) (a0 b0 : Nat) (ha : a0 < 2 ^ 31) (hb : b0 < 2 ^ 31) : Evi G mX7_divisor [.int (nI a0), .int (nI b0)] σ (nI (Nat.gcd a0 b0)) (σ) := by
  refine Ev.ofL (m := 3) (L := [some (.int (nI a0)), some (.int (nI b0)), none, none, none]) rfl (Nat.le_of_ble_eq_true rfl) rfl rfl ?_
  refine w_iload_n dX7_divisor_0 rfl ?_
  refine w_istore_n dX7_divisor_1 (by decide) rfl rfl ?_
  dsimp only [List.set]
  refine w_iload_n dX7_divisor_2 rfl ?_
  refine w_istore_n dX7_divisor_3 (by decide) rfl rfl ?_
  dsimp only [List.set]
  have lp : ∀ (m : Nat) (x y : Nat) (z0 : Option Value), y < m → x < 2 ^ 31 → y < 2 ^ 31 → Nat.gcd x y = Nat.gcd a0 b0 → WP G mX7_divisor 4 [some (.int (nI a0)), some (.int (nI b0)), some (.int (nI x)), some (.int (nI y)), z0] [] (σ) (fun v σ' => v = some (.int (nI (Nat.gcd a0 b0))) ∧ σ' = (σ)) := by
    intro m
    induction m with
    | zero => intro x y z0 hm; exact absurd hm (Nat.not_lt_zero _)
    | succ m ih =>
      intro x y z0 hm hx hy hg
      refine w_iload_n dX7_divisor_4 rfl ?_
      refine w_if_eq (t := 21) dX7_divisor_5 (by decide) (fun hz1 => ?_) (fun hz1 => ?_)
      · skip
        refine w_iload_n dX7_divisor_21 rfl ?_
        refine w_iret dX7_divisor_22 rfl ?_
        have hy0 : y = 0 := (nI_eq hy (by decide)).mp (hz1.trans rfl)
        rw [hy0, Nat.gcd_zero_right] at hg
        exact ⟨by rw [hg], rfl⟩
      · skip
        refine w_iload_n dX7_divisor_8 rfl ?_
        refine w_iload_n dX7_divisor_9 rfl ?_
        refine w_irem dX7_divisor_10 hz1 ?_
        refine w_istore dX7_divisor_11 (by decide) rfl rfl ?_
        dsimp only [List.set]
        refine w_iload_n dX7_divisor_13 rfl ?_
        refine w_istore_n dX7_divisor_14 (by decide) rfl rfl ?_
        dsimp only [List.set]
        refine w_iload dX7_divisor_15 rfl ?_
        refine w_istore_n dX7_divisor_17 (by decide) rfl rfl ?_
        dsimp only [List.set]
        refine w_goto (t := 4) dX7_divisor_18 (by decide) ?_
        have hy0 : 0 < y := Nat.pos_of_ne_zero (fun z => hz1 (by rw [z]; rfl))
        have er : nI x - nI x / nI y * nI y = nI (x % y) := pk_rem hx hy0 hy
        have hlt := Nat.mod_lt x hy0
        refine w_L (L' := [some (.int (nI a0)), some (.int (nI b0)), some (.int (nI y)), some (.int (nI (x % y))), some (.int (nI (x % y)))]) (by rw [er]) (ih y (x % y) _ (by omega) hy (by omega) ?_)
        rw [← hg, Nat.gcd_comm x y, Nat.gcd_rec y x, Nat.gcd_comm]
  exact lp (b0 + 1) a0 b0 none (by omega) ha hb rfl
