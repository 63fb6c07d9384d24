theorem part_of {zv : Int32} {z : Nat} {ax mx : Int32} (h : ¬ p_part zv ax mx = 0) (hz : zv = nI z) (h40 : z ≤ 40) : ∃ a m : Nat, ax = nI a ∧ mx = nI m ∧ a + m ≤ z := by
  subst hz
  unfold p_part at h
  split at h
  · exact absurd rfl h
  · rename_i h1
    split at h
    · exact absurd rfl h
    · rename_i h2
      split at h
      · exact absurd rfl h
      · rename_i h3
        split at h
        · exact absurd rfl h
        · rename_i h4
          obtain ⟨a, ha, rfl⟩ := nI_of h1
          obtain ⟨m, hm, rfl⟩ := nI_of h2
          have e3 := nlt_nI (by omega) hm h3
          rw [pk_sub e3] at h4
          have e4 := nlt_nI (by omega) ha h4
          exact ⟨a, m, rfl, rfl, by omega⟩
set_option maxRecDepth 100000 in
set_option maxHeartbeats 800000 in
theorem m_copy (G : GT) (σ : Sg) (sx ax tx bx mx : Int32) (zs : Nat → Nat) (hzs : ∀ s, s < 4 → σ.1 57 s = nI (zs s) ∧ zs s ≤ 40) : Ev G mX7_copy [.ref 50, .int sx, .int ax, .int tx, .int bx, .int mx] σ (PQ σ (M_copy (obs σ) sx ax tx bx mx)) := by
  refine Ev.ofL (m := 1) (L := [some (.ref 50), some (.int sx), some (.int ax), some (.int tx), some (.int bx), some (.int mx), none]) rfl (Nat.le_of_ble_eq_true rfl) rfl rfl ?_
  refine w_iload_n dX7_copy_0 rfl ?_
  refine w_callSi dX7_copy_1 ml_X7_273 ms_X7_isSheet rfl (e7_isSheet G _ _) rfl rfl (Nat.le_of_ble_eq_true rfl) ?_
  refine w_if_eq (t := 14) dX7_copy_4 (by decide) (fun hz1 => ?_) (fun hz1 => ?_)
  · skip
    refine w_aload_n dX7_copy_14 rfl ?_
    refine w_ldc dX7_copy_15 kc_X7_44 ?_
    refine w_callVi dX7_copy_17 ml_X7_53 mv_X7_finds rfl rfl (by decide) rfl (e7_finds G _ _ 0 (by decide) (by decide)) rfl rfl (Nat.le_of_ble_eq_true rfl) ?_
    refine w_iret dX7_copy_20 rfl ?_
    exact PQ.fnd (by simp only [M_copy, mBit_o, mSiz_o, eq_true hz1, not_true_eq_false, not_false_eq_true, if_true, if_false])
  · skip
    refine w_iload_n dX7_copy_7 rfl ?_
    refine w_callSi dX7_copy_8 ml_X7_273 ms_X7_isSheet rfl (e7_isSheet G _ _) rfl rfl (Nat.le_of_ble_eq_true rfl) ?_
    refine w_if_ne (t := 21) dX7_copy_11 (by decide) (fun hz2 => ?_) (fun hz2 => ?_)
    · skip
      obtain ⟨s, hs3, rfl⟩ := in_0 (m := 3) hz1 rfl (by decide)
      have hcs : (nI s).toNatClampNeg = s := nI_clamp (by omega)
      obtain ⟨t, ht3, rfl⟩ := in_0 (m := 3) hz2 rfl (by decide)
      have hct : (nI t).toNatClampNeg = t := nI_clamp (by omega)
      have hzS := hzs s (by omega)
      have hzT := hzs t (by omega)
      · skip
        refine w_aload_n dX7_copy_21 rfl ?_
        refine w_getR (t := 56) dX7_copy_22 fl_X7_25 rfl (by decide) (by decide) rfl ?_
        refine w_iload_n dX7_copy_25 rfl ?_
        refine w_iald (j := s) dX7_copy_26 rfl (by decide) rfl (show s < 4 by omega) ?_
        refine w_if_eq (t := 39) dX7_copy_27 (by decide) (fun hz3 => ?_) (fun hz3 => ?_)
        · skip
          refine w_aload_n dX7_copy_39 rfl ?_
          refine w_ldcw dX7_copy_40 kc_X7_277 ?_
          refine w_callVi dX7_copy_43 ml_X7_53 mv_X7_finds rfl rfl (by decide) rfl (e7_finds G _ _ 5 (by decide) (by decide)) rfl rfl (Nat.le_of_ble_eq_true rfl) ?_
          refine w_iret dX7_copy_46 rfl ?_
          exact PQ.fnd (by simp only [M_copy, mBit_o, mSiz_o, eq_false hz1, eq_false hz2, eq_true hz3, hcs, hct, not_true_eq_false, not_false_eq_true, if_true, if_false])
        · skip
          refine w_aload_n dX7_copy_30 rfl ?_
          refine w_getR (t := 56) dX7_copy_31 fl_X7_25 rfl (by decide) (by decide) rfl ?_
          refine w_iload_n dX7_copy_34 rfl ?_
          refine w_iald (j := t) dX7_copy_35 rfl (by decide) rfl (show t < 4 by omega) ?_
          refine w_if_ne (t := 47) dX7_copy_36 (by decide) (fun hz4 => ?_) (fun hz4 => ?_)
          · skip
            refine w_aload_n dX7_copy_47 rfl ?_
            refine w_getR (t := 56) dX7_copy_48 fl_X7_25 rfl (by decide) (by decide) rfl ?_
            refine w_iload_n dX7_copy_51 rfl ?_
            refine w_iald (j := s) dX7_copy_52 rfl (by decide) rfl (show s < 4 by omega) ?_
            refine w_aload_n dX7_copy_53 rfl ?_
            refine w_getR (t := 56) dX7_copy_54 fl_X7_25 rfl (by decide) (by decide) rfl ?_
            refine w_iload_n dX7_copy_57 rfl ?_
            refine w_iald (j := t) dX7_copy_58 rfl (by decide) rfl (show t < 4 by omega) ?_
            refine w_icmp_eq (t := 69) dX7_copy_59 (by decide) (fun hz5 => ?_) (fun hz5 => ?_)
            · skip
              refine w_aload_n dX7_copy_69 rfl ?_
              refine w_iload_n dX7_copy_70 rfl ?_
              refine w_iload_n dX7_copy_71 rfl ?_
              refine w_iload dX7_copy_72 rfl ?_
              refine w_callVi dX7_copy_74 ml_X7_282 mv_X7_isPart rfl rfl (by decide) rfl (e7_isPart G _ (s) _ _ (by omega)) rfl rfl (Nat.le_of_ble_eq_true rfl) ?_
              refine w_if_eq (t := 92) dX7_copy_77 (by decide) (fun hz6 => ?_) (fun hz6 => ?_)
              · skip
                refine w_aload_n dX7_copy_92 rfl ?_
                refine w_ldc dX7_copy_93 kc_X7_44 ?_
                refine w_callVi dX7_copy_95 ml_X7_53 mv_X7_finds rfl rfl (by decide) rfl (e7_finds G _ _ 0 (by decide) (by decide)) rfl rfl (Nat.le_of_ble_eq_true rfl) ?_
                refine w_iret dX7_copy_98 rfl ?_
                exact PQ.fnd (by simp only [M_copy, mBit_o, mSiz_o, eq_false hz1, eq_false hz2, eq_false hz3, eq_false hz4, eq_true hz5, eq_true hz6, hcs, hct, not_true_eq_false, not_false_eq_true, if_true, if_false])
              · skip
                refine w_aload_n dX7_copy_80 rfl ?_
                refine w_iload_n dX7_copy_81 rfl ?_
                refine w_iload dX7_copy_82 rfl ?_
                refine w_iload dX7_copy_84 rfl ?_
                refine w_callVi dX7_copy_86 ml_X7_282 mv_X7_isPart rfl rfl (by decide) rfl (e7_isPart G _ (t) _ _ (by omega)) rfl rfl (Nat.le_of_ble_eq_true rfl) ?_
                refine w_if_ne (t := 99) dX7_copy_89 (by decide) (fun hz7 => ?_) (fun hz7 => ?_)
                · skip
                  obtain ⟨a0, m0, rfl, rfl, ham⟩ := part_of hz6 hzS.1 hzS.2
                  obtain ⟨b0, m1, rfl, hm1, hbm⟩ := part_of hz7 hzT.1 hzT.2
                  have hzS2 := hzS.2
                  have hzT2 := hzT.2
                  have hmm : m0 = m1 := (nI_eq (by omega) (by omega)).mp hm1
                  subst hmm
                  have hca : (nI a0).toNatClampNeg = a0 := nI_clamp (by omega)
                  have hcb : (nI b0).toNatClampNeg = b0 := nI_clamp (by omega)
                  have hcm : (nI m0).toNatClampNeg = m0 := nI_clamp (by omega)
                  · skip
                    refine w_iconst dX7_copy_99 ic_0 ?_
                    refine w_istore dX7_copy_100 (by decide) rfl rfl ?_
                    dsimp only [List.set]
                    have lp : ∀ (m : Nat) (i : Nat) (τ : Sg), m0 - i < m → i ≤ m0 → Sq σ τ → τ.1 51 = σ.1 51 → τ.2.1 58 = σ.2.1 58 → (∀ j, j < i → τ.2.1 59 j = σ.2.1 58 (40 * s + a0 + j)) → WP G mX7_copy 102 [some (.ref 50), some (.int (nI s)), some (.int (nI a0)), some (.int (nI t)), some (.int (nI b0)), some (.int (nI m0)), some (.int (nI i))] [] (τ) (PQ σ (M_copy (obs σ) (nI s) (nI a0) (nI t) (nI b0) (nI m0))) := by
                      intro m
                      induction m with
                      | zero => intro i τ hm; exact absurd hm (Nat.not_lt_zero _)
                      | succ m ih =>
                        intro i τ hm hi hsq h51 h58 h59
                        refine w_iload dX7_copy_102 rfl ?_
                        refine w_iload dX7_copy_104 rfl ?_
                        refine w2_icmp_ge (t := 136) dX7_copy_106 (by decide) (fun hz8 => ?_) (fun hz8 => ?_)
                        · skip
                          have hge := nlt_nI (by omega) (by omega) hz8
                          have hen : i = m0 := by omega
                          rw [hen] at h59
                          refine w_iconst dX7_copy_136 ic_0 ?_
                          refine w_istore dX7_copy_137 (by decide) rfl rfl ?_
                          dsimp only [List.set]
                          have lp2 : ∀ (m : Nat) (ii : Nat) (τ2 : Sg), m0 - ii < m → ii ≤ m0 → Sq σ τ2 → τ2.1 51 = σ.1 51 → (∀ j, j < m0 → τ2.2.1 59 j = σ.2.1 58 (40 * s + a0 + j)) → (τ2.2.1 58 = (fun j => if 40 * t + b0 ≤ j ∧ j < 40 * t + b0 + ii then σ.2.1 58 (40 * s + a0 + (j - (40 * t + b0))) else σ.2.1 58 j)) → WP G mX7_copy 139 [some (.ref 50), some (.int (nI s)), some (.int (nI a0)), some (.int (nI t)), some (.int (nI b0)), some (.int (nI m0)), some (.int (nI ii))] [] (τ2) (PQ σ (M_copy (obs σ) (nI s) (nI a0) (nI t) (nI b0) (nI m0))) := by
                            intro m2
                            induction m2 with
                            | zero => intro ii τ2 hm2; exact absurd hm2 (Nat.not_lt_zero _)
                            | succ m2 ih2 =>
                              intro ii τ2 hm2 hii hsq2 h512 h592 h582
                              refine w_iload dX7_copy_139 rfl ?_
                              refine w_iload dX7_copy_141 rfl ?_
                              refine w2_icmp_ge (t := 174) dX7_copy_143 (by decide) (fun hz9 => ?_) (fun hz9 => ?_)
                              · skip
                                have hge2 := nlt_nI (by omega) (by omega) hz9
                                have hen2 : ii = m0 := by omega
                                rw [hen2] at h582
                                refine w_iload dX7_copy_174 rfl ?_
                                refine w_iret dX7_copy_176 rfl ?_
                                have hA : M_copy (obs σ) (nI s) (nI a0) (nI t) (nI b0) (nI m0) = (nI m0, sShe (obs σ) (fun j => if 40 * t + b0 ≤ j ∧ j < 40 * t + b0 + m0 then σ.2.1 58 (40 * s + a0 + (j - (40 * t + b0))) else σ.2.1 58 j)) := by simp only [M_copy, mBit_o, mSiz_o, mShe_o, eq_false hz1, eq_false hz2, eq_false hz3, eq_false hz4, eq_true hz5, eq_false hz6, eq_false hz7, hcs, hct, hca, hcb, hcm, not_true_eq_false, not_false_eq_true, if_true, if_false]
                                rw [hA]
                                exact ⟨rfl, by rw [obs_sq hsq2, h512, sRow_self, h582], Co.sq hsq2⟩
                              · skip
                                have hlt2 := lt_nI (by omega) (by omega) hz9
                                refine w_aload_n dX7_copy_146 rfl ?_
                                refine w_getR (t := 58) dX7_copy_147 fl_X7_31 rfl (by decide) (by decide) rfl ?_
                                refine w_bipush dX7_copy_150 bp_40 ?_
                                refine w_iload_n dX7_copy_152 rfl ?_
                                refine w_imulN (a := 40) (b := t) dX7_copy_153 ?_
                                refine w_iload dX7_copy_154 rfl ?_
                                refine w_iaddN (a := 40 * t) (b := b0) dX7_copy_156 ?_
                                refine w_iload dX7_copy_157 rfl ?_
                                refine w_iaddN (a := 40 * t + b0) (b := ii) dX7_copy_159 ?_
                                refine w_aload_n dX7_copy_160 rfl ?_
                                refine w_getR (t := 59) dX7_copy_161 fl_X7_35 rfl (by decide) (by decide) rfl ?_
                                refine w_iload dX7_copy_164 rfl ?_
                                refine w_lald (j := ii) dX7_copy_166 rfl rfl (show ii < 40 by omega) ?_
                                refine w_last (j := 40 * t + b0 + ii) dX7_copy_167 rfl rfl (show 40 * t + b0 + ii < 160 by omega) ?_
                                refine w_iincN (a := ii) (b := 1) dX7_copy_168 rfl ic_1 (by decide) rfl rfl ?_
                                dsimp only [List.set]
                                refine w_goto (t := 139) dX7_copy_171 (by decide) ?_
                                refine ih2 (ii + 1) _ (by omega) (by omega) (hsq2.trans (Sq.wl (Or.inl rfl))) h512 (fun j hj => (wL_c (by decide)).trans (h592 j hj)) ?_
                                funext j
                                show (if 58 = 58 ∧ j = 40 * t + b0 + ii then _ else τ2.2.1 58 j) = _
                                rw [congrFun h582 j]
                                by_cases hj : j = 40 * t + b0 + ii
                                · rw [if_pos ⟨rfl, hj⟩, if_pos (by omega), h592 ii (by omega), show j - (40 * t + b0) = ii by omega]
                                · rw [if_neg (fun z => hj z.2)]
                                  by_cases hj2 : 40 * t + b0 ≤ j ∧ j < 40 * t + b0 + ii
                                  · rw [if_pos hj2, if_pos (by omega)]
                                  · rw [if_neg hj2, if_neg (by omega)]
                          refine lp2 (m0 + 1) 0 τ (by omega) (by omega) hsq h51 h59 ?_
                          funext j
                          rw [congrFun h58 j, if_neg (by omega)]
                        · skip
                          have hlt := lt_nI (by omega) (by omega) hz8
                          refine w_aload_n dX7_copy_109 rfl ?_
                          refine w_getR (t := 59) dX7_copy_110 fl_X7_35 rfl (by decide) (by decide) rfl ?_
                          refine w_iload dX7_copy_113 rfl ?_
                          refine w_aload_n dX7_copy_115 rfl ?_
                          refine w_getR (t := 58) dX7_copy_116 fl_X7_31 rfl (by decide) (by decide) rfl ?_
                          refine w_bipush dX7_copy_119 bp_40 ?_
                          refine w_iload_n dX7_copy_121 rfl ?_
                          refine w_imulN (a := 40) (b := s) dX7_copy_122 ?_
                          refine w_iload_n dX7_copy_123 rfl ?_
                          refine w_iaddN (a := 40 * s) (b := a0) dX7_copy_124 ?_
                          refine w_iload dX7_copy_125 rfl ?_
                          refine w_iaddN (a := 40 * s + a0) (b := i) dX7_copy_127 ?_
                          refine w_lald (j := 40 * s + a0 + i) dX7_copy_128 rfl rfl (show 40 * s + a0 + i < 160 by omega) ?_
                          refine w_last (j := i) dX7_copy_129 rfl rfl (show i < 40 by omega) ?_
                          refine w_iincN (a := i) (b := 1) dX7_copy_130 rfl ic_1 (by decide) rfl rfl ?_
                          dsimp only [List.set]
                          refine w_goto (t := 102) dX7_copy_133 (by decide) ?_
                          refine ih (i + 1) _ (by omega) (by omega) (hsq.trans (Sq.wl (Or.inr rfl))) h51 (funext fun j => (wL_c (by decide)).trans (congrFun h58 j)) (fun j hj => ?_)
                          by_cases hji : j = i
                          · subst hji
                            rw [wL_s, congrFun h58]
                          · rw [wL_k hji]
                            exact h59 j (by omega)
                    exact lp (m0 + 1) 0 σ (by omega) (by omega) Sq.rfl rfl rfl (fun j hj => absurd hj (Nat.not_lt_zero j))
                · skip
                  refine w_aload_n dX7_copy_92 rfl ?_
                  refine w_ldc dX7_copy_93 kc_X7_44 ?_
                  refine w_callVi dX7_copy_95 ml_X7_53 mv_X7_finds rfl rfl (by decide) rfl (e7_finds G _ _ 0 (by decide) (by decide)) rfl rfl (Nat.le_of_ble_eq_true rfl) ?_
                  refine w_iret dX7_copy_98 rfl ?_
                  exact PQ.fnd (by simp only [M_copy, mBit_o, mSiz_o, eq_false hz1, eq_false hz2, eq_false hz3, eq_false hz4, eq_true hz5, eq_false hz6, eq_true hz7, hcs, hct, not_true_eq_false, not_false_eq_true, if_true, if_false])
            · skip
              refine w_aload_n dX7_copy_62 rfl ?_
              refine w_ldc dX7_copy_63 kc_X7_96 ?_
              refine w_callVi dX7_copy_65 ml_X7_53 mv_X7_finds rfl rfl (by decide) rfl (e7_finds G _ _ 2 (by decide) (by decide)) rfl rfl (Nat.le_of_ble_eq_true rfl) ?_
              refine w_iret dX7_copy_68 rfl ?_
              exact PQ.fnd (by simp only [M_copy, mBit_o, mSiz_o, eq_false hz1, eq_false hz2, eq_false hz3, eq_false hz4, eq_false hz5, hcs, hct, not_true_eq_false, not_false_eq_true, if_true, if_false])
          · skip
            refine w_aload_n dX7_copy_39 rfl ?_
            refine w_ldcw dX7_copy_40 kc_X7_277 ?_
            refine w_callVi dX7_copy_43 ml_X7_53 mv_X7_finds rfl rfl (by decide) rfl (e7_finds G _ _ 5 (by decide) (by decide)) rfl rfl (Nat.le_of_ble_eq_true rfl) ?_
            refine w_iret dX7_copy_46 rfl ?_
            exact PQ.fnd (by simp only [M_copy, mBit_o, mSiz_o, eq_false hz1, eq_false hz2, eq_false hz3, eq_true hz4, hcs, hct, not_true_eq_false, not_false_eq_true, if_true, if_false])
    · skip
      refine w_aload_n dX7_copy_14 rfl ?_
      refine w_ldc dX7_copy_15 kc_X7_44 ?_
      refine w_callVi dX7_copy_17 ml_X7_53 mv_X7_finds rfl rfl (by decide) rfl (e7_finds G _ _ 0 (by decide) (by decide)) rfl rfl (Nat.le_of_ble_eq_true rfl) ?_
      refine w_iret dX7_copy_20 rfl ?_
      exact PQ.fnd (by simp only [M_copy, mBit_o, mSiz_o, eq_false hz1, eq_true hz2, not_true_eq_false, not_false_eq_true, if_true, if_false])
