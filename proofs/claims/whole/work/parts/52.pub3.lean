set_option maxRecDepth 100000 in
set_option maxHeartbeats 800000 in
theorem k_thief (G : GT) (σ : Sg) (μ : MO) (n : Nat) (hC : RC σ μ n) (r q : Int32) : Ev G mX6_thief [.ref 0, .int r, .int q] σ (CQ σ (M_thief μ r q)) := by
  have h8 := hC.rv.le
  have hn := hC.rv.n
  have hnR := hC.nn
  have hr1 : ∀ j, j < 8 → kd (σ.2.2 12 j) = 3 := hC.p1.kd pp1
  refine Ev.ofL (m := 4) (L := [some (.ref 0), some (.int r), some (.int q), none, none, none, none]) rfl (Nat.le_of_ble_eq_true rfl) rfl rfl ?_
  refine w_aload_n dX6_thief_0 rfl ?_
  refine w_iload_n dX6_thief_1 rfl ?_
  refine w_callVi dX6_thief_2 ml_X6_90 mv_X6_isRod rfl rfl (by decide) rfl (k_isRod G _ μ n hC _) rfl rfl (Nat.le_of_ble_eq_true rfl) ?_
  refine w_if_eq (t := 18) dX6_thief_5 (by decide) (fun hz1 => ?_) (fun hz1 => ?_)
  · skip
    refine w_aload_n dX6_thief_18 rfl ?_
    refine w_ldc dX6_thief_19 kc_X6_50 ?_
    refine w_callVi dX6_thief_21 ml_X6_51 mv_X6_tell rfl rfl (by decide) rfl (c_tell G _ _ 0 (by decide) (by decide)) rfl rfl (Nat.le_of_ble_eq_true rfl) ?_
    refine w_iret dX6_thief_24 rfl ?_
    first
    | exact CQ.fnd hC Mo.rfl (by decide) (by simp only [M_thief, hnR, if_true, if_false, eq_true hz1])
    | exact CQ.same hC Mo.rfl (by simp only [M_thief, hnR, if_true, if_false, eq_true hz1])
  · skip
    refine w_iload_n dX6_thief_8 rfl ?_
    refine w_iconst dX6_thief_9 ic_0 ?_
    refine w_bipush dX6_thief_10 bp_60 ?_
    refine w_callSi dX6_thief_12 ml_X6_66 ms_X6_isWithin rfl (c_isWithin G _ _ _ _) rfl rfl (Nat.le_of_ble_eq_true rfl) ?_
    refine w_if_ne (t := 25) dX6_thief_15 (by decide) (fun hz2 => ?_) (fun hz2 => ?_)
    · skip
      obtain ⟨k, hk, rfl⟩ := rod_of hz1 hn h8
      have hck : (nI k).toNatClampNeg = k := nI_clamp (by omega)
      obtain ⟨j, hj, rfl⟩ := in_0 (m := 60) hz2 rfl (by decide)
      have hcj : (nI j).toNatClampNeg = j := nI_clamp (by omega)
      · skip
        refine w_aload_n dX6_thief_25 rfl ?_
        refine w_callVqv dX6_thief_26 ml_X6_175 mv_X6_raiseGhost rfl rfl (by decide) rfl (k_raise G _ μ n hC) rfl rfl (Nat.le_of_ble_eq_true rfl) (fun τ1 h1 => ?_)
        refine w_aload_n dX6_thief_29 rfl ?_
        refine w_getR (t := 2) dX6_thief_30 fl_X6_16 rfl (by decide) (by decide) rfl ?_
        refine w_iload_n dX6_thief_33 rfl ?_
        refine w_callVqv dX6_thief_34 ml_X6_157 mv_X1_goHours rfl rfl (by decide) rfl (q1_goHours G _ 2 pp2 h1.1 hC.rv h1.2.1 j (by omega)) rfl rfl (Nat.le_of_ble_eq_true rfl) (fun τ2 h2 => ?_)
        refine w_aload_n dX6_thief_37 rfl ?_
        refine w_getR (t := 2) dX6_thief_38 fl_X6_16 rfl (by decide) (by decide) rfl ?_
        refine w_getR (t := 13) dX6_thief_41 fl_X6_93 rfl (by decide) (by decide) rfl ?_
        refine w_iload_n dX6_thief_44 rfl ?_
        refine w_aald (j := k) dX6_thief_45 rfl rfl (by omega) ?_
        refine w_getI dX6_thief_46 fl_X6_178 (h2.2.1.kd pp2 k (by omega)) rfl ?_
        refine w_eqi (show _ = p_pass μ.1 n j (9 + 7 * k + 6) from h2.1.rd hk 6 (by decide)) ?_
        refine w_istore_n dX6_thief_49 (by decide) rfl rfl ?_
        dsimp only [List.set]
        refine w_iconst dX6_thief_50 ic_m1 ?_
        refine w_istore dX6_thief_51 (by decide) rfl rfl ?_
        dsimp only [List.set]
        refine w_iconst dX6_thief_53 ic_0 ?_
        refine w_istore dX6_thief_54 (by decide) rfl rfl ?_
        dsimp only [List.set]
        have lp : ∀ (m : Nat) (i : Nat) (τ : Sg) (x6 : Option Value), n - i < m → i ≤ n → Gh σ τ → WP G mX6_thief 56 [some (.ref 0), some (.int (nI k)), some (.int (nI j)), some (.int (p_thf μ.1 n k j i).2), some (.int (oI (p_thf μ.1 n k j i).1)), some (.int (nI i)), x6] [] (τ) (CQ σ (M_thief μ (nI k) (nI j))) := by
          intro m
          induction m with
          | zero => intro i τ x6 hmz; exact absurd hmz (Nat.not_lt_zero _)
          | succ m ih =>
            intro i τ x6 hmz hi ht
            refine w_iload dX6_thief_56 rfl ?_
            have en : τ.1 1 2 = nI n := (hC.gh ht).rp.n
            refine w_aload_n dX6_thief_58 rfl ?_
            refine w_getR (t := 1) dX6_thief_59 fl_X6_10 rfl (by decide) (by decide) rfl ?_
            refine w_getI dX6_thief_62 fl_X6_86 rfl rfl ?_
            refine w_eqi en ?_
            refine w2_icmp_ge (t := 143) dX6_thief_65 (by decide) (fun hz3 => ?_) (fun hz3 => ?_)
            · skip
              have hge := nlt_nI (by omega) (by omega) hz3
              have hen : i = n := by omega
              subst hen
              refine w_iload dX6_thief_143 rfl ?_
              refine w2_if_ge (t := 157) dX6_thief_145 (by decide) (fun hz4 => ?_) (fun hz4 => ?_)
              · skip
                refine w_iload dX6_thief_157 rfl ?_
                refine w_iret dX6_thief_159 rfl ?_
                rcases ho : (p_thf μ.1 i k j i).1 with _ | o
                · rw [ho] at hz4
                  exact absurd (by decide) hz4
                · exact CQ.same (hC.gh ht) ht.mo (by simp only [M_thief, hnR, hck, hcj, eq_false hz1, eq_false hz2, if_false, ho, M_opt, oI])
              · skip
                refine w_aload_n dX6_thief_148 rfl ?_
                refine w_ldc dX6_thief_149 kc_X6_184 ?_
                refine w_callVi dX6_thief_151 ml_X6_51 mv_X6_tell rfl rfl (by decide) rfl (c_tell G _ _ 3 (by decide) (by decide)) rfl rfl (Nat.le_of_ble_eq_true rfl) ?_
                refine w_goto (t := 159) dX6_thief_154 (by decide) ?_
                refine w_iret dX6_thief_159 rfl ?_
                rcases ho : (p_thf μ.1 i k j i).1 with _ | o
                · exact CQ.fnd (hC.gh ht) ht.mo (by decide) (by simp only [M_thief, hnR, hck, hcj, eq_false hz1, eq_false hz2, if_false, ho, M_opt])
                · rw [ho] at hz4
                  exact absurd hz4 (nI_pos (by have := p_thf_lt μ.1 i k j i o ho; omega))
            · skip
              have hlt := lt_nI (by omega) (by omega) hz3
              refine w_iload dX6_thief_68 rfl ?_
              refine w_iload_n dX6_thief_70 rfl ?_
              refine w_icmp_ne (t := 77) dX6_thief_71 (by decide) (fun hz5 => ?_) (fun hz5 => ?_)
              · skip
                have hik : ¬ i = k := fun z => hz5 (by rw [z])
                refine w_aload_n dX6_thief_77 rfl ?_
                refine w_callVqv dX6_thief_78 ml_X6_175 mv_X6_raiseGhost rfl rfl (by decide) rfl (k_raise G _ μ n (hC.gh ht)) rfl rfl (Nat.le_of_ble_eq_true rfl) (fun τ3 h3 => ?_)
                refine w_aload_n dX6_thief_81 rfl ?_
                refine w_getR (t := 2) dX6_thief_82 fl_X6_16 rfl (by decide) (by decide) rfl ?_
                refine w_iload dX6_thief_85 rfl ?_
                refine w_callVqv dX6_thief_87 ml_X6_149 mv_X1_takeDown rfl rfl (by decide) rfl (q1_takeDown G _ 2 pp2 h3.1 h8 h3.2.1 i hlt) rfl rfl (Nat.le_of_ble_eq_true rfl) (fun τ4 h4 => ?_)
                refine w_aload_n dX6_thief_90 rfl ?_
                refine w_getR (t := 2) dX6_thief_91 fl_X6_16 rfl (by decide) (by decide) rfl ?_
                refine w_iload_n dX6_thief_94 rfl ?_
                refine w_callVqv dX6_thief_95 ml_X6_157 mv_X1_goHours rfl rfl (by decide) rfl (q1_goHours G _ 2 pp2 h4.1 (hC.rv.down hlt) h4.2.1 j (by omega)) rfl rfl (Nat.le_of_ble_eq_true rfl) (fun τ5 h5 => ?_)
                refine w_aload_n dX6_thief_98 rfl ?_
                refine w_getR (t := 2) dX6_thief_99 fl_X6_16 rfl (by decide) (by decide) rfl ?_
                refine w_getR (t := 13) dX6_thief_102 fl_X6_93 rfl (by decide) (by decide) rfl ?_
                refine w_iload dX6_thief_105 rfl ?_
                refine w_iload_n dX6_thief_107 rfl ?_
                refine w2_icmp_ge (t := 117) dX6_thief_108 (by decide) (fun hz6 => ?_) (fun hz6 => ?_)
                · skip
                  have hik2 : ¬ i < k := Nat.not_lt.mpr (nlt_nI (by omega) (by omega) hz6)
                  refine w_iload_n dX6_thief_117 rfl ?_
                  refine w_eqi (y := nI (if i < k then k - 1 else k)) (by rw [if_neg hik2]) ?_
                  · skip
                    refine w_aald (j := (if i < k then k - 1 else k)) dX6_thief_118 rfl rfl (by split <;> omega) ?_
                    refine w_getI dX6_thief_119 fl_X6_178 (h5.2.1.kd pp2 (if i < k then k - 1 else k) (by split <;> omega)) rfl ?_
                    refine w_eqi (show _ = p_wo μ.1 n k j i from h5.1.rd (r := (if i < k then k - 1 else k)) (by split <;> omega) 6 (by decide)) ?_
                    refine w_istore dX6_thief_122 (by decide) rfl rfl ?_
                    dsimp only [List.set]
                    refine w_iload dX6_thief_124 rfl ?_
                    refine w_iload_n dX6_thief_126 rfl ?_
                    refine w2_icmp_le (t := 137) dX6_thief_127 (by decide) (fun hz7 => ?_) (fun hz7 => ?_)
                    · skip
                      have cc := eq_false hz7
                      refine w_iincN (a := i) (b := 1) dX6_thief_137 rfl ic_1 (by decide) rfl rfl ?_
                      dsimp only [List.set]
                      refine w_goto (t := 56) dX6_thief_140 (by decide) ?_
                      have q0 := ih (i + 1) τ5 (some (.int (p_wo μ.1 n k j i))) (by omega) (by omega) (ht.trans (h3.gh.trans (h4.gh.trans h5.gh)))
                      simp only [p_thf, eq_false hik, cc, if_true, if_false] at q0
                      exact q0
                    · skip
                      have cc := eq_true hz7
                      refine w_iload dX6_thief_130 rfl ?_
                      refine w_istore_n dX6_thief_132 (by decide) rfl rfl ?_
                      dsimp only [List.set]
                      refine w_iload dX6_thief_133 rfl ?_
                      refine w_istore dX6_thief_135 (by decide) rfl rfl ?_
                      dsimp only [List.set]
                      
                      refine w_iincN (a := i) (b := 1) dX6_thief_137 rfl ic_1 (by decide) rfl rfl ?_
                      dsimp only [List.set]
                      refine w_goto (t := 56) dX6_thief_140 (by decide) ?_
                      have q0 := ih (i + 1) τ5 (some (.int (p_wo μ.1 n k j i))) (by omega) (by omega) (ht.trans (h3.gh.trans (h4.gh.trans h5.gh)))
                      simp only [p_thf, eq_false hik, cc, if_true, if_false] at q0
                      exact q0
                · skip
                  have hik2 := lt_nI (by omega) (by omega) hz6
                  refine w_iload_n dX6_thief_111 rfl ?_
                  refine w_iconst dX6_thief_112 ic_1 ?_
                  refine w_isub dX6_thief_113 ?_
                  refine w_goto (t := 118) dX6_thief_114 (by decide) ?_
                  refine w_eqi (y := nI (if i < k then k - 1 else k)) (by rw [if_pos hik2]; exact pk_sub (b := 1) (by omega)) ?_
                  · skip
                    refine w_aald (j := (if i < k then k - 1 else k)) dX6_thief_118 rfl rfl (by split <;> omega) ?_
                    refine w_getI dX6_thief_119 fl_X6_178 (h5.2.1.kd pp2 (if i < k then k - 1 else k) (by split <;> omega)) rfl ?_
                    refine w_eqi (show _ = p_wo μ.1 n k j i from h5.1.rd (r := (if i < k then k - 1 else k)) (by split <;> omega) 6 (by decide)) ?_
                    refine w_istore dX6_thief_122 (by decide) rfl rfl ?_
                    dsimp only [List.set]
                    refine w_iload dX6_thief_124 rfl ?_
                    refine w_iload_n dX6_thief_126 rfl ?_
                    refine w2_icmp_le (t := 137) dX6_thief_127 (by decide) (fun hz8 => ?_) (fun hz8 => ?_)
                    · skip
                      have cc := eq_false hz8
                      refine w_iincN (a := i) (b := 1) dX6_thief_137 rfl ic_1 (by decide) rfl rfl ?_
                      dsimp only [List.set]
                      refine w_goto (t := 56) dX6_thief_140 (by decide) ?_
                      have q0 := ih (i + 1) τ5 (some (.int (p_wo μ.1 n k j i))) (by omega) (by omega) (ht.trans (h3.gh.trans (h4.gh.trans h5.gh)))
                      simp only [p_thf, eq_false hik, cc, if_true, if_false] at q0
                      exact q0
                    · skip
                      have cc := eq_true hz8
                      refine w_iload dX6_thief_130 rfl ?_
                      refine w_istore_n dX6_thief_132 (by decide) rfl rfl ?_
                      dsimp only [List.set]
                      refine w_iload dX6_thief_133 rfl ?_
                      refine w_istore dX6_thief_135 (by decide) rfl rfl ?_
                      dsimp only [List.set]
                      
                      refine w_iincN (a := i) (b := 1) dX6_thief_137 rfl ic_1 (by decide) rfl rfl ?_
                      dsimp only [List.set]
                      refine w_goto (t := 56) dX6_thief_140 (by decide) ?_
                      have q0 := ih (i + 1) τ5 (some (.int (p_wo μ.1 n k j i))) (by omega) (by omega) (ht.trans (h3.gh.trans (h4.gh.trans h5.gh)))
                      simp only [p_thf, eq_false hik, cc, if_true, if_false] at q0
                      exact q0
              · skip
                have hik : i = k := (nI_eq (by omega) (by omega)).mp hz5
                refine w_goto (t := 137) dX6_thief_74 (by decide) ?_
                
                refine w_iincN (a := i) (b := 1) dX6_thief_137 rfl ic_1 (by decide) rfl rfl ?_
                dsimp only [List.set]
                refine w_goto (t := 56) dX6_thief_140 (by decide) ?_
                have q0 := ih (i + 1) τ x6 (by omega) (by omega) ht
                simp only [p_thf, eq_true hik, if_true] at q0
                exact q0
        exact lp (n + 1) 0 _ none (by omega) (by omega) (h1.gh.trans h2.gh)
    · skip
      refine w_aload_n dX6_thief_18 rfl ?_
      refine w_ldc dX6_thief_19 kc_X6_50 ?_
      refine w_callVi dX6_thief_21 ml_X6_51 mv_X6_tell rfl rfl (by decide) rfl (c_tell G _ _ 0 (by decide) (by decide)) rfl rfl (Nat.le_of_ble_eq_true rfl) ?_
      refine w_iret dX6_thief_24 rfl ?_
      first
      | exact CQ.fnd hC Mo.rfl (by decide) (by simp only [M_thief, hnR, if_true, if_false, eq_false hz1, eq_true hz2])
      | exact CQ.same hC Mo.rfl (by simp only [M_thief, hnR, if_true, if_false, eq_false hz1, eq_true hz2])
theorem clk_s (f : Nat → Int32) (n k i : Nat) : p_clk f n k (i + 1) = p_clk f n k i ||| (if p_bst (p_pass f n i) n (nI k) = 0 then 0 else (1 : Int32) <<< (p_clock (p_pass f n i) &&& 31)) := by
  rw [p_clk]
  congr 1
  unfold p_bst
  by_cases h1 : p_breaks (p_pass f n i) = 0
  · rw [if_pos h1, if_pos h1, if_pos rfl]
  · rw [if_neg h1, if_neg h1]
    by_cases h2 : oI (p_strk (p_pass f n i) n (p_pass f n i 0)) = nI k
    · rw [if_pos h2, if_pos h2, if_neg (by decide)]
    · rw [if_neg h2, if_neg h2, if_pos rfl]
set_option maxRecDepth 100000 in
set_option maxHeartbeats 800000 in
theorem k_clocksOf (G : GT) (σ : Sg) (μ : MO) (n : Nat) (hC : RC σ μ n) (k j : Nat) (hk : k < n) (hj : j ≤ 100) : Ev G mX6_clocksOfBolts [.ref 0, .int (nI k), .int (nI j)] σ (fun v τ => v = some (.int (p_clk μ.1 n k j)) ∧ Gh σ τ) := by
  have h8 := hC.rv.le
  have hn := hC.rv.n
  have hnR := hC.nn
  have hr1 : ∀ j, j < 8 → kd (σ.2.2 12 j) = 3 := hC.p1.kd pp1
  refine Ev.ofL (m := 2) (L := [some (.ref 0), some (.int (nI k)), some (.int (nI j)), none, none]) rfl (Nat.le_of_ble_eq_true rfl) rfl rfl ?_
  refine w_aload_n dX6_clocksOfBolts_0 rfl ?_
  refine w_callVqv dX6_clocksOfBolts_1 ml_X6_175 mv_X6_raiseGhost rfl rfl (by decide) rfl (k_raise G _ μ n hC) rfl rfl (Nat.le_of_ble_eq_true rfl) (fun τ1 h1 => ?_)
  refine w_aload_n dX6_clocksOfBolts_4 rfl ?_
  refine w_getR (t := 2) dX6_clocksOfBolts_5 fl_X6_16 rfl (by decide) (by decide) rfl ?_
  refine w_callVqv dX6_clocksOfBolts_8 ml_X6_276 mv_X1_aim rfl rfl (by decide) rfl (q1_aim G _ 2 pp2 h1.1 hC.rv h1.2.1) rfl rfl (Nat.le_of_ble_eq_true rfl) (fun τ2 h2 => ?_)
  refine w_iconst dX6_clocksOfBolts_11 ic_0 ?_
  refine w_istore_n dX6_clocksOfBolts_12 (by decide) rfl rfl ?_
  dsimp only [List.set]
  refine w_iconst dX6_clocksOfBolts_13 ic_0 ?_
  refine w_istore dX6_clocksOfBolts_14 (by decide) rfl rfl ?_
  dsimp only [List.set]
  have lp : ∀ (m : Nat) (i : Nat) (τ : Sg), j - i < m → i ≤ j → Gh σ τ → Pt τ1 τ 2 (p_pass μ.1 n i) n → WP G mX6_clocksOfBolts 16 [some (.ref 0), some (.int (nI k)), some (.int (nI j)), some (.int (p_clk μ.1 n k i)), some (.int (nI i))] [] (τ) (fun v τ => v = some (.int (p_clk μ.1 n k j)) ∧ Gh σ τ) := by
    intro m
    induction m with
    | zero => intro i τ hmz; exact absurd hmz (Nat.not_lt_zero _)
    | succ m ih =>
      intro i τ hmz hi hg ht
      refine w_iload dX6_clocksOfBolts_16 rfl ?_
      refine w_iload_n dX6_clocksOfBolts_18 rfl ?_
      refine w2_icmp_ge (t := 58) dX6_clocksOfBolts_19 (by decide) (fun hz1 => ?_) (fun hz1 => ?_)
      · skip
        have hge := nlt_nI (by omega) (by omega) hz1
        have hen : i = j := by omega
        subst hen
        refine w_iload_n dX6_clocksOfBolts_58 rfl ?_
        refine w_iret dX6_clocksOfBolts_59 rfl ?_
        exact ⟨rfl, hg⟩
      · skip
        have hlt := lt_nI (by omega) (by omega) hz1
        refine w_aload_n dX6_clocksOfBolts_22 rfl ?_
        refine w_getR (t := 2) dX6_clocksOfBolts_23 fl_X6_16 rfl (by decide) (by decide) rfl ?_
        refine w_iload_n dX6_clocksOfBolts_26 rfl ?_
        refine w_callVi dX6_clocksOfBolts_27 ml_X6_298 mv_X1_boltStrikes rfl rfl (by decide) rfl (q1_boltStrikes G _ 2 pp2 ht.1 (hC.rv.pass i) ht.2.1 ht.2.2.2.1 _) rfl rfl (Nat.le_of_ble_eq_true rfl) ?_
        refine w_if_eq (t := 45) dX6_clocksOfBolts_30 (by decide) (fun hz2 => ?_) (fun hz2 => ?_)
        · skip
          have cs := clk_s μ.1 n k i
          rw [if_pos hz2, Int32.or_zero] at cs
          refine w_aload_n dX6_clocksOfBolts_45 rfl ?_
          refine w_getR (t := 2) dX6_clocksOfBolts_46 fl_X6_16 rfl (by decide) (by decide) rfl ?_
          refine w_callVqv dX6_clocksOfBolts_49 ml_X6_279 mv_X1_goHour rfl rfl (by decide) rfl (q1_goHour G _ 2 pp2 ht.1 (hC.rv.pass i) ht.2.1 ht.2.2.2.1) rfl rfl (Nat.le_of_ble_eq_true rfl) (fun τ3 h3 => ?_)
          refine w_iincN (a := i) (b := 1) dX6_clocksOfBolts_52 rfl ic_1 (by decide) rfl rfl ?_
          dsimp only [List.set]
          refine w_goto (t := 16) dX6_clocksOfBolts_55 (by decide) ?_
          have q0 := ih (i + 1) τ3 (by omega) (by omega) (hg.trans h3.pl.gh) ⟨h3.1, h3.2.1, ht.2.2.1.trans h3.2.2.1, h3.2.2.2.1, h3.2.2.2.2.trans ht.2.2.2.2⟩
          rw [cs] at q0
          exact q0
        · skip
          have cs := clk_s μ.1 n k i
          rw [if_neg hz2] at cs
          refine w_iload_n dX6_clocksOfBolts_33 rfl ?_
          refine w_iconst dX6_clocksOfBolts_34 ic_1 ?_
          refine w_aload_n dX6_clocksOfBolts_35 rfl ?_
          refine w_getR (t := 2) dX6_clocksOfBolts_36 fl_X6_16 rfl (by decide) (by decide) rfl ?_
          refine w_callVi dX6_clocksOfBolts_39 ml_X6_108 mv_X1_clock rfl rfl (by decide) rfl (q1_clock G _ 2 pp2 ht.1 ht.2.1) rfl rfl (Nat.le_of_ble_eq_true rfl) ?_
          refine w_ishl dX6_clocksOfBolts_42 ?_
          refine w_ior dX6_clocksOfBolts_43 ?_
          refine w_istore_n dX6_clocksOfBolts_44 (by decide) rfl rfl ?_
          dsimp only [List.set]
          
          refine w_aload_n dX6_clocksOfBolts_45 rfl ?_
          refine w_getR (t := 2) dX6_clocksOfBolts_46 fl_X6_16 rfl (by decide) (by decide) rfl ?_
          refine w_callVqv dX6_clocksOfBolts_49 ml_X6_279 mv_X1_goHour rfl rfl (by decide) rfl (q1_goHour G _ 2 pp2 ht.1 (hC.rv.pass i) ht.2.1 ht.2.2.2.1) rfl rfl (Nat.le_of_ble_eq_true rfl) (fun τ3 h3 => ?_)
          refine w_iincN (a := i) (b := 1) dX6_clocksOfBolts_52 rfl ic_1 (by decide) rfl rfl ?_
          dsimp only [List.set]
          refine w_goto (t := 16) dX6_clocksOfBolts_55 (by decide) ?_
          have q0 := ih (i + 1) τ3 (by omega) (by omega) (hg.trans h3.pl.gh) ⟨h3.1, h3.2.1, ht.2.2.1.trans h3.2.2.1, h3.2.2.2.1, h3.2.2.2.2.trans ht.2.2.2.2⟩
          rw [cs] at q0
          exact q0
  exact lp (j + 1) 0 τ2 (by omega) (by omega) (h1.gh.trans h2.pl.gh) h2
set_option maxRecDepth 100000 in
set_option maxHeartbeats 800000 in
theorem k_clocks (G : GT) (σ : Sg) (μ : MO) (n : Nat) (hC : RC σ μ n) (r q : Int32) : Ev G mX6_clocks [.ref 0, .int r, .int q] σ (CQ σ (M_clocks μ r q)) := by
  have h8 := hC.rv.le
  have hn := hC.rv.n
  have hnR := hC.nn
  have hr1 : ∀ j, j < 8 → kd (σ.2.2 12 j) = 3 := hC.p1.kd pp1
  refine Ev.ofL (m := 0) (L := [some (.ref 0), some (.int r), some (.int q)]) rfl (Nat.le_of_ble_eq_true rfl) rfl rfl ?_
  refine w_aload_n dX6_clocks_0 rfl ?_
  refine w_iload_n dX6_clocks_1 rfl ?_
  refine w_callVi dX6_clocks_2 ml_X6_90 mv_X6_isRod rfl rfl (by decide) rfl (k_isRod G _ μ n hC _) rfl rfl (Nat.le_of_ble_eq_true rfl) ?_
  refine w_if_eq (t := 18) dX6_clocks_5 (by decide) (fun hz1 => ?_) (fun hz1 => ?_)
  · skip
    refine w_aload_n dX6_clocks_18 rfl ?_
    refine w_ldc dX6_clocks_19 kc_X6_50 ?_
    refine w_callVi dX6_clocks_21 ml_X6_51 mv_X6_tell rfl rfl (by decide) rfl (c_tell G _ _ 0 (by decide) (by decide)) rfl rfl (Nat.le_of_ble_eq_true rfl) ?_
    refine w_iret dX6_clocks_24 rfl ?_
    first
    | exact CQ.fnd hC Mo.rfl (by decide) (by simp only [M_clocks, hnR, if_true, if_false, eq_true hz1])
    | exact CQ.same hC Mo.rfl (by simp only [M_clocks, hnR, if_true, if_false, eq_true hz1])
  · skip
    refine w_iload_n dX6_clocks_8 rfl ?_
    refine w_iconst dX6_clocks_9 ic_0 ?_
    refine w_bipush dX6_clocks_10 bp_100 ?_
    refine w_callSi dX6_clocks_12 ml_X6_66 ms_X6_isWithin rfl (c_isWithin G _ _ _ _) rfl rfl (Nat.le_of_ble_eq_true rfl) ?_
    refine w_if_ne (t := 25) dX6_clocks_15 (by decide) (fun hz2 => ?_) (fun hz2 => ?_)
    · skip
      obtain ⟨k, hk, rfl⟩ := rod_of hz1 hn h8
      have hck : (nI k).toNatClampNeg = k := nI_clamp (by omega)
      obtain ⟨j, hj, rfl⟩ := in_0 (m := 100) hz2 rfl (by decide)
      have hcj : (nI j).toNatClampNeg = j := nI_clamp (by omega)
      · skip
        refine w_aload_n dX6_clocks_25 rfl ?_
        refine w_iload_n dX6_clocks_26 rfl ?_
        refine w_iload_n dX6_clocks_27 rfl ?_
        refine w_callVqi dX6_clocks_28 ml_X6_191 mv_X6_clocksOfBolts rfl rfl (by decide) rfl (k_clocksOf G _ μ n hC k j hk hj) rfl rfl (Nat.le_of_ble_eq_true rfl) (fun τ hg => ?_)
        refine w_iret dX6_clocks_31 rfl ?_
        first
        | exact CQ.same (hC.gh hg) hg.mo (by simp only [M_clocks, hnR, if_true, if_false, eq_false hz1, eq_false hz2, hck, hcj])
    · skip
      refine w_aload_n dX6_clocks_18 rfl ?_
      refine w_ldc dX6_clocks_19 kc_X6_50 ?_
      refine w_callVi dX6_clocks_21 ml_X6_51 mv_X6_tell rfl rfl (by decide) rfl (c_tell G _ _ 0 (by decide) (by decide)) rfl rfl (Nat.le_of_ble_eq_true rfl) ?_
      refine w_iret dX6_clocks_24 rfl ?_
      first
      | exact CQ.fnd hC Mo.rfl (by decide) (by simp only [M_clocks, hnR, if_true, if_false, eq_false hz1, eq_true hz2])
      | exact CQ.same hC Mo.rfl (by simp only [M_clocks, hnR, if_true, if_false, eq_false hz1, eq_true hz2])
/-! the ghost is led to its bolt -/
def ldf (f g : Nat → Int32) : Nat → Int32 := fun j => if j < 5 then g j else f j
theorem ldf_lo {f g : Nat → Int32} {j : Nat} (h : j < 5) : ldf f g j = g j := if_pos h
theorem ldf_hi {f g : Nat → Int32} {j : Nat} (h : 5 ≤ j) : ldf f g j = f j := if_neg (by omega)
theorem RV.ldf {f g : Nat → Int32} {n m : Nat} (h : RV f n) (hg : RV g m) : RV (ldf f g) n := by
  obtain ⟨-, a0, a1, a2, a3, a4, -, -⟩ := hg
  exact h.low (by rw [ldf_lo (by decide)]; exact a0) (by rw [ldf_lo (by decide)]; exact a1) (by rw [ldf_lo (by decide)]; exact a2) (by rw [ldf_lo (by decide)]; exact a3) (by rw [ldf_lo (by decide)]; exact a4) (by rw [ldf_hi (by decide)]; exact h.2.2.2.2.2.2.1) (fun j hj => ldf_hi (by omega))
theorem p_find_at (f : Nat → Int32) (n : Nat) : ∀ (m s i : Nat), s ≤ i → i < s + m → (∀ j, s ≤ j → j < i → p_breaks (p_pass f n j) = 0) → ¬ p_breaks (p_pass f n i) = 0 → p_find f n m s = i
  | 0, s, i, h1, h2, _, _ => absurd h2 (by omega)
  | m + 1, s, i, h1, h2, h3, h4 => by
    unfold p_find
    by_cases e : s = i
    · subst e; rw [if_neg h4]
    · rw [if_pos (h3 s (Nat.le_refl _) (by omega))]
      exact p_find_at f n m (s + 1) i (by omega) (by omega) (fun j h5 h6 => h3 j (by omega) h6) h4
theorem p_find_none (f : Nat → Int32) (n : Nat) : ∀ (m s : Nat), (∀ j, s ≤ j → j < s + m → p_breaks (p_pass f n j) = 0) → p_find f n m s = s + m
  | 0, s, _ => rfl
  | m + 1, s, h => by
    unfold p_find
    rw [if_pos (h s (Nat.le_refl _) (by omega)), p_find_none f n m (s + 1) (fun j h5 h6 => h j (by omega) (by omega))]
    omega
def ldX (f : Nat → Int32) (n : Nat) : Int32 := if p_nx f n < 100 then nI (p_nx f n) else -1
theorem ldX_neg (f : Nat → Int32) (n : Nat) : ldX f n < 0 ↔ ¬ p_nx f n < 100 := by
  unfold ldX
  by_cases h : p_nx f n < 100
  · rw [if_pos h]
    exact ⟨fun z => absurd z (nI_pos (by omega)), fun z => absurd h z⟩
  · rw [if_neg h]
    exact ⟨fun _ => h, fun _ => by decide⟩
theorem p_hour_cl {f : Nat → Int32} {n : Nat} (h : p_breaks f = 0) {j : Nat} (hj : j < 5) : p_hour f n j = p_grow (p_drift f) j := by
  unfold p_hour p_rest
  rw [if_pos h, updN (by omega)]
theorem lead_s {σ τ : Sg} {f : Nat → Int32} {n i : Nat} (h : Pl σ τ 2 (ldf f (p_pass f n i)) n) (hv : RV f n) (hb : p_breaks (p_pass f n i) = 0) : Pl σ (setC τ 10 (k_on (τ.1 10))) 2 (ldf f (p_pass f n (i + 1))) n := by
  have hp := hv.pass i
  refine ⟨h.1.cld (g := k_on (τ.1 10)) pp2 h.2.1 hv.le (fun k hk => ?_) (fun j hj => by rw [ldf_hi hj, ldf_hi hj]), h.2.1.eq (fun _ => rfl), h.2.2.trans (Fp.setC (Or.inr (Or.inl rfl)))⟩
  rw [ldf_lo hk, p_pass, p_hour_cl hb hk]
  exact k_on_p (fun j hj => (h.1.cl hj).trans (ldf_lo hj)) hp.ch hp.2.2.2.2.1 k hk
set_option maxRecDepth 100000 in
set_option maxHeartbeats 800000 in
theorem k_lead (G : GT) (σ : Sg) (μ : MO) (n : Nat) (hC : RC σ μ n) : Ev G mX6_leadGhostToBolt [.ref 0] σ (fun v τ => v = some (.int (ldX μ.1 n)) ∧ Gh σ τ ∧ (p_nx μ.1 n < 100 → Pl σ τ 2 (ldf μ.1 (p_nf μ.1 n)) n)) := by
  refine Ev.ofL (m := 1) (L := [some (.ref 0), none]) rfl (Nat.le_of_ble_eq_true rfl) rfl rfl ?_
  refine w_aload_n dX6_leadGhostToBolt_0 rfl ?_
  refine w_callVqv dX6_leadGhostToBolt_1 ml_X6_175 mv_X6_raiseGhost rfl rfl (by decide) rfl (k_raise G _ μ n hC) rfl rfl (Nat.le_of_ble_eq_true rfl) (fun τ1 h1 => ?_)
  refine w_iconst dX6_leadGhostToBolt_4 ic_0 ?_
  refine w_istore_n dX6_leadGhostToBolt_5 (by decide) rfl rfl ?_
  dsimp only [List.set]
  have lp : ∀ (m : Nat) (i : Nat) (τ : Sg), 100 - i < m → i ≤ 100 → (∀ j, j < i → p_breaks (p_pass μ.1 n j) = 0) → Pl σ τ 2 (ldf μ.1 (p_pass μ.1 n i)) n → WP G mX6_leadGhostToBolt 6 [some (.ref 0), some (.int (nI i))] [] (τ) (fun v τ => v = some (.int (ldX μ.1 n)) ∧ Gh σ τ ∧ (p_nx μ.1 n < 100 → Pl σ τ 2 (ldf μ.1 (p_nf μ.1 n)) n)) := by
    intro m
    induction m with
    | zero => intro i τ hmz; exact absurd hmz (Nat.not_lt_zero _)
    | succ m ih =>
      intro i τ hmz hi hnb ht
      refine w_iload_n dX6_leadGhostToBolt_6 rfl ?_
      refine w_bipush dX6_leadGhostToBolt_7 bp_100 ?_
      refine w2_icmp_ge (t := 43) dX6_leadGhostToBolt_9 (by decide) (fun hz1 => ?_) (fun hz1 => ?_)
      · skip
        have hge := nlt_nI (n := 100) (by omega) (by decide) hz1
        have hen : i = 100 := by omega
        subst hen
        refine w_iconst dX6_leadGhostToBolt_43 ic_m1 ?_
        refine w_iret dX6_leadGhostToBolt_44 rfl ?_
        have e : p_nx μ.1 n = 100 := by
          unfold p_nx
          rw [p_find_none μ.1 n 100 0 (fun j _ hj => hnb j (by omega))]
        refine ⟨?_, ht.gh, fun z => absurd z (by omega)⟩
        unfold ldX
        rw [e, if_neg (by decide)]
      · skip
        have hlt := lt_nI (n := 100) (by omega) (by decide) hz1
        refine w_aload_n dX6_leadGhostToBolt_12 rfl ?_
        refine w_getR (t := 2) dX6_leadGhostToBolt_13 fl_X6_16 rfl (by decide) (by decide) rfl ?_
        refine w_getR (t := 10) dX6_leadGhostToBolt_16 fl_X6_55 rfl (by decide) (by decide) rfl ?_
        refine w_callVi dX6_leadGhostToBolt_19 ml_X6_292 mv_X0_isBreaking rfl rfl (by decide) rfl (c0_isBreaking G _ _ rfl) rfl rfl (Nat.le_of_ble_eq_true rfl) ?_
        refine w_eqi (show _ = p_breaks (p_pass μ.1 n i) from (kbr_p ht.1).trans (by unfold p_breaks; rw [ldf_lo (by decide), ldf_lo (by decide)])) ?_
        refine w_if_eq (t := 27) dX6_leadGhostToBolt_22 (by decide) (fun hz2 => ?_) (fun hz2 => ?_)
        · skip
          have hb := hz2
          refine w_aload_n dX6_leadGhostToBolt_27 rfl ?_
          refine w_getR (t := 2) dX6_leadGhostToBolt_28 fl_X6_16 rfl (by decide) (by decide) rfl ?_
          refine w_getR (t := 10) dX6_leadGhostToBolt_31 fl_X6_55 rfl (by decide) (by decide) rfl ?_
          refine w_callVv dX6_leadGhostToBolt_34 ml_X6_295 mv_X0_goOn rfl rfl (by decide) rfl (c0_goOn G _ _ rfl) rfl rfl (Nat.le_of_ble_eq_true rfl) ?_
          refine w_iincN (a := i) (b := 1) dX6_leadGhostToBolt_37 rfl ic_1 (by decide) rfl rfl ?_
          dsimp only [List.set]
          refine w_goto (t := 6) dX6_leadGhostToBolt_40 (by decide) ?_
          exact ih (i + 1) _ (by omega) (by omega) (fun j hj => by
            by_cases e : j = i
            · subst e; exact hb
            · exact hnb j (by omega)) (lead_s ht hC.rv hb)
        · skip
          refine w_iload_n dX6_leadGhostToBolt_25 rfl ?_
          refine w_iret dX6_leadGhostToBolt_26 rfl ?_
          have e : p_nx μ.1 n = i := p_find_at μ.1 n 100 0 i (by omega) (by omega) (fun j _ hj => hnb j hj) hz2
          refine ⟨?_, ht.gh, fun _ => ?_⟩
          · unfold ldX
            rw [e, if_pos hlt]
          · unfold p_nf
            rw [e]
            exact ht
  refine lp 101 0 τ1 (by omega) (by omega) (fun j hj => absurd hj (Nat.not_lt_zero j)) ?_
  have e : ldf μ.1 (p_pass μ.1 n 0) = μ.1 := funext fun j => by
    unfold ldf
    split <;> rfl
  rw [e]
  exact h1
theorem p_pass_rod (f : Nat → Int32) (n : Nat) {r w : Nat} (hw : w < 5) : ∀ i, p_pass f n i (9 + 7 * r + w) = f (9 + 7 * r + w)
  | 0 => rfl
  | i + 1 => by rw [p_pass, p_hour_rod _ n hw, p_pass_rod f n hw i]
theorem strk_ld (f : Nat → Int32) (n i : Nat) (c : Int32) : p_strk (ldf f (p_pass f n i)) n c = p_strk (p_pass f n i) n c :=
  p_strk_cg (fun r _ w hw => by rw [ldf_hi (by omega), p_pass_rod f n (by omega)])
set_option maxRecDepth 100000 in
set_option maxHeartbeats 800000 in
theorem k_next (G : GT) (σ : Sg) (μ : MO) (n : Nat) (hC : RC σ μ n) (what : Int32) : Ev G mX6_next [.ref 0, .int what] σ (CQ σ (M_next μ what)) := by
  have h8 := hC.rv.le
  have hn := hC.rv.n
  have hnR := hC.nn
  have hr1 : ∀ j, j < 8 → kd (σ.2.2 12 j) = 3 := hC.p1.kd pp1
  refine Ev.ofL (m := 1) (L := [some (.ref 0), some (.int what), none]) rfl (Nat.le_of_ble_eq_true rfl) rfl rfl ?_
  refine w_iload_n dX6_next_0 rfl ?_
  refine w_iconst dX6_next_1 ic_0 ?_
  refine w_iconst dX6_next_2 ic_3 ?_
  refine w_callSi dX6_next_3 ml_X6_66 ms_X6_isWithin rfl (c_isWithin G _ _ _ _) rfl rfl (Nat.le_of_ble_eq_true rfl) ?_
  refine w_if_ne (t := 16) dX6_next_6 (by decide) (fun hz1 => ?_) (fun hz1 => ?_)
  · skip
    refine w_aload_n dX6_next_16 rfl ?_
    refine w_callVqi dX6_next_17 ml_X6_181 mv_X6_leadGhostToBolt rfl rfl (by decide) rfl (k_lead G _ μ n hC) rfl rfl (Nat.le_of_ble_eq_true rfl) (fun τ hq => ?_)
    have hg := hq.1
    refine w_istore_n dX6_next_20 (by decide) rfl rfl ?_
    dsimp only [List.set]
    refine w_iload_n dX6_next_21 rfl ?_
    refine w2_if_ge (t := 32) dX6_next_22 (by decide) (fun hz2 => ?_) (fun hz2 => ?_)
    · skip
      have hnx : p_nx μ.1 n < 100 := Classical.byContradiction fun z => hz2 ((ldX_neg _ _).mpr z)
      have hP := hq.2 hnx
      have e0 : τ.1 10 0 = p_nf μ.1 n 0 := (hP.1.cl (by decide)).trans (ldf_lo (by decide))
      have e1 : τ.1 10 1 = p_nf μ.1 n 1 := (hP.1.cl (by decide)).trans (ldf_lo (by decide))
      have hcB : iB (τ.1 10 0) 0 15 := by rw [e0]; exact (hC.rv.pass _).at
      refine w_iload_n dX6_next_32 rfl ?_
      refine sw_0_2 (fun hz3 => ?_) (fun hz3 => ?_) (fun hz3 => ?_) (fun hz3 => ?_)
      · skip
        refine w_tableIn (t := 60) (off := 27) dX6_next_33 (by rw [hz3]; decide) (by rw [hz3]; decide) (by rw [hz3]; rfl) (by decide) ?_
        refine w_iload_n dX6_next_60 rfl ?_
        refine w_eqi (show _ = nI (p_nx μ.1 n) from by unfold ldX; rw [if_pos hnx]) ?_
        refine w_iret dX6_next_61 rfl ?_
        first
        | exact CQ.same (hC.gh hg) hg.mo (by simp only [M_next, hnR, if_true, if_false, eq_false hz1, eq_true hz3, eq_false (show ¬ what = 1 by rw [hz3]; decide), eq_false (show ¬ what = 2 by rw [hz3]; decide), eq_true hnx])
      · skip
        refine w_tableIn (t := 62) (off := 29) dX6_next_33 (by rw [hz3]; decide) (by rw [hz3]; decide) (by rw [hz3]; rfl) (by decide) ?_
        refine w_aload_n dX6_next_62 rfl ?_
        refine w_getR (t := 2) dX6_next_63 fl_X6_16 rfl (by decide) (by decide) rfl ?_
        refine w_aload_n dX6_next_66 rfl ?_
        refine w_getR (t := 2) dX6_next_67 fl_X6_16 rfl (by decide) (by decide) rfl ?_
        refine w_getR (t := 10) dX6_next_70 fl_X6_55 rfl (by decide) (by decide) rfl ?_
        refine w_getI dX6_next_73 fl_X6_97 rfl rfl ?_
        refine w_callVi dX6_next_76 ml_X6_185 mv_X1_targetFrom rfl rfl (by decide) rfl (q1_target G _ 2 pp2 hP.1 (hC.rv.ldf (hC.rv.pass _)) hP.2.1 _ hcB) rfl rfl (Nat.le_of_ble_eq_true rfl) ?_
        refine w_eqi (show _ = oI (p_strk (p_nf μ.1 n) n (p_nf μ.1 n 0)) from by rw [e0]; exact congrArg oI (strk_ld μ.1 n _ _)) ?_
        refine w_iret dX6_next_79 rfl ?_
        first
        | exact CQ.same (hC.gh hg) hg.mo (by simp only [M_next, hnR, if_true, if_false, eq_false hz1, eq_true hz3, eq_false (show ¬ what = 0 by rw [hz3]; decide), eq_false (show ¬ what = 2 by rw [hz3]; decide), eq_true hnx])
      · skip
        refine w_tableIn (t := 80) (off := 47) dX6_next_33 (by rw [hz3]; decide) (by rw [hz3]; decide) (by rw [hz3]; rfl) (by decide) ?_
        refine w_aload_n dX6_next_80 rfl ?_
        refine w_getR (t := 2) dX6_next_81 fl_X6_16 rfl (by decide) (by decide) rfl ?_
        refine w_getR (t := 10) dX6_next_84 fl_X6_55 rfl (by decide) (by decide) rfl ?_
        refine w_getI dX6_next_87 fl_X6_105 rfl rfl ?_
        refine w_eqi e1 ?_
        refine w_iret dX6_next_90 rfl ?_
        first
        | exact CQ.same (hC.gh hg) hg.mo (by simp only [M_next, hnR, if_true, if_false, eq_false hz1, eq_true hz3, eq_false (show ¬ what = 0 by rw [hz3]; decide), eq_false (show ¬ what = 1 by rw [hz3]; decide), eq_true hnx])
      · skip
        refine w_tableOut (t := 91) dX6_next_33 hz3.1 (by decide) ?_
        refine w_aload_n dX6_next_91 rfl ?_
        refine w_getR (t := 2) dX6_next_92 fl_X6_16 rfl (by decide) (by decide) rfl ?_
        refine w_getR (t := 10) dX6_next_95 fl_X6_55 rfl (by decide) (by decide) rfl ?_
        refine w_getI dX6_next_98 fl_X6_97 rfl rfl ?_
        refine w_eqi e0 ?_
        refine w_iret dX6_next_101 rfl ?_
        first
        | exact CQ.same (hC.gh hg) hg.mo (by simp only [M_next, hnR, if_true, if_false, eq_false hz1, eq_false hz3.2.1, eq_false hz3.2.2.1, eq_false hz3.2.2.2, eq_true hnx])
    · skip
      have hnx : ¬ p_nx μ.1 n < 100 := (ldX_neg _ _).mp hz2
      refine w_aload_n dX6_next_25 rfl ?_
      refine w_ldc dX6_next_26 kc_X6_184 ?_
      refine w_callVi dX6_next_28 ml_X6_51 mv_X6_tell rfl rfl (by decide) rfl (c_tell G _ _ 3 (by decide) (by decide)) rfl rfl (Nat.le_of_ble_eq_true rfl) ?_
      refine w_iret dX6_next_31 rfl ?_
      first
      | exact CQ.fnd (hC.gh hg) hg.mo (by decide) (by simp only [M_next, hnR, if_true, if_false, eq_false hz1, eq_false hnx])
  · skip
    refine w_aload_n dX6_next_9 rfl ?_
    refine w_ldc dX6_next_10 kc_X6_50 ?_
    refine w_callVi dX6_next_12 ml_X6_51 mv_X6_tell rfl rfl (by decide) rfl (c_tell G _ _ 0 (by decide) (by decide)) rfl rfl (Nat.le_of_ble_eq_true rfl) ?_
    refine w_iret dX6_next_15 rfl ?_
    first
    | exact CQ.fnd hC Mo.rfl (by decide) (by simp only [M_next, hnR, if_true, if_false, eq_true hz1])
    | exact CQ.same hC Mo.rfl (by simp only [M_next, hnR, if_true, if_false, eq_true hz1])
theorem hour_cg {f g : Nat → Int32} {n : Nat} (h : ∀ j, j < 5 → g j = f j) : ∀ j, j < 5 → p_hour g n j = p_hour f n j := by
  have dr : ∀ a b : Nat → Int32, (∀ j, j < 5 → a j = b j) → ∀ j, j < 5 → p_rest a j = p_rest b j := fun a b e => by
    have e1 : ∀ j, j < 5 → p_drift a j = p_drift b j := by
      unfold p_drift
      rw [e 0 (by decide), e 2 (by decide)]
      split
      · intro j hj
        by_cases z : j = 2
        · subst z; rw [updS, updS]
        · rw [updN z, updN z, e j hj]
      · intro j hj
        by_cases z : j = 0
        · subst z; rw [updS, updS]
        · rw [updN z, updN z, e j hj]
    intro j hj
    have j5 : j ≠ 5 := by omega
    unfold p_rest p_grow
    rw [updN j5, updN j5]
    by_cases z : j = 1
    · subst z; rw [updS, updS, e1 1 (by decide), e1 3 (by decide)]
    · rw [updN z, updN z, e1 j hj]
  have hb : p_breaks g = p_breaks f := by
    unfold p_breaks
    rw [h 1 (by decide), h 4 (by decide)]
  unfold p_hour
  rw [hb]
  split
  · exact dr _ _ h
  · refine dr _ _ (fun j hj => ?_)
    unfold p_bolt
    rw [p_bs_bolt, p_bs_bolt]
    by_cases z : j = 1
    · subst z; rw [updS, updS]
    · rw [updN z, updN z, p_bs_low _ _ (by omega) (by omega), p_bs_low _ _ (by omega) (by omega), h j hj]
theorem pass_cg {f g : Nat → Int32} {n : Nat} (h : ∀ j, j < 5 → g j = f j) : ∀ i j, j < 5 → p_pass g n i j = p_pass f n i j
  | 0 => h
  | i + 1 => hour_cg (pass_cg h i)
theorem find_cg {f g : Nat → Int32} {n : Nat} (h : ∀ j, j < 5 → g j = f j) : ∀ m s, p_find g n m s = p_find f n m s
  | 0, s => rfl
  | m + 1, s => by
    have hb : p_breaks (p_pass g n s) = p_breaks (p_pass f n s) := by
      unfold p_breaks
      rw [pass_cg h s 1 (by decide), pass_cg h s 4 (by decide)]
    unfold p_find
    rw [hb, find_cg h m (s + 1)]
theorem nx_cg {f g : Nat → Int32} {n : Nat} (h : ∀ j, j < 5 → g j = f j) : p_nx g n = p_nx f n := find_cg h 100 0
theorem isStr_eq (f : Nat → Int32) (n k : Nat) (h : Int32) : p_isStr f n k h = if p_nx f n < 100 then (if oI (p_strk (upd (ldf f (p_nf f n)) (9 + 7 * k + 2) h) n (p_nf f n 0)) = nI k then 1 else 0) else 0 := by
  have e : ∀ j, j < 5 → upd f (9 + 7 * k + 2) h j = f j := fun j hj => updN (by omega)
  have e2 : ∀ c, p_strk (p_nf (upd f (9 + 7 * k + 2) h) n) n c = p_strk (upd (ldf f (p_nf f n)) (9 + 7 * k + 2) h) n c := fun c => p_strk_cg (fun r _ w hw => by
    unfold p_nf
    rw [p_pass_rod _ n (by omega)]
    by_cases z : 9 + 7 * r + w = 9 + 7 * k + 2
    · rw [z, updS, updS]
    · rw [updN z, updN z, ldf_hi (by omega)])
  have e0 : p_nf (upd f (9 + 7 * k + 2) h) n 0 = p_nf f n 0 := by
    unfold p_nf
    rw [nx_cg e, pass_cg e _ 0 (by decide)]
  unfold p_isStr
  simp only []
  rw [nx_cg e, e0, e2]
theorem isStr_no {f : Nat → Int32} {n : Nat} (hn : ¬ p_nx f n < 100) (k : Nat) (h : Int32) : p_isStr f n k h = 0 := by
  rw [isStr_eq, if_neg hn]
theorem p_fst_at (p : Nat → Int32) : ∀ (m s i : Nat), s ≤ i → i < s + m → (∀ j, s ≤ j → j < i → p j = 0) → ¬ p i = 0 → p_fst p m s = i
  | 0, s, i, h1, h2, _, _ => absurd h2 (by omega)
  | m + 1, s, i, h1, h2, h3, h4 => by
    rw [p_fst_s]
    by_cases e : s = i
    · subst e; rw [if_neg h4]
    · rw [if_pos (h3 s (Nat.le_refl _) (by omega))]
      exact p_fst_at p m (s + 1) i (by omega) (by omega) (fun j h5 h6 => h3 j (by omega) h6) h4
theorem p_fst_none (p : Nat → Int32) : ∀ (m s : Nat), (∀ j, s ≤ j → j < s + m → p j = 0) → p_fst p m s = s + m
  | 0, s, _ => rfl
  | m + 1, s, h => by
    rw [p_fst_s, if_pos (h s (Nat.le_refl _) (by omega)), p_fst_none p m (s + 1) (fun j h5 h6 => h j (by omega) (by omega))]
    omega
theorem p_lst_top {p : Nat → Int32} {m : Nat} (h : p m = 0) : p_lst p (m + 1) = some m := by rw [p_lst_s, if_pos h]
set_option maxRecDepth 100000 in
set_option maxHeartbeats 800000 in
theorem k_isGS (G : GT) (σ : Sg) {g : Nat → Int32} {n : Nat} (h : Rp σ 2 g n) (hv : RV g n) (hm : Pm σ 2) (k : Nat) (hk : k < n) (x : Int32) (hx : iB x 0 60) : Ev G mX6_isGhostStruck [.ref 0, .int (nI k), .int x] σ (fun v τ => v = some (.int (if oI (p_strk (upd g (9 + 7 * k + 2) x) n (g 0)) = nI k then 1 else 0)) ∧ Pl σ τ 2 (upd g (9 + 7 * k + 2) x) n) := by
  have h8 := hv.le
  have KX := hm.kd pp2 k (by omega)
  refine Ev.ofL (m := 0) (L := [some (.ref 0), some (.int (nI k)), some (.int x)]) rfl (Nat.le_of_ble_eq_true rfl) rfl rfl ?_
  refine w_aload_n dX6_isGhostStruck_0 rfl ?_
  refine w_getR (t := 2) dX6_isGhostStruck_1 fl_X6_16 rfl (by decide) (by decide) rfl ?_
  refine w_getR (t := 13) dX6_isGhostStruck_4 fl_X6_93 rfl (by decide) (by decide) rfl ?_
  refine w_iload_n dX6_isGhostStruck_7 rfl ?_
  refine w_aald (j := k) dX6_isGhostStruck_8 rfl rfl (by omega) ?_
  refine w_iload_n dX6_isGhostStruck_9 rfl ?_
  refine w_putI dX6_isGhostStruck_10 fl_X6_124 KX rfl (by decide +kernel) ?_
  have hw : Pl σ (wI σ (σ.2.2 13 k) 2 x) 2 (upd g (9 + 7 * k + 2) x) n := Pl.rodw h pp2 hm h8 hk (by decide)
  have hvw : RV (upd g (9 + 7 * k + 2) x) n := hv.rodw hk (by decide) hx
  refine w_aload_n dX6_isGhostStruck_13 rfl ?_
  refine w_getR (t := 2) dX6_isGhostStruck_14 fl_X6_16 rfl (by decide) (by decide) rfl ?_
  refine w_aload_n dX6_isGhostStruck_17 rfl ?_
  refine w_getR (t := 2) dX6_isGhostStruck_18 fl_X6_16 rfl (by decide) (by decide) rfl ?_
  refine w_getR (t := 10) dX6_isGhostStruck_21 fl_X6_55 rfl (by decide) (by decide) rfl ?_
  refine w_getI dX6_isGhostStruck_24 fl_X6_97 rfl rfl ?_
  refine w_eqi (show _ = g 0 from (hw.1.cl (by decide)).trans (updN (by omega))) ?_
  refine w_callVi dX6_isGhostStruck_27 ml_X6_185 mv_X1_targetFrom rfl rfl (by decide) rfl (q1_target G _ 2 pp2 hw.1 hvw hw.2.1 _ hv.at) rfl rfl (Nat.le_of_ble_eq_true rfl) ?_
  refine w_iload_n dX6_isGhostStruck_30 rfl ?_
  refine w_icmp_ne (t := 38) dX6_isGhostStruck_31 (by decide) (fun hz1 => ?_) (fun hz1 => ?_)
  · skip
    refine w_iconst dX6_isGhostStruck_38 ic_0 ?_
    refine w_zret dX6_isGhostStruck_39 rfl rfl ?_
    exact ⟨by rw [if_neg hz1], hw⟩
  · skip
    refine w_iconst dX6_isGhostStruck_34 ic_1 ?_
    refine w_goto (t := 39) dX6_isGhostStruck_35 (by decide) ?_
    refine w_zret dX6_isGhostStruck_39 rfl rfl ?_
    exact ⟨by rw [if_pos hz1], hw⟩
set_option maxRecDepth 100000 in
set_option maxHeartbeats 800000 in
theorem k_steals (G : GT) (σ : Sg) (μ : MO) (n : Nat) (hC : RC σ μ n) (r : Int32) : Ev G mX6_steals [.ref 0, .int r] σ (CQ σ (M_steals μ r)) := by
  have h8 := hC.rv.le
  have hn := hC.rv.n
  have hnR := hC.nn
  have hr1 : ∀ j, j < 8 → kd (σ.2.2 12 j) = 3 := hC.p1.kd pp1
  refine Ev.ofL (m := 2) (L := [some (.ref 0), some (.int r), none, none]) rfl (Nat.le_of_ble_eq_true rfl) rfl rfl ?_
  refine w_aload_n dX6_steals_0 rfl ?_
  refine w_iload_n dX6_steals_1 rfl ?_
  refine w_callVi dX6_steals_2 ml_X6_90 mv_X6_isRod rfl rfl (by decide) rfl (k_isRod G _ μ n hC _) rfl rfl (Nat.le_of_ble_eq_true rfl) ?_
  refine w_if_ne (t := 15) dX6_steals_5 (by decide) (fun hz1 => ?_) (fun hz1 => ?_)
  · skip
    obtain ⟨k, hk, rfl⟩ := rod_of hz1 hn h8
    have hck : (nI k).toNatClampNeg = k := nI_clamp (by omega)
    · skip
      refine w_aload_n dX6_steals_15 rfl ?_
      refine w_callVqi dX6_steals_16 ml_X6_181 mv_X6_leadGhostToBolt rfl rfl (by decide) rfl (k_lead G _ μ n hC) rfl rfl (Nat.le_of_ble_eq_true rfl) (fun τ hq => ?_)
      refine w_if_lt (t := 26) dX6_steals_19 (by decide) (fun hz2 => ?_) (fun hz2 => ?_)
      · skip
        have hnx : ¬ p_nx μ.1 n < 100 := (ldX_neg _ _).mp hz2
        refine w_iconst dX6_steals_26 ic_0 ?_
        refine w_istore_n dX6_steals_27 (by decide) rfl rfl ?_
        dsimp only [List.set]
        refine w_iconst dX6_steals_28 ic_0 ?_
        refine w_istore_n dX6_steals_29 (by decide) rfl rfl ?_
        dsimp only [List.set]
        refine w_iload_n dX6_steals_30 rfl ?_
        refine w_if_eq (t := 57) dX6_steals_31 (by decide) (fun hz3 => ?_) (fun hz3 => absurd rfl hz3)
        refine w_aload_n dX6_steals_57 rfl ?_
        refine w_ldc dX6_steals_58 kc_X6_184 ?_
        refine w_callVi dX6_steals_60 ml_X6_51 mv_X6_tell rfl rfl (by decide) rfl (c_tell G _ _ 3 (by decide) (by decide)) rfl rfl (Nat.le_of_ble_eq_true rfl) ?_
        refine w_iret dX6_steals_63 rfl ?_
        have e : p_fst (fun i => p_isStr μ.1 n k (nI i)) 61 0 = 61 := p_fst_none (fun i => p_isStr μ.1 n k (nI i)) 61 0 (fun j _ _ => isStr_no hnx k _)
        exact CQ.fnd (hC.gh hq.1) hq.1.mo (by decide) (by simp only [M_steals, hnR, hck, eq_false hz1, if_false, e, if_true])
      · skip
        have hnx : p_nx μ.1 n < 100 := Classical.byContradiction fun z => hz2 ((ldX_neg _ _).mpr z)
        have hP := hq.2 hnx
        have hvl : RV (ldf μ.1 (p_nf μ.1 n)) n := hC.rv.ldf (hC.rv.pass _)
        have hst : ∀ x : Int32, p_isStr μ.1 n k x = if oI (p_strk (upd (ldf μ.1 (p_nf μ.1 n)) (9 + 7 * k + 2) x) n (p_nf μ.1 n 0)) = nI k then 1 else 0 := fun x => by rw [isStr_eq, if_pos hnx]
        refine w_iconst dX6_steals_22 ic_1 ?_
        refine w_goto (t := 27) dX6_steals_23 (by decide) ?_
        refine w_istore_n dX6_steals_27 (by decide) rfl rfl ?_
        dsimp only [List.set]
        refine w_iconst dX6_steals_28 ic_0 ?_
        refine w_istore_n dX6_steals_29 (by decide) rfl rfl ?_
        dsimp only [List.set]
        have lp : ∀ (m : Nat) (i : Nat) (τ : Sg) (x : Int32), 61 - i < m → i ≤ 61 → Gh σ τ → Pl σ τ 2 (upd (ldf μ.1 (p_nf μ.1 n)) (9 + 7 * k + 2) x) n → iB x 0 60 → (∀ j, j < i → p_isStr μ.1 n k (nI j) = 0) → WP G mX6_steals 30 [some (.ref 0), some (.int (nI k)), some (.int 1), some (.int (nI i))] [] (τ) (CQ σ (M_steals μ (nI k))) := by
          intro m
          induction m with
          | zero => intro i τ x hmz; exact absurd hmz (Nat.not_lt_zero _)
          | succ m ih =>
            intro i τ x hmz hi hg hl hxB hps
            refine w_iload_n dX6_steals_30 rfl ?_
            refine w_if_eq (t := 57) dX6_steals_31 (by decide) (fun hz4 => absurd hz4 (by decide)) (fun hz4 => ?_)
            refine w_iload_n dX6_steals_34 rfl ?_
            refine w_bipush dX6_steals_35 bp_60 ?_
            refine w_icmp_gt (t := 57) dX6_steals_37 (by decide) (fun hz5 => ?_) (fun hz5 => ?_)
            · skip
              refine w_aload_n dX6_steals_57 rfl ?_
              refine w_ldc dX6_steals_58 kc_X6_184 ?_
              refine w_callVi dX6_steals_60 ml_X6_51 mv_X6_tell rfl rfl (by decide) rfl (c_tell G _ _ 3 (by decide) (by decide)) rfl rfl (Nat.le_of_ble_eq_true rfl) ?_
              refine w_iret dX6_steals_63 rfl ?_
              have hlt := lt_nI (r := 60) (by decide) (by omega) hz5
              have hen : i = 61 := by omega
              subst hen
              have e : p_fst (fun i => p_isStr μ.1 n k (nI i)) 61 0 = 61 := p_fst_none (fun i => p_isStr μ.1 n k (nI i)) 61 0 (fun j _ hj => hps j (by omega))
              exact CQ.fnd (hC.gh hg) hg.mo (by decide) (by simp only [M_steals, hnR, hck, eq_false hz1, if_false, e, if_true])
            · skip
              have hle : i ≤ 60 := nlt_nI (r := 60) (by decide) (by omega) hz5
              refine w_aload_n dX6_steals_40 rfl ?_
              refine w_iload_n dX6_steals_41 rfl ?_
              refine w_iload_n dX6_steals_42 rfl ?_
              refine w_callVqi dX6_steals_43 ml_X6_188 mv_X6_isGhostStruck rfl rfl (by decide) rfl (k_isGS G _ hl.1 (hvl.rodw hk (by decide) hxB) hl.2.1 k hk (nI i) (iB.of (b := 60) (by omega) (by decide))) rfl rfl (Nat.le_of_ble_eq_true rfl) (fun τ2 h2 => ?_)
              simp only [upd_upd, updN (show (0 : Nat) ≠ 9 + 7 * k + 2 by omega), ldf_lo (show 0 < 5 by decide), ← hst] at h2 ⊢
              refine w_if_eq (t := 51) dX6_steals_46 (by decide) (fun hz6 => ?_) (fun hz6 => ?_)
              · skip
                have hb := hz6
                refine w_iincN (a := i) (b := 1) dX6_steals_51 rfl ic_1 (by decide) rfl rfl ?_
                dsimp only [List.set]
                refine w_goto (t := 30) dX6_steals_54 (by decide) ?_
                exact ih (i + 1) τ2 (nI i) (by omega) (by omega) (hg.trans h2.gh) (hl.trans h2) (iB.of (b := 60) (by omega) (by decide)) (fun j hj => by
                  by_cases e : j = i
                  · subst e; exact hb
                  · exact hps j (by omega))
              · skip
                refine w_iload_n dX6_steals_49 rfl ?_
                refine w_iret dX6_steals_50 rfl ?_
                have e : p_fst (fun i => p_isStr μ.1 n k (nI i)) 61 0 = i := p_fst_at (fun i => p_isStr μ.1 n k (nI i)) 61 0 i (by omega) (by omega) (fun j _ hj => hps j hj) hz6
                exact CQ.same (hC.gh (hg.trans h2.gh)) (hg.trans h2.gh).mo (by simp only [M_steals, hnR, hck, eq_false hz1, if_false, e, eq_false (show ¬ i = 61 by omega)])
        refine lp 62 0 τ ((ldf μ.1 (p_nf μ.1 n)) (9 + 7 * k + 2)) (by omega) (by omega) hq.1 ?_ (RVg_at (hvl.rod hk) 2 (by decide)) (fun j hj => absurd hj (Nat.not_lt_zero j))
        rw [upd_same]
        exact hP
  · skip
    refine w_aload_n dX6_steals_8 rfl ?_
    refine w_ldc dX6_steals_9 kc_X6_50 ?_
    refine w_callVi dX6_steals_11 ml_X6_51 mv_X6_tell rfl rfl (by decide) rfl (c_tell G _ _ 0 (by decide) (by decide)) rfl rfl (Nat.le_of_ble_eq_true rfl) ?_
    refine w_iret dX6_steals_14 rfl ?_
    first
    | exact CQ.fnd hC Mo.rfl (by decide) (by simp only [M_steals, hnR, if_true, if_false, eq_true hz1])
    | exact CQ.same hC Mo.rfl (by simp only [M_steals, hnR, if_true, if_false, eq_true hz1])
set_option maxRecDepth 100000 in
set_option maxHeartbeats 800000 in
theorem k_ducks (G : GT) (σ : Sg) (μ : MO) (n : Nat) (hC : RC σ μ n) (r : Int32) : Ev G mX6_ducks [.ref 0, .int r] σ (CQ σ (M_ducks μ r)) := by
  have h8 := hC.rv.le
  have hn := hC.rv.n
  have hnR := hC.nn
  have hr1 : ∀ j, j < 8 → kd (σ.2.2 12 j) = 3 := hC.p1.kd pp1
  refine Ev.ofL (m := 2) (L := [some (.ref 0), some (.int r), none, none]) rfl (Nat.le_of_ble_eq_true rfl) rfl rfl ?_
  refine w_aload_n dX6_ducks_0 rfl ?_
  refine w_iload_n dX6_ducks_1 rfl ?_
  refine w_callVi dX6_ducks_2 ml_X6_90 mv_X6_isRod rfl rfl (by decide) rfl (k_isRod G _ μ n hC _) rfl rfl (Nat.le_of_ble_eq_true rfl) ?_
  refine w_if_ne (t := 15) dX6_ducks_5 (by decide) (fun hz1 => ?_) (fun hz1 => ?_)
  · skip
    obtain ⟨k, hk, rfl⟩ := rod_of hz1 hn h8
    have hck : (nI k).toNatClampNeg = k := nI_clamp (by omega)
    · skip
      refine w_aload_n dX6_ducks_15 rfl ?_
      refine w_callVqi dX6_ducks_16 ml_X6_181 mv_X6_leadGhostToBolt rfl rfl (by decide) rfl (k_lead G _ μ n hC) rfl rfl (Nat.le_of_ble_eq_true rfl) (fun τ hq => ?_)
      refine w_if_lt (t := 26) dX6_ducks_19 (by decide) (fun hz2 => ?_) (fun hz2 => ?_)
      · skip
        have hnx : ¬ p_nx μ.1 n < 100 := (ldX_neg _ _).mp hz2
        refine w_iconst dX6_ducks_26 ic_0 ?_
        refine w_istore_n dX6_ducks_27 (by decide) rfl rfl ?_
        dsimp only [List.set]
        refine w_bipush dX6_ducks_28 bp_60 ?_
        refine w_istore_n dX6_ducks_30 (by decide) rfl rfl ?_
        dsimp only [List.set]
        refine w_iload_n dX6_ducks_31 rfl ?_
        refine w_if_lt (t := 56) dX6_ducks_32 (by decide) (fun hz3 => absurd hz3 (by decide)) (fun hz3 => ?_)
        refine w_iload_n dX6_ducks_35 rfl ?_
        refine w_if_eq (t := 48) dX6_ducks_36 (by decide) (fun hz4 => ?_) (fun hz4 => absurd rfl hz4)
        refine w_iload_n dX6_ducks_48 rfl ?_
        refine w_iret dX6_ducks_49 rfl ?_
        have hA : M_ducks μ (nI k) = M_opt μ (p_lst (fun i => p_isStr μ.1 n k (nI i)) 61) := by simp only [M_ducks, hnR, hck, eq_false hz1, if_false]
        rw [hA, p_lst_top (isStr_no hnx k (nI 60))]
        exact CQ.same (hC.gh hq.1) hq.1.mo rfl
      · skip
        have hnx : p_nx μ.1 n < 100 := Classical.byContradiction fun z => hz2 ((ldX_neg _ _).mpr z)
        have hP := hq.2 hnx
        have hvl : RV (ldf μ.1 (p_nf μ.1 n)) n := hC.rv.ldf (hC.rv.pass _)
        have hst : ∀ x : Int32, p_isStr μ.1 n k x = if oI (p_strk (upd (ldf μ.1 (p_nf μ.1 n)) (9 + 7 * k + 2) x) n (p_nf μ.1 n 0)) = nI k then 1 else 0 := fun x => by rw [isStr_eq, if_pos hnx]
        refine w_iconst dX6_ducks_22 ic_1 ?_
        refine w_goto (t := 27) dX6_ducks_23 (by decide) ?_
        refine w_istore_n dX6_ducks_27 (by decide) rfl rfl ?_
        dsimp only [List.set]
        refine w_bipush dX6_ducks_28 bp_60 ?_
        refine w_istore_n dX6_ducks_30 (by decide) rfl rfl ?_
        dsimp only [List.set]
        have lp : ∀ (m : Nat) (i : Nat) (τ : Sg) (x : Int32), i < m → i ≤ 61 → Gh σ τ → Pl σ τ 2 (upd (ldf μ.1 (p_nf μ.1 n)) (9 + 7 * k + 2) x) n → iB x 0 60 → p_lst (fun i => p_isStr μ.1 n k (nI i)) i = p_lst (fun i => p_isStr μ.1 n k (nI i)) 61 → WP G mX6_ducks 31 [some (.ref 0), some (.int (nI k)), some (.int 1), some (.int (nI i - 1))] [] (τ) (CQ σ (M_ducks μ (nI k))) := by
          intro m
          induction m with
          | zero => intro i τ x hmz; exact absurd hmz (Nat.not_lt_zero _)
          | succ m ih =>
            intro i τ x hmz hi hg hl hxB hps
            refine w_iload_n dX6_ducks_31 rfl ?_
            rcases i with _ | i
            · skip
              refine w_if_lt (t := 56) dX6_ducks_32 (by decide) (fun hz5 => ?_) (fun hz5 => absurd (by decide) hz5)
              refine w_aload_n dX6_ducks_56 rfl ?_
              refine w_ldc dX6_ducks_57 kc_X6_184 ?_
              refine w_callVi dX6_ducks_59 ml_X6_51 mv_X6_tell rfl rfl (by decide) rfl (c_tell G _ _ 3 (by decide) (by decide)) rfl rfl (Nat.le_of_ble_eq_true rfl) ?_
              refine w_iret dX6_ducks_62 rfl ?_
              have hA : M_ducks μ (nI k) = M_opt μ (p_lst (fun i => p_isStr μ.1 n k (nI i)) 61) := by simp only [M_ducks, hnR, hck, eq_false hz1, if_false]
              rw [hA, ← hps, p_lst_0]
              exact CQ.fnd (hC.gh hg) hg.mo (by decide) rfl
            · skip
              refine w_L (L' := [some (.ref 0), some (.int (nI k)), some (.int 1), some (.int (nI i))]) (by rw [nI_pred]) ?_
              refine w_eqi (nI_pred i) ?_
              refine w_if_lt (t := 56) dX6_ducks_32 (by decide) (fun hz6 => absurd hz6 (nI_pos (by omega))) (fun hz6 => ?_)
              refine w_iload_n dX6_ducks_35 rfl ?_
              refine w_if_eq (t := 48) dX6_ducks_36 (by decide) (fun hz7 => absurd hz7 (by decide)) (fun hz7 => ?_)
              refine w_aload_n dX6_ducks_39 rfl ?_
              refine w_iload_n dX6_ducks_40 rfl ?_
              refine w_iload_n dX6_ducks_41 rfl ?_
              refine w_callVqi dX6_ducks_42 ml_X6_188 mv_X6_isGhostStruck rfl rfl (by decide) rfl (k_isGS G _ hl.1 (hvl.rodw hk (by decide) hxB) hl.2.1 k hk (nI i) (iB.of (b := 60) (by omega) (by decide))) rfl rfl (Nat.le_of_ble_eq_true rfl) (fun τ2 h2 => ?_)
              simp only [upd_upd, updN (show (0 : Nat) ≠ 9 + 7 * k + 2 by omega), ldf_lo (show 0 < 5 by decide), ← hst] at h2 ⊢
              refine w_if_ne (t := 50) dX6_ducks_45 (by decide) (fun hz8 => ?_) (fun hz8 => ?_)
              · skip
                have hb := hz8
                refine w_iinc dX6_ducks_50 rfl rfl (by decide) rfl rfl ?_
                dsimp only [List.set]
                refine w_goto (t := 31) dX6_ducks_53 (by decide) ?_
                refine w_L (L' := [some (.ref 0), some (.int (nI k)), some (.int 1), some (.int (nI i - 1))]) (by rw [Int32.sub_eq_add_neg]; rfl) ?_
                exact ih i τ2 (nI i) (by omega) (by omega) (hg.trans h2.gh) (hl.trans h2) (iB.of (b := 60) (by omega) (by decide)) ((if_neg hb).symm.trans ((p_lst_s _ i).symm.trans hps))
              · skip
                refine w_iload_n dX6_ducks_48 rfl ?_
                refine w_iret dX6_ducks_49 rfl ?_
                have hA : M_ducks μ (nI k) = M_opt μ (p_lst (fun i => p_isStr μ.1 n k (nI i)) 61) := by simp only [M_ducks, hnR, hck, eq_false hz1, if_false]
                rw [hA, ← hps, p_lst_top hz8]
                exact CQ.same (hC.gh (hg.trans h2.gh)) (hg.trans h2.gh).mo rfl
        refine lp 62 61 τ ((ldf μ.1 (p_nf μ.1 n)) (9 + 7 * k + 2)) (by omega) (by omega) hq.1 ?_ (RVg_at (hvl.rod hk) 2 (by decide)) rfl
        rw [upd_same]
        exact hP
  · skip
    refine w_aload_n dX6_ducks_8 rfl ?_
    refine w_ldc dX6_ducks_9 kc_X6_50 ?_
    refine w_callVi dX6_ducks_11 ml_X6_51 mv_X6_tell rfl rfl (by decide) rfl (c_tell G _ _ 0 (by decide) (by decide)) rfl rfl (Nat.le_of_ble_eq_true rfl) ?_
    refine w_iret dX6_ducks_14 rfl ?_
    first
    | exact CQ.fnd hC Mo.rfl (by decide) (by simp only [M_ducks, hnR, if_true, if_false, eq_true hz1])
    | exact CQ.same hC Mo.rfl (by simp only [M_ducks, hnR, if_true, if_false, eq_true hz1])
