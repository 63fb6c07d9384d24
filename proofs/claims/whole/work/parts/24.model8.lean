set_option maxRecDepth 100000 in
set_option maxHeartbeats 800000 in
theorem m_feed (G : GT) (σ : Sg) (bb qx : Int32) (tt : Nat) (htt : σ.1 50 10 = nI tt) (ht120 : tt ≤ 120) : Ev G mX7_feed [.ref 50, .int bb, .int qx] σ (PQ σ (M_feed (obs σ) bb qx)) := by
  refine Ev.ofL (m := 1) (L := [some (.ref 50), some (.int bb), some (.int qx), none]) rfl (Nat.le_of_ble_eq_true rfl) rfl rfl ?_
  refine w_iload_n dX7_feed_0 rfl ?_
  refine w_iconst dX7_feed_1 ic_1 ?_
  refine w_iconst dX7_feed_2 ic_4 ?_
  refine w_callSi dX7_feed_3 ml_X7_45 ms_X7_in rfl (e7_in G _ _ _ _) rfl rfl (Nat.le_of_ble_eq_true rfl) ?_
  refine w_if_ne (t := 16) dX7_feed_6 (by decide) (fun hz1 => ?_) (fun hz1 => ?_)
  · skip
    refine w_aload_n dX7_feed_16 rfl ?_
    refine w_getI dX7_feed_17 fl_X7_172 rfl rfl ?_
    refine w_iload_n dX7_feed_20 rfl ?_
    refine w_iadd dX7_feed_21 ?_
    refine w_bipush dX7_feed_22 bp_120 ?_
    refine w2_icmp_le (t := 34) dX7_feed_24 (by decide) (fun hz2 => ?_) (fun hz2 => ?_)
    · skip
      obtain ⟨qq, hqq, rfl⟩ := in_0 (m := 4) (in_low hz1 (by decide)) rfl (by decide)
      have hcq : (nI qq).toNatClampNeg = qq := nI_clamp (by omega)
      have h12 : tt + qq ≤ 120 := by
        have := hz2
        rw [htt, nI_add] at this
        exact nlt_nI (r := 120) (by decide) (by omega) this
      · skip
        refine w_iload_n dX7_feed_34 rfl ?_
        refine w_iconst dX7_feed_35 ic_1 ?_
        refine w_isub dX7_feed_36 ?_
        refine w_istore_n dX7_feed_37 (by decide) rfl rfl ?_
        dsimp only [List.set]
        have lp : ∀ (m : Nat) (d : Nat) (τ : Sg), d < m → d ≤ qq → Fq σ τ → τ.1 55 = p_fed (σ.1 55) tt qq bb (qq - d) → τ.1 50 10 = nI (tt + (qq - d)) → WP G mX7_feed 38 [some (.ref 50), some (.int bb), some (.int (nI qq)), some (.int (nI d - 1))] [] (τ) (PQ σ (M_feed (obs σ) bb (nI qq))) := by
          intro m
          induction m with
          | zero => intro d τ hm; exact absurd hm (Nat.not_lt_zero _)
          | succ m ih =>
            intro d τ hm hd hfq ht5 ht10
            rcases d with _ | d
            · skip
              refine w_iload_n dX7_feed_38 rfl ?_
              refine w_if_lt (t := 77) dX7_feed_39 (by decide) (fun hz3 => ?_) (fun hz3 => absurd (by decide) hz3)
              refine w_aload_n dX7_feed_77 rfl ?_
              refine w_getI dX7_feed_78 fl_X7_172 rfl rfl ?_
              refine w_iret dX7_feed_81 rfl ?_
              have e0 : τ.1 50 10 = σ.1 50 10 + nI qq := by rw [ht10, htt, nI_add, Nat.sub_zero]
              refine ⟨?_, ?_, Co.fq hfq⟩
              · simp only [M_feed, obs_tm, eq_false hz1, eq_false hz2, if_false, e0]
              · rw [obs_fq hfq, ht5, e0, Nat.sub_zero]
                simp only [M_feed, obs_tm, eq_false hz1, eq_false hz2, if_false, hcq]
                rw [htt, nI_clamp (n := tt) (by omega)]
                rfl
            · skip
              refine w_L (L' := [some (.ref 50), some (.int bb), some (.int (nI qq)), some (.int (nI d))]) (by rw [nI_pred]) ?_
              refine w_iload_n dX7_feed_38 rfl ?_
              refine w_if_lt (t := 77) dX7_feed_39 (by decide) (fun hz4 => absurd hz4 (nI_pos (by omega))) (fun hz4 => ?_)
              refine w_aload_n dX7_feed_42 rfl ?_
              refine w_getR (t := 55) dX7_feed_43 fl_X7_22 rfl (by decide) (by decide) rfl ?_
              refine w_aload_n dX7_feed_46 rfl ?_
              refine w_getI dX7_feed_47 fl_X7_172 rfl rfl ?_
              refine w_eqi ht10 ?_
              · skip
                refine w_iload_n dX7_feed_50 rfl ?_
                refine w_bipush dX7_feed_51 bp_8 ?_
                refine w_iload_n dX7_feed_53 rfl ?_
                refine w_imulN (a := 8) (b := d) dX7_feed_54 ?_
                refine w_ishr dX7_feed_55 ?_
                refine w_sipush dX7_feed_56 sp_255 ?_
                refine w_iand dX7_feed_59 ?_
                refine w_iast (j := tt + (qq - (d + 1))) dX7_feed_60 rfl (by decide) rfl (show tt + (qq - (d + 1)) < 120 by omega) ?_
                refine w_aload_n dX7_feed_61 rfl ?_
                refine w_dup dX7_feed_62 rfl ?_
                refine w_getI dX7_feed_63 fl_X7_172 rfl rfl ?_
                refine w_iconst dX7_feed_66 ic_1 ?_
                refine w_iadd dX7_feed_67 ?_
                refine w_putI dX7_feed_68 fl_X7_172 rfl rfl (by decide +kernel) ?_
                refine w_iinc dX7_feed_71 rfl rfl (by decide) rfl rfl ?_
                dsimp only [List.set]
                refine w_goto (t := 38) dX7_feed_74 (by decide) ?_
                refine w_L (L' := [some (.ref 50), some (.int bb), some (.int (nI qq)), some (.int (nI d - 1))]) (by rw [Int32.sub_eq_add_neg]; rfl) (ih d _ (by omega) (by omega) ⟨fun c j h1 h2 => ?_, ?_⟩ ?_ ?_)
                · rw [show (wI (wI τ 55 (tt + (qq - (d + 1))) _) 50 10 _).1 c j = (wI τ 55 (tt + (qq - (d + 1))) _).1 c j from if_neg h2, wI_c h1]
                  exact hfq.1 c j h1 h2
                · exact hfq.2
                · funext j
                  rw [wI_c (by decide), show qq - d = (qq - (d + 1)) + 1 by omega, p_fed_s, ← ht5, show qq - 1 - (qq - (d + 1)) = d by omega]
                  show (if 55 = 55 ∧ j = tt + (qq - (d + 1)) then _ else _) = _
                  unfold upd
                  by_cases hj : j = tt + (qq - (d + 1)) <;> simp [hj]
                · rw [wI_s, wI_c (by decide), ht10, nI_1]
                  rw [show tt + (qq - (d + 1)) + 1 = tt + (qq - d) by omega]
        have q0 := lp (qq + 1) qq σ (by omega) (by omega) ⟨fun _ _ _ _ => rfl, rfl⟩ (by rw [Nat.sub_self]; rfl) (by rw [Nat.sub_self]; exact htt)
        exact q0
    · skip
      refine w_aload_n dX7_feed_27 rfl ?_
      refine w_ldc dX7_feed_28 kc_X7_64 ?_
      refine w_callVi dX7_feed_30 ml_X7_53 mv_X7_finds rfl rfl (by decide) rfl (e7_finds G _ _ 1 (by decide) (by decide)) rfl rfl (Nat.le_of_ble_eq_true rfl) ?_
      refine w_iret dX7_feed_33 rfl ?_
      exact PQ.fnd (by simp only [M_feed, obs_tm, eq_false hz1, eq_true hz2, if_true, if_false])
  · skip
    refine w_aload_n dX7_feed_9 rfl ?_
    refine w_ldc dX7_feed_10 kc_X7_44 ?_
    refine w_callVi dX7_feed_12 ml_X7_53 mv_X7_finds rfl rfl (by decide) rfl (e7_finds G _ _ 0 (by decide) (by decide)) rfl rfl (Nat.le_of_ble_eq_true rfl) ?_
    refine w_iret dX7_feed_15 rfl ?_
    exact PQ.fnd (by simp only [M_feed, obs_tm, eq_true hz1, if_true, if_false])
set_option maxRecDepth 100000 in
set_option maxHeartbeats 800000 in
theorem e7_narrow (G : GT) (σ : Sg) (bb : Int32) (vv : Int64) : Evl G mX7_narrow [.int bb, .long vv] σ (p_nar bb vv) (σ) := by
  refine Ev.ofL (m := 0) (L := [some (.int bb), some (.long vv), none]) rfl (Nat.le_of_ble_eq_true rfl) rfl rfl ?_
  refine w_iload_n dX7_narrow_0 rfl ?_
  refine w_bipush dX7_narrow_1 bp_8 ?_
  refine w_icmp_ne (t := 16) dX7_narrow_3 (by decide) (fun hz1 => ?_) (fun hz1 => ?_)
  · skip
    refine w_iload_n dX7_narrow_16 rfl ?_
    refine w_bipush dX7_narrow_17 bp_16 ?_
    refine w_icmp_ne (t := 32) dX7_narrow_19 (by decide) (fun hz2 => ?_) (fun hz2 => ?_)
    · skip
      refine w_lload_n dX7_narrow_32 rfl ?_
      refine w_lret dX7_narrow_33 rfl ?_
      exact ⟨by simp only [p_nar, eq_false hz1, eq_false hz2, if_true, if_false], rfl⟩
    · skip
      refine w_lload_n dX7_narrow_22 rfl ?_
      refine w_bipush dX7_narrow_23 bp_48 ?_
      refine w_lshl dX7_narrow_25 ?_
      refine w_bipush dX7_narrow_26 bp_48 ?_
      refine w_lshr dX7_narrow_28 ?_
      refine w_goto (t := 33) dX7_narrow_29 (by decide) ?_
      refine w_lret dX7_narrow_33 rfl ?_
      exact ⟨by simp only [p_nar, eq_false hz1, eq_true hz2, if_true, if_false], rfl⟩
  · skip
    refine w_lload_n dX7_narrow_6 rfl ?_
    refine w_bipush dX7_narrow_7 bp_56 ?_
    refine w_lshl dX7_narrow_9 ?_
    refine w_bipush dX7_narrow_10 bp_56 ?_
    refine w_lshr dX7_narrow_12 ?_
    refine w_goto (t := 33) dX7_narrow_13 (by decide) ?_
    refine w_lret dX7_narrow_33 rfl ?_
    exact ⟨by simp only [p_nar, eq_true hz1, if_true, if_false], rfl⟩
set_option maxRecDepth 100000 in
set_option maxHeartbeats 800000 in
theorem e7_isPart (G : GT) (σ : Sg) (s : Nat) (ax mx : Int32) (hs : s < 4) : Evi G mX7_isPart [.ref 50, .int (nI s), .int ax, .int mx] σ (p_part (σ.1 57 s) ax mx) (σ) := by
  refine Ev.ofL (m := 0) (L := [some (.ref 50), some (.int (nI s)), some (.int ax), some (.int mx)]) rfl (Nat.le_of_ble_eq_true rfl) rfl rfl ?_
  refine w_iload_n dX7_isPart_0 rfl ?_
  refine w_if_lt (t := 34) dX7_isPart_1 (by decide) (fun hz1 => ?_) (fun hz1 => ?_)
  · skip
    refine w_iconst dX7_isPart_34 ic_0 ?_
    refine w_zret dX7_isPart_35 rfl rfl ?_
    exact ⟨by simp only [p_part, eq_true hz1, if_true, if_false], rfl⟩
  · skip
    refine w_iload_n dX7_isPart_4 rfl ?_
    refine w_if_lt (t := 34) dX7_isPart_5 (by decide) (fun hz2 => ?_) (fun hz2 => ?_)
    · skip
      refine w_iconst dX7_isPart_34 ic_0 ?_
      refine w_zret dX7_isPart_35 rfl rfl ?_
      exact ⟨by simp only [p_part, eq_false hz1, eq_true hz2, if_true, if_false], rfl⟩
    · skip
      refine w_iload_n dX7_isPart_8 rfl ?_
      refine w_aload_n dX7_isPart_9 rfl ?_
      refine w_getR (t := 57) dX7_isPart_10 fl_X7_28 rfl (by decide) (by decide) rfl ?_
      refine w_iload_n dX7_isPart_13 rfl ?_
      refine w_iald (j := s) dX7_isPart_14 rfl (by decide) rfl (show s < 4 by omega) ?_
      refine w_icmp_gt (t := 34) dX7_isPart_15 (by decide) (fun hz3 => ?_) (fun hz3 => ?_)
      · skip
        refine w_iconst dX7_isPart_34 ic_0 ?_
        refine w_zret dX7_isPart_35 rfl rfl ?_
        exact ⟨by simp only [p_part, eq_false hz1, eq_false hz2, eq_true hz3, if_true, if_false], rfl⟩
      · skip
        refine w_iload_n dX7_isPart_18 rfl ?_
        refine w_aload_n dX7_isPart_19 rfl ?_
        refine w_getR (t := 57) dX7_isPart_20 fl_X7_28 rfl (by decide) (by decide) rfl ?_
        refine w_iload_n dX7_isPart_23 rfl ?_
        refine w_iald (j := s) dX7_isPart_24 rfl (by decide) rfl (show s < 4 by omega) ?_
        refine w_iload_n dX7_isPart_25 rfl ?_
        refine w_isub dX7_isPart_26 ?_
        refine w_icmp_gt (t := 34) dX7_isPart_27 (by decide) (fun hz4 => ?_) (fun hz4 => ?_)
        · skip
          refine w_iconst dX7_isPart_34 ic_0 ?_
          refine w_zret dX7_isPart_35 rfl rfl ?_
          exact ⟨by simp only [p_part, eq_false hz1, eq_false hz2, eq_false hz3, eq_true hz4, if_true, if_false], rfl⟩
        · skip
          refine w_iconst dX7_isPart_30 ic_1 ?_
          refine w_goto (t := 35) dX7_isPart_31 (by decide) ?_
          refine w_zret dX7_isPart_35 rfl rfl ?_
          exact ⟨by simp only [p_part, eq_false hz1, eq_false hz2, eq_false hz3, eq_false hz4, if_true, if_false], rfl⟩
set_option maxRecDepth 100000 in
set_option maxHeartbeats 800000 in
theorem e7_badSheet (G : GT) (σ : Sg) (sx : Int32) : Evi G mX7_badSheet [.ref 50, .int sx] σ (p_bad (obs σ) sx) (σ) := by
  refine Ev.ofL (m := 0) (L := [some (.ref 50), some (.int sx)]) rfl (Nat.le_of_ble_eq_true rfl) rfl rfl ?_
  refine w_iload_n dX7_badSheet_0 rfl ?_
  refine w_callSi dX7_badSheet_1 ml_X7_273 ms_X7_isSheet rfl (e7_isSheet G _ _) rfl rfl (Nat.le_of_ble_eq_true rfl) ?_
  refine w_if_ne (t := 12) dX7_badSheet_4 (by decide) (fun hz1 => ?_) (fun hz1 => ?_)
  · skip
    obtain ⟨s, hs3, rfl⟩ := in_0 (m := 3) hz1 rfl (by decide)
    have hcs : (nI s).toNatClampNeg = s := nI_clamp (by omega)
    · skip
      refine w_aload_n dX7_badSheet_12 rfl ?_
      refine w_getR (t := 56) dX7_badSheet_13 fl_X7_25 rfl (by decide) (by decide) rfl ?_
      refine w_iload_n dX7_badSheet_16 rfl ?_
      refine w_iald (j := s) dX7_badSheet_17 rfl (by decide) rfl (show s < 4 by omega) ?_
      refine w_if_ne (t := 27) dX7_badSheet_18 (by decide) (fun hz2 => ?_) (fun hz2 => ?_)
      · skip
        refine w_iconst dX7_badSheet_27 ic_0 ?_
        refine w_iret dX7_badSheet_28 rfl ?_
        exact ⟨by simp only [p_bad, mBit_o, eq_false hz1, eq_false hz2, hcs, if_true, if_false], rfl⟩
      · skip
        refine w_ldcw dX7_badSheet_21 kc_X7_277 ?_
        refine w_goto (t := 28) dX7_badSheet_24 (by decide) ?_
        refine w_iret dX7_badSheet_28 rfl ?_
        exact ⟨by simp only [p_bad, mBit_o, eq_false hz1, eq_true hz2, hcs, if_true, if_false], rfl⟩
  · skip
    refine w_ldc dX7_badSheet_7 kc_X7_44 ?_
    refine w_goto (t := 28) dX7_badSheet_9 (by decide) ?_
    refine w_iret dX7_badSheet_28 rfl ?_
    exact ⟨by simp only [p_bad, mBit_o, eq_true hz1, if_true, if_false], rfl⟩
set_option maxRecDepth 100000 in
set_option maxHeartbeats 800000 in
theorem m_write (G : GT) (σ : Sg) (sx ix : Int32) (vv : Int64) (zs : Nat → Nat) (hzs : ∀ s, s < 4 → σ.1 57 s = nI (zs s) ∧ zs s ≤ 40) : Ev G mX7_write [.ref 50, .int sx, .int ix, .long vv] σ (PQl σ (M_write (obs σ) sx ix vv)) := by
  refine Ev.ofL (m := 2) (L := [some (.ref 50), some (.int sx), some (.int ix), some (.long vv), none, none, none]) rfl (Nat.le_of_ble_eq_true rfl) rfl rfl ?_
  refine w_iload_n dX7_write_0 rfl ?_
  refine w_callSi dX7_write_1 ml_X7_273 ms_X7_isSheet rfl (e7_isSheet G _ _) rfl rfl (Nat.le_of_ble_eq_true rfl) ?_
  refine w_if_ne (t := 15) dX7_write_4 (by decide) (fun hz1 => ?_) (fun hz1 => ?_)
  · skip
    obtain ⟨s, hs3, rfl⟩ := in_0 (m := 3) hz1 rfl (by decide)
    have hcs : (nI s).toNatClampNeg = s := nI_clamp (by omega)
    · skip
      refine w_aload_n dX7_write_15 rfl ?_
      refine w_getR (t := 56) dX7_write_16 fl_X7_25 rfl (by decide) (by decide) rfl ?_
      refine w_iload_n dX7_write_19 rfl ?_
      refine w_iald (j := s) dX7_write_20 rfl (by decide) rfl (show s < 4 by omega) ?_
      refine w_if_ne (t := 33) dX7_write_21 (by decide) (fun hz2 => ?_) (fun hz2 => ?_)
      · skip
        refine w_iload_n dX7_write_33 rfl ?_
        refine w_iconst dX7_write_34 ic_0 ?_
        refine w_aload_n dX7_write_35 rfl ?_
        refine w_getR (t := 57) dX7_write_36 fl_X7_28 rfl (by decide) (by decide) rfl ?_
        refine w_iload_n dX7_write_39 rfl ?_
        refine w_iald (j := s) dX7_write_40 rfl (by decide) rfl (show s < 4 by omega) ?_
        refine w_iconst dX7_write_41 ic_1 ?_
        refine w_isub dX7_write_42 ?_
        refine w_callSi dX7_write_43 ml_X7_45 ms_X7_in rfl (e7_in G _ _ _ _) rfl rfl (Nat.le_of_ble_eq_true rfl) ?_
        refine w_if_ne (t := 57) dX7_write_46 (by decide) (fun hz3 => ?_) (fun hz3 => ?_)
        · skip
          obtain ⟨i, hi, rfl⟩ := in_lt hz3 (hzs s (by omega)).1 (by have := (hzs s (by omega)).2; omega)
          have hz40 := (hzs s (by omega)).2
          have hci : (nI i).toNatClampNeg = i := nI_clamp (by omega)
          · skip
            refine w_aload_n dX7_write_57 rfl ?_
            refine w_getR (t := 58) dX7_write_58 fl_X7_31 rfl (by decide) (by decide) rfl ?_
            refine w_bipush dX7_write_61 bp_40 ?_
            refine w_iload_n dX7_write_63 rfl ?_
            refine w_imulN (a := 40) (b := s) dX7_write_64 ?_
            refine w_iload_n dX7_write_65 rfl ?_
            refine w_iaddN (a := 40 * s) (b := i) dX7_write_66 ?_
            refine w_lald (j := 40 * s + i) dX7_write_67 rfl rfl (show 40 * s + i < 160 by omega) ?_
            refine w_lstore dX7_write_68 (by decide) rfl rfl ?_
            dsimp only [List.set]
            refine w_aload_n dX7_write_70 rfl ?_
            refine w_getR (t := 58) dX7_write_71 fl_X7_31 rfl (by decide) (by decide) rfl ?_
            refine w_bipush dX7_write_74 bp_40 ?_
            refine w_iload_n dX7_write_76 rfl ?_
            refine w_imulN (a := 40) (b := s) dX7_write_77 ?_
            refine w_iload_n dX7_write_78 rfl ?_
            refine w_iaddN (a := 40 * s) (b := i) dX7_write_79 ?_
            refine w_aload_n dX7_write_80 rfl ?_
            refine w_getR (t := 56) dX7_write_81 fl_X7_25 rfl (by decide) (by decide) rfl ?_
            refine w_iload_n dX7_write_84 rfl ?_
            refine w_iald (j := s) dX7_write_85 rfl (by decide) rfl (show s < 4 by omega) ?_
            refine w_lload_n dX7_write_86 rfl ?_
            refine w_callSl dX7_write_87 ml_X7_278 ms_X7_narrow rfl (e7_narrow G _ _ _) rfl rfl (Nat.le_of_ble_eq_true rfl) ?_
            refine w_last (j := 40 * s + i) dX7_write_90 rfl rfl (show 40 * s + i < 160 by omega) ?_
            refine w_lload dX7_write_91 rfl ?_
            refine w_lret dX7_write_93 rfl ?_
            have hA : M_write (obs σ) (nI s) (nI i) vv = (σ.2.1 58 (40 * s + i), sShe (obs σ) (vp_updL (σ.2.1 58) (40 * s + i) (p_nar (σ.1 56 s) vv))) := by simp only [M_write, mBit_o, mSiz_o, mShe_o, eq_false hz1, eq_false hz2, eq_false hz3, hcs, hci, if_true, if_false]
            rw [hA]
            refine ⟨rfl, ?_, Co.wl (by decide)⟩
            unfold obs sShe wL vp_updL
            simp
        · skip
          refine w_aload_n dX7_write_49 rfl ?_
          refine w_ldc dX7_write_50 kc_X7_44 ?_
          refine w_callVi dX7_write_52 ml_X7_53 mv_X7_finds rfl rfl (by decide) rfl (e7_finds G _ _ 0 (by decide) (by decide)) rfl rfl (Nat.le_of_ble_eq_true rfl) ?_
          refine w_i2l dX7_write_55 ?_
          refine w_lret dX7_write_56 rfl ?_
          exact PQl.fnd (by simp only [M_write, mBit_o, mSiz_o, mShe_o, eq_false hz1, eq_false hz2, eq_true hz3, hcs, if_true, if_false])
      · skip
        refine w_aload_n dX7_write_24 rfl ?_
        refine w_ldcw dX7_write_25 kc_X7_277 ?_
        refine w_callVi dX7_write_28 ml_X7_53 mv_X7_finds rfl rfl (by decide) rfl (e7_finds G _ _ 5 (by decide) (by decide)) rfl rfl (Nat.le_of_ble_eq_true rfl) ?_
        refine w_i2l dX7_write_31 ?_
        refine w_lret dX7_write_32 rfl ?_
        exact PQl.fnd (by simp only [M_write, mBit_o, mSiz_o, mShe_o, eq_false hz1, eq_true hz2, hcs, if_true, if_false])
  · skip
    refine w_aload_n dX7_write_7 rfl ?_
    refine w_ldc dX7_write_8 kc_X7_44 ?_
    refine w_callVi dX7_write_10 ml_X7_53 mv_X7_finds rfl rfl (by decide) rfl (e7_finds G _ _ 0 (by decide) (by decide)) rfl rfl (Nat.le_of_ble_eq_true rfl) ?_
    refine w_i2l dX7_write_13 ?_
    refine w_lret dX7_write_14 rfl ?_
    exact PQl.fnd (by simp only [M_write, mBit_o, mSiz_o, mShe_o, eq_true hz1, if_true, if_false])
theorem obs_sh {σ τ : Sg} {s : Nat} {b z : Int32} {g : Nat → Int64} (h : Sq (wI (wI σ 56 s b) 57 s z) τ) (h1 : τ.1 51 = σ.1 51) (h2 : τ.2.1 58 = g) : obs τ = sShe (sSiz (sBit (obs σ) (upd (mBit (obs σ)) s b)) (upd (mSiz (obs σ)) s z)) g := by
  rw [obs_sq h, h1, h2]
  unfold obs sShe sSiz sBit sRow mBit mSiz
  simp only [Prod.mk.injEq]
  refine ⟨trivial, funext fun j => by rw [wI_c (by decide), wI_c (by decide)], funext fun j => by rw [wI_c (by decide), wI_c (by decide)], by rw [wI_c (by decide), wI_c (by decide)], by rw [wI_c (by decide), wI_c (by decide)], funext fun j => by rw [wI_c (by decide), wI_c (by decide)], funext fun j => ?_, funext fun j => ?_, trivial⟩
  · rw [wI_c (by decide)]
    show (if 56 = 56 ∧ j = s then _ else _) = _
    unfold upd
    by_cases hj : j = s <;> simp [hj]
  · show (if 57 = 57 ∧ j = s then _ else (wI σ 56 s b).1 57 j) = _
    rw [wI_c (by decide)]
    unfold upd
    by_cases hj : j = s <;> simp [hj]
set_option maxRecDepth 100000 in
set_option maxHeartbeats 800000 in
theorem m_sheet (G : GT) (σ : Sg) (sx bx qx : Int32) : Ev G mX7_sheet [.ref 50, .int sx, .int bx, .int qx] σ (PQ σ (M_sheet (obs σ) sx bx qx)) := by
  refine Ev.ofL (m := 1) (L := [some (.ref 50), some (.int sx), some (.int bx), some (.int qx), none]) rfl (Nat.le_of_ble_eq_true rfl) rfl rfl ?_
  refine w_iload_n dX7_sheet_0 rfl ?_
  refine w_callSi dX7_sheet_1 ml_X7_273 ms_X7_isSheet rfl (e7_isSheet G _ _) rfl rfl (Nat.le_of_ble_eq_true rfl) ?_
  refine w_if_eq (t := 29) dX7_sheet_4 (by decide) (fun hz1 => ?_) (fun hz1 => ?_)
  · skip
    refine w_aload_n dX7_sheet_29 rfl ?_
    refine w_ldc dX7_sheet_30 kc_X7_44 ?_
    refine w_callVi dX7_sheet_32 ml_X7_53 mv_X7_finds rfl rfl (by decide) rfl (e7_finds G _ _ 0 (by decide) (by decide)) rfl rfl (Nat.le_of_ble_eq_true rfl) ?_
    refine w_iret dX7_sheet_35 rfl ?_
    exact PQ.fnd (by simp only [M_sheet, eq_true hz1, not_true_eq_false, not_false_eq_true, true_and, and_true, false_and, and_false, if_true, if_false])
  · skip
    refine w_iload_n dX7_sheet_7 rfl ?_
    refine w_if_eq (t := 36) dX7_sheet_8 (by decide) (fun hz2 => ?_) (fun hz2 => ?_)
    · skip
      refine w_iload_n dX7_sheet_36 rfl ?_
      refine w2_if_ge (t := 48) dX7_sheet_37 (by decide) (fun hz3 => ?_) (fun hz3 => ?_)
      · skip
        refine w_iload_n dX7_sheet_48 rfl ?_
        refine w_bipush dX7_sheet_49 bp_40 ?_
        refine w2_icmp_le (t := 61) dX7_sheet_51 (by decide) (fun hz4 => ?_) (fun hz4 => ?_)
        · skip
          obtain ⟨s, hs3, rfl⟩ := in_0 (m := 3) hz1 rfl (by decide)
          have hcs : (nI s).toNatClampNeg = s := nI_clamp (by omega)
          · skip
            refine w_aload_n dX7_sheet_61 rfl ?_
            refine w_getR (t := 56) dX7_sheet_62 fl_X7_25 rfl (by decide) (by decide) rfl ?_
            refine w_iload_n dX7_sheet_65 rfl ?_
            refine w_iload_n dX7_sheet_66 rfl ?_
            refine w_iast (j := s) dX7_sheet_67 rfl (by decide) rfl (show s < 4 by omega) ?_
            refine w_aload_n dX7_sheet_68 rfl ?_
            refine w_getR (t := 57) dX7_sheet_69 fl_X7_28 rfl (by decide) (by decide) rfl ?_
            refine w_iload_n dX7_sheet_72 rfl ?_
            refine w_iload_n dX7_sheet_73 rfl ?_
            refine w_if_ne (t := 81) dX7_sheet_74 (by decide) (fun hz5 => ?_) (fun hz5 => ?_)
            · skip
              refine w_iload_n dX7_sheet_81 rfl ?_
              refine w_eqi (y := (if bx = 0 then 0 else qx)) (by rw [if_neg hz5]) ?_
              · skip
                refine w_iast (j := s) dX7_sheet_82 rfl (by decide) rfl (show s < 4 by omega) ?_
                refine w_iconst dX7_sheet_83 ic_0 ?_
                refine w_istore dX7_sheet_84 (by decide) rfl rfl ?_
                dsimp only [List.set]
                have lp : ∀ (m : Nat) (i : Nat) (τ : Sg), 40 - i < m → i ≤ 40 → Sq (wI (wI σ 56 s bx) 57 s (if bx = 0 then 0 else qx)) τ → τ.1 51 = σ.1 51 → (τ.2.1 58 = fun j => if 40 * s ≤ j ∧ j < 40 * s + i then 0 else σ.2.1 58 j) → WP G mX7_sheet 86 [some (.ref 50), some (.int (nI s)), some (.int bx), some (.int qx), some (.int (nI i))] [] (τ) (PQ σ (M_sheet (obs σ) (nI s) bx qx)) := by
                  intro m
                  induction m with
                  | zero => intro i τ hm; exact absurd hm (Nat.not_lt_zero _)
                  | succ m ih =>
                    intro i τ hm hi hsq h51 h58
                    refine w_iload dX7_sheet_86 rfl ?_
                    refine w_bipush dX7_sheet_88 bp_40 ?_
                    refine w2_icmp_ge (t := 112) dX7_sheet_90 (by decide) (fun hz6 => ?_) (fun hz6 => ?_)
                    · skip
                      have hge := nlt_nI (n := 40) (by omega) (by decide) hz6
                      have hen : i = 40 := by omega
                      subst hen
                      refine w_aload_n dX7_sheet_112 rfl ?_
                      refine w_getR (t := 57) dX7_sheet_113 fl_X7_28 rfl (by decide) (by decide) rfl ?_
                      refine w_iload_n dX7_sheet_116 rfl ?_
                      refine w_iald (j := s) dX7_sheet_117 rfl (by decide) rfl (show s < 4 by omega) ?_
                      refine w_iret dX7_sheet_118 rfl ?_
                      have ez : τ.1 57 s = (if bx = 0 then 0 else qx) := (hsq.1 57 s (by decide) (by decide) (by decide) (by decide) (fun e => by cases e)).trans (wI_s _ _ _ _)
                      have hA : M_sheet (obs σ) (nI s) bx qx = ((if bx = 0 then 0 else qx), sShe (sSiz (sBit (obs σ) (upd (mBit (obs σ)) s bx)) (upd (mSiz (obs σ)) s (if bx = 0 then 0 else qx))) (fun j => if 40 * s ≤ j ∧ j < 40 * s + 40 then 0 else mShe (obs σ) j)) := by simp only [M_sheet, hcs, eq_false hz1, eq_true hz2, eq_false hz3, eq_false hz4, not_true_eq_false, not_false_eq_true, true_and, and_true, false_and, and_false, if_true, if_false]
                      rw [hA]
                      refine ⟨by rw [ez], ?_, (Co.w (by decide)).trans ((Co.w (by decide)).trans (Co.sq hsq))⟩
                      rw [obs_sh hsq h51 h58, mShe_o]
                    · skip
                      have hlt := lt_nI (n := 40) (by omega) (by decide) hz6
                      refine w_aload_n dX7_sheet_93 rfl ?_
                      refine w_getR (t := 58) dX7_sheet_94 fl_X7_31 rfl (by decide) (by decide) rfl ?_
                      refine w_bipush dX7_sheet_97 bp_40 ?_
                      refine w_iload_n dX7_sheet_99 rfl ?_
                      refine w_imulN (a := 40) (b := s) dX7_sheet_100 ?_
                      refine w_iload dX7_sheet_101 rfl ?_
                      refine w_iaddN (a := 40 * s) (b := i) dX7_sheet_103 ?_
                      refine w_lconst dX7_sheet_104 lc_0 ?_
                      refine w_last (j := 40 * s + i) dX7_sheet_105 rfl rfl (show 40 * s + i < 160 by omega) ?_
                      refine w_iincN (a := i) (b := 1) dX7_sheet_106 rfl ic_1 (by decide) rfl rfl ?_
                      dsimp only [List.set]
                      refine w_goto (t := 86) dX7_sheet_109 (by decide) ?_
                      refine ih (i + 1) _ (by omega) (by omega) (hsq.trans (Sq.wl (Or.inl rfl))) h51 ?_
                      funext j
                      show (if 58 = 58 ∧ j = 40 * s + i then _ else τ.2.1 58 j) = _
                      rw [congrFun h58 j]
                      by_cases hj : j = 40 * s + i
                      · rw [if_pos ⟨rfl, hj⟩, if_pos (by omega)]
                      · rw [if_neg (fun z => hj z.2)]
                        by_cases hj2 : 40 * s ≤ j ∧ j < 40 * s + i
                        · rw [if_pos hj2, if_pos (by omega)]
                        · rw [if_neg hj2, if_neg (by omega)]
                refine lp 41 0 _ (by omega) (by omega) Sq.rfl (funext fun j => by rw [wI_c (by decide), wI_c (by decide)]) ?_
                funext j
                show σ.2.1 58 j = _
                rw [if_neg (by omega)]
            · skip
              refine w_iconst dX7_sheet_77 ic_0 ?_
              refine w_goto (t := 82) dX7_sheet_78 (by decide) ?_
              refine w_eqi (y := (if bx = 0 then 0 else qx)) (by rw [if_pos hz5]) ?_
              · skip
                refine w_iast (j := s) dX7_sheet_82 rfl (by decide) rfl (show s < 4 by omega) ?_
                refine w_iconst dX7_sheet_83 ic_0 ?_
                refine w_istore dX7_sheet_84 (by decide) rfl rfl ?_
                dsimp only [List.set]
                have lp : ∀ (m : Nat) (i : Nat) (τ : Sg), 40 - i < m → i ≤ 40 → Sq (wI (wI σ 56 s bx) 57 s (if bx = 0 then 0 else qx)) τ → τ.1 51 = σ.1 51 → (τ.2.1 58 = fun j => if 40 * s ≤ j ∧ j < 40 * s + i then 0 else σ.2.1 58 j) → WP G mX7_sheet 86 [some (.ref 50), some (.int (nI s)), some (.int bx), some (.int qx), some (.int (nI i))] [] (τ) (PQ σ (M_sheet (obs σ) (nI s) bx qx)) := by
                  intro m
                  induction m with
                  | zero => intro i τ hm; exact absurd hm (Nat.not_lt_zero _)
                  | succ m ih =>
                    intro i τ hm hi hsq h51 h58
                    refine w_iload dX7_sheet_86 rfl ?_
                    refine w_bipush dX7_sheet_88 bp_40 ?_
                    refine w2_icmp_ge (t := 112) dX7_sheet_90 (by decide) (fun hz7 => ?_) (fun hz7 => ?_)
                    · skip
                      have hge := nlt_nI (n := 40) (by omega) (by decide) hz7
                      have hen : i = 40 := by omega
                      subst hen
                      refine w_aload_n dX7_sheet_112 rfl ?_
                      refine w_getR (t := 57) dX7_sheet_113 fl_X7_28 rfl (by decide) (by decide) rfl ?_
                      refine w_iload_n dX7_sheet_116 rfl ?_
                      refine w_iald (j := s) dX7_sheet_117 rfl (by decide) rfl (show s < 4 by omega) ?_
                      refine w_iret dX7_sheet_118 rfl ?_
                      have ez : τ.1 57 s = (if bx = 0 then 0 else qx) := (hsq.1 57 s (by decide) (by decide) (by decide) (by decide) (fun e => by cases e)).trans (wI_s _ _ _ _)
                      have hA : M_sheet (obs σ) (nI s) bx qx = ((if bx = 0 then 0 else qx), sShe (sSiz (sBit (obs σ) (upd (mBit (obs σ)) s bx)) (upd (mSiz (obs σ)) s (if bx = 0 then 0 else qx))) (fun j => if 40 * s ≤ j ∧ j < 40 * s + 40 then 0 else mShe (obs σ) j)) := by simp only [M_sheet, hcs, eq_false hz1, eq_true hz2, eq_false hz3, eq_false hz4, not_true_eq_false, not_false_eq_true, true_and, and_true, false_and, and_false, if_true, if_false]
                      rw [hA]
                      refine ⟨by rw [ez], ?_, (Co.w (by decide)).trans ((Co.w (by decide)).trans (Co.sq hsq))⟩
                      rw [obs_sh hsq h51 h58, mShe_o]
                    · skip
                      have hlt := lt_nI (n := 40) (by omega) (by decide) hz7
                      refine w_aload_n dX7_sheet_93 rfl ?_
                      refine w_getR (t := 58) dX7_sheet_94 fl_X7_31 rfl (by decide) (by decide) rfl ?_
                      refine w_bipush dX7_sheet_97 bp_40 ?_
                      refine w_iload_n dX7_sheet_99 rfl ?_
                      refine w_imulN (a := 40) (b := s) dX7_sheet_100 ?_
                      refine w_iload dX7_sheet_101 rfl ?_
                      refine w_iaddN (a := 40 * s) (b := i) dX7_sheet_103 ?_
                      refine w_lconst dX7_sheet_104 lc_0 ?_
                      refine w_last (j := 40 * s + i) dX7_sheet_105 rfl rfl (show 40 * s + i < 160 by omega) ?_
                      refine w_iincN (a := i) (b := 1) dX7_sheet_106 rfl ic_1 (by decide) rfl rfl ?_
                      dsimp only [List.set]
                      refine w_goto (t := 86) dX7_sheet_109 (by decide) ?_
                      refine ih (i + 1) _ (by omega) (by omega) (hsq.trans (Sq.wl (Or.inl rfl))) h51 ?_
                      funext j
                      show (if 58 = 58 ∧ j = 40 * s + i then _ else τ.2.1 58 j) = _
                      rw [congrFun h58 j]
                      by_cases hj : j = 40 * s + i
                      · rw [if_pos ⟨rfl, hj⟩, if_pos (by omega)]
                      · rw [if_neg (fun z => hj z.2)]
                        by_cases hj2 : 40 * s ≤ j ∧ j < 40 * s + i
                        · rw [if_pos hj2, if_pos (by omega)]
                        · rw [if_neg hj2, if_neg (by omega)]
                refine lp 41 0 _ (by omega) (by omega) Sq.rfl (funext fun j => by rw [wI_c (by decide), wI_c (by decide)]) ?_
                funext j
                show σ.2.1 58 j = _
                rw [if_neg (by omega)]
        · skip
          refine w_aload_n dX7_sheet_54 rfl ?_
          refine w_ldc dX7_sheet_55 kc_X7_44 ?_
          refine w_callVi dX7_sheet_57 ml_X7_53 mv_X7_finds rfl rfl (by decide) rfl (e7_finds G _ _ 0 (by decide) (by decide)) rfl rfl (Nat.le_of_ble_eq_true rfl) ?_
          refine w_iret dX7_sheet_60 rfl ?_
          exact PQ.fnd (by simp only [M_sheet, eq_false hz1, eq_true hz2, eq_false hz3, eq_true hz4, not_true_eq_false, not_false_eq_true, true_and, and_true, false_and, and_false, if_true, if_false])
      · skip
        refine w_aload_n dX7_sheet_40 rfl ?_
        refine w_ldcw dX7_sheet_41 kc_X7_276 ?_
        refine w_callVi dX7_sheet_44 ml_X7_53 mv_X7_finds rfl rfl (by decide) rfl (e7_finds G _ _ 6 (by decide) (by decide)) rfl rfl (Nat.le_of_ble_eq_true rfl) ?_
        refine w_iret dX7_sheet_47 rfl ?_
        exact PQ.fnd (by simp only [M_sheet, eq_false hz1, eq_true hz2, eq_true hz3, not_true_eq_false, not_false_eq_true, true_and, and_true, false_and, and_false, if_true, if_false])
    · skip
      refine w_iload_n dX7_sheet_11 rfl ?_
      refine w_bipush dX7_sheet_12 bp_8 ?_
      refine w_icmp_eq (t := 36) dX7_sheet_14 (by decide) (fun hz8 => ?_) (fun hz8 => ?_)
      · skip
        refine w_iload_n dX7_sheet_36 rfl ?_
        refine w2_if_ge (t := 48) dX7_sheet_37 (by decide) (fun hz9 => ?_) (fun hz9 => ?_)
        · skip
          refine w_iload_n dX7_sheet_48 rfl ?_
          refine w_bipush dX7_sheet_49 bp_40 ?_
          refine w2_icmp_le (t := 61) dX7_sheet_51 (by decide) (fun hz10 => ?_) (fun hz10 => ?_)
          · skip
            obtain ⟨s, hs3, rfl⟩ := in_0 (m := 3) hz1 rfl (by decide)
            have hcs : (nI s).toNatClampNeg = s := nI_clamp (by omega)
            · skip
              refine w_aload_n dX7_sheet_61 rfl ?_
              refine w_getR (t := 56) dX7_sheet_62 fl_X7_25 rfl (by decide) (by decide) rfl ?_
              refine w_iload_n dX7_sheet_65 rfl ?_
              refine w_iload_n dX7_sheet_66 rfl ?_
              refine w_iast (j := s) dX7_sheet_67 rfl (by decide) rfl (show s < 4 by omega) ?_
              refine w_aload_n dX7_sheet_68 rfl ?_
              refine w_getR (t := 57) dX7_sheet_69 fl_X7_28 rfl (by decide) (by decide) rfl ?_
              refine w_iload_n dX7_sheet_72 rfl ?_
              refine w_iload_n dX7_sheet_73 rfl ?_
              refine w_if_ne (t := 81) dX7_sheet_74 (by decide) (fun hz11 => ?_) (fun hz11 => ?_)
              · skip
                refine w_iload_n dX7_sheet_81 rfl ?_
                refine w_eqi (y := (if bx = 0 then 0 else qx)) (by rw [if_neg hz11]) ?_
                · skip
                  refine w_iast (j := s) dX7_sheet_82 rfl (by decide) rfl (show s < 4 by omega) ?_
                  refine w_iconst dX7_sheet_83 ic_0 ?_
                  refine w_istore dX7_sheet_84 (by decide) rfl rfl ?_
                  dsimp only [List.set]
                  have lp : ∀ (m : Nat) (i : Nat) (τ : Sg), 40 - i < m → i ≤ 40 → Sq (wI (wI σ 56 s bx) 57 s (if bx = 0 then 0 else qx)) τ → τ.1 51 = σ.1 51 → (τ.2.1 58 = fun j => if 40 * s ≤ j ∧ j < 40 * s + i then 0 else σ.2.1 58 j) → WP G mX7_sheet 86 [some (.ref 50), some (.int (nI s)), some (.int bx), some (.int qx), some (.int (nI i))] [] (τ) (PQ σ (M_sheet (obs σ) (nI s) bx qx)) := by
                    intro m
                    induction m with
                    | zero => intro i τ hm; exact absurd hm (Nat.not_lt_zero _)
                    | succ m ih =>
                      intro i τ hm hi hsq h51 h58
                      refine w_iload dX7_sheet_86 rfl ?_
                      refine w_bipush dX7_sheet_88 bp_40 ?_
                      refine w2_icmp_ge (t := 112) dX7_sheet_90 (by decide) (fun hz12 => ?_) (fun hz12 => ?_)
                      · skip
                        have hge := nlt_nI (n := 40) (by omega) (by decide) hz12
                        have hen : i = 40 := by omega
                        subst hen
                        refine w_aload_n dX7_sheet_112 rfl ?_
                        refine w_getR (t := 57) dX7_sheet_113 fl_X7_28 rfl (by decide) (by decide) rfl ?_
                        refine w_iload_n dX7_sheet_116 rfl ?_
                        refine w_iald (j := s) dX7_sheet_117 rfl (by decide) rfl (show s < 4 by omega) ?_
                        refine w_iret dX7_sheet_118 rfl ?_
                        have ez : τ.1 57 s = (if bx = 0 then 0 else qx) := (hsq.1 57 s (by decide) (by decide) (by decide) (by decide) (fun e => by cases e)).trans (wI_s _ _ _ _)
                        have hA : M_sheet (obs σ) (nI s) bx qx = ((if bx = 0 then 0 else qx), sShe (sSiz (sBit (obs σ) (upd (mBit (obs σ)) s bx)) (upd (mSiz (obs σ)) s (if bx = 0 then 0 else qx))) (fun j => if 40 * s ≤ j ∧ j < 40 * s + 40 then 0 else mShe (obs σ) j)) := by simp only [M_sheet, hcs, eq_false hz1, eq_false hz2, eq_true hz8, eq_false hz9, eq_false hz10, not_true_eq_false, not_false_eq_true, true_and, and_true, false_and, and_false, if_true, if_false]
                        rw [hA]
                        refine ⟨by rw [ez], ?_, (Co.w (by decide)).trans ((Co.w (by decide)).trans (Co.sq hsq))⟩
                        rw [obs_sh hsq h51 h58, mShe_o]
                      · skip
                        have hlt := lt_nI (n := 40) (by omega) (by decide) hz12
                        refine w_aload_n dX7_sheet_93 rfl ?_
                        refine w_getR (t := 58) dX7_sheet_94 fl_X7_31 rfl (by decide) (by decide) rfl ?_
                        refine w_bipush dX7_sheet_97 bp_40 ?_
                        refine w_iload_n dX7_sheet_99 rfl ?_
                        refine w_imulN (a := 40) (b := s) dX7_sheet_100 ?_
                        refine w_iload dX7_sheet_101 rfl ?_
                        refine w_iaddN (a := 40 * s) (b := i) dX7_sheet_103 ?_
                        refine w_lconst dX7_sheet_104 lc_0 ?_
                        refine w_last (j := 40 * s + i) dX7_sheet_105 rfl rfl (show 40 * s + i < 160 by omega) ?_
                        refine w_iincN (a := i) (b := 1) dX7_sheet_106 rfl ic_1 (by decide) rfl rfl ?_
                        dsimp only [List.set]
                        refine w_goto (t := 86) dX7_sheet_109 (by decide) ?_
                        refine ih (i + 1) _ (by omega) (by omega) (hsq.trans (Sq.wl (Or.inl rfl))) h51 ?_
                        funext j
                        show (if 58 = 58 ∧ j = 40 * s + i then _ else τ.2.1 58 j) = _
                        rw [congrFun h58 j]
                        by_cases hj : j = 40 * s + i
                        · rw [if_pos ⟨rfl, hj⟩, if_pos (by omega)]
                        · rw [if_neg (fun z => hj z.2)]
                          by_cases hj2 : 40 * s ≤ j ∧ j < 40 * s + i
                          · rw [if_pos hj2, if_pos (by omega)]
                          · rw [if_neg hj2, if_neg (by omega)]
                  refine lp 41 0 _ (by omega) (by omega) Sq.rfl (funext fun j => by rw [wI_c (by decide), wI_c (by decide)]) ?_
                  funext j
                  show σ.2.1 58 j = _
                  rw [if_neg (by omega)]
              · skip
                refine w_iconst dX7_sheet_77 ic_0 ?_
                refine w_goto (t := 82) dX7_sheet_78 (by decide) ?_
                refine w_eqi (y := (if bx = 0 then 0 else qx)) (by rw [if_pos hz11]) ?_
                · skip
                  refine w_iast (j := s) dX7_sheet_82 rfl (by decide) rfl (show s < 4 by omega) ?_
                  refine w_iconst dX7_sheet_83 ic_0 ?_
                  refine w_istore dX7_sheet_84 (by decide) rfl rfl ?_
                  dsimp only [List.set]
                  have lp : ∀ (m : Nat) (i : Nat) (τ : Sg), 40 - i < m → i ≤ 40 → Sq (wI (wI σ 56 s bx) 57 s (if bx = 0 then 0 else qx)) τ → τ.1 51 = σ.1 51 → (τ.2.1 58 = fun j => if 40 * s ≤ j ∧ j < 40 * s + i then 0 else σ.2.1 58 j) → WP G mX7_sheet 86 [some (.ref 50), some (.int (nI s)), some (.int bx), some (.int qx), some (.int (nI i))] [] (τ) (PQ σ (M_sheet (obs σ) (nI s) bx qx)) := by
                    intro m
                    induction m with
                    | zero => intro i τ hm; exact absurd hm (Nat.not_lt_zero _)
                    | succ m ih =>
                      intro i τ hm hi hsq h51 h58
                      refine w_iload dX7_sheet_86 rfl ?_
                      refine w_bipush dX7_sheet_88 bp_40 ?_
                      refine w2_icmp_ge (t := 112) dX7_sheet_90 (by decide) (fun hz13 => ?_) (fun hz13 => ?_)
                      · skip
                        have hge := nlt_nI (n := 40) (by omega) (by decide) hz13
                        have hen : i = 40 := by omega
                        subst hen
                        refine w_aload_n dX7_sheet_112 rfl ?_
                        refine w_getR (t := 57) dX7_sheet_113 fl_X7_28 rfl (by decide) (by decide) rfl ?_
                        refine w_iload_n dX7_sheet_116 rfl ?_
                        refine w_iald (j := s) dX7_sheet_117 rfl (by decide) rfl (show s < 4 by omega) ?_
                        refine w_iret dX7_sheet_118 rfl ?_
                        have ez : τ.1 57 s = (if bx = 0 then 0 else qx) := (hsq.1 57 s (by decide) (by decide) (by decide) (by decide) (fun e => by cases e)).trans (wI_s _ _ _ _)
                        have hA : M_sheet (obs σ) (nI s) bx qx = ((if bx = 0 then 0 else qx), sShe (sSiz (sBit (obs σ) (upd (mBit (obs σ)) s bx)) (upd (mSiz (obs σ)) s (if bx = 0 then 0 else qx))) (fun j => if 40 * s ≤ j ∧ j < 40 * s + 40 then 0 else mShe (obs σ) j)) := by simp only [M_sheet, hcs, eq_false hz1, eq_false hz2, eq_true hz8, eq_false hz9, eq_false hz10, not_true_eq_false, not_false_eq_true, true_and, and_true, false_and, and_false, if_true, if_false]
                        rw [hA]
                        refine ⟨by rw [ez], ?_, (Co.w (by decide)).trans ((Co.w (by decide)).trans (Co.sq hsq))⟩
                        rw [obs_sh hsq h51 h58, mShe_o]
                      · skip
                        have hlt := lt_nI (n := 40) (by omega) (by decide) hz13
                        refine w_aload_n dX7_sheet_93 rfl ?_
                        refine w_getR (t := 58) dX7_sheet_94 fl_X7_31 rfl (by decide) (by decide) rfl ?_
                        refine w_bipush dX7_sheet_97 bp_40 ?_
                        refine w_iload_n dX7_sheet_99 rfl ?_
                        refine w_imulN (a := 40) (b := s) dX7_sheet_100 ?_
                        refine w_iload dX7_sheet_101 rfl ?_
                        refine w_iaddN (a := 40 * s) (b := i) dX7_sheet_103 ?_
                        refine w_lconst dX7_sheet_104 lc_0 ?_
                        refine w_last (j := 40 * s + i) dX7_sheet_105 rfl rfl (show 40 * s + i < 160 by omega) ?_
                        refine w_iincN (a := i) (b := 1) dX7_sheet_106 rfl ic_1 (by decide) rfl rfl ?_
                        dsimp only [List.set]
                        refine w_goto (t := 86) dX7_sheet_109 (by decide) ?_
                        refine ih (i + 1) _ (by omega) (by omega) (hsq.trans (Sq.wl (Or.inl rfl))) h51 ?_
                        funext j
                        show (if 58 = 58 ∧ j = 40 * s + i then _ else τ.2.1 58 j) = _
                        rw [congrFun h58 j]
                        by_cases hj : j = 40 * s + i
                        · rw [if_pos ⟨rfl, hj⟩, if_pos (by omega)]
                        · rw [if_neg (fun z => hj z.2)]
                          by_cases hj2 : 40 * s ≤ j ∧ j < 40 * s + i
                          · rw [if_pos hj2, if_pos (by omega)]
                          · rw [if_neg hj2, if_neg (by omega)]
                  refine lp 41 0 _ (by omega) (by omega) Sq.rfl (funext fun j => by rw [wI_c (by decide), wI_c (by decide)]) ?_
                  funext j
                  show σ.2.1 58 j = _
                  rw [if_neg (by omega)]
          · skip
            refine w_aload_n dX7_sheet_54 rfl ?_
            refine w_ldc dX7_sheet_55 kc_X7_44 ?_
            refine w_callVi dX7_sheet_57 ml_X7_53 mv_X7_finds rfl rfl (by decide) rfl (e7_finds G _ _ 0 (by decide) (by decide)) rfl rfl (Nat.le_of_ble_eq_true rfl) ?_
            refine w_iret dX7_sheet_60 rfl ?_
            exact PQ.fnd (by simp only [M_sheet, eq_false hz1, eq_false hz2, eq_true hz8, eq_false hz9, eq_true hz10, not_true_eq_false, not_false_eq_true, true_and, and_true, false_and, and_false, if_true, if_false])
        · skip
          refine w_aload_n dX7_sheet_40 rfl ?_
          refine w_ldcw dX7_sheet_41 kc_X7_276 ?_
          refine w_callVi dX7_sheet_44 ml_X7_53 mv_X7_finds rfl rfl (by decide) rfl (e7_finds G _ _ 6 (by decide) (by decide)) rfl rfl (Nat.le_of_ble_eq_true rfl) ?_
          refine w_iret dX7_sheet_47 rfl ?_
          exact PQ.fnd (by simp only [M_sheet, eq_false hz1, eq_false hz2, eq_true hz8, eq_true hz9, not_true_eq_false, not_false_eq_true, true_and, and_true, false_and, and_false, if_true, if_false])
      · skip
        refine w_iload_n dX7_sheet_17 rfl ?_
        refine w_bipush dX7_sheet_18 bp_16 ?_
        refine w_icmp_eq (t := 36) dX7_sheet_20 (by decide) (fun hz14 => ?_) (fun hz14 => ?_)
        · skip
          refine w_iload_n dX7_sheet_36 rfl ?_
          refine w2_if_ge (t := 48) dX7_sheet_37 (by decide) (fun hz15 => ?_) (fun hz15 => ?_)
          · skip
            refine w_iload_n dX7_sheet_48 rfl ?_
            refine w_bipush dX7_sheet_49 bp_40 ?_
            refine w2_icmp_le (t := 61) dX7_sheet_51 (by decide) (fun hz16 => ?_) (fun hz16 => ?_)
            · skip
              obtain ⟨s, hs3, rfl⟩ := in_0 (m := 3) hz1 rfl (by decide)
              have hcs : (nI s).toNatClampNeg = s := nI_clamp (by omega)
              · skip
                refine w_aload_n dX7_sheet_61 rfl ?_
                refine w_getR (t := 56) dX7_sheet_62 fl_X7_25 rfl (by decide) (by decide) rfl ?_
                refine w_iload_n dX7_sheet_65 rfl ?_
                refine w_iload_n dX7_sheet_66 rfl ?_
                refine w_iast (j := s) dX7_sheet_67 rfl (by decide) rfl (show s < 4 by omega) ?_
                refine w_aload_n dX7_sheet_68 rfl ?_
                refine w_getR (t := 57) dX7_sheet_69 fl_X7_28 rfl (by decide) (by decide) rfl ?_
                refine w_iload_n dX7_sheet_72 rfl ?_
                refine w_iload_n dX7_sheet_73 rfl ?_
                refine w_if_ne (t := 81) dX7_sheet_74 (by decide) (fun hz17 => ?_) (fun hz17 => ?_)
                · skip
                  refine w_iload_n dX7_sheet_81 rfl ?_
                  refine w_eqi (y := (if bx = 0 then 0 else qx)) (by rw [if_neg hz17]) ?_
                  · skip
                    refine w_iast (j := s) dX7_sheet_82 rfl (by decide) rfl (show s < 4 by omega) ?_
                    refine w_iconst dX7_sheet_83 ic_0 ?_
                    refine w_istore dX7_sheet_84 (by decide) rfl rfl ?_
                    dsimp only [List.set]
                    have lp : ∀ (m : Nat) (i : Nat) (τ : Sg), 40 - i < m → i ≤ 40 → Sq (wI (wI σ 56 s bx) 57 s (if bx = 0 then 0 else qx)) τ → τ.1 51 = σ.1 51 → (τ.2.1 58 = fun j => if 40 * s ≤ j ∧ j < 40 * s + i then 0 else σ.2.1 58 j) → WP G mX7_sheet 86 [some (.ref 50), some (.int (nI s)), some (.int bx), some (.int qx), some (.int (nI i))] [] (τ) (PQ σ (M_sheet (obs σ) (nI s) bx qx)) := by
                      intro m
                      induction m with
                      | zero => intro i τ hm; exact absurd hm (Nat.not_lt_zero _)
                      | succ m ih =>
                        intro i τ hm hi hsq h51 h58
                        refine w_iload dX7_sheet_86 rfl ?_
                        refine w_bipush dX7_sheet_88 bp_40 ?_
                        refine w2_icmp_ge (t := 112) dX7_sheet_90 (by decide) (fun hz18 => ?_) (fun hz18 => ?_)
                        · skip
                          have hge := nlt_nI (n := 40) (by omega) (by decide) hz18
                          have hen : i = 40 := by omega
                          subst hen
                          refine w_aload_n dX7_sheet_112 rfl ?_
                          refine w_getR (t := 57) dX7_sheet_113 fl_X7_28 rfl (by decide) (by decide) rfl ?_
                          refine w_iload_n dX7_sheet_116 rfl ?_
                          refine w_iald (j := s) dX7_sheet_117 rfl (by decide) rfl (show s < 4 by omega) ?_
                          refine w_iret dX7_sheet_118 rfl ?_
                          have ez : τ.1 57 s = (if bx = 0 then 0 else qx) := (hsq.1 57 s (by decide) (by decide) (by decide) (by decide) (fun e => by cases e)).trans (wI_s _ _ _ _)
                          have hA : M_sheet (obs σ) (nI s) bx qx = ((if bx = 0 then 0 else qx), sShe (sSiz (sBit (obs σ) (upd (mBit (obs σ)) s bx)) (upd (mSiz (obs σ)) s (if bx = 0 then 0 else qx))) (fun j => if 40 * s ≤ j ∧ j < 40 * s + 40 then 0 else mShe (obs σ) j)) := by simp only [M_sheet, hcs, eq_false hz1, eq_false hz2, eq_false hz8, eq_true hz14, eq_false hz15, eq_false hz16, not_true_eq_false, not_false_eq_true, true_and, and_true, false_and, and_false, if_true, if_false]
                          rw [hA]
                          refine ⟨by rw [ez], ?_, (Co.w (by decide)).trans ((Co.w (by decide)).trans (Co.sq hsq))⟩
                          rw [obs_sh hsq h51 h58, mShe_o]
                        · skip
                          have hlt := lt_nI (n := 40) (by omega) (by decide) hz18
                          refine w_aload_n dX7_sheet_93 rfl ?_
                          refine w_getR (t := 58) dX7_sheet_94 fl_X7_31 rfl (by decide) (by decide) rfl ?_
                          refine w_bipush dX7_sheet_97 bp_40 ?_
                          refine w_iload_n dX7_sheet_99 rfl ?_
                          refine w_imulN (a := 40) (b := s) dX7_sheet_100 ?_
                          refine w_iload dX7_sheet_101 rfl ?_
                          refine w_iaddN (a := 40 * s) (b := i) dX7_sheet_103 ?_
                          refine w_lconst dX7_sheet_104 lc_0 ?_
                          refine w_last (j := 40 * s + i) dX7_sheet_105 rfl rfl (show 40 * s + i < 160 by omega) ?_
                          refine w_iincN (a := i) (b := 1) dX7_sheet_106 rfl ic_1 (by decide) rfl rfl ?_
                          dsimp only [List.set]
                          refine w_goto (t := 86) dX7_sheet_109 (by decide) ?_
                          refine ih (i + 1) _ (by omega) (by omega) (hsq.trans (Sq.wl (Or.inl rfl))) h51 ?_
                          funext j
                          show (if 58 = 58 ∧ j = 40 * s + i then _ else τ.2.1 58 j) = _
                          rw [congrFun h58 j]
                          by_cases hj : j = 40 * s + i
                          · rw [if_pos ⟨rfl, hj⟩, if_pos (by omega)]
                          · rw [if_neg (fun z => hj z.2)]
                            by_cases hj2 : 40 * s ≤ j ∧ j < 40 * s + i
                            · rw [if_pos hj2, if_pos (by omega)]
                            · rw [if_neg hj2, if_neg (by omega)]
                    refine lp 41 0 _ (by omega) (by omega) Sq.rfl (funext fun j => by rw [wI_c (by decide), wI_c (by decide)]) ?_
                    funext j
                    show σ.2.1 58 j = _
                    rw [if_neg (by omega)]
                · skip
                  refine w_iconst dX7_sheet_77 ic_0 ?_
                  refine w_goto (t := 82) dX7_sheet_78 (by decide) ?_
                  refine w_eqi (y := (if bx = 0 then 0 else qx)) (by rw [if_pos hz17]) ?_
                  · skip
                    refine w_iast (j := s) dX7_sheet_82 rfl (by decide) rfl (show s < 4 by omega) ?_
                    refine w_iconst dX7_sheet_83 ic_0 ?_
                    refine w_istore dX7_sheet_84 (by decide) rfl rfl ?_
                    dsimp only [List.set]
                    have lp : ∀ (m : Nat) (i : Nat) (τ : Sg), 40 - i < m → i ≤ 40 → Sq (wI (wI σ 56 s bx) 57 s (if bx = 0 then 0 else qx)) τ → τ.1 51 = σ.1 51 → (τ.2.1 58 = fun j => if 40 * s ≤ j ∧ j < 40 * s + i then 0 else σ.2.1 58 j) → WP G mX7_sheet 86 [some (.ref 50), some (.int (nI s)), some (.int bx), some (.int qx), some (.int (nI i))] [] (τ) (PQ σ (M_sheet (obs σ) (nI s) bx qx)) := by
                      intro m
                      induction m with
                      | zero => intro i τ hm; exact absurd hm (Nat.not_lt_zero _)
                      | succ m ih =>
                        intro i τ hm hi hsq h51 h58
                        refine w_iload dX7_sheet_86 rfl ?_
                        refine w_bipush dX7_sheet_88 bp_40 ?_
                        refine w2_icmp_ge (t := 112) dX7_sheet_90 (by decide) (fun hz19 => ?_) (fun hz19 => ?_)
                        · skip
                          have hge := nlt_nI (n := 40) (by omega) (by decide) hz19
                          have hen : i = 40 := by omega
                          subst hen
                          refine w_aload_n dX7_sheet_112 rfl ?_
                          refine w_getR (t := 57) dX7_sheet_113 fl_X7_28 rfl (by decide) (by decide) rfl ?_
                          refine w_iload_n dX7_sheet_116 rfl ?_
                          refine w_iald (j := s) dX7_sheet_117 rfl (by decide) rfl (show s < 4 by omega) ?_
                          refine w_iret dX7_sheet_118 rfl ?_
                          have ez : τ.1 57 s = (if bx = 0 then 0 else qx) := (hsq.1 57 s (by decide) (by decide) (by decide) (by decide) (fun e => by cases e)).trans (wI_s _ _ _ _)
                          have hA : M_sheet (obs σ) (nI s) bx qx = ((if bx = 0 then 0 else qx), sShe (sSiz (sBit (obs σ) (upd (mBit (obs σ)) s bx)) (upd (mSiz (obs σ)) s (if bx = 0 then 0 else qx))) (fun j => if 40 * s ≤ j ∧ j < 40 * s + 40 then 0 else mShe (obs σ) j)) := by simp only [M_sheet, hcs, eq_false hz1, eq_false hz2, eq_false hz8, eq_true hz14, eq_false hz15, eq_false hz16, not_true_eq_false, not_false_eq_true, true_and, and_true, false_and, and_false, if_true, if_false]
                          rw [hA]
                          refine ⟨by rw [ez], ?_, (Co.w (by decide)).trans ((Co.w (by decide)).trans (Co.sq hsq))⟩
                          rw [obs_sh hsq h51 h58, mShe_o]
                        · skip
                          have hlt := lt_nI (n := 40) (by omega) (by decide) hz19
                          refine w_aload_n dX7_sheet_93 rfl ?_
                          refine w_getR (t := 58) dX7_sheet_94 fl_X7_31 rfl (by decide) (by decide) rfl ?_
                          refine w_bipush dX7_sheet_97 bp_40 ?_
                          refine w_iload_n dX7_sheet_99 rfl ?_
                          refine w_imulN (a := 40) (b := s) dX7_sheet_100 ?_
                          refine w_iload dX7_sheet_101 rfl ?_
                          refine w_iaddN (a := 40 * s) (b := i) dX7_sheet_103 ?_
                          refine w_lconst dX7_sheet_104 lc_0 ?_
                          refine w_last (j := 40 * s + i) dX7_sheet_105 rfl rfl (show 40 * s + i < 160 by omega) ?_
                          refine w_iincN (a := i) (b := 1) dX7_sheet_106 rfl ic_1 (by decide) rfl rfl ?_
                          dsimp only [List.set]
                          refine w_goto (t := 86) dX7_sheet_109 (by decide) ?_
                          refine ih (i + 1) _ (by omega) (by omega) (hsq.trans (Sq.wl (Or.inl rfl))) h51 ?_
                          funext j
                          show (if 58 = 58 ∧ j = 40 * s + i then _ else τ.2.1 58 j) = _
                          rw [congrFun h58 j]
                          by_cases hj : j = 40 * s + i
                          · rw [if_pos ⟨rfl, hj⟩, if_pos (by omega)]
                          · rw [if_neg (fun z => hj z.2)]
                            by_cases hj2 : 40 * s ≤ j ∧ j < 40 * s + i
                            · rw [if_pos hj2, if_pos (by omega)]
                            · rw [if_neg hj2, if_neg (by omega)]
                    refine lp 41 0 _ (by omega) (by omega) Sq.rfl (funext fun j => by rw [wI_c (by decide), wI_c (by decide)]) ?_
                    funext j
                    show σ.2.1 58 j = _
                    rw [if_neg (by omega)]
            · skip
              refine w_aload_n dX7_sheet_54 rfl ?_
              refine w_ldc dX7_sheet_55 kc_X7_44 ?_
              refine w_callVi dX7_sheet_57 ml_X7_53 mv_X7_finds rfl rfl (by decide) rfl (e7_finds G _ _ 0 (by decide) (by decide)) rfl rfl (Nat.le_of_ble_eq_true rfl) ?_
              refine w_iret dX7_sheet_60 rfl ?_
              exact PQ.fnd (by simp only [M_sheet, eq_false hz1, eq_false hz2, eq_false hz8, eq_true hz14, eq_false hz15, eq_true hz16, not_true_eq_false, not_false_eq_true, true_and, and_true, false_and, and_false, if_true, if_false])
          · skip
            refine w_aload_n dX7_sheet_40 rfl ?_
            refine w_ldcw dX7_sheet_41 kc_X7_276 ?_
            refine w_callVi dX7_sheet_44 ml_X7_53 mv_X7_finds rfl rfl (by decide) rfl (e7_finds G _ _ 6 (by decide) (by decide)) rfl rfl (Nat.le_of_ble_eq_true rfl) ?_
            refine w_iret dX7_sheet_47 rfl ?_
            exact PQ.fnd (by simp only [M_sheet, eq_false hz1, eq_false hz2, eq_false hz8, eq_true hz14, eq_true hz15, not_true_eq_false, not_false_eq_true, true_and, and_true, false_and, and_false, if_true, if_false])
        · skip
          refine w_iload_n dX7_sheet_23 rfl ?_
          refine w_bipush dX7_sheet_24 bp_64 ?_
          refine w_icmp_eq (t := 36) dX7_sheet_26 (by decide) (fun hz20 => ?_) (fun hz20 => ?_)
          · skip
            refine w_iload_n dX7_sheet_36 rfl ?_
            refine w2_if_ge (t := 48) dX7_sheet_37 (by decide) (fun hz21 => ?_) (fun hz21 => ?_)
            · skip
              refine w_iload_n dX7_sheet_48 rfl ?_
              refine w_bipush dX7_sheet_49 bp_40 ?_
              refine w2_icmp_le (t := 61) dX7_sheet_51 (by decide) (fun hz22 => ?_) (fun hz22 => ?_)
              · skip
                obtain ⟨s, hs3, rfl⟩ := in_0 (m := 3) hz1 rfl (by decide)
                have hcs : (nI s).toNatClampNeg = s := nI_clamp (by omega)
                · skip
                  refine w_aload_n dX7_sheet_61 rfl ?_
                  refine w_getR (t := 56) dX7_sheet_62 fl_X7_25 rfl (by decide) (by decide) rfl ?_
                  refine w_iload_n dX7_sheet_65 rfl ?_
                  refine w_iload_n dX7_sheet_66 rfl ?_
                  refine w_iast (j := s) dX7_sheet_67 rfl (by decide) rfl (show s < 4 by omega) ?_
                  refine w_aload_n dX7_sheet_68 rfl ?_
                  refine w_getR (t := 57) dX7_sheet_69 fl_X7_28 rfl (by decide) (by decide) rfl ?_
                  refine w_iload_n dX7_sheet_72 rfl ?_
                  refine w_iload_n dX7_sheet_73 rfl ?_
                  refine w_if_ne (t := 81) dX7_sheet_74 (by decide) (fun hz23 => ?_) (fun hz23 => ?_)
                  · skip
                    refine w_iload_n dX7_sheet_81 rfl ?_
                    refine w_eqi (y := (if bx = 0 then 0 else qx)) (by rw [if_neg hz23]) ?_
                    · skip
                      refine w_iast (j := s) dX7_sheet_82 rfl (by decide) rfl (show s < 4 by omega) ?_
                      refine w_iconst dX7_sheet_83 ic_0 ?_
                      refine w_istore dX7_sheet_84 (by decide) rfl rfl ?_
                      dsimp only [List.set]
                      have lp : ∀ (m : Nat) (i : Nat) (τ : Sg), 40 - i < m → i ≤ 40 → Sq (wI (wI σ 56 s bx) 57 s (if bx = 0 then 0 else qx)) τ → τ.1 51 = σ.1 51 → (τ.2.1 58 = fun j => if 40 * s ≤ j ∧ j < 40 * s + i then 0 else σ.2.1 58 j) → WP G mX7_sheet 86 [some (.ref 50), some (.int (nI s)), some (.int bx), some (.int qx), some (.int (nI i))] [] (τ) (PQ σ (M_sheet (obs σ) (nI s) bx qx)) := by
                        intro m
                        induction m with
                        | zero => intro i τ hm; exact absurd hm (Nat.not_lt_zero _)
                        | succ m ih =>
                          intro i τ hm hi hsq h51 h58
                          refine w_iload dX7_sheet_86 rfl ?_
                          refine w_bipush dX7_sheet_88 bp_40 ?_
                          refine w2_icmp_ge (t := 112) dX7_sheet_90 (by decide) (fun hz24 => ?_) (fun hz24 => ?_)
                          · skip
                            have hge := nlt_nI (n := 40) (by omega) (by decide) hz24
                            have hen : i = 40 := by omega
                            subst hen
                            refine w_aload_n dX7_sheet_112 rfl ?_
                            refine w_getR (t := 57) dX7_sheet_113 fl_X7_28 rfl (by decide) (by decide) rfl ?_
                            refine w_iload_n dX7_sheet_116 rfl ?_
                            refine w_iald (j := s) dX7_sheet_117 rfl (by decide) rfl (show s < 4 by omega) ?_
                            refine w_iret dX7_sheet_118 rfl ?_
                            have ez : τ.1 57 s = (if bx = 0 then 0 else qx) := (hsq.1 57 s (by decide) (by decide) (by decide) (by decide) (fun e => by cases e)).trans (wI_s _ _ _ _)
                            have hA : M_sheet (obs σ) (nI s) bx qx = ((if bx = 0 then 0 else qx), sShe (sSiz (sBit (obs σ) (upd (mBit (obs σ)) s bx)) (upd (mSiz (obs σ)) s (if bx = 0 then 0 else qx))) (fun j => if 40 * s ≤ j ∧ j < 40 * s + 40 then 0 else mShe (obs σ) j)) := by simp only [M_sheet, hcs, eq_false hz1, eq_false hz2, eq_false hz8, eq_false hz14, eq_true hz20, eq_false hz21, eq_false hz22, not_true_eq_false, not_false_eq_true, true_and, and_true, false_and, and_false, if_true, if_false]
                            rw [hA]
                            refine ⟨by rw [ez], ?_, (Co.w (by decide)).trans ((Co.w (by decide)).trans (Co.sq hsq))⟩
                            rw [obs_sh hsq h51 h58, mShe_o]
                          · skip
                            have hlt := lt_nI (n := 40) (by omega) (by decide) hz24
                            refine w_aload_n dX7_sheet_93 rfl ?_
                            refine w_getR (t := 58) dX7_sheet_94 fl_X7_31 rfl (by decide) (by decide) rfl ?_
                            refine w_bipush dX7_sheet_97 bp_40 ?_
                            refine w_iload_n dX7_sheet_99 rfl ?_
                            refine w_imulN (a := 40) (b := s) dX7_sheet_100 ?_
                            refine w_iload dX7_sheet_101 rfl ?_
                            refine w_iaddN (a := 40 * s) (b := i) dX7_sheet_103 ?_
                            refine w_lconst dX7_sheet_104 lc_0 ?_
                            refine w_last (j := 40 * s + i) dX7_sheet_105 rfl rfl (show 40 * s + i < 160 by omega) ?_
                            refine w_iincN (a := i) (b := 1) dX7_sheet_106 rfl ic_1 (by decide) rfl rfl ?_
                            dsimp only [List.set]
                            refine w_goto (t := 86) dX7_sheet_109 (by decide) ?_
                            refine ih (i + 1) _ (by omega) (by omega) (hsq.trans (Sq.wl (Or.inl rfl))) h51 ?_
                            funext j
                            show (if 58 = 58 ∧ j = 40 * s + i then _ else τ.2.1 58 j) = _
                            rw [congrFun h58 j]
                            by_cases hj : j = 40 * s + i
                            · rw [if_pos ⟨rfl, hj⟩, if_pos (by omega)]
                            · rw [if_neg (fun z => hj z.2)]
                              by_cases hj2 : 40 * s ≤ j ∧ j < 40 * s + i
                              · rw [if_pos hj2, if_pos (by omega)]
                              · rw [if_neg hj2, if_neg (by omega)]
                      refine lp 41 0 _ (by omega) (by omega) Sq.rfl (funext fun j => by rw [wI_c (by decide), wI_c (by decide)]) ?_
                      funext j
                      show σ.2.1 58 j = _
                      rw [if_neg (by omega)]
                  · skip
                    refine w_iconst dX7_sheet_77 ic_0 ?_
                    refine w_goto (t := 82) dX7_sheet_78 (by decide) ?_
                    refine w_eqi (y := (if bx = 0 then 0 else qx)) (by rw [if_pos hz23]) ?_
                    · skip
                      refine w_iast (j := s) dX7_sheet_82 rfl (by decide) rfl (show s < 4 by omega) ?_
                      refine w_iconst dX7_sheet_83 ic_0 ?_
                      refine w_istore dX7_sheet_84 (by decide) rfl rfl ?_
                      dsimp only [List.set]
                      have lp : ∀ (m : Nat) (i : Nat) (τ : Sg), 40 - i < m → i ≤ 40 → Sq (wI (wI σ 56 s bx) 57 s (if bx = 0 then 0 else qx)) τ → τ.1 51 = σ.1 51 → (τ.2.1 58 = fun j => if 40 * s ≤ j ∧ j < 40 * s + i then 0 else σ.2.1 58 j) → WP G mX7_sheet 86 [some (.ref 50), some (.int (nI s)), some (.int bx), some (.int qx), some (.int (nI i))] [] (τ) (PQ σ (M_sheet (obs σ) (nI s) bx qx)) := by
                        intro m
                        induction m with
                        | zero => intro i τ hm; exact absurd hm (Nat.not_lt_zero _)
                        | succ m ih =>
                          intro i τ hm hi hsq h51 h58
                          refine w_iload dX7_sheet_86 rfl ?_
                          refine w_bipush dX7_sheet_88 bp_40 ?_
                          refine w2_icmp_ge (t := 112) dX7_sheet_90 (by decide) (fun hz25 => ?_) (fun hz25 => ?_)
                          · skip
                            have hge := nlt_nI (n := 40) (by omega) (by decide) hz25
                            have hen : i = 40 := by omega
                            subst hen
                            refine w_aload_n dX7_sheet_112 rfl ?_
                            refine w_getR (t := 57) dX7_sheet_113 fl_X7_28 rfl (by decide) (by decide) rfl ?_
                            refine w_iload_n dX7_sheet_116 rfl ?_
                            refine w_iald (j := s) dX7_sheet_117 rfl (by decide) rfl (show s < 4 by omega) ?_
                            refine w_iret dX7_sheet_118 rfl ?_
                            have ez : τ.1 57 s = (if bx = 0 then 0 else qx) := (hsq.1 57 s (by decide) (by decide) (by decide) (by decide) (fun e => by cases e)).trans (wI_s _ _ _ _)
                            have hA : M_sheet (obs σ) (nI s) bx qx = ((if bx = 0 then 0 else qx), sShe (sSiz (sBit (obs σ) (upd (mBit (obs σ)) s bx)) (upd (mSiz (obs σ)) s (if bx = 0 then 0 else qx))) (fun j => if 40 * s ≤ j ∧ j < 40 * s + 40 then 0 else mShe (obs σ) j)) := by simp only [M_sheet, hcs, eq_false hz1, eq_false hz2, eq_false hz8, eq_false hz14, eq_true hz20, eq_false hz21, eq_false hz22, not_true_eq_false, not_false_eq_true, true_and, and_true, false_and, and_false, if_true, if_false]
                            rw [hA]
                            refine ⟨by rw [ez], ?_, (Co.w (by decide)).trans ((Co.w (by decide)).trans (Co.sq hsq))⟩
                            rw [obs_sh hsq h51 h58, mShe_o]
                          · skip
                            have hlt := lt_nI (n := 40) (by omega) (by decide) hz25
                            refine w_aload_n dX7_sheet_93 rfl ?_
                            refine w_getR (t := 58) dX7_sheet_94 fl_X7_31 rfl (by decide) (by decide) rfl ?_
                            refine w_bipush dX7_sheet_97 bp_40 ?_
                            refine w_iload_n dX7_sheet_99 rfl ?_
                            refine w_imulN (a := 40) (b := s) dX7_sheet_100 ?_
                            refine w_iload dX7_sheet_101 rfl ?_
                            refine w_iaddN (a := 40 * s) (b := i) dX7_sheet_103 ?_
                            refine w_lconst dX7_sheet_104 lc_0 ?_
                            refine w_last (j := 40 * s + i) dX7_sheet_105 rfl rfl (show 40 * s + i < 160 by omega) ?_
                            refine w_iincN (a := i) (b := 1) dX7_sheet_106 rfl ic_1 (by decide) rfl rfl ?_
                            dsimp only [List.set]
                            refine w_goto (t := 86) dX7_sheet_109 (by decide) ?_
                            refine ih (i + 1) _ (by omega) (by omega) (hsq.trans (Sq.wl (Or.inl rfl))) h51 ?_
                            funext j
                            show (if 58 = 58 ∧ j = 40 * s + i then _ else τ.2.1 58 j) = _
                            rw [congrFun h58 j]
                            by_cases hj : j = 40 * s + i
                            · rw [if_pos ⟨rfl, hj⟩, if_pos (by omega)]
                            · rw [if_neg (fun z => hj z.2)]
                              by_cases hj2 : 40 * s ≤ j ∧ j < 40 * s + i
                              · rw [if_pos hj2, if_pos (by omega)]
                              · rw [if_neg hj2, if_neg (by omega)]
                      refine lp 41 0 _ (by omega) (by omega) Sq.rfl (funext fun j => by rw [wI_c (by decide), wI_c (by decide)]) ?_
                      funext j
                      show σ.2.1 58 j = _
                      rw [if_neg (by omega)]
              · skip
                refine w_aload_n dX7_sheet_54 rfl ?_
                refine w_ldc dX7_sheet_55 kc_X7_44 ?_
                refine w_callVi dX7_sheet_57 ml_X7_53 mv_X7_finds rfl rfl (by decide) rfl (e7_finds G _ _ 0 (by decide) (by decide)) rfl rfl (Nat.le_of_ble_eq_true rfl) ?_
                refine w_iret dX7_sheet_60 rfl ?_
                exact PQ.fnd (by simp only [M_sheet, eq_false hz1, eq_false hz2, eq_false hz8, eq_false hz14, eq_true hz20, eq_false hz21, eq_true hz22, not_true_eq_false, not_false_eq_true, true_and, and_true, false_and, and_false, if_true, if_false])
            · skip
              refine w_aload_n dX7_sheet_40 rfl ?_
              refine w_ldcw dX7_sheet_41 kc_X7_276 ?_
              refine w_callVi dX7_sheet_44 ml_X7_53 mv_X7_finds rfl rfl (by decide) rfl (e7_finds G _ _ 6 (by decide) (by decide)) rfl rfl (Nat.le_of_ble_eq_true rfl) ?_
              refine w_iret dX7_sheet_47 rfl ?_
              exact PQ.fnd (by simp only [M_sheet, eq_false hz1, eq_false hz2, eq_false hz8, eq_false hz14, eq_true hz20, eq_true hz21, not_true_eq_false, not_false_eq_true, true_and, and_true, false_and, and_false, if_true, if_false])
          · skip
            refine w_aload_n dX7_sheet_29 rfl ?_
            refine w_ldc dX7_sheet_30 kc_X7_44 ?_
            refine w_callVi dX7_sheet_32 ml_X7_53 mv_X7_finds rfl rfl (by decide) rfl (e7_finds G _ _ 0 (by decide) (by decide)) rfl rfl (Nat.le_of_ble_eq_true rfl) ?_
            refine w_iret dX7_sheet_35 rfl ?_
            exact PQ.fnd (by simp only [M_sheet, eq_false hz1, eq_false hz2, eq_false hz8, eq_false hz14, eq_false hz20, not_true_eq_false, not_false_eq_true, true_and, and_true, false_and, and_false, if_true, if_false])
theorem bad_cases (σ : Sg) (sx : Int32) : (p_bad (obs σ) sx = -1000000001 ∧ p_in sx 0 3 = 0) ∨ (p_bad (obs σ) sx = -1000000006 ∧ ¬ p_in sx 0 3 = 0 ∧ mBit (obs σ) sx.toNatClampNeg = 0) ∨ (p_bad (obs σ) sx = 0 ∧ ¬ p_in sx 0 3 = 0 ∧ ¬ mBit (obs σ) sx.toNatClampNeg = 0) := by
  unfold p_bad
  by_cases h1 : p_in sx 0 3 = 0
  · exact Or.inl ⟨by rw [if_pos h1], h1⟩
  · rw [if_neg h1]
    by_cases h2 : mBit (obs σ) sx.toNatClampNeg = 0
    · exact Or.inr (Or.inl ⟨by rw [if_pos h2], h1, h2⟩)
    · exact Or.inr (Or.inr ⟨by rw [if_neg h2], h1, h2⟩)
theorem p_lay_8 (f : Nat → Int32) (S : Nat → Int64) : ∀ k, (p_lay f S k).1 8 = f 8
  | 0 => rfl
  | k + 1 => by
    simp only [p_lay]
    split
    · exact p_lay_8 f S k
    · split
      · exact p_lay_8 f S k
      · show upd _ _ _ 8 = _
        rw [updN (by omega), p_lay_8 f S k]
set_option maxRecDepth 100000 in
set_option maxHeartbeats 800000 in
theorem m_lays (G : GT) (σ : Sg) (sx : Int32) (n : Nat) (hn : σ.1 51 8 = nI n) (h8 : n ≤ 8) (zs : Nat → Nat) (hzs : ∀ s, s < 4 → σ.1 57 s = nI (zs s) ∧ zs s ≤ 40) : Ev G mX7_lays [.ref 50, .int sx] σ (PQ σ (M_lays (obs σ) sx)) := by
  have hnR := nR_of hn h8
  refine Ev.ofL (m := 5) (L := [some (.ref 50), some (.int sx), none, none, none, none, none]) rfl (Nat.le_of_ble_eq_true rfl) rfl rfl ?_
  refine w_aload_n dX7_lays_0 rfl ?_
  refine w_iload_n dX7_lays_1 rfl ?_
  refine w_callVi dX7_lays_2 ml_X7_285 mv_X7_badSheet rfl rfl (by decide) rfl (e7_badSheet G _ _) rfl rfl (Nat.le_of_ble_eq_true rfl) ?_
  rcases bad_cases σ sx with ⟨hb, hb1⟩ | ⟨hb, hb1, hb2⟩ | ⟨hb, hb1, hb2⟩
  · skip
    refine w_eqi hb ?_
    refine w_istore_n dX7_lays_5 (by decide) rfl rfl ?_
    dsimp only [List.set]
    refine w_iload_n dX7_lays_6 rfl ?_
    refine w_if_eq (t := 16) dX7_lays_7 (by decide) (fun hz1 => absurd hz1 (by decide)) (fun hz1 => ?_)
    refine w_aload_n dX7_lays_10 rfl ?_
    refine w_iload_n dX7_lays_11 rfl ?_
    refine w_callVi dX7_lays_12 ml_X7_53 mv_X7_finds rfl rfl (by decide) rfl (e7_finds G _ _ 0 (by decide) (by decide)) rfl rfl (Nat.le_of_ble_eq_true rfl) ?_
    refine w_iret dX7_lays_15 rfl ?_
    exact PQ.fnd (by simp only [M_lays, eq_true hb1, if_true, if_false])
  · skip
    refine w_eqi hb ?_
    refine w_istore_n dX7_lays_5 (by decide) rfl rfl ?_
    dsimp only [List.set]
    refine w_iload_n dX7_lays_6 rfl ?_
    refine w_if_eq (t := 16) dX7_lays_7 (by decide) (fun hz2 => absurd hz2 (by decide)) (fun hz2 => ?_)
    refine w_aload_n dX7_lays_10 rfl ?_
    refine w_iload_n dX7_lays_11 rfl ?_
    refine w_callVi dX7_lays_12 ml_X7_53 mv_X7_finds rfl rfl (by decide) rfl (e7_finds G _ _ 5 (by decide) (by decide)) rfl rfl (Nat.le_of_ble_eq_true rfl) ?_
    refine w_iret dX7_lays_15 rfl ?_
    exact PQ.fnd (by simp only [M_lays, eq_false hb1, eq_true hb2, if_true, if_false])
  · skip
    refine w_eqi hb ?_
    obtain ⟨s, hs3, rfl⟩ := in_0 (m := 3) hb1 rfl (by decide)
    have hcs : (nI s).toNatClampNeg = s := nI_clamp (by omega)
    have hz40 := (hzs s (by omega)).2
    have hzs0 := (hzs s (by omega)).1
    have hcz : (mSiz (obs σ) s).toNatClampNeg = zs s := by rw [mSiz_o, hzs0]; exact nI_clamp (by omega)
    refine w_istore_n dX7_lays_5 (by decide) rfl rfl ?_
    dsimp only [List.set]
    refine w_iload_n dX7_lays_6 rfl ?_
    refine w_if_eq (t := 16) dX7_lays_7 (by decide) (fun hz3 => ?_) (fun hz3 => absurd rfl hz3)
    refine w_iconst dX7_lays_16 ic_0 ?_
    refine w_istore_n dX7_lays_17 (by decide) rfl rfl ?_
    dsimp only [List.set]
    refine w_iconst dX7_lays_18 ic_0 ?_
    refine w_istore dX7_lays_19 (by decide) rfl rfl ?_
    dsimp only [List.set]
    have lp : ∀ (m : Nat) (i : Nat) (τ : Sg) (y5 y6 : Option Value), min (zs s) n - i < m → i ≤ min (zs s) n → Mr σ τ → τ.1 51 = (p_lay (σ.1 51) (fun k => σ.2.1 58 (40 * s + k)) i).1 → WP G mX7_lays 21 [some (.ref 50), some (.int (nI s)), some (.int 0), some (.int (p_lay (σ.1 51) (fun k => σ.2.1 58 (40 * s + k)) i).2), some (.int (nI i)), y5, y6] [] (τ) (PQ σ (M_lays (obs σ) (nI s))) := by
      intro m
      induction m with
      | zero => intro i τ y5 y6 hm; exact absurd hm (Nat.not_lt_zero _)
      | succ m ih =>
        intro i τ y5 y6 hm hi hmr h51
        refine w_iload dX7_lays_21 rfl ?_
        refine w_aload_n dX7_lays_23 rfl ?_
        refine w_getR (t := 57) dX7_lays_24 fl_X7_28 rfl (by decide) (by decide) rfl ?_
        refine w_iload_n dX7_lays_27 rfl ?_
        refine w_iald (j := s) dX7_lays_28 rfl (by decide) rfl (show s < 4 by omega) ?_
        refine w_eqi ((hmr.1 57 s (by decide) (by decide) (by decide) (by decide) (fun e => by cases e)).trans hzs0) ?_
        · skip
          refine w2_icmp_ge (t := 93) dX7_lays_29 (by decide) (fun hz4 => ?_) (fun hz4 => ?_)
          · skip
            have hge := nlt_nI (by omega) (by omega) hz4
            have hen : i = min (zs s) n := by omega
            subst hen
            refine w_iload_n dX7_lays_93 rfl ?_
            refine w_iret dX7_lays_94 rfl ?_
            have hA : M_lays (obs σ) (nI s) = ((p_lay (σ.1 51) (fun k => σ.2.1 58 (40 * s + k)) (min (zs s) n)).2, sRow (obs σ) (p_lay (σ.1 51) (fun k => σ.2.1 58 (40 * s + k)) (min (zs s) n)).1) := by simp only [M_lays, hcs, hcz, hnR, eq_false hb1, if_false, obs_1, mShe_o]; rw [hcs] at hb2; rw [if_neg hb2]
            rw [hA]
            exact ⟨rfl, by rw [obs_mr hmr, h51], Co.mr hmr⟩
          · skip
            have hlt1 := lt_nI (by omega) (by omega) hz4
            refine w_iload dX7_lays_32 rfl ?_
            refine w_aload_n dX7_lays_34 rfl ?_
            refine w_getR (t := 51) dX7_lays_35 fl_X7_7 rfl (by decide) (by decide) rfl ?_
            refine w_bipush dX7_lays_38 bp_8 ?_
            refine w_iald (j := 8) dX7_lays_40 rfl (by decide) rfl (by decide) ?_
            refine w_eqi (y := nI n) (by rw [h51, p_lay_8]; exact hn) ?_
            · skip
              refine w2_icmp_ge (t := 93) dX7_lays_41 (by decide) (fun hz5 => ?_) (fun hz5 => ?_)
              · skip
                have hge := nlt_nI (by omega) (by omega) hz5
                have hen : i = min (zs s) n := by omega
                subst hen
                refine w_iload_n dX7_lays_93 rfl ?_
                refine w_iret dX7_lays_94 rfl ?_
                have hA : M_lays (obs σ) (nI s) = ((p_lay (σ.1 51) (fun k => σ.2.1 58 (40 * s + k)) (min (zs s) n)).2, sRow (obs σ) (p_lay (σ.1 51) (fun k => σ.2.1 58 (40 * s + k)) (min (zs s) n)).1) := by simp only [M_lays, hcs, hcz, hnR, eq_false hb1, if_false, obs_1, mShe_o]; rw [hcs] at hb2; rw [if_neg hb2]
                rw [hA]
                exact ⟨rfl, by rw [obs_mr hmr, h51], Co.mr hmr⟩
              · skip
                have hlt2 := lt_nI (by omega) (by omega) hz5
                refine w_aload_n dX7_lays_44 rfl ?_
                refine w_getR (t := 58) dX7_lays_45 fl_X7_31 rfl (by decide) (by decide) rfl ?_
                refine w_bipush dX7_lays_48 bp_40 ?_
                refine w_iload_n dX7_lays_50 rfl ?_
                refine w_imulN (a := 40) (b := s) dX7_lays_51 ?_
                refine w_iload dX7_lays_52 rfl ?_
                refine w_iaddN (a := 40 * s) (b := i) dX7_lays_54 ?_
                refine w_lald (j := 40 * s + i) dX7_lays_55 rfl rfl (show 40 * s + i < 160 by omega) ?_
                refine w_lstore dX7_lays_56 (by decide) rfl rfl ?_
                dsimp only [List.set]
                refine w_lload dX7_lays_58 rfl ?_
                refine w_lconst dX7_lays_60 lc_0 ?_
                refine w_lcmp dX7_lays_61 ?_
                refine w_if_lt (t := 87) dX7_lays_62 (by decide) (fun hz6 => ?_) (fun hz6 => ?_)
                · skip
                  refine w_iincN (a := i) (b := 1) dX7_lays_87 rfl ic_1 (by decide) rfl rfl ?_
                  dsimp only [List.set]
                  refine w_goto (t := 21) dX7_lays_90 (by decide) ?_
                  have e58 : τ.2.1 58 (40 * s + i) = σ.2.1 58 (40 * s + i) := hmr.2.1 _ _ (by decide) (fun e => by cases e)
                  have hL : p_lay (σ.1 51) (fun k => σ.2.1 58 (40 * s + k)) (i + 1) = p_lay (σ.1 51) (fun k => σ.2.1 58 (40 * s + k)) i := by
                    simp only [p_lay]
                    rw [← e58, if_pos hz6]
                  have q0 := fun h => ih (i + 1) τ (some (.long (τ.2.1 58 (40 * s + i)))) none (by omega) (by omega) hmr h
                  rw [hL] at q0
                  exact q0 (by simp only [setR_51, h51])
                · skip
                  refine w_lload dX7_lays_65 rfl ?_
                  refine w_ldc2 dX7_lays_67 kl_X7_288 ?_
                  refine w_lcmp dX7_lays_70 ?_
                  refine w_if_gt (t := 87) dX7_lays_71 (by decide) (fun hz7 => ?_) (fun hz7 => ?_)
                  · skip
                    refine w_iincN (a := i) (b := 1) dX7_lays_87 rfl ic_1 (by decide) rfl rfl ?_
                    dsimp only [List.set]
                    refine w_goto (t := 21) dX7_lays_90 (by decide) ?_
                    have e58 : τ.2.1 58 (40 * s + i) = σ.2.1 58 (40 * s + i) := hmr.2.1 _ _ (by decide) (fun e => by cases e)
                    have hL : p_lay (σ.1 51) (fun k => σ.2.1 58 (40 * s + k)) (i + 1) = p_lay (σ.1 51) (fun k => σ.2.1 58 (40 * s + k)) i := by
                      simp only [p_lay]
                      rw [← e58, if_neg hz6, if_pos hz7]
                    have q0 := fun h => ih (i + 1) τ (some (.long (τ.2.1 58 (40 * s + i)))) none (by omega) (by omega) hmr h
                    rw [hL] at q0
                    exact q0 (by simp only [setR_51, h51])
                  · skip
                    refine w_aload_n dX7_lays_74 rfl ?_
                    refine w_iload dX7_lays_75 rfl ?_
                    refine w_iconst dX7_lays_77 ic_2 ?_
                    refine w_lload dX7_lays_78 rfl ?_
                    refine w_l2i dX7_lays_80 ?_
                    refine w_callVv dX7_lays_81 ml_X7_57 mv_X7_puts rfl rfl (by decide) rfl (e7_puts G _ (i) (2) _ (by omega) (by omega)) rfl rfl (Nat.le_of_ble_eq_true rfl) ?_
                    refine w_iinc dX7_lays_84 rfl rfl (by decide) rfl rfl ?_
                    dsimp only [List.set]
                    refine w_iincN (a := i) (b := 1) dX7_lays_87 rfl ic_1 (by decide) rfl rfl ?_
                    dsimp only [List.set]
                    refine w_goto (t := 21) dX7_lays_90 (by decide) ?_
                    have e58 : τ.2.1 58 (40 * s + i) = σ.2.1 58 (40 * s + i) := hmr.2.1 _ _ (by decide) (fun e => by cases e)
                    have hL : p_lay (σ.1 51) (fun k => σ.2.1 58 (40 * s + k)) (i + 1) = (upd (p_lay (σ.1 51) (fun k => σ.2.1 58 (40 * s + k)) i).1 (9 + 7 * i + 2) (τ.2.1 58 (40 * s + i)).toInt32, (p_lay (σ.1 51) (fun k => σ.2.1 58 (40 * s + k)) i).2 + 1) := by
                      simp only [p_lay]
                      rw [← e58, if_neg hz6, if_neg hz7]
                    have q0 := fun h => ih (i + 1) (setR τ (upd (τ.1 51) (9 + 7 * i + 2) (τ.2.1 58 (40 * s + i)).toInt32)) (some (.long (τ.2.1 58 (40 * s + i)))) none (by omega) (by omega) (hmr.trans Mr.setR) h
                    rw [hL] at q0
                    exact q0 (by simp only [setR_51, h51])
    exact lp (min (zs s) n + 1) 0 σ none none (by omega) (by omega) Mr.rfl rfl
set_option maxRecDepth 100000 in
set_option maxHeartbeats 800000 in
theorem m_book (G : GT) (σ : Sg) (sx rx : Int32) (n : Nat) (hn : σ.1 51 8 = nI n) (h8 : n ≤ 8) (zs : Nat → Nat) (hzs : ∀ s, s < 4 → σ.1 57 s = nI (zs s) ∧ zs s ≤ 40) : Ev G mX7_book [.ref 50, .int sx, .int rx] σ (PQ σ (M_book (obs σ) sx rx)) := by
  have hnR := nR_of hn h8
  refine Ev.ofL (m := 2) (L := [some (.ref 50), some (.int sx), some (.int rx), none, none]) rfl (Nat.le_of_ble_eq_true rfl) rfl rfl ?_
  refine w_aload_n dX7_book_0 rfl ?_
  refine w_iload_n dX7_book_1 rfl ?_
  refine w_callVi dX7_book_2 ml_X7_285 mv_X7_badSheet rfl rfl (by decide) rfl (e7_badSheet G _ _) rfl rfl (Nat.le_of_ble_eq_true rfl) ?_
  rcases bad_cases σ sx with ⟨hb, hb1⟩ | ⟨hb, hb1, hb2⟩ | ⟨hb, hb1, hb2⟩
  · skip
    refine w_eqi hb ?_
    refine w_istore_n dX7_book_5 (by decide) rfl rfl ?_
    dsimp only [List.set]
    refine w_iload_n dX7_book_6 rfl ?_
    refine w_if_eq (t := 16) dX7_book_7 (by decide) (fun hz1 => absurd hz1 (by decide)) (fun hz1 => ?_)
    refine w_aload_n dX7_book_10 rfl ?_
    refine w_iload_n dX7_book_11 rfl ?_
    refine w_callVi dX7_book_12 ml_X7_53 mv_X7_finds rfl rfl (by decide) rfl (e7_finds G _ _ 0 (by decide) (by decide)) rfl rfl (Nat.le_of_ble_eq_true rfl) ?_
    refine w_iret dX7_book_15 rfl ?_
    exact PQ.fnd (by simp only [M_book, eq_true hb1, if_true, if_false])
  · skip
    refine w_eqi hb ?_
    refine w_istore_n dX7_book_5 (by decide) rfl rfl ?_
    dsimp only [List.set]
    refine w_iload_n dX7_book_6 rfl ?_
    refine w_if_eq (t := 16) dX7_book_7 (by decide) (fun hz2 => absurd hz2 (by decide)) (fun hz2 => ?_)
    refine w_aload_n dX7_book_10 rfl ?_
    refine w_iload_n dX7_book_11 rfl ?_
    refine w_callVi dX7_book_12 ml_X7_53 mv_X7_finds rfl rfl (by decide) rfl (e7_finds G _ _ 5 (by decide) (by decide)) rfl rfl (Nat.le_of_ble_eq_true rfl) ?_
    refine w_iret dX7_book_15 rfl ?_
    exact PQ.fnd (by simp only [M_book, eq_false hb1, eq_true hb2, if_true, if_false])
  · skip
    refine w_eqi hb ?_
    obtain ⟨s, hs3, rfl⟩ := in_0 (m := 3) hb1 rfl (by decide)
    have hcs : (nI s).toNatClampNeg = s := nI_clamp (by omega)
    have hz40 := (hzs s (by omega)).2
    have hzs0 := (hzs s (by omega)).1
    have hcz : (mSiz (obs σ) s).toNatClampNeg = zs s := by rw [mSiz_o, hzs0]; exact nI_clamp (by omega)
    refine w_istore_n dX7_book_5 (by decide) rfl rfl ?_
    dsimp only [List.set]
    refine w_iload_n dX7_book_6 rfl ?_
    refine w_if_eq (t := 16) dX7_book_7 (by decide) (fun hz3 => ?_) (fun hz3 => absurd rfl hz3)
    refine w_aload_n dX7_book_16 rfl ?_
    refine w_iload_n dX7_book_17 rfl ?_
    refine w_callVi dX7_book_18 ml_X7_87 mv_X7_isRod rfl rfl (by decide) rfl (e7_isRod G _ _) rfl rfl (Nat.le_of_ble_eq_true rfl) ?_
    refine w_if_ne (t := 31) dX7_book_21 (by decide) (fun hz4 => ?_) (fun hz4 => ?_)
    · skip
      obtain ⟨k, hk, rfl⟩ := rod_of hz4 hn h8
      have hck : (nI k).toNatClampNeg = k := nI_clamp (by omega)
      · skip
        refine w_aload_n dX7_book_31 rfl ?_
        refine w_iconst dX7_book_32 ic_1 ?_
        refine w_aload_n dX7_book_33 rfl ?_
        refine w_getR (t := 53) dX7_book_34 fl_X7_16 rfl (by decide) (by decide) rfl ?_
        refine w_callVv dX7_book_37 ml_X7_126 mv_X7_moveAll rfl rfl (by decide) rfl (e7_move1 G _ 53 rfl rfl (by decide) (by decide)) rfl rfl (Nat.le_of_ble_eq_true rfl) ?_
        refine w_iconst dX7_book_40 ic_0 ?_
        refine w_istore dX7_book_41 (by decide) rfl rfl ?_
        dsimp only [List.set]
        have lp : ∀ (m : Nat) (i : Nat) (τ : Sg), zs s - i < m → i ≤ zs s → Sq σ τ → τ.1 51 = p_pass (σ.1 51) n i → (∀ j, j < 65 → τ.1 53 j = σ.1 51 j) → (τ.2.1 58 = (fun j => if 40 * s ≤ j ∧ j < 40 * s + i then p_nar (σ.1 56 s) (p_pass (σ.1 51) n (j - 40 * s) (9 + 7 * k + 6)).toInt64 else σ.2.1 58 j)) → WP G mX7_book 43 [some (.ref 50), some (.int (nI s)), some (.int (nI k)), some (.int 0), some (.int (nI i))] [] (τ) (PQ σ (M_book (obs σ) (nI s) (nI k))) := by
          intro m
          induction m with
          | zero => intro i τ hm; exact absurd hm (Nat.not_lt_zero _)
          | succ m ih =>
            intro i τ hm hi hsq h51 h53 h58
            refine w_iload dX7_book_43 rfl ?_
            refine w_aload_n dX7_book_45 rfl ?_
            refine w_getR (t := 57) dX7_book_46 fl_X7_28 rfl (by decide) (by decide) rfl ?_
            refine w_iload_n dX7_book_49 rfl ?_
            refine w_iald (j := s) dX7_book_50 rfl (by decide) rfl (show s < 4 by omega) ?_
            refine w_eqi ((hsq.1 57 s (by decide) (by decide) (by decide) (by decide) (fun e => by cases e)).trans hzs0) ?_
            · skip
              refine w2_icmp_ge (t := 93) dX7_book_51 (by decide) (fun hz5 => ?_) (fun hz5 => ?_)
              · skip
                have hge := nlt_nI (by omega) (by omega) hz5
                have hen : i = zs s := by omega
                rw [hen] at h51 h58
                refine w_aload_n dX7_book_93 rfl ?_
                refine w_iconst dX7_book_94 ic_0 ?_
                refine w_aload_n dX7_book_95 rfl ?_
                refine w_getR (t := 53) dX7_book_96 fl_X7_16 rfl (by decide) (by decide) rfl ?_
                refine w_callVv dX7_book_99 ml_X7_126 mv_X7_moveAll rfl rfl (by decide) rfl (e7_move0 G _ 53 rfl rfl (by decide) (by decide)) rfl rfl (Nat.le_of_ble_eq_true rfl) ?_
                refine w_aload_n dX7_book_102 rfl ?_
                refine w_getR (t := 57) dX7_book_103 fl_X7_28 rfl (by decide) (by decide) rfl ?_
                refine w_iload_n dX7_book_106 rfl ?_
                refine w_iald (j := s) dX7_book_107 rfl (by decide) rfl (show s < 4 by omega) ?_
                refine w_iret dX7_book_108 rfl ?_
                rw [hcs] at hb2
                have hA : M_book (obs σ) (nI s) (nI k) = (mSiz (obs σ) s, sShe (obs σ) (fun j => if 40 * s ≤ j ∧ j < 40 * s + zs s then p_nar (σ.1 56 s) (p_pass (σ.1 51) n (j - 40 * s) (9 + 7 * k + 6)).toInt64 else σ.2.1 58 j)) := by simp only [M_book, hcs, hck, hcz, hnR, obs_1, mShe_o, eq_false hb1, eq_false hb2, eq_false hz4, if_false]; rw [mBit_o]
                rw [hA]
                have hsq2 : Sq σ (cpN τ 53 51 65) := hsq.trans (Sq.mr (Mr.cp (by decide)))
                refine ⟨?_, ?_, Co.sq hsq2⟩
                · rw [mSiz_o, cpN_ne (by decide)]
                  exact congrArg (fun z => some (Value.int z)) (hsq.1 57 s (by decide) (by decide) (by decide) (by decide) (fun e => by cases e))
                · rw [obs_sq hsq2, back51 h53 (fun j hj => by rw [h51, p_pass_65 _ h8 hj]), sRow_self]
                  show sShe (obs σ) (τ.2.1 58) = _
                  rw [h58]
              · skip
                have hlt := lt_nI (by omega) (by omega) hz5
                refine w_aload_n dX7_book_54 rfl ?_
                refine w_getR (t := 58) dX7_book_55 fl_X7_31 rfl (by decide) (by decide) rfl ?_
                refine w_bipush dX7_book_58 bp_40 ?_
                refine w_iload_n dX7_book_60 rfl ?_
                refine w_imulN (a := 40) (b := s) dX7_book_61 ?_
                refine w_iload dX7_book_62 rfl ?_
                refine w_iaddN (a := 40 * s) (b := i) dX7_book_64 ?_
                refine w_aload_n dX7_book_65 rfl ?_
                refine w_getR (t := 56) dX7_book_66 fl_X7_25 rfl (by decide) (by decide) rfl ?_
                refine w_iload_n dX7_book_69 rfl ?_
                refine w_iald (j := s) dX7_book_70 rfl (by decide) rfl (show s < 4 by omega) ?_
                refine w_aload_n dX7_book_71 rfl ?_
                refine w_iload_n dX7_book_72 rfl ?_
                refine w_bipush dX7_book_73 bp_6 ?_
                refine w_callVi dX7_book_75 ml_X7_69 mv_X7_its rfl rfl (by decide) rfl (e7_its G _ (k) (6) (by omega) (by omega)) rfl rfl (Nat.le_of_ble_eq_true rfl) ?_
                refine w_i2l dX7_book_78 ?_
                refine w_callSl dX7_book_79 ml_X7_278 ms_X7_narrow rfl (e7_narrow G _ _ _) rfl rfl (Nat.le_of_ble_eq_true rfl) ?_
                refine w_last (j := 40 * s + i) dX7_book_82 rfl rfl (show 40 * s + i < 160 by omega) ?_
                refine w_aload_n dX7_book_83 rfl ?_
                refine w_callVv dX7_book_84 ml_X7_112 mv_X7_oneHour rfl rfl (by decide) rfl (e7_oneHour G _ n (by show τ.1 51 8 = _; rw [h51, p_pass_8]; exact hn) h8) rfl rfl (Nat.le_of_ble_eq_true rfl) ?_
                refine w_iincN (a := i) (b := 1) dX7_book_87 rfl ic_1 (by decide) rfl rfl ?_
                dsimp only [List.set]
                refine w_goto (t := 43) dX7_book_90 (by decide) ?_
                refine ih (i + 1) _ (by omega) (by omega) (hsq.trans ((Sq.wl (Or.inl rfl)).trans (Sq.mr Mr.setR))) ?_ (fun j hj => ?_) ?_
                · rw [setR_51]
                  show p_hour (τ.1 51) n = _
                  rw [h51]
                  rfl
                · rw [setR_ne (by decide)]
                  exact h53 j hj
                · funext j
                  show (if 58 = 58 ∧ j = 40 * s + i then _ else τ.2.1 58 j) = _
                  rw [congrFun h58 j]
                  by_cases hj : j = 40 * s + i
                  · rw [if_pos ⟨rfl, hj⟩, if_pos (by omega), h51, hsq.1 56 s (by decide) (by decide) (by decide) (by decide) (fun e => by cases e), show j - 40 * s = i by omega]
                  · rw [if_neg (fun z => hj z.2)]
                    by_cases hj2 : 40 * s ≤ j ∧ j < 40 * s + i
                    · rw [if_pos hj2, if_pos (by omega)]
                    · rw [if_neg hj2, if_neg (by omega)]
        refine lp (zs s + 1) 0 _ (by omega) (by omega) (Sq.mr (Mr.cp (by decide))) (funext fun j => cpN_ne (by decide)) (fun j hj => cpN_b hj) ?_
        funext j
        show σ.2.1 58 j = _
        rw [if_neg (by omega)]
    · skip
      refine w_aload_n dX7_book_24 rfl ?_
      refine w_ldc dX7_book_25 kc_X7_44 ?_
      refine w_callVi dX7_book_27 ml_X7_53 mv_X7_finds rfl rfl (by decide) rfl (e7_finds G _ _ 0 (by decide) (by decide)) rfl rfl (Nat.le_of_ble_eq_true rfl) ?_
      refine w_iret dX7_book_30 rfl ?_
      rw [hcs] at hb2
      exact PQ.fnd (by simp only [M_book, hcs, obs_1, eq_false hb1, eq_false hb2, eq_true hz4, if_true, if_false])
theorem p_so_01 (f : Nat → Int32) (n r : Nat) (S : Nat → Int64) : ∀ k, p_so f n r S k = 0 ∨ p_so f n r S k = 1
  | 0 => Or.inr rfl
  | k + 1 => by
    rw [p_so_s]
    split
    · exact Or.inl rfl
    · split
      · exact Or.inr rfl
      · exact Or.inl rfl
set_option maxRecDepth 100000 in
set_option maxHeartbeats 800000 in
theorem e7_isSo (G : GT) (σ : Sg) (s k zz : Nat) (hs : s < 4) (hk : k < 8) (hz0 : σ.1 57 s = nI zz) (hz40 : zz ≤ 40) (n : Nat) (hn : σ.1 51 8 = nI n) (h8 : n ≤ 8) : Ev G mX7_isSo [.ref 50, .int (nI s), .int (nI k)] σ (fun v σ' => v = some (.int (p_so (σ.1 51) n k (fun k => σ.2.1 58 (40 * s + k)) zz)) ∧ (∀ c j, c ≠ 51 → σ'.1 c j = σ.1 c j) ∧ σ'.2 = σ.2 ∧ ∃ i, σ'.1 51 = p_pass (σ.1 51) n i) := by
  refine Ev.ofL (m := 2) (L := [some (.ref 50), some (.int (nI s)), some (.int (nI k)), none, none]) rfl (Nat.le_of_ble_eq_true rfl) rfl rfl ?_
  refine w_iconst dX7_isSo_0 ic_1 ?_
  refine w_istore_n dX7_isSo_1 (by decide) rfl rfl ?_
  dsimp only [List.set]
  refine w_iconst dX7_isSo_2 ic_0 ?_
  refine w_istore dX7_isSo_3 (by decide) rfl rfl ?_
  dsimp only [List.set]
  have lp : ∀ (m : Nat) (i : Nat) (τ : Sg), zz - i < m → i ≤ zz → (∀ c j, c ≠ 51 → τ.1 c j = σ.1 c j) → τ.2 = σ.2 → τ.1 51 = p_pass (σ.1 51) n i → WP G mX7_isSo 5 [some (.ref 50), some (.int (nI s)), some (.int (nI k)), some (.int (p_so (σ.1 51) n k (fun k => σ.2.1 58 (40 * s + k)) i)), some (.int (nI i))] [] (τ) (fun v σ' => v = some (.int (p_so (σ.1 51) n k (fun k => σ.2.1 58 (40 * s + k)) zz)) ∧ (∀ c j, c ≠ 51 → σ'.1 c j = σ.1 c j) ∧ σ'.2 = σ.2 ∧ ∃ i, σ'.1 51 = p_pass (σ.1 51) n i) := by
    intro m
    induction m with
    | zero => intro i τ hm; exact absurd hm (Nat.not_lt_zero _)
    | succ m ih =>
      intro i τ hm hi ho ho2 h51
      refine w_iload dX7_isSo_5 rfl ?_
      refine w_aload_n dX7_isSo_7 rfl ?_
      refine w_getR (t := 57) dX7_isSo_8 fl_X7_28 rfl (by decide) (by decide) rfl ?_
      refine w_iload_n dX7_isSo_11 rfl ?_
      refine w_iald (j := s) dX7_isSo_12 rfl (by decide) rfl (show s < 4 by omega) ?_
      refine w_eqi ((ho 57 s (by decide)).trans hz0) ?_
      · skip
        refine w2_icmp_ge (t := 60) dX7_isSo_13 (by decide) (fun hz1 => ?_) (fun hz1 => ?_)
        · skip
          refine w_iload_n dX7_isSo_60 rfl ?_
          refine w_zret dX7_isSo_61 rfl (by rcases p_so_01 (σ.1 51) n k (fun k => σ.2.1 58 (40 * s + k)) i with e | e <;> rw [e] <;> rfl) ?_
          refine ⟨?_, ho, ho2, i, h51⟩
          have hge := nlt_nI (by omega) (by omega) hz1
          rw [show i = zz by omega]
        · skip
          have hlt := lt_nI (by omega) (by omega) hz1
          refine w_iload_n dX7_isSo_16 rfl ?_
          refine w_if_eq (t := 60) dX7_isSo_17 (by decide) (fun hz2 => ?_) (fun hz2 => ?_)
          · skip
            refine w_iload_n dX7_isSo_60 rfl ?_
            refine w_zret dX7_isSo_61 rfl (by rcases p_so_01 (σ.1 51) n k (fun k => σ.2.1 58 (40 * s + k)) i with e | e <;> rw [e] <;> rfl) ?_
            refine ⟨?_, ho, ho2, i, h51⟩
            have hzz := p_so_0 hz2 zz hi
            rw [hz2, hzz]
          · skip
            refine w_aload_n dX7_isSo_20 rfl ?_
            refine w_getR (t := 58) dX7_isSo_21 fl_X7_31 rfl (by decide) (by decide) rfl ?_
            refine w_bipush dX7_isSo_24 bp_40 ?_
            refine w_iload_n dX7_isSo_26 rfl ?_
            refine w_imulN (a := 40) (b := s) dX7_isSo_27 ?_
            refine w_iload dX7_isSo_28 rfl ?_
            refine w_iaddN (a := 40 * s) (b := i) dX7_isSo_30 ?_
            refine w_lald (j := 40 * s + i) dX7_isSo_31 rfl rfl (show 40 * s + i < 160 by omega) ?_
            refine w_aload_n dX7_isSo_32 rfl ?_
            refine w_iload_n dX7_isSo_33 rfl ?_
            refine w_bipush dX7_isSo_34 bp_6 ?_
            refine w_callVi dX7_isSo_36 ml_X7_69 mv_X7_its rfl rfl (by decide) rfl (e7_its G _ (k) (6) (by omega) (by omega)) rfl rfl (Nat.le_of_ble_eq_true rfl) ?_
            refine w_i2l dX7_isSo_39 ?_
            refine w_lcmp dX7_isSo_40 ?_
            refine w_if_ne (t := 48) dX7_isSo_41 (by decide) (fun hz3 => ?_) (fun hz3 => ?_)
            · skip
              refine w_iconst dX7_isSo_48 ic_0 ?_
              refine w_istore_n dX7_isSo_49 (by decide) rfl rfl ?_
              dsimp only [List.set]
              refine w_aload_n dX7_isSo_50 rfl ?_
              refine w_callVv dX7_isSo_51 ml_X7_112 mv_X7_oneHour rfl rfl (by decide) rfl (e7_oneHour G _ n (by rw [h51, p_pass_8]; exact hn) h8) rfl rfl (Nat.le_of_ble_eq_true rfl) ?_
              refine w_iincN (a := i) (b := 1) dX7_isSo_54 rfl ic_1 (by decide) rfl rfl ?_
              dsimp only [List.set]
              refine w_goto (t := 5) dX7_isSo_57 (by decide) ?_
              have e58 : τ.2.1 58 (40 * s + i) = σ.2.1 58 (40 * s + i) := by rw [ho2]
              have hcc := hz3
              rw [e58, h51] at hcc
              have q0 := ih (i + 1) (setR τ (p_hour (τ.1 51) n)) (by omega) (by omega) (fun c j hc => by rw [setR_ne hc]; exact ho c j hc) ho2 (by rw [setR_51, h51]; rfl)
              rw [p_so_s, if_neg hz2, if_neg hcc] at q0
              exact q0
            · skip
              refine w_iconst dX7_isSo_44 ic_1 ?_
              refine w_goto (t := 49) dX7_isSo_45 (by decide) ?_
              refine w_istore_n dX7_isSo_49 (by decide) rfl rfl ?_
              dsimp only [List.set]
              refine w_aload_n dX7_isSo_50 rfl ?_
              refine w_callVv dX7_isSo_51 ml_X7_112 mv_X7_oneHour rfl rfl (by decide) rfl (e7_oneHour G _ n (by rw [h51, p_pass_8]; exact hn) h8) rfl rfl (Nat.le_of_ble_eq_true rfl) ?_
              refine w_iincN (a := i) (b := 1) dX7_isSo_54 rfl ic_1 (by decide) rfl rfl ?_
              dsimp only [List.set]
              refine w_goto (t := 5) dX7_isSo_57 (by decide) ?_
              have e58 : τ.2.1 58 (40 * s + i) = σ.2.1 58 (40 * s + i) := by rw [ho2]
              have hcc := hz3
              rw [e58, h51] at hcc
              have q0 := ih (i + 1) (setR τ (p_hour (τ.1 51) n)) (by omega) (by omega) (fun c j hc => by rw [setR_ne hc]; exact ho c j hc) ho2 (by rw [setR_51, h51]; rfl)
              rw [p_so_s, if_neg hz2, if_pos hcc] at q0
              exact q0
  exact lp (zz + 1) 0 σ (by omega) (by omega) (fun _ _ _ => rfl) rfl rfl
theorem p_rdC_s (f : Nat → Int32) (n r z : Nat) (S : Nat → Int64) (c : Nat) : p_rdC f n r z S (c + 1) = p_rdC f n r z S c + p_rdP f n r z S c 16 := rfl
set_option maxRecDepth 100000 in
set_option maxHeartbeats 800000 in
theorem m_read (G : GT) (σ : Sg) (sx rx : Int32) (n : Nat) (hn : σ.1 51 8 = nI n) (h8 : n ≤ 8) (zs : Nat → Nat) (hzs : ∀ s, s < 4 → σ.1 57 s = nI (zs s) ∧ zs s ≤ 40) : Ev G mX7_read [.ref 50, .int sx, .int rx] σ (PQ σ (M_read (obs σ) sx rx)) := by
  have hnR := nR_of hn h8
  refine Ev.ofL (m := 4) (L := [some (.ref 50), some (.int sx), some (.int rx), none, none, none, none]) rfl (Nat.le_of_ble_eq_true rfl) rfl rfl ?_
  refine w_aload_n dX7_read_0 rfl ?_
  refine w_iload_n dX7_read_1 rfl ?_
  refine w_callVi dX7_read_2 ml_X7_285 mv_X7_badSheet rfl rfl (by decide) rfl (e7_badSheet G _ _) rfl rfl (Nat.le_of_ble_eq_true rfl) ?_
  rcases bad_cases σ sx with ⟨hb, hb1⟩ | ⟨hb, hb1, hb2⟩ | ⟨hb, hb1, hb2⟩
  · skip
    refine w_eqi hb ?_
    refine w_istore_n dX7_read_5 (by decide) rfl rfl ?_
    dsimp only [List.set]
    refine w_iload_n dX7_read_6 rfl ?_
    refine w_if_eq (t := 16) dX7_read_7 (by decide) (fun hz1 => absurd hz1 (by decide)) (fun hz1 => ?_)
    refine w_aload_n dX7_read_10 rfl ?_
    refine w_iload_n dX7_read_11 rfl ?_
    refine w_callVi dX7_read_12 ml_X7_53 mv_X7_finds rfl rfl (by decide) rfl (e7_finds G _ _ 0 (by decide) (by decide)) rfl rfl (Nat.le_of_ble_eq_true rfl) ?_
    refine w_iret dX7_read_15 rfl ?_
    exact PQ.fnd (by simp only [M_read, eq_true hb1, if_true, if_false])
  · skip
    refine w_eqi hb ?_
    refine w_istore_n dX7_read_5 (by decide) rfl rfl ?_
    dsimp only [List.set]
    refine w_iload_n dX7_read_6 rfl ?_
    refine w_if_eq (t := 16) dX7_read_7 (by decide) (fun hz2 => absurd hz2 (by decide)) (fun hz2 => ?_)
    refine w_aload_n dX7_read_10 rfl ?_
    refine w_iload_n dX7_read_11 rfl ?_
    refine w_callVi dX7_read_12 ml_X7_53 mv_X7_finds rfl rfl (by decide) rfl (e7_finds G _ _ 5 (by decide) (by decide)) rfl rfl (Nat.le_of_ble_eq_true rfl) ?_
    refine w_iret dX7_read_15 rfl ?_
    exact PQ.fnd (by simp only [M_read, eq_false hb1, eq_true hb2, if_true, if_false])
  · skip
    refine w_eqi hb ?_
    obtain ⟨s, hs3, rfl⟩ := in_0 (m := 3) hb1 rfl (by decide)
    have hcs : (nI s).toNatClampNeg = s := nI_clamp (by omega)
    have hz40 := (hzs s (by omega)).2
    have hzs0 := (hzs s (by omega)).1
    have hcz : (mSiz (obs σ) s).toNatClampNeg = zs s := by rw [mSiz_o, hzs0]; exact nI_clamp (by omega)
    refine w_istore_n dX7_read_5 (by decide) rfl rfl ?_
    dsimp only [List.set]
    refine w_iload_n dX7_read_6 rfl ?_
    refine w_if_eq (t := 16) dX7_read_7 (by decide) (fun hz3 => ?_) (fun hz3 => absurd rfl hz3)
    refine w_aload_n dX7_read_16 rfl ?_
    refine w_iload_n dX7_read_17 rfl ?_
    refine w_callVi dX7_read_18 ml_X7_87 mv_X7_isRod rfl rfl (by decide) rfl (e7_isRod G _ _) rfl rfl (Nat.le_of_ble_eq_true rfl) ?_
    refine w_if_ne (t := 31) dX7_read_21 (by decide) (fun hz4 => ?_) (fun hz4 => ?_)
    · skip
      obtain ⟨k, hk, rfl⟩ := rod_of hz4 hn h8
      have hck : (nI k).toNatClampNeg = k := nI_clamp (by omega)
      · skip
        refine w_iconst dX7_read_31 ic_0 ?_
        refine w_istore dX7_read_32 (by decide) rfl rfl ?_
        dsimp only [List.set]
        refine w_aload_n dX7_read_34 rfl ?_
        refine w_iconst dX7_read_35 ic_1 ?_
        refine w_aload_n dX7_read_36 rfl ?_
        refine w_getR (t := 53) dX7_read_37 fl_X7_16 rfl (by decide) (by decide) rfl ?_
        refine w_callVv dX7_read_40 ml_X7_126 mv_X7_moveAll rfl rfl (by decide) rfl (e7_move1 G _ 53 rfl rfl (by decide) (by decide)) rfl rfl (Nat.le_of_ble_eq_true rfl) ?_
        refine w_iconst dX7_read_43 ic_0 ?_
        refine w_istore dX7_read_44 (by decide) rfl rfl ?_
        dsimp only [List.set]
        have lp : ∀ (m : Nat) (cc : Nat) (τ : Sg) (y6 : Option Value), 100 - cc < m → cc ≤ 100 → Mr σ τ → τ.1 51 = σ.1 51 → (∀ j, j < 65 → τ.1 53 j = σ.1 51 j) → WP G mX7_read 46 [some (.ref 50), some (.int (nI s)), some (.int (nI k)), some (.int 0), some (.int (p_rdC (σ.1 51) n k (zs s) (fun k => σ.2.1 58 (40 * s + k)) cc)), some (.int (nI cc)), y6] [] (τ) (PQ σ (M_read (obs σ) (nI s) (nI k))) := by
          intro m
          induction m with
          | zero => intro cc τ y6 hm; exact absurd hm (Nat.not_lt_zero _)
          | succ m ih =>
            intro cc τ y6 hm hcl hmr h51 h53
            refine w_iload dX7_read_46 rfl ?_
            refine w_bipush dX7_read_48 bp_99 ?_
            refine w_icmp_gt (t := 119) dX7_read_50 (by decide) (fun hz5 => ?_) (fun hz5 => ?_)
            · skip
              have hge := lt_nI (r := 99) (by decide) (by omega) hz5
              have hen : cc = 100 := by omega
              subst hen
              refine w_iload dX7_read_119 rfl ?_
              refine w_iret dX7_read_121 rfl ?_
              rw [hcs] at hb2
              exact PQ.mq (by simp only [M_read, hcs, hck, hcz, hnR, obs_1, mShe_o, eq_false hb1, eq_false hb2, eq_false hz4, if_false]) ⟨h51, hmr⟩
            · skip
              have hltc := nlt_nI (r := 99) (by decide) (by omega) hz5
              refine w_iconst dX7_read_53 ic_0 ?_
              refine w_istore dX7_read_54 (by decide) rfl rfl ?_
              dsimp only [List.set]
              have lpp : ∀ (m : Nat) (pp : Nat) (τ : Sg), 16 - pp < m → pp ≤ 16 → Mr σ τ → τ.1 51 = σ.1 51 → (∀ j, j < 65 → τ.1 53 j = σ.1 51 j) → WP G mX7_read 56 [some (.ref 50), some (.int (nI s)), some (.int (nI k)), some (.int 0), some (.int (p_rdC (σ.1 51) n k (zs s) (fun k => σ.2.1 58 (40 * s + k)) cc + p_rdP (σ.1 51) n k (zs s) (fun k => σ.2.1 58 (40 * s + k)) cc pp)), some (.int (nI cc)), some (.int (nI pp))] [] (τ) (PQ σ (M_read (obs σ) (nI s) (nI k))) := by
                intro mp
                induction mp with
                | zero => intro pp τ hmp; exact absurd hmp (Nat.not_lt_zero _)
                | succ mp ihp =>
                  intro pp τ hmp hpl hmr h51 h53
                  refine w_iload dX7_read_56 rfl ?_
                  refine w_bipush dX7_read_58 bp_16 ?_
                  refine w2_icmp_ge (t := 113) dX7_read_60 (by decide) (fun hz6 => ?_) (fun hz6 => ?_)
                  · skip
                    have hgep := nlt_nI (n := 16) (by omega) (by decide) hz6
                    have henp : pp = 16 := by omega
                    subst henp
                    refine w_iincN (a := cc) (b := 1) dX7_read_113 rfl ic_1 (by decide) rfl rfl ?_
                    dsimp only [List.set]
                    refine w_goto (t := 46) dX7_read_116 (by decide) ?_
                    exact ih (cc + 1) τ _ (by omega) (by omega) hmr h51 h53
                  · skip
                    have hltp := lt_nI (n := 16) (by omega) (by decide) hz6
                    refine w_aload_n dX7_read_63 rfl ?_
                    refine w_getR (t := 51) dX7_read_64 fl_X7_7 rfl (by decide) (by decide) rfl ?_
                    refine w_iconst dX7_read_67 ic_1 ?_
                    refine w_iload dX7_read_68 rfl ?_
                    refine w_iast (j := 1) dX7_read_70 rfl (by decide) rfl (by decide) ?_
                    refine w_aload_n dX7_read_71 rfl ?_
                    refine w_getR (t := 51) dX7_read_72 fl_X7_7 rfl (by decide) (by decide) rfl ?_
                    refine w_iconst dX7_read_75 ic_0 ?_
                    refine w_iload dX7_read_76 rfl ?_
                    refine w_iast (j := 0) dX7_read_78 rfl (by decide) rfl (by decide) ?_
                    simp only [wI_51, setR_setR, setR_51]
                    · skip
                      refine w_iload dX7_read_79 rfl ?_
                      refine w_aload_n dX7_read_81 rfl ?_
                      refine w_iload_n dX7_read_82 rfl ?_
                      refine w_iload_n dX7_read_83 rfl ?_
                      refine w_callVqi dX7_read_84 ml_X7_290 mv_X7_isSo rfl rfl (by decide) rfl (e7_isSo G _ s k (zs s) (by omega) (by omega) (by rw [setR_ne (by decide)]; exact (hmr.1 57 s (by decide) (by decide) (by decide) (by decide) (fun e => by cases e)).trans hzs0) hz40 n (by rw [setR_51, updN (by decide), updN (by decide), h51]; exact hn) h8) rfl rfl (Nat.le_of_ble_eq_true rfl) (fun τ1 hq => ?_)
                      refine w_if_eq (t := 94) dX7_read_87 (by decide) (fun hz7 => ?_) (fun hz7 => ?_)
                      · skip
                        refine w_iconst dX7_read_94 ic_0 ?_
                        have hso := hz7
                        simp only [setR_51, setR_ne (show (58 : Nat) ≠ 51 by decide), h51] at hso
                        have e58 : ∀ ff, (setR τ ff).2.1 58 = σ.2.1 58 := fun ff => funext fun j => hmr.2.1 58 j (by decide) (fun e => by cases e)
                        simp only [e58] at hso
                        · skip
                          refine w_iadd dX7_read_95 ?_
                          refine w_istore dX7_read_96 (by decide) rfl rfl ?_
                          dsimp only [List.set]
                          refine w_aload_n dX7_read_98 rfl ?_
                          refine w_iconst dX7_read_99 ic_0 ?_
                          refine w_aload_n dX7_read_100 rfl ?_
                          refine w_getR (t := 53) dX7_read_101 fl_X7_16 rfl (by decide) (by decide) rfl ?_
                          refine w_callVv dX7_read_104 ml_X7_126 mv_X7_moveAll rfl rfl (by decide) rfl (e7_move0 G _ 53 rfl rfl (by decide) (by decide)) rfl rfl (Nat.le_of_ble_eq_true rfl) ?_
                          refine w_iincN (a := pp) (b := 1) dX7_read_107 rfl ic_1 (by decide) rfl rfl ?_
                          dsimp only [List.set]
                          refine w_goto (t := 56) dX7_read_110 (by decide) ?_
                          have q0 := ihp (pp + 1) (cpN τ1 53 51 65) (by omega) (by omega) ?_ ?_ ?_
                          · simp only [p_rdP, hso, if_true, if_false, ← Int32.add_assoc] at q0
                            exact q0
                          · refine hmr.trans ((Mr.setR (f := upd (upd (τ.1 51) 1 (nI cc)) 0 (nI pp))).trans (Mr.trans ⟨fun c j h1 _ _ _ _ => hq.1 c j h1, fun c j _ _ => by rw [hq.2.1], by rw [hq.2.1]⟩ (Mr.cp (by decide))))
                          · refine back51 (fun j hj => by rw [hq.1 53 j (by decide), setR_ne (by decide)]; exact h53 j hj) (fun j hj => ?_)
                            obtain ⟨i, hi⟩ := hq.2.2
                            rw [hi, setR_51, p_pass_65 _ h8 hj, updN (by omega), updN (by omega), h51]
                          · intro j hj
                            rw [cpN_ne (by decide), hq.1 53 j (by decide), setR_ne (by decide)]
                            exact h53 j hj
                      · skip
                        refine w_iconst dX7_read_90 ic_1 ?_
                        refine w_goto (t := 95) dX7_read_91 (by decide) ?_
                        have hso := hz7
                        simp only [setR_51, setR_ne (show (58 : Nat) ≠ 51 by decide), h51] at hso
                        have e58 : ∀ ff, (setR τ ff).2.1 58 = σ.2.1 58 := fun ff => funext fun j => hmr.2.1 58 j (by decide) (fun e => by cases e)
                        simp only [e58] at hso
                        · skip
                          refine w_iadd dX7_read_95 ?_
                          refine w_istore dX7_read_96 (by decide) rfl rfl ?_
                          dsimp only [List.set]
                          refine w_aload_n dX7_read_98 rfl ?_
                          refine w_iconst dX7_read_99 ic_0 ?_
                          refine w_aload_n dX7_read_100 rfl ?_
                          refine w_getR (t := 53) dX7_read_101 fl_X7_16 rfl (by decide) (by decide) rfl ?_
                          refine w_callVv dX7_read_104 ml_X7_126 mv_X7_moveAll rfl rfl (by decide) rfl (e7_move0 G _ 53 rfl rfl (by decide) (by decide)) rfl rfl (Nat.le_of_ble_eq_true rfl) ?_
                          refine w_iincN (a := pp) (b := 1) dX7_read_107 rfl ic_1 (by decide) rfl rfl ?_
                          dsimp only [List.set]
                          refine w_goto (t := 56) dX7_read_110 (by decide) ?_
                          have q0 := ihp (pp + 1) (cpN τ1 53 51 65) (by omega) (by omega) ?_ ?_ ?_
                          · simp only [p_rdP, hso, if_true, if_false, ← Int32.add_assoc] at q0
                            exact q0
                          · refine hmr.trans ((Mr.setR (f := upd (upd (τ.1 51) 1 (nI cc)) 0 (nI pp))).trans (Mr.trans ⟨fun c j h1 _ _ _ _ => hq.1 c j h1, fun c j _ _ => by rw [hq.2.1], by rw [hq.2.1]⟩ (Mr.cp (by decide))))
                          · refine back51 (fun j hj => by rw [hq.1 53 j (by decide), setR_ne (by decide)]; exact h53 j hj) (fun j hj => ?_)
                            obtain ⟨i, hi⟩ := hq.2.2
                            rw [hi, setR_51, p_pass_65 _ h8 hj, updN (by omega), updN (by omega), h51]
                          · intro j hj
                            rw [cpN_ne (by decide), hq.1 53 j (by decide), setR_ne (by decide)]
                            exact h53 j hj
              have q1 := lpp 17 0 τ (by omega) (by omega) hmr h51 h53
              simp only [p_rdP, Int32.add_zero] at q1
              exact q1
        exact lp 101 0 _ none (by omega) (by omega) (Mr.cp (by decide)) (funext fun j => cpN_ne (by decide)) (fun j hj => cpN_b hj)
    · skip
      refine w_aload_n dX7_read_24 rfl ?_
      refine w_ldc dX7_read_25 kc_X7_44 ?_
      refine w_callVi dX7_read_27 ml_X7_53 mv_X7_finds rfl rfl (by decide) rfl (e7_finds G _ _ 0 (by decide) (by decide)) rfl rfl (Nat.le_of_ble_eq_true rfl) ?_
      refine w_iret dX7_read_30 rfl ?_
      rw [hcs] at hb2
      exact PQ.fnd (by simp only [M_read, hcs, obs_1, eq_false hb1, eq_false hb2, eq_true hz4, if_true, if_false])
