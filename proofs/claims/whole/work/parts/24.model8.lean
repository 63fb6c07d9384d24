set_option maxRecDepth 100000 in
set_option maxHeartbeats 800000 in
theorem m_feed (G : GT) (σ : Sg) (bb qx : Int32) (tt : Nat) (htt : σ.1 50 10 = nI tt) (ht120 : tt ≤ 120) : Ev G mX7_feed [.ref 50, .int bb, .int qx] σ (PQ σ (M_feed (obs σ) bb qx)) := by
  refine Ev.ofL (m := 1) (L := [some (.ref 50), some (.int bb), some (.int qx), none]) rfl (Nat.le_of_ble_eq_true rfl) rfl rfl ?_
  refine w_iload_n dX7_feed_0 rfl ?_
  refine w_iconst dX7_feed_1 ic_1 ?_
  refine w_iconst dX7_feed_2 ic_4 ?_
  refine w_callSi dX7_feed_3 ml_X7_45 ms_X7_in rfl (e7_in G _ _ _ _) rfl rfl (Nat.le_of_ble_eq_true rfl) ?_
  refine w_if_ne (t := 16) dX7_feed_6 (by decide) (fun hz1 => ?_) (fun hz1 => ?_)
  · skip
    refine w_aload_n dX7_feed_16 rfl ?_
    refine w_getI dX7_feed_17 fl_X7_172 rfl rfl ?_
    refine w_iload_n dX7_feed_20 rfl ?_
    refine w_iadd dX7_feed_21 ?_
    refine w_bipush dX7_feed_22 bp_120 ?_
    refine w2_icmp_le (t := 34) dX7_feed_24 (by decide) (fun hz2 => ?_) (fun hz2 => ?_)
    · skip
      obtain ⟨qq, hqq, rfl⟩ := in_0 (m := 4) (in_low hz1 (by decide)) rfl (by decide)
      have hcq : (nI qq).toNatClampNeg = qq := nI_clamp (by omega)
      have h12 : tt + qq ≤ 120 := by
        have := hz2
        rw [htt, nI_add] at this
        exact nlt_nI (r := 120) (by decide) (by omega) this
      · skip
        refine w_iload_n dX7_feed_34 rfl ?_
        refine w_iconst dX7_feed_35 ic_1 ?_
        refine w_isub dX7_feed_36 ?_
        refine w_istore_n dX7_feed_37 (by decide) rfl rfl ?_
        dsimp only [List.set]
        have lp : ∀ (m : Nat) (d : Nat) (τ : Sg), d < m → d ≤ qq → Fq σ τ → τ.1 55 = p_fed (σ.1 55) tt qq bb (qq - d) → τ.1 50 10 = nI (tt + (qq - d)) → WP G mX7_feed 38 [some (.ref 50), some (.int bb), some (.int (nI qq)), some (.int (nI d - 1))] [] (τ) (PQ σ (M_feed (obs σ) bb (nI qq))) := by
          intro m
          induction m with
          | zero => intro d τ hm; exact absurd hm (Nat.not_lt_zero _)
          | succ m ih =>
            intro d τ hm hd hfq ht5 ht10
            rcases d with _ | d
            · skip
              refine w_iload_n dX7_feed_38 rfl ?_
              refine w_if_lt (t := 77) dX7_feed_39 (by decide) (fun hz3 => ?_) (fun hz3 => absurd (by decide) hz3)
              refine w_aload_n dX7_feed_77 rfl ?_
              refine w_getI dX7_feed_78 fl_X7_172 rfl rfl ?_
              refine w_iret dX7_feed_81 rfl ?_
              have e0 : τ.1 50 10 = σ.1 50 10 + nI qq := by rw [ht10, htt, nI_add, Nat.sub_zero]
              refine ⟨?_, ?_, Co.fq hfq⟩
              · simp only [M_feed, obs_tm, eq_false hz1, eq_false hz2, if_false, e0]
              · rw [obs_fq hfq, ht5, e0, Nat.sub_zero]
                simp only [M_feed, obs_tm, eq_false hz1, eq_false hz2, if_false, hcq]
                rw [htt, nI_clamp (n := tt) (by omega)]
                rfl
            · skip
              refine w_L (L' := [some (.ref 50), some (.int bb), some (.int (nI qq)), some (.int (nI d))]) (by rw [nI_pred]) ?_
              refine w_iload_n dX7_feed_38 rfl ?_
              refine w_if_lt (t := 77) dX7_feed_39 (by decide) (fun hz4 => absurd hz4 (nI_pos (by omega))) (fun hz4 => ?_)
              refine w_aload_n dX7_feed_42 rfl ?_
              refine w_getR (t := 55) dX7_feed_43 fl_X7_22 rfl (by decide) (by decide) rfl ?_
              refine w_aload_n dX7_feed_46 rfl ?_
              refine w_getI dX7_feed_47 fl_X7_172 rfl rfl ?_
              refine w_eqi ht10 ?_
              · skip
                refine w_iload_n dX7_feed_50 rfl ?_
                refine w_bipush dX7_feed_51 bp_8 ?_
                refine w_iload_n dX7_feed_53 rfl ?_
                refine w_imulN (a := 8) (b := d) dX7_feed_54 ?_
                refine w_ishr dX7_feed_55 ?_
                refine w_sipush dX7_feed_56 sp_255 ?_
                refine w_iand dX7_feed_59 ?_
                refine w_iast (j := tt + (qq - (d + 1))) dX7_feed_60 rfl (by decide) rfl (show tt + (qq - (d + 1)) < 120 by omega) ?_
                refine w_aload_n dX7_feed_61 rfl ?_
                refine w_dup dX7_feed_62 rfl ?_
                refine w_getI dX7_feed_63 fl_X7_172 rfl rfl ?_
                refine w_iconst dX7_feed_66 ic_1 ?_
                refine w_iadd dX7_feed_67 ?_
                refine w_putI dX7_feed_68 fl_X7_172 rfl rfl (by decide +kernel) ?_
                refine w_iinc dX7_feed_71 rfl rfl (by decide) rfl rfl ?_
                dsimp only [List.set]
                refine w_goto (t := 38) dX7_feed_74 (by decide) ?_
                refine w_L (L' := [some (.ref 50), some (.int bb), some (.int (nI qq)), some (.int (nI d - 1))]) (by rw [Int32.sub_eq_add_neg]; rfl) (ih d _ (by omega) (by omega) ⟨fun c j h1 h2 => ?_, ?_⟩ ?_ ?_)
                · rw [show (wI (wI τ 55 (tt + (qq - (d + 1))) _) 50 10 _).1 c j = (wI τ 55 (tt + (qq - (d + 1))) _).1 c j from if_neg h2, wI_c h1]
                  exact hfq.1 c j h1 h2
                · exact hfq.2
                · funext j
                  rw [wI_c (by decide), show qq - d = (qq - (d + 1)) + 1 by omega, p_fed_s, ← ht5, show qq - 1 - (qq - (d + 1)) = d by omega]
                  show (if 55 = 55 ∧ j = tt + (qq - (d + 1)) then _ else _) = _
                  unfold upd
                  by_cases hj : j = tt + (qq - (d + 1)) <;> simp [hj]
                · rw [wI_s, wI_c (by decide), ht10, nI_1]
                  rw [show tt + (qq - (d + 1)) + 1 = tt + (qq - d) by omega]
        have q0 := lp (qq + 1) qq σ (by omega) (by omega) ⟨fun _ _ _ _ => rfl, rfl⟩ (by rw [Nat.sub_self]; rfl) (by rw [Nat.sub_self]; exact htt)
        exact q0
    · skip
      refine w_aload_n dX7_feed_27 rfl ?_
      refine w_ldc dX7_feed_28 kc_X7_64 ?_
      refine w_callVi dX7_feed_30 ml_X7_53 mv_X7_finds rfl rfl (by decide) rfl (e7_finds G _ _ 1 (by decide) (by decide)) rfl rfl (Nat.le_of_ble_eq_true rfl) ?_
      refine w_iret dX7_feed_33 rfl ?_
      exact PQ.fnd (by simp only [M_feed, obs_tm, eq_false hz1, eq_true hz2, if_true, if_false])
  · skip
    refine w_aload_n dX7_feed_9 rfl ?_
    refine w_ldc dX7_feed_10 kc_X7_44 ?_
    refine w_callVi dX7_feed_12 ml_X7_53 mv_X7_finds rfl rfl (by decide) rfl (e7_finds G _ _ 0 (by decide) (by decide)) rfl rfl (Nat.le_of_ble_eq_true rfl) ?_
    refine w_iret dX7_feed_15 rfl ?_
    exact PQ.fnd (by simp only [M_feed, obs_tm, eq_true hz1, if_true, if_false])
set_option maxRecDepth 100000 in
set_option maxHeartbeats 800000 in
theorem e7_narrow (G : GT) (σ : Sg) (bb : Int32) (vv : Int64) : Evl G mX7_narrow [.int bb, .long vv] σ (p_nar bb vv) (σ) := by
  refine Ev.ofL (m := 0) (L := [some (.int bb), some (.long vv), none]) rfl (Nat.le_of_ble_eq_true rfl) rfl rfl ?_
  refine w_iload_n dX7_narrow_0 rfl ?_
  refine w_bipush dX7_narrow_1 bp_8 ?_
  refine w_icmp_ne (t := 16) dX7_narrow_3 (by decide) (fun hz1 => ?_) (fun hz1 => ?_)
  · skip
    refine w_iload_n dX7_narrow_16 rfl ?_
    refine w_bipush dX7_narrow_17 bp_16 ?_
    refine w_icmp_ne (t := 32) dX7_narrow_19 (by decide) (fun hz2 => ?_) (fun hz2 => ?_)
    · skip
      refine w_lload_n dX7_narrow_32 rfl ?_
      refine w_lret dX7_narrow_33 rfl ?_
      exact ⟨by simp only [p_nar, eq_false hz1, eq_false hz2, if_true, if_false], rfl⟩
    · skip
      refine w_lload_n dX7_narrow_22 rfl ?_
      refine w_bipush dX7_narrow_23 bp_48 ?_
      refine w_lshl dX7_narrow_25 ?_
      refine w_bipush dX7_narrow_26 bp_48 ?_
      refine w_lshr dX7_narrow_28 ?_
      refine w_goto (t := 33) dX7_narrow_29 (by decide) ?_
      refine w_lret dX7_narrow_33 rfl ?_
      exact ⟨by simp only [p_nar, eq_false hz1, eq_true hz2, if_true, if_false], rfl⟩
  · skip
    refine w_lload_n dX7_narrow_6 rfl ?_
    refine w_bipush dX7_narrow_7 bp_56 ?_
    refine w_lshl dX7_narrow_9 ?_
    refine w_bipush dX7_narrow_10 bp_56 ?_
    refine w_lshr dX7_narrow_12 ?_
    refine w_goto (t := 33) dX7_narrow_13 (by decide) ?_
    refine w_lret dX7_narrow_33 rfl ?_
    exact ⟨by simp only [p_nar, eq_true hz1, if_true, if_false], rfl⟩
set_option maxRecDepth 100000 in
set_option maxHeartbeats 800000 in
theorem e7_isPart (G : GT) (σ : Sg) (s : Nat) (ax mx : Int32) (hs : s < 4) : Evi G mX7_isPart [.ref 50, .int (nI s), .int ax, .int mx] σ (p_part (σ.1 57 s) ax mx) (σ) := by
  refine Ev.ofL (m := 0) (L := [some (.ref 50), some (.int (nI s)), some (.int ax), some (.int mx)]) rfl (Nat.le_of_ble_eq_true rfl) rfl rfl ?_
  refine w_iload_n dX7_isPart_0 rfl ?_
  refine w_if_lt (t := 34) dX7_isPart_1 (by decide) (fun hz1 => ?_) (fun hz1 => ?_)
  · skip
    refine w_iconst dX7_isPart_34 ic_0 ?_
    refine w_zret dX7_isPart_35 rfl rfl ?_
    exact ⟨by simp only [p_part, eq_true hz1, if_true, if_false], rfl⟩
  · skip
    refine w_iload_n dX7_isPart_4 rfl ?_
    refine w_if_lt (t := 34) dX7_isPart_5 (by decide) (fun hz2 => ?_) (fun hz2 => ?_)
    · skip
      refine w_iconst dX7_isPart_34 ic_0 ?_
      refine w_zret dX7_isPart_35 rfl rfl ?_
      exact ⟨by simp only [p_part, eq_false hz1, eq_true hz2, if_true, if_false], rfl⟩
    · skip
      refine w_iload_n dX7_isPart_8 rfl ?_
      refine w_aload_n dX7_isPart_9 rfl ?_
      refine w_getR (t := 57) dX7_isPart_10 fl_X7_28 rfl (by decide) (by decide) rfl ?_
      refine w_iload_n dX7_isPart_13 rfl ?_
      refine w_iald (j := s) dX7_isPart_14 rfl (by decide) rfl (show s < 4 by omega) ?_
      refine w_icmp_gt (t := 34) dX7_isPart_15 (by decide) (fun hz3 => ?_) (fun hz3 => ?_)
      · skip
        refine w_iconst dX7_isPart_34 ic_0 ?_
        refine w_zret dX7_isPart_35 rfl rfl ?_
        exact ⟨by simp only [p_part, eq_false hz1, eq_false hz2, eq_true hz3, if_true, if_false], rfl⟩
      · skip
        refine w_iload_n dX7_isPart_18 rfl ?_
        refine w_aload_n dX7_isPart_19 rfl ?_
        refine w_getR (t := 57) dX7_isPart_20 fl_X7_28 rfl (by decide) (by decide) rfl ?_
        refine w_iload_n dX7_isPart_23 rfl ?_
        refine w_iald (j := s) dX7_isPart_24 rfl (by decide) rfl (show s < 4 by omega) ?_
        refine w_iload_n dX7_isPart_25 rfl ?_
        refine w_isub dX7_isPart_26 ?_
        refine w_icmp_gt (t := 34) dX7_isPart_27 (by decide) (fun hz4 => ?_) (fun hz4 => ?_)
        · skip
          refine w_iconst dX7_isPart_34 ic_0 ?_
          refine w_zret dX7_isPart_35 rfl rfl ?_
          exact ⟨by simp only [p_part, eq_false hz1, eq_false hz2, eq_false hz3, eq_true hz4, if_true, if_false], rfl⟩
        · skip
          refine w_iconst dX7_isPart_30 ic_1 ?_
          refine w_goto (t := 35) dX7_isPart_31 (by decide) ?_
          refine w_zret dX7_isPart_35 rfl rfl ?_
          exact ⟨by simp only [p_part, eq_false hz1, eq_false hz2, eq_false hz3, eq_false hz4, if_true, if_false], rfl⟩
set_option maxRecDepth 100000 in
set_option maxHeartbeats 800000 in
theorem e7_badSheet (G : GT) (σ : Sg) (sx : Int32) : Evi G mX7_badSheet [.ref 50, .int sx] σ (p_bad (obs σ) sx) (σ) := by
  refine Ev.ofL (m := 0) (L := [some (.ref 50), some (.int sx)]) rfl (Nat.le_of_ble_eq_true rfl) rfl rfl ?_
  refine w_iload_n dX7_badSheet_0 rfl ?_
  refine w_callSi dX7_badSheet_1 ml_X7_273 ms_X7_isSheet rfl (e7_isSheet G _ _) rfl rfl (Nat.le_of_ble_eq_true rfl) ?_
  refine w_if_ne (t := 12) dX7_badSheet_4 (by decide) (fun hz1 => ?_) (fun hz1 => ?_)
  · skip
    obtain ⟨s, hs3, rfl⟩ := in_0 (m := 3) hz1 rfl (by decide)
    have hcs : (nI s).toNatClampNeg = s := nI_clamp (by omega)
    · skip
      refine w_aload_n dX7_badSheet_12 rfl ?_
      refine w_getR (t := 56) dX7_badSheet_13 fl_X7_25 rfl (by decide) (by decide) rfl ?_
      refine w_iload_n dX7_badSheet_16 rfl ?_
      refine w_iald (j := s) dX7_badSheet_17 rfl (by decide) rfl (show s < 4 by omega) ?_
      refine w_if_ne (t := 27) dX7_badSheet_18 (by decide) (fun hz2 => ?_) (fun hz2 => ?_)
      · skip
        refine w_iconst dX7_badSheet_27 ic_0 ?_
        refine w_iret dX7_badSheet_28 rfl ?_
        exact ⟨by simp only [p_bad, mBit_o, eq_false hz1, eq_false hz2, hcs, if_true, if_false], rfl⟩
      · skip
        refine w_ldcw dX7_badSheet_21 kc_X7_277 ?_
        refine w_goto (t := 28) dX7_badSheet_24 (by decide) ?_
        refine w_iret dX7_badSheet_28 rfl ?_
        exact ⟨by simp only [p_bad, mBit_o, eq_false hz1, eq_true hz2, hcs, if_true, if_false], rfl⟩
  · skip
    refine w_ldc dX7_badSheet_7 kc_X7_44 ?_
    refine w_goto (t := 28) dX7_badSheet_9 (by decide) ?_
    refine w_iret dX7_badSheet_28 rfl ?_
    exact ⟨by simp only [p_bad, mBit_o, eq_true hz1, if_true, if_false], rfl⟩
set_option maxRecDepth 100000 in
set_option maxHeartbeats 800000 in
theorem m_write (G : GT) (σ : Sg) (sx ix : Int32) (vv : Int64) (zs : Nat → Nat) (hzs : ∀ s, s < 4 → σ.1 57 s = nI (zs s) ∧ zs s ≤ 40) : Ev G mX7_write [.ref 50, .int sx, .int ix, .long vv] σ (PQl σ (M_write (obs σ) sx ix vv)) := by
  refine Ev.ofL (m := 2) (L := [some (.ref 50), some (.int sx), some (.int ix), some (.long vv), none, none, none]) rfl (Nat.le_of_ble_eq_true rfl) rfl rfl ?_
  refine w_iload_n dX7_write_0 rfl ?_
  refine w_callSi dX7_write_1 ml_X7_273 ms_X7_isSheet rfl (e7_isSheet G _ _) rfl rfl (Nat.le_of_ble_eq_true rfl) ?_
  refine w_if_ne (t := 15) dX7_write_4 (by decide) (fun hz1 => ?_) (fun hz1 => ?_)
  · skip
    obtain ⟨s, hs3, rfl⟩ := in_0 (m := 3) hz1 rfl (by decide)
    have hcs : (nI s).toNatClampNeg = s := nI_clamp (by omega)
    · skip
      refine w_aload_n dX7_write_15 rfl ?_
      refine w_getR (t := 56) dX7_write_16 fl_X7_25 rfl (by decide) (by decide) rfl ?_
      refine w_iload_n dX7_write_19 rfl ?_
      refine w_iald (j := s) dX7_write_20 rfl (by decide) rfl (show s < 4 by omega) ?_
      refine w_if_ne (t := 33) dX7_write_21 (by decide) (fun hz2 => ?_) (fun hz2 => ?_)
      · skip
        refine w_iload_n dX7_write_33 rfl ?_
        refine w_iconst dX7_write_34 ic_0 ?_
        refine w_aload_n dX7_write_35 rfl ?_
        refine w_getR (t := 57) dX7_write_36 fl_X7_28 rfl (by decide) (by decide) rfl ?_
        refine w_iload_n dX7_write_39 rfl ?_
        refine w_iald (j := s) dX7_write_40 rfl (by decide) rfl (show s < 4 by omega) ?_
        refine w_iconst dX7_write_41 ic_1 ?_
        refine w_isub dX7_write_42 ?_
        refine w_callSi dX7_write_43 ml_X7_45 ms_X7_in rfl (e7_in G _ _ _ _) rfl rfl (Nat.le_of_ble_eq_true rfl) ?_
        refine w_if_ne (t := 57) dX7_write_46 (by decide) (fun hz3 => ?_) (fun hz3 => ?_)
        · skip
          obtain ⟨i, hi, rfl⟩ := in_lt hz3 (hzs s (by omega)).1 (by have := (hzs s (by omega)).2; omega)
          have hz40 := (hzs s (by omega)).2
          have hci : (nI i).toNatClampNeg = i := nI_clamp (by omega)
          · skip
            refine w_aload_n dX7_write_57 rfl ?_
            refine w_getR (t := 58) dX7_write_58 fl_X7_31 rfl (by decide) (by decide) rfl ?_
            refine w_bipush dX7_write_61 bp_40 ?_
            refine w_iload_n dX7_write_63 rfl ?_
            refine w_imulN (a := 40) (b := s) dX7_write_64 ?_
            refine w_iload_n dX7_write_65 rfl ?_
            refine w_iaddN (a := 40 * s) (b := i) dX7_write_66 ?_
            refine w_lald (j := 40 * s + i) dX7_write_67 rfl rfl (show 40 * s + i < 160 by omega) ?_
            refine w_lstore dX7_write_68 (by decide) rfl rfl ?_
            dsimp only [List.set]
            refine w_aload_n dX7_write_70 rfl ?_
            refine w_getR (t := 58) dX7_write_71 fl_X7_31 rfl (by decide) (by decide) rfl ?_
            refine w_bipush dX7_write_74 bp_40 ?_
            refine w_iload_n dX7_write_76 rfl ?_
            refine w_imulN (a := 40) (b := s) dX7_write_77 ?_
            refine w_iload_n dX7_write_78 rfl ?_
            refine w_iaddN (a := 40 * s) (b := i) dX7_write_79 ?_
            refine w_aload_n dX7_write_80 rfl ?_
            refine w_getR (t := 56) dX7_write_81 fl_X7_25 rfl (by decide) (by decide) rfl ?_
            refine w_iload_n dX7_write_84 rfl ?_
            refine w_iald (j := s) dX7_write_85 rfl (by decide) rfl (show s < 4 by omega) ?_
            refine w_lload_n dX7_write_86 rfl ?_
            refine w_callSl dX7_write_87 ml_X7_278 ms_X7_narrow rfl (e7_narrow G _ _ _) rfl rfl (Nat.le_of_ble_eq_true rfl) ?_
            refine w_last (j := 40 * s + i) dX7_write_90 rfl rfl (show 40 * s + i < 160 by omega) ?_
            refine w_lload dX7_write_91 rfl ?_
            refine w_lret dX7_write_93 rfl ?_
            have hA : M_write (obs σ) (nI s) (nI i) vv = (σ.2.1 58 (40 * s + i), sShe (obs σ) (vp_updL (σ.2.1 58) (40 * s + i) (p_nar (σ.1 56 s) vv))) := by simp only [M_write, mBit_o, mSiz_o, mShe_o, eq_false hz1, eq_false hz2, eq_false hz3, hcs, hci, if_true, if_false]
            rw [hA]
            refine ⟨rfl, ?_, Co.wl (by decide)⟩
            unfold obs sShe wL vp_updL
            simp
        · skip
          refine w_aload_n dX7_write_49 rfl ?_
          refine w_ldc dX7_write_50 kc_X7_44 ?_
          refine w_callVi dX7_write_52 ml_X7_53 mv_X7_finds rfl rfl (by decide) rfl (e7_finds G _ _ 0 (by decide) (by decide)) rfl rfl (Nat.le_of_ble_eq_true rfl) ?_
          refine w_i2l dX7_write_55 ?_
          refine w_lret dX7_write_56 rfl ?_
          exact PQl.fnd (by simp only [M_write, mBit_o, mSiz_o, mShe_o, eq_false hz1, eq_false hz2, eq_true hz3, hcs, if_true, if_false])
      · skip
        refine w_aload_n dX7_write_24 rfl ?_
        refine w_ldcw dX7_write_25 kc_X7_277 ?_
        refine w_callVi dX7_write_28 ml_X7_53 mv_X7_finds rfl rfl (by decide) rfl (e7_finds G _ _ 5 (by decide) (by decide)) rfl rfl (Nat.le_of_ble_eq_true rfl) ?_
        refine w_i2l dX7_write_31 ?_
        refine w_lret dX7_write_32 rfl ?_
        exact PQl.fnd (by simp only [M_write, mBit_o, mSiz_o, mShe_o, eq_false hz1, eq_true hz2, hcs, if_true, if_false])
  · skip
    refine w_aload_n dX7_write_7 rfl ?_
    refine w_ldc dX7_write_8 kc_X7_44 ?_
    refine w_callVi dX7_write_10 ml_X7_53 mv_X7_finds rfl rfl (by decide) rfl (e7_finds G _ _ 0 (by decide) (by decide)) rfl rfl (Nat.le_of_ble_eq_true rfl) ?_
    refine w_i2l dX7_write_13 ?_
    refine w_lret dX7_write_14 rfl ?_
    exact PQl.fnd (by simp only [M_write, mBit_o, mSiz_o, mShe_o, eq_true hz1, if_true, if_false])
