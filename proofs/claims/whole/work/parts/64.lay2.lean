set_option maxRecDepth 100000 in
set_option maxHeartbeats 800000 in
theorem k_layCloud (G : GT) (σ : Sg) (σ0 : Sg) (g : Nat → Int32) (t p : Nat) (hT : TS σ0 g t) (hX : XS σ0 σ g t p) (f : Nat → Int32) (n : Nat) (hR : Rp σ 2 f n) (hv : RV f n) : Ev G mX2_layCloud [.ref 4, .ref 10] σ (LQ σ0 g t (r_cloud g t f p)) := by
  have h8 := hv.le
  refine Ev.ofL (m := 0) (L := [some (.ref 4), some (.ref 10)]) rfl (Nat.le_of_ble_eq_true rfl) rfl rfl ?_
  refine w_aload_n dX2_layCloud_0 rfl ?_
  refine w_aload_n dX2_layCloud_1 rfl ?_
  refine w_iconst dX2_layCloud_2 ic_0 ?_
  refine w_callVqi dX2_layCloud_3 ml_X2_69 mv_X2_takeCloudPart rfl rfl (by decide) rfl (k_takePart G _ g t p (hT.tx hX.1) hX.2.2.2 hX.2.2.1 0 (by decide)) rfl rfl (Nat.le_of_ble_eq_true rfl) (fun τ1 h1 => ?_)
  refine w_if_ne (t := 11) dX2_layCloud_6 (by decide) (fun hz1 => ?_) (fun hz1 => ?_)
  · skip
    have h1y := h1.2 hz1
    have hP1 : Pl σ (wI σ 10 0 (tkV g t p)) 2 (upd f 0 (tkV g t p)) n := Pl.cldw hR pp2 hX.2.1 h8 (by decide)
    have hX1 : XS σ0 τ1 g t (tkE g t p) := (hX.pl hP1).tc h1y.1 h1y.2 (tkE_le hX.2.2.2)
    have hR1 : Rp τ1 2 (upd f 0 (tkV g t p)) n := hP1.1.tc hP1.2.1 h8 h1y.1
    have hv1 : RV (upd f 0 (tkV g t p)) n := hv.cldw (k := 0) (by decide) (show iB (tkV g t p) 0 15 from val_B hz1)
    refine w_aload_n dX2_layCloud_11 rfl ?_
    refine w_ldcS (i := 7) (by decide) dX2_layCloud_12 rfl ?_
    refine w_callVqi dX2_layCloud_14 ml_X2_52 mv_X2_takeWord rfl rfl (by decide) rfl (k_takeWord G _ g t (tkE g t p) (hT.tx hX1.1) hX1.2.2.2 hX1.2.2.1 7 (by decide)) rfl rfl (Nat.le_of_ble_eq_true rfl) (fun τ2 h2 => ?_)
    refine w_if_eq (t := 31) dX2_layCloud_17 (by decide) (fun hz2 => ?_) (fun hz2 => ?_)
    · skip
      have hXc : XS σ0 τ2 g t (tkE g t p) := hX1.tc h2.1 (by have q0 := h2.2; rw [if_pos hz2] at q0; exact q0) hX1.2.2.2
      have hRc : Rp τ2 2 (upd f 0 (tkV g t p)) n := hR1.tc hX1.2.1 h8 h2.1
      have hvc : RV (upd f 0 (tkV g t p)) n := hv1
      refine w_aload_n dX2_layCloud_31 rfl ?_
      refine w_ldcS (i := 8) (by decide) dX2_layCloud_32 rfl ?_
      refine w_callVqi dX2_layCloud_34 ml_X2_52 mv_X2_takeWord rfl rfl (by decide) rfl (k_takeWord G _ g t (tkE g t p) (hT.tx hXc.1) hXc.2.2.2 hXc.2.2.1 8 (by decide)) rfl rfl (Nat.le_of_ble_eq_true rfl) (fun τ4 h4 => ?_)
      refine w_if_eq (t := 48) dX2_layCloud_37 (by decide) (fun hz3 => ?_) (fun hz3 => ?_)
      · skip
        have hX4n : XS σ0 τ4 g t (tkE g t p) := hXc.tc h4.1 (by have q0 := h4.2; rw [if_pos hz3] at q0; exact q0) hXc.2.2.2
        have hR4 : Rp τ4 2 (upd f 0 (tkV g t p)) n := hRc.tc hXc.2.1 h8 h4.1
        refine w_aload_n dX2_layCloud_48 rfl ?_
        refine w_ldcS (i := 9) (by decide) dX2_layCloud_49 rfl ?_
        refine w_callVqi dX2_layCloud_51 ml_X2_52 mv_X2_takeWord rfl rfl (by decide) rfl (k_takeWord G _ g t (tkE g t p) (hT.tx hX4n.1) hX4n.2.2.2 hX4n.2.2.1 9 (by decide)) rfl rfl (Nat.le_of_ble_eq_true rfl) (fun τ5 h5 => ?_)
        refine w_if_eq (t := 65) dX2_layCloud_54 (by decide) (fun hz4 => ?_) (fun hz4 => ?_)
        · skip
          have hX5n : XS σ0 τ5 g t (tkE g t p) := hX4n.tc h5.1 (by have q0 := h5.2; rw [if_pos hz4] at q0; exact q0) hX4n.2.2.2
          have hR5 : Rp τ5 2 (upd f 0 (tkV g t p)) n := hR4.tc hX4n.2.1 h8 h5.1
          refine w_aload_n dX2_layCloud_65 rfl ?_
          refine w_ldcS (i := 10) (by decide) dX2_layCloud_66 rfl ?_
          refine w_callVqi dX2_layCloud_68 ml_X2_52 mv_X2_takeWord rfl rfl (by decide) rfl (k_takeWord G _ g t (tkE g t p) (hT.tx hX5n.1) hX5n.2.2.2 hX5n.2.2.1 10 (by decide)) rfl rfl (Nat.le_of_ble_eq_true rfl) (fun τ6 h6 => ?_)
          refine w_if_eq (t := 79) dX2_layCloud_71 (by decide) (fun hz5 => ?_) (fun hz5 => ?_)
          · skip
            have hX6n : XS σ0 τ6 g t (tkE g t p) := hX5n.tc h6.1 (by have q0 := h6.2; rw [if_pos hz5] at q0; exact q0) hX5n.2.2.2
            have hR6 : Rp τ6 2 (upd f 0 (tkV g t p)) n := hR5.tc hX5n.2.1 h8 h6.1
            refine w_iconst dX2_layCloud_79 ic_1 ?_
            refine w_zret dX2_layCloud_80 rfl rfl ?_
            exact LQ.ok (m := n) (by simp only [r_cloud, r_ch, r_dr, eq_false (show ¬ isN g t p 0 15 = 0 from hz1), eq_true (show t_is g t (tkE g t p) 47331248 = 0 from hz2), eq_true (show t_is g t (tkE g t p) 240023 = 0 from hz3), eq_true (show t_is g t (tkE g t p) 9748424 = 0 from hz4), eq_true (show t_is g t (tkE g t p) 10497936 = 0 from hz5), if_true, if_false]) hX6n hvc hR6
          · skip
            have hX6y : XS σ0 τ6 g t (tkE g t (tkE g t p)) := hX5n.tc h6.1 (by have q0 := h6.2; rw [if_neg hz5] at q0; exact q0) (tkE_le hX5n.2.2.2)
            have hR6y : Rp τ6 2 (upd f 0 (tkV g t p)) n := hR5.tc hX5n.2.1 h8 h6.1
            refine w_aload_n dX2_layCloud_74 rfl ?_
            refine w_iconst dX2_layCloud_75 ic_0 ?_
            refine w_putI dX2_layCloud_76 fl_X2_111 rfl rfl (by decide +kernel) ?_
            have hPe : Pl τ6 (wI τ6 10 2 0) 2 (upd (upd f 0 (tkV g t p)) 2 0) n := Pl.cldw hR6y pp2 hX6y.2.1 h8 (by decide)
            have hXe := hX6y.pl hPe
            have hRe := hPe.1
            have hve : RV (upd (upd f 0 (tkV g t p)) 2 0) n := hvc.cldw (k := 2) (by decide) (show iB 0 (-1) 1 from ⟨by decide, by decide⟩)
            refine w_iconst dX2_layCloud_79 ic_1 ?_
            refine w_zret dX2_layCloud_80 rfl rfl ?_
            exact LQ.ok (m := n) (by simp only [r_cloud, r_ch, r_dr, eq_false (show ¬ isN g t p 0 15 = 0 from hz1), eq_true (show t_is g t (tkE g t p) 47331248 = 0 from hz2), eq_true (show t_is g t (tkE g t p) 240023 = 0 from hz3), eq_true (show t_is g t (tkE g t p) 9748424 = 0 from hz4), eq_false (show ¬ t_is g t (tkE g t p) 10497936 = 0 from hz5), if_true, if_false]) hXe hve hRe
        · skip
          have hX5y : XS σ0 τ5 g t (tkE g t (tkE g t p)) := hX4n.tc h5.1 (by have q0 := h5.2; rw [if_neg hz4] at q0; exact q0) (tkE_le hX4n.2.2.2)
          have hR5y : Rp τ5 2 (upd f 0 (tkV g t p)) n := hR4.tc hX4n.2.1 h8 h5.1
          refine w_aload_n dX2_layCloud_57 rfl ?_
          refine w_iconst dX2_layCloud_58 ic_1 ?_
          refine w_putI dX2_layCloud_59 fl_X2_111 rfl rfl (by decide +kernel) ?_
          refine w_goto (t := 79) dX2_layCloud_62 (by decide) ?_
          have hPe : Pl τ5 (wI τ5 10 2 1) 2 (upd (upd f 0 (tkV g t p)) 2 1) n := Pl.cldw hR5y pp2 hX5y.2.1 h8 (by decide)
          have hXe := hX5y.pl hPe
          have hRe := hPe.1
          have hve : RV (upd (upd f 0 (tkV g t p)) 2 1) n := hvc.cldw (k := 2) (by decide) (show iB 1 (-1) 1 from ⟨by decide, by decide⟩)
          refine w_iconst dX2_layCloud_79 ic_1 ?_
          refine w_zret dX2_layCloud_80 rfl rfl ?_
          exact LQ.ok (m := n) (by simp only [r_cloud, r_ch, r_dr, eq_false (show ¬ isN g t p 0 15 = 0 from hz1), eq_true (show t_is g t (tkE g t p) 47331248 = 0 from hz2), eq_true (show t_is g t (tkE g t p) 240023 = 0 from hz3), eq_false (show ¬ t_is g t (tkE g t p) 9748424 = 0 from hz4), if_true, if_false]) hXe hve hRe
      · skip
        have hX4y : XS σ0 τ4 g t (tkE g t (tkE g t p)) := hXc.tc h4.1 (by have q0 := h4.2; rw [if_neg hz3] at q0; exact q0) (tkE_le hXc.2.2.2)
        have hR4y : Rp τ4 2 (upd f 0 (tkV g t p)) n := hRc.tc hXc.2.1 h8 h4.1
        refine w_aload_n dX2_layCloud_40 rfl ?_
        refine w_iconst dX2_layCloud_41 ic_m1 ?_
        refine w_putI dX2_layCloud_42 fl_X2_111 rfl rfl (by decide +kernel) ?_
        refine w_goto (t := 79) dX2_layCloud_45 (by decide) ?_
        have hPe : Pl τ4 (wI τ4 10 2 (-1)) 2 (upd (upd f 0 (tkV g t p)) 2 (-1)) n := Pl.cldw hR4y pp2 hX4y.2.1 h8 (by decide)
        have hXe := hX4y.pl hPe
        have hRe := hPe.1
        have hve : RV (upd (upd f 0 (tkV g t p)) 2 (-1)) n := hvc.cldw (k := 2) (by decide) (show iB (-1) (-1) 1 from ⟨by decide, by decide⟩)
        refine w_iconst dX2_layCloud_79 ic_1 ?_
        refine w_zret dX2_layCloud_80 rfl rfl ?_
        exact LQ.ok (m := n) (by simp only [r_cloud, r_ch, r_dr, eq_false (show ¬ isN g t p 0 15 = 0 from hz1), eq_true (show t_is g t (tkE g t p) 47331248 = 0 from hz2), eq_false (show ¬ t_is g t (tkE g t p) 240023 = 0 from hz3), if_true, if_false]) hXe hve hRe
    · skip
      have hX2y : XS σ0 τ2 g t (tkE g t (tkE g t p)) := hX1.tc h2.1 (by have q0 := h2.2; rw [if_neg hz2] at q0; exact q0) (tkE_le hX1.2.2.2)
      have hR2y : Rp τ2 2 (upd f 0 (tkV g t p)) n := hR1.tc hX1.2.1 h8 h2.1
      refine w_aload_n dX2_layCloud_20 rfl ?_
      refine w_aload_n dX2_layCloud_21 rfl ?_
      refine w_iconst dX2_layCloud_22 ic_1 ?_
      refine w_callVqi dX2_layCloud_23 ml_X2_69 mv_X2_takeCloudPart rfl rfl (by decide) rfl (k_takePart G _ g t (tkE g t (tkE g t p)) (hT.tx hX2y.1) hX2y.2.2.2 hX2y.2.2.1 1 (by decide)) rfl rfl (Nat.le_of_ble_eq_true rfl) (fun τ3 h3 => ?_)
      refine w_if_ne (t := 31) dX2_layCloud_26 (by decide) (fun hz6 => ?_) (fun hz6 => ?_)
      · skip
        have h3y := h3.2 hz6
        have hP3 : Pl τ2 (wI τ2 10 1 (tkV g t (tkE g t (tkE g t p)))) 2 (upd (upd f 0 (tkV g t p)) 1 (tkV g t (tkE g t (tkE g t p)))) n := Pl.cldw hR2y pp2 hX2y.2.1 h8 (by decide)
        have hXc : XS σ0 τ3 g t (tkE g t (tkE g t (tkE g t p))) := (hX2y.pl hP3).tc h3y.1 h3y.2 (tkE_le hX2y.2.2.2)
        have hRc : Rp τ3 2 (upd (upd f 0 (tkV g t p)) 1 (tkV g t (tkE g t (tkE g t p)))) n := hP3.1.tc hP3.2.1 h8 h3y.1
        have hvc : RV (upd (upd f 0 (tkV g t p)) 1 (tkV g t (tkE g t (tkE g t p)))) n := hv1.cldw (k := 1) (by decide) (show iB (tkV g t (tkE g t (tkE g t p))) 0 99 from val_B hz6)
        refine w_aload_n dX2_layCloud_31 rfl ?_
        refine w_ldcS (i := 8) (by decide) dX2_layCloud_32 rfl ?_
        refine w_callVqi dX2_layCloud_34 ml_X2_52 mv_X2_takeWord rfl rfl (by decide) rfl (k_takeWord G _ g t (tkE g t (tkE g t (tkE g t p))) (hT.tx hXc.1) hXc.2.2.2 hXc.2.2.1 8 (by decide)) rfl rfl (Nat.le_of_ble_eq_true rfl) (fun τ4 h4 => ?_)
        refine w_if_eq (t := 48) dX2_layCloud_37 (by decide) (fun hz7 => ?_) (fun hz7 => ?_)
        · skip
          have hX4n : XS σ0 τ4 g t (tkE g t (tkE g t (tkE g t p))) := hXc.tc h4.1 (by have q0 := h4.2; rw [if_pos hz7] at q0; exact q0) hXc.2.2.2
          have hR4 : Rp τ4 2 (upd (upd f 0 (tkV g t p)) 1 (tkV g t (tkE g t (tkE g t p)))) n := hRc.tc hXc.2.1 h8 h4.1
          refine w_aload_n dX2_layCloud_48 rfl ?_
          refine w_ldcS (i := 9) (by decide) dX2_layCloud_49 rfl ?_
          refine w_callVqi dX2_layCloud_51 ml_X2_52 mv_X2_takeWord rfl rfl (by decide) rfl (k_takeWord G _ g t (tkE g t (tkE g t (tkE g t p))) (hT.tx hX4n.1) hX4n.2.2.2 hX4n.2.2.1 9 (by decide)) rfl rfl (Nat.le_of_ble_eq_true rfl) (fun τ5 h5 => ?_)
          refine w_if_eq (t := 65) dX2_layCloud_54 (by decide) (fun hz8 => ?_) (fun hz8 => ?_)
          · skip
            have hX5n : XS σ0 τ5 g t (tkE g t (tkE g t (tkE g t p))) := hX4n.tc h5.1 (by have q0 := h5.2; rw [if_pos hz8] at q0; exact q0) hX4n.2.2.2
            have hR5 : Rp τ5 2 (upd (upd f 0 (tkV g t p)) 1 (tkV g t (tkE g t (tkE g t p)))) n := hR4.tc hX4n.2.1 h8 h5.1
            refine w_aload_n dX2_layCloud_65 rfl ?_
            refine w_ldcS (i := 10) (by decide) dX2_layCloud_66 rfl ?_
            refine w_callVqi dX2_layCloud_68 ml_X2_52 mv_X2_takeWord rfl rfl (by decide) rfl (k_takeWord G _ g t (tkE g t (tkE g t (tkE g t p))) (hT.tx hX5n.1) hX5n.2.2.2 hX5n.2.2.1 10 (by decide)) rfl rfl (Nat.le_of_ble_eq_true rfl) (fun τ6 h6 => ?_)
            refine w_if_eq (t := 79) dX2_layCloud_71 (by decide) (fun hz9 => ?_) (fun hz9 => ?_)
            · skip
              have hX6n : XS σ0 τ6 g t (tkE g t (tkE g t (tkE g t p))) := hX5n.tc h6.1 (by have q0 := h6.2; rw [if_pos hz9] at q0; exact q0) hX5n.2.2.2
              have hR6 : Rp τ6 2 (upd (upd f 0 (tkV g t p)) 1 (tkV g t (tkE g t (tkE g t p)))) n := hR5.tc hX5n.2.1 h8 h6.1
              refine w_iconst dX2_layCloud_79 ic_1 ?_
              refine w_zret dX2_layCloud_80 rfl rfl ?_
              exact LQ.ok (m := n) (by simp only [r_cloud, r_ch, r_dr, eq_false (show ¬ isN g t p 0 15 = 0 from hz1), eq_false (show ¬ t_is g t (tkE g t p) 47331248 = 0 from hz2), eq_false (show ¬ isN g t (tkE g t (tkE g t p)) 0 99 = 0 from hz6), eq_true (show t_is g t (tkE g t (tkE g t (tkE g t p))) 240023 = 0 from hz7), eq_true (show t_is g t (tkE g t (tkE g t (tkE g t p))) 9748424 = 0 from hz8), eq_true (show t_is g t (tkE g t (tkE g t (tkE g t p))) 10497936 = 0 from hz9), if_true, if_false]) hX6n hvc hR6
            · skip
              have hX6y : XS σ0 τ6 g t (tkE g t (tkE g t (tkE g t (tkE g t p)))) := hX5n.tc h6.1 (by have q0 := h6.2; rw [if_neg hz9] at q0; exact q0) (tkE_le hX5n.2.2.2)
              have hR6y : Rp τ6 2 (upd (upd f 0 (tkV g t p)) 1 (tkV g t (tkE g t (tkE g t p)))) n := hR5.tc hX5n.2.1 h8 h6.1
              refine w_aload_n dX2_layCloud_74 rfl ?_
              refine w_iconst dX2_layCloud_75 ic_0 ?_
              refine w_putI dX2_layCloud_76 fl_X2_111 rfl rfl (by decide +kernel) ?_
              have hPe : Pl τ6 (wI τ6 10 2 0) 2 (upd (upd (upd f 0 (tkV g t p)) 1 (tkV g t (tkE g t (tkE g t p)))) 2 0) n := Pl.cldw hR6y pp2 hX6y.2.1 h8 (by decide)
              have hXe := hX6y.pl hPe
              have hRe := hPe.1
              have hve : RV (upd (upd (upd f 0 (tkV g t p)) 1 (tkV g t (tkE g t (tkE g t p)))) 2 0) n := hvc.cldw (k := 2) (by decide) (show iB 0 (-1) 1 from ⟨by decide, by decide⟩)
              refine w_iconst dX2_layCloud_79 ic_1 ?_
              refine w_zret dX2_layCloud_80 rfl rfl ?_
              exact LQ.ok (m := n) (by simp only [r_cloud, r_ch, r_dr, eq_false (show ¬ isN g t p 0 15 = 0 from hz1), eq_false (show ¬ t_is g t (tkE g t p) 47331248 = 0 from hz2), eq_false (show ¬ isN g t (tkE g t (tkE g t p)) 0 99 = 0 from hz6), eq_true (show t_is g t (tkE g t (tkE g t (tkE g t p))) 240023 = 0 from hz7), eq_true (show t_is g t (tkE g t (tkE g t (tkE g t p))) 9748424 = 0 from hz8), eq_false (show ¬ t_is g t (tkE g t (tkE g t (tkE g t p))) 10497936 = 0 from hz9), if_true, if_false]) hXe hve hRe
          · skip
            have hX5y : XS σ0 τ5 g t (tkE g t (tkE g t (tkE g t (tkE g t p)))) := hX4n.tc h5.1 (by have q0 := h5.2; rw [if_neg hz8] at q0; exact q0) (tkE_le hX4n.2.2.2)
            have hR5y : Rp τ5 2 (upd (upd f 0 (tkV g t p)) 1 (tkV g t (tkE g t (tkE g t p)))) n := hR4.tc hX4n.2.1 h8 h5.1
            refine w_aload_n dX2_layCloud_57 rfl ?_
            refine w_iconst dX2_layCloud_58 ic_1 ?_
            refine w_putI dX2_layCloud_59 fl_X2_111 rfl rfl (by decide +kernel) ?_
            refine w_goto (t := 79) dX2_layCloud_62 (by decide) ?_
            have hPe : Pl τ5 (wI τ5 10 2 1) 2 (upd (upd (upd f 0 (tkV g t p)) 1 (tkV g t (tkE g t (tkE g t p)))) 2 1) n := Pl.cldw hR5y pp2 hX5y.2.1 h8 (by decide)
            have hXe := hX5y.pl hPe
            have hRe := hPe.1
            have hve : RV (upd (upd (upd f 0 (tkV g t p)) 1 (tkV g t (tkE g t (tkE g t p)))) 2 1) n := hvc.cldw (k := 2) (by decide) (show iB 1 (-1) 1 from ⟨by decide, by decide⟩)
            refine w_iconst dX2_layCloud_79 ic_1 ?_
            refine w_zret dX2_layCloud_80 rfl rfl ?_
            exact LQ.ok (m := n) (by simp only [r_cloud, r_ch, r_dr, eq_false (show ¬ isN g t p 0 15 = 0 from hz1), eq_false (show ¬ t_is g t (tkE g t p) 47331248 = 0 from hz2), eq_false (show ¬ isN g t (tkE g t (tkE g t p)) 0 99 = 0 from hz6), eq_true (show t_is g t (tkE g t (tkE g t (tkE g t p))) 240023 = 0 from hz7), eq_false (show ¬ t_is g t (tkE g t (tkE g t (tkE g t p))) 9748424 = 0 from hz8), if_true, if_false]) hXe hve hRe
        · skip
          have hX4y : XS σ0 τ4 g t (tkE g t (tkE g t (tkE g t (tkE g t p)))) := hXc.tc h4.1 (by have q0 := h4.2; rw [if_neg hz7] at q0; exact q0) (tkE_le hXc.2.2.2)
          have hR4y : Rp τ4 2 (upd (upd f 0 (tkV g t p)) 1 (tkV g t (tkE g t (tkE g t p)))) n := hRc.tc hXc.2.1 h8 h4.1
          refine w_aload_n dX2_layCloud_40 rfl ?_
          refine w_iconst dX2_layCloud_41 ic_m1 ?_
          refine w_putI dX2_layCloud_42 fl_X2_111 rfl rfl (by decide +kernel) ?_
          refine w_goto (t := 79) dX2_layCloud_45 (by decide) ?_
          have hPe : Pl τ4 (wI τ4 10 2 (-1)) 2 (upd (upd (upd f 0 (tkV g t p)) 1 (tkV g t (tkE g t (tkE g t p)))) 2 (-1)) n := Pl.cldw hR4y pp2 hX4y.2.1 h8 (by decide)
          have hXe := hX4y.pl hPe
          have hRe := hPe.1
          have hve : RV (upd (upd (upd f 0 (tkV g t p)) 1 (tkV g t (tkE g t (tkE g t p)))) 2 (-1)) n := hvc.cldw (k := 2) (by decide) (show iB (-1) (-1) 1 from ⟨by decide, by decide⟩)
          refine w_iconst dX2_layCloud_79 ic_1 ?_
          refine w_zret dX2_layCloud_80 rfl rfl ?_
          exact LQ.ok (m := n) (by simp only [r_cloud, r_ch, r_dr, eq_false (show ¬ isN g t p 0 15 = 0 from hz1), eq_false (show ¬ t_is g t (tkE g t p) 47331248 = 0 from hz2), eq_false (show ¬ isN g t (tkE g t (tkE g t p)) 0 99 = 0 from hz6), eq_false (show ¬ t_is g t (tkE g t (tkE g t (tkE g t p))) 240023 = 0 from hz7), if_true, if_false]) hXe hve hRe
      · skip
        refine w_iconst dX2_layCloud_29 ic_0 ?_
        refine w_zret dX2_layCloud_30 rfl rfl ?_
        rw [h3.1 hz6]
        exact LQ.bad (f := f) (by simp only [r_cloud, r_ch, r_dr, eq_false (show ¬ isN g t p 0 15 = 0 from hz1), eq_false (show ¬ t_is g t (tkE g t p) 47331248 = 0 from hz2), eq_true (show isN g t (tkE g t (tkE g t p)) 0 99 = 0 from hz6), if_true, if_false]) hX2y
  · skip
    refine w_iconst dX2_layCloud_9 ic_0 ?_
    refine w_zret dX2_layCloud_10 rfl rfl ?_
    rw [h1.1 hz1]
    exact LQ.bad (f := f) (by simp only [r_cloud, r_ch, r_dr, eq_true (show isN g t p 0 15 = 0 from hz1), if_true, if_false]) hX
theorem kind_in (g : Nat → Int32) (t p : Nat) : (p_in (t_kind g t p) 0 5 = 0 ↔ t_kind g t p < 0) := by
  unfold t_kind
  split
  · split
    · split
      · split
        · split
          · split
            · decide
            · decide
          · decide
        · decide
      · decide
    · decide
  · decide
theorem fr_01 (g : Nat → Int32) (t : Nat) (f : Nat → Int32) (n : Nat) (kx pl hh : Int32) (q : Nat) : ((r_fr g t f n kx pl hh q).2.1 = 0 ∨ (r_fr g t f n kx pl hh q).2.1 = 1) ∧ (r_fr g t f n kx pl hh q).1 5 = f 5 := by
  have h5 : ∀ a b c d e, p_add f n a b c d e 5 = f 5 := fun a b c d e => p_add_low f n a b c d e (by omega) (by decide)
  unfold r_fr
  split
  · exact ⟨Or.inr rfl, h5 _ _ _ _ _⟩
  · split
    · exact ⟨Or.inl rfl, rfl⟩
    · split
      · exact ⟨Or.inl rfl, rfl⟩
      · split
        · exact ⟨Or.inl rfl, rfl⟩
        · exact ⟨Or.inr rfl, h5 _ _ _ _ _⟩
theorem rod_01 (g : Nat → Int32) (t : Nat) (f : Nat → Int32) (n : Nat) (kx : Int32) (p : Nat) : ((r_rod g t f n kx p).2.1 = 0 ∨ (r_rod g t f n kx p).2.1 = 1) ∧ (r_rod g t f n kx p).1 5 = f 5 := by
  unfold r_rod
  split
  · split
    · exact ⟨Or.inl rfl, rfl⟩
    · split
      · exact ⟨Or.inl rfl, rfl⟩
      · unfold r_hi
        split
        · exact fr_01 _ _ _ _ _ _ _ _
        · split
          · exact ⟨Or.inl rfl, rfl⟩
          · exact fr_01 _ _ _ _ _ _ _ _
  · exact ⟨Or.inl rfl, rfl⟩
theorem dr_01 (g : Nat → Int32) (t : Nat) (f : Nat → Int32) (q : Nat) : ((r_dr g t f q).2.1 = 0 ∨ (r_dr g t f q).2.1 = 1) ∧ (r_dr g t f q).1 5 = f 5 := by
  unfold r_dr
  split
  · split
    · split
      · exact ⟨Or.inr rfl, rfl⟩
      · exact ⟨Or.inr rfl, (show upd f 2 0 5 = f 5 from updN (by decide))⟩
    · exact ⟨Or.inr rfl, (show upd f 2 1 5 = f 5 from updN (by decide))⟩
  · exact ⟨Or.inr rfl, (show upd f 2 (-1) 5 = f 5 from updN (by decide))⟩
theorem cloud_01 (g : Nat → Int32) (t : Nat) (f : Nat → Int32) (q : Nat) : ((r_cloud g t f q).2.1 = 0 ∨ (r_cloud g t f q).2.1 = 1) ∧ (r_cloud g t f q).1 5 = f 5 := by
  unfold r_cloud
  split
  · exact ⟨Or.inl rfl, rfl⟩
  · unfold r_ch
    split
    · have h := dr_01 g t (upd f 0 (tkV g t q)) (tkE g t q)
      exact ⟨h.1, h.2.trans (updN (by decide))⟩
    · split
      · exact ⟨Or.inl rfl, rfl⟩
      · have h := dr_01 g t (upd (upd f 0 (tkV g t q)) 1 (tkV g t (tkE g t (tkE g t q)))) (tkE g t (tkE g t (tkE g t q)))
        exact ⟨h.1, h.2.trans ((updN (by decide)).trans (updN (by decide)))⟩
theorem rule_01 (g : Nat → Int32) (t : Nat) (f : Nat → Int32) (k : Nat) (hk : k < 5) (a b : Int32) (q : Nat) : ((r_rule g t f k a b q).2.1 = 0 ∨ (r_rule g t f k a b q).2.1 = 1) ∧ (r_rule g t f k a b q).1 5 = f 5 := by
  unfold r_rule
  split
  · exact ⟨Or.inl rfl, rfl⟩
  · exact ⟨Or.inr rfl, updN (by omega)⟩
theorem item_eq {g : Nat → Int32} {t : Nat} {f : Nat → Int32} {n : Nat} (p : Nat) (hn : f 8 = nI n) (h8 : n ≤ 8) : t_item g t (f, 1, p) = if t_kind g t p < 0 then (if t_is g t p 1842025 = 0 then (if t_is g t p 4085956 = 0 then (if t_is g t p 38363212 = 0 then (f, 0, p) else r_rule g t f 4 20 99 (tkE g t p)) else r_rule g t f 3 0 50 (tkE g t p)) else r_cloud g t f (tkE g t p)) else r_rod g t f n (t_kind g t p) p := by
  unfold t_item
  rw [rule_eq, rule_eq, cloud_eq, rod_eq hn h8]
theorem item_01 {g : Nat → Int32} {t : Nat} {f : Nat → Int32} {n : Nat} (p : Nat) (hn : f 8 = nI n) (h8 : n ≤ 8) : ((t_item g t (f, 1, p)).2.1 = 0 ∨ (t_item g t (f, 1, p)).2.1 = 1) ∧ (t_item g t (f, 1, p)).1 5 = f 5 := by
  rw [item_eq p hn h8]
  split
  · split
    · split
      · split
        · exact ⟨Or.inl rfl, rfl⟩
        · exact rule_01 _ _ _ _ (by decide) _ _ _
      · exact rule_01 _ _ _ _ (by decide) _ _ _
    · exact cloud_01 _ _ _ _
  · exact rod_01 _ _ _ _ _ _
theorem z01b {x : Int32} (h : x = 0 ∨ x = 1) : narrow .boolean (.int x) = .int x := by
  rcases h with e0 | e0 <;> rw [e0] <;> rfl
theorem rule_end {σ0 σ τ : Sg} {g f : Nat → Int32} {t q n k : Nat} (hk : k = 3 ∨ k = 4) (hX : XS σ0 σ g t q) (hR : Rp σ 2 f n) (hv : RV f n) (h : (isN g t q (lstF k) (mstF k) = 0 → τ = σ) ∧ (¬ isN g t q (lstF k) (mstF k) = 0 → Tc (wI σ 10 k (tkV g t q)) τ ∧ CkQ τ g t (tkE g t q))) : LQ σ0 g t (r_rule g t f k (lstF k) (mstF k) q) (some (.int (isN g t q (lstF k) (mstF k)))) τ := by
  have h8 := hv.le
  by_cases z : isN g t q (lstF k) (mstF k) = 0
  · rw [z, h.1 z]
    exact LQ.bad (f := f) (by unfold r_rule; rw [if_pos z]) hX
  · rw [z_not z (isN_01 _ _ _ _ _)]
    obtain ⟨h1, h2⟩ := h.2 z
    have hP : Pl σ (wI σ 10 k (tkV g t q)) 2 (upd f k (tkV g t q)) n := Pl.cldw hR pp2 hX.2.1 h8 (by omega)
    have hB : cB k (tkV g t q) := by
      rcases hk with rfl | rfl
      · exact val_B z
      · exact val_B z
    exact LQ.ok (m := n) (by unfold r_rule; rw [if_neg z]) ((hX.pl hP).tc h1 h2 (tkE_le hX.2.2.2)) (hv.cldw (by omega) hB) (hP.1.tc hP.2.1 h8 h1)
set_option maxRecDepth 100000 in
set_option maxHeartbeats 800000 in
theorem k_layItem (G : GT) (σ : Sg) (σ0 : Sg) (g : Nat → Int32) (t p : Nat) (hT : TS σ0 g t) (hX : XS σ0 σ g t p) (f : Nat → Int32) (n : Nat) (hR : Rp σ 2 f n) (hv : RV f n) : Ev G mX2_layItem [.ref 4, .ref 2] σ (LQ σ0 g t (t_item g t (f, 1, p))) := by
  have h8 := hv.le
  refine Ev.ofL (m := 1) (L := [some (.ref 4), some (.ref 2), none]) rfl (Nat.le_of_ble_eq_true rfl) rfl rfl ?_
  refine w_aload_n dX2_layItem_0 rfl ?_
  refine w_callVi dX2_layItem_1 ml_X2_38 mv_X2_kindTold rfl rfl (by decide) rfl (k_kindTold G _ g t p (hT.tx hX.1) hX.2.2.2 hX.2.2.1) rfl rfl (Nat.le_of_ble_eq_true rfl) ?_
  refine w_istore_n dX2_layItem_4 (by decide) rfl rfl ?_
  dsimp only [List.set]
  refine w_iload_n dX2_layItem_5 rfl ?_
  refine w_callNi (host := "BoltsByOrder") dX2_layItem_6 (by decide +kernel) ms_X6_isKind rfl (c_isKind G _ _) rfl rfl (Nat.le_of_ble_eq_true rfl) ?_
  refine w_if_eq (t := 19) dX2_layItem_9 (by decide) (fun hz1 => ?_) (fun hz1 => ?_)
  · skip
    refine w_aload_n dX2_layItem_19 rfl ?_
    refine w_ldcS (i := 0) (by decide) dX2_layItem_20 rfl ?_
    refine w_callVqi dX2_layItem_22 ml_X2_52 mv_X2_takeWord rfl rfl (by decide) rfl (k_takeWord G _ g t p (hT.tx hX.1) hX.2.2.2 hX.2.2.1 0 (by decide)) rfl rfl (Nat.le_of_ble_eq_true rfl) (fun τ1 h1 => ?_)
    refine w_if_eq (t := 37) dX2_layItem_25 (by decide) (fun hz2 => ?_) (fun hz2 => ?_)
    · skip
      have hX1n : XS σ0 τ1 g t p := hX.tc h1.1 (by have q0 := h1.2; rw [if_pos hz2] at q0; exact q0) hX.2.2.2
      have hR1 : Rp τ1 2 f n := hR.tc hX.2.1 h8 h1.1
      refine w_aload_n dX2_layItem_37 rfl ?_
      refine w_ldcS (i := 1) (by decide) dX2_layItem_38 rfl ?_
      refine w_callVqi dX2_layItem_40 ml_X2_52 mv_X2_takeWord rfl rfl (by decide) rfl (k_takeWord G _ g t p (hT.tx hX1n.1) hX1n.2.2.2 hX1n.2.2.1 1 (by decide)) rfl rfl (Nat.le_of_ble_eq_true rfl) (fun τ2 h2 => ?_)
      refine w_if_eq (t := 56) dX2_layItem_43 (by decide) (fun hz3 => ?_) (fun hz3 => ?_)
      · skip
        have hX2n : XS σ0 τ2 g t p := hX1n.tc h2.1 (by have q0 := h2.2; rw [if_pos hz3] at q0; exact q0) hX1n.2.2.2
        have hR2 : Rp τ2 2 f n := hR1.tc hX1n.2.1 h8 h2.1
        refine w_aload_n dX2_layItem_56 rfl ?_
        refine w_ldcS (i := 2) (by decide) dX2_layItem_57 rfl ?_
        refine w_callVqi dX2_layItem_59 ml_X2_52 mv_X2_takeWord rfl rfl (by decide) rfl (k_takeWord G _ g t p (hT.tx hX2n.1) hX2n.2.2.2 hX2n.2.2.1 2 (by decide)) rfl rfl (Nat.le_of_ble_eq_true rfl) (fun τ3 h3 => ?_)
        refine w_if_eq (t := 75) dX2_layItem_62 (by decide) (fun hz4 => ?_) (fun hz4 => ?_)
        · skip
          have hX3n : XS σ0 τ3 g t p := hX2n.tc h3.1 (by have q0 := h3.2; rw [if_pos hz4] at q0; exact q0) hX2n.2.2.2
          have hR3 : Rp τ3 2 f n := hR2.tc hX2n.2.1 h8 h3.1
          refine w_iconst dX2_layItem_75 ic_0 ?_
          refine w_zret dX2_layItem_76 rfl rfl ?_
          have hI := item_eq (g := g) (t := t) p hv.n hv.le
          simp only [eq_true ((kind_in g t p).mp hz1), eq_true (show t_is g t p 1842025 = 0 from hz2), eq_true (show t_is g t p 4085956 = 0 from hz3), eq_true (show t_is g t p 38363212 = 0 from hz4), if_true, if_false] at hI
          rw [hI]
          exact LQ.bad (f := f) rfl hX3n
        · skip
          have hX3y : XS σ0 τ3 g t (tkE g t p) := hX2n.tc h3.1 (by have q0 := h3.2; rw [if_neg hz4] at q0; exact q0) (tkE_le hX2n.2.2.2)
          have hR3 : Rp τ3 2 f n := hR2.tc hX2n.2.1 h8 h3.1
          refine w_aload_n dX2_layItem_65 rfl ?_
          refine w_aload_n dX2_layItem_66 rfl ?_
          refine w_getR (t := 10) dX2_layItem_67 fl_X2_56 rfl (by decide) (by decide) rfl ?_
          refine w_iconst dX2_layItem_70 ic_4 ?_
          refine w_callVqi dX2_layItem_71 ml_X2_69 mv_X2_takeCloudPart rfl rfl (by decide) rfl (k_takePart G _ g t (tkE g t p) (hT.tx hX3y.1) hX3y.2.2.2 hX3y.2.2.1 4 (by decide)) rfl rfl (Nat.le_of_ble_eq_true rfl) (fun τx hq => ?_)
          refine w_zret dX2_layItem_74 rfl (z01b (isN_01 _ _ _ _ _)) ?_
          have hI := item_eq (g := g) (t := t) p hv.n hv.le
          simp only [eq_true ((kind_in g t p).mp hz1), eq_true (show t_is g t p 1842025 = 0 from hz2), eq_true (show t_is g t p 4085956 = 0 from hz3), eq_false (show ¬ t_is g t p 38363212 = 0 from hz4), if_true, if_false] at hI
          rw [hI]
          exact rule_end (k := 4) (Or.inr rfl) hX3y hR3 hv hq
      · skip
        have hX2y : XS σ0 τ2 g t (tkE g t p) := hX1n.tc h2.1 (by have q0 := h2.2; rw [if_neg hz3] at q0; exact q0) (tkE_le hX1n.2.2.2)
        have hR2 : Rp τ2 2 f n := hR1.tc hX1n.2.1 h8 h2.1
        refine w_aload_n dX2_layItem_46 rfl ?_
        refine w_aload_n dX2_layItem_47 rfl ?_
        refine w_getR (t := 10) dX2_layItem_48 fl_X2_56 rfl (by decide) (by decide) rfl ?_
        refine w_iconst dX2_layItem_51 ic_3 ?_
        refine w_callVqi dX2_layItem_52 ml_X2_69 mv_X2_takeCloudPart rfl rfl (by decide) rfl (k_takePart G _ g t (tkE g t p) (hT.tx hX2y.1) hX2y.2.2.2 hX2y.2.2.1 3 (by decide)) rfl rfl (Nat.le_of_ble_eq_true rfl) (fun τx hq => ?_)
        refine w_zret dX2_layItem_55 rfl (z01b (isN_01 _ _ _ _ _)) ?_
        have hI := item_eq (g := g) (t := t) p hv.n hv.le
        simp only [eq_true ((kind_in g t p).mp hz1), eq_true (show t_is g t p 1842025 = 0 from hz2), eq_false (show ¬ t_is g t p 4085956 = 0 from hz3), if_true, if_false] at hI
        rw [hI]
        exact rule_end (k := 3) (Or.inl rfl) hX2y hR2 hv hq
    · skip
      have hX1y : XS σ0 τ1 g t (tkE g t p) := hX.tc h1.1 (by have q0 := h1.2; rw [if_neg hz2] at q0; exact q0) (tkE_le hX.2.2.2)
      have hR1 : Rp τ1 2 f n := hR.tc hX.2.1 h8 h1.1
      refine w_aload_n dX2_layItem_28 rfl ?_
      refine w_aload_n dX2_layItem_29 rfl ?_
      refine w_getR (t := 10) dX2_layItem_30 fl_X2_56 rfl (by decide) (by decide) rfl ?_
      refine w_callVqi dX2_layItem_33 ml_X2_61 mv_X2_layCloud rfl rfl (by decide) rfl (k_layCloud G _ σ0 g t (tkE g t p) hT hX1y f n hR1 hv) rfl rfl (Nat.le_of_ble_eq_true rfl) (fun τx hq => ?_)
      refine w_zret dX2_layItem_36 rfl (z01b (cloud_01 _ _ _ _).1) ?_
      have hI := item_eq (g := g) (t := t) p hv.n hv.le
      simp only [eq_true ((kind_in g t p).mp hz1), eq_false (show ¬ t_is g t p 1842025 = 0 from hz2), if_true, if_false] at hI
      rw [hI]
      exact ⟨rfl, hq⟩
  · skip
    refine w_aload_n dX2_layItem_12 rfl ?_
    refine w_aload_n dX2_layItem_13 rfl ?_
    refine w_iload_n dX2_layItem_14 rfl ?_
    refine w_callVqi dX2_layItem_15 ml_X2_46 mv_X2_layRod rfl rfl (by decide) rfl (k_layRod G _ σ0 g t p hT hX f n hR hv _ (iB.in hz1)) rfl rfl (Nat.le_of_ble_eq_true rfl) (fun τx hq => ?_)
    refine w_zret dX2_layItem_18 rfl (z01b (rod_01 _ _ _ _ _ _).1) ?_
    have hI := item_eq (g := g) (t := t) p hv.n hv.le
    simp only [eq_false (fun z => hz1 ((kind_in g t p).mpr z)), if_true, if_false] at hI
    rw [hI]
    exact ⟨rfl, hq⟩
