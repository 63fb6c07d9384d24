theorem Co.pq {σ τ : Sg} (h : Pq σ τ) : Co σ τ := ⟨fun c j hc => h.1 c j (by omega) (by omega), fun c j hc => h.2.1 c j (by omega), h.2.2⟩
theorem obs_pq {σ τ : Sg} (h : Pq σ τ) : obs τ = sRow (obs σ) (τ.1 51) := by
  unfold obs sRow
  simp only [Prod.mk.injEq]
  refine ⟨trivial, funext fun j => h.1 _ _ (by decide) (by omega), funext fun j => h.1 _ _ (by decide) (by omega), h.1 _ _ (by decide) (by omega), h.1 _ _ (by decide) (by omega), funext fun j => h.1 _ _ (by decide) (by omega), funext fun j => h.1 _ _ (by decide) (by omega), funext fun j => h.1 _ _ (by decide) (by omega), funext fun j => h.2.1 _ _ (by omega)⟩
theorem obs_b61 (σ : Sg) : obs (cpN σ 51 61 65) = obs σ := by
  unfold obs
  simp only [Prod.mk.injEq]
  refine ⟨funext fun j => cpN_ne (by decide), funext fun j => cpN_ne (by decide), funext fun j => cpN_ne (by decide), cpN_ne (by decide), cpN_ne (by decide), funext fun j => cpN_ne (by decide), funext fun j => cpN_ne (by decide), funext fun j => cpN_ne (by decide), rfl⟩
theorem sTm_row (μ : MO) (f : Nat → Int32) (v : Int32) : sTm (sRow μ f) v = sRow (sTm μ v) f := rfl
theorem pl_obs {σ τ : Sg} {g : Nat → Int32} {t : Nat} {y : PS} (h : PsQ (cpN σ 51 61 65) τ g t y) (v : Int32) : obs (wI (wI τ 50 16 v) 50 10 0) = sRow (sTm (obs σ) 0) y.1 := by
  rw [obs_w10, obs_pq (h.fr.trans Pq.gd), (h.good v).row, obs_b61, sTm_row]
theorem pl_co {σ τ : Sg} {g : Nat → Int32} {t : Nat} {y : PS} (h : PsQ (cpN σ 51 61 65) τ g t y) (v : Int32) : Co σ (wI (wI τ 50 16 v) 50 10 0) :=
  (Co.cp (by decide)).trans ((Co.pq (h.fr.trans Pq.gd)).trans (Co.w (by decide)))
theorem obs_r61 (σ : Sg) : obs (cpN σ 61 51 65) = sRow (obs σ) (fun j => if j < 65 then σ.1 61 j else (obs σ).1 j) := by
  unfold obs sRow
  simp only [Prod.mk.injEq]
  refine ⟨funext fun j => ?_, funext fun j => cpN_ne (by decide), funext fun j => cpN_ne (by decide), cpN_ne (by decide), cpN_ne (by decide), funext fun j => cpN_ne (by decide), funext fun j => cpN_ne (by decide), funext fun j => cpN_ne (by decide), rfl⟩
  show (if 51 = 51 ∧ j < 65 then σ.1 61 j else σ.1 51 j) = _
  by_cases hj : j < 65
  · rw [if_pos ⟨rfl, hj⟩, if_pos hj]
  · rw [if_neg (fun z => hj z.2), if_neg hj]
theorem pl_bad {σ τ : Sg} {g : Nat → Int32} {t : Nat} {y : PS} (h : PsQ (cpN σ 51 61 65) τ g t y) (v : Int32) : obs (cpN (wI (wI τ 50 16 v) 50 10 0) 61 51 65) = sRow (sTm (obs σ) 0) (fun j => if j < 65 then (obs σ).1 j else y.1 j) := by
  rw [obs_r61, pl_obs h v]
  have e : (fun j => if j < 65 then (wI (wI τ 50 16 v) 50 10 0).1 61 j else (sRow (sTm (obs σ) 0) y.1).1 j) = (fun j => if j < 65 then (obs σ).1 j else y.1 j) := by
    funext j
    by_cases hj : j < 65
    · rw [if_pos hj, if_pos hj, wI_c (by decide), wI_c (by decide), h.fr.1 61 j (by decide) (by omega), obs_1]
      exact if_pos ⟨rfl, hj⟩
    · rw [if_neg hj, if_neg hj]
      rfl
  rw [e]
  rfl
set_option maxRecDepth 100000 in
set_option maxHeartbeats 800000 in
theorem m_plain (G : GT) (σ : Sg) (n : Nat) (hn : σ.1 51 8 = nI n) (h8 : n ≤ 8) (tt : Nat) (htt : σ.1 50 10 = nI tt) (ht120 : tt ≤ 120) : Ev G mX7_plain [.ref 50] σ (PQ σ (M_plain (obs σ))) := by
  obtain ⟨gg, hgg⟩ : ∃ g, g = σ.1 55 := ⟨_, rfl⟩
  obtain ⟨rr, hrr0⟩ : ∃ r, t_loop gg tt (tt + 1) (σ.1 51, 1, 0) 0 = r := ⟨_, rfl⟩
  have hct : (nI tt).toNatClampNeg = tt := nI_clamp (by omega)
  have hA : t_all (obs σ) = rr := by
    rw [← hrr0, hgg]
    unfold t_all
    simp only [obs, htt, hct]
  have hM : M_plain (obs σ) = if t_ok gg tt rr.2 = 0 then (-1 - nI (tkB gg tt rr.2.2.2), sRow (sTm (obs σ) 0) (fun j => if j < 65 then (obs σ).1 j else rr.2.1 j)) else (nI rr.1, sRow (sTm (obs σ) 0) rr.2.1) := by
    unfold M_plain
    rw [hA, hgg]
    simp only [obs, htt, hct]
  have hh0 : HsQ (cpN σ 51 61 65) (wI (wI (cpN σ 51 61 65) 50 13 0) 50 16 1) gg tt (σ.1 51, 1, 0) :=
    ⟨(Pq.tq (Tq.w (by decide))).trans Pq.gd, funext fun j => ((wI_c (by decide)).trans (wI_c (by decide))).trans (cpN_ne (by decide)), wI_s _ _ _ _, Nat.zero_le _, (wI_k (by decide)).trans (wI_s _ _ _ _), ((wI_k (by decide)).trans (wI_k (by decide))).trans ((cpN_ne (by decide)).trans htt), ht120, (funext fun j => ((wI_c (by decide)).trans (wI_c (by decide))).trans (cpN_ne (by decide))).trans hgg.symm⟩
  refine Ev.ofL (m := 2) (L := [some (.ref 50), none, none]) rfl (Nat.le_of_ble_eq_true rfl) rfl rfl ?_
  refine w_aload_n dX7_plain_0 rfl ?_
  refine w_iconst dX7_plain_1 ic_1 ?_
  refine w_aload_n dX7_plain_2 rfl ?_
  refine w_getR (t := 61) dX7_plain_3 fl_X7_41 rfl (by decide) (by decide) rfl ?_
  refine w_callVv dX7_plain_6 ml_X7_126 mv_X7_moveAll rfl rfl (by decide) rfl (e7_move1 G _ 61 rfl rfl (by decide) (by decide)) rfl rfl (Nat.le_of_ble_eq_true rfl) ?_
  refine w_aload_n dX7_plain_9 rfl ?_
  refine w_iconst dX7_plain_10 ic_0 ?_
  refine w_putI dX7_plain_11 fl_X7_175 rfl rfl (by decide +kernel) ?_
  refine w_aload_n dX7_plain_14 rfl ?_
  refine w_iconst dX7_plain_15 ic_1 ?_
  refine w_putZ dX7_plain_16 fl_X7_222 rfl rfl (by decide +kernel) (by decide) ?_
  refine w_iconst dX7_plain_19 ic_0 ?_
  refine w_istore_n dX7_plain_20 (by decide) rfl rfl ?_
  dsimp only [List.set]
  refine w_iconst dX7_plain_21 ic_1 ?_
  refine w_istore_n dX7_plain_22 (by decide) rfl rfl ?_
  dsimp only [List.set]
  have lp : ∀ (m : Nat) (fu : Nat) (x : PS) (cx : Nat) (τ : Sg), fu < m → tt - x.2.2 < fu → HsQ (cpN σ 51 61 65) τ gg tt x → t_loop gg tt fu x cx = rr → (∃ n, x.1 8 = nI n ∧ n ≤ 8) → WP G mX7_plain 23 [some (.ref 50), some (.int (nI cx)), some (.int 1)] [] (τ) (PQ σ (M_plain (obs σ))) := by
    intro m
    induction m with
    | zero => intro fu x cx τ hm; exact absurd hm (Nat.not_lt_zero _)
    | succ m ih =>
      intro fu x cx τ hm hfu hh hrr hn8
      refine w_iload_n dX7_plain_23 rfl ?_
      obtain ⟨n, hn, h8⟩ := hn8
      obtain ⟨fk, rfl⟩ : ∃ k, fu = k + 1 := ⟨fu - 1, by omega⟩
      refine w_if_eq (t := 71) dX7_plain_24 (by decide) (fun hz1 => absurd hz1 (by decide)) (fun hz1 => ?_)
      refine w_aload_n dX7_plain_27 rfl ?_
      refine w_callVqv dX7_plain_28 ml_X7_226 mv_X7_advance rfl rfl (by decide) rfl (e7_advance G _ x.2.2 hh.2.2.2.2.1 tt hh.2.2.2.2.2.1 hh.2.2.2.2.2.2.1 gg hh.2.2.2.2.2.2.2 hh.2.2.2.1) rfl rfl (Nat.le_of_ble_eq_true rfl) (fun τ1 hq => ?_)
      have hx1 := hh.adv hq.1 hq.2
      refine w_aload_n dX7_plain_31 rfl ?_
      refine w_callVqv dX7_plain_32 ml_X7_270 mv_X7_wantItem rfl rfl (by decide) rfl (e7_wantItem G _ _ gg tt x hx1 n hn h8) rfl rfl (Nat.le_of_ble_eq_true rfl) (fun τ2 hx2 => ?_)
      refine w_iincN (a := cx) (b := 1) dX7_plain_35 rfl ic_1 (by decide) rfl rfl ?_
      dsimp only [List.set]
      refine w_aload_n dX7_plain_38 rfl ?_
      refine w_getI dX7_plain_39 fl_X7_222 rfl rfl ?_
      refine w_if_eq (t := 66) dX7_plain_42 (by decide) (fun hz2 => ?_) (fun hz2 => ?_)
      · skip
        refine w_iconst dX7_plain_66 ic_0 ?_
        refine w_istore_n dX7_plain_67 (by decide) rfl rfl ?_
        dsimp only [List.set]
        refine w_goto (t := 23) dX7_plain_68 (by decide) ?_
        refine w_iload_n dX7_plain_23 rfl ?_
        
        refine w_if_eq (t := 71) dX7_plain_24 (by decide) (fun hz3 => ?_) (fun hz3 => absurd rfl hz3)
        refine w_aload_n dX7_plain_71 rfl ?_
        refine w_aload_n dX7_plain_72 rfl ?_
        refine w_getI dX7_plain_73 fl_X7_222 rfl rfl ?_
        refine w_if_eq (t := 90) dX7_plain_76 (by decide) (fun hz4 => ?_) (fun hz4 => ?_)
        · skip
          refine w_iconst dX7_plain_90 ic_0 ?_
          refine w_putZ dX7_plain_91 fl_X7_222 rfl rfl (by decide +kernel) (by decide) ?_
          refine w_aload_n dX7_plain_94 rfl ?_
          refine w_iconst dX7_plain_95 ic_0 ?_
          refine w_putI dX7_plain_96 fl_X7_172 rfl rfl (by decide +kernel) ?_
          refine w_aload_n dX7_plain_99 rfl ?_
          refine w_getI dX7_plain_100 fl_X7_222 rfl rfl ?_
          refine w_if_ne (t := 122) dX7_plain_103 (by decide) (fun hz5 => absurd ((wI_k (by decide)).trans (wI_s _ _ _ _)) hz5) (fun hz5 => ?_)
          refine w_aload_n dX7_plain_106 rfl ?_
          refine w_iconst dX7_plain_107 ic_0 ?_
          refine w_aload_n dX7_plain_108 rfl ?_
          refine w_getR (t := 61) dX7_plain_109 fl_X7_41 rfl (by decide) (by decide) rfl ?_
          refine w_callVv dX7_plain_112 ml_X7_126 mv_X7_moveAll rfl rfl (by decide) rfl (e7_move0 G _ 61 rfl rfl (by decide) (by decide)) rfl rfl (Nat.le_of_ble_eq_true rfl) ?_
          refine w_iconst dX7_plain_115 ic_m1 ?_
          refine w_aload_n dX7_plain_116 rfl ?_
          refine w_getI dX7_plain_117 fl_X7_178 rfl rfl ?_
          refine w_isub dX7_plain_120 ?_
          refine w_iret dX7_plain_121 rfl ?_
          have hmo : t_more gg tt (t_item gg tt x) = 0 := by rw [t_more_eq hx2, if_pos hz2]
          rw [t_loop_s, if_pos hmo] at hrr
          have hok : t_ok gg tt rr.2 = 0 := by rw [← hrr]; rw [t_ok_eq hx2, if_pos hz4]
          have e2 : rr.2 = t_item gg tt x := by rw [← hrr]
          have e1 : rr.1 = cx + 1 := by rw [← hrr]
          rw [hM, if_pos hok, e2]
          refine ⟨?_, pl_bad hx2 0, (pl_co hx2 0).trans (Co.cp (by decide))⟩
          rw [cpN_ne (by decide), wI_k (by decide), wI_k (by decide), hx2.tk.2.1]
        · skip
          refine w_aload_n dX7_plain_79 rfl ?_
          refine w_getI dX7_plain_80 fl_X7_190 rfl rfl ?_
          refine w_if_ne (t := 90) dX7_plain_83 (by decide) (fun hz6 => ?_) (fun hz6 => ?_)
          · skip
            refine w_iconst dX7_plain_90 ic_0 ?_
            refine w_putZ dX7_plain_91 fl_X7_222 rfl rfl (by decide +kernel) (by decide) ?_
            refine w_aload_n dX7_plain_94 rfl ?_
            refine w_iconst dX7_plain_95 ic_0 ?_
            refine w_putI dX7_plain_96 fl_X7_172 rfl rfl (by decide +kernel) ?_
            refine w_aload_n dX7_plain_99 rfl ?_
            refine w_getI dX7_plain_100 fl_X7_222 rfl rfl ?_
            refine w_if_ne (t := 122) dX7_plain_103 (by decide) (fun hz7 => absurd ((wI_k (by decide)).trans (wI_s _ _ _ _)) hz7) (fun hz7 => ?_)
            refine w_aload_n dX7_plain_106 rfl ?_
            refine w_iconst dX7_plain_107 ic_0 ?_
            refine w_aload_n dX7_plain_108 rfl ?_
            refine w_getR (t := 61) dX7_plain_109 fl_X7_41 rfl (by decide) (by decide) rfl ?_
            refine w_callVv dX7_plain_112 ml_X7_126 mv_X7_moveAll rfl rfl (by decide) rfl (e7_move0 G _ 61 rfl rfl (by decide) (by decide)) rfl rfl (Nat.le_of_ble_eq_true rfl) ?_
            refine w_iconst dX7_plain_115 ic_m1 ?_
            refine w_aload_n dX7_plain_116 rfl ?_
            refine w_getI dX7_plain_117 fl_X7_178 rfl rfl ?_
            refine w_isub dX7_plain_120 ?_
            refine w_iret dX7_plain_121 rfl ?_
            have hmo : t_more gg tt (t_item gg tt x) = 0 := by rw [t_more_eq hx2, if_pos hz2]
            rw [t_loop_s, if_pos hmo] at hrr
            have hok : t_ok gg tt rr.2 = 0 := by rw [← hrr]; rw [t_ok_eq hx2, if_neg hz4, if_neg hz6]
            have e2 : rr.2 = t_item gg tt x := by rw [← hrr]
            have e1 : rr.1 = cx + 1 := by rw [← hrr]
            rw [hM, if_pos hok, e2]
            refine ⟨?_, pl_bad hx2 0, (pl_co hx2 0).trans (Co.cp (by decide))⟩
            rw [cpN_ne (by decide), wI_k (by decide), wI_k (by decide), hx2.tk.2.1]
          · skip
            refine w_iconst dX7_plain_86 ic_1 ?_
            refine w_goto (t := 91) dX7_plain_87 (by decide) ?_
            refine w_putZ dX7_plain_91 fl_X7_222 rfl rfl (by decide +kernel) (by decide) ?_
            refine w_aload_n dX7_plain_94 rfl ?_
            refine w_iconst dX7_plain_95 ic_0 ?_
            refine w_putI dX7_plain_96 fl_X7_172 rfl rfl (by decide +kernel) ?_
            refine w_aload_n dX7_plain_99 rfl ?_
            refine w_getI dX7_plain_100 fl_X7_222 rfl rfl ?_
            refine w_if_ne (t := 122) dX7_plain_103 (by decide) (fun hz8 => ?_) (fun hz8 => absurd hz8 (by rw [wI_k (by decide), wI_s]; decide))
            refine w_iload_n dX7_plain_122 rfl ?_
            refine w_iret dX7_plain_123 rfl ?_
            have hmo : t_more gg tt (t_item gg tt x) = 0 := by rw [t_more_eq hx2, if_pos hz2]
            rw [t_loop_s, if_pos hmo] at hrr
            have hok : t_ok gg tt rr.2 = 1 := by rw [← hrr]; rw [t_ok_eq hx2, if_neg hz4, if_pos hz6]
            have e2 : rr.2 = t_item gg tt x := by rw [← hrr]
            have e1 : rr.1 = cx + 1 := by rw [← hrr]
            rw [hM, if_neg (by rw [hok]; decide), e1, e2]
            exact ⟨rfl, pl_obs hx2 1, pl_co hx2 1⟩
      · skip
        refine w_aload_n dX7_plain_45 rfl ?_
        refine w_getI dX7_plain_46 fl_X7_190 rfl rfl ?_
        refine w_iconst dX7_plain_49 ic_3 ?_
        refine w_icmp_ne (t := 66) dX7_plain_50 (by decide) (fun hz9 => ?_) (fun hz9 => ?_)
        · skip
          refine w_iconst dX7_plain_66 ic_0 ?_
          refine w_istore_n dX7_plain_67 (by decide) rfl rfl ?_
          dsimp only [List.set]
          refine w_goto (t := 23) dX7_plain_68 (by decide) ?_
          refine w_iload_n dX7_plain_23 rfl ?_
          
          refine w_if_eq (t := 71) dX7_plain_24 (by decide) (fun hz10 => ?_) (fun hz10 => absurd rfl hz10)
          refine w_aload_n dX7_plain_71 rfl ?_
          refine w_aload_n dX7_plain_72 rfl ?_
          refine w_getI dX7_plain_73 fl_X7_222 rfl rfl ?_
          refine w_if_eq (t := 90) dX7_plain_76 (by decide) (fun hz11 => ?_) (fun hz11 => ?_)
          · skip
            refine w_iconst dX7_plain_90 ic_0 ?_
            refine w_putZ dX7_plain_91 fl_X7_222 rfl rfl (by decide +kernel) (by decide) ?_
            refine w_aload_n dX7_plain_94 rfl ?_
            refine w_iconst dX7_plain_95 ic_0 ?_
            refine w_putI dX7_plain_96 fl_X7_172 rfl rfl (by decide +kernel) ?_
            refine w_aload_n dX7_plain_99 rfl ?_
            refine w_getI dX7_plain_100 fl_X7_222 rfl rfl ?_
            refine w_if_ne (t := 122) dX7_plain_103 (by decide) (fun hz12 => absurd ((wI_k (by decide)).trans (wI_s _ _ _ _)) hz12) (fun hz12 => ?_)
            refine w_aload_n dX7_plain_106 rfl ?_
            refine w_iconst dX7_plain_107 ic_0 ?_
            refine w_aload_n dX7_plain_108 rfl ?_
            refine w_getR (t := 61) dX7_plain_109 fl_X7_41 rfl (by decide) (by decide) rfl ?_
            refine w_callVv dX7_plain_112 ml_X7_126 mv_X7_moveAll rfl rfl (by decide) rfl (e7_move0 G _ 61 rfl rfl (by decide) (by decide)) rfl rfl (Nat.le_of_ble_eq_true rfl) ?_
            refine w_iconst dX7_plain_115 ic_m1 ?_
            refine w_aload_n dX7_plain_116 rfl ?_
            refine w_getI dX7_plain_117 fl_X7_178 rfl rfl ?_
            refine w_isub dX7_plain_120 ?_
            refine w_iret dX7_plain_121 rfl ?_
            have hmo : t_more gg tt (t_item gg tt x) = 0 := by rw [t_more_eq hx2, if_neg hz2, if_neg hz9]
            rw [t_loop_s, if_pos hmo] at hrr
            have hok : t_ok gg tt rr.2 = 0 := by rw [← hrr]; rw [t_ok_eq hx2, if_pos hz11]
            have e2 : rr.2 = t_item gg tt x := by rw [← hrr]
            have e1 : rr.1 = cx + 1 := by rw [← hrr]
            rw [hM, if_pos hok, e2]
            refine ⟨?_, pl_bad hx2 0, (pl_co hx2 0).trans (Co.cp (by decide))⟩
            rw [cpN_ne (by decide), wI_k (by decide), wI_k (by decide), hx2.tk.2.1]
          · skip
            refine w_aload_n dX7_plain_79 rfl ?_
            refine w_getI dX7_plain_80 fl_X7_190 rfl rfl ?_
            refine w_if_ne (t := 90) dX7_plain_83 (by decide) (fun hz13 => ?_) (fun hz13 => ?_)
            · skip
              refine w_iconst dX7_plain_90 ic_0 ?_
              refine w_putZ dX7_plain_91 fl_X7_222 rfl rfl (by decide +kernel) (by decide) ?_
              refine w_aload_n dX7_plain_94 rfl ?_
              refine w_iconst dX7_plain_95 ic_0 ?_
              refine w_putI dX7_plain_96 fl_X7_172 rfl rfl (by decide +kernel) ?_
              refine w_aload_n dX7_plain_99 rfl ?_
              refine w_getI dX7_plain_100 fl_X7_222 rfl rfl ?_
              refine w_if_ne (t := 122) dX7_plain_103 (by decide) (fun hz14 => absurd ((wI_k (by decide)).trans (wI_s _ _ _ _)) hz14) (fun hz14 => ?_)
              refine w_aload_n dX7_plain_106 rfl ?_
              refine w_iconst dX7_plain_107 ic_0 ?_
              refine w_aload_n dX7_plain_108 rfl ?_
              refine w_getR (t := 61) dX7_plain_109 fl_X7_41 rfl (by decide) (by decide) rfl ?_
              refine w_callVv dX7_plain_112 ml_X7_126 mv_X7_moveAll rfl rfl (by decide) rfl (e7_move0 G _ 61 rfl rfl (by decide) (by decide)) rfl rfl (Nat.le_of_ble_eq_true rfl) ?_
              refine w_iconst dX7_plain_115 ic_m1 ?_
              refine w_aload_n dX7_plain_116 rfl ?_
              refine w_getI dX7_plain_117 fl_X7_178 rfl rfl ?_
              refine w_isub dX7_plain_120 ?_
              refine w_iret dX7_plain_121 rfl ?_
              have hmo : t_more gg tt (t_item gg tt x) = 0 := by rw [t_more_eq hx2, if_neg hz2, if_neg hz9]
              rw [t_loop_s, if_pos hmo] at hrr
              have hok : t_ok gg tt rr.2 = 0 := by rw [← hrr]; rw [t_ok_eq hx2, if_neg hz11, if_neg hz13]
              have e2 : rr.2 = t_item gg tt x := by rw [← hrr]
              have e1 : rr.1 = cx + 1 := by rw [← hrr]
              rw [hM, if_pos hok, e2]
              refine ⟨?_, pl_bad hx2 0, (pl_co hx2 0).trans (Co.cp (by decide))⟩
              rw [cpN_ne (by decide), wI_k (by decide), wI_k (by decide), hx2.tk.2.1]
            · skip
              refine w_iconst dX7_plain_86 ic_1 ?_
              refine w_goto (t := 91) dX7_plain_87 (by decide) ?_
              refine w_putZ dX7_plain_91 fl_X7_222 rfl rfl (by decide +kernel) (by decide) ?_
              refine w_aload_n dX7_plain_94 rfl ?_
              refine w_iconst dX7_plain_95 ic_0 ?_
              refine w_putI dX7_plain_96 fl_X7_172 rfl rfl (by decide +kernel) ?_
              refine w_aload_n dX7_plain_99 rfl ?_
              refine w_getI dX7_plain_100 fl_X7_222 rfl rfl ?_
              refine w_if_ne (t := 122) dX7_plain_103 (by decide) (fun hz15 => ?_) (fun hz15 => absurd hz15 (by rw [wI_k (by decide), wI_s]; decide))
              refine w_iload_n dX7_plain_122 rfl ?_
              refine w_iret dX7_plain_123 rfl ?_
              have hmo : t_more gg tt (t_item gg tt x) = 0 := by rw [t_more_eq hx2, if_neg hz2, if_neg hz9]
              rw [t_loop_s, if_pos hmo] at hrr
              have hok : t_ok gg tt rr.2 = 1 := by rw [← hrr]; rw [t_ok_eq hx2, if_neg hz11, if_pos hz13]
              have e2 : rr.2 = t_item gg tt x := by rw [← hrr]
              have e1 : rr.1 = cx + 1 := by rw [← hrr]
              rw [hM, if_neg (by rw [hok]; decide), e1, e2]
              exact ⟨rfl, pl_obs hx2 1, pl_co hx2 1⟩
        · skip
          refine w_aload_n dX7_plain_53 rfl ?_
          refine w_getI dX7_plain_54 fl_X7_197 rfl rfl ?_
          refine w_bipush dX7_plain_57 bp_59 ?_
          refine w_icmp_ne (t := 66) dX7_plain_59 (by decide) (fun hz16 => ?_) (fun hz16 => ?_)
          · skip
            refine w_iconst dX7_plain_66 ic_0 ?_
            refine w_istore_n dX7_plain_67 (by decide) rfl rfl ?_
            dsimp only [List.set]
            refine w_goto (t := 23) dX7_plain_68 (by decide) ?_
            refine w_iload_n dX7_plain_23 rfl ?_
            
            refine w_if_eq (t := 71) dX7_plain_24 (by decide) (fun hz17 => ?_) (fun hz17 => absurd rfl hz17)
            refine w_aload_n dX7_plain_71 rfl ?_
            refine w_aload_n dX7_plain_72 rfl ?_
            refine w_getI dX7_plain_73 fl_X7_222 rfl rfl ?_
            refine w_if_eq (t := 90) dX7_plain_76 (by decide) (fun hz18 => ?_) (fun hz18 => ?_)
            · skip
              refine w_iconst dX7_plain_90 ic_0 ?_
              refine w_putZ dX7_plain_91 fl_X7_222 rfl rfl (by decide +kernel) (by decide) ?_
              refine w_aload_n dX7_plain_94 rfl ?_
              refine w_iconst dX7_plain_95 ic_0 ?_
              refine w_putI dX7_plain_96 fl_X7_172 rfl rfl (by decide +kernel) ?_
              refine w_aload_n dX7_plain_99 rfl ?_
              refine w_getI dX7_plain_100 fl_X7_222 rfl rfl ?_
              refine w_if_ne (t := 122) dX7_plain_103 (by decide) (fun hz19 => absurd ((wI_k (by decide)).trans (wI_s _ _ _ _)) hz19) (fun hz19 => ?_)
              refine w_aload_n dX7_plain_106 rfl ?_
              refine w_iconst dX7_plain_107 ic_0 ?_
              refine w_aload_n dX7_plain_108 rfl ?_
              refine w_getR (t := 61) dX7_plain_109 fl_X7_41 rfl (by decide) (by decide) rfl ?_
              refine w_callVv dX7_plain_112 ml_X7_126 mv_X7_moveAll rfl rfl (by decide) rfl (e7_move0 G _ 61 rfl rfl (by decide) (by decide)) rfl rfl (Nat.le_of_ble_eq_true rfl) ?_
              refine w_iconst dX7_plain_115 ic_m1 ?_
              refine w_aload_n dX7_plain_116 rfl ?_
              refine w_getI dX7_plain_117 fl_X7_178 rfl rfl ?_
              refine w_isub dX7_plain_120 ?_
              refine w_iret dX7_plain_121 rfl ?_
              have hmo : t_more gg tt (t_item gg tt x) = 0 := by rw [t_more_eq hx2, if_neg hz2, if_pos hz9, if_neg hz16]
              rw [t_loop_s, if_pos hmo] at hrr
              have hok : t_ok gg tt rr.2 = 0 := by rw [← hrr]; rw [t_ok_eq hx2, if_pos hz18]
              have e2 : rr.2 = t_item gg tt x := by rw [← hrr]
              have e1 : rr.1 = cx + 1 := by rw [← hrr]
              rw [hM, if_pos hok, e2]
              refine ⟨?_, pl_bad hx2 0, (pl_co hx2 0).trans (Co.cp (by decide))⟩
              rw [cpN_ne (by decide), wI_k (by decide), wI_k (by decide), hx2.tk.2.1]
            · skip
              refine w_aload_n dX7_plain_79 rfl ?_
              refine w_getI dX7_plain_80 fl_X7_190 rfl rfl ?_
              refine w_if_ne (t := 90) dX7_plain_83 (by decide) (fun hz20 => ?_) (fun hz20 => ?_)
              · skip
                refine w_iconst dX7_plain_90 ic_0 ?_
                refine w_putZ dX7_plain_91 fl_X7_222 rfl rfl (by decide +kernel) (by decide) ?_
                refine w_aload_n dX7_plain_94 rfl ?_
                refine w_iconst dX7_plain_95 ic_0 ?_
                refine w_putI dX7_plain_96 fl_X7_172 rfl rfl (by decide +kernel) ?_
                refine w_aload_n dX7_plain_99 rfl ?_
                refine w_getI dX7_plain_100 fl_X7_222 rfl rfl ?_
                refine w_if_ne (t := 122) dX7_plain_103 (by decide) (fun hz21 => absurd ((wI_k (by decide)).trans (wI_s _ _ _ _)) hz21) (fun hz21 => ?_)
                refine w_aload_n dX7_plain_106 rfl ?_
                refine w_iconst dX7_plain_107 ic_0 ?_
                refine w_aload_n dX7_plain_108 rfl ?_
                refine w_getR (t := 61) dX7_plain_109 fl_X7_41 rfl (by decide) (by decide) rfl ?_
                refine w_callVv dX7_plain_112 ml_X7_126 mv_X7_moveAll rfl rfl (by decide) rfl (e7_move0 G _ 61 rfl rfl (by decide) (by decide)) rfl rfl (Nat.le_of_ble_eq_true rfl) ?_
                refine w_iconst dX7_plain_115 ic_m1 ?_
                refine w_aload_n dX7_plain_116 rfl ?_
                refine w_getI dX7_plain_117 fl_X7_178 rfl rfl ?_
                refine w_isub dX7_plain_120 ?_
                refine w_iret dX7_plain_121 rfl ?_
                have hmo : t_more gg tt (t_item gg tt x) = 0 := by rw [t_more_eq hx2, if_neg hz2, if_pos hz9, if_neg hz16]
                rw [t_loop_s, if_pos hmo] at hrr
                have hok : t_ok gg tt rr.2 = 0 := by rw [← hrr]; rw [t_ok_eq hx2, if_neg hz18, if_neg hz20]
                have e2 : rr.2 = t_item gg tt x := by rw [← hrr]
                have e1 : rr.1 = cx + 1 := by rw [← hrr]
                rw [hM, if_pos hok, e2]
                refine ⟨?_, pl_bad hx2 0, (pl_co hx2 0).trans (Co.cp (by decide))⟩
                rw [cpN_ne (by decide), wI_k (by decide), wI_k (by decide), hx2.tk.2.1]
              · skip
                refine w_iconst dX7_plain_86 ic_1 ?_
                refine w_goto (t := 91) dX7_plain_87 (by decide) ?_
                refine w_putZ dX7_plain_91 fl_X7_222 rfl rfl (by decide +kernel) (by decide) ?_
                refine w_aload_n dX7_plain_94 rfl ?_
                refine w_iconst dX7_plain_95 ic_0 ?_
                refine w_putI dX7_plain_96 fl_X7_172 rfl rfl (by decide +kernel) ?_
                refine w_aload_n dX7_plain_99 rfl ?_
                refine w_getI dX7_plain_100 fl_X7_222 rfl rfl ?_
                refine w_if_ne (t := 122) dX7_plain_103 (by decide) (fun hz22 => ?_) (fun hz22 => absurd hz22 (by rw [wI_k (by decide), wI_s]; decide))
                refine w_iload_n dX7_plain_122 rfl ?_
                refine w_iret dX7_plain_123 rfl ?_
                have hmo : t_more gg tt (t_item gg tt x) = 0 := by rw [t_more_eq hx2, if_neg hz2, if_pos hz9, if_neg hz16]
                rw [t_loop_s, if_pos hmo] at hrr
                have hok : t_ok gg tt rr.2 = 1 := by rw [← hrr]; rw [t_ok_eq hx2, if_neg hz18, if_pos hz20]
                have e2 : rr.2 = t_item gg tt x := by rw [← hrr]
                have e1 : rr.1 = cx + 1 := by rw [← hrr]
                rw [hM, if_neg (by rw [hok]; decide), e1, e2]
                exact ⟨rfl, pl_obs hx2 1, pl_co hx2 1⟩
          · skip
            refine w_iconst dX7_plain_62 ic_1 ?_
            refine w_goto (t := 67) dX7_plain_63 (by decide) ?_
            refine w_istore_n dX7_plain_67 (by decide) rfl rfl ?_
            dsimp only [List.set]
            refine w_goto (t := 23) dX7_plain_68 (by decide) ?_
            have hmo : t_more gg tt (t_item gg tt x) = 1 := by rw [t_more_eq hx2, if_neg hz2, if_pos hz9, if_pos hz16]
            have hne : ¬ t_more gg tt (t_item gg tt x) = 0 := by rw [hmo]; decide
            have hps1 := t_item_ps gg tt x
            have hps2 := t_more_lt hne
            have hps3 := hx2.hs.2.2.2.1
            obtain ⟨n', hn', h8'⟩ := t_item_8 gg tt x hn h8
            rw [t_loop_s, if_neg hne] at hrr
            exact ih fk (t_adv gg tt (t_item gg tt x)) (cx + 1) τ2 (by omega) (by omega) hx2.hs hrr ⟨n', hn', h8'⟩
  exact lp (tt + 2) (tt + 1) (σ.1 51, 1, 0) 0 _ (by omega) (by omega) hh0 hrr0 ⟨n, hn, h8⟩
