theorem tkS_of {σ : Sg} {g : Nat → Int32} {t p : Nat} (h : TkQ σ g t p) {k : Nat} (hk : k ≤ 3) : (σ.1 50 11 = nI k) = (tkS g t p = k) := by
  have h3 := tkS_le g t p
  rw [h.1]
  exact propext (nI_eq (by omega) (by omega))
theorem t_is_eq {σ : Sg} {g : Nat → Int32} {t p : Nat} (h : TkQ σ g t p) (w : Int64) : t_is g t p w = if σ.1 50 11 = 1 then (if lg_cmp (σ.2.1 50 14) w = 0 then 1 else 0) else 0 := by
  unfold t_is
  simp only [show (1 : Int32) = nI 1 from rfl, tkS_of h (show 1 ≤ 3 by decide), lg_cmp_eq, h.2.2.2.1]
theorem t_gd_eq {σ0 σ : Sg} {g : Nat → Int32} {t : Nat} {x : PS} (h : PsQ σ0 σ g t x) (a b : Int32) : t_gd g t a b x = if σ.1 50 16 = 0 then 0 else if σ.1 50 11 = 2 then (if p_in (σ.1 50 15) a b = 0 then 0 else 1) else 0 := by
  unfold t_gd
  simp only [show (2 : Int32) = nI 2 from rfl, tkS_of h.tk (show 2 ≤ 3 by decide), h.gd, h.tk.2.2.2.2]
theorem t_num_0 {g : Nat → Int32} {t : Nat} {a b : Int32} {x : PS} (h : t_gd g t a b x = 0) : t_num g t a b x = (x.1, 0, x.2.2) := by
  unfold t_num
  rw [h, if_pos rfl]
theorem t_num_1 {g : Nat → Int32} {t : Nat} {a b : Int32} {x : PS} (h : t_gd g t a b x = 1) : t_num g t a b x = (x.1, 1, tkE g t x.2.2) := by
  unfold t_num
  rw [h, if_neg (by decide)]
set_option maxRecDepth 100000 in
set_option maxHeartbeats 800000 in
theorem e7_isWord (G : GT) (σ : Sg) (σ0 : Sg) (gg : Nat → Int32) (tt : Nat) (x : PS) (hx : PsQ σ0 σ gg tt x) (w : Int64) : Evi G mX7_isWord [.ref 50, .long w] σ (t_is gg tt x.2.2 w) (σ) := by
  refine Ev.ofL (m := 0) (L := [some (.ref 50), some (.long w), none]) rfl (Nat.le_of_ble_eq_true rfl) rfl rfl ?_
  refine w_aload_n dX7_isWord_0 rfl ?_
  refine w_getI dX7_isWord_1 fl_X7_190 rfl rfl ?_
  refine w_iconst dX7_isWord_4 ic_1 ?_
  refine w_icmp_ne (t := 21) dX7_isWord_5 (by decide) (fun hz1 => ?_) (fun hz1 => ?_)
  · skip
    refine w_iconst dX7_isWord_21 ic_0 ?_
    refine w_zret dX7_isWord_22 rfl rfl ?_
    exact ⟨by rw [t_is_eq hx.tk, if_neg hz1], rfl⟩
  · skip
    refine w_aload_n dX7_isWord_8 rfl ?_
    refine w_getL dX7_isWord_9 fl_X7_193 rfl ?_
    refine w_lload_n dX7_isWord_12 rfl ?_
    refine w_lcmp dX7_isWord_13 ?_
    refine w_if_ne (t := 21) dX7_isWord_14 (by decide) (fun hz2 => ?_) (fun hz2 => ?_)
    · skip
      refine w_iconst dX7_isWord_21 ic_0 ?_
      refine w_zret dX7_isWord_22 rfl rfl ?_
      exact ⟨by rw [t_is_eq hx.tk, if_pos hz1, if_neg hz2], rfl⟩
    · skip
      refine w_iconst dX7_isWord_17 ic_1 ?_
      refine w_goto (t := 22) dX7_isWord_18 (by decide) ?_
      refine w_zret dX7_isWord_22 rfl rfl ?_
      exact ⟨by rw [t_is_eq hx.tk, if_pos hz1, if_pos hz2], rfl⟩
def t_kind (g : Nat → Int32) (t p : Nat) : Int32 := if t_is g t p 13531 = 0 then if t_is g t p 51345081 = 0 then if t_is g t p 223619 = 0 then if t_is g t p 10973 = 0 then if t_is g t p 865614912780 = 0 then if t_is g t p 6414557904 = 0 then -1 else 5 else 4 else 3 else 2 else 1 else 0
set_option maxRecDepth 100000 in
set_option maxHeartbeats 800000 in
theorem e7_kindHere (G : GT) (σ : Sg) (σ0 : Sg) (gg : Nat → Int32) (tt : Nat) (x : PS) (hx : PsQ σ0 σ gg tt x) : Evi G mX7_kindHere [.ref 50] σ (t_kind gg tt x.2.2) (σ) := by
  refine Ev.ofL (m := 0) (L := [some (.ref 50)]) rfl (Nat.le_of_ble_eq_true rfl) rfl rfl ?_
  refine w_aload_n dX7_kindHere_0 rfl ?_
  refine w_ldc2 dX7_kindHere_1 kl_X7_206 ?_
  refine w_callVi dX7_kindHere_4 ml_X7_208 mv_X7_isWord rfl rfl (by decide) rfl (e7_isWord G _ σ0 gg tt x hx _) rfl rfl (Nat.le_of_ble_eq_true rfl) ?_
  refine w_if_eq (t := 14) dX7_kindHere_7 (by decide) (fun hz1 => ?_) (fun hz1 => ?_)
  · skip
    refine w_aload_n dX7_kindHere_14 rfl ?_
    refine w_ldc2 dX7_kindHere_15 kl_X7_212 ?_
    refine w_callVi dX7_kindHere_18 ml_X7_208 mv_X7_isWord rfl rfl (by decide) rfl (e7_isWord G _ σ0 gg tt x hx _) rfl rfl (Nat.le_of_ble_eq_true rfl) ?_
    refine w_if_eq (t := 28) dX7_kindHere_21 (by decide) (fun hz2 => ?_) (fun hz2 => ?_)
    · skip
      refine w_aload_n dX7_kindHere_28 rfl ?_
      refine w_ldc2 dX7_kindHere_29 kl_X7_214 ?_
      refine w_callVi dX7_kindHere_32 ml_X7_208 mv_X7_isWord rfl rfl (by decide) rfl (e7_isWord G _ σ0 gg tt x hx _) rfl rfl (Nat.le_of_ble_eq_true rfl) ?_
      refine w_if_eq (t := 42) dX7_kindHere_35 (by decide) (fun hz3 => ?_) (fun hz3 => ?_)
      · skip
        refine w_aload_n dX7_kindHere_42 rfl ?_
        refine w_ldc2 dX7_kindHere_43 kl_X7_216 ?_
        refine w_callVi dX7_kindHere_46 ml_X7_208 mv_X7_isWord rfl rfl (by decide) rfl (e7_isWord G _ σ0 gg tt x hx _) rfl rfl (Nat.le_of_ble_eq_true rfl) ?_
        refine w_if_eq (t := 56) dX7_kindHere_49 (by decide) (fun hz4 => ?_) (fun hz4 => ?_)
        · skip
          refine w_aload_n dX7_kindHere_56 rfl ?_
          refine w_ldc2 dX7_kindHere_57 kl_X7_218 ?_
          refine w_callVi dX7_kindHere_60 ml_X7_208 mv_X7_isWord rfl rfl (by decide) rfl (e7_isWord G _ σ0 gg tt x hx _) rfl rfl (Nat.le_of_ble_eq_true rfl) ?_
          refine w_if_eq (t := 70) dX7_kindHere_63 (by decide) (fun hz5 => ?_) (fun hz5 => ?_)
          · skip
            refine w_aload_n dX7_kindHere_70 rfl ?_
            refine w_ldc2 dX7_kindHere_71 kl_X7_220 ?_
            refine w_callVi dX7_kindHere_74 ml_X7_208 mv_X7_isWord rfl rfl (by decide) rfl (e7_isWord G _ σ0 gg tt x hx _) rfl rfl (Nat.le_of_ble_eq_true rfl) ?_
            refine w_if_eq (t := 84) dX7_kindHere_77 (by decide) (fun hz6 => ?_) (fun hz6 => ?_)
            · skip
              refine w_iconst dX7_kindHere_84 ic_m1 ?_
              refine w_iret dX7_kindHere_85 rfl ?_
              exact ⟨by rw [t_kind, if_pos hz1, if_pos hz2, if_pos hz3, if_pos hz4, if_pos hz5, if_pos hz6], rfl⟩
            · skip
              refine w_iconst dX7_kindHere_80 ic_5 ?_
              refine w_goto (t := 85) dX7_kindHere_81 (by decide) ?_
              refine w_iret dX7_kindHere_85 rfl ?_
              exact ⟨by rw [t_kind, if_pos hz1, if_pos hz2, if_pos hz3, if_pos hz4, if_pos hz5, if_neg hz6], rfl⟩
          · skip
            refine w_iconst dX7_kindHere_66 ic_4 ?_
            refine w_goto (t := 85) dX7_kindHere_67 (by decide) ?_
            refine w_iret dX7_kindHere_85 rfl ?_
            exact ⟨by rw [t_kind, if_pos hz1, if_pos hz2, if_pos hz3, if_pos hz4, if_neg hz5], rfl⟩
        · skip
          refine w_iconst dX7_kindHere_52 ic_3 ?_
          refine w_goto (t := 85) dX7_kindHere_53 (by decide) ?_
          refine w_iret dX7_kindHere_85 rfl ?_
          exact ⟨by rw [t_kind, if_pos hz1, if_pos hz2, if_pos hz3, if_neg hz4], rfl⟩
      · skip
        refine w_iconst dX7_kindHere_38 ic_2 ?_
        refine w_goto (t := 85) dX7_kindHere_39 (by decide) ?_
        refine w_iret dX7_kindHere_85 rfl ?_
        exact ⟨by rw [t_kind, if_pos hz1, if_pos hz2, if_neg hz3], rfl⟩
    · skip
      refine w_iconst dX7_kindHere_24 ic_1 ?_
      refine w_goto (t := 85) dX7_kindHere_25 (by decide) ?_
      refine w_iret dX7_kindHere_85 rfl ?_
      exact ⟨by rw [t_kind, if_pos hz1, if_neg hz2], rfl⟩
  · skip
    refine w_iconst dX7_kindHere_10 ic_0 ?_
    refine w_goto (t := 85) dX7_kindHere_11 (by decide) ?_
    refine w_iret dX7_kindHere_85 rfl ?_
    exact ⟨by rw [t_kind, if_neg hz1], rfl⟩
set_option maxRecDepth 100000 in
set_option maxHeartbeats 800000 in
theorem e7_wantNumber (G : GT) (σ : Sg) (σ0 : Sg) (gg : Nat → Int32) (tt : Nat) (x : PS) (hx : PsQ σ0 σ gg tt x) (ax bx : Int32) : Ev G mX7_wantNumber [.ref 50, .int ax, .int bx] σ (fun v σ' => v = some (.int (tkV gg tt x.2.2)) ∧ PsQ σ0 σ' gg tt (t_num gg tt ax bx x)) := by
  refine Ev.ofL (m := 1) (L := [some (.ref 50), some (.int ax), some (.int bx), none]) rfl (Nat.le_of_ble_eq_true rfl) rfl rfl ?_
  refine w_aload_n dX7_wantNumber_0 rfl ?_
  refine w_getI dX7_wantNumber_1 fl_X7_197 rfl rfl ?_
  refine w_istore_n dX7_wantNumber_4 (by decide) rfl rfl ?_
  dsimp only [List.set]
  refine w_aload_n dX7_wantNumber_5 rfl ?_
  refine w_aload_n dX7_wantNumber_6 rfl ?_
  refine w_getI dX7_wantNumber_7 fl_X7_222 rfl rfl ?_
  refine w_if_eq (t := 34) dX7_wantNumber_10 (by decide) (fun hz1 => ?_) (fun hz1 => ?_)
  · skip
    refine w_iconst dX7_wantNumber_34 ic_0 ?_
    refine w_putZ dX7_wantNumber_35 fl_X7_222 rfl rfl (by decide +kernel) (by decide) ?_
    refine w_aload_n dX7_wantNumber_38 rfl ?_
    refine w_getI dX7_wantNumber_39 fl_X7_222 rfl rfl ?_
    refine w_if_eq (t := 49) dX7_wantNumber_42 (by decide) (fun hz2 => ?_) (fun hz2 => absurd (wI_s _ _ _ _) hz2)
    refine w_iload_n dX7_wantNumber_49 rfl ?_
    refine w_iret dX7_wantNumber_50 rfl ?_
    refine ⟨by rw [hx.tk.2.2.2.2], ?_⟩
    have hg : t_gd gg tt ax bx x = 0 := by rw [t_gd_eq hx, if_pos hz1]
    rw [t_num_0 hg]
    exact hx.good 0
  · skip
    refine w_aload_n dX7_wantNumber_13 rfl ?_
    refine w_getI dX7_wantNumber_14 fl_X7_190 rfl rfl ?_
    refine w_iconst dX7_wantNumber_17 ic_2 ?_
    refine w_icmp_ne (t := 34) dX7_wantNumber_18 (by decide) (fun hz3 => ?_) (fun hz3 => ?_)
    · skip
      refine w_iconst dX7_wantNumber_34 ic_0 ?_
      refine w_putZ dX7_wantNumber_35 fl_X7_222 rfl rfl (by decide +kernel) (by decide) ?_
      refine w_aload_n dX7_wantNumber_38 rfl ?_
      refine w_getI dX7_wantNumber_39 fl_X7_222 rfl rfl ?_
      refine w_if_eq (t := 49) dX7_wantNumber_42 (by decide) (fun hz4 => ?_) (fun hz4 => absurd (wI_s _ _ _ _) hz4)
      refine w_iload_n dX7_wantNumber_49 rfl ?_
      refine w_iret dX7_wantNumber_50 rfl ?_
      refine ⟨by rw [hx.tk.2.2.2.2], ?_⟩
      have hg : t_gd gg tt ax bx x = 0 := by rw [t_gd_eq hx, if_neg hz1, if_neg hz3]
      rw [t_num_0 hg]
      exact hx.good 0
    · skip
      refine w_iload_n dX7_wantNumber_21 rfl ?_
      refine w_iload_n dX7_wantNumber_22 rfl ?_
      refine w_iload_n dX7_wantNumber_23 rfl ?_
      refine w_callSi dX7_wantNumber_24 ml_X7_45 ms_X7_in rfl (e7_in G _ _ _ _) rfl rfl (Nat.le_of_ble_eq_true rfl) ?_
      refine w_if_eq (t := 34) dX7_wantNumber_27 (by decide) (fun hz5 => ?_) (fun hz5 => ?_)
      · skip
        refine w_iconst dX7_wantNumber_34 ic_0 ?_
        refine w_putZ dX7_wantNumber_35 fl_X7_222 rfl rfl (by decide +kernel) (by decide) ?_
        refine w_aload_n dX7_wantNumber_38 rfl ?_
        refine w_getI dX7_wantNumber_39 fl_X7_222 rfl rfl ?_
        refine w_if_eq (t := 49) dX7_wantNumber_42 (by decide) (fun hz6 => ?_) (fun hz6 => absurd (wI_s _ _ _ _) hz6)
        refine w_iload_n dX7_wantNumber_49 rfl ?_
        refine w_iret dX7_wantNumber_50 rfl ?_
        refine ⟨by rw [hx.tk.2.2.2.2], ?_⟩
        have hg : t_gd gg tt ax bx x = 0 := by rw [t_gd_eq hx, if_neg hz1, if_pos hz3, if_pos hz5]
        rw [t_num_0 hg]
        exact hx.good 0
      · skip
        refine w_iconst dX7_wantNumber_30 ic_1 ?_
        refine w_goto (t := 35) dX7_wantNumber_31 (by decide) ?_
        refine w_putZ dX7_wantNumber_35 fl_X7_222 rfl rfl (by decide +kernel) (by decide) ?_
        refine w_aload_n dX7_wantNumber_38 rfl ?_
        refine w_getI dX7_wantNumber_39 fl_X7_222 rfl rfl ?_
        refine w_if_eq (t := 49) dX7_wantNumber_42 (by decide) (fun hz7 => absurd hz7 (by rw [wI_s]; decide)) (fun hz7 => ?_)
        refine w_aload_n dX7_wantNumber_45 rfl ?_
        refine w_callVqv dX7_wantNumber_46 ml_X7_226 mv_X7_advance rfl rfl (by decide) rfl (e7_advance G _ (tkE gg tt ((x.1, 1, x.2.2)).2.2) (hx.good 1).tk.2.2.1 tt (hx.good 1).tm (hx.good 1).t1 gg (hx.good 1).tp (tkE_le (hx.good 1).ps)) rfl rfl (Nat.le_of_ble_eq_true rfl) (fun τ1 hqhx1 => ?_)
        have hx1 : PsQ σ0 τ1 gg tt (t_adv gg tt ((x.1, 1, x.2.2))) := (hx.good 1).adv hqhx1.1 hqhx1.2 (tkE_le (hx.good 1).ps)
        refine w_iload_n dX7_wantNumber_49 rfl ?_
        refine w_iret dX7_wantNumber_50 rfl ?_
        refine ⟨by rw [hx.tk.2.2.2.2], ?_⟩
        have hg : t_gd gg tt ax bx x = 1 := by rw [t_gd_eq hx, if_neg hz1, if_pos hz3, if_neg hz5]
        rw [t_num_1 hg]
        exact hx1
set_option maxRecDepth 100000 in
set_option maxHeartbeats 800000 in
theorem e7_mayWant (G : GT) (σ : Sg) (σ0 : Sg) (gg : Nat → Int32) (tt : Nat) (x : PS) (hx : PsQ σ0 σ gg tt x) (w : Int64) (ax bx dx : Int32) : Ev G mX7_mayWant [.ref 50, .long w, .int ax, .int bx, .int dx] σ (fun v σ' => v = some (.int (t_may gg tt w ax bx dx x).1) ∧ PsQ σ0 σ' gg tt (t_may gg tt w ax bx dx x).2) := by
  refine Ev.ofL (m := 0) (L := [some (.ref 50), some (.long w), none, some (.int ax), some (.int bx), some (.int dx)]) rfl (Nat.le_of_ble_eq_true rfl) rfl rfl ?_
  refine w_aload_n dX7_mayWant_0 rfl ?_
  refine w_getI dX7_mayWant_1 fl_X7_222 rfl rfl ?_
  refine w_if_eq (t := 15) dX7_mayWant_4 (by decide) (fun hz1 => ?_) (fun hz1 => ?_)
  · skip
    refine w_iload dX7_mayWant_15 rfl ?_
    refine w_iret dX7_mayWant_17 rfl ?_
    have hgd := hz1
    rw [hx.gd] at hgd
    rw [show t_may gg tt w ax bx dx x = (dx, x) from by rw [t_may, if_pos hgd]]
    exact ⟨rfl, hx⟩
  · skip
    refine w_aload_n dX7_mayWant_7 rfl ?_
    refine w_lload_n dX7_mayWant_8 rfl ?_
    refine w_callVi dX7_mayWant_9 ml_X7_208 mv_X7_isWord rfl rfl (by decide) rfl (e7_isWord G _ σ0 gg tt x hx _) rfl rfl (Nat.le_of_ble_eq_true rfl) ?_
    refine w_if_ne (t := 18) dX7_mayWant_12 (by decide) (fun hz2 => ?_) (fun hz2 => ?_)
    · skip
      refine w_aload_n dX7_mayWant_18 rfl ?_
      refine w_callVqv dX7_mayWant_19 ml_X7_226 mv_X7_advance rfl rfl (by decide) rfl (e7_advance G _ (tkE gg tt (x).2.2) hx.tk.2.2.1 tt hx.tm hx.t1 gg hx.tp (tkE_le hx.ps)) rfl rfl (Nat.le_of_ble_eq_true rfl) (fun τ1 hqhx1 => ?_)
      have hx1 : PsQ σ0 τ1 gg tt (t_adv gg tt (x)) := hx.adv hqhx1.1 hqhx1.2 (tkE_le hx.ps)
      refine w_aload_n dX7_mayWant_22 rfl ?_
      refine w_iload_n dX7_mayWant_23 rfl ?_
      refine w_iload dX7_mayWant_24 rfl ?_
      refine w_callVqi dX7_mayWant_26 ml_X7_229 mv_X7_wantNumber rfl rfl (by decide) rfl (e7_wantNumber G _ σ0 gg tt (t_adv gg tt x) hx1 (ax) (bx)) rfl rfl (Nat.le_of_ble_eq_true rfl) (fun τ2 hx2 => ?_)
      refine w_iret dX7_mayWant_29 rfl ?_
      have hgd := hz1
      rw [hx.gd] at hgd
      rw [show t_may gg tt w ax bx dx x = (tkV gg tt (tkE gg tt x.2.2), t_num gg tt ax bx (t_adv gg tt x)) from by rw [t_may, if_neg hgd, if_neg hz2]]
      exact ⟨rfl, hx2⟩
    · skip
      refine w_iload dX7_mayWant_15 rfl ?_
      refine w_iret dX7_mayWant_17 rfl ?_
      have hgd := hz1
      rw [hx.gd] at hgd
      rw [show t_may gg tt w ax bx dx x = (dx, x) from by rw [t_may, if_neg hgd, if_pos hz2]]
      exact ⟨rfl, hx⟩
def t_rule (g : Nat → Int32) (t k : Nat) (a b : Int32) (x : PS) : PS := if (t_num g t a b (t_adv g t x)).2.1 = 0 then t_num g t a b (t_adv g t x) else (upd (t_num g t a b (t_adv g t x)).1 k (tkV g t (tkE g t x.2.2)), (t_num g t a b (t_adv g t x)).2)
set_option maxRecDepth 100000 in
set_option maxHeartbeats 800000 in
theorem e7_wantRule (G : GT) (σ : Sg) (σ0 : Sg) (gg : Nat → Int32) (tt : Nat) (x : PS) (hx : PsQ σ0 σ gg tt x) (k : Nat) (hk : k < 65) (ax bx : Int32) : Ev G mX7_wantRule [.ref 50, .int (nI k), .int ax, .int bx] σ (fun v σ' => v = none ∧ PsQ σ0 σ' gg tt (t_rule gg tt k ax bx x)) := by
  refine Ev.ofL (m := 1) (L := [some (.ref 50), some (.int (nI k)), some (.int ax), some (.int bx), none]) rfl (Nat.le_of_ble_eq_true rfl) rfl rfl ?_
  refine w_aload_n dX7_wantRule_0 rfl ?_
  refine w_callVqv dX7_wantRule_1 ml_X7_226 mv_X7_advance rfl rfl (by decide) rfl (e7_advance G _ (tkE gg tt (x).2.2) hx.tk.2.2.1 tt hx.tm hx.t1 gg hx.tp (tkE_le hx.ps)) rfl rfl (Nat.le_of_ble_eq_true rfl) (fun τ1 hqhx1 => ?_)
  have hx1 : PsQ σ0 τ1 gg tt (t_adv gg tt (x)) := hx.adv hqhx1.1 hqhx1.2 (tkE_le hx.ps)
  try simp only [wI_51, setR_setR, setR_51]
  refine w_aload_n dX7_wantRule_4 rfl ?_
  refine w_iload_n dX7_wantRule_5 rfl ?_
  refine w_iload_n dX7_wantRule_6 rfl ?_
  refine w_callVqi dX7_wantRule_7 ml_X7_229 mv_X7_wantNumber rfl rfl (by decide) rfl (e7_wantNumber G _ σ0 gg tt (t_adv gg tt x) hx1 (ax) (bx)) rfl rfl (Nat.le_of_ble_eq_true rfl) (fun τ2 hx2 => ?_)
  try simp only [wI_51, setR_setR, setR_51]
  refine w_istore dX7_wantRule_10 (by decide) rfl rfl ?_
  dsimp only [List.set]
  refine w_aload_n dX7_wantRule_12 rfl ?_
  refine w_getI dX7_wantRule_13 fl_X7_222 rfl rfl ?_
  refine w_if_eq (t := 27) dX7_wantRule_16 (by decide) (fun hz1 => ?_) (fun hz1 => ?_)
  · skip
    refine w_vret dX7_wantRule_27 rfl ?_
    have hgd := hz1
    rw [hx2.gd] at hgd
    rw [t_rule, if_pos hgd]
    exact ⟨rfl, hx2⟩
  · skip
    refine w_aload_n dX7_wantRule_19 rfl ?_
    refine w_getR (t := 51) dX7_wantRule_20 fl_X7_7 rfl (by decide) (by decide) rfl ?_
    refine w_iload_n dX7_wantRule_23 rfl ?_
    refine w_iload dX7_wantRule_24 rfl ?_
    refine w_iast (j := k) dX7_wantRule_26 rfl (by decide) rfl (show k < 65 by omega) ?_
    try simp only [wI_51, setR_setR, setR_51]
    refine w_vret dX7_wantRule_27 rfl ?_
    have hgd := hz1
    rw [hx2.gd] at hgd
    rw [t_rule, if_neg hgd]
    exact ⟨rfl, by rw [hx2.row]; exact hx2.setrow _⟩
