section TROD
variable (g : Nat → Int32) (t : Nat) (x : PS)
def t_r0 : PS := (x.1, if x.1 8 < 8 then 1 else 0, x.2.2)
def t_r1 : PS := t_adv g t (t_r0 x)
def t_r2 : PS := ((t_r1 g t x).1, t_is g t (t_r1 g t x).2.2 47, (t_r1 g t x).2.2)
def t_r3 : PS := t_adv g t (t_r2 g t x)
def t_r4 : PS := t_num g t 0 15 (t_r3 g t x)
def t_r5 : Int32 × PS := t_may g t 164222 0 60 10 (t_r4 g t x)
def tz_fr : Int32 := if (t_r5 g t x).2.2.1 = 0 then 0 else if t_is g t (t_r5 g t x).2.2.2 131638 = 0 then 0 else 1
def t_r6 : Int32 × PS := t_may g t 131638 0 23 0 (t_r5 g t x).2
def t_r7 : PS := if tz_fr g t x = 0 then (t_r6 g t x).2 else if (t_r6 g t x).2.2.1 = 0 then (t_r6 g t x).2 else ((t_r6 g t x).2.1, t_is g t (t_r6 g t x).2.2.2 555, (t_r6 g t x).2.2.2)
def t_r8 : Int32 × PS := if tz_fr g t x = 0 then (0, t_r7 g t x) else t_may g t 555 0 23 0 (t_r7 g t x)
def t_r9 (kx : Int32) : PS := if (t_r8 g t x).2.2.1 = 0 then (t_r8 g t x).2 else (p_add (t_r8 g t x).2.1 (x.1 8).toNatClampNeg kx (tkV g t (t_r3 g t x).2.2) (t_r5 g t x).1 (t_r6 g t x).1 (t_r8 g t x).1, (t_r8 g t x).2.2)
def t_rod (kx : Int32) : PS := if (t_r0 x).2.1 = 0 then t_r0 x else if (t_r2 g t x).2.1 = 0 then t_r2 g t x else t_r9 g t x kx
theorem t_may_row (w : Int64) (a b d : Int32) : (t_may g t w a b d x).2.1 = x.1 := by
  unfold t_may
  split
  · rfl
  · split <;> rfl
theorem t_is_z (p : Nat) (w : Int64) : t_is g t p w = 0 ∨ t_is g t p w = 1 := by
  unfold t_is
  split
  · split
    · exact Or.inr rfl
    · exact Or.inl rfl
  · exact Or.inl rfl
theorem t_rod_ex (kx : Int32) : ∃ (y0 y1 y2 y3 y4 : PS) (y5 : Int32 × PS) (zf : Int32) (y6 : Int32 × PS) (y7 : PS) (y8 : Int32 × PS), y0 = (x.1, (if x.1 8 < 8 then 1 else 0), x.2.2) ∧ y1 = t_adv g t y0 ∧ y2 = (y1.1, t_is g t y1.2.2 47, y1.2.2) ∧ y3 = t_adv g t y2 ∧ y4 = t_num g t 0 15 y3 ∧ y5 = t_may g t 164222 0 60 10 y4 ∧ zf = (if y5.2.2.1 = 0 then 0 else if t_is g t y5.2.2.2 131638 = 0 then 0 else 1) ∧ y6 = t_may g t 131638 0 23 0 y5.2 ∧ y7 = (if zf = 0 then y6.2 else if y6.2.2.1 = 0 then y6.2 else (y6.2.1, t_is g t y6.2.2.2 555, y6.2.2.2)) ∧ y8 = (if zf = 0 then (0, y7) else t_may g t 555 0 23 0 y7) ∧ t_rod g t x kx = (if y0.2.1 = 0 then y0 else if y2.2.1 = 0 then y2 else if y8.2.2.1 = 0 then y8.2 else (p_add y8.2.1 (x.1 8).toNatClampNeg kx (tkV g t y3.2.2) y5.1 y6.1 y8.1, y8.2.2)) :=
  ⟨t_r0 x, t_r1 g t x, t_r2 g t x, t_r3 g t x, t_r4 g t x, t_r5 g t x, tz_fr g t x, t_r6 g t x, t_r7 g t x, t_r8 g t x, rfl, rfl, rfl, rfl, rfl, rfl, rfl, rfl, rfl, rfl, rfl⟩
end TROD
set_option maxRecDepth 100000 in
set_option maxHeartbeats 800000 in
theorem e7_wantRod (G : GT) (σ : Sg) (σ0 : Sg) (gg : Nat → Int32) (tt : Nat) (x : PS) (hx : PsQ σ0 σ gg tt x) (kx : Int32) (n : Nat) (hn : x.1 8 = nI n) (h8 : n ≤ 8) : Ev G mX7_wantRod [.ref 50, .int kx] σ (fun v σ' => v = none ∧ PsQ σ0 σ' gg tt (t_rod gg tt x kx)) := by
  obtain ⟨y0, y1, y2, y3, y4, y5, zf, y6, y7, y8, e0, e1, e2, e3, e4, e5, eF, e6, e7, e8, eR⟩ := t_rod_ex gg tt x kx
  rw [eR]
  have h4r : y4.1 = x.1 := by rw [e4, e3, e2, e1, e0]; rfl
  have h5r : y5.2.1 = x.1 := by rw [e5, t_may_row, h4r]
  have h6r : y6.2.1 = x.1 := by rw [e6, t_may_row, h5r]
  have h7r : y7.1 = x.1 := by
    rw [e7]
    split
    · exact h6r
    · split
      · exact h6r
      · exact h6r
  have h8r : y8.2.1 = x.1 := by
    rw [e8]
    split
    · exact h7r
    · rw [t_may_row, h7r]
  refine Ev.ofL (m := 5) (L := [some (.ref 50), some (.int kx), none, none, none, none, none]) rfl (Nat.le_of_ble_eq_true rfl) rfl rfl ?_
  refine w_aload_n dX7_wantRod_0 rfl ?_
  refine w_aload_n dX7_wantRod_1 rfl ?_
  refine w_getR (t := 51) dX7_wantRod_2 fl_X7_7 rfl (by decide) (by decide) rfl ?_
  refine w_bipush dX7_wantRod_5 bp_8 ?_
  refine w_iald (j := 8) dX7_wantRod_7 rfl (by decide) rfl (by decide) ?_
  refine w_bipush dX7_wantRod_8 bp_8 ?_
  refine w2_icmp_ge (t := 17) dX7_wantRod_10 (by decide) (fun hz1 => ?_) (fun hz1 => ?_)
  · skip
    refine w_iconst dX7_wantRod_17 ic_0 ?_
    refine w_putZ dX7_wantRod_18 fl_X7_222 rfl rfl (by decide +kernel) (by decide) ?_
    have hz8 := hz1
    rw [hx.row] at hz8
    have hr0 : y0 = (x.1, 0, x.2.2) := by rw [e0, if_neg hz8]
    refine w_aload_n dX7_wantRod_21 rfl ?_
    refine w_getI dX7_wantRod_22 fl_X7_222 rfl rfl ?_
    refine w_if_ne (t := 29) dX7_wantRod_25 (by decide) (fun hz2 => absurd (wI_s _ _ _ _) hz2) (fun hz2 => ?_)
    refine w_vret dX7_wantRod_28 rfl ?_
    rw [hr0, if_pos rfl]
    exact ⟨rfl, hx.good 0⟩
  · skip
    refine w_iconst dX7_wantRod_13 ic_1 ?_
    refine w_goto (t := 18) dX7_wantRod_14 (by decide) ?_
    refine w_putZ dX7_wantRod_18 fl_X7_222 rfl rfl (by decide +kernel) (by decide) ?_
    have hz8 := hz1
    rw [hx.row] at hz8
    have hr0 : y0 = (x.1, 1, x.2.2) := by rw [e0, if_pos hz8]
    refine w_aload_n dX7_wantRod_21 rfl ?_
    refine w_getI dX7_wantRod_22 fl_X7_222 rfl rfl ?_
    refine w_if_ne (t := 29) dX7_wantRod_25 (by decide) (fun hz3 => ?_) (fun hz3 => absurd hz3 (by rw [wI_s]; decide))
    have hx0 : PsQ σ0 (wI σ 50 16 1) gg tt (y0) := by rw [hr0]; exact hx.good 1
    have hcn : (x.1 8).toNatClampNeg = n := by rw [hn]; exact nI_clamp (by omega)
    have hlt : n < 8 := by
      rw [hn] at hz8
      exact lt_nI (n := 8) (by omega) (by decide) hz8
    refine w_aload_n dX7_wantRod_29 rfl ?_
    refine w_callVqv dX7_wantRod_30 ml_X7_226 mv_X7_advance rfl rfl (by decide) rfl (e7_advance G _ (tkE gg tt (y0).2.2) hx0.tk.2.2.1 tt hx0.tm hx0.t1 gg hx0.tp (tkE_le hx0.ps)) rfl rfl (Nat.le_of_ble_eq_true rfl) (fun τ1 hqhx1 => ?_)
    have hx1 : PsQ σ0 τ1 gg tt (t_adv gg tt (y0)) := hx0.adv hqhx1.1 hqhx1.2 (tkE_le hx0.ps)
    rw [← e1] at hx1
    refine w_aload_n dX7_wantRod_33 rfl ?_
    refine w_aload_n dX7_wantRod_34 rfl ?_
    refine w_ldc2 dX7_wantRod_35 kl_X7_232 ?_
    refine w_callVi dX7_wantRod_38 ml_X7_208 mv_X7_isWord rfl rfl (by decide) rfl (e7_isWord G _ σ0 gg tt (y1) hx1 _) rfl rfl (Nat.le_of_ble_eq_true rfl) ?_
    refine w_putZ dX7_wantRod_41 fl_X7_222 rfl rfl (by decide +kernel) (t_is_z _ _ _ _) ?_
    have hx2 := hx1.good (t_is gg tt (y1).2.2 47)
    rw [← e2] at hx2
    refine w_aload_n dX7_wantRod_44 rfl ?_
    refine w_getI dX7_wantRod_45 fl_X7_222 rfl rfl ?_
    refine w_if_ne (t := 52) dX7_wantRod_48 (by decide) (fun hz4 => ?_) (fun hz4 => ?_)
    · skip
      have hg2 := hz4
      rw [hx2.gd] at hg2
      refine w_aload_n dX7_wantRod_52 rfl ?_
      refine w_callVqv dX7_wantRod_53 ml_X7_226 mv_X7_advance rfl rfl (by decide) rfl (e7_advance G _ (tkE gg tt (y2).2.2) hx2.tk.2.2.1 tt hx2.tm hx2.t1 gg hx2.tp (tkE_le hx2.ps)) rfl rfl (Nat.le_of_ble_eq_true rfl) (fun τ3 hqhx3 => ?_)
      have hx3 : PsQ σ0 τ3 gg tt (t_adv gg tt (y2)) := hx2.adv hqhx3.1 hqhx3.2 (tkE_le hx2.ps)
      rw [← e3] at hx3
      refine w_aload_n dX7_wantRod_56 rfl ?_
      refine w_iconst dX7_wantRod_57 ic_0 ?_
      refine w_bipush dX7_wantRod_58 bp_15 ?_
      refine w_callVqi dX7_wantRod_60 ml_X7_229 mv_X7_wantNumber rfl rfl (by decide) rfl (e7_wantNumber G _ σ0 gg tt (y3) hx3 (0) (15)) rfl rfl (Nat.le_of_ble_eq_true rfl) (fun τ4 hx4 => ?_)
      rw [← e4] at hx4
      refine w_istore_n dX7_wantRod_63 (by decide) rfl rfl ?_
      dsimp only [List.set]
      refine w_aload_n dX7_wantRod_64 rfl ?_
      refine w_ldc2 dX7_wantRod_65 kl_X7_234 ?_
      refine w_iconst dX7_wantRod_68 ic_0 ?_
      refine w_bipush dX7_wantRod_69 bp_60 ?_
      refine w_bipush dX7_wantRod_71 bp_10 ?_
      refine w_callVqi dX7_wantRod_73 ml_X7_236 mv_X7_mayWant rfl rfl (by decide) rfl (e7_mayWant G _ σ0 gg tt (y4) hx4 (164222) (0) (60) (10)) rfl rfl (Nat.le_of_ble_eq_true rfl) (fun τ5 hx5 => ?_)
      rw [← e5] at hx5
      rw [← e5]
      refine w_istore_n dX7_wantRod_76 (by decide) rfl rfl ?_
      dsimp only [List.set]
      refine w_aload_n dX7_wantRod_77 rfl ?_
      refine w_getI dX7_wantRod_78 fl_X7_222 rfl rfl ?_
      refine w_if_eq (t := 98) dX7_wantRod_81 (by decide) (fun hz5 => ?_) (fun hz5 => ?_)
      · skip
        refine w_iconst dX7_wantRod_98 ic_0 ?_
        refine w_istore dX7_wantRod_99 (by decide) rfl rfl ?_
        dsimp only [List.set]
        refine w_aload_n dX7_wantRod_101 rfl ?_
        refine w_ldc2 dX7_wantRod_102 kl_X7_240 ?_
        refine w_iconst dX7_wantRod_105 ic_0 ?_
        refine w_bipush dX7_wantRod_106 bp_23 ?_
        refine w_iconst dX7_wantRod_108 ic_0 ?_
        refine w_callVqi dX7_wantRod_109 ml_X7_236 mv_X7_mayWant rfl rfl (by decide) rfl (e7_mayWant G _ σ0 gg tt ((y5).2) hx5 (131638) (0) (23) (0)) rfl rfl (Nat.le_of_ble_eq_true rfl) (fun τ6 hx6 => ?_)
        rw [← e6] at hx6
        rw [← e6]
        refine w_istore dX7_wantRod_112 (by decide) rfl rfl ?_
        dsimp only [List.set]
        refine w_iload dX7_wantRod_114 rfl ?_
        refine w_if_eq (t := 137) dX7_wantRod_116 (by decide) (fun hz6 => ?_) (fun hz6 => absurd rfl hz6)
        have hg5 := hz5
        rw [hx5.gd] at hg5
        have hfr : zf = 0 := by
          rw [eF]
          exact (if_pos hg5)
        have hr7 : y7 = (y6).2 := by rw [e7, if_pos hfr]
        have hx7 : PsQ σ0 τ6 gg tt (y7) := by rw [hr7]; exact hx6
        refine w_iload dX7_wantRod_137 rfl ?_
        refine w_if_eq (t := 156) dX7_wantRod_139 (by decide) (fun hz7 => ?_) (fun hz7 => absurd rfl hz7)
        refine w_iconst dX7_wantRod_156 ic_0 ?_
        have hr8 : y8 = (0, y7) := by rw [e8, if_pos hfr]
        have hx8 : PsQ σ0 τ6 gg tt (y8).2 := by rw [hr8]; exact hx7
        refine w_istore dX7_wantRod_157 (by decide) rfl rfl ?_
        dsimp only [List.set]
        refine w_aload_n dX7_wantRod_159 rfl ?_
        refine w_getI dX7_wantRod_160 fl_X7_222 rfl rfl ?_
        refine w_if_eq (t := 177) dX7_wantRod_163 (by decide) (fun hz8 => ?_) (fun hz8 => ?_)
        · skip
          refine w_vret dX7_wantRod_177 rfl ?_
          have hg8 := hz8
          rw [hx8.gd] at hg8
          rw [if_neg (by rw [hr0]; exact (by decide : ¬ (1 : Int32) = 0)), if_neg hg2, if_pos hg8]
          exact ⟨rfl, hx8⟩
        · skip
          refine w_aload_n dX7_wantRod_166 rfl ?_
          refine w_iload_n dX7_wantRod_167 rfl ?_
          refine w_iload_n dX7_wantRod_168 rfl ?_
          refine w_iload_n dX7_wantRod_169 rfl ?_
          refine w_iload dX7_wantRod_170 rfl ?_
          refine w_iload dX7_wantRod_172 rfl ?_
          refine w_callVv dX7_wantRod_174 ml_X7_65 mv_X7_addRod rfl rfl (by decide) rfl (e7_addRod G _ _ _ _ _ _ n (by rw [hx8.row, h8r]; exact hn) hlt) rfl rfl (Nat.le_of_ble_eq_true rfl) ?_
          refine w_vret dX7_wantRod_177 rfl ?_
          have hg8 := hz8
          rw [hx8.gd] at hg8
          rw [if_neg (by rw [hr0]; exact (by decide : ¬ (1 : Int32) = 0)), if_neg hg2, if_neg hg8]
          rw [hcn, hx8.row, show (y8).1 = 0 by rw [hr8]]
          exact ⟨rfl, hx8.setrow _⟩
      · skip
        refine w_aload_n dX7_wantRod_84 rfl ?_
        refine w_ldc2 dX7_wantRod_85 kl_X7_240 ?_
        refine w_callVi dX7_wantRod_88 ml_X7_208 mv_X7_isWord rfl rfl (by decide) rfl (e7_isWord G _ σ0 gg tt ((y5).2) hx5 _) rfl rfl (Nat.le_of_ble_eq_true rfl) ?_
        refine w_if_eq (t := 98) dX7_wantRod_91 (by decide) (fun hz9 => ?_) (fun hz9 => ?_)
        · skip
          refine w_iconst dX7_wantRod_98 ic_0 ?_
          refine w_istore dX7_wantRod_99 (by decide) rfl rfl ?_
          dsimp only [List.set]
          refine w_aload_n dX7_wantRod_101 rfl ?_
          refine w_ldc2 dX7_wantRod_102 kl_X7_240 ?_
          refine w_iconst dX7_wantRod_105 ic_0 ?_
          refine w_bipush dX7_wantRod_106 bp_23 ?_
          refine w_iconst dX7_wantRod_108 ic_0 ?_
          refine w_callVqi dX7_wantRod_109 ml_X7_236 mv_X7_mayWant rfl rfl (by decide) rfl (e7_mayWant G _ σ0 gg tt ((y5).2) hx5 (131638) (0) (23) (0)) rfl rfl (Nat.le_of_ble_eq_true rfl) (fun τ6 hx6 => ?_)
          rw [← e6] at hx6
          rw [← e6]
          refine w_istore dX7_wantRod_112 (by decide) rfl rfl ?_
          dsimp only [List.set]
          refine w_iload dX7_wantRod_114 rfl ?_
          refine w_if_eq (t := 137) dX7_wantRod_116 (by decide) (fun hz10 => ?_) (fun hz10 => absurd rfl hz10)
          have hg5 := hz5
          rw [hx5.gd] at hg5
          have hfr : zf = 0 := by
            rw [eF]
            exact ((if_neg hg5).trans (if_pos hz9))
          have hr7 : y7 = (y6).2 := by rw [e7, if_pos hfr]
          have hx7 : PsQ σ0 τ6 gg tt (y7) := by rw [hr7]; exact hx6
          refine w_iload dX7_wantRod_137 rfl ?_
          refine w_if_eq (t := 156) dX7_wantRod_139 (by decide) (fun hz11 => ?_) (fun hz11 => absurd rfl hz11)
          refine w_iconst dX7_wantRod_156 ic_0 ?_
          have hr8 : y8 = (0, y7) := by rw [e8, if_pos hfr]
          have hx8 : PsQ σ0 τ6 gg tt (y8).2 := by rw [hr8]; exact hx7
          refine w_istore dX7_wantRod_157 (by decide) rfl rfl ?_
          dsimp only [List.set]
          refine w_aload_n dX7_wantRod_159 rfl ?_
          refine w_getI dX7_wantRod_160 fl_X7_222 rfl rfl ?_
          refine w_if_eq (t := 177) dX7_wantRod_163 (by decide) (fun hz12 => ?_) (fun hz12 => ?_)
          · skip
            refine w_vret dX7_wantRod_177 rfl ?_
            have hg8 := hz12
            rw [hx8.gd] at hg8
            rw [if_neg (by rw [hr0]; exact (by decide : ¬ (1 : Int32) = 0)), if_neg hg2, if_pos hg8]
            exact ⟨rfl, hx8⟩
          · skip
            refine w_aload_n dX7_wantRod_166 rfl ?_
            refine w_iload_n dX7_wantRod_167 rfl ?_
            refine w_iload_n dX7_wantRod_168 rfl ?_
            refine w_iload_n dX7_wantRod_169 rfl ?_
            refine w_iload dX7_wantRod_170 rfl ?_
            refine w_iload dX7_wantRod_172 rfl ?_
            refine w_callVv dX7_wantRod_174 ml_X7_65 mv_X7_addRod rfl rfl (by decide) rfl (e7_addRod G _ _ _ _ _ _ n (by rw [hx8.row, h8r]; exact hn) hlt) rfl rfl (Nat.le_of_ble_eq_true rfl) ?_
            refine w_vret dX7_wantRod_177 rfl ?_
            have hg8 := hz12
            rw [hx8.gd] at hg8
            rw [if_neg (by rw [hr0]; exact (by decide : ¬ (1 : Int32) = 0)), if_neg hg2, if_neg hg8]
            rw [hcn, hx8.row, show (y8).1 = 0 by rw [hr8]]
            exact ⟨rfl, hx8.setrow _⟩
        · skip
          refine w_iconst dX7_wantRod_94 ic_1 ?_
          refine w_goto (t := 99) dX7_wantRod_95 (by decide) ?_
          refine w_istore dX7_wantRod_99 (by decide) rfl rfl ?_
          dsimp only [List.set]
          refine w_aload_n dX7_wantRod_101 rfl ?_
          refine w_ldc2 dX7_wantRod_102 kl_X7_240 ?_
          refine w_iconst dX7_wantRod_105 ic_0 ?_
          refine w_bipush dX7_wantRod_106 bp_23 ?_
          refine w_iconst dX7_wantRod_108 ic_0 ?_
          refine w_callVqi dX7_wantRod_109 ml_X7_236 mv_X7_mayWant rfl rfl (by decide) rfl (e7_mayWant G _ σ0 gg tt ((y5).2) hx5 (131638) (0) (23) (0)) rfl rfl (Nat.le_of_ble_eq_true rfl) (fun τ6 hx6 => ?_)
          rw [← e6] at hx6
          rw [← e6]
          refine w_istore dX7_wantRod_112 (by decide) rfl rfl ?_
          dsimp only [List.set]
          refine w_iload dX7_wantRod_114 rfl ?_
          refine w_if_eq (t := 137) dX7_wantRod_116 (by decide) (fun hz13 => absurd hz13 (by decide)) (fun hz13 => ?_)
          refine w_aload_n dX7_wantRod_119 rfl ?_
          refine w_getI dX7_wantRod_120 fl_X7_222 rfl rfl ?_
          refine w_if_eq (t := 137) dX7_wantRod_123 (by decide) (fun hz14 => ?_) (fun hz14 => ?_)
          · skip
            have hg5 := hz5
            rw [hx5.gd] at hg5
            have hfr : zf = 1 := by
              rw [eF]
              exact ((if_neg hg5).trans (if_neg hz9))
            have hg6 := hz14
            rw [hx6.gd] at hg6
            have hr7 : y7 = (y6).2 := by rw [e7, if_neg (by rw [hfr]; decide), if_pos hg6]
            have hx7 : PsQ σ0 τ6 gg tt (y7) := by rw [hr7]; exact hx6
            refine w_iload dX7_wantRod_137 rfl ?_
            refine w_if_eq (t := 156) dX7_wantRod_139 (by decide) (fun hz15 => absurd hz15 (by decide)) (fun hz15 => ?_)
            refine w_aload_n dX7_wantRod_142 rfl ?_
            refine w_ldc2 dX7_wantRod_143 kl_X7_242 ?_
            refine w_iconst dX7_wantRod_146 ic_0 ?_
            refine w_bipush dX7_wantRod_147 bp_23 ?_
            refine w_iconst dX7_wantRod_149 ic_0 ?_
            refine w_callVqi dX7_wantRod_150 ml_X7_236 mv_X7_mayWant rfl rfl (by decide) rfl (e7_mayWant G _ σ0 gg tt (y7) hx7 (555) (0) (23) (0)) rfl rfl (Nat.le_of_ble_eq_true rfl) (fun τ8 hx8 => ?_)
            refine w_goto (t := 157) dX7_wantRod_153 (by decide) ?_
            have hr8 : y8 = t_may gg tt 555 0 23 0 (y7) := by rw [e8, if_neg (by rw [hfr]; decide)]
            rw [← hr8] at hx8
            rw [← hr8]
            refine w_istore dX7_wantRod_157 (by decide) rfl rfl ?_
            dsimp only [List.set]
            refine w_aload_n dX7_wantRod_159 rfl ?_
            refine w_getI dX7_wantRod_160 fl_X7_222 rfl rfl ?_
            refine w_if_eq (t := 177) dX7_wantRod_163 (by decide) (fun hz16 => ?_) (fun hz16 => ?_)
            · skip
              refine w_vret dX7_wantRod_177 rfl ?_
              have hg8 := hz16
              rw [hx8.gd] at hg8
              rw [if_neg (by rw [hr0]; exact (by decide : ¬ (1 : Int32) = 0)), if_neg hg2, if_pos hg8]
              exact ⟨rfl, hx8⟩
            · skip
              refine w_aload_n dX7_wantRod_166 rfl ?_
              refine w_iload_n dX7_wantRod_167 rfl ?_
              refine w_iload_n dX7_wantRod_168 rfl ?_
              refine w_iload_n dX7_wantRod_169 rfl ?_
              refine w_iload dX7_wantRod_170 rfl ?_
              refine w_iload dX7_wantRod_172 rfl ?_
              refine w_callVv dX7_wantRod_174 ml_X7_65 mv_X7_addRod rfl rfl (by decide) rfl (e7_addRod G _ _ _ _ _ _ n (by rw [hx8.row, h8r]; exact hn) hlt) rfl rfl (Nat.le_of_ble_eq_true rfl) ?_
              refine w_vret dX7_wantRod_177 rfl ?_
              have hg8 := hz16
              rw [hx8.gd] at hg8
              rw [if_neg (by rw [hr0]; exact (by decide : ¬ (1 : Int32) = 0)), if_neg hg2, if_neg hg8]
              rw [hcn, hx8.row]
              exact ⟨rfl, hx8.setrow _⟩
          · skip
            refine w_aload_n dX7_wantRod_126 rfl ?_
            refine w_aload_n dX7_wantRod_127 rfl ?_
            refine w_ldc2 dX7_wantRod_128 kl_X7_242 ?_
            refine w_callVi dX7_wantRod_131 ml_X7_208 mv_X7_isWord rfl rfl (by decide) rfl (e7_isWord G _ σ0 gg tt ((y6).2) hx6 _) rfl rfl (Nat.le_of_ble_eq_true rfl) ?_
            refine w_putZ dX7_wantRod_134 fl_X7_222 rfl rfl (by decide +kernel) (t_is_z _ _ _ _) ?_
            have hg5 := hz5
            rw [hx5.gd] at hg5
            have hfr : zf = 1 := by
              rw [eF]
              exact ((if_neg hg5).trans (if_neg hz9))
            have hg6 := hz14
            rw [hx6.gd] at hg6
            have hr7 : y7 = ((y6).2.1, t_is gg tt (y6).2.2.2 555, (y6).2.2.2) := by rw [e7, if_neg (by rw [hfr]; decide), if_neg hg6]
            have hx7 : PsQ σ0 (wI τ6 50 16 (t_is gg tt (y6).2.2.2 555)) gg tt (y7) := by rw [hr7]; exact hx6.good _
            refine w_iload dX7_wantRod_137 rfl ?_
            refine w_if_eq (t := 156) dX7_wantRod_139 (by decide) (fun hz17 => absurd hz17 (by decide)) (fun hz17 => ?_)
            refine w_aload_n dX7_wantRod_142 rfl ?_
            refine w_ldc2 dX7_wantRod_143 kl_X7_242 ?_
            refine w_iconst dX7_wantRod_146 ic_0 ?_
            refine w_bipush dX7_wantRod_147 bp_23 ?_
            refine w_iconst dX7_wantRod_149 ic_0 ?_
            refine w_callVqi dX7_wantRod_150 ml_X7_236 mv_X7_mayWant rfl rfl (by decide) rfl (e7_mayWant G _ σ0 gg tt (y7) hx7 (555) (0) (23) (0)) rfl rfl (Nat.le_of_ble_eq_true rfl) (fun τ8 hx8 => ?_)
            refine w_goto (t := 157) dX7_wantRod_153 (by decide) ?_
            have hr8 : y8 = t_may gg tt 555 0 23 0 (y7) := by rw [e8, if_neg (by rw [hfr]; decide)]
            rw [← hr8] at hx8
            rw [← hr8]
            refine w_istore dX7_wantRod_157 (by decide) rfl rfl ?_
            dsimp only [List.set]
            refine w_aload_n dX7_wantRod_159 rfl ?_
            refine w_getI dX7_wantRod_160 fl_X7_222 rfl rfl ?_
            refine w_if_eq (t := 177) dX7_wantRod_163 (by decide) (fun hz18 => ?_) (fun hz18 => ?_)
            · skip
              refine w_vret dX7_wantRod_177 rfl ?_
              have hg8 := hz18
              rw [hx8.gd] at hg8
              rw [if_neg (by rw [hr0]; exact (by decide : ¬ (1 : Int32) = 0)), if_neg hg2, if_pos hg8]
              exact ⟨rfl, hx8⟩
            · skip
              refine w_aload_n dX7_wantRod_166 rfl ?_
              refine w_iload_n dX7_wantRod_167 rfl ?_
              refine w_iload_n dX7_wantRod_168 rfl ?_
              refine w_iload_n dX7_wantRod_169 rfl ?_
              refine w_iload dX7_wantRod_170 rfl ?_
              refine w_iload dX7_wantRod_172 rfl ?_
              refine w_callVv dX7_wantRod_174 ml_X7_65 mv_X7_addRod rfl rfl (by decide) rfl (e7_addRod G _ _ _ _ _ _ n (by rw [hx8.row, h8r]; exact hn) hlt) rfl rfl (Nat.le_of_ble_eq_true rfl) ?_
              refine w_vret dX7_wantRod_177 rfl ?_
              have hg8 := hz18
              rw [hx8.gd] at hg8
              rw [if_neg (by rw [hr0]; exact (by decide : ¬ (1 : Int32) = 0)), if_neg hg2, if_neg hg8]
              rw [hcn, hx8.row]
              exact ⟨rfl, hx8.setrow _⟩
    · skip
      have hg2 := hz4
      rw [hx2.gd] at hg2
      refine w_vret dX7_wantRod_51 rfl ?_
      rw [if_neg (by rw [hr0]; exact (by decide : ¬ (1 : Int32) = 0)), if_pos hg2]
      exact ⟨rfl, hx2⟩
