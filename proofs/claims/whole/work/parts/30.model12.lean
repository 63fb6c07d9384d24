def t_isDir (g : Nat → Int32) (t : Nat) (y : PS) : Int32 := if y.2.1 = 0 then 0 else if t_is g t y.2.2 240023 = 0 then (if t_is g t y.2.2 9748424 = 0 then (if t_is g t y.2.2 10497936 = 0 then 0 else 1) else 1) else 1
def t_dir (g : Nat → Int32) (t : Nat) (y : PS) : Int32 := if t_isDir g t y = 0 then y.1 2 else if t_is g t y.2.2 240023 = 0 then (if t_is g t y.2.2 9748424 = 0 then 0 else 1) else -1
def t_dirS (g : Nat → Int32) (t : Nat) (y : PS) : PS := if t_isDir g t y = 0 then y else t_adv g t y
def t_cl1 (g : Nat → Int32) (t : Nat) (x : PS) : PS := t_num g t 0 15 (t_adv g t x)
def t_cl2 (g : Nat → Int32) (t : Nat) (x : PS) : Int32 × PS := t_may g t 47331248 0 99 ((t_cl1 g t x).1 1) (t_cl1 g t x)
def t_cl3 (g : Nat → Int32) (t : Nat) (v1 v2 v3 : Int32) (y : PS) : PS := if y.2.1 = 0 then y else (upd (upd (upd y.1 0 v1) 1 v2) 2 v3, y.2)
def t_cloud (g : Nat → Int32) (t : Nat) (x : PS) : PS := t_cl3 g t (tkV g t (tkE g t x.2.2)) (t_cl2 g t x).1 (t_dir g t (t_cl2 g t x).2) (t_dirS g t (t_cl2 g t x).2)
set_option maxRecDepth 100000 in
set_option maxHeartbeats 800000 in
theorem e7_wantCloud (G : GT) (σ : Sg) (σ0 : Sg) (gg : Nat → Int32) (tt : Nat) (x : PS) (hx : PsQ σ0 σ gg tt x) : Ev G mX7_wantCloud [.ref 50] σ (fun v σ' => v = none ∧ PsQ σ0 σ' gg tt (t_cloud gg tt x)) := by
  refine Ev.ofL (m := 4) (L := [some (.ref 50), none, none, none, none]) rfl (Nat.le_of_ble_eq_true rfl) rfl rfl ?_
  refine w_aload_n dX7_wantCloud_0 rfl ?_
  refine w_callVqv dX7_wantCloud_1 ml_X7_226 mv_X7_advance rfl rfl (by decide) rfl (e7_advance G _ (tkE gg tt (x).2.2) hx.tk.2.2.1 tt hx.tm hx.t1 gg hx.tp (tkE_le hx.ps)) rfl rfl (Nat.le_of_ble_eq_true rfl) (fun τ1 hqhx1 => ?_)
  have hx1 : PsQ σ0 τ1 gg tt (t_adv gg tt (x)) := hx.adv hqhx1.1 hqhx1.2 (tkE_le hx.ps)
  try simp only [wI_51, setR_setR, setR_51]
  refine w_aload_n dX7_wantCloud_4 rfl ?_
  refine w_iconst dX7_wantCloud_5 ic_0 ?_
  refine w_bipush dX7_wantCloud_6 bp_15 ?_
  refine w_callVqi dX7_wantCloud_8 ml_X7_229 mv_X7_wantNumber rfl rfl (by decide) rfl (e7_wantNumber G _ σ0 gg tt (t_adv gg tt x) hx1 (0) (15)) rfl rfl (Nat.le_of_ble_eq_true rfl) (fun τ2 hx2 => ?_)
  try simp only [wI_51, setR_setR, setR_51]
  refine w_istore_n dX7_wantCloud_11 (by decide) rfl rfl ?_
  dsimp only [List.set]
  refine w_aload_n dX7_wantCloud_12 rfl ?_
  refine w_ldc2 dX7_wantCloud_13 kl_X7_244 ?_
  refine w_iconst dX7_wantCloud_16 ic_0 ?_
  refine w_bipush dX7_wantCloud_17 bp_99 ?_
  refine w_aload_n dX7_wantCloud_19 rfl ?_
  refine w_getR (t := 51) dX7_wantCloud_20 fl_X7_7 rfl (by decide) (by decide) rfl ?_
  refine w_iconst dX7_wantCloud_23 ic_1 ?_
  refine w_iald (j := 1) dX7_wantCloud_24 rfl (by decide) rfl (by decide) ?_
  refine w_eqi (congrFun hx2.row 1) ?_
  · skip
    refine w_callVqi dX7_wantCloud_25 ml_X7_236 mv_X7_mayWant rfl rfl (by decide) rfl (e7_mayWant G _ σ0 gg tt (t_cl1 gg tt x) (show PsQ σ0 τ2 gg tt (t_cl1 gg tt x) from hx2) (47331248) (0) (99) ((t_cl1 gg tt x).1 1)) rfl rfl (Nat.le_of_ble_eq_true rfl) (fun τ3 hx3 => ?_)
    replace hx3 : PsQ σ0 τ3 gg tt (t_cl2 gg tt x).2 := hx3
    try simp only [wI_51, setR_setR, setR_51]
    refine w_istore_n dX7_wantCloud_28 (by decide) rfl rfl ?_
    dsimp only [List.set]
    refine w_aload_n dX7_wantCloud_29 rfl ?_
    refine w_getI dX7_wantCloud_30 fl_X7_222 rfl rfl ?_
    refine w_if_eq (t := 70) dX7_wantCloud_33 (by decide) (fun hz1 => ?_) (fun hz1 => ?_)
    · skip
      refine w_iconst dX7_wantCloud_70 ic_0 ?_
      refine w_istore_n dX7_wantCloud_71 (by decide) rfl rfl ?_
      dsimp only [List.set]
      refine w_iload_n dX7_wantCloud_72 rfl ?_
      refine w_if_ne (t := 85) dX7_wantCloud_73 (by decide) (fun hz2 => absurd rfl hz2) (fun hz2 => ?_)
      refine w_aload_n dX7_wantCloud_76 rfl ?_
      refine w_getR (t := 51) dX7_wantCloud_77 fl_X7_7 rfl (by decide) (by decide) rfl ?_
      refine w_iconst dX7_wantCloud_80 ic_2 ?_
      refine w_iald (j := 2) dX7_wantCloud_81 rfl (by decide) rfl (by decide) ?_
      refine w_goto (t := 114) dX7_wantCloud_82 (by decide) ?_
      refine w_istore dX7_wantCloud_114 (by decide) rfl rfl ?_
      dsimp only [List.set]
      refine w_iload_n dX7_wantCloud_116 rfl ?_
      refine w_if_eq (t := 124) dX7_wantCloud_117 (by decide) (fun hz3 => ?_) (fun hz3 => absurd rfl hz3)
      refine w_aload_n dX7_wantCloud_124 rfl ?_
      refine w_getI dX7_wantCloud_125 fl_X7_222 rfl rfl ?_
      refine w_if_eq (t := 153) dX7_wantCloud_128 (by decide) (fun hz4 => ?_) (fun hz4 => ?_)
      · skip
        refine w_vret dX7_wantCloud_153 rfl ?_
        have hgd := hz1
        rw [hx3.gd] at hgd
        have hD : t_isDir gg tt (t_cl2 gg tt x).2 = 0 := by rw [t_isDir, if_pos hgd]
        have hS : t_dirS gg tt (t_cl2 gg tt x).2 = (t_cl2 gg tt x).2 := by rw [t_dirS, hD, if_pos rfl]
        have hV : t_dir gg tt (t_cl2 gg tt x).2 = (t_cl2 gg tt x).2.1 2 := by rw [t_dir, hD, if_pos rfl]
        have hgd2 := hz4
        rw [hx3.gd] at hgd2
        refine ⟨rfl, ?_⟩
        rw [t_cloud, hS, hV, t_cl3, if_pos hgd2]
        exact hx3
      · skip
        refine w_aload_n dX7_wantCloud_131 rfl ?_
        refine w_getR (t := 51) dX7_wantCloud_132 fl_X7_7 rfl (by decide) (by decide) rfl ?_
        refine w_iconst dX7_wantCloud_135 ic_0 ?_
        refine w_iload_n dX7_wantCloud_136 rfl ?_
        refine w_iast (j := 0) dX7_wantCloud_137 rfl (by decide) rfl (by decide) ?_
        try simp only [wI_51, setR_setR, setR_51]
        refine w_aload_n dX7_wantCloud_138 rfl ?_
        refine w_getR (t := 51) dX7_wantCloud_139 fl_X7_7 rfl (by decide) (by decide) rfl ?_
        refine w_iconst dX7_wantCloud_142 ic_1 ?_
        refine w_iload_n dX7_wantCloud_143 rfl ?_
        refine w_iast (j := 1) dX7_wantCloud_144 rfl (by decide) rfl (by decide) ?_
        try simp only [wI_51, setR_setR, setR_51]
        refine w_aload_n dX7_wantCloud_145 rfl ?_
        refine w_getR (t := 51) dX7_wantCloud_146 fl_X7_7 rfl (by decide) (by decide) rfl ?_
        refine w_iconst dX7_wantCloud_149 ic_2 ?_
        refine w_iload dX7_wantCloud_150 rfl ?_
        refine w_iast (j := 2) dX7_wantCloud_152 rfl (by decide) rfl (by decide) ?_
        try simp only [wI_51, setR_setR, setR_51]
        refine w_vret dX7_wantCloud_153 rfl ?_
        have hgd := hz1
        rw [hx3.gd] at hgd
        have hD : t_isDir gg tt (t_cl2 gg tt x).2 = 0 := by rw [t_isDir, if_pos hgd]
        have hS : t_dirS gg tt (t_cl2 gg tt x).2 = (t_cl2 gg tt x).2 := by rw [t_dirS, hD, if_pos rfl]
        have hV : t_dir gg tt (t_cl2 gg tt x).2 = (t_cl2 gg tt x).2.1 2 := by rw [t_dir, hD, if_pos rfl]
        have hgd2 := hz4
        rw [hx3.gd] at hgd2
        refine ⟨rfl, ?_⟩
        rw [t_cloud, hS, hV, t_cl3, if_neg hgd2]
        rw [← hx3.row]
        exact hx3.setrow _
    · skip
      refine w_aload_n dX7_wantCloud_36 rfl ?_
      refine w_ldc2 dX7_wantCloud_37 kl_X7_246 ?_
      refine w_callVi dX7_wantCloud_40 ml_X7_208 mv_X7_isWord rfl rfl (by decide) rfl (e7_isWord G _ σ0 gg tt (t_cl2 gg tt x).2 hx3 _) rfl rfl (Nat.le_of_ble_eq_true rfl) ?_
      try simp only [wI_51, setR_setR, setR_51]
      refine w_if_ne (t := 66) dX7_wantCloud_43 (by decide) (fun hz5 => ?_) (fun hz5 => ?_)
      · skip
        refine w_iconst dX7_wantCloud_66 ic_1 ?_
        refine w_goto (t := 71) dX7_wantCloud_67 (by decide) ?_
        refine w_istore_n dX7_wantCloud_71 (by decide) rfl rfl ?_
        dsimp only [List.set]
        refine w_iload_n dX7_wantCloud_72 rfl ?_
        refine w_if_ne (t := 85) dX7_wantCloud_73 (by decide) (fun hz6 => ?_) (fun hz6 => absurd hz6 (by decide))
        refine w_aload_n dX7_wantCloud_85 rfl ?_
        refine w_ldc2 dX7_wantCloud_86 kl_X7_246 ?_
        refine w_callVi dX7_wantCloud_89 ml_X7_208 mv_X7_isWord rfl rfl (by decide) rfl (e7_isWord G _ σ0 gg tt (t_cl2 gg tt x).2 hx3 _) rfl rfl (Nat.le_of_ble_eq_true rfl) ?_
        try simp only [wI_51, setR_setR, setR_51]
        refine w_if_eq (t := 99) dX7_wantCloud_92 (by decide) (fun hz7 => absurd hz7 hz5) (fun hz7 => ?_)
        refine w_iconst dX7_wantCloud_95 ic_m1 ?_
        refine w_goto (t := 114) dX7_wantCloud_96 (by decide) ?_
        refine w_istore dX7_wantCloud_114 (by decide) rfl rfl ?_
        dsimp only [List.set]
        refine w_iload_n dX7_wantCloud_116 rfl ?_
        refine w_if_eq (t := 124) dX7_wantCloud_117 (by decide) (fun hz8 => absurd hz8 (by decide)) (fun hz8 => ?_)
        refine w_aload_n dX7_wantCloud_120 rfl ?_
        refine w_callVqv dX7_wantCloud_121 ml_X7_226 mv_X7_advance rfl rfl (by decide) rfl (e7_advance G _ (tkE gg tt ((t_cl2 gg tt x).2).2.2) hx3.tk.2.2.1 tt hx3.tm hx3.t1 gg hx3.tp (tkE_le hx3.ps)) rfl rfl (Nat.le_of_ble_eq_true rfl) (fun τ4 hqhx4 => ?_)
        have hx4 : PsQ σ0 τ4 gg tt (t_adv gg tt ((t_cl2 gg tt x).2)) := hx3.adv hqhx4.1 hqhx4.2 (tkE_le hx3.ps)
        try simp only [wI_51, setR_setR, setR_51]
        refine w_aload_n dX7_wantCloud_124 rfl ?_
        refine w_getI dX7_wantCloud_125 fl_X7_222 rfl rfl ?_
        refine w_if_eq (t := 153) dX7_wantCloud_128 (by decide) (fun hz9 => ?_) (fun hz9 => ?_)
        · skip
          refine w_vret dX7_wantCloud_153 rfl ?_
          have hgd := hz1
          rw [hx3.gd] at hgd
          have hD : t_isDir gg tt (t_cl2 gg tt x).2 = 1 := by rw [t_isDir, if_neg hgd, if_neg hz5]
          have hS : t_dirS gg tt (t_cl2 gg tt x).2 = t_adv gg tt (t_cl2 gg tt x).2 := by rw [t_dirS, hD, if_neg (by decide)]
          have hV : t_dir gg tt (t_cl2 gg tt x).2 = -1 := by rw [t_dir, hD, if_neg (by decide), if_neg hz5]
          have hgd2 := hz9
          rw [hx4.gd] at hgd2
          refine ⟨rfl, ?_⟩
          rw [t_cloud, hS, hV, t_cl3, if_pos hgd2]
          exact hx4
        · skip
          refine w_aload_n dX7_wantCloud_131 rfl ?_
          refine w_getR (t := 51) dX7_wantCloud_132 fl_X7_7 rfl (by decide) (by decide) rfl ?_
          refine w_iconst dX7_wantCloud_135 ic_0 ?_
          refine w_iload_n dX7_wantCloud_136 rfl ?_
          refine w_iast (j := 0) dX7_wantCloud_137 rfl (by decide) rfl (by decide) ?_
          try simp only [wI_51, setR_setR, setR_51]
          refine w_aload_n dX7_wantCloud_138 rfl ?_
          refine w_getR (t := 51) dX7_wantCloud_139 fl_X7_7 rfl (by decide) (by decide) rfl ?_
          refine w_iconst dX7_wantCloud_142 ic_1 ?_
          refine w_iload_n dX7_wantCloud_143 rfl ?_
          refine w_iast (j := 1) dX7_wantCloud_144 rfl (by decide) rfl (by decide) ?_
          try simp only [wI_51, setR_setR, setR_51]
          refine w_aload_n dX7_wantCloud_145 rfl ?_
          refine w_getR (t := 51) dX7_wantCloud_146 fl_X7_7 rfl (by decide) (by decide) rfl ?_
          refine w_iconst dX7_wantCloud_149 ic_2 ?_
          refine w_iload dX7_wantCloud_150 rfl ?_
          refine w_iast (j := 2) dX7_wantCloud_152 rfl (by decide) rfl (by decide) ?_
          try simp only [wI_51, setR_setR, setR_51]
          refine w_vret dX7_wantCloud_153 rfl ?_
          have hgd := hz1
          rw [hx3.gd] at hgd
          have hD : t_isDir gg tt (t_cl2 gg tt x).2 = 1 := by rw [t_isDir, if_neg hgd, if_neg hz5]
          have hS : t_dirS gg tt (t_cl2 gg tt x).2 = t_adv gg tt (t_cl2 gg tt x).2 := by rw [t_dirS, hD, if_neg (by decide)]
          have hV : t_dir gg tt (t_cl2 gg tt x).2 = -1 := by rw [t_dir, hD, if_neg (by decide), if_neg hz5]
          have hgd2 := hz9
          rw [hx4.gd] at hgd2
          refine ⟨rfl, ?_⟩
          rw [t_cloud, hS, hV, t_cl3, if_neg hgd2]
          rw [hx4.row]
          exact hx4.setrow _
      · skip
        refine w_aload_n dX7_wantCloud_46 rfl ?_
        refine w_ldc2 dX7_wantCloud_47 kl_X7_248 ?_
        refine w_callVi dX7_wantCloud_50 ml_X7_208 mv_X7_isWord rfl rfl (by decide) rfl (e7_isWord G _ σ0 gg tt (t_cl2 gg tt x).2 hx3 _) rfl rfl (Nat.le_of_ble_eq_true rfl) ?_
        try simp only [wI_51, setR_setR, setR_51]
        refine w_if_ne (t := 66) dX7_wantCloud_53 (by decide) (fun hz10 => ?_) (fun hz10 => ?_)
        · skip
          refine w_iconst dX7_wantCloud_66 ic_1 ?_
          refine w_goto (t := 71) dX7_wantCloud_67 (by decide) ?_
          refine w_istore_n dX7_wantCloud_71 (by decide) rfl rfl ?_
          dsimp only [List.set]
          refine w_iload_n dX7_wantCloud_72 rfl ?_
          refine w_if_ne (t := 85) dX7_wantCloud_73 (by decide) (fun hz11 => ?_) (fun hz11 => absurd hz11 (by decide))
          refine w_aload_n dX7_wantCloud_85 rfl ?_
          refine w_ldc2 dX7_wantCloud_86 kl_X7_246 ?_
          refine w_callVi dX7_wantCloud_89 ml_X7_208 mv_X7_isWord rfl rfl (by decide) rfl (e7_isWord G _ σ0 gg tt (t_cl2 gg tt x).2 hx3 _) rfl rfl (Nat.le_of_ble_eq_true rfl) ?_
          try simp only [wI_51, setR_setR, setR_51]
          refine w_if_eq (t := 99) dX7_wantCloud_92 (by decide) (fun hz12 => ?_) (fun hz12 => absurd hz5 hz12)
          refine w_aload_n dX7_wantCloud_99 rfl ?_
          refine w_ldc2 dX7_wantCloud_100 kl_X7_248 ?_
          refine w_callVi dX7_wantCloud_103 ml_X7_208 mv_X7_isWord rfl rfl (by decide) rfl (e7_isWord G _ σ0 gg tt (t_cl2 gg tt x).2 hx3 _) rfl rfl (Nat.le_of_ble_eq_true rfl) ?_
          try simp only [wI_51, setR_setR, setR_51]
          refine w_if_eq (t := 113) dX7_wantCloud_106 (by decide) (fun hz13 => absurd hz13 hz10) (fun hz13 => ?_)
          refine w_iconst dX7_wantCloud_109 ic_1 ?_
          refine w_goto (t := 114) dX7_wantCloud_110 (by decide) ?_
          refine w_istore dX7_wantCloud_114 (by decide) rfl rfl ?_
          dsimp only [List.set]
          refine w_iload_n dX7_wantCloud_116 rfl ?_
          refine w_if_eq (t := 124) dX7_wantCloud_117 (by decide) (fun hz14 => absurd hz14 (by decide)) (fun hz14 => ?_)
          refine w_aload_n dX7_wantCloud_120 rfl ?_
          refine w_callVqv dX7_wantCloud_121 ml_X7_226 mv_X7_advance rfl rfl (by decide) rfl (e7_advance G _ (tkE gg tt ((t_cl2 gg tt x).2).2.2) hx3.tk.2.2.1 tt hx3.tm hx3.t1 gg hx3.tp (tkE_le hx3.ps)) rfl rfl (Nat.le_of_ble_eq_true rfl) (fun τ4 hqhx4 => ?_)
          have hx4 : PsQ σ0 τ4 gg tt (t_adv gg tt ((t_cl2 gg tt x).2)) := hx3.adv hqhx4.1 hqhx4.2 (tkE_le hx3.ps)
          try simp only [wI_51, setR_setR, setR_51]
          refine w_aload_n dX7_wantCloud_124 rfl ?_
          refine w_getI dX7_wantCloud_125 fl_X7_222 rfl rfl ?_
          refine w_if_eq (t := 153) dX7_wantCloud_128 (by decide) (fun hz15 => ?_) (fun hz15 => ?_)
          · skip
            refine w_vret dX7_wantCloud_153 rfl ?_
            have hgd := hz1
            rw [hx3.gd] at hgd
            have hD : t_isDir gg tt (t_cl2 gg tt x).2 = 1 := by rw [t_isDir, if_neg hgd, if_pos hz5, if_neg hz10]
            have hS : t_dirS gg tt (t_cl2 gg tt x).2 = t_adv gg tt (t_cl2 gg tt x).2 := by rw [t_dirS, hD, if_neg (by decide)]
            have hV : t_dir gg tt (t_cl2 gg tt x).2 = 1 := by rw [t_dir, hD, if_neg (by decide), if_pos hz5, if_neg hz10]
            have hgd2 := hz15
            rw [hx4.gd] at hgd2
            refine ⟨rfl, ?_⟩
            rw [t_cloud, hS, hV, t_cl3, if_pos hgd2]
            exact hx4
          · skip
            refine w_aload_n dX7_wantCloud_131 rfl ?_
            refine w_getR (t := 51) dX7_wantCloud_132 fl_X7_7 rfl (by decide) (by decide) rfl ?_
            refine w_iconst dX7_wantCloud_135 ic_0 ?_
            refine w_iload_n dX7_wantCloud_136 rfl ?_
            refine w_iast (j := 0) dX7_wantCloud_137 rfl (by decide) rfl (by decide) ?_
            try simp only [wI_51, setR_setR, setR_51]
            refine w_aload_n dX7_wantCloud_138 rfl ?_
            refine w_getR (t := 51) dX7_wantCloud_139 fl_X7_7 rfl (by decide) (by decide) rfl ?_
            refine w_iconst dX7_wantCloud_142 ic_1 ?_
            refine w_iload_n dX7_wantCloud_143 rfl ?_
            refine w_iast (j := 1) dX7_wantCloud_144 rfl (by decide) rfl (by decide) ?_
            try simp only [wI_51, setR_setR, setR_51]
            refine w_aload_n dX7_wantCloud_145 rfl ?_
            refine w_getR (t := 51) dX7_wantCloud_146 fl_X7_7 rfl (by decide) (by decide) rfl ?_
            refine w_iconst dX7_wantCloud_149 ic_2 ?_
            refine w_iload dX7_wantCloud_150 rfl ?_
            refine w_iast (j := 2) dX7_wantCloud_152 rfl (by decide) rfl (by decide) ?_
            try simp only [wI_51, setR_setR, setR_51]
            refine w_vret dX7_wantCloud_153 rfl ?_
            have hgd := hz1
            rw [hx3.gd] at hgd
            have hD : t_isDir gg tt (t_cl2 gg tt x).2 = 1 := by rw [t_isDir, if_neg hgd, if_pos hz5, if_neg hz10]
            have hS : t_dirS gg tt (t_cl2 gg tt x).2 = t_adv gg tt (t_cl2 gg tt x).2 := by rw [t_dirS, hD, if_neg (by decide)]
            have hV : t_dir gg tt (t_cl2 gg tt x).2 = 1 := by rw [t_dir, hD, if_neg (by decide), if_pos hz5, if_neg hz10]
            have hgd2 := hz15
            rw [hx4.gd] at hgd2
            refine ⟨rfl, ?_⟩
            rw [t_cloud, hS, hV, t_cl3, if_neg hgd2]
            rw [hx4.row]
            exact hx4.setrow _
        · skip
          refine w_aload_n dX7_wantCloud_56 rfl ?_
          refine w_ldc2 dX7_wantCloud_57 kl_X7_250 ?_
          refine w_callVi dX7_wantCloud_60 ml_X7_208 mv_X7_isWord rfl rfl (by decide) rfl (e7_isWord G _ σ0 gg tt (t_cl2 gg tt x).2 hx3 _) rfl rfl (Nat.le_of_ble_eq_true rfl) ?_
          try simp only [wI_51, setR_setR, setR_51]
          refine w_if_eq (t := 70) dX7_wantCloud_63 (by decide) (fun hz16 => ?_) (fun hz16 => ?_)
          · skip
            refine w_iconst dX7_wantCloud_70 ic_0 ?_
            refine w_istore_n dX7_wantCloud_71 (by decide) rfl rfl ?_
            dsimp only [List.set]
            refine w_iload_n dX7_wantCloud_72 rfl ?_
            refine w_if_ne (t := 85) dX7_wantCloud_73 (by decide) (fun hz17 => absurd rfl hz17) (fun hz17 => ?_)
            refine w_aload_n dX7_wantCloud_76 rfl ?_
            refine w_getR (t := 51) dX7_wantCloud_77 fl_X7_7 rfl (by decide) (by decide) rfl ?_
            refine w_iconst dX7_wantCloud_80 ic_2 ?_
            refine w_iald (j := 2) dX7_wantCloud_81 rfl (by decide) rfl (by decide) ?_
            refine w_goto (t := 114) dX7_wantCloud_82 (by decide) ?_
            refine w_istore dX7_wantCloud_114 (by decide) rfl rfl ?_
            dsimp only [List.set]
            refine w_iload_n dX7_wantCloud_116 rfl ?_
            refine w_if_eq (t := 124) dX7_wantCloud_117 (by decide) (fun hz18 => ?_) (fun hz18 => absurd rfl hz18)
            refine w_aload_n dX7_wantCloud_124 rfl ?_
            refine w_getI dX7_wantCloud_125 fl_X7_222 rfl rfl ?_
            refine w_if_eq (t := 153) dX7_wantCloud_128 (by decide) (fun hz19 => ?_) (fun hz19 => ?_)
            · skip
              refine w_vret dX7_wantCloud_153 rfl ?_
              have hgd := hz1
              rw [hx3.gd] at hgd
              have hD : t_isDir gg tt (t_cl2 gg tt x).2 = 0 := by rw [t_isDir, if_neg hgd, if_pos hz5, if_pos hz10, if_pos hz16]
              have hS : t_dirS gg tt (t_cl2 gg tt x).2 = (t_cl2 gg tt x).2 := by rw [t_dirS, hD, if_pos rfl]
              have hV : t_dir gg tt (t_cl2 gg tt x).2 = (t_cl2 gg tt x).2.1 2 := by rw [t_dir, hD, if_pos rfl]
              have hgd2 := hz19
              rw [hx3.gd] at hgd2
              refine ⟨rfl, ?_⟩
              rw [t_cloud, hS, hV, t_cl3, if_pos hgd2]
              exact hx3
            · skip
              refine w_aload_n dX7_wantCloud_131 rfl ?_
              refine w_getR (t := 51) dX7_wantCloud_132 fl_X7_7 rfl (by decide) (by decide) rfl ?_
              refine w_iconst dX7_wantCloud_135 ic_0 ?_
              refine w_iload_n dX7_wantCloud_136 rfl ?_
              refine w_iast (j := 0) dX7_wantCloud_137 rfl (by decide) rfl (by decide) ?_
              try simp only [wI_51, setR_setR, setR_51]
              refine w_aload_n dX7_wantCloud_138 rfl ?_
              refine w_getR (t := 51) dX7_wantCloud_139 fl_X7_7 rfl (by decide) (by decide) rfl ?_
              refine w_iconst dX7_wantCloud_142 ic_1 ?_
              refine w_iload_n dX7_wantCloud_143 rfl ?_
              refine w_iast (j := 1) dX7_wantCloud_144 rfl (by decide) rfl (by decide) ?_
              try simp only [wI_51, setR_setR, setR_51]
              refine w_aload_n dX7_wantCloud_145 rfl ?_
              refine w_getR (t := 51) dX7_wantCloud_146 fl_X7_7 rfl (by decide) (by decide) rfl ?_
              refine w_iconst dX7_wantCloud_149 ic_2 ?_
              refine w_iload dX7_wantCloud_150 rfl ?_
              refine w_iast (j := 2) dX7_wantCloud_152 rfl (by decide) rfl (by decide) ?_
              try simp only [wI_51, setR_setR, setR_51]
              refine w_vret dX7_wantCloud_153 rfl ?_
              have hgd := hz1
              rw [hx3.gd] at hgd
              have hD : t_isDir gg tt (t_cl2 gg tt x).2 = 0 := by rw [t_isDir, if_neg hgd, if_pos hz5, if_pos hz10, if_pos hz16]
              have hS : t_dirS gg tt (t_cl2 gg tt x).2 = (t_cl2 gg tt x).2 := by rw [t_dirS, hD, if_pos rfl]
              have hV : t_dir gg tt (t_cl2 gg tt x).2 = (t_cl2 gg tt x).2.1 2 := by rw [t_dir, hD, if_pos rfl]
              have hgd2 := hz19
              rw [hx3.gd] at hgd2
              refine ⟨rfl, ?_⟩
              rw [t_cloud, hS, hV, t_cl3, if_neg hgd2]
              rw [← hx3.row]
              exact hx3.setrow _
          · skip
            refine w_iconst dX7_wantCloud_66 ic_1 ?_
            refine w_goto (t := 71) dX7_wantCloud_67 (by decide) ?_
            refine w_istore_n dX7_wantCloud_71 (by decide) rfl rfl ?_
            dsimp only [List.set]
            refine w_iload_n dX7_wantCloud_72 rfl ?_
            refine w_if_ne (t := 85) dX7_wantCloud_73 (by decide) (fun hz20 => ?_) (fun hz20 => absurd hz20 (by decide))
            refine w_aload_n dX7_wantCloud_85 rfl ?_
            refine w_ldc2 dX7_wantCloud_86 kl_X7_246 ?_
            refine w_callVi dX7_wantCloud_89 ml_X7_208 mv_X7_isWord rfl rfl (by decide) rfl (e7_isWord G _ σ0 gg tt (t_cl2 gg tt x).2 hx3 _) rfl rfl (Nat.le_of_ble_eq_true rfl) ?_
            try simp only [wI_51, setR_setR, setR_51]
            refine w_if_eq (t := 99) dX7_wantCloud_92 (by decide) (fun hz21 => ?_) (fun hz21 => absurd hz5 hz21)
            refine w_aload_n dX7_wantCloud_99 rfl ?_
            refine w_ldc2 dX7_wantCloud_100 kl_X7_248 ?_
            refine w_callVi dX7_wantCloud_103 ml_X7_208 mv_X7_isWord rfl rfl (by decide) rfl (e7_isWord G _ σ0 gg tt (t_cl2 gg tt x).2 hx3 _) rfl rfl (Nat.le_of_ble_eq_true rfl) ?_
            try simp only [wI_51, setR_setR, setR_51]
            refine w_if_eq (t := 113) dX7_wantCloud_106 (by decide) (fun hz22 => ?_) (fun hz22 => absurd hz10 hz22)
            refine w_iconst dX7_wantCloud_113 ic_0 ?_
            refine w_istore dX7_wantCloud_114 (by decide) rfl rfl ?_
            dsimp only [List.set]
            refine w_iload_n dX7_wantCloud_116 rfl ?_
            refine w_if_eq (t := 124) dX7_wantCloud_117 (by decide) (fun hz23 => absurd hz23 (by decide)) (fun hz23 => ?_)
            refine w_aload_n dX7_wantCloud_120 rfl ?_
            refine w_callVqv dX7_wantCloud_121 ml_X7_226 mv_X7_advance rfl rfl (by decide) rfl (e7_advance G _ (tkE gg tt ((t_cl2 gg tt x).2).2.2) hx3.tk.2.2.1 tt hx3.tm hx3.t1 gg hx3.tp (tkE_le hx3.ps)) rfl rfl (Nat.le_of_ble_eq_true rfl) (fun τ4 hqhx4 => ?_)
            have hx4 : PsQ σ0 τ4 gg tt (t_adv gg tt ((t_cl2 gg tt x).2)) := hx3.adv hqhx4.1 hqhx4.2 (tkE_le hx3.ps)
            try simp only [wI_51, setR_setR, setR_51]
            refine w_aload_n dX7_wantCloud_124 rfl ?_
            refine w_getI dX7_wantCloud_125 fl_X7_222 rfl rfl ?_
            refine w_if_eq (t := 153) dX7_wantCloud_128 (by decide) (fun hz24 => ?_) (fun hz24 => ?_)
            · skip
              refine w_vret dX7_wantCloud_153 rfl ?_
              have hgd := hz1
              rw [hx3.gd] at hgd
              have hD : t_isDir gg tt (t_cl2 gg tt x).2 = 1 := by rw [t_isDir, if_neg hgd, if_pos hz5, if_pos hz10, if_neg hz16]
              have hS : t_dirS gg tt (t_cl2 gg tt x).2 = t_adv gg tt (t_cl2 gg tt x).2 := by rw [t_dirS, hD, if_neg (by decide)]
              have hV : t_dir gg tt (t_cl2 gg tt x).2 = 0 := by rw [t_dir, hD, if_neg (by decide), if_pos hz5, if_pos hz10]
              have hgd2 := hz24
              rw [hx4.gd] at hgd2
              refine ⟨rfl, ?_⟩
              rw [t_cloud, hS, hV, t_cl3, if_pos hgd2]
              exact hx4
            · skip
              refine w_aload_n dX7_wantCloud_131 rfl ?_
              refine w_getR (t := 51) dX7_wantCloud_132 fl_X7_7 rfl (by decide) (by decide) rfl ?_
              refine w_iconst dX7_wantCloud_135 ic_0 ?_
              refine w_iload_n dX7_wantCloud_136 rfl ?_
              refine w_iast (j := 0) dX7_wantCloud_137 rfl (by decide) rfl (by decide) ?_
              try simp only [wI_51, setR_setR, setR_51]
              refine w_aload_n dX7_wantCloud_138 rfl ?_
              refine w_getR (t := 51) dX7_wantCloud_139 fl_X7_7 rfl (by decide) (by decide) rfl ?_
              refine w_iconst dX7_wantCloud_142 ic_1 ?_
              refine w_iload_n dX7_wantCloud_143 rfl ?_
              refine w_iast (j := 1) dX7_wantCloud_144 rfl (by decide) rfl (by decide) ?_
              try simp only [wI_51, setR_setR, setR_51]
              refine w_aload_n dX7_wantCloud_145 rfl ?_
              refine w_getR (t := 51) dX7_wantCloud_146 fl_X7_7 rfl (by decide) (by decide) rfl ?_
              refine w_iconst dX7_wantCloud_149 ic_2 ?_
              refine w_iload dX7_wantCloud_150 rfl ?_
              refine w_iast (j := 2) dX7_wantCloud_152 rfl (by decide) rfl (by decide) ?_
              try simp only [wI_51, setR_setR, setR_51]
              refine w_vret dX7_wantCloud_153 rfl ?_
              have hgd := hz1
              rw [hx3.gd] at hgd
              have hD : t_isDir gg tt (t_cl2 gg tt x).2 = 1 := by rw [t_isDir, if_neg hgd, if_pos hz5, if_pos hz10, if_neg hz16]
              have hS : t_dirS gg tt (t_cl2 gg tt x).2 = t_adv gg tt (t_cl2 gg tt x).2 := by rw [t_dirS, hD, if_neg (by decide)]
              have hV : t_dir gg tt (t_cl2 gg tt x).2 = 0 := by rw [t_dir, hD, if_neg (by decide), if_pos hz5, if_pos hz10]
              have hgd2 := hz24
              rw [hx4.gd] at hgd2
              refine ⟨rfl, ?_⟩
              rw [t_cloud, hS, hV, t_cl3, if_neg hgd2]
              rw [hx4.row]
              exact hx4.setrow _
