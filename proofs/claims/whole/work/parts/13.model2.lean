theorem lt_nI {r n : Nat} (hr : r < 2 ^ 31) (hn : n < 2 ^ 31) (h : nI r < nI n) : r < n := (nI_ltI hr hn).mp h
theorem nlt_nI {r n : Nat} (hr : r < 2 ^ 31) (hn : n < 2 ^ 31) (h : ¬ nI r < nI n) : n ≤ r := Nat.not_lt.mp (fun z => h ((nI_ltI hr hn).mpr z))
theorem z01 {c : Prop} [Decidable c] : narrow .boolean (.int (if c then 0 else 1)) = .int (if c then 0 else 1) := by split <;> rfl
theorem z10 {c : Prop} [Decidable c] : narrow .boolean (.int (if c then 1 else 0)) = .int (if c then 1 else 0) := by split <;> rfl
set_option maxRecDepth 100000 in
set_option maxHeartbeats 4000000 in
theorem e7_struckAt (G : GT) (σ : Sg) (c : Int32) (n : Nat) (hn : σ.1 51 8 = nI n) (h8 : n ≤ 8) : Evi G mX7_struckAt [.ref 50, .int c] σ (oI (p_strk (σ.1 51) n c)) (σ) := by
  refine Ev.ofL (m := 4) (L := [some (.ref 50), some (.int c), none, none, none, none]) rfl (Nat.le_of_ble_eq_true rfl) rfl rfl ?_
  refine w_iconst dX7_struckAt_0 ic_m1 ?_
  refine w_istore_n dX7_struckAt_1 (by decide) rfl rfl ?_
  dsimp only [List.set]
  refine w_iconst dX7_struckAt_2 ic_0 ?_
  refine w_istore_n dX7_struckAt_3 (by decide) rfl rfl ?_
  dsimp only [List.set]
  refine w_iconst dX7_struckAt_4 ic_0 ?_
  refine w_istore dX7_struckAt_5 (by decide) rfl rfl ?_
  dsimp only [List.set]
  have lp : ∀ (m : Nat) (r : Nat) (x : Option Value), n - r < m → r ≤ n → WP G mX7_struckAt 7 [some (.ref 50), some (.int c), some (.int (oI (p_best (σ.1 51) c r).1)), some (.int (p_best (σ.1 51) c r).2), some (.int (nI r)), x] [] (σ) (fun v σ' => v = some (.int (oI (p_strk (σ.1 51) n c))) ∧ σ' = (σ)) := by
    intro m
    induction m with
    | zero => intro r x hm; exact absurd hm (Nat.not_lt_zero _)
    | succ m ih =>
      intro r x hm hr
      refine w_iload dX7_struckAt_7 rfl ?_
      refine w_aload_n dX7_struckAt_9 rfl ?_
      refine w_getR (t := 51) dX7_struckAt_10 fl_X7_7 rfl (by decide) (by decide) rfl ?_
      refine w_bipush dX7_struckAt_13 bp_8 ?_
      refine w_iald (j := 8) dX7_struckAt_15 rfl (by decide) rfl (by decide) ?_
      refine w2_icmp_ge (t := 60) dX7_struckAt_16 (by decide) (fun hz1 => ?_) (fun hz1 => ?_)
      · skip
        rw [hn] at hz1
        have hge := nlt_nI (by omega) (by omega) hz1
        have hen : r = n := by omega
        subst hen
        refine w_iload_n dX7_struckAt_60 rfl ?_
        refine w_iret dX7_struckAt_61 rfl ?_
        exact ⟨rfl, rfl⟩
      · skip
        rw [hn] at hz1
        have hlt := lt_nI (by omega) (by omega) hz1
        refine w_aload_n dX7_struckAt_19 rfl ?_
        refine w_iload dX7_struckAt_20 rfl ?_
        refine w_iload_n dX7_struckAt_22 rfl ?_
        refine w_callVi dX7_struckAt_23 ml_X7_90 mv_X7_draws rfl rfl (by decide) rfl (e7_draws G _ (r) _ (by omega)) rfl rfl (Nat.le_of_ble_eq_true rfl) ?_
        refine w_istore dX7_struckAt_26 (by decide) rfl rfl ?_
        dsimp only [List.set]
        refine w_iload dX7_struckAt_28 rfl ?_
        refine w_iload_n dX7_struckAt_30 rfl ?_
        refine w2_icmp_le (t := 39) dX7_struckAt_31 (by decide) (fun hz2 => ?_) (fun hz2 => ?_)
        · skip
          refine w_iload_n dX7_struckAt_39 rfl ?_
          refine w_istore_n dX7_struckAt_40 (by decide) rfl rfl ?_
          dsimp only [List.set]
          have cc := hz2
          refine w_iload dX7_struckAt_41 rfl ?_
          refine w_iload_n dX7_struckAt_43 rfl ?_
          refine w2_icmp_le (t := 52) dX7_struckAt_44 (by decide) (fun hz3 => ?_) (fun hz3 => absurd hz3 hz2)
          refine w_iload_n dX7_struckAt_52 rfl ?_
          refine w_istore_n dX7_struckAt_53 (by decide) rfl rfl ?_
          dsimp only [List.set]
          refine w_iincN (a := r) (b := 1) dX7_struckAt_54 rfl ic_1 (by decide) rfl rfl ?_
          dsimp only [List.set]
          refine w_goto (t := 7) dX7_struckAt_57 (by decide) ?_
          have q := ih (r + 1) (some (.int (p_draws (σ.1 51) r c))) (by omega) (by omega)
          simp only [p_best, cc, if_true, if_false] at q
          exact q
        · skip
          refine w_iload dX7_struckAt_34 rfl ?_
          refine w_goto (t := 40) dX7_struckAt_36 (by decide) ?_
          refine w_istore_n dX7_struckAt_40 (by decide) rfl rfl ?_
          dsimp only [List.set]
          have cc := hz2
          refine w_iload dX7_struckAt_41 rfl ?_
          refine w_iload_n dX7_struckAt_43 rfl ?_
          refine w2_icmp_le (t := 52) dX7_struckAt_44 (by decide) (fun hz4 => absurd hz2 hz4) (fun hz4 => ?_)
          refine w_iload dX7_struckAt_47 rfl ?_
          refine w_goto (t := 53) dX7_struckAt_49 (by decide) ?_
          refine w_istore_n dX7_struckAt_53 (by decide) rfl rfl ?_
          dsimp only [List.set]
          refine w_iincN (a := r) (b := 1) dX7_struckAt_54 rfl ic_1 (by decide) rfl rfl ?_
          dsimp only [List.set]
          refine w_goto (t := 7) dX7_struckAt_57 (by decide) ?_
          have q := ih (r + 1) (some (.int (p_draws (σ.1 51) r c))) (by omega) (by omega)
          simp only [p_best, cc, if_true, if_false] at q
          exact q
  exact lp (n + 1) 0 none (by omega) (by omega)
set_option maxRecDepth 100000 in
set_option maxHeartbeats 4000000 in
theorem e7_doesBreak (G : GT) (σ : Sg) : Evi G mX7_doesBreak [.ref 50] σ (p_breaks (σ.1 51)) (σ) := by
  refine Ev.ofL (m := 0) (L := [some (.ref 50)]) rfl (Nat.le_of_ble_eq_true rfl) rfl rfl ?_
  refine w_aload_n dX7_doesBreak_0 rfl ?_
  refine w_getR (t := 51) dX7_doesBreak_1 fl_X7_7 rfl (by decide) (by decide) rfl ?_
  refine w_iconst dX7_doesBreak_4 ic_1 ?_
  refine w_iald (j := 1) dX7_doesBreak_5 rfl (by decide) rfl (by decide) ?_
  refine w_aload_n dX7_doesBreak_6 rfl ?_
  refine w_getR (t := 51) dX7_doesBreak_7 fl_X7_7 rfl (by decide) (by decide) rfl ?_
  refine w_iconst dX7_doesBreak_10 ic_4 ?_
  refine w_iald (j := 4) dX7_doesBreak_11 rfl (by decide) rfl (by decide) ?_
  refine w_icmp_lt (t := 19) dX7_doesBreak_12 (by decide) (fun hz1 => ?_) (fun hz1 => ?_)
  · skip
    refine w_iconst dX7_doesBreak_19 ic_0 ?_
    refine w_zret dX7_doesBreak_20 rfl rfl ?_
    exact ⟨by simp [p_breaks, hz1], rfl⟩
  · skip
    refine w_iconst dX7_doesBreak_15 ic_1 ?_
    refine w_goto (t := 20) dX7_doesBreak_16 (by decide) ?_
    refine w_zret dX7_doesBreak_20 rfl rfl ?_
    exact ⟨by simp [p_breaks, hz1], rfl⟩
set_option maxRecDepth 100000 in
set_option maxHeartbeats 4000000 in
theorem e7_bolt (G : GT) (σ : Sg) (n : Nat) (hn : σ.1 51 8 = nI n) (h8 : n ≤ 8) : Evv G mX7_bolt [.ref 50] σ (setR σ (p_bolt (σ.1 51) n)) := by
  refine Ev.ofL (m := 2) (L := [some (.ref 50), none, none]) rfl (Nat.le_of_ble_eq_true rfl) rfl rfl ?_
  refine w_aload_n dX7_bolt_0 rfl ?_
  refine w_aload_n dX7_bolt_1 rfl ?_
  refine w_getR (t := 51) dX7_bolt_2 fl_X7_7 rfl (by decide) (by decide) rfl ?_
  refine w_iconst dX7_bolt_5 ic_0 ?_
  refine w_iald (j := 0) dX7_bolt_6 rfl (by decide) rfl (by decide) ?_
  refine w_callVi dX7_bolt_7 ml_X7_101 mv_X7_struckAt rfl rfl (by decide) rfl (e7_struckAt G _ _ n hn h8) rfl rfl (Nat.le_of_ble_eq_true rfl) ?_
  try simp only [wI_51, setR_setR, setR_51]
  rcases hs : p_strk (σ.1 51) n (σ.1 51 0) with _ | k
  · skip
    refine w_istore_n dX7_bolt_10 (by decide) rfl rfl ?_
    dsimp only [List.set]
    refine w_iload_n dX7_bolt_11 rfl ?_
    refine w2_if_ge (t := 19) dX7_bolt_12 (by decide) (fun hz1 => absurd (by decide) hz1) (fun hz1 => ?_)
    refine w_iconst dX7_bolt_15 ic_0 ?_
    refine w_goto (t := 30) dX7_bolt_16 (by decide) ?_
    refine w_istore_n dX7_bolt_30 (by decide) rfl rfl ?_
    dsimp only [List.set]
    refine w_iload_n dX7_bolt_31 rfl ?_
    refine w_if_lt (t := 77) dX7_bolt_32 (by decide) (fun hz2 => ?_) (fun hz2 => absurd (by decide) hz2)
    refine w_iload_n dX7_bolt_77 rfl ?_
    refine w_if_ne (t := 108) dX7_bolt_78 (by decide) (fun hz3 => absurd rfl hz3) (fun hz3 => ?_)
    refine w_aload_n dX7_bolt_81 rfl ?_
    refine w_getR (t := 51) dX7_bolt_82 fl_X7_7 rfl (by decide) (by decide) rfl ?_
    refine w_bipush dX7_bolt_85 bp_6 ?_
    refine w_aload_n dX7_bolt_87 rfl ?_
    refine w_getR (t := 51) dX7_bolt_88 fl_X7_7 rfl (by decide) (by decide) rfl ?_
    refine w_bipush dX7_bolt_91 bp_6 ?_
    refine w_iald (j := 6) dX7_bolt_93 rfl (by decide) rfl (by decide) ?_
    refine w_aload_n dX7_bolt_94 rfl ?_
    refine w_getR (t := 51) dX7_bolt_95 fl_X7_7 rfl (by decide) (by decide) rfl ?_
    refine w_iconst dX7_bolt_98 ic_1 ?_
    refine w_iald (j := 1) dX7_bolt_99 rfl (by decide) rfl (by decide) ?_
    refine w_iadd dX7_bolt_100 ?_
    refine w_iconst dX7_bolt_101 ic_0 ?_
    refine w_ldc dX7_bolt_102 kc_X7_104 ?_
    refine w_callSi dX7_bolt_104 ml_X7_73 ms_X7_held rfl (e7_held G _ _ _ _) rfl rfl (Nat.le_of_ble_eq_true rfl) ?_
    try simp only [wI_51, setR_setR, setR_51]
    refine w_iast (j := 6) dX7_bolt_107 rfl (by decide) rfl (by decide) ?_
    try simp only [wI_51, setR_setR, setR_51]
    refine w_aload_n dX7_bolt_108 rfl ?_
    refine w_getR (t := 51) dX7_bolt_109 fl_X7_7 rfl (by decide) (by decide) rfl ?_
    refine w_iconst dX7_bolt_112 ic_1 ?_
    refine w_iconst dX7_bolt_113 ic_0 ?_
    refine w_iast (j := 1) dX7_bolt_114 rfl (by decide) rfl (by decide) ?_
    try simp only [wI_51, setR_setR, setR_51]
    refine w_vret dX7_bolt_115 rfl ?_
    exact ⟨rfl, by simp only [p_bolt, p_boltO, hs]⟩
  · skip
    have hk := p_strk_lt hs
    change WP G mX7_bolt 10 _ [.int (nI k)] _ _
    refine w_istore_n dX7_bolt_10 (by decide) rfl rfl ?_
    dsimp only [List.set]
    refine w_iload_n dX7_bolt_11 rfl ?_
    refine w2_if_ge (t := 19) dX7_bolt_12 (by decide) (fun hz4 => ?_) (fun hz4 => absurd hz4 (nI_pos (by omega)))
    refine w_aload_n dX7_bolt_19 rfl ?_
    refine w_iload_n dX7_bolt_20 rfl ?_
    refine w_aload_n dX7_bolt_21 rfl ?_
    refine w_getR (t := 51) dX7_bolt_22 fl_X7_7 rfl (by decide) (by decide) rfl ?_
    refine w_iconst dX7_bolt_25 ic_1 ?_
    refine w_iald (j := 1) dX7_bolt_26 rfl (by decide) rfl (by decide) ?_
    refine w_callVi dX7_bolt_27 ml_X7_93 mv_X7_owes rfl rfl (by decide) rfl (e7_owes G _ (k) _ (by omega)) rfl rfl (Nat.le_of_ble_eq_true rfl) ?_
    try simp only [wI_51, setR_setR, setR_51]
    refine w_istore_n dX7_bolt_30 (by decide) rfl rfl ?_
    dsimp only [List.set]
    refine w_iload_n dX7_bolt_31 rfl ?_
    refine w_if_lt (t := 77) dX7_bolt_32 (by decide) (fun hz5 => absurd hz5 (nI_pos (by omega))) (fun hz5 => ?_)
    refine w_aload_n dX7_bolt_35 rfl ?_
    refine w_iload_n dX7_bolt_36 rfl ?_
    refine w_bipush dX7_bolt_37 bp_6 ?_
    refine w_aload_n dX7_bolt_39 rfl ?_
    refine w_iload_n dX7_bolt_40 rfl ?_
    refine w_bipush dX7_bolt_41 bp_6 ?_
    refine w_callVi dX7_bolt_43 ml_X7_69 mv_X7_its rfl rfl (by decide) rfl (e7_its G _ (k) (6) (by omega) (by omega)) rfl rfl (Nat.le_of_ble_eq_true rfl) ?_
    try simp only [wI_51, setR_setR, setR_51]
    refine w_iconst dX7_bolt_46 ic_1 ?_
    refine w_iadd dX7_bolt_47 ?_
    refine w_iconst dX7_bolt_48 ic_0 ?_
    refine w_ldc dX7_bolt_49 kc_X7_104 ?_
    refine w_callSi dX7_bolt_51 ml_X7_73 ms_X7_held rfl (e7_held G _ _ _ _) rfl rfl (Nat.le_of_ble_eq_true rfl) ?_
    try simp only [wI_51, setR_setR, setR_51]
    refine w_callVv dX7_bolt_54 ml_X7_57 mv_X7_puts rfl rfl (by decide) rfl (e7_puts G _ (k) (6) _ (by omega) (by omega)) rfl rfl (Nat.le_of_ble_eq_true rfl) ?_
    try simp only [wI_51, setR_setR, setR_51]
    refine w_aload_n dX7_bolt_57 rfl ?_
    refine w_iload_n dX7_bolt_58 rfl ?_
    refine w_iconst dX7_bolt_59 ic_5 ?_
    refine w_aload_n dX7_bolt_60 rfl ?_
    refine w_iload_n dX7_bolt_61 rfl ?_
    refine w_iconst dX7_bolt_62 ic_5 ?_
    refine w_callVi dX7_bolt_63 ml_X7_69 mv_X7_its rfl rfl (by decide) rfl (e7_its G _ (k) (5) (by omega) (by omega)) rfl rfl (Nat.le_of_ble_eq_true rfl) ?_
    try simp only [wI_51, setR_setR, setR_51]
    refine w_iload_n dX7_bolt_66 rfl ?_
    refine w_iadd dX7_bolt_67 ?_
    refine w_iconst dX7_bolt_68 ic_0 ?_
    refine w_ldc dX7_bolt_69 kc_X7_104 ?_
    refine w_callSi dX7_bolt_71 ml_X7_73 ms_X7_held rfl (e7_held G _ _ _ _) rfl rfl (Nat.le_of_ble_eq_true rfl) ?_
    try simp only [wI_51, setR_setR, setR_51]
    refine w_callVv dX7_bolt_74 ml_X7_57 mv_X7_puts rfl rfl (by decide) rfl (e7_puts G _ (k) (5) _ (by omega) (by omega)) rfl rfl (Nat.le_of_ble_eq_true rfl) ?_
    try simp only [wI_51, setR_setR, setR_51]
    refine w_iload_n dX7_bolt_77 rfl ?_
    refine w_if_ne (t := 108) dX7_bolt_78 (by decide) (fun hz6 => ?_) (fun hz6 => ?_)
    · skip
      refine w_aload_n dX7_bolt_108 rfl ?_
      refine w_getR (t := 51) dX7_bolt_109 fl_X7_7 rfl (by decide) (by decide) rfl ?_
      refine w_iconst dX7_bolt_112 ic_1 ?_
      refine w_iconst dX7_bolt_113 ic_0 ?_
      refine w_iast (j := 1) dX7_bolt_114 rfl (by decide) rfl (by decide) ?_
      try simp only [wI_51, setR_setR, setR_51]
      refine w_vret dX7_bolt_115 rfl ?_
      exact ⟨rfl, by simp only [p_bolt, p_boltO, hs, hz6, if_true, if_false]⟩
    · skip
      refine w_aload_n dX7_bolt_81 rfl ?_
      refine w_getR (t := 51) dX7_bolt_82 fl_X7_7 rfl (by decide) (by decide) rfl ?_
      refine w_bipush dX7_bolt_85 bp_6 ?_
      refine w_aload_n dX7_bolt_87 rfl ?_
      refine w_getR (t := 51) dX7_bolt_88 fl_X7_7 rfl (by decide) (by decide) rfl ?_
      refine w_bipush dX7_bolt_91 bp_6 ?_
      refine w_iald (j := 6) dX7_bolt_93 rfl (by decide) rfl (by decide) ?_
      refine w_aload_n dX7_bolt_94 rfl ?_
      refine w_getR (t := 51) dX7_bolt_95 fl_X7_7 rfl (by decide) (by decide) rfl ?_
      refine w_iconst dX7_bolt_98 ic_1 ?_
      refine w_iald (j := 1) dX7_bolt_99 rfl (by decide) rfl (by decide) ?_
      refine w_iadd dX7_bolt_100 ?_
      refine w_iconst dX7_bolt_101 ic_0 ?_
      refine w_ldc dX7_bolt_102 kc_X7_104 ?_
      refine w_callSi dX7_bolt_104 ml_X7_73 ms_X7_held rfl (e7_held G _ _ _ _) rfl rfl (Nat.le_of_ble_eq_true rfl) ?_
      try simp only [wI_51, setR_setR, setR_51]
      refine w_iast (j := 6) dX7_bolt_107 rfl (by decide) rfl (by decide) ?_
      try simp only [wI_51, setR_setR, setR_51]
      refine w_aload_n dX7_bolt_108 rfl ?_
      refine w_getR (t := 51) dX7_bolt_109 fl_X7_7 rfl (by decide) (by decide) rfl ?_
      refine w_iconst dX7_bolt_112 ic_1 ?_
      refine w_iconst dX7_bolt_113 ic_0 ?_
      refine w_iast (j := 1) dX7_bolt_114 rfl (by decide) rfl (by decide) ?_
      try simp only [wI_51, setR_setR, setR_51]
      refine w_vret dX7_bolt_115 rfl ?_
      exact ⟨rfl, by simp only [p_bolt, p_boltO, hs, hz6, if_true, if_false]⟩
set_option maxRecDepth 100000 in
set_option maxHeartbeats 4000000 in
theorem e7_oneHour (G : GT) (σ : Sg) (n : Nat) (hn : σ.1 51 8 = nI n) (h8 : n ≤ 8) : Evv G mX7_oneHour [.ref 50] σ (setR σ (p_hour (σ.1 51) n)) := by
  refine Ev.ofL (m := 0) (L := [some (.ref 50)]) rfl (Nat.le_of_ble_eq_true rfl) rfl rfl ?_
  refine w_aload_n dX7_oneHour_0 rfl ?_
  refine w_callVi dX7_oneHour_1 ml_X7_105 mv_X7_doesBreak rfl rfl (by decide) rfl (e7_doesBreak G _) rfl rfl (Nat.le_of_ble_eq_true rfl) ?_
  try simp only [wI_51, setR_setR, setR_51]
  refine w_if_eq (t := 11) dX7_oneHour_4 (by decide) (fun hz1 => ?_) (fun hz1 => ?_)
  · skip
    refine w_aload_n dX7_oneHour_11 rfl ?_
    refine w_getR (t := 51) dX7_oneHour_12 fl_X7_7 rfl (by decide) (by decide) rfl ?_
    refine w_iconst dX7_oneHour_15 ic_0 ?_
    refine w_iald (j := 0) dX7_oneHour_16 rfl (by decide) rfl (by decide) ?_
    refine w_aload_n dX7_oneHour_17 rfl ?_
    refine w_getR (t := 51) dX7_oneHour_18 fl_X7_7 rfl (by decide) (by decide) rfl ?_
    refine w_iconst dX7_oneHour_21 ic_2 ?_
    refine w_iald (j := 2) dX7_oneHour_22 rfl (by decide) rfl (by decide) ?_
    refine w_iadd dX7_oneHour_23 ?_
    refine w_callSi dX7_oneHour_24 ml_X7_49 ms_X7_isPlace rfl (e7_isPlace G _ _) rfl rfl (Nat.le_of_ble_eq_true rfl) ?_
    try simp only [wI_51, setR_setR, setR_51]
    refine w_if_eq (t := 48) dX7_oneHour_27 (by decide) (fun hz2 => ?_) (fun hz2 => ?_)
    · skip
      refine w_aload_n dX7_oneHour_48 rfl ?_
      refine w_getR (t := 51) dX7_oneHour_49 fl_X7_7 rfl (by decide) (by decide) rfl ?_
      refine w_iconst dX7_oneHour_52 ic_2 ?_
      refine w_aload_n dX7_oneHour_53 rfl ?_
      refine w_getR (t := 51) dX7_oneHour_54 fl_X7_7 rfl (by decide) (by decide) rfl ?_
      refine w_iconst dX7_oneHour_57 ic_2 ?_
      refine w_iald (j := 2) dX7_oneHour_58 rfl (by decide) rfl (by decide) ?_
      refine w_ineg dX7_oneHour_59 ?_
      refine w_iast (j := 2) dX7_oneHour_60 rfl (by decide) rfl (by decide) ?_
      try simp only [wI_51, setR_setR, setR_51]
      refine w_aload_n dX7_oneHour_61 rfl ?_
      refine w_getR (t := 51) dX7_oneHour_62 fl_X7_7 rfl (by decide) (by decide) rfl ?_
      refine w_iconst dX7_oneHour_65 ic_1 ?_
      refine w_aload_n dX7_oneHour_66 rfl ?_
      refine w_getR (t := 51) dX7_oneHour_67 fl_X7_7 rfl (by decide) (by decide) rfl ?_
      refine w_iconst dX7_oneHour_70 ic_1 ?_
      refine w_iald (j := 1) dX7_oneHour_71 rfl (by decide) rfl (by decide) ?_
      refine w_aload_n dX7_oneHour_72 rfl ?_
      refine w_getR (t := 51) dX7_oneHour_73 fl_X7_7 rfl (by decide) (by decide) rfl ?_
      refine w_iconst dX7_oneHour_76 ic_3 ?_
      refine w_iald (j := 3) dX7_oneHour_77 rfl (by decide) rfl (by decide) ?_
      refine w_iadd dX7_oneHour_78 ?_
      refine w_iconst dX7_oneHour_79 ic_0 ?_
      refine w_bipush dX7_oneHour_80 bp_99 ?_
      refine w_callSi dX7_oneHour_82 ml_X7_73 ms_X7_held rfl (e7_held G _ _ _ _) rfl rfl (Nat.le_of_ble_eq_true rfl) ?_
      try simp only [wI_51, setR_setR, setR_51]
      refine w_iast (j := 1) dX7_oneHour_85 rfl (by decide) rfl (by decide) ?_
      try simp only [wI_51, setR_setR, setR_51]
      refine w_aload_n dX7_oneHour_86 rfl ?_
      refine w_getR (t := 51) dX7_oneHour_87 fl_X7_7 rfl (by decide) (by decide) rfl ?_
      refine w_iconst dX7_oneHour_90 ic_5 ?_
      refine w_dup2 dX7_oneHour_91 rfl rfl ?_
      refine w_iald (j := 5) dX7_oneHour_92 rfl (by decide) rfl (by decide) ?_
      refine w_iconst dX7_oneHour_93 ic_1 ?_
      refine w_iadd dX7_oneHour_94 ?_
      refine w_iast (j := 5) dX7_oneHour_95 rfl (by decide) rfl (by decide) ?_
      try simp only [wI_51, setR_setR, setR_51]
      refine w_vret dX7_oneHour_96 rfl ?_
      exact ⟨rfl, by simp only [p_hour, p_rest, p_grow, p_drift, hz1, hz2, if_true, if_false]⟩
    · skip
      refine w_aload_n dX7_oneHour_30 rfl ?_
      refine w_getR (t := 51) dX7_oneHour_31 fl_X7_7 rfl (by decide) (by decide) rfl ?_
      refine w_iconst dX7_oneHour_34 ic_0 ?_
      refine w_dup2 dX7_oneHour_35 rfl rfl ?_
      refine w_iald (j := 0) dX7_oneHour_36 rfl (by decide) rfl (by decide) ?_
      refine w_aload_n dX7_oneHour_37 rfl ?_
      refine w_getR (t := 51) dX7_oneHour_38 fl_X7_7 rfl (by decide) (by decide) rfl ?_
      refine w_iconst dX7_oneHour_41 ic_2 ?_
      refine w_iald (j := 2) dX7_oneHour_42 rfl (by decide) rfl (by decide) ?_
      refine w_iadd dX7_oneHour_43 ?_
      refine w_iast (j := 0) dX7_oneHour_44 rfl (by decide) rfl (by decide) ?_
      try simp only [wI_51, setR_setR, setR_51]
      refine w_goto (t := 61) dX7_oneHour_45 (by decide) ?_
      refine w_aload_n dX7_oneHour_61 rfl ?_
      refine w_getR (t := 51) dX7_oneHour_62 fl_X7_7 rfl (by decide) (by decide) rfl ?_
      refine w_iconst dX7_oneHour_65 ic_1 ?_
      refine w_aload_n dX7_oneHour_66 rfl ?_
      refine w_getR (t := 51) dX7_oneHour_67 fl_X7_7 rfl (by decide) (by decide) rfl ?_
      refine w_iconst dX7_oneHour_70 ic_1 ?_
      refine w_iald (j := 1) dX7_oneHour_71 rfl (by decide) rfl (by decide) ?_
      refine w_aload_n dX7_oneHour_72 rfl ?_
      refine w_getR (t := 51) dX7_oneHour_73 fl_X7_7 rfl (by decide) (by decide) rfl ?_
      refine w_iconst dX7_oneHour_76 ic_3 ?_
      refine w_iald (j := 3) dX7_oneHour_77 rfl (by decide) rfl (by decide) ?_
      refine w_iadd dX7_oneHour_78 ?_
      refine w_iconst dX7_oneHour_79 ic_0 ?_
      refine w_bipush dX7_oneHour_80 bp_99 ?_
      refine w_callSi dX7_oneHour_82 ml_X7_73 ms_X7_held rfl (e7_held G _ _ _ _) rfl rfl (Nat.le_of_ble_eq_true rfl) ?_
      try simp only [wI_51, setR_setR, setR_51]
      refine w_iast (j := 1) dX7_oneHour_85 rfl (by decide) rfl (by decide) ?_
      try simp only [wI_51, setR_setR, setR_51]
      refine w_aload_n dX7_oneHour_86 rfl ?_
      refine w_getR (t := 51) dX7_oneHour_87 fl_X7_7 rfl (by decide) (by decide) rfl ?_
      refine w_iconst dX7_oneHour_90 ic_5 ?_
      refine w_dup2 dX7_oneHour_91 rfl rfl ?_
      refine w_iald (j := 5) dX7_oneHour_92 rfl (by decide) rfl (by decide) ?_
      refine w_iconst dX7_oneHour_93 ic_1 ?_
      refine w_iadd dX7_oneHour_94 ?_
      refine w_iast (j := 5) dX7_oneHour_95 rfl (by decide) rfl (by decide) ?_
      try simp only [wI_51, setR_setR, setR_51]
      refine w_vret dX7_oneHour_96 rfl ?_
      exact ⟨rfl, by simp only [p_hour, p_rest, p_grow, p_drift, hz1, hz2, if_true, if_false]⟩
  · skip
    refine w_aload_n dX7_oneHour_7 rfl ?_
    refine w_callVv dX7_oneHour_8 ml_X7_109 mv_X7_bolt rfl rfl (by decide) rfl (e7_bolt G _ n hn h8) rfl rfl (Nat.le_of_ble_eq_true rfl) ?_
    try simp only [wI_51, setR_setR, setR_51]
    refine w_aload_n dX7_oneHour_11 rfl ?_
    refine w_getR (t := 51) dX7_oneHour_12 fl_X7_7 rfl (by decide) (by decide) rfl ?_
    refine w_iconst dX7_oneHour_15 ic_0 ?_
    refine w_iald (j := 0) dX7_oneHour_16 rfl (by decide) rfl (by decide) ?_
    refine w_aload_n dX7_oneHour_17 rfl ?_
    refine w_getR (t := 51) dX7_oneHour_18 fl_X7_7 rfl (by decide) (by decide) rfl ?_
    refine w_iconst dX7_oneHour_21 ic_2 ?_
    refine w_iald (j := 2) dX7_oneHour_22 rfl (by decide) rfl (by decide) ?_
    refine w_iadd dX7_oneHour_23 ?_
    refine w_callSi dX7_oneHour_24 ml_X7_49 ms_X7_isPlace rfl (e7_isPlace G _ _) rfl rfl (Nat.le_of_ble_eq_true rfl) ?_
    try simp only [wI_51, setR_setR, setR_51]
    refine w_if_eq (t := 48) dX7_oneHour_27 (by decide) (fun hz3 => ?_) (fun hz3 => ?_)
    · skip
      refine w_aload_n dX7_oneHour_48 rfl ?_
      refine w_getR (t := 51) dX7_oneHour_49 fl_X7_7 rfl (by decide) (by decide) rfl ?_
      refine w_iconst dX7_oneHour_52 ic_2 ?_
      refine w_aload_n dX7_oneHour_53 rfl ?_
      refine w_getR (t := 51) dX7_oneHour_54 fl_X7_7 rfl (by decide) (by decide) rfl ?_
      refine w_iconst dX7_oneHour_57 ic_2 ?_
      refine w_iald (j := 2) dX7_oneHour_58 rfl (by decide) rfl (by decide) ?_
      refine w_ineg dX7_oneHour_59 ?_
      refine w_iast (j := 2) dX7_oneHour_60 rfl (by decide) rfl (by decide) ?_
      try simp only [wI_51, setR_setR, setR_51]
      refine w_aload_n dX7_oneHour_61 rfl ?_
      refine w_getR (t := 51) dX7_oneHour_62 fl_X7_7 rfl (by decide) (by decide) rfl ?_
      refine w_iconst dX7_oneHour_65 ic_1 ?_
      refine w_aload_n dX7_oneHour_66 rfl ?_
      refine w_getR (t := 51) dX7_oneHour_67 fl_X7_7 rfl (by decide) (by decide) rfl ?_
      refine w_iconst dX7_oneHour_70 ic_1 ?_
      refine w_iald (j := 1) dX7_oneHour_71 rfl (by decide) rfl (by decide) ?_
      refine w_aload_n dX7_oneHour_72 rfl ?_
      refine w_getR (t := 51) dX7_oneHour_73 fl_X7_7 rfl (by decide) (by decide) rfl ?_
      refine w_iconst dX7_oneHour_76 ic_3 ?_
      refine w_iald (j := 3) dX7_oneHour_77 rfl (by decide) rfl (by decide) ?_
      refine w_iadd dX7_oneHour_78 ?_
      refine w_iconst dX7_oneHour_79 ic_0 ?_
      refine w_bipush dX7_oneHour_80 bp_99 ?_
      refine w_callSi dX7_oneHour_82 ml_X7_73 ms_X7_held rfl (e7_held G _ _ _ _) rfl rfl (Nat.le_of_ble_eq_true rfl) ?_
      try simp only [wI_51, setR_setR, setR_51]
      refine w_iast (j := 1) dX7_oneHour_85 rfl (by decide) rfl (by decide) ?_
      try simp only [wI_51, setR_setR, setR_51]
      refine w_aload_n dX7_oneHour_86 rfl ?_
      refine w_getR (t := 51) dX7_oneHour_87 fl_X7_7 rfl (by decide) (by decide) rfl ?_
      refine w_iconst dX7_oneHour_90 ic_5 ?_
      refine w_dup2 dX7_oneHour_91 rfl rfl ?_
      refine w_iald (j := 5) dX7_oneHour_92 rfl (by decide) rfl (by decide) ?_
      refine w_iconst dX7_oneHour_93 ic_1 ?_
      refine w_iadd dX7_oneHour_94 ?_
      refine w_iast (j := 5) dX7_oneHour_95 rfl (by decide) rfl (by decide) ?_
      try simp only [wI_51, setR_setR, setR_51]
      refine w_vret dX7_oneHour_96 rfl ?_
      exact ⟨rfl, by simp only [p_hour, p_rest, p_grow, p_drift, hz1, hz3, if_true, if_false]⟩
    · skip
      refine w_aload_n dX7_oneHour_30 rfl ?_
      refine w_getR (t := 51) dX7_oneHour_31 fl_X7_7 rfl (by decide) (by decide) rfl ?_
      refine w_iconst dX7_oneHour_34 ic_0 ?_
      refine w_dup2 dX7_oneHour_35 rfl rfl ?_
      refine w_iald (j := 0) dX7_oneHour_36 rfl (by decide) rfl (by decide) ?_
      refine w_aload_n dX7_oneHour_37 rfl ?_
      refine w_getR (t := 51) dX7_oneHour_38 fl_X7_7 rfl (by decide) (by decide) rfl ?_
      refine w_iconst dX7_oneHour_41 ic_2 ?_
      refine w_iald (j := 2) dX7_oneHour_42 rfl (by decide) rfl (by decide) ?_
      refine w_iadd dX7_oneHour_43 ?_
      refine w_iast (j := 0) dX7_oneHour_44 rfl (by decide) rfl (by decide) ?_
      try simp only [wI_51, setR_setR, setR_51]
      refine w_goto (t := 61) dX7_oneHour_45 (by decide) ?_
      refine w_aload_n dX7_oneHour_61 rfl ?_
      refine w_getR (t := 51) dX7_oneHour_62 fl_X7_7 rfl (by decide) (by decide) rfl ?_
      refine w_iconst dX7_oneHour_65 ic_1 ?_
      refine w_aload_n dX7_oneHour_66 rfl ?_
      refine w_getR (t := 51) dX7_oneHour_67 fl_X7_7 rfl (by decide) (by decide) rfl ?_
      refine w_iconst dX7_oneHour_70 ic_1 ?_
      refine w_iald (j := 1) dX7_oneHour_71 rfl (by decide) rfl (by decide) ?_
      refine w_aload_n dX7_oneHour_72 rfl ?_
      refine w_getR (t := 51) dX7_oneHour_73 fl_X7_7 rfl (by decide) (by decide) rfl ?_
      refine w_iconst dX7_oneHour_76 ic_3 ?_
      refine w_iald (j := 3) dX7_oneHour_77 rfl (by decide) rfl (by decide) ?_
      refine w_iadd dX7_oneHour_78 ?_
      refine w_iconst dX7_oneHour_79 ic_0 ?_
      refine w_bipush dX7_oneHour_80 bp_99 ?_
      refine w_callSi dX7_oneHour_82 ml_X7_73 ms_X7_held rfl (e7_held G _ _ _ _) rfl rfl (Nat.le_of_ble_eq_true rfl) ?_
      try simp only [wI_51, setR_setR, setR_51]
      refine w_iast (j := 1) dX7_oneHour_85 rfl (by decide) rfl (by decide) ?_
      try simp only [wI_51, setR_setR, setR_51]
      refine w_aload_n dX7_oneHour_86 rfl ?_
      refine w_getR (t := 51) dX7_oneHour_87 fl_X7_7 rfl (by decide) (by decide) rfl ?_
      refine w_iconst dX7_oneHour_90 ic_5 ?_
      refine w_dup2 dX7_oneHour_91 rfl rfl ?_
      refine w_iald (j := 5) dX7_oneHour_92 rfl (by decide) rfl (by decide) ?_
      refine w_iconst dX7_oneHour_93 ic_1 ?_
      refine w_iadd dX7_oneHour_94 ?_
      refine w_iast (j := 5) dX7_oneHour_95 rfl (by decide) rfl (by decide) ?_
      try simp only [wI_51, setR_setR, setR_51]
      refine w_vret dX7_oneHour_96 rfl ?_
      exact ⟨rfl, by simp only [p_hour, p_rest, p_grow, p_drift, hz1, hz3, if_true, if_false]⟩
set_option maxRecDepth 100000 in
set_option maxHeartbeats 4000000 in
theorem e7_passes (G : GT) (σ : Sg) (q : Nat) (hq : q < 2 ^ 31) (n : Nat) (hn : σ.1 51 8 = nI n) (h8 : n ≤ 8) : Evv G mX7_passes [.ref 50, .int (nI q)] σ (setR σ (p_pass (σ.1 51) n q)) := by
  refine Ev.ofL (m := 1) (L := [some (.ref 50), some (.int (nI q)), none]) rfl (Nat.le_of_ble_eq_true rfl) rfl rfl ?_
  refine w_iconst dX7_passes_0 ic_0 ?_
  refine w_istore_n dX7_passes_1 (by decide) rfl rfl ?_
  dsimp only [List.set]
  have lp : ∀ (m : Nat) (i : Nat), q - i < m → i ≤ q → WP G mX7_passes 2 [some (.ref 50), some (.int (nI q)), some (.int (nI i))] [] (setR σ (p_pass (σ.1 51) n i)) (fun v σ' => v = none ∧ σ' = (setR σ (p_pass (σ.1 51) n q))) := by
    intro m
    induction m with
    | zero => intro i hm; exact absurd hm (Nat.not_lt_zero _)
    | succ m ih =>
      intro i hm hi
      refine w_iload_n dX7_passes_2 rfl ?_
      refine w_iload_n dX7_passes_3 rfl ?_
      refine w2_icmp_ge (t := 17) dX7_passes_4 (by decide) (fun hz1 => ?_) (fun hz1 => ?_)
      · skip
        have hge := nlt_nI (by omega) (by omega) hz1
        have hen : i = q := by omega
        subst hen
        refine w_vret dX7_passes_17 rfl ?_
        exact ⟨rfl, rfl⟩
      · skip
        have hlt := lt_nI (by omega) (by omega) hz1
        refine w_aload_n dX7_passes_7 rfl ?_
        refine w_callVv dX7_passes_8 ml_X7_112 mv_X7_oneHour rfl rfl (by decide) rfl (e7_oneHour G _ n (by rw [setR_51, p_pass_8]; exact hn) h8) rfl rfl (Nat.le_of_ble_eq_true rfl) ?_
        try simp only [wI_51, setR_setR, setR_51]
        refine w_iincN (a := i) (b := 1) dX7_passes_11 rfl ic_1 (by decide) rfl rfl ?_
        dsimp only [List.set]
        refine w_goto (t := 2) dX7_passes_14 (by decide) ?_
        exact ih (i + 1) (by omega) (by omega)
  have q0 := lp (q + 1) 0 (by omega) (by omega)
  simp only [p_pass, setR_self] at q0
  exact q0
set_option maxRecDepth 100000 in
set_option maxHeartbeats 4000000 in
theorem e7_sumOf (G : GT) (σ : Sg) (w : Nat) (hw : w < 7) (n : Nat) (hn : σ.1 51 8 = nI n) (h8 : n ≤ 8) : Evi G mX7_sumOf [.ref 50, .int (nI w)] σ (p_sum (σ.1 51) w n) (σ) := by
  refine Ev.ofL (m := 2) (L := [some (.ref 50), some (.int (nI w)), none, none]) rfl (Nat.le_of_ble_eq_true rfl) rfl rfl ?_
  refine w_iconst dX7_sumOf_0 ic_0 ?_
  refine w_istore_n dX7_sumOf_1 (by decide) rfl rfl ?_
  dsimp only [List.set]
  refine w_iconst dX7_sumOf_2 ic_0 ?_
  refine w_istore_n dX7_sumOf_3 (by decide) rfl rfl ?_
  dsimp only [List.set]
  have lp : ∀ (m : Nat) (r : Nat), n - r < m → r ≤ n → WP G mX7_sumOf 4 [some (.ref 50), some (.int (nI w)), some (.int (p_sum (σ.1 51) w r)), some (.int (nI r))] [] (σ) (fun v σ' => v = some (.int (p_sum (σ.1 51) w n)) ∧ σ' = (σ)) := by
    intro m
    induction m with
    | zero => intro r hm; exact absurd hm (Nat.not_lt_zero _)
    | succ m ih =>
      intro r hm hr
      refine w_iload_n dX7_sumOf_4 rfl ?_
      refine w_aload_n dX7_sumOf_5 rfl ?_
      refine w_getR (t := 51) dX7_sumOf_6 fl_X7_7 rfl (by decide) (by decide) rfl ?_
      refine w_bipush dX7_sumOf_9 bp_8 ?_
      refine w_iald (j := 8) dX7_sumOf_11 rfl (by decide) rfl (by decide) ?_
      refine w2_icmp_ge (t := 30) dX7_sumOf_12 (by decide) (fun hz1 => ?_) (fun hz1 => ?_)
      · skip
        rw [hn] at hz1
        have hge := nlt_nI (by omega) (by omega) hz1
        have hen : r = n := by omega
        subst hen
        refine w_iload_n dX7_sumOf_30 rfl ?_
        refine w_iret dX7_sumOf_31 rfl ?_
        exact ⟨rfl, rfl⟩
      · skip
        rw [hn] at hz1
        have hlt := lt_nI (by omega) (by omega) hz1
        refine w_iload_n dX7_sumOf_15 rfl ?_
        refine w_aload_n dX7_sumOf_16 rfl ?_
        refine w_iload_n dX7_sumOf_17 rfl ?_
        refine w_iload_n dX7_sumOf_18 rfl ?_
        refine w_callVi dX7_sumOf_19 ml_X7_69 mv_X7_its rfl rfl (by decide) rfl (e7_its G _ (r) (w) (by omega) (by omega)) rfl rfl (Nat.le_of_ble_eq_true rfl) ?_
        refine w_iadd dX7_sumOf_22 ?_
        refine w_istore_n dX7_sumOf_23 (by decide) rfl rfl ?_
        dsimp only [List.set]
        refine w_iincN (a := r) (b := 1) dX7_sumOf_24 rfl ic_1 (by decide) rfl rfl ?_
        dsimp only [List.set]
        refine w_goto (t := 4) dX7_sumOf_27 (by decide) ?_
        exact ih (r + 1) (by omega) (by omega)
  exact lp (n + 1) 0 (by omega) (by omega)
set_option maxRecDepth 100000 in
set_option maxHeartbeats 4000000 in
theorem e7_paidAll (G : GT) (σ : Sg) (n : Nat) (hn : σ.1 51 8 = nI n) (h8 : n ≤ 8) : Evi G mX7_paidAll [.ref 50] σ (p_paidSum (σ.1 51) n) (σ) := by
  refine Ev.ofL (m := 2) (L := [some (.ref 50), none, none]) rfl (Nat.le_of_ble_eq_true rfl) rfl rfl ?_
  refine w_iconst dX7_paidAll_0 ic_0 ?_
  refine w_istore_n dX7_paidAll_1 (by decide) rfl rfl ?_
  dsimp only [List.set]
  refine w_iconst dX7_paidAll_2 ic_0 ?_
  refine w_istore_n dX7_paidAll_3 (by decide) rfl rfl ?_
  dsimp only [List.set]
  have lp : ∀ (m : Nat) (r : Nat), n - r < m → r ≤ n → WP G mX7_paidAll 4 [some (.ref 50), some (.int (p_paidSum (σ.1 51) r)), some (.int (nI r))] [] (σ) (fun v σ' => v = some (.int (p_paidSum (σ.1 51) n)) ∧ σ' = (σ)) := by
    intro m
    induction m with
    | zero => intro r hm; exact absurd hm (Nat.not_lt_zero _)
    | succ m ih =>
      intro r hm hr
      refine w_iload_n dX7_paidAll_4 rfl ?_
      refine w_aload_n dX7_paidAll_5 rfl ?_
      refine w_getR (t := 51) dX7_paidAll_6 fl_X7_7 rfl (by decide) (by decide) rfl ?_
      refine w_bipush dX7_paidAll_9 bp_8 ?_
      refine w_iald (j := 8) dX7_paidAll_11 rfl (by decide) rfl (by decide) ?_
      refine w2_icmp_ge (t := 29) dX7_paidAll_12 (by decide) (fun hz1 => ?_) (fun hz1 => ?_)
      · skip
        rw [hn] at hz1
        have hge := nlt_nI (by omega) (by omega) hz1
        have hen : r = n := by omega
        subst hen
        refine w_iload_n dX7_paidAll_29 rfl ?_
        refine w_iret dX7_paidAll_30 rfl ?_
        exact ⟨rfl, rfl⟩
      · skip
        rw [hn] at hz1
        have hlt := lt_nI (by omega) (by omega) hz1
        refine w_iload_n dX7_paidAll_15 rfl ?_
        refine w_aload_n dX7_paidAll_16 rfl ?_
        refine w_iload_n dX7_paidAll_17 rfl ?_
        refine w_callVi dX7_paidAll_18 ml_X7_81 mv_X7_paidMany rfl rfl (by decide) rfl (e7_paidMany G _ (r) (by omega)) rfl rfl (Nat.le_of_ble_eq_true rfl) ?_
        refine w_iadd dX7_paidAll_21 ?_
        refine w_istore_n dX7_paidAll_22 (by decide) rfl rfl ?_
        dsimp only [List.set]
        refine w_iincN (a := r) (b := 1) dX7_paidAll_23 rfl ic_1 (by decide) rfl rfl ?_
        dsimp only [List.set]
        refine w_goto (t := 4) dX7_paidAll_26 (by decide) ?_
        exact ih (r + 1) (by omega) (by omega)
  exact lp (n + 1) 0 (by omega) (by omega)
set_option maxRecDepth 100000 in
set_option maxHeartbeats 4000000 in
theorem e7_drawAll (G : GT) (σ : Sg) (n : Nat) (hn : σ.1 51 8 = nI n) (h8 : n ≤ 8) : Evi G mX7_drawAll [.ref 50] σ (p_drawSum (σ.1 51) (σ.1 51 0) n) (σ) := by
  refine Ev.ofL (m := 2) (L := [some (.ref 50), none, none]) rfl (Nat.le_of_ble_eq_true rfl) rfl rfl ?_
  refine w_iconst dX7_drawAll_0 ic_0 ?_
  refine w_istore_n dX7_drawAll_1 (by decide) rfl rfl ?_
  dsimp only [List.set]
  refine w_iconst dX7_drawAll_2 ic_0 ?_
  refine w_istore_n dX7_drawAll_3 (by decide) rfl rfl ?_
  dsimp only [List.set]
  have lp : ∀ (m : Nat) (r : Nat), n - r < m → r ≤ n → WP G mX7_drawAll 4 [some (.ref 50), some (.int (p_drawSum (σ.1 51) (σ.1 51 0) r)), some (.int (nI r))] [] (σ) (fun v σ' => v = some (.int (p_drawSum (σ.1 51) (σ.1 51 0) n)) ∧ σ' = (σ)) := by
    intro m
    induction m with
    | zero => intro r hm; exact absurd hm (Nat.not_lt_zero _)
    | succ m ih =>
      intro r hm hr
      refine w_iload_n dX7_drawAll_4 rfl ?_
      refine w_aload_n dX7_drawAll_5 rfl ?_
      refine w_getR (t := 51) dX7_drawAll_6 fl_X7_7 rfl (by decide) (by decide) rfl ?_
      refine w_bipush dX7_drawAll_9 bp_8 ?_
      refine w_iald (j := 8) dX7_drawAll_11 rfl (by decide) rfl (by decide) ?_
      refine w2_icmp_ge (t := 35) dX7_drawAll_12 (by decide) (fun hz1 => ?_) (fun hz1 => ?_)
      · skip
        rw [hn] at hz1
        have hge := nlt_nI (by omega) (by omega) hz1
        have hen : r = n := by omega
        subst hen
        refine w_iload_n dX7_drawAll_35 rfl ?_
        refine w_iret dX7_drawAll_36 rfl ?_
        exact ⟨rfl, rfl⟩
      · skip
        rw [hn] at hz1
        have hlt := lt_nI (by omega) (by omega) hz1
        refine w_iload_n dX7_drawAll_15 rfl ?_
        refine w_aload_n dX7_drawAll_16 rfl ?_
        refine w_iload_n dX7_drawAll_17 rfl ?_
        refine w_aload_n dX7_drawAll_18 rfl ?_
        refine w_getR (t := 51) dX7_drawAll_19 fl_X7_7 rfl (by decide) (by decide) rfl ?_
        refine w_iconst dX7_drawAll_22 ic_0 ?_
        refine w_iald (j := 0) dX7_drawAll_23 rfl (by decide) rfl (by decide) ?_
        refine w_callVi dX7_drawAll_24 ml_X7_90 mv_X7_draws rfl rfl (by decide) rfl (e7_draws G _ (r) _ (by omega)) rfl rfl (Nat.le_of_ble_eq_true rfl) ?_
        refine w_iadd dX7_drawAll_27 ?_
        refine w_istore_n dX7_drawAll_28 (by decide) rfl rfl ?_
        dsimp only [List.set]
        refine w_iincN (a := r) (b := 1) dX7_drawAll_29 rfl ic_1 (by decide) rfl rfl ?_
        dsimp only [List.set]
        refine w_goto (t := 4) dX7_drawAll_32 (by decide) ?_
        exact ih (r + 1) (by omega) (by omega)
  exact lp (n + 1) 0 (by omega) (by omega)
set_option maxRecDepth 100000 in
set_option maxHeartbeats 4000000 in
theorem e7_paidOnes (G : GT) (σ : Sg) (n : Nat) (hn : σ.1 51 8 = nI n) (h8 : n ≤ 8) : Evi G mX7_paidOnes [.ref 50] σ (p_paidSet (σ.1 51) n) (σ) := by
  refine Ev.ofL (m := 2) (L := [some (.ref 50), none, none]) rfl (Nat.le_of_ble_eq_true rfl) rfl rfl ?_
  refine w_iconst dX7_paidOnes_0 ic_0 ?_
  refine w_istore_n dX7_paidOnes_1 (by decide) rfl rfl ?_
  dsimp only [List.set]
  refine w_iconst dX7_paidOnes_2 ic_0 ?_
  refine w_istore_n dX7_paidOnes_3 (by decide) rfl rfl ?_
  dsimp only [List.set]
  have lp : ∀ (m : Nat) (r : Nat), n - r < m → r ≤ n → WP G mX7_paidOnes 4 [some (.ref 50), some (.int (p_paidSet (σ.1 51) r)), some (.int (nI r))] [] (σ) (fun v σ' => v = some (.int (p_paidSet (σ.1 51) n)) ∧ σ' = (σ)) := by
    intro m
    induction m with
    | zero => intro r hm; exact absurd hm (Nat.not_lt_zero _)
    | succ m ih =>
      intro r hm hr
      refine w_iload_n dX7_paidOnes_4 rfl ?_
      refine w_aload_n dX7_paidOnes_5 rfl ?_
      refine w_getR (t := 51) dX7_paidOnes_6 fl_X7_7 rfl (by decide) (by decide) rfl ?_
      refine w_bipush dX7_paidOnes_9 bp_8 ?_
      refine w_iald (j := 8) dX7_paidOnes_11 rfl (by decide) rfl (by decide) ?_
      refine w2_icmp_ge (t := 39) dX7_paidOnes_12 (by decide) (fun hz1 => ?_) (fun hz1 => ?_)
      · skip
        rw [hn] at hz1
        have hge := nlt_nI (by omega) (by omega) hz1
        have hen : r = n := by omega
        subst hen
        refine w_iload_n dX7_paidOnes_39 rfl ?_
        refine w_iret dX7_paidOnes_40 rfl ?_
        exact ⟨rfl, rfl⟩
      · skip
        rw [hn] at hz1
        have hlt := lt_nI (by omega) (by omega) hz1
        refine w_iload_n dX7_paidOnes_15 rfl ?_
        refine w_aload_n dX7_paidOnes_16 rfl ?_
        refine w_iload_n dX7_paidOnes_17 rfl ?_
        refine w_callVi dX7_paidOnes_18 ml_X7_84 mv_X7_isPaid rfl rfl (by decide) rfl (e7_isPaid G _ (r) (by omega)) rfl rfl (Nat.le_of_ble_eq_true rfl) ?_
        refine w_if_eq (t := 30) dX7_paidOnes_21 (by decide) (fun hz2 => ?_) (fun hz2 => ?_)
        · skip
          refine w_iconst dX7_paidOnes_30 ic_0 ?_
          have cc := hz2
          refine w_ior dX7_paidOnes_31 ?_
          refine w_istore_n dX7_paidOnes_32 (by decide) rfl rfl ?_
          dsimp only [List.set]
          refine w_iincN (a := r) (b := 1) dX7_paidOnes_33 rfl ic_1 (by decide) rfl rfl ?_
          dsimp only [List.set]
          refine w_goto (t := 4) dX7_paidOnes_36 (by decide) ?_
          have q := ih (r + 1) (by omega) (by omega)
          simp only [p_paidSet, cc, if_true, if_false] at q
          exact q
        · skip
          refine w_iconst dX7_paidOnes_24 ic_1 ?_
          refine w_iload_n dX7_paidOnes_25 rfl ?_
          refine w_ishl dX7_paidOnes_26 ?_
          refine w_goto (t := 31) dX7_paidOnes_27 (by decide) ?_
          have cc := hz2
          refine w_ior dX7_paidOnes_31 ?_
          refine w_istore_n dX7_paidOnes_32 (by decide) rfl rfl ?_
          dsimp only [List.set]
          refine w_iincN (a := r) (b := 1) dX7_paidOnes_33 rfl ic_1 (by decide) rfl rfl ?_
          dsimp only [List.set]
          refine w_goto (t := 4) dX7_paidOnes_36 (by decide) ?_
          have q := ih (r + 1) (by omega) (by omega)
          simp only [p_paidSet, cc, if_true, if_false] at q
          exact q
  exact lp (n + 1) 0 (by omega) (by omega)
