theorem in_low {r a b : Int32} (h : ¬ p_in r a b = 0) (ha : ¬ a < 0) : ¬ p_in r 0 b = 0 := by
  obtain ⟨h1, h2⟩ := in_of h
  have h3 : ¬ r < 0 := fun z => h1 (Int32.lt_of_lt_of_le z (Int32.not_lt.mp ha))
  unfold p_in
  rw [if_neg h3, if_neg h2]
  decide
theorem z_not {x : Int32} (h : ¬ x = 0) (hz : x = 0 ∨ x = 1) : x = 1 := hz.resolve_left h
theorem p_in_01 (v a b : Int32) : p_in v a b = 0 ∨ p_in v a b = 1 := by
  unfold p_in
  split
  · exact Or.inl rfl
  · split
    · exact Or.inl rfl
    · exact Or.inr rfl
set_option maxRecDepth 100000 in
set_option maxHeartbeats 4000000 in
theorem m_cloud (G : GT) (σ : Sg) (what v : Int32) (n : Nat) (hn : σ.1 51 8 = nI n) (h8 : n ≤ 8) : Ev G mX7_cloud [.ref 50, .int what, .int v] σ (PQ σ (M_cloud (obs σ) what v)) := by
  have hnR := nR_of hn h8
  refine Ev.ofL (m := 2) (L := [some (.ref 50), some (.int what), some (.int v), none, none]) rfl (Nat.le_of_ble_eq_true rfl) rfl rfl ?_
  refine w_iload_n dX7_cloud_0 rfl ?_
  refine w_if_ne (t := 11) dX7_cloud_1 (by decide) (fun hz1 => ?_) (fun hz1 => ?_)
  · skip
    refine w_iload_n dX7_cloud_11 rfl ?_
    refine w_iconst dX7_cloud_12 ic_1 ?_
    refine w_icmp_ne (t := 26) dX7_cloud_13 (by decide) (fun hz2 => ?_) (fun hz2 => ?_)
    · skip
      refine w_iload_n dX7_cloud_26 rfl ?_
      refine w_iconst dX7_cloud_27 ic_2 ?_
      refine w_icmp_ne (t := 40) dX7_cloud_28 (by decide) (fun hz3 => ?_) (fun hz3 => ?_)
      · skip
        refine w_iload_n dX7_cloud_40 rfl ?_
        refine w_iconst dX7_cloud_41 ic_3 ?_
        refine w_icmp_ne (t := 55) dX7_cloud_42 (by decide) (fun hz4 => ?_) (fun hz4 => ?_)
        · skip
          refine w_iload_n dX7_cloud_55 rfl ?_
          refine w_iconst dX7_cloud_56 ic_4 ?_
          refine w_icmp_ne (t := 75) dX7_cloud_57 (by decide) (fun hz5 => ?_) (fun hz5 => ?_)
          · skip
            refine w_iconst dX7_cloud_75 ic_0 ?_
            refine w_istore_n dX7_cloud_76 (by decide) rfl rfl ?_
            dsimp only [List.set]
            refine w_iload_n dX7_cloud_77 rfl ?_
            refine w_if_ne (t := 88) dX7_cloud_78 (by decide) (fun hz6 => absurd rfl hz6) (fun hz6 => ?_)
            refine w_aload_n dX7_cloud_81 rfl ?_
            refine w_ldc dX7_cloud_82 kc_X7_44 ?_
            refine w_callVi dX7_cloud_84 ml_X7_53 mv_X7_finds rfl rfl (by decide) rfl (e7_finds G _ _ 0 (by decide) (by decide)) rfl rfl (Nat.le_of_ble_eq_true rfl) ?_
            try simp only [wI_51, setR_setR, setR_51]
            refine w_iret dX7_cloud_87 rfl ?_
            first
            | exact PQ.fnd (by simp [M_cloud, c_told, hz1, hz2, hz3, hz4, hz5, hz6])
            | exact PQ.row (by simp [M_cloud, c_told, obs_1, hz1, hz2, hz3, hz4, hz5, hz6])
          · skip
            refine w_iload_n dX7_cloud_60 rfl ?_
            refine w_bipush dX7_cloud_61 bp_20 ?_
            refine w_bipush dX7_cloud_63 bp_99 ?_
            refine w_callSi dX7_cloud_65 ml_X7_45 ms_X7_in rfl (e7_in G _ _ _ _) rfl rfl (Nat.le_of_ble_eq_true rfl) ?_
            try simp only [wI_51, setR_setR, setR_51]
            refine w_if_eq (t := 75) dX7_cloud_68 (by decide) (fun hz7 => ?_) (fun hz7 => ?_)
            · skip
              refine w_iconst dX7_cloud_75 ic_0 ?_
              refine w_istore_n dX7_cloud_76 (by decide) rfl rfl ?_
              dsimp only [List.set]
              refine w_iload_n dX7_cloud_77 rfl ?_
              refine w_if_ne (t := 88) dX7_cloud_78 (by decide) (fun hz8 => absurd rfl hz8) (fun hz8 => ?_)
              refine w_aload_n dX7_cloud_81 rfl ?_
              refine w_ldc dX7_cloud_82 kc_X7_44 ?_
              refine w_callVi dX7_cloud_84 ml_X7_53 mv_X7_finds rfl rfl (by decide) rfl (e7_finds G _ _ 0 (by decide) (by decide)) rfl rfl (Nat.le_of_ble_eq_true rfl) ?_
              try simp only [wI_51, setR_setR, setR_51]
              refine w_iret dX7_cloud_87 rfl ?_
              first
              | exact PQ.fnd (by simp [M_cloud, c_told, hz1, hz2, hz3, hz4, hz5, hz7, hz8])
              | exact PQ.row (by simp [M_cloud, c_told, obs_1, hz1, hz2, hz3, hz4, hz5, hz7, hz8])
            · skip
              refine w_iconst dX7_cloud_71 ic_1 ?_
              refine w_goto (t := 76) dX7_cloud_72 (by decide) ?_
              refine w_istore_n dX7_cloud_76 (by decide) rfl rfl ?_
              dsimp only [List.set]
              refine w_iload_n dX7_cloud_77 rfl ?_
              refine w_if_ne (t := 88) dX7_cloud_78 (by decide) (fun hz9 => ?_) (fun hz9 => absurd hz9 (by decide))
              have hw := hz5
              subst hw
              refine w_aload_n dX7_cloud_88 rfl ?_
              refine w_getR (t := 51) dX7_cloud_89 fl_X7_7 rfl (by decide) (by decide) rfl ?_
              refine w_iload_n dX7_cloud_92 rfl ?_
              refine w_iald (j := 4) dX7_cloud_93 rfl (by decide) rfl (by decide) ?_
              refine w_istore dX7_cloud_94 (by decide) rfl rfl ?_
              dsimp only [List.set]
              refine w_aload_n dX7_cloud_96 rfl ?_
              refine w_getR (t := 51) dX7_cloud_97 fl_X7_7 rfl (by decide) (by decide) rfl ?_
              refine w_iload_n dX7_cloud_100 rfl ?_
              refine w_iload_n dX7_cloud_101 rfl ?_
              refine w_iast (j := 4) dX7_cloud_102 rfl (by decide) rfl (by decide) ?_
              try simp only [wI_51, setR_setR, setR_51]
              refine w_iload dX7_cloud_103 rfl ?_
              refine w_iret dX7_cloud_105 rfl ?_
              first
              | exact PQ.fnd (by simp [M_cloud, c_told, hz1, hz2, hz3, hz4, hz5, hz7, hz9])
              | exact PQ.row (by simp [M_cloud, c_told, obs_1, hz1, hz2, hz3, hz4, hz5, hz7, hz9])
        · skip
          refine w_iload_n dX7_cloud_45 rfl ?_
          refine w_iconst dX7_cloud_46 ic_0 ?_
          refine w_bipush dX7_cloud_47 bp_50 ?_
          refine w_callSi dX7_cloud_49 ml_X7_45 ms_X7_in rfl (e7_in G _ _ _ _) rfl rfl (Nat.le_of_ble_eq_true rfl) ?_
          try simp only [wI_51, setR_setR, setR_51]
          refine w_goto (t := 76) dX7_cloud_52 (by decide) ?_
          refine w_istore_n dX7_cloud_76 (by decide) rfl rfl ?_
          dsimp only [List.set]
          refine w_iload_n dX7_cloud_77 rfl ?_
          refine w_if_ne (t := 88) dX7_cloud_78 (by decide) (fun hz10 => ?_) (fun hz10 => ?_)
          · skip
            have hw := hz4
            subst hw
            refine w_aload_n dX7_cloud_88 rfl ?_
            refine w_getR (t := 51) dX7_cloud_89 fl_X7_7 rfl (by decide) (by decide) rfl ?_
            refine w_iload_n dX7_cloud_92 rfl ?_
            refine w_iald (j := 3) dX7_cloud_93 rfl (by decide) rfl (by decide) ?_
            refine w_istore dX7_cloud_94 (by decide) rfl rfl ?_
            dsimp only [List.set]
            refine w_aload_n dX7_cloud_96 rfl ?_
            refine w_getR (t := 51) dX7_cloud_97 fl_X7_7 rfl (by decide) (by decide) rfl ?_
            refine w_iload_n dX7_cloud_100 rfl ?_
            refine w_iload_n dX7_cloud_101 rfl ?_
            refine w_iast (j := 3) dX7_cloud_102 rfl (by decide) rfl (by decide) ?_
            try simp only [wI_51, setR_setR, setR_51]
            refine w_iload dX7_cloud_103 rfl ?_
            refine w_iret dX7_cloud_105 rfl ?_
            first
            | exact PQ.fnd (by simp [M_cloud, c_told, hz1, hz2, hz3, hz4, hz10])
            | exact PQ.row (by simp [M_cloud, c_told, obs_1, hz1, hz2, hz3, hz4, hz10])
          · skip
            refine w_aload_n dX7_cloud_81 rfl ?_
            refine w_ldc dX7_cloud_82 kc_X7_44 ?_
            refine w_callVi dX7_cloud_84 ml_X7_53 mv_X7_finds rfl rfl (by decide) rfl (e7_finds G _ _ 0 (by decide) (by decide)) rfl rfl (Nat.le_of_ble_eq_true rfl) ?_
            try simp only [wI_51, setR_setR, setR_51]
            refine w_iret dX7_cloud_87 rfl ?_
            first
            | exact PQ.fnd (by simp [M_cloud, c_told, hz1, hz2, hz3, hz4, hz10])
            | exact PQ.row (by simp [M_cloud, c_told, obs_1, hz1, hz2, hz3, hz4, hz10])
      · skip
        refine w_iload_n dX7_cloud_31 rfl ?_
        refine w_iconst dX7_cloud_32 ic_m1 ?_
        refine w_iconst dX7_cloud_33 ic_1 ?_
        refine w_callSi dX7_cloud_34 ml_X7_45 ms_X7_in rfl (e7_in G _ _ _ _) rfl rfl (Nat.le_of_ble_eq_true rfl) ?_
        try simp only [wI_51, setR_setR, setR_51]
        refine w_goto (t := 76) dX7_cloud_37 (by decide) ?_
        refine w_istore_n dX7_cloud_76 (by decide) rfl rfl ?_
        dsimp only [List.set]
        refine w_iload_n dX7_cloud_77 rfl ?_
        refine w_if_ne (t := 88) dX7_cloud_78 (by decide) (fun hz11 => ?_) (fun hz11 => ?_)
        · skip
          have hw := hz3
          subst hw
          refine w_aload_n dX7_cloud_88 rfl ?_
          refine w_getR (t := 51) dX7_cloud_89 fl_X7_7 rfl (by decide) (by decide) rfl ?_
          refine w_iload_n dX7_cloud_92 rfl ?_
          refine w_iald (j := 2) dX7_cloud_93 rfl (by decide) rfl (by decide) ?_
          refine w_istore dX7_cloud_94 (by decide) rfl rfl ?_
          dsimp only [List.set]
          refine w_aload_n dX7_cloud_96 rfl ?_
          refine w_getR (t := 51) dX7_cloud_97 fl_X7_7 rfl (by decide) (by decide) rfl ?_
          refine w_iload_n dX7_cloud_100 rfl ?_
          refine w_iload_n dX7_cloud_101 rfl ?_
          refine w_iast (j := 2) dX7_cloud_102 rfl (by decide) rfl (by decide) ?_
          try simp only [wI_51, setR_setR, setR_51]
          refine w_iload dX7_cloud_103 rfl ?_
          refine w_iret dX7_cloud_105 rfl ?_
          first
          | exact PQ.fnd (by simp [M_cloud, c_told, hz1, hz2, hz3, hz11])
          | exact PQ.row (by simp [M_cloud, c_told, obs_1, hz1, hz2, hz3, hz11])
        · skip
          refine w_aload_n dX7_cloud_81 rfl ?_
          refine w_ldc dX7_cloud_82 kc_X7_44 ?_
          refine w_callVi dX7_cloud_84 ml_X7_53 mv_X7_finds rfl rfl (by decide) rfl (e7_finds G _ _ 0 (by decide) (by decide)) rfl rfl (Nat.le_of_ble_eq_true rfl) ?_
          try simp only [wI_51, setR_setR, setR_51]
          refine w_iret dX7_cloud_87 rfl ?_
          first
          | exact PQ.fnd (by simp [M_cloud, c_told, hz1, hz2, hz3, hz11])
          | exact PQ.row (by simp [M_cloud, c_told, obs_1, hz1, hz2, hz3, hz11])
    · skip
      refine w_iload_n dX7_cloud_16 rfl ?_
      refine w_iconst dX7_cloud_17 ic_0 ?_
      refine w_bipush dX7_cloud_18 bp_99 ?_
      refine w_callSi dX7_cloud_20 ml_X7_45 ms_X7_in rfl (e7_in G _ _ _ _) rfl rfl (Nat.le_of_ble_eq_true rfl) ?_
      try simp only [wI_51, setR_setR, setR_51]
      refine w_goto (t := 76) dX7_cloud_23 (by decide) ?_
      refine w_istore_n dX7_cloud_76 (by decide) rfl rfl ?_
      dsimp only [List.set]
      refine w_iload_n dX7_cloud_77 rfl ?_
      refine w_if_ne (t := 88) dX7_cloud_78 (by decide) (fun hz12 => ?_) (fun hz12 => ?_)
      · skip
        have hw := hz2
        subst hw
        refine w_aload_n dX7_cloud_88 rfl ?_
        refine w_getR (t := 51) dX7_cloud_89 fl_X7_7 rfl (by decide) (by decide) rfl ?_
        refine w_iload_n dX7_cloud_92 rfl ?_
        refine w_iald (j := 1) dX7_cloud_93 rfl (by decide) rfl (by decide) ?_
        refine w_istore dX7_cloud_94 (by decide) rfl rfl ?_
        dsimp only [List.set]
        refine w_aload_n dX7_cloud_96 rfl ?_
        refine w_getR (t := 51) dX7_cloud_97 fl_X7_7 rfl (by decide) (by decide) rfl ?_
        refine w_iload_n dX7_cloud_100 rfl ?_
        refine w_iload_n dX7_cloud_101 rfl ?_
        refine w_iast (j := 1) dX7_cloud_102 rfl (by decide) rfl (by decide) ?_
        try simp only [wI_51, setR_setR, setR_51]
        refine w_iload dX7_cloud_103 rfl ?_
        refine w_iret dX7_cloud_105 rfl ?_
        first
        | exact PQ.fnd (by simp [M_cloud, c_told, hz1, hz2, hz12])
        | exact PQ.row (by simp [M_cloud, c_told, obs_1, hz1, hz2, hz12])
      · skip
        refine w_aload_n dX7_cloud_81 rfl ?_
        refine w_ldc dX7_cloud_82 kc_X7_44 ?_
        refine w_callVi dX7_cloud_84 ml_X7_53 mv_X7_finds rfl rfl (by decide) rfl (e7_finds G _ _ 0 (by decide) (by decide)) rfl rfl (Nat.le_of_ble_eq_true rfl) ?_
        try simp only [wI_51, setR_setR, setR_51]
        refine w_iret dX7_cloud_87 rfl ?_
        first
        | exact PQ.fnd (by simp [M_cloud, c_told, hz1, hz2, hz12])
        | exact PQ.row (by simp [M_cloud, c_told, obs_1, hz1, hz2, hz12])
  · skip
    refine w_iload_n dX7_cloud_4 rfl ?_
    refine w_callSi dX7_cloud_5 ml_X7_49 ms_X7_isPlace rfl (e7_isPlace G _ _) rfl rfl (Nat.le_of_ble_eq_true rfl) ?_
    try simp only [wI_51, setR_setR, setR_51]
    refine w_goto (t := 76) dX7_cloud_8 (by decide) ?_
    refine w_istore_n dX7_cloud_76 (by decide) rfl rfl ?_
    dsimp only [List.set]
    refine w_iload_n dX7_cloud_77 rfl ?_
    refine w_if_ne (t := 88) dX7_cloud_78 (by decide) (fun hz13 => ?_) (fun hz13 => ?_)
    · skip
      have hw := hz1
      subst hw
      refine w_aload_n dX7_cloud_88 rfl ?_
      refine w_getR (t := 51) dX7_cloud_89 fl_X7_7 rfl (by decide) (by decide) rfl ?_
      refine w_iload_n dX7_cloud_92 rfl ?_
      refine w_iald (j := 0) dX7_cloud_93 rfl (by decide) rfl (by decide) ?_
      refine w_istore dX7_cloud_94 (by decide) rfl rfl ?_
      dsimp only [List.set]
      refine w_aload_n dX7_cloud_96 rfl ?_
      refine w_getR (t := 51) dX7_cloud_97 fl_X7_7 rfl (by decide) (by decide) rfl ?_
      refine w_iload_n dX7_cloud_100 rfl ?_
      refine w_iload_n dX7_cloud_101 rfl ?_
      refine w_iast (j := 0) dX7_cloud_102 rfl (by decide) rfl (by decide) ?_
      try simp only [wI_51, setR_setR, setR_51]
      refine w_iload dX7_cloud_103 rfl ?_
      refine w_iret dX7_cloud_105 rfl ?_
      first
      | exact PQ.fnd (by simp [M_cloud, c_told, hz1, hz13])
      | exact PQ.row (by simp [M_cloud, c_told, obs_1, hz1, hz13])
    · skip
      refine w_aload_n dX7_cloud_81 rfl ?_
      refine w_ldc dX7_cloud_82 kc_X7_44 ?_
      refine w_callVi dX7_cloud_84 ml_X7_53 mv_X7_finds rfl rfl (by decide) rfl (e7_finds G _ _ 0 (by decide) (by decide)) rfl rfl (Nat.le_of_ble_eq_true rfl) ?_
      try simp only [wI_51, setR_setR, setR_51]
      refine w_iret dX7_cloud_87 rfl ?_
      first
      | exact PQ.fnd (by simp [M_cloud, c_told, hz1, hz13])
      | exact PQ.row (by simp [M_cloud, c_told, obs_1, hz1, hz13])
set_option maxRecDepth 100000 in
set_option maxHeartbeats 4000000 in
theorem m_cloudOf (G : GT) (σ : Sg) (what : Int32) (n : Nat) (hn : σ.1 51 8 = nI n) (h8 : n ≤ 8) : Ev G mX7_cloudOf [.ref 50, .int what] σ (PQ σ (M_cloudOf (obs σ) what)) := by
  have hnR := nR_of hn h8
  refine Ev.ofL (m := 0) (L := [some (.ref 50), some (.int what)]) rfl (Nat.le_of_ble_eq_true rfl) rfl rfl ?_
  refine w_iload_n dX7_cloudOf_0 rfl ?_
  refine w_iconst dX7_cloudOf_1 ic_0 ?_
  refine w_iconst dX7_cloudOf_2 ic_4 ?_
  refine w_callSi dX7_cloudOf_3 ml_X7_45 ms_X7_in rfl (e7_in G _ _ _ _) rfl rfl (Nat.le_of_ble_eq_true rfl) ?_
  try simp only [wI_51, setR_setR, setR_51]
  refine w_if_eq (t := 18) dX7_cloudOf_6 (by decide) (fun hz1 => ?_) (fun hz1 => ?_)
  · skip
    refine w_aload_n dX7_cloudOf_18 rfl ?_
    refine w_ldc dX7_cloudOf_19 kc_X7_44 ?_
    refine w_callVi dX7_cloudOf_21 ml_X7_53 mv_X7_finds rfl rfl (by decide) rfl (e7_finds G _ _ 0 (by decide) (by decide)) rfl rfl (Nat.le_of_ble_eq_true rfl) ?_
    try simp only [wI_51, setR_setR, setR_51]
    refine w_iret dX7_cloudOf_24 rfl ?_
    try simp only [setR_51, setR_setR, wI_51]
    first
    | exact PQ.fnd (by simp only [M_cloudOf, obs_1, hnR, if_true, if_false, eq_true hz1])
    | exact PQ.same (by simp only [M_cloudOf, obs_1, hnR, if_true, if_false, eq_true hz1])
    | exact PQ.row (by simp only [M_cloudOf, obs_1, hnR, if_true, if_false, eq_true hz1])
  · skip
    obtain ⟨k, hk, rfl⟩ := in_0 (m := 4) hz1 rfl (by decide)
    have hck : (nI k).toNatClampNeg = k := nI_clamp (by omega)
    · skip
      refine w_aload_n dX7_cloudOf_9 rfl ?_
      refine w_getR (t := 51) dX7_cloudOf_10 fl_X7_7 rfl (by decide) (by decide) rfl ?_
      refine w_iload_n dX7_cloudOf_13 rfl ?_
      refine w_iald (j := k) dX7_cloudOf_14 rfl (by decide) rfl (show k < 65 by omega) ?_
      refine w_goto (t := 24) dX7_cloudOf_15 (by decide) ?_
      refine w_iret dX7_cloudOf_24 rfl ?_
      try simp only [setR_51, setR_setR, wI_51]
      first
      | exact PQ.fnd (by simp only [M_cloudOf, obs_1, hnR, if_true, if_false, eq_false hz1, hck])
      | exact PQ.same (by simp only [M_cloudOf, obs_1, hnR, if_true, if_false, eq_false hz1, hck])
      | exact PQ.row (by simp only [M_cloudOf, obs_1, hnR, if_true, if_false, eq_false hz1, hck])
set_option maxRecDepth 100000 in
set_option maxHeartbeats 4000000 in
theorem m_rod (G : GT) (σ : Sg) (kind place : Int32) (n : Nat) (hn : σ.1 51 8 = nI n) (h8 : n ≤ 8) : Ev G mX7_rod [.ref 50, .int kind, .int place] σ (PQ σ (M_rod (obs σ) kind place)) := by
  have hnR := nR_of hn h8
  refine Ev.ofL (m := 0) (L := [some (.ref 50), some (.int kind), some (.int place)]) rfl (Nat.le_of_ble_eq_true rfl) rfl rfl ?_
  refine w_iload_n dX7_rod_0 rfl ?_
  refine w_callSi dX7_rod_1 ml_X7_61 ms_X7_isKind rfl (e7_isKind G _ _) rfl rfl (Nat.le_of_ble_eq_true rfl) ?_
  try simp only [wI_51, setR_setR, setR_51]
  refine w_if_eq (t := 14) dX7_rod_4 (by decide) (fun hz1 => ?_) (fun hz1 => ?_)
  · skip
    refine w_aload_n dX7_rod_14 rfl ?_
    refine w_ldc dX7_rod_15 kc_X7_44 ?_
    refine w_callVi dX7_rod_17 ml_X7_53 mv_X7_finds rfl rfl (by decide) rfl (e7_finds G _ _ 0 (by decide) (by decide)) rfl rfl (Nat.le_of_ble_eq_true rfl) ?_
    try simp only [wI_51, setR_setR, setR_51]
    refine w_iret dX7_rod_20 rfl ?_
    try simp only [setR_51, setR_setR, wI_51]
    first
    | exact PQ.fnd (by simp only [M_rod, obs_1, hnR, if_true, if_false, eq_true hz1])
    | exact PQ.same (by simp only [M_rod, obs_1, hnR, if_true, if_false, eq_true hz1])
    | exact PQ.row (by simp only [M_rod, obs_1, hnR, if_true, if_false, eq_true hz1])
  · skip
    refine w_iload_n dX7_rod_7 rfl ?_
    refine w_callSi dX7_rod_8 ml_X7_49 ms_X7_isPlace rfl (e7_isPlace G _ _) rfl rfl (Nat.le_of_ble_eq_true rfl) ?_
    try simp only [wI_51, setR_setR, setR_51]
    refine w_if_ne (t := 21) dX7_rod_11 (by decide) (fun hz2 => ?_) (fun hz2 => ?_)
    · skip
      refine w_aload_n dX7_rod_21 rfl ?_
      refine w_getR (t := 51) dX7_rod_22 fl_X7_7 rfl (by decide) (by decide) rfl ?_
      refine w_bipush dX7_rod_25 bp_8 ?_
      refine w_iald (j := 8) dX7_rod_27 rfl (by decide) rfl (by decide) ?_
      refine w_bipush dX7_rod_28 bp_8 ?_
      refine w_icmp_ne (t := 40) dX7_rod_30 (by decide) (fun hz3 => ?_) (fun hz3 => ?_)
      · skip
        have hlt : n < 8 := by
          rcases Nat.lt_or_ge n 8 with z | z
          · exact z
          · exact absurd (show σ.1 51 8 = 8 by rw [hn, show n = 8 by omega]; rfl) hz3
        refine w_aload_n dX7_rod_40 rfl ?_
        refine w_iload_n dX7_rod_41 rfl ?_
        refine w_iload_n dX7_rod_42 rfl ?_
        refine w_bipush dX7_rod_43 bp_10 ?_
        refine w_iconst dX7_rod_45 ic_0 ?_
        refine w_iconst dX7_rod_46 ic_0 ?_
        refine w_callVv dX7_rod_47 ml_X7_65 mv_X7_addRod rfl rfl (by decide) rfl (e7_addRod G _ _ _ _ _ _ n hn hlt) rfl rfl (Nat.le_of_ble_eq_true rfl) ?_
        try simp only [wI_51, setR_setR, setR_51]
        refine w_aload_n dX7_rod_50 rfl ?_
        refine w_getR (t := 51) dX7_rod_51 fl_X7_7 rfl (by decide) (by decide) rfl ?_
        refine w_bipush dX7_rod_54 bp_8 ?_
        refine w_iald (j := 8) dX7_rod_56 rfl (by decide) rfl (by decide) ?_
        refine w_iconst dX7_rod_57 ic_1 ?_
        refine w_isub dX7_rod_58 ?_
        refine w_iret dX7_rod_59 rfl ?_
        simp only [setR_51]
        rw [show p_add (σ.1 51) n kind place 10 0 0 8 - 1 = nI n from by unfold p_add; rw [updS]; exact nI_pred n]
        exact PQ.row (by simp only [M_rod, obs_1, hnR, if_true, if_false, hz1, hz2, hz3])
      · skip
        refine w_aload_n dX7_rod_33 rfl ?_
        refine w_ldc dX7_rod_34 kc_X7_64 ?_
        refine w_callVi dX7_rod_36 ml_X7_53 mv_X7_finds rfl rfl (by decide) rfl (e7_finds G _ _ 1 (by decide) (by decide)) rfl rfl (Nat.le_of_ble_eq_true rfl) ?_
        try simp only [wI_51, setR_setR, setR_51]
        refine w_iret dX7_rod_39 rfl ?_
        try simp only [setR_51, setR_setR, wI_51]
        first
        | exact PQ.fnd (by simp only [M_rod, obs_1, hnR, if_true, if_false, eq_false hz1, eq_false hz2, eq_true hz3])
        | exact PQ.same (by simp only [M_rod, obs_1, hnR, if_true, if_false, eq_false hz1, eq_false hz2, eq_true hz3])
        | exact PQ.row (by simp only [M_rod, obs_1, hnR, if_true, if_false, eq_false hz1, eq_false hz2, eq_true hz3])
    · skip
      refine w_aload_n dX7_rod_14 rfl ?_
      refine w_ldc dX7_rod_15 kc_X7_44 ?_
      refine w_callVi dX7_rod_17 ml_X7_53 mv_X7_finds rfl rfl (by decide) rfl (e7_finds G _ _ 0 (by decide) (by decide)) rfl rfl (Nat.le_of_ble_eq_true rfl) ?_
      try simp only [wI_51, setR_setR, setR_51]
      refine w_iret dX7_rod_20 rfl ?_
      try simp only [setR_51, setR_setR, wI_51]
      first
      | exact PQ.fnd (by simp only [M_rod, obs_1, hnR, if_true, if_false, eq_false hz1, eq_true hz2])
      | exact PQ.same (by simp only [M_rod, obs_1, hnR, if_true, if_false, eq_false hz1, eq_true hz2])
      | exact PQ.row (by simp only [M_rod, obs_1, hnR, if_true, if_false, eq_false hz1, eq_true hz2])
set_option maxRecDepth 100000 in
set_option maxHeartbeats 4000000 in
theorem m_of (G : GT) (σ : Sg) (r what : Int32) (n : Nat) (hn : σ.1 51 8 = nI n) (h8 : n ≤ 8) : Ev G mX7_of [.ref 50, .int r, .int what] σ (PQ σ (M_of (obs σ) r what)) := by
  have hnR := nR_of hn h8
  refine Ev.ofL (m := 0) (L := [some (.ref 50), some (.int r), some (.int what)]) rfl (Nat.le_of_ble_eq_true rfl) rfl rfl ?_
  refine w_aload_n dX7_of_0 rfl ?_
  refine w_iload_n dX7_of_1 rfl ?_
  refine w_callVi dX7_of_2 ml_X7_87 mv_X7_isRod rfl rfl (by decide) rfl (e7_isRod G _ _) rfl rfl (Nat.le_of_ble_eq_true rfl) ?_
  try simp only [wI_51, setR_setR, setR_51]
  refine w_if_eq (t := 18) dX7_of_5 (by decide) (fun hz1 => ?_) (fun hz1 => ?_)
  · skip
    refine w_aload_n dX7_of_18 rfl ?_
    refine w_ldc dX7_of_19 kc_X7_44 ?_
    refine w_callVi dX7_of_21 ml_X7_53 mv_X7_finds rfl rfl (by decide) rfl (e7_finds G _ _ 0 (by decide) (by decide)) rfl rfl (Nat.le_of_ble_eq_true rfl) ?_
    try simp only [wI_51, setR_setR, setR_51]
    refine w_iret dX7_of_24 rfl ?_
    try simp only [setR_51, setR_setR, wI_51]
    first
    | exact PQ.fnd (by simp only [M_of, obs_1, hnR, if_true, if_false, eq_true hz1])
    | exact PQ.same (by simp only [M_of, obs_1, hnR, if_true, if_false, eq_true hz1])
    | exact PQ.row (by simp only [M_of, obs_1, hnR, if_true, if_false, eq_true hz1])
  · skip
    refine w_iload_n dX7_of_8 rfl ?_
    refine w_iconst dX7_of_9 ic_0 ?_
    refine w_bipush dX7_of_10 bp_9 ?_
    refine w_callSi dX7_of_12 ml_X7_45 ms_X7_in rfl (e7_in G _ _ _ _) rfl rfl (Nat.le_of_ble_eq_true rfl) ?_
    try simp only [wI_51, setR_setR, setR_51]
    refine w_if_ne (t := 25) dX7_of_15 (by decide) (fun hz2 => ?_) (fun hz2 => ?_)
    · skip
      obtain ⟨k, hk, rfl⟩ := rod_of hz1 hn h8
      have hck : (nI k).toNatClampNeg = k := nI_clamp (by omega)
      · skip
        refine w_iload_n dX7_of_25 rfl ?_
        refine sw_7_9 (fun hz3 => ?_) (fun hz3 => ?_) (fun hz3 => ?_) (fun hz3 => ?_)
        · skip
          refine w_tableIn (t := 52) (off := 26) dX7_of_26 (by rw [hz3]; decide) (by rw [hz3]; decide) (by rw [hz3]; rfl) (by decide) ?_
          refine w_aload_n dX7_of_52 rfl ?_
          refine w_iload_n dX7_of_53 rfl ?_
          refine w_aload_n dX7_of_54 rfl ?_
          refine w_getR (t := 51) dX7_of_55 fl_X7_7 rfl (by decide) (by decide) rfl ?_
          refine w_iconst dX7_of_58 ic_0 ?_
          refine w_iald (j := 0) dX7_of_59 rfl (by decide) rfl (by decide) ?_
          refine w_callVi dX7_of_60 ml_X7_90 mv_X7_draws rfl rfl (by decide) rfl (e7_draws G _ (k) _ (by omega)) rfl rfl (Nat.le_of_ble_eq_true rfl) ?_
          try simp only [wI_51, setR_setR, setR_51]
          refine w_iret dX7_of_63 rfl ?_
          try simp only [setR_51, setR_setR, wI_51]
          first
          | exact PQ.fnd (by simp only [M_of, obs_1, hnR, if_true, if_false, eq_false hz1, eq_false hz2, eq_true hz3, eq_false (show ¬ what = 8 by rw [hz3]; decide), eq_false (show ¬ what = 9 by rw [hz3]; decide), hck])
          | exact PQ.same (by simp only [M_of, obs_1, hnR, if_true, if_false, eq_false hz1, eq_false hz2, eq_true hz3, eq_false (show ¬ what = 8 by rw [hz3]; decide), eq_false (show ¬ what = 9 by rw [hz3]; decide), hck])
          | exact PQ.row (by simp only [M_of, obs_1, hnR, if_true, if_false, eq_false hz1, eq_false hz2, eq_true hz3, eq_false (show ¬ what = 8 by rw [hz3]; decide), eq_false (show ¬ what = 9 by rw [hz3]; decide), hck])
        · skip
          refine w_tableIn (t := 64) (off := 38) dX7_of_26 (by rw [hz3]; decide) (by rw [hz3]; decide) (by rw [hz3]; rfl) (by decide) ?_
          refine w_aload_n dX7_of_64 rfl ?_
          refine w_iload_n dX7_of_65 rfl ?_
          refine w_aload_n dX7_of_66 rfl ?_
          refine w_getR (t := 51) dX7_of_67 fl_X7_7 rfl (by decide) (by decide) rfl ?_
          refine w_iconst dX7_of_70 ic_1 ?_
          refine w_iald (j := 1) dX7_of_71 rfl (by decide) rfl (by decide) ?_
          refine w_callVi dX7_of_72 ml_X7_93 mv_X7_owes rfl rfl (by decide) rfl (e7_owes G _ (k) _ (by omega)) rfl rfl (Nat.le_of_ble_eq_true rfl) ?_
          try simp only [wI_51, setR_setR, setR_51]
          refine w_iret dX7_of_75 rfl ?_
          try simp only [setR_51, setR_setR, wI_51]
          first
          | exact PQ.fnd (by simp only [M_of, obs_1, hnR, if_true, if_false, eq_false hz1, eq_false hz2, eq_true hz3, eq_false (show ¬ what = 7 by rw [hz3]; decide), eq_false (show ¬ what = 9 by rw [hz3]; decide), hck])
          | exact PQ.same (by simp only [M_of, obs_1, hnR, if_true, if_false, eq_false hz1, eq_false hz2, eq_true hz3, eq_false (show ¬ what = 7 by rw [hz3]; decide), eq_false (show ¬ what = 9 by rw [hz3]; decide), hck])
          | exact PQ.row (by simp only [M_of, obs_1, hnR, if_true, if_false, eq_false hz1, eq_false hz2, eq_true hz3, eq_false (show ¬ what = 7 by rw [hz3]; decide), eq_false (show ¬ what = 9 by rw [hz3]; decide), hck])
        · skip
          refine w_tableIn (t := 76) (off := 50) dX7_of_26 (by rw [hz3]; decide) (by rw [hz3]; decide) (by rw [hz3]; rfl) (by decide) ?_
          refine w_aload_n dX7_of_76 rfl ?_
          refine w_iload_n dX7_of_77 rfl ?_
          refine w_callVi dX7_of_78 ml_X7_84 mv_X7_isPaid rfl rfl (by decide) rfl (e7_isPaid G _ (k) (by omega)) rfl rfl (Nat.le_of_ble_eq_true rfl) ?_
          try simp only [wI_51, setR_setR, setR_51]
          refine w_if_eq (t := 88) dX7_of_81 (by decide) (fun hz4 => ?_) (fun hz4 => ?_)
          · skip
            refine w_iconst dX7_of_88 ic_0 ?_
            refine w_iret dX7_of_89 rfl ?_
            have hp : p_isPaid (σ.1 51) k = 0 := by
              have e := hz4
              unfold p_isPaid at e ⊢
              split at e <;> simp_all
            try simp only [setR_51, setR_setR, wI_51]
            first
            | exact PQ.fnd (by simp only [M_of, obs_1, hnR, if_true, if_false, eq_false hz1, eq_false hz2, eq_true hz3, eq_false (show ¬ what = 7 by rw [hz3]; decide), eq_false (show ¬ what = 8 by rw [hz3]; decide), hck, hp])
            | exact PQ.same (by simp only [M_of, obs_1, hnR, if_true, if_false, eq_false hz1, eq_false hz2, eq_true hz3, eq_false (show ¬ what = 7 by rw [hz3]; decide), eq_false (show ¬ what = 8 by rw [hz3]; decide), hck, hp])
            | exact PQ.row (by simp only [M_of, obs_1, hnR, if_true, if_false, eq_false hz1, eq_false hz2, eq_true hz3, eq_false (show ¬ what = 7 by rw [hz3]; decide), eq_false (show ¬ what = 8 by rw [hz3]; decide), hck, hp])
          · skip
            refine w_iconst dX7_of_84 ic_1 ?_
            refine w_goto (t := 89) dX7_of_85 (by decide) ?_
            refine w_iret dX7_of_89 rfl ?_
            have hp : p_isPaid (σ.1 51) k = 1 := by
              have e := hz4
              unfold p_isPaid at e ⊢
              split at e <;> simp_all
            try simp only [setR_51, setR_setR, wI_51]
            first
            | exact PQ.fnd (by simp only [M_of, obs_1, hnR, if_true, if_false, eq_false hz1, eq_false hz2, eq_true hz3, eq_false (show ¬ what = 7 by rw [hz3]; decide), eq_false (show ¬ what = 8 by rw [hz3]; decide), hck, hp])
            | exact PQ.same (by simp only [M_of, obs_1, hnR, if_true, if_false, eq_false hz1, eq_false hz2, eq_true hz3, eq_false (show ¬ what = 7 by rw [hz3]; decide), eq_false (show ¬ what = 8 by rw [hz3]; decide), hck, hp])
            | exact PQ.row (by simp only [M_of, obs_1, hnR, if_true, if_false, eq_false hz1, eq_false hz2, eq_true hz3, eq_false (show ¬ what = 7 by rw [hz3]; decide), eq_false (show ¬ what = 8 by rw [hz3]; decide), hck, hp])
        · skip
          refine w_tableOut (t := 90) dX7_of_26 hz3.1 (by decide) ?_
          obtain ⟨w, hw, hw2⟩ := in_0 (m := 9) hz2 rfl (by decide)
          have hcw : what.toNatClampNeg = w := by rw [hw2]; exact nI_clamp (by omega)
          refine w_L (L' := [some (.ref 50), some (.int (nI k)), some (.int (nI w))]) (by rw [hw2]) ?_
          · skip
            refine w_aload_n dX7_of_90 rfl ?_
            refine w_iload_n dX7_of_91 rfl ?_
            refine w_iload_n dX7_of_92 rfl ?_
            have hw7 : w < 7 := by
              have h := hz3.1
              rw [hw2, nI_toInt (by omega)] at h
              omega
            refine w_callVi dX7_of_93 ml_X7_69 mv_X7_its rfl rfl (by decide) rfl (e7_its G _ (k) (w) (by omega) (by omega)) rfl rfl (Nat.le_of_ble_eq_true rfl) ?_
            try simp only [wI_51, setR_setR, setR_51]
            refine w_iret dX7_of_96 rfl ?_
            try simp only [setR_51, setR_setR, wI_51]
            first
            | exact PQ.fnd (by simp only [M_of, obs_1, hnR, if_true, if_false, eq_false hz1, eq_false hz2, eq_false hz3.2.1, eq_false hz3.2.2.1, eq_false hz3.2.2.2, hck, hcw])
            | exact PQ.same (by simp only [M_of, obs_1, hnR, if_true, if_false, eq_false hz1, eq_false hz2, eq_false hz3.2.1, eq_false hz3.2.2.1, eq_false hz3.2.2.2, hck, hcw])
            | exact PQ.row (by simp only [M_of, obs_1, hnR, if_true, if_false, eq_false hz1, eq_false hz2, eq_false hz3.2.1, eq_false hz3.2.2.1, eq_false hz3.2.2.2, hck, hcw])
    · skip
      refine w_aload_n dX7_of_18 rfl ?_
      refine w_ldc dX7_of_19 kc_X7_44 ?_
      refine w_callVi dX7_of_21 ml_X7_53 mv_X7_finds rfl rfl (by decide) rfl (e7_finds G _ _ 0 (by decide) (by decide)) rfl rfl (Nat.le_of_ble_eq_true rfl) ?_
      try simp only [wI_51, setR_setR, setR_51]
      refine w_iret dX7_of_24 rfl ?_
      try simp only [setR_51, setR_setR, wI_51]
      first
      | exact PQ.fnd (by simp only [M_of, obs_1, hnR, if_true, if_false, eq_false hz1, eq_true hz2])
      | exact PQ.same (by simp only [M_of, obs_1, hnR, if_true, if_false, eq_false hz1, eq_true hz2])
      | exact PQ.row (by simp only [M_of, obs_1, hnR, if_true, if_false, eq_false hz1, eq_true hz2])
set_option maxRecDepth 100000 in
set_option maxHeartbeats 4000000 in
theorem m_set (G : GT) (σ : Sg) (r what v : Int32) (n : Nat) (hn : σ.1 51 8 = nI n) (h8 : n ≤ 8) : Ev G mX7_set [.ref 50, .int r, .int what, .int v] σ (PQ σ (M_set (obs σ) r what v)) := by
  have hnR := nR_of hn h8
  refine Ev.ofL (m := 2) (L := [some (.ref 50), some (.int r), some (.int what), some (.int v), none, none]) rfl (Nat.le_of_ble_eq_true rfl) rfl rfl ?_
  refine w_iload_n dX7_set_0 rfl ?_
  refine w_iconst dX7_set_1 ic_1 ?_
  refine w_icmp_ne (t := 12) dX7_set_2 (by decide) (fun hz1 => ?_) (fun hz1 => ?_)
  · skip
    refine w_iload_n dX7_set_12 rfl ?_
    refine w_iconst dX7_set_13 ic_2 ?_
    refine w_icmp_ne (t := 31) dX7_set_14 (by decide) (fun hz2 => ?_) (fun hz2 => ?_)
    · skip
      refine w_iconst dX7_set_31 ic_0 ?_
      refine w_istore dX7_set_32 (by decide) rfl rfl ?_
      dsimp only [List.set]
      refine w_aload_n dX7_set_34 rfl ?_
      refine w_iload_n dX7_set_35 rfl ?_
      refine w_callVi dX7_set_36 ml_X7_87 mv_X7_isRod rfl rfl (by decide) rfl (e7_isRod G _ _) rfl rfl (Nat.le_of_ble_eq_true rfl) ?_
      try simp only [wI_51, setR_setR, setR_51]
      refine w_if_eq (t := 47) dX7_set_39 (by decide) (fun hz3 => ?_) (fun hz3 => ?_)
      · skip
        refine w_aload_n dX7_set_47 rfl ?_
        refine w_ldc dX7_set_48 kc_X7_44 ?_
        refine w_callVi dX7_set_50 ml_X7_53 mv_X7_finds rfl rfl (by decide) rfl (e7_finds G _ _ 0 (by decide) (by decide)) rfl rfl (Nat.le_of_ble_eq_true rfl) ?_
        try simp only [wI_51, setR_setR, setR_51]
        refine w_iret dX7_set_53 rfl ?_
        try simp only [setR_51, setR_setR, wI_51]
        first
        | exact PQ.fnd (by simp [M_set, s_told, obs_1, hnR, hz1, hz2, hz3])
        | exact PQ.row (by simp [M_set, s_told, obs_1, hnR, hck, hcc, hz1, hz2, hz3])
      · skip
        refine w_iload dX7_set_42 rfl ?_
        refine w_if_ne (t := 54) dX7_set_44 (by decide) (fun hz4 => absurd rfl hz4) (fun hz4 => ?_)
        refine w_aload_n dX7_set_47 rfl ?_
        refine w_ldc dX7_set_48 kc_X7_44 ?_
        refine w_callVi dX7_set_50 ml_X7_53 mv_X7_finds rfl rfl (by decide) rfl (e7_finds G _ _ 0 (by decide) (by decide)) rfl rfl (Nat.le_of_ble_eq_true rfl) ?_
        try simp only [wI_51, setR_setR, setR_51]
        refine w_iret dX7_set_53 rfl ?_
        try simp only [setR_51, setR_setR, wI_51]
        first
        | exact PQ.fnd (by simp [M_set, s_told, obs_1, hnR, hz1, hz2, hz3, hz4])
        | exact PQ.row (by simp [M_set, s_told, obs_1, hnR, hck, hcc, hz1, hz2, hz3, hz4])
    · skip
      refine w_iload_n dX7_set_17 rfl ?_
      refine w_iconst dX7_set_18 ic_0 ?_
      refine w_bipush dX7_set_19 bp_60 ?_
      refine w_callSi dX7_set_21 ml_X7_45 ms_X7_in rfl (e7_in G _ _ _ _) rfl rfl (Nat.le_of_ble_eq_true rfl) ?_
      try simp only [wI_51, setR_setR, setR_51]
      refine w_if_eq (t := 31) dX7_set_24 (by decide) (fun hz5 => ?_) (fun hz5 => ?_)
      · skip
        refine w_iconst dX7_set_31 ic_0 ?_
        refine w_istore dX7_set_32 (by decide) rfl rfl ?_
        dsimp only [List.set]
        refine w_aload_n dX7_set_34 rfl ?_
        refine w_iload_n dX7_set_35 rfl ?_
        refine w_callVi dX7_set_36 ml_X7_87 mv_X7_isRod rfl rfl (by decide) rfl (e7_isRod G _ _) rfl rfl (Nat.le_of_ble_eq_true rfl) ?_
        try simp only [wI_51, setR_setR, setR_51]
        refine w_if_eq (t := 47) dX7_set_39 (by decide) (fun hz6 => ?_) (fun hz6 => ?_)
        · skip
          refine w_aload_n dX7_set_47 rfl ?_
          refine w_ldc dX7_set_48 kc_X7_44 ?_
          refine w_callVi dX7_set_50 ml_X7_53 mv_X7_finds rfl rfl (by decide) rfl (e7_finds G _ _ 0 (by decide) (by decide)) rfl rfl (Nat.le_of_ble_eq_true rfl) ?_
          try simp only [wI_51, setR_setR, setR_51]
          refine w_iret dX7_set_53 rfl ?_
          try simp only [setR_51, setR_setR, wI_51]
          first
          | exact PQ.fnd (by simp [M_set, s_told, obs_1, hnR, hz1, hz2, hz5, hz6])
          | exact PQ.row (by simp [M_set, s_told, obs_1, hnR, hck, hcc, hz1, hz5, hz6])
        · skip
          refine w_iload dX7_set_42 rfl ?_
          refine w_if_ne (t := 54) dX7_set_44 (by decide) (fun hz7 => absurd rfl hz7) (fun hz7 => ?_)
          refine w_aload_n dX7_set_47 rfl ?_
          refine w_ldc dX7_set_48 kc_X7_44 ?_
          refine w_callVi dX7_set_50 ml_X7_53 mv_X7_finds rfl rfl (by decide) rfl (e7_finds G _ _ 0 (by decide) (by decide)) rfl rfl (Nat.le_of_ble_eq_true rfl) ?_
          try simp only [wI_51, setR_setR, setR_51]
          refine w_iret dX7_set_53 rfl ?_
          try simp only [setR_51, setR_setR, wI_51]
          first
          | exact PQ.fnd (by simp [M_set, s_told, obs_1, hnR, hz1, hz2, hz5, hz6, hz7])
          | exact PQ.row (by simp [M_set, s_told, obs_1, hnR, hck, hcc, hz1, hz5, hz6, hz7])
      · skip
        refine w_iconst dX7_set_27 ic_1 ?_
        refine w_goto (t := 32) dX7_set_28 (by decide) ?_
        refine w_istore dX7_set_32 (by decide) rfl rfl ?_
        dsimp only [List.set]
        refine w_aload_n dX7_set_34 rfl ?_
        refine w_iload_n dX7_set_35 rfl ?_
        refine w_callVi dX7_set_36 ml_X7_87 mv_X7_isRod rfl rfl (by decide) rfl (e7_isRod G _ _) rfl rfl (Nat.le_of_ble_eq_true rfl) ?_
        try simp only [wI_51, setR_setR, setR_51]
        refine w_if_eq (t := 47) dX7_set_39 (by decide) (fun hz8 => ?_) (fun hz8 => ?_)
        · skip
          refine w_aload_n dX7_set_47 rfl ?_
          refine w_ldc dX7_set_48 kc_X7_44 ?_
          refine w_callVi dX7_set_50 ml_X7_53 mv_X7_finds rfl rfl (by decide) rfl (e7_finds G _ _ 0 (by decide) (by decide)) rfl rfl (Nat.le_of_ble_eq_true rfl) ?_
          try simp only [wI_51, setR_setR, setR_51]
          refine w_iret dX7_set_53 rfl ?_
          try simp only [setR_51, setR_setR, wI_51]
          first
          | exact PQ.fnd (by simp [M_set, s_told, obs_1, hnR, hz1, hz2, hz5, hz8])
          | exact PQ.row (by simp [M_set, s_told, obs_1, hnR, hck, hcc, hz1, hz5, hz8])
        · skip
          refine w_iload dX7_set_42 rfl ?_
          refine w_if_ne (t := 54) dX7_set_44 (by decide) (fun hz9 => ?_) (fun hz9 => absurd hz9 (by decide))
          obtain ⟨k, hk, rfl⟩ := rod_of hz8 hn h8
          have hck : (nI k).toNatClampNeg = k := nI_clamp (by omega)
          subst hz2
          have hcc : (2 : Int32).toNatClampNeg = 2 := by decide
          · skip
            refine w_aload_n dX7_set_54 rfl ?_
            refine w_iload_n dX7_set_55 rfl ?_
            refine w_iload_n dX7_set_56 rfl ?_
            refine w_callVi dX7_set_57 ml_X7_69 mv_X7_its rfl rfl (by decide) rfl (e7_its G _ (k) (2) (by omega) (by omega)) rfl rfl (Nat.le_of_ble_eq_true rfl) ?_
            try simp only [wI_51, setR_setR, setR_51]
            refine w_istore dX7_set_60 (by decide) rfl rfl ?_
            dsimp only [List.set]
            refine w_aload_n dX7_set_62 rfl ?_
            refine w_iload_n dX7_set_63 rfl ?_
            refine w_iload_n dX7_set_64 rfl ?_
            refine w_iload_n dX7_set_65 rfl ?_
            refine w_callVv dX7_set_66 ml_X7_57 mv_X7_puts rfl rfl (by decide) rfl (e7_puts G _ (k) (2) _ (by omega) (by omega)) rfl rfl (Nat.le_of_ble_eq_true rfl) ?_
            try simp only [wI_51, setR_setR, setR_51]
            refine w_iload dX7_set_69 rfl ?_
            refine w_iret dX7_set_71 rfl ?_
            try simp only [setR_51, setR_setR, wI_51]
            exact PQ.row (by simp [M_set, s_told, obs_1, hnR, hck, hcc, hz1, hz5, hz8, hz9])
  · skip
    refine w_iload_n dX7_set_5 rfl ?_
    refine w_callSi dX7_set_6 ml_X7_49 ms_X7_isPlace rfl (e7_isPlace G _ _) rfl rfl (Nat.le_of_ble_eq_true rfl) ?_
    try simp only [wI_51, setR_setR, setR_51]
    refine w_goto (t := 32) dX7_set_9 (by decide) ?_
    refine w_istore dX7_set_32 (by decide) rfl rfl ?_
    dsimp only [List.set]
    refine w_aload_n dX7_set_34 rfl ?_
    refine w_iload_n dX7_set_35 rfl ?_
    refine w_callVi dX7_set_36 ml_X7_87 mv_X7_isRod rfl rfl (by decide) rfl (e7_isRod G _ _) rfl rfl (Nat.le_of_ble_eq_true rfl) ?_
    try simp only [wI_51, setR_setR, setR_51]
    refine w_if_eq (t := 47) dX7_set_39 (by decide) (fun hz10 => ?_) (fun hz10 => ?_)
    · skip
      refine w_aload_n dX7_set_47 rfl ?_
      refine w_ldc dX7_set_48 kc_X7_44 ?_
      refine w_callVi dX7_set_50 ml_X7_53 mv_X7_finds rfl rfl (by decide) rfl (e7_finds G _ _ 0 (by decide) (by decide)) rfl rfl (Nat.le_of_ble_eq_true rfl) ?_
      try simp only [wI_51, setR_setR, setR_51]
      refine w_iret dX7_set_53 rfl ?_
      try simp only [setR_51, setR_setR, wI_51]
      first
      | exact PQ.fnd (by simp [M_set, s_told, obs_1, hnR, hz1, hz10])
      | exact PQ.row (by simp [M_set, s_told, obs_1, hnR, hck, hcc, hz10])
    · skip
      refine w_iload dX7_set_42 rfl ?_
      refine w_if_ne (t := 54) dX7_set_44 (by decide) (fun hz11 => ?_) (fun hz11 => ?_)
      · skip
        obtain ⟨k, hk, rfl⟩ := rod_of hz10 hn h8
        have hck : (nI k).toNatClampNeg = k := nI_clamp (by omega)
        subst hz1
        have hcc : (1 : Int32).toNatClampNeg = 1 := by decide
        · skip
          refine w_aload_n dX7_set_54 rfl ?_
          refine w_iload_n dX7_set_55 rfl ?_
          refine w_iload_n dX7_set_56 rfl ?_
          refine w_callVi dX7_set_57 ml_X7_69 mv_X7_its rfl rfl (by decide) rfl (e7_its G _ (k) (1) (by omega) (by omega)) rfl rfl (Nat.le_of_ble_eq_true rfl) ?_
          try simp only [wI_51, setR_setR, setR_51]
          refine w_istore dX7_set_60 (by decide) rfl rfl ?_
          dsimp only [List.set]
          refine w_aload_n dX7_set_62 rfl ?_
          refine w_iload_n dX7_set_63 rfl ?_
          refine w_iload_n dX7_set_64 rfl ?_
          refine w_iload_n dX7_set_65 rfl ?_
          refine w_callVv dX7_set_66 ml_X7_57 mv_X7_puts rfl rfl (by decide) rfl (e7_puts G _ (k) (1) _ (by omega) (by omega)) rfl rfl (Nat.le_of_ble_eq_true rfl) ?_
          try simp only [wI_51, setR_setR, setR_51]
          refine w_iload dX7_set_69 rfl ?_
          refine w_iret dX7_set_71 rfl ?_
          try simp only [setR_51, setR_setR, wI_51]
          exact PQ.row (by simp [M_set, s_told, obs_1, hnR, hck, hcc, hz10, hz11])
      · skip
        refine w_aload_n dX7_set_47 rfl ?_
        refine w_ldc dX7_set_48 kc_X7_44 ?_
        refine w_callVi dX7_set_50 ml_X7_53 mv_X7_finds rfl rfl (by decide) rfl (e7_finds G _ _ 0 (by decide) (by decide)) rfl rfl (Nat.le_of_ble_eq_true rfl) ?_
        try simp only [wI_51, setR_setR, setR_51]
        refine w_iret dX7_set_53 rfl ?_
        try simp only [setR_51, setR_setR, wI_51]
        first
        | exact PQ.fnd (by simp [M_set, s_told, obs_1, hnR, hz1, hz10, hz11])
        | exact PQ.row (by simp [M_set, s_told, obs_1, hnR, hck, hcc, hz10, hz11])
set_option maxRecDepth 100000 in
set_option maxHeartbeats 4000000 in
theorem m_pays (G : GT) (σ : Sg) (r a b : Int32) (n : Nat) (hn : σ.1 51 8 = nI n) (h8 : n ≤ 8) : Ev G mX7_pays [.ref 50, .int r, .int a, .int b] σ (PQ σ (M_pays (obs σ) r a b)) := by
  have hnR := nR_of hn h8
  refine Ev.ofL (m := 0) (L := [some (.ref 50), some (.int r), some (.int a), some (.int b)]) rfl (Nat.le_of_ble_eq_true rfl) rfl rfl ?_
  refine w_aload_n dX7_pays_0 rfl ?_
  refine w_iload_n dX7_pays_1 rfl ?_
  refine w_callVi dX7_pays_2 ml_X7_87 mv_X7_isRod rfl rfl (by decide) rfl (e7_isRod G _ _) rfl rfl (Nat.le_of_ble_eq_true rfl) ?_
  try simp only [wI_51, setR_setR, setR_51]
  refine w_if_eq (t := 28) dX7_pays_5 (by decide) (fun hz1 => ?_) (fun hz1 => ?_)
  · skip
    refine w_aload_n dX7_pays_28 rfl ?_
    refine w_ldc dX7_pays_29 kc_X7_44 ?_
    refine w_callVi dX7_pays_31 ml_X7_53 mv_X7_finds rfl rfl (by decide) rfl (e7_finds G _ _ 0 (by decide) (by decide)) rfl rfl (Nat.le_of_ble_eq_true rfl) ?_
    try simp only [wI_51, setR_setR, setR_51]
    refine w_iret dX7_pays_34 rfl ?_
    try simp only [setR_51, setR_setR, wI_51]
    first
    | exact PQ.fnd (by simp only [M_pays, obs_1, hnR, if_true, if_false, eq_true hz1])
    | exact PQ.same (by simp only [M_pays, obs_1, hnR, if_true, if_false, eq_true hz1])
    | exact PQ.row (by simp only [M_pays, obs_1, hnR, if_true, if_false, eq_true hz1])
  · skip
    refine w_iload_n dX7_pays_8 rfl ?_
    refine w_iconst dX7_pays_9 ic_0 ?_
    refine w_bipush dX7_pays_10 bp_23 ?_
    refine w_callSi dX7_pays_12 ml_X7_45 ms_X7_in rfl (e7_in G _ _ _ _) rfl rfl (Nat.le_of_ble_eq_true rfl) ?_
    try simp only [wI_51, setR_setR, setR_51]
    refine w_if_eq (t := 28) dX7_pays_15 (by decide) (fun hz2 => ?_) (fun hz2 => ?_)
    · skip
      refine w_aload_n dX7_pays_28 rfl ?_
      refine w_ldc dX7_pays_29 kc_X7_44 ?_
      refine w_callVi dX7_pays_31 ml_X7_53 mv_X7_finds rfl rfl (by decide) rfl (e7_finds G _ _ 0 (by decide) (by decide)) rfl rfl (Nat.le_of_ble_eq_true rfl) ?_
      try simp only [wI_51, setR_setR, setR_51]
      refine w_iret dX7_pays_34 rfl ?_
      try simp only [setR_51, setR_setR, wI_51]
      first
      | exact PQ.fnd (by simp only [M_pays, obs_1, hnR, if_true, if_false, eq_false hz1, eq_true hz2])
      | exact PQ.same (by simp only [M_pays, obs_1, hnR, if_true, if_false, eq_false hz1, eq_true hz2])
      | exact PQ.row (by simp only [M_pays, obs_1, hnR, if_true, if_false, eq_false hz1, eq_true hz2])
    · skip
      refine w_iload_n dX7_pays_18 rfl ?_
      refine w_iconst dX7_pays_19 ic_0 ?_
      refine w_bipush dX7_pays_20 bp_23 ?_
      refine w_callSi dX7_pays_22 ml_X7_45 ms_X7_in rfl (e7_in G _ _ _ _) rfl rfl (Nat.le_of_ble_eq_true rfl) ?_
      try simp only [wI_51, setR_setR, setR_51]
      refine w_if_ne (t := 35) dX7_pays_25 (by decide) (fun hz3 => ?_) (fun hz3 => ?_)
      · skip
        obtain ⟨k, hk, rfl⟩ := rod_of hz1 hn h8
        have hck : (nI k).toNatClampNeg = k := nI_clamp (by omega)
        · skip
          refine w_aload_n dX7_pays_35 rfl ?_
          refine w_iload_n dX7_pays_36 rfl ?_
          refine w_iconst dX7_pays_37 ic_3 ?_
          refine w_iload_n dX7_pays_38 rfl ?_
          refine w_callVv dX7_pays_39 ml_X7_57 mv_X7_puts rfl rfl (by decide) rfl (e7_puts G _ (k) (3) _ (by omega) (by omega)) rfl rfl (Nat.le_of_ble_eq_true rfl) ?_
          try simp only [wI_51, setR_setR, setR_51]
          refine w_aload_n dX7_pays_42 rfl ?_
          refine w_iload_n dX7_pays_43 rfl ?_
          refine w_iconst dX7_pays_44 ic_4 ?_
          refine w_iload_n dX7_pays_45 rfl ?_
          refine w_callVv dX7_pays_46 ml_X7_57 mv_X7_puts rfl rfl (by decide) rfl (e7_puts G _ (k) (4) _ (by omega) (by omega)) rfl rfl (Nat.le_of_ble_eq_true rfl) ?_
          try simp only [wI_51, setR_setR, setR_51]
          refine w_aload_n dX7_pays_49 rfl ?_
          refine w_iload_n dX7_pays_50 rfl ?_
          refine w_callVi dX7_pays_51 ml_X7_81 mv_X7_paidMany rfl rfl (by decide) rfl (e7_paidMany G _ (k) (by omega)) rfl rfl (Nat.le_of_ble_eq_true rfl) ?_
          try simp only [wI_51, setR_setR, setR_51]
          refine w_iret dX7_pays_54 rfl ?_
          try simp only [setR_51, setR_setR, wI_51]
          first
          | exact PQ.fnd (by simp only [M_pays, obs_1, hnR, if_true, if_false, eq_false hz1, eq_false hz2, eq_false hz3, hck])
          | exact PQ.same (by simp only [M_pays, obs_1, hnR, if_true, if_false, eq_false hz1, eq_false hz2, eq_false hz3, hck])
          | exact PQ.row (by simp only [M_pays, obs_1, hnR, if_true, if_false, eq_false hz1, eq_false hz2, eq_false hz3, hck])
      · skip
        refine w_aload_n dX7_pays_28 rfl ?_
        refine w_ldc dX7_pays_29 kc_X7_44 ?_
        refine w_callVi dX7_pays_31 ml_X7_53 mv_X7_finds rfl rfl (by decide) rfl (e7_finds G _ _ 0 (by decide) (by decide)) rfl rfl (Nat.le_of_ble_eq_true rfl) ?_
        try simp only [wI_51, setR_setR, setR_51]
        refine w_iret dX7_pays_34 rfl ?_
        try simp only [setR_51, setR_setR, wI_51]
        first
        | exact PQ.fnd (by simp only [M_pays, obs_1, hnR, if_true, if_false, eq_false hz1, eq_false hz2, eq_true hz3])
        | exact PQ.same (by simp only [M_pays, obs_1, hnR, if_true, if_false, eq_false hz1, eq_false hz2, eq_true hz3])
        | exact PQ.row (by simp only [M_pays, obs_1, hnR, if_true, if_false, eq_false hz1, eq_false hz2, eq_true hz3])
set_option maxRecDepth 100000 in
set_option maxHeartbeats 4000000 in
theorem m_turn (G : GT) (σ : Sg) (r kind : Int32) (n : Nat) (hn : σ.1 51 8 = nI n) (h8 : n ≤ 8) : Ev G mX7_turn [.ref 50, .int r, .int kind] σ (PQ σ (M_turn (obs σ) r kind)) := by
  have hnR := nR_of hn h8
  refine Ev.ofL (m := 1) (L := [some (.ref 50), some (.int r), some (.int kind), none]) rfl (Nat.le_of_ble_eq_true rfl) rfl rfl ?_
  refine w_aload_n dX7_turn_0 rfl ?_
  refine w_iload_n dX7_turn_1 rfl ?_
  refine w_callVi dX7_turn_2 ml_X7_87 mv_X7_isRod rfl rfl (by decide) rfl (e7_isRod G _ _) rfl rfl (Nat.le_of_ble_eq_true rfl) ?_
  try simp only [wI_51, setR_setR, setR_51]
  refine w_if_eq (t := 15) dX7_turn_5 (by decide) (fun hz1 => ?_) (fun hz1 => ?_)
  · skip
    refine w_aload_n dX7_turn_15 rfl ?_
    refine w_ldc dX7_turn_16 kc_X7_44 ?_
    refine w_callVi dX7_turn_18 ml_X7_53 mv_X7_finds rfl rfl (by decide) rfl (e7_finds G _ _ 0 (by decide) (by decide)) rfl rfl (Nat.le_of_ble_eq_true rfl) ?_
    try simp only [wI_51, setR_setR, setR_51]
    refine w_iret dX7_turn_21 rfl ?_
    try simp only [setR_51, setR_setR, wI_51]
    first
    | exact PQ.fnd (by simp only [M_turn, obs_1, hnR, if_true, if_false, eq_true hz1])
    | exact PQ.same (by simp only [M_turn, obs_1, hnR, if_true, if_false, eq_true hz1])
    | exact PQ.row (by simp only [M_turn, obs_1, hnR, if_true, if_false, eq_true hz1])
  · skip
    refine w_iload_n dX7_turn_8 rfl ?_
    refine w_callSi dX7_turn_9 ml_X7_61 ms_X7_isKind rfl (e7_isKind G _ _) rfl rfl (Nat.le_of_ble_eq_true rfl) ?_
    try simp only [wI_51, setR_setR, setR_51]
    refine w_if_ne (t := 22) dX7_turn_12 (by decide) (fun hz2 => ?_) (fun hz2 => ?_)
    · skip
      obtain ⟨k, hk, rfl⟩ := rod_of hz1 hn h8
      have hck : (nI k).toNatClampNeg = k := nI_clamp (by omega)
      · skip
        refine w_aload_n dX7_turn_22 rfl ?_
        refine w_iload_n dX7_turn_23 rfl ?_
        refine w_iconst dX7_turn_24 ic_0 ?_
        refine w_callVi dX7_turn_25 ml_X7_69 mv_X7_its rfl rfl (by decide) rfl (e7_its0 G _ (k) (by omega)) rfl rfl (Nat.le_of_ble_eq_true rfl) ?_
        try simp only [wI_51, setR_setR, setR_51]
        refine w_istore_n dX7_turn_28 (by decide) rfl rfl ?_
        dsimp only [List.set]
        refine w_aload_n dX7_turn_29 rfl ?_
        refine w_iload_n dX7_turn_30 rfl ?_
        refine w_iconst dX7_turn_31 ic_0 ?_
        refine w_iload_n dX7_turn_32 rfl ?_
        refine w_callVv dX7_turn_33 ml_X7_57 mv_X7_puts rfl rfl (by decide) rfl (e7_puts0 G _ (k) _ (by omega)) rfl rfl (Nat.le_of_ble_eq_true rfl) ?_
        try simp only [wI_51, setR_setR, setR_51]
        refine w_iload_n dX7_turn_36 rfl ?_
        refine w_iret dX7_turn_37 rfl ?_
        try simp only [setR_51, setR_setR, wI_51]
        first
        | exact PQ.fnd (by simp only [M_turn, obs_1, hnR, if_true, if_false, eq_false hz1, eq_false hz2, hck])
        | exact PQ.same (by simp only [M_turn, obs_1, hnR, if_true, if_false, eq_false hz1, eq_false hz2, hck])
        | exact PQ.row (by simp only [M_turn, obs_1, hnR, if_true, if_false, eq_false hz1, eq_false hz2, hck])
    · skip
      refine w_aload_n dX7_turn_15 rfl ?_
      refine w_ldc dX7_turn_16 kc_X7_44 ?_
      refine w_callVi dX7_turn_18 ml_X7_53 mv_X7_finds rfl rfl (by decide) rfl (e7_finds G _ _ 0 (by decide) (by decide)) rfl rfl (Nat.le_of_ble_eq_true rfl) ?_
      try simp only [wI_51, setR_setR, setR_51]
      refine w_iret dX7_turn_21 rfl ?_
      try simp only [setR_51, setR_setR, wI_51]
      first
      | exact PQ.fnd (by simp only [M_turn, obs_1, hnR, if_true, if_false, eq_false hz1, eq_true hz2])
      | exact PQ.same (by simp only [M_turn, obs_1, hnR, if_true, if_false, eq_false hz1, eq_true hz2])
      | exact PQ.row (by simp only [M_turn, obs_1, hnR, if_true, if_false, eq_false hz1, eq_true hz2])
set_option maxRecDepth 100000 in
set_option maxHeartbeats 4000000 in
theorem m_as (G : GT) (σ : Sg) (r kind : Int32) (n : Nat) (hn : σ.1 51 8 = nI n) (h8 : n ≤ 8) : Ev G mX7_as [.ref 50, .int r, .int kind] σ (PQ σ (M_as (obs σ) r kind)) := by
  have hnR := nR_of hn h8
  refine Ev.ofL (m := 2) (L := [some (.ref 50), some (.int r), some (.int kind), none, none]) rfl (Nat.le_of_ble_eq_true rfl) rfl rfl ?_
  refine w_aload_n dX7_as_0 rfl ?_
  refine w_iload_n dX7_as_1 rfl ?_
  refine w_callVi dX7_as_2 ml_X7_87 mv_X7_isRod rfl rfl (by decide) rfl (e7_isRod G _ _) rfl rfl (Nat.le_of_ble_eq_true rfl) ?_
  try simp only [wI_51, setR_setR, setR_51]
  refine w_if_eq (t := 15) dX7_as_5 (by decide) (fun hz1 => ?_) (fun hz1 => ?_)
  · skip
    refine w_aload_n dX7_as_15 rfl ?_
    refine w_ldc dX7_as_16 kc_X7_44 ?_
    refine w_callVi dX7_as_18 ml_X7_53 mv_X7_finds rfl rfl (by decide) rfl (e7_finds G _ _ 0 (by decide) (by decide)) rfl rfl (Nat.le_of_ble_eq_true rfl) ?_
    try simp only [wI_51, setR_setR, setR_51]
    refine w_iret dX7_as_21 rfl ?_
    try simp only [setR_51, setR_setR, wI_51]
    first
    | exact PQ.fnd (by simp only [M_as, obs_1, hnR, if_true, if_false, eq_true hz1])
    | exact PQ.same (by simp only [M_as, obs_1, hnR, if_true, if_false, eq_true hz1])
    | exact PQ.row (by simp only [M_as, obs_1, hnR, if_true, if_false, eq_true hz1])
  · skip
    refine w_iload_n dX7_as_8 rfl ?_
    refine w_callSi dX7_as_9 ml_X7_61 ms_X7_isKind rfl (e7_isKind G _ _) rfl rfl (Nat.le_of_ble_eq_true rfl) ?_
    try simp only [wI_51, setR_setR, setR_51]
    refine w_if_ne (t := 22) dX7_as_12 (by decide) (fun hz2 => ?_) (fun hz2 => ?_)
    · skip
      obtain ⟨k, hk, rfl⟩ := rod_of hz1 hn h8
      have hck : (nI k).toNatClampNeg = k := nI_clamp (by omega)
      · skip
        refine w_aload_n dX7_as_22 rfl ?_
        refine w_iload_n dX7_as_23 rfl ?_
        refine w_iconst dX7_as_24 ic_0 ?_
        refine w_callVi dX7_as_25 ml_X7_69 mv_X7_its rfl rfl (by decide) rfl (e7_its0 G _ (k) (by omega)) rfl rfl (Nat.le_of_ble_eq_true rfl) ?_
        try simp only [wI_51, setR_setR, setR_51]
        refine w_istore_n dX7_as_28 (by decide) rfl rfl ?_
        dsimp only [List.set]
        refine w_iload_n dX7_as_29 rfl ?_
        refine w_if_eq (t := 58) dX7_as_30 (by decide) (fun hz3 => ?_) (fun hz3 => ?_)
        · skip
          refine w_iconst dX7_as_58 ic_1 ?_
          refine w_goto (t := 63) dX7_as_59 (by decide) ?_
          refine w_istore dX7_as_63 (by decide) rfl rfl ?_
          dsimp only [List.set]
          refine w_iload dX7_as_65 rfl ?_
          refine w_if_eq (t := 79) dX7_as_67 (by decide) (fun hz4 => absurd hz4 (by decide)) (fun hz4 => ?_)
          refine w_aload_n dX7_as_70 rfl ?_
          refine w_iload_n dX7_as_71 rfl ?_
          refine w_iconst dX7_as_72 ic_2 ?_
          refine w_callVi dX7_as_73 ml_X7_69 mv_X7_its rfl rfl (by decide) rfl (e7_its G _ (k) (2) (by omega) (by omega)) rfl rfl (Nat.le_of_ble_eq_true rfl) ?_
          try simp only [wI_51, setR_setR, setR_51]
          refine w_goto (t := 85) dX7_as_76 (by decide) ?_
          refine w_iret dX7_as_85 rfl ?_
          have hA : M_as (obs σ) (nI k) kind = M_as2 (obs σ) k kind := by simp only [M_as, obs_1, hz1, hz2, hck, if_false]
          rw [hA]
          clear hA hz2
          subst hz3
          first
          | exact PQ.fnd (by simp [M_as2, obs_1, ])
          | exact PQ.same (by simp [M_as2, obs_1, ])
        · skip
          refine w_iload_n dX7_as_33 rfl ?_
          refine w_iload_n dX7_as_34 rfl ?_
          refine w_icmp_eq (t := 58) dX7_as_35 (by decide) (fun hz5 => ?_) (fun hz5 => ?_)
          · skip
            refine w_iconst dX7_as_58 ic_1 ?_
            refine w_goto (t := 63) dX7_as_59 (by decide) ?_
            refine w_istore dX7_as_63 (by decide) rfl rfl ?_
            dsimp only [List.set]
            refine w_iload dX7_as_65 rfl ?_
            refine w_if_eq (t := 79) dX7_as_67 (by decide) (fun hz6 => absurd hz6 (by decide)) (fun hz6 => ?_)
            refine w_aload_n dX7_as_70 rfl ?_
            refine w_iload_n dX7_as_71 rfl ?_
            refine w_iconst dX7_as_72 ic_2 ?_
            refine w_callVi dX7_as_73 ml_X7_69 mv_X7_its rfl rfl (by decide) rfl (e7_its G _ (k) (2) (by omega) (by omega)) rfl rfl (Nat.le_of_ble_eq_true rfl) ?_
            try simp only [wI_51, setR_setR, setR_51]
            refine w_goto (t := 85) dX7_as_76 (by decide) ?_
            refine w_iret dX7_as_85 rfl ?_
            have hA : M_as (obs σ) (nI k) kind = M_as2 (obs σ) k kind := by simp only [M_as, obs_1, hz1, hz2, hck, if_false]
            rw [hA]
            clear hA hz2
            first
            | exact PQ.fnd (by simp [M_as2, obs_1, hz3, hz5])
            | exact PQ.same (by simp [M_as2, obs_1, hz3, hz5])
          · skip
            refine w_iload_n dX7_as_38 rfl ?_
            refine w_iconst dX7_as_39 ic_1 ?_
            refine w_icmp_ne (t := 48) dX7_as_40 (by decide) (fun hz7 => ?_) (fun hz7 => ?_)
            · skip
              refine w_iload_n dX7_as_48 rfl ?_
              refine w_iconst dX7_as_49 ic_2 ?_
              refine w_icmp_ne (t := 62) dX7_as_50 (by decide) (fun hz8 => ?_) (fun hz8 => ?_)
              · skip
                refine w_iconst dX7_as_62 ic_0 ?_
                refine w_istore dX7_as_63 (by decide) rfl rfl ?_
                dsimp only [List.set]
                refine w_iload dX7_as_65 rfl ?_
                refine w_if_eq (t := 79) dX7_as_67 (by decide) (fun hz9 => ?_) (fun hz9 => absurd rfl hz9)
                refine w_aload_n dX7_as_79 rfl ?_
                refine w_ldc dX7_as_80 kc_X7_96 ?_
                refine w_callVi dX7_as_82 ml_X7_53 mv_X7_finds rfl rfl (by decide) rfl (e7_finds G _ _ 2 (by decide) (by decide)) rfl rfl (Nat.le_of_ble_eq_true rfl) ?_
                try simp only [wI_51, setR_setR, setR_51]
                refine w_iret dX7_as_85 rfl ?_
                have hA : M_as (obs σ) (nI k) kind = M_as2 (obs σ) k kind := by simp only [M_as, obs_1, hz1, hz2, hck, if_false]
                rw [hA]
                clear hA hz2
                first
                | exact PQ.fnd (by simp [M_as2, obs_1, hz3, hz5, hz7, hz8])
                | exact PQ.same (by simp [M_as2, obs_1, hz3, hz5, hz7, hz8])
              · skip
                refine w_iload_n dX7_as_53 rfl ?_
                refine w_iconst dX7_as_54 ic_5 ?_
                refine w_icmp_ne (t := 62) dX7_as_55 (by decide) (fun hz10 => ?_) (fun hz10 => ?_)
                · skip
                  refine w_iconst dX7_as_62 ic_0 ?_
                  refine w_istore dX7_as_63 (by decide) rfl rfl ?_
                  dsimp only [List.set]
                  refine w_iload dX7_as_65 rfl ?_
                  refine w_if_eq (t := 79) dX7_as_67 (by decide) (fun hz11 => ?_) (fun hz11 => absurd rfl hz11)
                  refine w_aload_n dX7_as_79 rfl ?_
                  refine w_ldc dX7_as_80 kc_X7_96 ?_
                  refine w_callVi dX7_as_82 ml_X7_53 mv_X7_finds rfl rfl (by decide) rfl (e7_finds G _ _ 2 (by decide) (by decide)) rfl rfl (Nat.le_of_ble_eq_true rfl) ?_
                  try simp only [wI_51, setR_setR, setR_51]
                  refine w_iret dX7_as_85 rfl ?_
                  have hA : M_as (obs σ) (nI k) kind = M_as2 (obs σ) k kind := by simp only [M_as, obs_1, hz1, hz2, hck, if_false]
                  rw [hA]
                  clear hA hz2
                  subst hz8
                  first
                  | exact PQ.fnd (by simp [M_as2, obs_1, hz3, hz5, hz7, hz10])
                  | exact PQ.same (by simp [M_as2, obs_1, hz3, hz5, hz7, hz10])
                · skip
                  refine w_iconst dX7_as_58 ic_1 ?_
                  refine w_goto (t := 63) dX7_as_59 (by decide) ?_
                  refine w_istore dX7_as_63 (by decide) rfl rfl ?_
                  dsimp only [List.set]
                  refine w_iload dX7_as_65 rfl ?_
                  refine w_if_eq (t := 79) dX7_as_67 (by decide) (fun hz12 => absurd hz12 (by decide)) (fun hz12 => ?_)
                  refine w_aload_n dX7_as_70 rfl ?_
                  refine w_iload_n dX7_as_71 rfl ?_
                  refine w_iconst dX7_as_72 ic_2 ?_
                  refine w_callVi dX7_as_73 ml_X7_69 mv_X7_its rfl rfl (by decide) rfl (e7_its G _ (k) (2) (by omega) (by omega)) rfl rfl (Nat.le_of_ble_eq_true rfl) ?_
                  try simp only [wI_51, setR_setR, setR_51]
                  refine w_goto (t := 85) dX7_as_76 (by decide) ?_
                  refine w_iret dX7_as_85 rfl ?_
                  have hA : M_as (obs σ) (nI k) kind = M_as2 (obs σ) k kind := by simp only [M_as, obs_1, hz1, hz2, hck, if_false]
                  rw [hA]
                  clear hA hz2
                  subst hz8
                  first
                  | exact PQ.fnd (by simp [M_as2, obs_1, hz3, hz5, hz7, hz10])
                  | exact PQ.same (by simp [M_as2, obs_1, hz3, hz5, hz7, hz10])
            · skip
              refine w_iload_n dX7_as_43 rfl ?_
              refine w_iconst dX7_as_44 ic_4 ?_
              refine w_icmp_eq (t := 58) dX7_as_45 (by decide) (fun hz13 => ?_) (fun hz13 => ?_)
              · skip
                refine w_iconst dX7_as_58 ic_1 ?_
                refine w_goto (t := 63) dX7_as_59 (by decide) ?_
                refine w_istore dX7_as_63 (by decide) rfl rfl ?_
                dsimp only [List.set]
                refine w_iload dX7_as_65 rfl ?_
                refine w_if_eq (t := 79) dX7_as_67 (by decide) (fun hz14 => absurd hz14 (by decide)) (fun hz14 => ?_)
                refine w_aload_n dX7_as_70 rfl ?_
                refine w_iload_n dX7_as_71 rfl ?_
                refine w_iconst dX7_as_72 ic_2 ?_
                refine w_callVi dX7_as_73 ml_X7_69 mv_X7_its rfl rfl (by decide) rfl (e7_its G _ (k) (2) (by omega) (by omega)) rfl rfl (Nat.le_of_ble_eq_true rfl) ?_
                try simp only [wI_51, setR_setR, setR_51]
                refine w_goto (t := 85) dX7_as_76 (by decide) ?_
                refine w_iret dX7_as_85 rfl ?_
                have hA : M_as (obs σ) (nI k) kind = M_as2 (obs σ) k kind := by simp only [M_as, obs_1, hz1, hz2, hck, if_false]
                rw [hA]
                clear hA hz2
                subst hz7
                first
                | exact PQ.fnd (by simp [M_as2, obs_1, hz3, hz5, hz13])
                | exact PQ.same (by simp [M_as2, obs_1, hz3, hz5, hz13])
              · skip
                refine w_iload_n dX7_as_48 rfl ?_
                refine w_iconst dX7_as_49 ic_2 ?_
                refine w_icmp_ne (t := 62) dX7_as_50 (by decide) (fun hz15 => ?_) (fun hz15 => ?_)
                · skip
                  refine w_iconst dX7_as_62 ic_0 ?_
                  refine w_istore dX7_as_63 (by decide) rfl rfl ?_
                  dsimp only [List.set]
                  refine w_iload dX7_as_65 rfl ?_
                  refine w_if_eq (t := 79) dX7_as_67 (by decide) (fun hz16 => ?_) (fun hz16 => absurd rfl hz16)
                  refine w_aload_n dX7_as_79 rfl ?_
                  refine w_ldc dX7_as_80 kc_X7_96 ?_
                  refine w_callVi dX7_as_82 ml_X7_53 mv_X7_finds rfl rfl (by decide) rfl (e7_finds G _ _ 2 (by decide) (by decide)) rfl rfl (Nat.le_of_ble_eq_true rfl) ?_
                  try simp only [wI_51, setR_setR, setR_51]
                  refine w_iret dX7_as_85 rfl ?_
                  have hA : M_as (obs σ) (nI k) kind = M_as2 (obs σ) k kind := by simp only [M_as, obs_1, hz1, hz2, hck, if_false]
                  rw [hA]
                  clear hA hz2
                  subst hz7
                  first
                  | exact PQ.fnd (by simp [M_as2, obs_1, hz3, hz5, hz13, hz15])
                  | exact PQ.same (by simp [M_as2, obs_1, hz3, hz5, hz13, hz15])
                · skip
                  refine w_iload_n dX7_as_53 rfl ?_
                  refine w_iconst dX7_as_54 ic_5 ?_
                  refine w_icmp_ne (t := 62) dX7_as_55 (by decide) (fun hz17 => ?_) (fun hz17 => ?_)
                  · skip
                    refine w_iconst dX7_as_62 ic_0 ?_
                    refine w_istore dX7_as_63 (by decide) rfl rfl ?_
                    dsimp only [List.set]
                    refine w_iload dX7_as_65 rfl ?_
                    refine w_if_eq (t := 79) dX7_as_67 (by decide) (fun hz18 => ?_) (fun hz18 => absurd rfl hz18)
                    refine w_aload_n dX7_as_79 rfl ?_
                    refine w_ldc dX7_as_80 kc_X7_96 ?_
                    refine w_callVi dX7_as_82 ml_X7_53 mv_X7_finds rfl rfl (by decide) rfl (e7_finds G _ _ 2 (by decide) (by decide)) rfl rfl (Nat.le_of_ble_eq_true rfl) ?_
                    try simp only [wI_51, setR_setR, setR_51]
                    refine w_iret dX7_as_85 rfl ?_
                    have hA : M_as (obs σ) (nI k) kind = M_as2 (obs σ) k kind := by simp only [M_as, obs_1, hz1, hz2, hck, if_false]
                    rw [hA]
                    clear hA hz2
                    subst hz7
                    exact absurd hz15 (by decide)
                  · skip
                    refine w_iconst dX7_as_58 ic_1 ?_
                    refine w_goto (t := 63) dX7_as_59 (by decide) ?_
                    refine w_istore dX7_as_63 (by decide) rfl rfl ?_
                    dsimp only [List.set]
                    refine w_iload dX7_as_65 rfl ?_
                    refine w_if_eq (t := 79) dX7_as_67 (by decide) (fun hz19 => absurd hz19 (by decide)) (fun hz19 => ?_)
                    refine w_aload_n dX7_as_70 rfl ?_
                    refine w_iload_n dX7_as_71 rfl ?_
                    refine w_iconst dX7_as_72 ic_2 ?_
                    refine w_callVi dX7_as_73 ml_X7_69 mv_X7_its rfl rfl (by decide) rfl (e7_its G _ (k) (2) (by omega) (by omega)) rfl rfl (Nat.le_of_ble_eq_true rfl) ?_
                    try simp only [wI_51, setR_setR, setR_51]
                    refine w_goto (t := 85) dX7_as_76 (by decide) ?_
                    refine w_iret dX7_as_85 rfl ?_
                    have hA : M_as (obs σ) (nI k) kind = M_as2 (obs σ) k kind := by simp only [M_as, obs_1, hz1, hz2, hck, if_false]
                    rw [hA]
                    clear hA hz2
                    subst hz7
                    exact absurd hz15 (by decide)
    · skip
      refine w_aload_n dX7_as_15 rfl ?_
      refine w_ldc dX7_as_16 kc_X7_44 ?_
      refine w_callVi dX7_as_18 ml_X7_53 mv_X7_finds rfl rfl (by decide) rfl (e7_finds G _ _ 0 (by decide) (by decide)) rfl rfl (Nat.le_of_ble_eq_true rfl) ?_
      try simp only [wI_51, setR_setR, setR_51]
      refine w_iret dX7_as_21 rfl ?_
      try simp only [setR_51, setR_setR, wI_51]
      first
      | exact PQ.fnd (by simp only [M_as, obs_1, hnR, if_true, if_false, eq_false hz1, eq_true hz2])
      | exact PQ.same (by simp only [M_as, obs_1, hnR, if_true, if_false, eq_false hz1, eq_true hz2])
      | exact PQ.row (by simp only [M_as, obs_1, hnR, if_true, if_false, eq_false hz1, eq_true hz2])
set_option maxRecDepth 100000 in
set_option maxHeartbeats 4000000 in
theorem m_down (G : GT) (σ : Sg) (r : Int32) (n : Nat) (hn : σ.1 51 8 = nI n) (h8 : n ≤ 8) : Ev G mX7_down [.ref 50, .int r] σ (PQ σ (M_down (obs σ) r)) := by
  have hnR := nR_of hn h8
  refine Ev.ofL (m := 1) (L := [some (.ref 50), some (.int r), none]) rfl (Nat.le_of_ble_eq_true rfl) rfl rfl ?_
  refine w_aload_n dX7_down_0 rfl ?_
  refine w_iload_n dX7_down_1 rfl ?_
  refine w_callVi dX7_down_2 ml_X7_87 mv_X7_isRod rfl rfl (by decide) rfl (e7_isRod G _ _) rfl rfl (Nat.le_of_ble_eq_true rfl) ?_
  try simp only [wI_51, setR_setR, setR_51]
  refine w_if_ne (t := 15) dX7_down_5 (by decide) (fun hz1 => ?_) (fun hz1 => ?_)
  · skip
    obtain ⟨k, hk, rfl⟩ := rod_of hz1 hn h8
    have hck : (nI k).toNatClampNeg = k := nI_clamp (by omega)
    · skip
      refine w_aload_n dX7_down_15 rfl ?_
      refine w_iload_n dX7_down_16 rfl ?_
      refine w_iconst dX7_down_17 ic_5 ?_
      refine w_callVi dX7_down_18 ml_X7_69 mv_X7_its rfl rfl (by decide) rfl (e7_its G _ (k) (5) (by omega) (by omega)) rfl rfl (Nat.le_of_ble_eq_true rfl) ?_
      try simp only [wI_51, setR_setR, setR_51]
      refine w_istore_n dX7_down_21 (by decide) rfl rfl ?_
      dsimp only [List.set]
      refine w_aload_n dX7_down_22 rfl ?_
      refine w_iload_n dX7_down_23 rfl ?_
      refine w_callVv dX7_down_24 ml_X7_97 mv_X7_comesDown rfl rfl (by decide) rfl (e7_comesDown G _ n k hk hn h8) rfl rfl (Nat.le_of_ble_eq_true rfl) ?_
      try simp only [wI_51, setR_setR, setR_51]
      refine w_iload_n dX7_down_27 rfl ?_
      refine w_iret dX7_down_28 rfl ?_
      try simp only [setR_51, setR_setR, wI_51]
      first
      | exact PQ.fnd (by simp only [M_down, obs_1, hnR, if_true, if_false, eq_false hz1, hck])
      | exact PQ.same (by simp only [M_down, obs_1, hnR, if_true, if_false, eq_false hz1, hck])
      | exact PQ.row (by simp only [M_down, obs_1, hnR, if_true, if_false, eq_false hz1, hck])
  · skip
    refine w_aload_n dX7_down_8 rfl ?_
    refine w_ldc dX7_down_9 kc_X7_44 ?_
    refine w_callVi dX7_down_11 ml_X7_53 mv_X7_finds rfl rfl (by decide) rfl (e7_finds G _ _ 0 (by decide) (by decide)) rfl rfl (Nat.le_of_ble_eq_true rfl) ?_
    try simp only [wI_51, setR_setR, setR_51]
    refine w_iret dX7_down_14 rfl ?_
    try simp only [setR_51, setR_setR, wI_51]
    first
    | exact PQ.fnd (by simp only [M_down, obs_1, hnR, if_true, if_false, eq_true hz1])
    | exact PQ.same (by simp only [M_down, obs_1, hnR, if_true, if_false, eq_true hz1])
    | exact PQ.row (by simp only [M_down, obs_1, hnR, if_true, if_false, eq_true hz1])
set_option maxRecDepth 100000 in
set_option maxHeartbeats 4000000 in
theorem m_settle (G : GT) (σ : Sg) (r : Int32) (n : Nat) (hn : σ.1 51 8 = nI n) (h8 : n ≤ 8) : Ev G mX7_settle [.ref 50, .int r] σ (PQ σ (M_settle (obs σ) r)) := by
  have hnR := nR_of hn h8
  refine Ev.ofL (m := 1) (L := [some (.ref 50), some (.int r), none]) rfl (Nat.le_of_ble_eq_true rfl) rfl rfl ?_
  refine w_aload_n dX7_settle_0 rfl ?_
  refine w_iload_n dX7_settle_1 rfl ?_
  refine w_callVi dX7_settle_2 ml_X7_87 mv_X7_isRod rfl rfl (by decide) rfl (e7_isRod G _ _) rfl rfl (Nat.le_of_ble_eq_true rfl) ?_
  try simp only [wI_51, setR_setR, setR_51]
  refine w_if_ne (t := 15) dX7_settle_5 (by decide) (fun hz1 => ?_) (fun hz1 => ?_)
  · skip
    obtain ⟨k, hk, rfl⟩ := rod_of hz1 hn h8
    have hck : (nI k).toNatClampNeg = k := nI_clamp (by omega)
    · skip
      refine w_aload_n dX7_settle_15 rfl ?_
      refine w_iload_n dX7_settle_16 rfl ?_
      refine w_iconst dX7_settle_17 ic_5 ?_
      refine w_callVi dX7_settle_18 ml_X7_69 mv_X7_its rfl rfl (by decide) rfl (e7_its G _ (k) (5) (by omega) (by omega)) rfl rfl (Nat.le_of_ble_eq_true rfl) ?_
      try simp only [wI_51, setR_setR, setR_51]
      refine w_istore_n dX7_settle_21 (by decide) rfl rfl ?_
      dsimp only [List.set]
      refine w_aload_n dX7_settle_22 rfl ?_
      refine w_iload_n dX7_settle_23 rfl ?_
      refine w_iconst dX7_settle_24 ic_5 ?_
      refine w_iconst dX7_settle_25 ic_0 ?_
      refine w_callVv dX7_settle_26 ml_X7_57 mv_X7_puts rfl rfl (by decide) rfl (e7_puts G _ (k) (5) _ (by omega) (by omega)) rfl rfl (Nat.le_of_ble_eq_true rfl) ?_
      try simp only [wI_51, setR_setR, setR_51]
      refine w_iload_n dX7_settle_29 rfl ?_
      refine w_iret dX7_settle_30 rfl ?_
      try simp only [setR_51, setR_setR, wI_51]
      first
      | exact PQ.fnd (by simp only [M_settle, obs_1, hnR, if_true, if_false, eq_false hz1, hck])
      | exact PQ.same (by simp only [M_settle, obs_1, hnR, if_true, if_false, eq_false hz1, hck])
      | exact PQ.row (by simp only [M_settle, obs_1, hnR, if_true, if_false, eq_false hz1, hck])
  · skip
    refine w_aload_n dX7_settle_8 rfl ?_
    refine w_ldc dX7_settle_9 kc_X7_44 ?_
    refine w_callVi dX7_settle_11 ml_X7_53 mv_X7_finds rfl rfl (by decide) rfl (e7_finds G _ _ 0 (by decide) (by decide)) rfl rfl (Nat.le_of_ble_eq_true rfl) ?_
    try simp only [wI_51, setR_setR, setR_51]
    refine w_iret dX7_settle_14 rfl ?_
    try simp only [setR_51, setR_setR, wI_51]
    first
    | exact PQ.fnd (by simp only [M_settle, obs_1, hnR, if_true, if_false, eq_true hz1])
    | exact PQ.same (by simp only [M_settle, obs_1, hnR, if_true, if_false, eq_true hz1])
    | exact PQ.row (by simp only [M_settle, obs_1, hnR, if_true, if_false, eq_true hz1])
set_option maxRecDepth 100000 in
set_option maxHeartbeats 4000000 in
theorem m_hours (G : GT) (σ : Sg) (q : Int32) (n : Nat) (hn : σ.1 51 8 = nI n) (h8 : n ≤ 8) : Ev G mX7_hours [.ref 50, .int q] σ (PQ σ (M_hours (obs σ) q)) := by
  have hnR := nR_of hn h8
  refine Ev.ofL (m := 0) (L := [some (.ref 50), some (.int q)]) rfl (Nat.le_of_ble_eq_true rfl) rfl rfl ?_
  refine w_iload_n dX7_hours_0 rfl ?_
  refine w_iconst dX7_hours_1 ic_1 ?_
  refine w_bipush dX7_hours_2 bp_100 ?_
  refine w_callSi dX7_hours_4 ml_X7_45 ms_X7_in rfl (e7_in G _ _ _ _) rfl rfl (Nat.le_of_ble_eq_true rfl) ?_
  try simp only [wI_51, setR_setR, setR_51]
  refine w_if_ne (t := 17) dX7_hours_7 (by decide) (fun hz1 => ?_) (fun hz1 => ?_)
  · skip
    refine w_aload_n dX7_hours_17 rfl ?_
    refine w_getR (t := 51) dX7_hours_18 fl_X7_7 rfl (by decide) (by decide) rfl ?_
    refine w_iconst dX7_hours_21 ic_5 ?_
    refine w_iald (j := 5) dX7_hours_22 rfl (by decide) rfl (by decide) ?_
    refine w_iload_n dX7_hours_23 rfl ?_
    refine w_iadd dX7_hours_24 ?_
    refine w_sipush dX7_hours_25 sp_9999 ?_
    refine w2_icmp_le (t := 38) dX7_hours_28 (by decide) (fun hz2 => ?_) (fun hz2 => ?_)
    · skip
      obtain ⟨j, hj, rfl⟩ := in_0 (m := 100) (in_low hz1 (by decide)) rfl (by decide)
      have hcj : (nI j).toNatClampNeg = j := nI_clamp (by omega)
      · skip
        refine w_aload_n dX7_hours_38 rfl ?_
        refine w_iload_n dX7_hours_39 rfl ?_
        refine w_callVv dX7_hours_40 ml_X7_116 mv_X7_passes rfl rfl (by decide) rfl (e7_passes G _ (j) (by omega) n hn h8) rfl rfl (Nat.le_of_ble_eq_true rfl) ?_
        try simp only [wI_51, setR_setR, setR_51]
        refine w_aload_n dX7_hours_43 rfl ?_
        refine w_iconst dX7_hours_44 ic_5 ?_
        refine w_callVi dX7_hours_45 ml_X7_119 mv_X7_sumOf rfl rfl (by decide) rfl (e7_sumOf G _ 5 (by decide) n (by rw [setR_51, p_pass_8]; exact hn) h8) rfl rfl (Nat.le_of_ble_eq_true rfl) ?_
        try simp only [wI_51, setR_setR, setR_51]
        refine w_iret dX7_hours_48 rfl ?_
        try simp only [setR_51, setR_setR, wI_51]
        first
        | exact PQ.fnd (by simp only [M_hours, obs_1, hnR, if_true, if_false, eq_false hz1, eq_false hz2, hcj])
        | exact PQ.same (by simp only [M_hours, obs_1, hnR, if_true, if_false, eq_false hz1, eq_false hz2, hcj])
        | exact PQ.row (by simp only [M_hours, obs_1, hnR, if_true, if_false, eq_false hz1, eq_false hz2, hcj])
    · skip
      refine w_aload_n dX7_hours_31 rfl ?_
      refine w_ldc dX7_hours_32 kc_X7_115 ?_
      refine w_callVi dX7_hours_34 ml_X7_53 mv_X7_finds rfl rfl (by decide) rfl (e7_finds G _ _ 4 (by decide) (by decide)) rfl rfl (Nat.le_of_ble_eq_true rfl) ?_
      try simp only [wI_51, setR_setR, setR_51]
      refine w_iret dX7_hours_37 rfl ?_
      try simp only [setR_51, setR_setR, wI_51]
      first
      | exact PQ.fnd (by simp only [M_hours, obs_1, hnR, if_true, if_false, eq_false hz1, eq_true hz2])
      | exact PQ.same (by simp only [M_hours, obs_1, hnR, if_true, if_false, eq_false hz1, eq_true hz2])
      | exact PQ.row (by simp only [M_hours, obs_1, hnR, if_true, if_false, eq_false hz1, eq_true hz2])
  · skip
    refine w_aload_n dX7_hours_10 rfl ?_
    refine w_ldc dX7_hours_11 kc_X7_44 ?_
    refine w_callVi dX7_hours_13 ml_X7_53 mv_X7_finds rfl rfl (by decide) rfl (e7_finds G _ _ 0 (by decide) (by decide)) rfl rfl (Nat.le_of_ble_eq_true rfl) ?_
    try simp only [wI_51, setR_setR, setR_51]
    refine w_iret dX7_hours_16 rfl ?_
    try simp only [setR_51, setR_setR, wI_51]
    first
    | exact PQ.fnd (by simp only [M_hours, obs_1, hnR, if_true, if_false, eq_true hz1])
    | exact PQ.same (by simp only [M_hours, obs_1, hnR, if_true, if_false, eq_true hz1])
    | exact PQ.row (by simp only [M_hours, obs_1, hnR, if_true, if_false, eq_true hz1])
set_option maxRecDepth 100000 in
set_option maxHeartbeats 4000000 in
theorem m_seed (G : GT) (σ : Sg) (v : Int32) (n : Nat) (hn : σ.1 51 8 = nI n) (h8 : n ≤ 8) : Ev G mX7_seed [.ref 50, .int v] σ (PQ σ (M_seed (obs σ) v)) := by
  have hnR := nR_of hn h8
  refine Ev.ofL (m := 1) (L := [some (.ref 50), some (.int v), none]) rfl (Nat.le_of_ble_eq_true rfl) rfl rfl ?_
  refine w_aload_n dX7_seed_0 rfl ?_
  refine w_getR (t := 51) dX7_seed_1 fl_X7_7 rfl (by decide) (by decide) rfl ?_
  refine w_bipush dX7_seed_4 bp_7 ?_
  refine w_iald (j := 7) dX7_seed_6 rfl (by decide) rfl (by decide) ?_
  refine w_istore_n dX7_seed_7 (by decide) rfl rfl ?_
  dsimp only [List.set]
  refine w_aload_n dX7_seed_8 rfl ?_
  refine w_getR (t := 51) dX7_seed_9 fl_X7_7 rfl (by decide) (by decide) rfl ?_
  refine w_bipush dX7_seed_12 bp_7 ?_
  refine w_iload_n dX7_seed_14 rfl ?_
  refine w_iast (j := 7) dX7_seed_15 rfl (by decide) rfl (by decide) ?_
  try simp only [wI_51, setR_setR, setR_51]
  refine w_iload_n dX7_seed_16 rfl ?_
  refine w_iret dX7_seed_17 rfl ?_
  try simp only [setR_51, setR_setR, wI_51]
  first
  | exact PQ.fnd (by simp only [M_seed, obs_1, hnR, if_true, if_false])
  | exact PQ.same (by simp only [M_seed, obs_1, hnR, if_true, if_false])
  | exact PQ.row (by simp only [M_seed, obs_1, hnR, if_true, if_false])
set_option maxRecDepth 100000 in
set_option maxHeartbeats 4000000 in
theorem m_now (G : GT) (σ : Sg) (what : Int32) (n : Nat) (hn : σ.1 51 8 = nI n) (h8 : n ≤ 8) : Ev G mX7_now [.ref 50, .int what] σ (PQ σ (M_now (obs σ) what)) := by
  have hnR := nR_of hn h8
  refine Ev.ofL (m := 0) (L := [some (.ref 50), some (.int what)]) rfl (Nat.le_of_ble_eq_true rfl) rfl rfl ?_
  refine w_iload_n dX7_now_0 rfl ?_
  refine sw_0_5 (fun hz1 => ?_) (fun hz1 => ?_) (fun hz1 => ?_) (fun hz1 => ?_) (fun hz1 => ?_) (fun hz1 => ?_) (fun hz1 => ?_)
  · skip
    refine w_tableIn (t := 40) (off := 39) dX7_now_1 (by rw [hz1]; decide) (by rw [hz1]; decide) (by rw [hz1]; rfl) (by decide) ?_
    refine w_aload_n dX7_now_40 rfl ?_
    refine w_getR (t := 51) dX7_now_41 fl_X7_7 rfl (by decide) (by decide) rfl ?_
    refine w_iconst dX7_now_44 ic_5 ?_
    refine w_iald (j := 5) dX7_now_45 rfl (by decide) rfl (by decide) ?_
    refine w_iret dX7_now_46 rfl ?_
    try simp only [setR_51, setR_setR, wI_51]
    first
    | exact PQ.fnd (by simp only [M_now, obs_1, hnR, if_true, if_false, eq_true hz1, eq_false (show ¬ what = 1 by rw [hz1]; decide), eq_false (show ¬ what = 2 by rw [hz1]; decide), eq_false (show ¬ what = 3 by rw [hz1]; decide), eq_false (show ¬ what = 4 by rw [hz1]; decide), eq_false (show ¬ what = 5 by rw [hz1]; decide)])
    | exact PQ.same (by simp only [M_now, obs_1, hnR, if_true, if_false, eq_true hz1, eq_false (show ¬ what = 1 by rw [hz1]; decide), eq_false (show ¬ what = 2 by rw [hz1]; decide), eq_false (show ¬ what = 3 by rw [hz1]; decide), eq_false (show ¬ what = 4 by rw [hz1]; decide), eq_false (show ¬ what = 5 by rw [hz1]; decide)])
    | exact PQ.row (by simp only [M_now, obs_1, hnR, if_true, if_false, eq_true hz1, eq_false (show ¬ what = 1 by rw [hz1]; decide), eq_false (show ¬ what = 2 by rw [hz1]; decide), eq_false (show ¬ what = 3 by rw [hz1]; decide), eq_false (show ¬ what = 4 by rw [hz1]; decide), eq_false (show ¬ what = 5 by rw [hz1]; decide)])
  · skip
    refine w_tableIn (t := 47) (off := 46) dX7_now_1 (by rw [hz1]; decide) (by rw [hz1]; decide) (by rw [hz1]; rfl) (by decide) ?_
    refine w_aload_n dX7_now_47 rfl ?_
    refine w_callVi dX7_now_48 ml_X7_77 mv_X7_clock rfl rfl (by decide) rfl (e7_clock G _) rfl rfl (Nat.le_of_ble_eq_true rfl) ?_
    try simp only [wI_51, setR_setR, setR_51]
    refine w_iret dX7_now_51 rfl ?_
    try simp only [setR_51, setR_setR, wI_51]
    first
    | exact PQ.fnd (by simp only [M_now, obs_1, hnR, if_true, if_false, eq_true hz1, eq_false (show ¬ what = 0 by rw [hz1]; decide), eq_false (show ¬ what = 2 by rw [hz1]; decide), eq_false (show ¬ what = 3 by rw [hz1]; decide), eq_false (show ¬ what = 4 by rw [hz1]; decide), eq_false (show ¬ what = 5 by rw [hz1]; decide)])
    | exact PQ.same (by simp only [M_now, obs_1, hnR, if_true, if_false, eq_true hz1, eq_false (show ¬ what = 0 by rw [hz1]; decide), eq_false (show ¬ what = 2 by rw [hz1]; decide), eq_false (show ¬ what = 3 by rw [hz1]; decide), eq_false (show ¬ what = 4 by rw [hz1]; decide), eq_false (show ¬ what = 5 by rw [hz1]; decide)])
    | exact PQ.row (by simp only [M_now, obs_1, hnR, if_true, if_false, eq_true hz1, eq_false (show ¬ what = 0 by rw [hz1]; decide), eq_false (show ¬ what = 2 by rw [hz1]; decide), eq_false (show ¬ what = 3 by rw [hz1]; decide), eq_false (show ¬ what = 4 by rw [hz1]; decide), eq_false (show ¬ what = 5 by rw [hz1]; decide)])
  · skip
    refine w_tableIn (t := 52) (off := 51) dX7_now_1 (by rw [hz1]; decide) (by rw [hz1]; decide) (by rw [hz1]; rfl) (by decide) ?_
    refine w_aload_n dX7_now_52 rfl ?_
    refine w_iconst dX7_now_53 ic_5 ?_
    refine w_callVi dX7_now_54 ml_X7_119 mv_X7_sumOf rfl rfl (by decide) rfl (e7_sumOf G _ (5) (by omega) n hn h8) rfl rfl (Nat.le_of_ble_eq_true rfl) ?_
    try simp only [wI_51, setR_setR, setR_51]
    refine w_iret dX7_now_57 rfl ?_
    try simp only [setR_51, setR_setR, wI_51]
    first
    | exact PQ.fnd (by simp only [M_now, obs_1, hnR, if_true, if_false, eq_true hz1, eq_false (show ¬ what = 0 by rw [hz1]; decide), eq_false (show ¬ what = 1 by rw [hz1]; decide), eq_false (show ¬ what = 3 by rw [hz1]; decide), eq_false (show ¬ what = 4 by rw [hz1]; decide), eq_false (show ¬ what = 5 by rw [hz1]; decide)])
    | exact PQ.same (by simp only [M_now, obs_1, hnR, if_true, if_false, eq_true hz1, eq_false (show ¬ what = 0 by rw [hz1]; decide), eq_false (show ¬ what = 1 by rw [hz1]; decide), eq_false (show ¬ what = 3 by rw [hz1]; decide), eq_false (show ¬ what = 4 by rw [hz1]; decide), eq_false (show ¬ what = 5 by rw [hz1]; decide)])
    | exact PQ.row (by simp only [M_now, obs_1, hnR, if_true, if_false, eq_true hz1, eq_false (show ¬ what = 0 by rw [hz1]; decide), eq_false (show ¬ what = 1 by rw [hz1]; decide), eq_false (show ¬ what = 3 by rw [hz1]; decide), eq_false (show ¬ what = 4 by rw [hz1]; decide), eq_false (show ¬ what = 5 by rw [hz1]; decide)])
  · skip
    refine w_tableIn (t := 58) (off := 57) dX7_now_1 (by rw [hz1]; decide) (by rw [hz1]; decide) (by rw [hz1]; rfl) (by decide) ?_
    refine w_aload_n dX7_now_58 rfl ?_
    refine w_bipush dX7_now_59 bp_6 ?_
    refine w_callVi dX7_now_61 ml_X7_119 mv_X7_sumOf rfl rfl (by decide) rfl (e7_sumOf G _ (6) (by omega) n hn h8) rfl rfl (Nat.le_of_ble_eq_true rfl) ?_
    try simp only [wI_51, setR_setR, setR_51]
    refine w_iret dX7_now_64 rfl ?_
    try simp only [setR_51, setR_setR, wI_51]
    first
    | exact PQ.fnd (by simp only [M_now, obs_1, hnR, if_true, if_false, eq_true hz1, eq_false (show ¬ what = 0 by rw [hz1]; decide), eq_false (show ¬ what = 1 by rw [hz1]; decide), eq_false (show ¬ what = 2 by rw [hz1]; decide), eq_false (show ¬ what = 4 by rw [hz1]; decide), eq_false (show ¬ what = 5 by rw [hz1]; decide)])
    | exact PQ.same (by simp only [M_now, obs_1, hnR, if_true, if_false, eq_true hz1, eq_false (show ¬ what = 0 by rw [hz1]; decide), eq_false (show ¬ what = 1 by rw [hz1]; decide), eq_false (show ¬ what = 2 by rw [hz1]; decide), eq_false (show ¬ what = 4 by rw [hz1]; decide), eq_false (show ¬ what = 5 by rw [hz1]; decide)])
    | exact PQ.row (by simp only [M_now, obs_1, hnR, if_true, if_false, eq_true hz1, eq_false (show ¬ what = 0 by rw [hz1]; decide), eq_false (show ¬ what = 1 by rw [hz1]; decide), eq_false (show ¬ what = 2 by rw [hz1]; decide), eq_false (show ¬ what = 4 by rw [hz1]; decide), eq_false (show ¬ what = 5 by rw [hz1]; decide)])
  · skip
    refine w_tableIn (t := 65) (off := 64) dX7_now_1 (by rw [hz1]; decide) (by rw [hz1]; decide) (by rw [hz1]; rfl) (by decide) ?_
    refine w_aload_n dX7_now_65 rfl ?_
    refine w_getR (t := 51) dX7_now_66 fl_X7_7 rfl (by decide) (by decide) rfl ?_
    refine w_bipush dX7_now_69 bp_6 ?_
    refine w_iald (j := 6) dX7_now_71 rfl (by decide) rfl (by decide) ?_
    refine w_iret dX7_now_72 rfl ?_
    try simp only [setR_51, setR_setR, wI_51]
    first
    | exact PQ.fnd (by simp only [M_now, obs_1, hnR, if_true, if_false, eq_true hz1, eq_false (show ¬ what = 0 by rw [hz1]; decide), eq_false (show ¬ what = 1 by rw [hz1]; decide), eq_false (show ¬ what = 2 by rw [hz1]; decide), eq_false (show ¬ what = 3 by rw [hz1]; decide), eq_false (show ¬ what = 5 by rw [hz1]; decide)])
    | exact PQ.same (by simp only [M_now, obs_1, hnR, if_true, if_false, eq_true hz1, eq_false (show ¬ what = 0 by rw [hz1]; decide), eq_false (show ¬ what = 1 by rw [hz1]; decide), eq_false (show ¬ what = 2 by rw [hz1]; decide), eq_false (show ¬ what = 3 by rw [hz1]; decide), eq_false (show ¬ what = 5 by rw [hz1]; decide)])
    | exact PQ.row (by simp only [M_now, obs_1, hnR, if_true, if_false, eq_true hz1, eq_false (show ¬ what = 0 by rw [hz1]; decide), eq_false (show ¬ what = 1 by rw [hz1]; decide), eq_false (show ¬ what = 2 by rw [hz1]; decide), eq_false (show ¬ what = 3 by rw [hz1]; decide), eq_false (show ¬ what = 5 by rw [hz1]; decide)])
  · skip
    refine w_tableIn (t := 73) (off := 72) dX7_now_1 (by rw [hz1]; decide) (by rw [hz1]; decide) (by rw [hz1]; rfl) (by decide) ?_
    refine w_aload_n dX7_now_73 rfl ?_
    refine w_callVi dX7_now_74 ml_X7_123 mv_X7_paidOnes rfl rfl (by decide) rfl (e7_paidOnes G _ n hn h8) rfl rfl (Nat.le_of_ble_eq_true rfl) ?_
    try simp only [wI_51, setR_setR, setR_51]
    refine w_iret dX7_now_77 rfl ?_
    try simp only [setR_51, setR_setR, wI_51]
    first
    | exact PQ.fnd (by simp only [M_now, obs_1, hnR, if_true, if_false, eq_true hz1, eq_false (show ¬ what = 0 by rw [hz1]; decide), eq_false (show ¬ what = 1 by rw [hz1]; decide), eq_false (show ¬ what = 2 by rw [hz1]; decide), eq_false (show ¬ what = 3 by rw [hz1]; decide), eq_false (show ¬ what = 4 by rw [hz1]; decide)])
    | exact PQ.same (by simp only [M_now, obs_1, hnR, if_true, if_false, eq_true hz1, eq_false (show ¬ what = 0 by rw [hz1]; decide), eq_false (show ¬ what = 1 by rw [hz1]; decide), eq_false (show ¬ what = 2 by rw [hz1]; decide), eq_false (show ¬ what = 3 by rw [hz1]; decide), eq_false (show ¬ what = 4 by rw [hz1]; decide)])
    | exact PQ.row (by simp only [M_now, obs_1, hnR, if_true, if_false, eq_true hz1, eq_false (show ¬ what = 0 by rw [hz1]; decide), eq_false (show ¬ what = 1 by rw [hz1]; decide), eq_false (show ¬ what = 2 by rw [hz1]; decide), eq_false (show ¬ what = 3 by rw [hz1]; decide), eq_false (show ¬ what = 4 by rw [hz1]; decide)])
  · skip
    refine w_tableOut (t := 78) dX7_now_1 hz1.1 (by decide) ?_
    refine w_aload_n dX7_now_78 rfl ?_
    refine w_ldc dX7_now_79 kc_X7_44 ?_
    refine w_callVi dX7_now_81 ml_X7_53 mv_X7_finds rfl rfl (by decide) rfl (e7_finds G _ _ 0 (by decide) (by decide)) rfl rfl (Nat.le_of_ble_eq_true rfl) ?_
    try simp only [wI_51, setR_setR, setR_51]
    refine w_iret dX7_now_84 rfl ?_
    try simp only [setR_51, setR_setR, wI_51]
    first
    | exact PQ.fnd (by simp only [M_now, obs_1, hnR, if_true, if_false, eq_false hz1.2.1, eq_false hz1.2.2.1, eq_false hz1.2.2.2.1, eq_false hz1.2.2.2.2.1, eq_false hz1.2.2.2.2.2.1, eq_false hz1.2.2.2.2.2.2])
    | exact PQ.same (by simp only [M_now, obs_1, hnR, if_true, if_false, eq_false hz1.2.1, eq_false hz1.2.2.1, eq_false hz1.2.2.2.1, eq_false hz1.2.2.2.2.1, eq_false hz1.2.2.2.2.2.1, eq_false hz1.2.2.2.2.2.2])
    | exact PQ.row (by simp only [M_now, obs_1, hnR, if_true, if_false, eq_false hz1.2.1, eq_false hz1.2.2.1, eq_false hz1.2.2.2.1, eq_false hz1.2.2.2.2.1, eq_false hz1.2.2.2.2.2.1, eq_false hz1.2.2.2.2.2.2])
set_option maxRecDepth 100000 in
set_option maxHeartbeats 4000000 in
theorem m_struck (G : GT) (σ : Sg) (place : Int32) (n : Nat) (hn : σ.1 51 8 = nI n) (h8 : n ≤ 8) : Ev G mX7_struck [.ref 50, .int place] σ (PQ σ (M_struck (obs σ) place)) := by
  have hnR := nR_of hn h8
  refine Ev.ofL (m := 0) (L := [some (.ref 50), some (.int place)]) rfl (Nat.le_of_ble_eq_true rfl) rfl rfl ?_
  refine w_iload_n dX7_struck_0 rfl ?_
  refine w_callSi dX7_struck_1 ml_X7_49 ms_X7_isPlace rfl (e7_isPlace G _ _) rfl rfl (Nat.le_of_ble_eq_true rfl) ?_
  try simp only [wI_51, setR_setR, setR_51]
  refine w_if_eq (t := 15) dX7_struck_4 (by decide) (fun hz1 => ?_) (fun hz1 => ?_)
  · skip
    refine w_aload_n dX7_struck_15 rfl ?_
    refine w_ldc dX7_struck_16 kc_X7_44 ?_
    refine w_callVi dX7_struck_18 ml_X7_53 mv_X7_finds rfl rfl (by decide) rfl (e7_finds G _ _ 0 (by decide) (by decide)) rfl rfl (Nat.le_of_ble_eq_true rfl) ?_
    try simp only [wI_51, setR_setR, setR_51]
    refine w_iret dX7_struck_21 rfl ?_
    try simp only [setR_51, setR_setR, wI_51]
    first
    | exact PQ.fnd (by simp only [M_struck, obs_1, hnR, if_true, if_false, eq_true hz1])
    | exact PQ.same (by simp only [M_struck, obs_1, hnR, if_true, if_false, eq_true hz1])
    | exact PQ.row (by simp only [M_struck, obs_1, hnR, if_true, if_false, eq_true hz1])
  · skip
    refine w_aload_n dX7_struck_7 rfl ?_
    refine w_iload_n dX7_struck_8 rfl ?_
    refine w_callVi dX7_struck_9 ml_X7_101 mv_X7_struckAt rfl rfl (by decide) rfl (e7_struckAt G _ _ n hn h8) rfl rfl (Nat.le_of_ble_eq_true rfl) ?_
    try simp only [wI_51, setR_setR, setR_51]
    refine w_goto (t := 21) dX7_struck_12 (by decide) ?_
    refine w_iret dX7_struck_21 rfl ?_
    try simp only [setR_51, setR_setR, wI_51]
    first
    | exact PQ.fnd (by simp only [M_struck, obs_1, hnR, if_true, if_false, eq_false hz1])
    | exact PQ.same (by simp only [M_struck, obs_1, hnR, if_true, if_false, eq_false hz1])
    | exact PQ.row (by simp only [M_struck, obs_1, hnR, if_true, if_false, eq_false hz1])
theorem p_draw_ge (f : Nat → Int32) {j : Nat} (h : 8 ≤ j) : p_draw f j = f j := by
  simp only [p_draw]
  rw [updN (by omega), updN (by omega)]
theorem p_days_8 (f : Nat → Int32) (n : Nat) : ∀ i, p_days f n i 8 = f 8
  | 0 => rfl
  | i + 1 => by rw [p_days, p_pass_8, p_draw_ge _ (by decide), p_days_8 f n i]
set_option maxRecDepth 100000 in
set_option maxHeartbeats 4000000 in
theorem m_days (G : GT) (σ : Sg) (q : Int32) (n : Nat) (hn : σ.1 51 8 = nI n) (h8 : n ≤ 8) : Ev G mX7_days [.ref 50, .int q] σ (PQ σ (M_days (obs σ) q)) := by
  have hnR := nR_of hn h8
  refine Ev.ofL (m := 1) (L := [some (.ref 50), some (.int q), none]) rfl (Nat.le_of_ble_eq_true rfl) rfl rfl ?_
  refine w_iload_n dX7_days_0 rfl ?_
  refine w_iconst dX7_days_1 ic_1 ?_
  refine w_iconst dX7_days_2 ic_4 ?_
  refine w_callSi dX7_days_3 ml_X7_45 ms_X7_in rfl (e7_in G _ _ _ _) rfl rfl (Nat.le_of_ble_eq_true rfl) ?_
  try simp only [wI_51, setR_setR, setR_51]
  refine w_if_ne (t := 16) dX7_days_6 (by decide) (fun hz1 => ?_) (fun hz1 => ?_)
  · skip
    refine w_aload_n dX7_days_16 rfl ?_
    refine w_getR (t := 51) dX7_days_17 fl_X7_7 rfl (by decide) (by decide) rfl ?_
    refine w_iconst dX7_days_20 ic_5 ?_
    refine w_iald (j := 5) dX7_days_21 rfl (by decide) rfl (by decide) ?_
    refine w_bipush dX7_days_22 bp_24 ?_
    refine w_iload_n dX7_days_24 rfl ?_
    refine w_imul dX7_days_25 ?_
    refine w_iadd dX7_days_26 ?_
    refine w_sipush dX7_days_27 sp_9999 ?_
    refine w2_icmp_le (t := 40) dX7_days_30 (by decide) (fun hz2 => ?_) (fun hz2 => ?_)
    · skip
      obtain ⟨j, hj, rfl⟩ := in_0 (m := 4) (in_low hz1 (by decide)) rfl (by decide)
      have hcj : (nI j).toNatClampNeg = j := nI_clamp (by omega)
      · skip
        refine w_iconst dX7_days_40 ic_0 ?_
        refine w_istore_n dX7_days_41 (by decide) rfl rfl ?_
        dsimp only [List.set]
        have lp : ∀ (m : Nat) (i : Nat), j - i < m → i ≤ j → WP G mX7_days 42 [some (.ref 50), some (.int (nI j)), some (.int (nI i))] [] (setR σ (p_days (σ.1 51) n i)) (PQ σ (M_days (obs σ) (nI j))) := by
          intro m
          induction m with
          | zero => intro i hm; exact absurd hm (Nat.not_lt_zero _)
          | succ m ih =>
            intro i hm hi
            refine w_iload_n dX7_days_42 rfl ?_
            refine w_iload_n dX7_days_43 rfl ?_
            refine w2_icmp_ge (t := 100) dX7_days_44 (by decide) (fun hz3 => ?_) (fun hz3 => ?_)
            · skip
              have hge := nlt_nI (by omega) (by omega) hz3
              have hen : i = j := by omega
              subst hen
              refine w_aload_n dX7_days_100 rfl ?_
              refine w_iconst dX7_days_101 ic_5 ?_
              refine w_callVi dX7_days_102 ml_X7_119 mv_X7_sumOf rfl rfl (by decide) rfl (e7_sumOf G _ 5 (by decide) n (by rw [setR_51, p_days_8]; exact hn) h8) rfl rfl (Nat.le_of_ble_eq_true rfl) ?_
              try simp only [wI_51, setR_setR, setR_51]
              refine w_iret dX7_days_105 rfl ?_
              try simp only [setR_51, setR_setR, wI_51]
              first
              | exact PQ.fnd (by simp only [M_days, obs_1, hnR, if_true, if_false, eq_false hz1, eq_false hz2, eq_false hz3, hcj])
              | exact PQ.same (by simp only [M_days, obs_1, hnR, if_true, if_false, eq_false hz1, eq_false hz2, eq_false hz3, hcj])
              | exact PQ.row (by simp only [M_days, obs_1, hnR, if_true, if_false, eq_false hz1, eq_false hz2, eq_false hz3, hcj])
            · skip
              have hlt := lt_nI (by omega) (by omega) hz3
              refine w_aload_n dX7_days_47 rfl ?_
              refine w_getR (t := 51) dX7_days_48 fl_X7_7 rfl (by decide) (by decide) rfl ?_
              refine w_bipush dX7_days_51 bp_7 ?_
              refine w_aload_n dX7_days_53 rfl ?_
              refine w_getR (t := 51) dX7_days_54 fl_X7_7 rfl (by decide) (by decide) rfl ?_
              refine w_bipush dX7_days_57 bp_7 ?_
              refine w_iald (j := 7) dX7_days_59 rfl (by decide) rfl (by decide) ?_
              refine w_ldc dX7_days_60 kc_X7_122 ?_
              refine w_imul dX7_days_62 ?_
              refine w_sipush dX7_days_63 sp_12345 ?_
              refine w_iadd dX7_days_66 ?_
              refine w_iast (j := 7) dX7_days_67 rfl (by decide) rfl (by decide) ?_
              try simp only [wI_51, setR_setR, setR_51]
              refine w_aload_n dX7_days_68 rfl ?_
              refine w_getR (t := 51) dX7_days_69 fl_X7_7 rfl (by decide) (by decide) rfl ?_
              refine w_iconst dX7_days_72 ic_2 ?_
              refine w_aload_n dX7_days_73 rfl ?_
              refine w_getR (t := 51) dX7_days_74 fl_X7_7 rfl (by decide) (by decide) rfl ?_
              refine w_bipush dX7_days_77 bp_7 ?_
              refine w_iald (j := 7) dX7_days_79 rfl (by decide) rfl (by decide) ?_
              refine w_bipush dX7_days_80 bp_8 ?_
              refine w_iushr dX7_days_82 ?_
              refine w_iconst dX7_days_83 ic_3 ?_
              refine w_irem dX7_days_84 (by decide) ?_
              refine w_iconst dX7_days_85 ic_1 ?_
              refine w_isub dX7_days_86 ?_
              refine w_iast (j := 2) dX7_days_87 rfl (by decide) rfl (by decide) ?_
              try simp only [wI_51, setR_setR, setR_51]
              have e8 : p_draw (p_days (σ.1 51) n i) 8 = nI n := by rw [p_draw_ge _ (by decide), p_days_8]; exact hn
              refine w_aload_n dX7_days_88 rfl ?_
              refine w_bipush dX7_days_89 bp_24 ?_
              refine w_callVv dX7_days_91 ml_X7_116 mv_X7_passes rfl rfl (by decide) rfl (e7_passes G _ 24 (by decide) n (by rw [setR_51]; exact e8) h8) rfl rfl (Nat.le_of_ble_eq_true rfl) ?_
              try simp only [wI_51, setR_setR, setR_51]
              refine w_iincN (a := i) (b := 1) dX7_days_94 rfl ic_1 (by decide) rfl rfl ?_
              dsimp only [List.set]
              refine w_goto (t := 42) dX7_days_97 (by decide) ?_
              exact ih (i + 1) (by omega) (by omega)
        have q0 := lp (j + 1) 0 (by omega) (by omega)
        simp only [p_days, setR_self] at q0
        exact q0
    · skip
      refine w_aload_n dX7_days_33 rfl ?_
      refine w_ldc dX7_days_34 kc_X7_115 ?_
      refine w_callVi dX7_days_36 ml_X7_53 mv_X7_finds rfl rfl (by decide) rfl (e7_finds G _ _ 4 (by decide) (by decide)) rfl rfl (Nat.le_of_ble_eq_true rfl) ?_
      try simp only [wI_51, setR_setR, setR_51]
      refine w_iret dX7_days_39 rfl ?_
      try simp only [setR_51, setR_setR, wI_51]
      first
      | exact PQ.fnd (by simp only [M_days, obs_1, hnR, if_true, if_false, eq_false hz1, eq_true hz2])
      | exact PQ.same (by simp only [M_days, obs_1, hnR, if_true, if_false, eq_false hz1, eq_true hz2])
      | exact PQ.row (by simp only [M_days, obs_1, hnR, if_true, if_false, eq_false hz1, eq_true hz2])
  · skip
    refine w_aload_n dX7_days_9 rfl ?_
    refine w_ldc dX7_days_10 kc_X7_44 ?_
    refine w_callVi dX7_days_12 ml_X7_53 mv_X7_finds rfl rfl (by decide) rfl (e7_finds G _ _ 0 (by decide) (by decide)) rfl rfl (Nat.le_of_ble_eq_true rfl) ?_
    try simp only [wI_51, setR_setR, setR_51]
    refine w_iret dX7_days_15 rfl ?_
    try simp only [setR_51, setR_setR, wI_51]
    first
    | exact PQ.fnd (by simp only [M_days, obs_1, hnR, if_true, if_false, eq_true hz1])
    | exact PQ.same (by simp only [M_days, obs_1, hnR, if_true, if_false, eq_true hz1])
    | exact PQ.row (by simp only [M_days, obs_1, hnR, if_true, if_false, eq_true hz1])
set_option maxRecDepth 100000 in
set_option maxHeartbeats 4000000 in
theorem m_on (G : GT) (σ : Sg) (r q what : Int32) (n : Nat) (hn : σ.1 51 8 = nI n) (h8 : n ≤ 8) : Ev G mX7_on [.ref 50, .int r, .int q, .int what] σ (PQ σ (M_on (obs σ) r q what)) := by
  have hnR := nR_of hn h8
  refine Ev.ofL (m := 0) (L := [some (.ref 50), some (.int r), some (.int q), some (.int what)]) rfl (Nat.le_of_ble_eq_true rfl) rfl rfl ?_
  refine w_aload_n dX7_on_0 rfl ?_
  refine w_iload_n dX7_on_1 rfl ?_
  refine w_callVi dX7_on_2 ml_X7_87 mv_X7_isRod rfl rfl (by decide) rfl (e7_isRod G _ _) rfl rfl (Nat.le_of_ble_eq_true rfl) ?_
  try simp only [wI_51, setR_setR, setR_51]
  refine w_if_eq (t := 27) dX7_on_5 (by decide) (fun hz1 => ?_) (fun hz1 => ?_)
  · skip
    refine w_aload_n dX7_on_27 rfl ?_
    refine w_ldc dX7_on_28 kc_X7_44 ?_
    refine w_callVi dX7_on_30 ml_X7_53 mv_X7_finds rfl rfl (by decide) rfl (e7_finds G _ _ 0 (by decide) (by decide)) rfl rfl (Nat.le_of_ble_eq_true rfl) ?_
    try simp only [wI_51, setR_setR, setR_51]
    refine w_iret dX7_on_33 rfl ?_
    try simp only [setR_51, setR_setR, wI_51]
    first
    | exact PQ.fnd (by simp only [M_on, obs_1, hnR, if_true, if_false, eq_true hz1])
    | exact PQ.same (by simp only [M_on, obs_1, hnR, if_true, if_false, eq_true hz1])
    | exact PQ.row (by simp only [M_on, obs_1, hnR, if_true, if_false, eq_true hz1])
  · skip
    refine w_iload_n dX7_on_8 rfl ?_
    refine w_iconst dX7_on_9 ic_0 ?_
    refine w_bipush dX7_on_10 bp_100 ?_
    refine w_callSi dX7_on_12 ml_X7_45 ms_X7_in rfl (e7_in G _ _ _ _) rfl rfl (Nat.le_of_ble_eq_true rfl) ?_
    try simp only [wI_51, setR_setR, setR_51]
    refine w_if_eq (t := 27) dX7_on_15 (by decide) (fun hz2 => ?_) (fun hz2 => ?_)
    · skip
      refine w_aload_n dX7_on_27 rfl ?_
      refine w_ldc dX7_on_28 kc_X7_44 ?_
      refine w_callVi dX7_on_30 ml_X7_53 mv_X7_finds rfl rfl (by decide) rfl (e7_finds G _ _ 0 (by decide) (by decide)) rfl rfl (Nat.le_of_ble_eq_true rfl) ?_
      try simp only [wI_51, setR_setR, setR_51]
      refine w_iret dX7_on_33 rfl ?_
      try simp only [setR_51, setR_setR, wI_51]
      first
      | exact PQ.fnd (by simp only [M_on, obs_1, hnR, if_true, if_false, eq_false hz1, eq_true hz2])
      | exact PQ.same (by simp only [M_on, obs_1, hnR, if_true, if_false, eq_false hz1, eq_true hz2])
      | exact PQ.row (by simp only [M_on, obs_1, hnR, if_true, if_false, eq_false hz1, eq_true hz2])
    · skip
      refine w_iload_n dX7_on_18 rfl ?_
      refine w_iconst dX7_on_19 ic_0 ?_
      refine w_iconst dX7_on_20 ic_1 ?_
      refine w_callSi dX7_on_21 ml_X7_45 ms_X7_in rfl (e7_in G _ _ _ _) rfl rfl (Nat.le_of_ble_eq_true rfl) ?_
      try simp only [wI_51, setR_setR, setR_51]
      refine w_if_ne (t := 34) dX7_on_24 (by decide) (fun hz3 => ?_) (fun hz3 => ?_)
      · skip
        obtain ⟨k, hk, rfl⟩ := rod_of hz1 hn h8
        have hck : (nI k).toNatClampNeg = k := nI_clamp (by omega)
        obtain ⟨j, hj, rfl⟩ := in_0 (m := 100) hz2 rfl (by decide)
        have hcj : (nI j).toNatClampNeg = j := nI_clamp (by omega)
        · skip
          refine w_aload_n dX7_on_34 rfl ?_
          refine w_iload_n dX7_on_35 rfl ?_
          refine w_iload_n dX7_on_36 rfl ?_
          refine w_iload_n dX7_on_37 rfl ?_
          refine w_if_ne (t := 45) dX7_on_38 (by decide) (fun hz4 => ?_) (fun hz4 => ?_)
          · skip
            refine w_bipush dX7_on_45 bp_6 ?_
            refine w_callVqi dX7_on_47 ml_X7_130 mv_X7_onOf rfl rfl (by decide) rfl (e7_onOf G _ k j 6 (by omega) (by omega) (by decide) n hn h8) rfl rfl (Nat.le_of_ble_eq_true rfl) (fun τ hq => ?_)
            try simp only [wI_51, setR_setR, setR_51]
            refine w_iret dX7_on_50 rfl ?_
            exact PQ.mq (by simp only [M_on, obs_1, hnR, hck, hcj, if_true, if_false, eq_false hz1, eq_false hz2, eq_false hz3, eq_false hz4]) hq.mq
          · skip
            refine w_iconst dX7_on_41 ic_5 ?_
            refine w_goto (t := 47) dX7_on_42 (by decide) ?_
            refine w_callVqi dX7_on_47 ml_X7_130 mv_X7_onOf rfl rfl (by decide) rfl (e7_onOf G _ k j 5 (by omega) (by omega) (by decide) n hn h8) rfl rfl (Nat.le_of_ble_eq_true rfl) (fun τ hq => ?_)
            try simp only [wI_51, setR_setR, setR_51]
            refine w_iret dX7_on_50 rfl ?_
            exact PQ.mq (by simp only [M_on, obs_1, hnR, hck, hcj, if_true, if_false, eq_false hz1, eq_false hz2, eq_false hz3, eq_true hz4]) hq.mq
      · skip
        refine w_aload_n dX7_on_27 rfl ?_
        refine w_ldc dX7_on_28 kc_X7_44 ?_
        refine w_callVi dX7_on_30 ml_X7_53 mv_X7_finds rfl rfl (by decide) rfl (e7_finds G _ _ 0 (by decide) (by decide)) rfl rfl (Nat.le_of_ble_eq_true rfl) ?_
        try simp only [wI_51, setR_setR, setR_51]
        refine w_iret dX7_on_33 rfl ?_
        try simp only [setR_51, setR_setR, wI_51]
        first
        | exact PQ.fnd (by simp only [M_on, obs_1, hnR, if_true, if_false, eq_false hz1, eq_false hz2, eq_true hz3])
        | exact PQ.same (by simp only [M_on, obs_1, hnR, if_true, if_false, eq_false hz1, eq_false hz2, eq_true hz3])
        | exact PQ.row (by simp only [M_on, obs_1, hnR, if_true, if_false, eq_false hz1, eq_false hz2, eq_true hz3])
set_option maxRecDepth 100000 in
set_option maxHeartbeats 4000000 in
theorem m_next (G : GT) (σ : Sg) (what : Int32) (n : Nat) (hn : σ.1 51 8 = nI n) (h8 : n ≤ 8) : Ev G mX7_next [.ref 50, .int what] σ (PQ σ (M_next (obs σ) what)) := by
  have hnR := nR_of hn h8
  refine Ev.ofL (m := 0) (L := [some (.ref 50), some (.int what)]) rfl (Nat.le_of_ble_eq_true rfl) rfl rfl ?_
  refine w_iload_n dX7_next_0 rfl ?_
  refine w_iconst dX7_next_1 ic_0 ?_
  refine w_iconst dX7_next_2 ic_3 ?_
  refine w_callSi dX7_next_3 ml_X7_45 ms_X7_in rfl (e7_in G _ _ _ _) rfl rfl (Nat.le_of_ble_eq_true rfl) ?_
  try simp only [wI_51, setR_setR, setR_51]
  refine w_if_ne (t := 16) dX7_next_6 (by decide) (fun hz1 => ?_) (fun hz1 => ?_)
  · skip
    refine w_aload_n dX7_next_16 rfl ?_
    refine w_callVqi dX7_next_17 ml_X7_146 mv_X7_findNext rfl rfl (by decide) rfl (e7_findNext G _ n hn h8) rfl rfl (Nat.le_of_ble_eq_true rfl) (fun τ hq => ?_)
    try simp only [wI_51, setR_setR, setR_51]
    refine w_if_ne (t := 30) dX7_next_20 (by decide) (fun hz2 => ?_) (fun hz2 => ?_)
    · skip
      refine w_iload_n dX7_next_30 rfl ?_
      refine w_if_ne (t := 41) dX7_next_31 (by decide) (fun hz3 => ?_) (fun hz3 => ?_)
      · skip
        refine w_iload_n dX7_next_41 rfl ?_
        refine w_iconst dX7_next_42 ic_1 ?_
        refine w_icmp_ne (t := 53) dX7_next_43 (by decide) (fun hz4 => ?_) (fun hz4 => ?_)
        · skip
          refine w_iload_n dX7_next_53 rfl ?_
          refine w_iconst dX7_next_54 ic_2 ?_
          refine w_icmp_ne (t := 65) dX7_next_55 (by decide) (fun hz5 => ?_) (fun hz5 => ?_)
          · skip
            refine w_aload_n dX7_next_65 rfl ?_
            refine w_getI dX7_next_66 fl_X7_143 rfl rfl ?_
            refine w_iret dX7_next_69 rfl ?_
            have e2 : p_nx (σ.1 51) n < 100 := Classical.byContradiction fun z => hz2 (by rw [if_neg z])
            first
            | (rw [hq.2.1]; exact PQ.mq (by simp only [M_next, obs_1, hnR, eq_false hz1, eq_true e2, if_true, if_false, eq_false hz3, eq_false hz4, eq_false hz5]) hq.1)
            | (rw [hq.2.2.1]; exact PQ.mq (by simp only [M_next, obs_1, hnR, eq_false hz1, eq_true e2, if_true, if_false, eq_false hz3, eq_false hz4, eq_false hz5]) hq.1)
            | (rw [hq.2.2.2.1]; exact PQ.mq (by simp only [M_next, obs_1, hnR, eq_false hz1, eq_true e2, if_true, if_false, eq_false hz3, eq_false hz4, eq_false hz5]) hq.1)
            | (rw [hq.2.2.2.2]; exact PQ.mq (by simp only [M_next, obs_1, hnR, eq_false hz1, eq_true e2, if_true, if_false, eq_false hz3, eq_false hz4, eq_false hz5]) hq.1)
          · skip
            refine w_aload_n dX7_next_58 rfl ?_
            refine w_getI dX7_next_59 fl_X7_140 rfl rfl ?_
            refine w_goto (t := 69) dX7_next_62 (by decide) ?_
            refine w_iret dX7_next_69 rfl ?_
            have e2 : p_nx (σ.1 51) n < 100 := Classical.byContradiction fun z => hz2 (by rw [if_neg z])
            first
            | (rw [hq.2.1]; exact PQ.mq (by simp only [M_next, obs_1, hnR, eq_false hz1, eq_true e2, if_true, if_false, eq_false hz3, eq_false hz4, eq_true hz5]) hq.1)
            | (rw [hq.2.2.1]; exact PQ.mq (by simp only [M_next, obs_1, hnR, eq_false hz1, eq_true e2, if_true, if_false, eq_false hz3, eq_false hz4, eq_true hz5]) hq.1)
            | (rw [hq.2.2.2.1]; exact PQ.mq (by simp only [M_next, obs_1, hnR, eq_false hz1, eq_true e2, if_true, if_false, eq_false hz3, eq_false hz4, eq_true hz5]) hq.1)
            | (rw [hq.2.2.2.2]; exact PQ.mq (by simp only [M_next, obs_1, hnR, eq_false hz1, eq_true e2, if_true, if_false, eq_false hz3, eq_false hz4, eq_true hz5]) hq.1)
        · skip
          refine w_aload_n dX7_next_46 rfl ?_
          refine w_getI dX7_next_47 fl_X7_137 rfl rfl ?_
          refine w_goto (t := 69) dX7_next_50 (by decide) ?_
          refine w_iret dX7_next_69 rfl ?_
          have e2 : p_nx (σ.1 51) n < 100 := Classical.byContradiction fun z => hz2 (by rw [if_neg z])
          first
          | (rw [hq.2.1]; exact PQ.mq (by simp only [M_next, obs_1, hnR, eq_false hz1, eq_true e2, if_true, if_false, eq_false hz3, eq_true hz4]) hq.1)
          | (rw [hq.2.2.1]; exact PQ.mq (by simp only [M_next, obs_1, hnR, eq_false hz1, eq_true e2, if_true, if_false, eq_false hz3, eq_true hz4]) hq.1)
          | (rw [hq.2.2.2.1]; exact PQ.mq (by simp only [M_next, obs_1, hnR, eq_false hz1, eq_true e2, if_true, if_false, eq_false hz3, eq_true hz4]) hq.1)
          | (rw [hq.2.2.2.2]; exact PQ.mq (by simp only [M_next, obs_1, hnR, eq_false hz1, eq_true e2, if_true, if_false, eq_false hz3, eq_true hz4]) hq.1)
      · skip
        refine w_aload_n dX7_next_34 rfl ?_
        refine w_getI dX7_next_35 fl_X7_133 rfl rfl ?_
        refine w_goto (t := 69) dX7_next_38 (by decide) ?_
        refine w_iret dX7_next_69 rfl ?_
        have e2 : p_nx (σ.1 51) n < 100 := Classical.byContradiction fun z => hz2 (by rw [if_neg z])
        first
        | (rw [hq.2.1]; exact PQ.mq (by simp only [M_next, obs_1, hnR, eq_false hz1, eq_true e2, if_true, if_false, eq_true hz3]) hq.1)
        | (rw [hq.2.2.1]; exact PQ.mq (by simp only [M_next, obs_1, hnR, eq_false hz1, eq_true e2, if_true, if_false, eq_true hz3]) hq.1)
        | (rw [hq.2.2.2.1]; exact PQ.mq (by simp only [M_next, obs_1, hnR, eq_false hz1, eq_true e2, if_true, if_false, eq_true hz3]) hq.1)
        | (rw [hq.2.2.2.2]; exact PQ.mq (by simp only [M_next, obs_1, hnR, eq_false hz1, eq_true e2, if_true, if_false, eq_true hz3]) hq.1)
    · skip
      refine w_aload_n dX7_next_23 rfl ?_
      refine w_ldc dX7_next_24 kc_X7_149 ?_
      refine w_callVi dX7_next_26 ml_X7_53 mv_X7_finds rfl rfl (by decide) rfl (e7_finds G _ _ 3 (by decide) (by decide)) rfl rfl (Nat.le_of_ble_eq_true rfl) ?_
      try simp only [wI_51, setR_setR, setR_51]
      refine w_iret dX7_next_29 rfl ?_
      have e2 : ¬ p_nx (σ.1 51) n < 100 := fun z => by
        have e := hz2
        rw [if_pos z] at e
        cases e
      exact PQ.mqf (by simp only [M_next, obs_1, hnR, eq_false hz1, eq_false e2, if_false]) hq.1
  · skip
    refine w_aload_n dX7_next_9 rfl ?_
    refine w_ldc dX7_next_10 kc_X7_44 ?_
    refine w_callVi dX7_next_12 ml_X7_53 mv_X7_finds rfl rfl (by decide) rfl (e7_finds G _ _ 0 (by decide) (by decide)) rfl rfl (Nat.le_of_ble_eq_true rfl) ?_
    try simp only [wI_51, setR_setR, setR_51]
    refine w_iret dX7_next_15 rfl ?_
    try simp only [setR_51, setR_setR, wI_51]
    first
    | exact PQ.fnd (by simp only [M_next, obs_1, hnR, if_true, if_false, eq_true hz1])
    | exact PQ.same (by simp only [M_next, obs_1, hnR, if_true, if_false, eq_true hz1])
    | exact PQ.row (by simp only [M_next, obs_1, hnR, if_true, if_false, eq_true hz1])
set_option maxRecDepth 100000 in
set_option maxHeartbeats 4000000 in
theorem m_reach (G : GT) (σ : Sg) (r : Int32) (n : Nat) (hn : σ.1 51 8 = nI n) (h8 : n ≤ 8) : Ev G mX7_reach [.ref 50, .int r] σ (PQ σ (M_reach (obs σ) r)) := by
  have hnR := nR_of hn h8
  refine Ev.ofL (m := 2) (L := [some (.ref 50), some (.int r), none, none]) rfl (Nat.le_of_ble_eq_true rfl) rfl rfl ?_
  refine w_aload_n dX7_reach_0 rfl ?_
  refine w_iload_n dX7_reach_1 rfl ?_
  refine w_callVi dX7_reach_2 ml_X7_87 mv_X7_isRod rfl rfl (by decide) rfl (e7_isRod G _ _) rfl rfl (Nat.le_of_ble_eq_true rfl) ?_
  try simp only [wI_51, setR_setR, setR_51]
  refine w_if_ne (t := 15) dX7_reach_5 (by decide) (fun hz1 => ?_) (fun hz1 => ?_)
  · skip
    obtain ⟨k, hk, rfl⟩ := rod_of hz1 hn h8
    have hck : (nI k).toNatClampNeg = k := nI_clamp (by omega)
    · skip
      refine w_iconst dX7_reach_15 ic_0 ?_
      refine w_istore_n dX7_reach_16 (by decide) rfl rfl ?_
      dsimp only [List.set]
      refine w_iconst dX7_reach_17 ic_0 ?_
      refine w_istore_n dX7_reach_18 (by decide) rfl rfl ?_
      dsimp only [List.set]
      have lp : ∀ (m : Nat) (i : Nat), 16 - i < m → i ≤ 16 → WP G mX7_reach 19 [some (.ref 50), some (.int (nI k)), some (.int (p_reach (σ.1 51) n k i)), some (.int (nI i))] [] (σ) (PQ σ (M_reach (obs σ) (nI k))) := by
        intro m
        induction m with
        | zero => intro i hm; exact absurd hm (Nat.not_lt_zero _)
        | succ m ih =>
          intro i hm hi
          refine w_iload_n dX7_reach_19 rfl ?_
          refine w_bipush dX7_reach_20 bp_16 ?_
          refine w2_icmp_ge (t := 50) dX7_reach_22 (by decide) (fun hz2 => ?_) (fun hz2 => ?_)
          · skip
            have hge := nlt_nI (n := 16) (by omega) (by decide) hz2
            have hen : i = 16 := by omega
            subst hen
            refine w_iload_n dX7_reach_50 rfl ?_
            refine w_iret dX7_reach_51 rfl ?_
            try simp only [setR_51, setR_setR, wI_51]
            first
            | exact PQ.fnd (by simp only [M_reach, obs_1, hnR, if_true, if_false, eq_false hz1, eq_false hz2, hck])
            | exact PQ.same (by simp only [M_reach, obs_1, hnR, if_true, if_false, eq_false hz1, eq_false hz2, hck])
            | exact PQ.row (by simp only [M_reach, obs_1, hnR, if_true, if_false, eq_false hz1, eq_false hz2, hck])
          · skip
            have hlt := lt_nI (n := 16) (by omega) (by decide) hz2
            refine w_iload_n dX7_reach_25 rfl ?_
            refine w_aload_n dX7_reach_26 rfl ?_
            refine w_iload_n dX7_reach_27 rfl ?_
            refine w_callVi dX7_reach_28 ml_X7_101 mv_X7_struckAt rfl rfl (by decide) rfl (e7_struckAt G _ _ n hn h8) rfl rfl (Nat.le_of_ble_eq_true rfl) ?_
            try simp only [wI_51, setR_setR, setR_51]
            refine w_iload_n dX7_reach_31 rfl ?_
            refine w_icmp_ne (t := 41) dX7_reach_32 (by decide) (fun hz3 => ?_) (fun hz3 => ?_)
            · skip
              refine w_iconst dX7_reach_41 ic_0 ?_
              have cc := hz3
              refine w_ior dX7_reach_42 ?_
              refine w_istore_n dX7_reach_43 (by decide) rfl rfl ?_
              dsimp only [List.set]
              refine w_iincN (a := i) (b := 1) dX7_reach_44 rfl ic_1 (by decide) rfl rfl ?_
              dsimp only [List.set]
              refine w_goto (t := 19) dX7_reach_47 (by decide) ?_
              have q0 := ih (i + 1) (by omega) (by omega)
              simp only [p_reach, cc, if_true, if_false] at q0
              exact q0
            · skip
              refine w_iconst dX7_reach_35 ic_1 ?_
              refine w_iload_n dX7_reach_36 rfl ?_
              refine w_ishl dX7_reach_37 ?_
              refine w_goto (t := 42) dX7_reach_38 (by decide) ?_
              have cc := hz3
              refine w_ior dX7_reach_42 ?_
              refine w_istore_n dX7_reach_43 (by decide) rfl rfl ?_
              dsimp only [List.set]
              refine w_iincN (a := i) (b := 1) dX7_reach_44 rfl ic_1 (by decide) rfl rfl ?_
              dsimp only [List.set]
              refine w_goto (t := 19) dX7_reach_47 (by decide) ?_
              have q0 := ih (i + 1) (by omega) (by omega)
              simp only [p_reach, cc, if_true, if_false] at q0
              exact q0
      exact lp 17 0 (by omega) (by omega)
  · skip
    refine w_aload_n dX7_reach_8 rfl ?_
    refine w_ldc dX7_reach_9 kc_X7_44 ?_
    refine w_callVi dX7_reach_11 ml_X7_53 mv_X7_finds rfl rfl (by decide) rfl (e7_finds G _ _ 0 (by decide) (by decide)) rfl rfl (Nat.le_of_ble_eq_true rfl) ?_
    try simp only [wI_51, setR_setR, setR_51]
    refine w_iret dX7_reach_14 rfl ?_
    try simp only [setR_51, setR_setR, wI_51]
    first
    | exact PQ.fnd (by simp only [M_reach, obs_1, hnR, if_true, if_false, eq_true hz1])
    | exact PQ.same (by simp only [M_reach, obs_1, hnR, if_true, if_false, eq_true hz1])
    | exact PQ.row (by simp only [M_reach, obs_1, hnR, if_true, if_false, eq_true hz1])
