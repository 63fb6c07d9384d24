set_option maxRecDepth 100000 in
set_option maxHeartbeats 4000000 in
theorem e7_in (G : GT) (σ : Sg) (v a b : Int32) : Evi G mX7_in [.int v, .int a, .int b] σ (p_in v a b) (σ) := by
  refine Ev.ofL (m := 0) (L := [some (.int v), some (.int a), some (.int b)]) rfl (Nat.le_of_ble_eq_true rfl) rfl rfl ?_
  refine w_iload_n dX7_in_0 rfl ?_
  refine w_iload_n dX7_in_1 rfl ?_
  refine w_icmp_lt (t := 14) dX7_in_2 (by decide) (fun hz1 => ?_) (fun hz1 => ?_)
  · skip
    refine w_iconst dX7_in_14 ic_0 ?_
    refine w_zret dX7_in_15 rfl rfl ?_
    exact ⟨by simp [p_in, hz1], rfl⟩
  · skip
    refine w_iload_n dX7_in_5 rfl ?_
    refine w_iload_n dX7_in_6 rfl ?_
    refine w_icmp_gt (t := 14) dX7_in_7 (by decide) (fun hz2 => ?_) (fun hz2 => ?_)
    · skip
      refine w_iconst dX7_in_14 ic_0 ?_
      refine w_zret dX7_in_15 rfl rfl ?_
      exact ⟨by simp [p_in, hz1, hz2], rfl⟩
    · skip
      refine w_iconst dX7_in_10 ic_1 ?_
      refine w_goto (t := 15) dX7_in_11 (by decide) ?_
      refine w_zret dX7_in_15 rfl rfl ?_
      exact ⟨by simp [p_in, hz1, hz2], rfl⟩
set_option maxRecDepth 100000 in
set_option maxHeartbeats 4000000 in
theorem e7_held (G : GT) (σ : Sg) (v a b : Int32) : Evi G mX7_held [.int v, .int a, .int b] σ (p_held v a b) (σ) := by
  refine Ev.ofL (m := 0) (L := [some (.int v), some (.int a), some (.int b)]) rfl (Nat.le_of_ble_eq_true rfl) rfl rfl ?_
  refine w_iload_n dX7_held_0 rfl ?_
  refine w_iload_n dX7_held_1 rfl ?_
  refine w2_icmp_ge (t := 9) dX7_held_2 (by decide) (fun hz1 => ?_) (fun hz1 => ?_)
  · skip
    refine w_iload_n dX7_held_9 rfl ?_
    refine w_iload_n dX7_held_10 rfl ?_
    refine w2_icmp_le (t := 18) dX7_held_11 (by decide) (fun hz2 => ?_) (fun hz2 => ?_)
    · skip
      refine w_iload_n dX7_held_18 rfl ?_
      refine w_iret dX7_held_19 rfl ?_
      exact ⟨by simp [p_held, hz1, hz2], rfl⟩
    · skip
      refine w_iload_n dX7_held_14 rfl ?_
      refine w_goto (t := 19) dX7_held_15 (by decide) ?_
      refine w_iret dX7_held_19 rfl ?_
      exact ⟨by simp [p_held, hz1, hz2], rfl⟩
  · skip
    refine w_iload_n dX7_held_5 rfl ?_
    refine w_goto (t := 19) dX7_held_6 (by decide) ?_
    refine w_iret dX7_held_19 rfl ?_
    exact ⟨by simp [p_held, hz1], rfl⟩
set_option maxRecDepth 100000 in
set_option maxHeartbeats 4000000 in
theorem e7_its (G : GT) (σ : Sg) (k w : Nat) (hk : k < 8) (hw : w < 7) : Evi G mX7_its [.ref 50, .int (nI k), .int (nI w)] σ (σ.1 51 (9 + 7 * k + w)) (σ) := by
  refine Ev.ofL (m := 0) (L := [some (.ref 50), some (.int (nI k)), some (.int (nI w))]) rfl (Nat.le_of_ble_eq_true rfl) rfl rfl ?_
  refine w_aload_n dX7_its_0 rfl ?_
  refine w_getR (t := 51) dX7_its_1 fl_X7_7 rfl (by decide) (by decide) rfl ?_
  refine w_bipush dX7_its_4 bp_9 ?_
  refine w_bipush dX7_its_6 bp_7 ?_
  refine w_iload_n dX7_its_8 rfl ?_
  refine w_imulN (a := 7) (b := k) dX7_its_9 ?_
  refine w_iaddN (a := 9) (b := 7 * k) dX7_its_10 ?_
  refine w_iload_n dX7_its_11 rfl ?_
  refine w_iaddN (a := 9 + 7 * k) (b := w) dX7_its_12 ?_
  refine w_iald (j := 9 + 7 * k + w) dX7_its_13 rfl (by decide) rfl (show 9 + 7 * k + w < 65 by omega) ?_
  refine w_iret dX7_its_14 rfl ?_
  exact ⟨rfl, rfl⟩
set_option maxRecDepth 100000 in
set_option maxHeartbeats 4000000 in
theorem e7_puts (G : GT) (σ : Sg) (k w : Nat) (v : Int32) (hk : k < 8) (hw : w < 7) : Evv G mX7_puts [.ref 50, .int (nI k), .int (nI w), .int v] σ (setR σ (upd (σ.1 51) (9 + 7 * k + w) v)) := by
  refine Ev.ofL (m := 0) (L := [some (.ref 50), some (.int (nI k)), some (.int (nI w)), some (.int v)]) rfl (Nat.le_of_ble_eq_true rfl) rfl rfl ?_
  refine w_aload_n dX7_puts_0 rfl ?_
  refine w_getR (t := 51) dX7_puts_1 fl_X7_7 rfl (by decide) (by decide) rfl ?_
  refine w_bipush dX7_puts_4 bp_9 ?_
  refine w_bipush dX7_puts_6 bp_7 ?_
  refine w_iload_n dX7_puts_8 rfl ?_
  refine w_imulN (a := 7) (b := k) dX7_puts_9 ?_
  refine w_iaddN (a := 9) (b := 7 * k) dX7_puts_10 ?_
  refine w_iload_n dX7_puts_11 rfl ?_
  refine w_iaddN (a := 9 + 7 * k) (b := w) dX7_puts_12 ?_
  refine w_iload_n dX7_puts_13 rfl ?_
  refine w_iast (j := 9 + 7 * k + w) dX7_puts_14 rfl (by decide) rfl (show 9 + 7 * k + w < 65 by omega) ?_
  refine w_vret dX7_puts_15 rfl ?_
  exact ⟨rfl, wI_51 _ _ _⟩
theorem e7_its0 (G : GT) (σ : Sg) (k : Nat) (hk : k < 8) : Evi G mX7_its [.ref 50, .int (nI k), .int 0] σ (σ.1 51 (9 + 7 * k)) σ := e7_its G σ k 0 hk (by omega)
theorem e7_puts0 (G : GT) (σ : Sg) (k : Nat) (v : Int32) (hk : k < 8) : Evv G mX7_puts [.ref 50, .int (nI k), .int 0, .int v] σ (setR σ (upd (σ.1 51) (9 + 7 * k) v)) := e7_puts G σ k 0 v hk (by omega)
theorem p_in_z (v a b : Int32) : narrow .boolean (.int (p_in v a b)) = .int (p_in v a b) := by
  unfold p_in
  split
  · rfl
  · split <;> rfl
set_option maxRecDepth 100000 in
set_option maxHeartbeats 4000000 in
theorem e7_isRod (G : GT) (σ : Sg) (r : Int32) : Evi G mX7_isRod [.ref 50, .int r] σ (p_in r 0 (σ.1 51 8 - 1)) (σ) := by
  refine Ev.ofL (m := 0) (L := [some (.ref 50), some (.int r)]) rfl (Nat.le_of_ble_eq_true rfl) rfl rfl ?_
  refine w_iload_n dX7_isRod_0 rfl ?_
  refine w_iconst dX7_isRod_1 ic_0 ?_
  refine w_aload_n dX7_isRod_2 rfl ?_
  refine w_getR (t := 51) dX7_isRod_3 fl_X7_7 rfl (by decide) (by decide) rfl ?_
  refine w_bipush dX7_isRod_6 bp_8 ?_
  refine w_iald (j := 8) dX7_isRod_8 rfl (by decide) rfl (by decide) ?_
  refine w_iconst dX7_isRod_9 ic_1 ?_
  refine w_isub dX7_isRod_10 ?_
  refine w_callSi dX7_isRod_11 ml_X7_45 ms_X7_in rfl (e7_in G _ _ _ _) rfl rfl (Nat.le_of_ble_eq_true rfl) ?_
  refine w_zret dX7_isRod_14 rfl (p_in_z _ _ _) ?_
  exact ⟨rfl, rfl⟩
set_option maxRecDepth 100000 in
set_option maxHeartbeats 4000000 in
theorem e7_isPlace (G : GT) (σ : Sg) (r : Int32) : Evi G mX7_isPlace [.int r] σ (p_in r 0 15) (σ) := by
  refine Ev.ofL (m := 0) (L := [some (.int r)]) rfl (Nat.le_of_ble_eq_true rfl) rfl rfl ?_
  refine w_iload_n dX7_isPlace_0 rfl ?_
  refine w_iconst dX7_isPlace_1 ic_0 ?_
  refine w_bipush dX7_isPlace_2 bp_15 ?_
  refine w_callSi dX7_isPlace_4 ml_X7_45 ms_X7_in rfl (e7_in G _ _ _ _) rfl rfl (Nat.le_of_ble_eq_true rfl) ?_
  refine w_zret dX7_isPlace_7 rfl (p_in_z _ _ _) ?_
  exact ⟨rfl, rfl⟩
set_option maxRecDepth 100000 in
set_option maxHeartbeats 4000000 in
theorem e7_isKind (G : GT) (σ : Sg) (r : Int32) : Evi G mX7_isKind [.int r] σ (p_in r 0 5) (σ) := by
  refine Ev.ofL (m := 0) (L := [some (.int r)]) rfl (Nat.le_of_ble_eq_true rfl) rfl rfl ?_
  refine w_iload_n dX7_isKind_0 rfl ?_
  refine w_iconst dX7_isKind_1 ic_0 ?_
  refine w_iconst dX7_isKind_2 ic_5 ?_
  refine w_callSi dX7_isKind_3 ml_X7_45 ms_X7_in rfl (e7_in G _ _ _ _) rfl rfl (Nat.le_of_ble_eq_true rfl) ?_
  refine w_zret dX7_isKind_6 rfl (p_in_z _ _ _) ?_
  exact ⟨rfl, rfl⟩
set_option maxRecDepth 100000 in
set_option maxHeartbeats 4000000 in
theorem e7_isSheet (G : GT) (σ : Sg) (r : Int32) : Evi G mX7_isSheet [.int r] σ (p_in r 0 3) (σ) := by
  refine Ev.ofL (m := 0) (L := [some (.int r)]) rfl (Nat.le_of_ble_eq_true rfl) rfl rfl ?_
  refine w_iload_n dX7_isSheet_0 rfl ?_
  refine w_iconst dX7_isSheet_1 ic_0 ?_
  refine w_iconst dX7_isSheet_2 ic_3 ?_
  refine w_callSi dX7_isSheet_3 ml_X7_45 ms_X7_in rfl (e7_in G _ _ _ _) rfl rfl (Nat.le_of_ble_eq_true rfl) ?_
  refine w_zret dX7_isSheet_6 rfl (p_in_z _ _ _) ?_
  exact ⟨rfl, rfl⟩
set_option maxRecDepth 100000 in
set_option maxHeartbeats 4000000 in
theorem e7_draws (G : GT) (σ : Sg) (k : Nat) (c : Int32) (hk : k < 8) : Evi G mX7_draws [.ref 50, .int (nI k), .int c] σ (p_draws (σ.1 51) k c) (σ) := by
  refine Ev.ofL (m := 3) (L := [some (.ref 50), some (.int (nI k)), some (.int c), none, none, none]) rfl (Nat.le_of_ble_eq_true rfl) rfl rfl ?_
  refine w_aload_n dX7_draws_0 rfl ?_
  refine w_iload_n dX7_draws_1 rfl ?_
  refine w_iconst dX7_draws_2 ic_1 ?_
  refine w_callVi dX7_draws_3 ml_X7_69 mv_X7_its rfl rfl (by decide) rfl (e7_its G _ (k) (1) (by omega) (by omega)) rfl rfl (Nat.le_of_ble_eq_true rfl) ?_
  refine w_iload_n dX7_draws_6 rfl ?_
  refine w2_icmp_ge (t := 21) dX7_draws_7 (by decide) (fun hz1 => ?_) (fun hz1 => ?_)
  · skip
    refine w_aload_n dX7_draws_21 rfl ?_
    refine w_iload_n dX7_draws_22 rfl ?_
    refine w_iconst dX7_draws_23 ic_1 ?_
    refine w_callVi dX7_draws_24 ml_X7_69 mv_X7_its rfl rfl (by decide) rfl (e7_its G _ (k) (1) (by omega) (by omega)) rfl rfl (Nat.le_of_ble_eq_true rfl) ?_
    refine w_iload_n dX7_draws_27 rfl ?_
    refine w_isub dX7_draws_28 ?_
    refine w_istore_n dX7_draws_29 (by decide) rfl rfl ?_
    dsimp only [List.set]
    refine w_aload_n dX7_draws_30 rfl ?_
    refine w_iload_n dX7_draws_31 rfl ?_
    refine w_iconst dX7_draws_32 ic_2 ?_
    refine w_callVi dX7_draws_33 ml_X7_69 mv_X7_its rfl rfl (by decide) rfl (e7_its G _ (k) (2) (by omega) (by omega)) rfl rfl (Nat.le_of_ble_eq_true rfl) ?_
    refine w_istore dX7_draws_36 (by decide) rfl rfl ?_
    dsimp only [List.set]
    refine w_iload dX7_draws_38 rfl ?_
    refine w_iconst dX7_draws_40 ic_4 ?_
    refine w_iload_n dX7_draws_41 rfl ?_
    refine w_imul dX7_draws_42 ?_
    refine w_isub dX7_draws_43 ?_
    refine w_iconst dX7_draws_44 ic_0 ?_
    refine w_bipush dX7_draws_45 bp_60 ?_
    refine w_callSi dX7_draws_47 ml_X7_73 ms_X7_held rfl (e7_held G _ _ _ _) rfl rfl (Nat.le_of_ble_eq_true rfl) ?_
    refine w_istore dX7_draws_50 (by decide) rfl rfl ?_
    dsimp only [List.set]
    refine w_aload_n dX7_draws_52 rfl ?_
    refine w_iload_n dX7_draws_53 rfl ?_
    refine w_iconst dX7_draws_54 ic_0 ?_
    refine w_callVi dX7_draws_55 ml_X7_69 mv_X7_its rfl rfl (by decide) rfl (e7_its0 G _ (k) (by omega)) rfl rfl (Nat.le_of_ble_eq_true rfl) ?_
    refine sw_1_5 (fun hz2 => ?_) (fun hz2 => ?_) (fun hz2 => ?_) (fun hz2 => ?_) (fun hz2 => ?_) (fun hz2 => ?_)
    · skip
      refine w_tableIn (t := 92) (off := 34) dX7_draws_58 (by rw [hz2]; decide) (by rw [hz2]; decide) (by rw [hz2]; rfl) (by decide) ?_
      refine w_iload dX7_draws_92 rfl ?_
      refine w_bipush dX7_draws_94 bp_8 ?_
      refine w_iadd dX7_draws_96 ?_
      refine w_iret dX7_draws_97 rfl ?_
      exact ⟨by simp [p_draws, hz1, hz2], rfl⟩
    · skip
      refine w_tableIn (t := 98) (off := 40) dX7_draws_58 (by rw [hz2]; decide) (by rw [hz2]; decide) (by rw [hz2]; rfl) (by decide) ?_
      refine w_iload dX7_draws_98 rfl ?_
      refine w_iload dX7_draws_100 rfl ?_
      refine w_iadd dX7_draws_102 ?_
      refine w_iret dX7_draws_103 rfl ?_
      exact ⟨by simp [p_draws, hz1, hz2], rfl⟩
    · skip
      refine w_tableIn (t := 104) (off := 46) dX7_draws_58 (by rw [hz2]; decide) (by rw [hz2]; decide) (by rw [hz2]; rfl) (by decide) ?_
      refine w_iload dX7_draws_104 rfl ?_
      refine w_iconst dX7_draws_106 ic_3 ?_
      refine w2_icmp_ge (t := 114) dX7_draws_107 (by decide) (fun hz3 => ?_) (fun hz3 => ?_)
      · skip
        refine w_iload dX7_draws_114 rfl ?_
        refine w_iconst dX7_draws_116 ic_3 ?_
        refine w_isub dX7_draws_117 ?_
        refine w_iret dX7_draws_118 rfl ?_
        exact ⟨by simp [p_draws, hz1, hz2, hz3], rfl⟩
      · skip
        refine w_iconst dX7_draws_110 ic_0 ?_
        refine w_goto (t := 118) dX7_draws_111 (by decide) ?_
        refine w_iret dX7_draws_118 rfl ?_
        exact ⟨by simp [p_draws, hz1, hz2, hz3], rfl⟩
    · skip
      refine w_tableIn (t := 119) (off := 61) dX7_draws_58 (by rw [hz2]; decide) (by rw [hz2]; decide) (by rw [hz2]; rfl) (by decide) ?_
      refine w_iload dX7_draws_119 rfl ?_
      refine w_bipush dX7_draws_121 bp_28 ?_
      refine w_iadd dX7_draws_123 ?_
      refine w_iret dX7_draws_124 rfl ?_
      exact ⟨by simp [p_draws, hz1, hz2], rfl⟩
    · skip
      refine w_tableIn (t := 125) (off := 67) dX7_draws_58 (by rw [hz2]; decide) (by rw [hz2]; decide) (by rw [hz2]; rfl) (by decide) ?_
      refine w_iload dX7_draws_125 rfl ?_
      refine w_iload dX7_draws_127 rfl ?_
      refine w_iadd dX7_draws_129 ?_
      refine w_bipush dX7_draws_130 bp_10 ?_
      refine w2_icmp_ge (t := 139) dX7_draws_132 (by decide) (fun hz4 => ?_) (fun hz4 => ?_)
      · skip
        refine w_iload dX7_draws_139 rfl ?_
        refine w_iload dX7_draws_141 rfl ?_
        refine w_iadd dX7_draws_143 ?_
        refine w_bipush dX7_draws_144 bp_10 ?_
        refine w_isub dX7_draws_146 ?_
        refine w_iret dX7_draws_147 rfl ?_
        exact ⟨by simp [p_draws, hz1, hz2, hz4], rfl⟩
      · skip
        refine w_iconst dX7_draws_135 ic_0 ?_
        refine w_goto (t := 147) dX7_draws_136 (by decide) ?_
        refine w_iret dX7_draws_147 rfl ?_
        exact ⟨by simp [p_draws, hz1, hz2, hz4], rfl⟩
    · skip
      refine w_tableOut (t := 148) dX7_draws_58 hz2.1 (by decide) ?_
      refine w_iload dX7_draws_148 rfl ?_
      refine w_iret dX7_draws_150 rfl ?_
      exact ⟨by simp [p_draws, hz1, hz2], rfl⟩
  · skip
    refine w_iload_n dX7_draws_10 rfl ?_
    refine w_aload_n dX7_draws_11 rfl ?_
    refine w_iload_n dX7_draws_12 rfl ?_
    refine w_iconst dX7_draws_13 ic_1 ?_
    refine w_callVi dX7_draws_14 ml_X7_69 mv_X7_its rfl rfl (by decide) rfl (e7_its G _ (k) (1) (by omega) (by omega)) rfl rfl (Nat.le_of_ble_eq_true rfl) ?_
    refine w_isub dX7_draws_17 ?_
    refine w_goto (t := 29) dX7_draws_18 (by decide) ?_
    refine w_istore_n dX7_draws_29 (by decide) rfl rfl ?_
    dsimp only [List.set]
    refine w_aload_n dX7_draws_30 rfl ?_
    refine w_iload_n dX7_draws_31 rfl ?_
    refine w_iconst dX7_draws_32 ic_2 ?_
    refine w_callVi dX7_draws_33 ml_X7_69 mv_X7_its rfl rfl (by decide) rfl (e7_its G _ (k) (2) (by omega) (by omega)) rfl rfl (Nat.le_of_ble_eq_true rfl) ?_
    refine w_istore dX7_draws_36 (by decide) rfl rfl ?_
    dsimp only [List.set]
    refine w_iload dX7_draws_38 rfl ?_
    refine w_iconst dX7_draws_40 ic_4 ?_
    refine w_iload_n dX7_draws_41 rfl ?_
    refine w_imul dX7_draws_42 ?_
    refine w_isub dX7_draws_43 ?_
    refine w_iconst dX7_draws_44 ic_0 ?_
    refine w_bipush dX7_draws_45 bp_60 ?_
    refine w_callSi dX7_draws_47 ml_X7_73 ms_X7_held rfl (e7_held G _ _ _ _) rfl rfl (Nat.le_of_ble_eq_true rfl) ?_
    refine w_istore dX7_draws_50 (by decide) rfl rfl ?_
    dsimp only [List.set]
    refine w_aload_n dX7_draws_52 rfl ?_
    refine w_iload_n dX7_draws_53 rfl ?_
    refine w_iconst dX7_draws_54 ic_0 ?_
    refine w_callVi dX7_draws_55 ml_X7_69 mv_X7_its rfl rfl (by decide) rfl (e7_its0 G _ (k) (by omega)) rfl rfl (Nat.le_of_ble_eq_true rfl) ?_
    refine sw_1_5 (fun hz5 => ?_) (fun hz5 => ?_) (fun hz5 => ?_) (fun hz5 => ?_) (fun hz5 => ?_) (fun hz5 => ?_)
    · skip
      refine w_tableIn (t := 92) (off := 34) dX7_draws_58 (by rw [hz5]; decide) (by rw [hz5]; decide) (by rw [hz5]; rfl) (by decide) ?_
      refine w_iload dX7_draws_92 rfl ?_
      refine w_bipush dX7_draws_94 bp_8 ?_
      refine w_iadd dX7_draws_96 ?_
      refine w_iret dX7_draws_97 rfl ?_
      exact ⟨by simp [p_draws, hz1, hz5], rfl⟩
    · skip
      refine w_tableIn (t := 98) (off := 40) dX7_draws_58 (by rw [hz5]; decide) (by rw [hz5]; decide) (by rw [hz5]; rfl) (by decide) ?_
      refine w_iload dX7_draws_98 rfl ?_
      refine w_iload dX7_draws_100 rfl ?_
      refine w_iadd dX7_draws_102 ?_
      refine w_iret dX7_draws_103 rfl ?_
      exact ⟨by simp [p_draws, hz1, hz5], rfl⟩
    · skip
      refine w_tableIn (t := 104) (off := 46) dX7_draws_58 (by rw [hz5]; decide) (by rw [hz5]; decide) (by rw [hz5]; rfl) (by decide) ?_
      refine w_iload dX7_draws_104 rfl ?_
      refine w_iconst dX7_draws_106 ic_3 ?_
      refine w2_icmp_ge (t := 114) dX7_draws_107 (by decide) (fun hz6 => ?_) (fun hz6 => ?_)
      · skip
        refine w_iload dX7_draws_114 rfl ?_
        refine w_iconst dX7_draws_116 ic_3 ?_
        refine w_isub dX7_draws_117 ?_
        refine w_iret dX7_draws_118 rfl ?_
        exact ⟨by simp [p_draws, hz1, hz5, hz6], rfl⟩
      · skip
        refine w_iconst dX7_draws_110 ic_0 ?_
        refine w_goto (t := 118) dX7_draws_111 (by decide) ?_
        refine w_iret dX7_draws_118 rfl ?_
        exact ⟨by simp [p_draws, hz1, hz5, hz6], rfl⟩
    · skip
      refine w_tableIn (t := 119) (off := 61) dX7_draws_58 (by rw [hz5]; decide) (by rw [hz5]; decide) (by rw [hz5]; rfl) (by decide) ?_
      refine w_iload dX7_draws_119 rfl ?_
      refine w_bipush dX7_draws_121 bp_28 ?_
      refine w_iadd dX7_draws_123 ?_
      refine w_iret dX7_draws_124 rfl ?_
      exact ⟨by simp [p_draws, hz1, hz5], rfl⟩
    · skip
      refine w_tableIn (t := 125) (off := 67) dX7_draws_58 (by rw [hz5]; decide) (by rw [hz5]; decide) (by rw [hz5]; rfl) (by decide) ?_
      refine w_iload dX7_draws_125 rfl ?_
      refine w_iload dX7_draws_127 rfl ?_
      refine w_iadd dX7_draws_129 ?_
      refine w_bipush dX7_draws_130 bp_10 ?_
      refine w2_icmp_ge (t := 139) dX7_draws_132 (by decide) (fun hz7 => ?_) (fun hz7 => ?_)
      · skip
        refine w_iload dX7_draws_139 rfl ?_
        refine w_iload dX7_draws_141 rfl ?_
        refine w_iadd dX7_draws_143 ?_
        refine w_bipush dX7_draws_144 bp_10 ?_
        refine w_isub dX7_draws_146 ?_
        refine w_iret dX7_draws_147 rfl ?_
        exact ⟨by simp [p_draws, hz1, hz5, hz7], rfl⟩
      · skip
        refine w_iconst dX7_draws_135 ic_0 ?_
        refine w_goto (t := 147) dX7_draws_136 (by decide) ?_
        refine w_iret dX7_draws_147 rfl ?_
        exact ⟨by simp [p_draws, hz1, hz5, hz7], rfl⟩
    · skip
      refine w_tableOut (t := 148) dX7_draws_58 hz5.1 (by decide) ?_
      refine w_iload dX7_draws_148 rfl ?_
      refine w_iret dX7_draws_150 rfl ?_
      exact ⟨by simp [p_draws, hz1, hz5], rfl⟩
set_option maxRecDepth 100000 in
set_option maxHeartbeats 4000000 in
theorem e7_clock (G : GT) (σ : Sg) : Evi G mX7_clock [.ref 50] σ (p_clock (σ.1 51)) (σ) := by
  refine Ev.ofL (m := 0) (L := [some (.ref 50)]) rfl (Nat.le_of_ble_eq_true rfl) rfl rfl ?_
  refine w_aload_n dX7_clock_0 rfl ?_
  refine w_getR (t := 51) dX7_clock_1 fl_X7_7 rfl (by decide) (by decide) rfl ?_
  refine w_iconst dX7_clock_4 ic_5 ?_
  refine w_iald (j := 5) dX7_clock_5 rfl (by decide) rfl (by decide) ?_
  refine w_bipush dX7_clock_6 bp_24 ?_
  refine w_irem dX7_clock_8 (by decide) ?_
  refine w_iret dX7_clock_9 rfl ?_
  exact ⟨rfl, rfl⟩
set_option maxRecDepth 100000 in
set_option maxHeartbeats 4000000 in
theorem e7_paidMany (G : GT) (σ : Sg) (k : Nat) (hk : k < 8) : Evi G mX7_paidMany [.ref 50, .int (nI k)] σ (p_paidMany (σ.1 51) k) (σ) := by
  refine Ev.ofL (m := 0) (L := [some (.ref 50), some (.int (nI k))]) rfl (Nat.le_of_ble_eq_true rfl) rfl rfl ?_
  refine w_aload_n dX7_paidMany_0 rfl ?_
  refine w_iload_n dX7_paidMany_1 rfl ?_
  refine w_iconst dX7_paidMany_2 ic_4 ?_
  refine w_callVi dX7_paidMany_3 ml_X7_69 mv_X7_its rfl rfl (by decide) rfl (e7_its G _ (k) (4) (by omega) (by omega)) rfl rfl (Nat.le_of_ble_eq_true rfl) ?_
  refine w_aload_n dX7_paidMany_6 rfl ?_
  refine w_iload_n dX7_paidMany_7 rfl ?_
  refine w_iconst dX7_paidMany_8 ic_3 ?_
  refine w_callVi dX7_paidMany_9 ml_X7_69 mv_X7_its rfl rfl (by decide) rfl (e7_its G _ (k) (3) (by omega) (by omega)) rfl rfl (Nat.le_of_ble_eq_true rfl) ?_
  refine w_isub dX7_paidMany_12 ?_
  refine w_bipush dX7_paidMany_13 bp_24 ?_
  refine w_iadd dX7_paidMany_15 ?_
  refine w_bipush dX7_paidMany_16 bp_24 ?_
  refine w_irem dX7_paidMany_18 (by decide) ?_
  refine w_iret dX7_paidMany_19 rfl ?_
  exact ⟨rfl, rfl⟩
set_option maxRecDepth 100000 in
set_option maxHeartbeats 4000000 in
theorem e7_isPaid (G : GT) (σ : Sg) (k : Nat) (hk : k < 8) : Evi G mX7_isPaid [.ref 50, .int (nI k)] σ (p_isPaid (σ.1 51) k) (σ) := by
  refine Ev.ofL (m := 0) (L := [some (.ref 50), some (.int (nI k))]) rfl (Nat.le_of_ble_eq_true rfl) rfl rfl ?_
  refine w_aload_n dX7_isPaid_0 rfl ?_
  refine w_callVi dX7_isPaid_1 ml_X7_77 mv_X7_clock rfl rfl (by decide) rfl (e7_clock G _) rfl rfl (Nat.le_of_ble_eq_true rfl) ?_
  refine w_aload_n dX7_isPaid_4 rfl ?_
  refine w_iload_n dX7_isPaid_5 rfl ?_
  refine w_iconst dX7_isPaid_6 ic_3 ?_
  refine w_callVi dX7_isPaid_7 ml_X7_69 mv_X7_its rfl rfl (by decide) rfl (e7_its G _ (k) (3) (by omega) (by omega)) rfl rfl (Nat.le_of_ble_eq_true rfl) ?_
  refine w_isub dX7_isPaid_10 ?_
  refine w_bipush dX7_isPaid_11 bp_24 ?_
  refine w_iadd dX7_isPaid_13 ?_
  refine w_bipush dX7_isPaid_14 bp_24 ?_
  refine w_irem dX7_isPaid_16 (by decide) ?_
  refine w_aload_n dX7_isPaid_17 rfl ?_
  refine w_iload_n dX7_isPaid_18 rfl ?_
  refine w_callVi dX7_isPaid_19 ml_X7_81 mv_X7_paidMany rfl rfl (by decide) rfl (e7_paidMany G _ (k) (by omega)) rfl rfl (Nat.le_of_ble_eq_true rfl) ?_
  refine w2_icmp_ge (t := 29) dX7_isPaid_22 (by decide) (fun hz1 => ?_) (fun hz1 => ?_)
  · skip
    refine w_iconst dX7_isPaid_29 ic_0 ?_
    refine w_zret dX7_isPaid_30 rfl rfl ?_
    exact ⟨by unfold p_isPaid; rw [if_neg hz1], rfl⟩
  · skip
    refine w_iconst dX7_isPaid_25 ic_1 ?_
    refine w_goto (t := 30) dX7_isPaid_26 (by decide) ?_
    refine w_zret dX7_isPaid_30 rfl rfl ?_
    exact ⟨by unfold p_isPaid; rw [if_pos hz1], rfl⟩
set_option maxRecDepth 100000 in
set_option maxHeartbeats 4000000 in
theorem e7_owes (G : GT) (σ : Sg) (k : Nat) (c : Int32) (hk : k < 8) : Evi G mX7_owes [.ref 50, .int (nI k), .int c] σ (p_owes (σ.1 51) k c) (σ) := by
  refine Ev.ofL (m := 1) (L := [some (.ref 50), some (.int (nI k)), some (.int c), none]) rfl (Nat.le_of_ble_eq_true rfl) rfl rfl ?_
  refine w_aload_n dX7_owes_0 rfl ?_
  refine w_iload_n dX7_owes_1 rfl ?_
  refine w_callVi dX7_owes_2 ml_X7_84 mv_X7_isPaid rfl rfl (by decide) rfl (e7_isPaid G _ (k) (by omega)) rfl rfl (Nat.le_of_ble_eq_true rfl) ?_
  refine w_if_eq (t := 12) dX7_owes_5 (by decide) (fun hz1 => ?_) (fun hz1 => ?_)
  · skip
    refine w_iconst dX7_owes_12 ic_0 ?_
    refine w_istore_n dX7_owes_13 (by decide) rfl rfl ?_
    dsimp only [List.set]
    refine w_aload_n dX7_owes_14 rfl ?_
    refine w_iload_n dX7_owes_15 rfl ?_
    refine w_iconst dX7_owes_16 ic_0 ?_
    refine w_callVi dX7_owes_17 ml_X7_69 mv_X7_its rfl rfl (by decide) rfl (e7_its0 G _ (k) (by omega)) rfl rfl (Nat.le_of_ble_eq_true rfl) ?_
    refine sw_1_5 (fun hz2 => ?_) (fun hz2 => ?_) (fun hz2 => ?_) (fun hz2 => ?_) (fun hz2 => ?_) (fun hz2 => ?_)
    · skip
      refine w_tableIn (t := 56) (off := 36) dX7_owes_20 (by rw [hz2]; decide) (by rw [hz2]; decide) (by rw [hz2]; rfl) (by decide) ?_
      refine w_iload_n dX7_owes_56 rfl ?_
      refine w_iload_n dX7_owes_57 rfl ?_
      refine w_bipush dX7_owes_58 bp_10 ?_
      refine w_idiv dX7_owes_60 (by decide) ?_
      refine w_isub dX7_owes_61 ?_
      refine w_iret dX7_owes_62 rfl ?_
      exact ⟨by simp [p_owes, hz1, hz2], rfl⟩
    · skip
      refine w_tableIn (t := 74) (off := 54) dX7_owes_20 (by rw [hz2]; decide) (by rw [hz2]; decide) (by rw [hz2]; rfl) (by decide) ?_
      refine w_iload_n dX7_owes_74 rfl ?_
      refine w_iret dX7_owes_75 rfl ?_
      exact ⟨by simp [p_owes, hz1, hz2], rfl⟩
    · skip
      refine w_tableIn (t := 72) (off := 52) dX7_owes_20 (by rw [hz2]; decide) (by rw [hz2]; decide) (by rw [hz2]; rfl) (by decide) ?_
      refine w_iconst dX7_owes_72 ic_0 ?_
      refine w_iret dX7_owes_73 rfl ?_
      exact ⟨by simp [p_owes, hz1, hz2], rfl⟩
    · skip
      refine w_tableIn (t := 63) (off := 43) dX7_owes_20 (by rw [hz2]; decide) (by rw [hz2]; decide) (by rw [hz2]; rfl) (by decide) ?_
      refine w_iload_n dX7_owes_63 rfl ?_
      refine w_iload_n dX7_owes_64 rfl ?_
      refine w_bipush dX7_owes_65 bp_10 ?_
      refine w_idiv dX7_owes_67 (by decide) ?_
      refine w_isub dX7_owes_68 ?_
      refine w_iconst dX7_owes_69 ic_2 ?_
      refine w_idiv dX7_owes_70 (by decide) ?_
      refine w_iret dX7_owes_71 rfl ?_
      exact ⟨by simp [p_owes, hz1, hz2], rfl⟩
    · skip
      refine w_tableIn (t := 72) (off := 52) dX7_owes_20 (by rw [hz2]; decide) (by rw [hz2]; decide) (by rw [hz2]; rfl) (by decide) ?_
      refine w_iconst dX7_owes_72 ic_0 ?_
      refine w_iret dX7_owes_73 rfl ?_
      exact ⟨by simp [p_owes, hz1, hz2], rfl⟩
    · skip
      refine w_tableOut (t := 74) dX7_owes_20 hz2.1 (by decide) ?_
      refine w_iload_n dX7_owes_74 rfl ?_
      refine w_iret dX7_owes_75 rfl ?_
      exact ⟨by simp [p_owes, hz1, hz2], rfl⟩
  · skip
    refine w_iload_n dX7_owes_8 rfl ?_
    refine w_goto (t := 13) dX7_owes_9 (by decide) ?_
    refine w_istore_n dX7_owes_13 (by decide) rfl rfl ?_
    dsimp only [List.set]
    refine w_aload_n dX7_owes_14 rfl ?_
    refine w_iload_n dX7_owes_15 rfl ?_
    refine w_iconst dX7_owes_16 ic_0 ?_
    refine w_callVi dX7_owes_17 ml_X7_69 mv_X7_its rfl rfl (by decide) rfl (e7_its0 G _ (k) (by omega)) rfl rfl (Nat.le_of_ble_eq_true rfl) ?_
    refine sw_1_5 (fun hz3 => ?_) (fun hz3 => ?_) (fun hz3 => ?_) (fun hz3 => ?_) (fun hz3 => ?_) (fun hz3 => ?_)
    · skip
      refine w_tableIn (t := 56) (off := 36) dX7_owes_20 (by rw [hz3]; decide) (by rw [hz3]; decide) (by rw [hz3]; rfl) (by decide) ?_
      refine w_iload_n dX7_owes_56 rfl ?_
      refine w_iload_n dX7_owes_57 rfl ?_
      refine w_bipush dX7_owes_58 bp_10 ?_
      refine w_idiv dX7_owes_60 (by decide) ?_
      refine w_isub dX7_owes_61 ?_
      refine w_iret dX7_owes_62 rfl ?_
      exact ⟨by simp [p_owes, hz1, hz3], rfl⟩
    · skip
      refine w_tableIn (t := 74) (off := 54) dX7_owes_20 (by rw [hz3]; decide) (by rw [hz3]; decide) (by rw [hz3]; rfl) (by decide) ?_
      refine w_iload_n dX7_owes_74 rfl ?_
      refine w_iret dX7_owes_75 rfl ?_
      exact ⟨by simp [p_owes, hz1, hz3], rfl⟩
    · skip
      refine w_tableIn (t := 72) (off := 52) dX7_owes_20 (by rw [hz3]; decide) (by rw [hz3]; decide) (by rw [hz3]; rfl) (by decide) ?_
      refine w_iconst dX7_owes_72 ic_0 ?_
      refine w_iret dX7_owes_73 rfl ?_
      exact ⟨by simp [p_owes, hz1, hz3], rfl⟩
    · skip
      refine w_tableIn (t := 63) (off := 43) dX7_owes_20 (by rw [hz3]; decide) (by rw [hz3]; decide) (by rw [hz3]; rfl) (by decide) ?_
      refine w_iload_n dX7_owes_63 rfl ?_
      refine w_iload_n dX7_owes_64 rfl ?_
      refine w_bipush dX7_owes_65 bp_10 ?_
      refine w_idiv dX7_owes_67 (by decide) ?_
      refine w_isub dX7_owes_68 ?_
      refine w_iconst dX7_owes_69 ic_2 ?_
      refine w_idiv dX7_owes_70 (by decide) ?_
      refine w_iret dX7_owes_71 rfl ?_
      exact ⟨by simp [p_owes, hz1, hz3], rfl⟩
    · skip
      refine w_tableIn (t := 72) (off := 52) dX7_owes_20 (by rw [hz3]; decide) (by rw [hz3]; decide) (by rw [hz3]; rfl) (by decide) ?_
      refine w_iconst dX7_owes_72 ic_0 ?_
      refine w_iret dX7_owes_73 rfl ?_
      exact ⟨by simp [p_owes, hz1, hz3], rfl⟩
    · skip
      refine w_tableOut (t := 74) dX7_owes_20 hz3.1 (by decide) ?_
      refine w_iload_n dX7_owes_74 rfl ?_
      refine w_iret dX7_owes_75 rfl ?_
      exact ⟨by simp [p_owes, hz1, hz3], rfl⟩
