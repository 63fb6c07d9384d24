set_option maxRecDepth 100000 in
set_option maxHeartbeats 4000000 in
theorem e7_finds (G : GT) (σ : Sg) (x : Int32) (j : Nat) (hj : j < 7) (hx : (-1000000001) - x = nI j) : Evi G mX7_finds [.ref 50, .int x] σ (x) (wI σ 52 j (σ.1 52 j + 1)) := by
  refine Ev.ofL (m := 0) (L := [some (.ref 50), some (.int x)]) rfl (Nat.le_of_ble_eq_true rfl) rfl rfl ?_
  refine w_aload_n dX7_finds_0 rfl ?_
  refine w_getR (t := 52) dX7_finds_1 fl_X7_13 rfl (by decide) (by decide) rfl ?_
  refine w_ldc dX7_finds_4 kc_X7_44 ?_
  refine w_iload_n dX7_finds_6 rfl ?_
  refine w_isub dX7_finds_7 ?_
  refine w_dup2 dX7_finds_8 rfl rfl ?_
  refine w_iald (j := j) dX7_finds_9 rfl (by decide) hx (show j < 7 by omega) ?_
  refine w_iconst dX7_finds_10 ic_1 ?_
  refine w_iadd dX7_finds_11 ?_
  refine w_iast (j := j) dX7_finds_12 rfl (by decide) hx (show j < 7 by omega) ?_
  refine w_iload_n dX7_finds_13 rfl ?_
  refine w_iret dX7_finds_14 rfl ?_
  exact ⟨rfl, rfl⟩
set_option maxRecDepth 100000 in
set_option maxHeartbeats 4000000 in
theorem e7_move1 (G : GT) (σ : Sg) (c : Nat) (hk : kd c = 8) (hl : ln c = 65) (h62 : c < 62) (hc : c ≠ 51) : Evv G mX7_moveAll [.ref 50, .int 1, .ref c] σ (cpN σ 51 c 65) := by
  refine Ev.ofL (m := 1) (L := [some (.ref 50), some (.int 1), some (.ref c), none]) rfl (Nat.le_of_ble_eq_true rfl) rfl rfl ?_
  refine w_iconst dX7_moveAll_0 ic_0 ?_
  refine w_istore_n dX7_moveAll_1 (by decide) rfl rfl ?_
  dsimp only [List.set]
  have lp : ∀ (m : Nat) (i : Nat), 65 - i < m → i ≤ 65 → WP G mX7_moveAll 2 [some (.ref 50), some (.int 1), some (.ref c), some (.int (nI i))] [] (cpN σ 51 c i) (fun v σ' => v = none ∧ σ' = (cpN σ 51 c 65)) := by
    intro m
    induction m with
    | zero => intro i hm; exact absurd hm (Nat.not_lt_zero _)
    | succ m ih =>
      intro i hm hi
      refine w_iload_n dX7_moveAll_2 rfl ?_
      refine w_bipush dX7_moveAll_3 bp_65 ?_
      refine w2_icmp_ge (t := 39) dX7_moveAll_5 (by decide) (fun hz1 => ?_) (fun hz1 => ?_)
      · skip
        have hge := nlt_nI (n := 65) (by omega) (by omega) hz1
        have hen : i = 65 := by omega
        subst hen
        refine w_vret dX7_moveAll_39 rfl ?_
        exact ⟨rfl, rfl⟩
      · skip
        have hlt := lt_nI (n := 65) (by omega) (by omega) hz1
        refine w_iload_n dX7_moveAll_8 rfl ?_
        refine w_if_eq (t := 24) dX7_moveAll_9 (by decide) (fun hz2 => absurd hz2 (by decide)) (fun hz2 => ?_)
        refine w_aload_n dX7_moveAll_12 rfl ?_
        refine w_iload_n dX7_moveAll_13 rfl ?_
        refine w_aload_n dX7_moveAll_14 rfl ?_
        refine w_getR (t := 51) dX7_moveAll_15 fl_X7_7 rfl (by decide) (by decide) rfl ?_
        refine w_iload_n dX7_moveAll_18 rfl ?_
        refine w_iald (j := i) dX7_moveAll_19 rfl (by decide) rfl (show i < 65 by omega) ?_
        refine w_iast (j := i) dX7_moveAll_20 hk h62 rfl (by rw [hl]; omega) ?_
        refine w_goto (t := 33) dX7_moveAll_21 (by decide) ?_
        refine w_iincN (a := i) (b := 1) dX7_moveAll_33 rfl ic_1 (by decide) rfl rfl ?_
        dsimp only [List.set]
        refine w_goto (t := 2) dX7_moveAll_36 (by decide) ?_
        rw [cpN_s (cpN_a hc.symm)]
        exact ih (i + 1) (by omega) (by omega)
  have q0 := lp 66 0 (by omega) (by omega)
  rw [cpN_0] at q0
  exact q0
set_option maxRecDepth 100000 in
set_option maxHeartbeats 4000000 in
theorem e7_move0 (G : GT) (σ : Sg) (c : Nat) (hk : kd c = 8) (hl : ln c = 65) (h62 : c < 62) (hc : c ≠ 51) : Evv G mX7_moveAll [.ref 50, .int 0, .ref c] σ (cpN σ c 51 65) := by
  refine Ev.ofL (m := 1) (L := [some (.ref 50), some (.int 0), some (.ref c), none]) rfl (Nat.le_of_ble_eq_true rfl) rfl rfl ?_
  refine w_iconst dX7_moveAll_0 ic_0 ?_
  refine w_istore_n dX7_moveAll_1 (by decide) rfl rfl ?_
  dsimp only [List.set]
  have lp : ∀ (m : Nat) (i : Nat), 65 - i < m → i ≤ 65 → WP G mX7_moveAll 2 [some (.ref 50), some (.int 0), some (.ref c), some (.int (nI i))] [] (cpN σ c 51 i) (fun v σ' => v = none ∧ σ' = (cpN σ c 51 65)) := by
    intro m
    induction m with
    | zero => intro i hm; exact absurd hm (Nat.not_lt_zero _)
    | succ m ih =>
      intro i hm hi
      refine w_iload_n dX7_moveAll_2 rfl ?_
      refine w_bipush dX7_moveAll_3 bp_65 ?_
      refine w2_icmp_ge (t := 39) dX7_moveAll_5 (by decide) (fun hz1 => ?_) (fun hz1 => ?_)
      · skip
        have hge := nlt_nI (n := 65) (by omega) (by omega) hz1
        have hen : i = 65 := by omega
        subst hen
        refine w_vret dX7_moveAll_39 rfl ?_
        exact ⟨rfl, rfl⟩
      · skip
        have hlt := lt_nI (n := 65) (by omega) (by omega) hz1
        refine w_iload_n dX7_moveAll_8 rfl ?_
        refine w_if_eq (t := 24) dX7_moveAll_9 (by decide) (fun hz2 => ?_) (fun hz2 => absurd rfl hz2)
        refine w_aload_n dX7_moveAll_24 rfl ?_
        refine w_getR (t := 51) dX7_moveAll_25 fl_X7_7 rfl (by decide) (by decide) rfl ?_
        refine w_iload_n dX7_moveAll_28 rfl ?_
        refine w_aload_n dX7_moveAll_29 rfl ?_
        refine w_iload_n dX7_moveAll_30 rfl ?_
        refine w_iald (j := i) dX7_moveAll_31 hk h62 rfl (by rw [hl]; omega) ?_
        refine w_iast (j := i) dX7_moveAll_32 rfl (by decide) rfl (show i < 65 by omega) ?_
        refine w_iincN (a := i) (b := 1) dX7_moveAll_33 rfl ic_1 (by decide) rfl rfl ?_
        dsimp only [List.set]
        refine w_goto (t := 2) dX7_moveAll_36 (by decide) ?_
        rw [cpN_s (cpN_a hc)]
        exact ih (i + 1) (by omega) (by omega)
  have q0 := lp 66 0 (by omega) (by omega)
  rw [cpN_0] at q0
  exact q0
set_option maxRecDepth 100000 in
set_option maxHeartbeats 4000000 in
theorem e7_onOf (G : GT) (σ : Sg) (k q w : Nat) (hk : k < 8) (hq : q < 2 ^ 31) (hw : w < 7) (n : Nat) (hn : σ.1 51 8 = nI n) (h8 : n ≤ 8) : Ev G mX7_onOf [.ref 50, .int (nI k), .int (nI q), .int (nI w)] σ (fun v σ' => v = some (.int (p_pass (σ.1 51) n q (9 + 7 * k + w))) ∧ Mt σ σ') := by
  refine Ev.ofL (m := 1) (L := [some (.ref 50), some (.int (nI k)), some (.int (nI q)), some (.int (nI w)), none]) rfl (Nat.le_of_ble_eq_true rfl) rfl rfl ?_
  refine w_aload_n dX7_onOf_0 rfl ?_
  refine w_iconst dX7_onOf_1 ic_1 ?_
  refine w_aload_n dX7_onOf_2 rfl ?_
  refine w_getR (t := 53) dX7_onOf_3 fl_X7_16 rfl (by decide) (by decide) rfl ?_
  refine w_callVv dX7_onOf_6 ml_X7_126 mv_X7_moveAll rfl rfl (by decide) rfl (e7_move1 G _ 53 rfl rfl (by decide) (by decide)) rfl rfl (Nat.le_of_ble_eq_true rfl) ?_
  refine w_aload_n dX7_onOf_9 rfl ?_
  refine w_iload_n dX7_onOf_10 rfl ?_
  refine w_callVv dX7_onOf_11 ml_X7_116 mv_X7_passes rfl rfl (by decide) rfl (e7_passes G _ q hq n (by rw [cpN_ne (by decide)]; exact hn) h8) rfl rfl (Nat.le_of_ble_eq_true rfl) ?_
  refine w_aload_n dX7_onOf_14 rfl ?_
  refine w_iload_n dX7_onOf_15 rfl ?_
  refine w_iload_n dX7_onOf_16 rfl ?_
  refine w_callVi dX7_onOf_17 ml_X7_69 mv_X7_its rfl rfl (by decide) rfl (e7_its G _ (k) (w) (by omega) (by omega)) rfl rfl (Nat.le_of_ble_eq_true rfl) ?_
  refine w_topi (fun v hv => ?_)
  refine w_istore dX7_onOf_20 (by decide) rfl rfl ?_
  dsimp only [List.set]
  refine w_aload_n dX7_onOf_22 rfl ?_
  refine w_iconst dX7_onOf_23 ic_0 ?_
  refine w_aload_n dX7_onOf_24 rfl ?_
  refine w_getR (t := 53) dX7_onOf_25 fl_X7_16 rfl (by decide) (by decide) rfl ?_
  refine w_callVv dX7_onOf_28 ml_X7_126 mv_X7_moveAll rfl rfl (by decide) rfl (e7_move0 G _ 53 rfl rfl (by decide) (by decide)) rfl rfl (Nat.le_of_ble_eq_true rfl) ?_
  refine w_iload dX7_onOf_31 rfl ?_
  refine w_iret dX7_onOf_33 rfl ?_
  have e51 : (cpN σ 51 53 65).1 51 = σ.1 51 := funext fun j => cpN_ne (by decide)
  refine ⟨by rw [hv, setR_51, e51], fun c j hc => ?_, rfl⟩
  by_cases hc2 : c = 51
  · subst hc2
    refine congrFun (back51 (σ := σ) (fun j h => ?_) (fun j h => ?_)) j
    · rw [setR_ne (by decide), cpN_b h]
    · rw [setR_51, e51, p_pass_65 _ h8 h]
  · rw [cpN_ne hc2, setR_ne hc2, cpN_ne hc]
def p_dn (f : Nat → Int32) (a j : Nat) : Nat → Int32 := fun i => if a ≤ i ∧ i < j then f (i + 7) else f i
theorem p_dn_0 (f : Nat → Int32) (a : Nat) : p_dn f a a = f := by
  funext i
  unfold p_dn
  rw [if_neg (by omega)]
theorem p_dn_s (f : Nat → Int32) {a j : Nat} (h : a ≤ j) : upd (p_dn f a j) j (p_dn f a j (j + 7)) = p_dn f a (j + 1) := by
  funext i
  unfold upd
  by_cases hi : i = j
  · subst hi
    rw [if_pos rfl]
    unfold p_dn
    rw [if_neg (by omega), if_pos (by omega)]
  · rw [if_neg hi]
    unfold p_dn
    by_cases h2 : a ≤ i ∧ i < j
    · rw [if_pos h2, if_pos (by omega)]
    · rw [if_neg h2, if_neg (by omega)]
theorem p_dn_8 (f : Nat → Int32) {a j : Nat} (h : 9 ≤ a) : p_dn f a j 8 = f 8 := by
  unfold p_dn
  rw [if_neg (by omega)]
theorem p_dn_end (f : Nat → Int32) {n r : Nat} (hf : f 8 = nI n) (hn : r < n) : upd (p_dn f (9 + 7 * r) (9 + 7 * (n - 1))) 8 (p_dn f (9 + 7 * r) (9 + 7 * (n - 1)) 8 - 1) = p_down f n r := by
  funext i
  unfold upd p_down
  by_cases hi : i = 8
  · rw [if_pos hi, if_pos hi, p_dn_8 f (by omega), hf]
    obtain ⟨m, rfl⟩ : ∃ m, n = m + 1 := ⟨n - 1, by omega⟩
    exact nI_pred m
  · rw [if_neg hi, if_neg hi]
    rfl
set_option maxRecDepth 100000 in
set_option maxHeartbeats 4000000 in
theorem e7_comesDown (G : GT) (σ : Sg) (n k : Nat) (hk : k < n) (hn : σ.1 51 8 = nI n) (h8 : n ≤ 8) : Evv G mX7_comesDown [.ref 50, .int (nI k)] σ (setR σ (p_down (σ.1 51) n k)) := by
  refine Ev.ofL (m := 1) (L := [some (.ref 50), some (.int (nI k)), none]) rfl (Nat.le_of_ble_eq_true rfl) rfl rfl ?_
  refine w_bipush dX7_comesDown_0 bp_9 ?_
  refine w_bipush dX7_comesDown_2 bp_7 ?_
  refine w_iload_n dX7_comesDown_4 rfl ?_
  refine w_imulN (a := 7) (b := k) dX7_comesDown_5 ?_
  refine w_iaddN (a := 9) (b := 7 * k) dX7_comesDown_6 ?_
  refine w_istore_n dX7_comesDown_7 (by decide) rfl rfl ?_
  dsimp only [List.set]
  have lp : ∀ (m : Nat) (j : Nat), 9 + 7 * (n - 1) - j < m → j ≤ 9 + 7 * (n - 1) → 9 + 7 * k ≤ j → WP G mX7_comesDown 8 [some (.ref 50), some (.int (nI k)), some (.int (nI j))] [] (setR σ (p_dn (σ.1 51) (9 + 7 * k) j)) (fun v σ' => v = none ∧ σ' = (setR σ (p_down (σ.1 51) n k))) := by
    intro m
    induction m with
    | zero => intro j hm; exact absurd hm (Nat.not_lt_zero _)
    | succ m ih =>
      intro j hm hj hj2
      refine w_iload_n dX7_comesDown_8 rfl ?_
      refine w_bipush dX7_comesDown_9 bp_9 ?_
      refine w_bipush dX7_comesDown_11 bp_7 ?_
      refine w_aload_n dX7_comesDown_13 rfl ?_
      refine w_getR (t := 51) dX7_comesDown_14 fl_X7_7 rfl (by decide) (by decide) rfl ?_
      refine w_bipush dX7_comesDown_17 bp_8 ?_
      refine w_iald (j := 8) dX7_comesDown_19 rfl (by decide) rfl (by decide) ?_
      refine w_iconst dX7_comesDown_20 ic_1 ?_
      refine w_isub dX7_comesDown_21 ?_
      simp only [setR_51]
      refine w_eqi (y := nI (n - 1)) (by rw [p_dn_8 _ (by omega), hn]; obtain ⟨m0, rfl⟩ : ∃ m0, n = m0 + 1 := ⟨n - 1, by omega⟩; exact nI_pred m0) ?_
      · skip
        refine w_imulN (a := 7) (b := (n - 1)) dX7_comesDown_22 ?_
        refine w_iaddN (a := 9) (b := 7 * ((n - 1))) dX7_comesDown_23 ?_
        refine w2_icmp_ge (t := 48) dX7_comesDown_24 (by decide) (fun hz1 => ?_) (fun hz1 => ?_)
        · skip
          have hge := nlt_nI (by omega) (by omega) hz1
          have hen : j = 9 + 7 * (n - 1) := by omega
          subst hen
          refine w_aload_n dX7_comesDown_48 rfl ?_
          refine w_getR (t := 51) dX7_comesDown_49 fl_X7_7 rfl (by decide) (by decide) rfl ?_
          refine w_bipush dX7_comesDown_52 bp_8 ?_
          refine w_dup2 dX7_comesDown_54 rfl rfl ?_
          refine w_iald (j := 8) dX7_comesDown_55 rfl (by decide) rfl (by decide) ?_
          refine w_iconst dX7_comesDown_56 ic_1 ?_
          refine w_isub dX7_comesDown_57 ?_
          refine w_iast (j := 8) dX7_comesDown_58 rfl (by decide) rfl (by decide) ?_
          try simp only [wI_51, setR_setR, setR_51]
          refine w_vret dX7_comesDown_59 rfl ?_
          exact ⟨rfl, by rw [p_dn_end _ hn hk]⟩
        · skip
          have hlt := lt_nI (by omega) (by omega) hz1
          refine w_aload_n dX7_comesDown_27 rfl ?_
          refine w_getR (t := 51) dX7_comesDown_28 fl_X7_7 rfl (by decide) (by decide) rfl ?_
          refine w_iload_n dX7_comesDown_31 rfl ?_
          refine w_aload_n dX7_comesDown_32 rfl ?_
          refine w_getR (t := 51) dX7_comesDown_33 fl_X7_7 rfl (by decide) (by decide) rfl ?_
          refine w_iload_n dX7_comesDown_36 rfl ?_
          refine w_bipush dX7_comesDown_37 bp_7 ?_
          refine w_iaddN (a := j) (b := 7) dX7_comesDown_39 ?_
          refine w_iald (j := j + 7) dX7_comesDown_40 rfl (by decide) rfl (show j + 7 < 65 by omega) ?_
          refine w_iast (j := j) dX7_comesDown_41 rfl (by decide) rfl (show j < 65 by omega) ?_
          try simp only [wI_51, setR_setR, setR_51]
          refine w_iincN (a := j) (b := 1) dX7_comesDown_42 rfl ic_1 (by decide) rfl rfl ?_
          dsimp only [List.set]
          refine w_goto (t := 8) dX7_comesDown_45 (by decide) ?_
          rw [p_dn_s (σ.1 51) hj2]
          exact ih (j + 1) (by omega) (by omega) (by omega)
  have q0 := lp (9 + 7 * (n - 1) + 1) (9 + 7 * k) (by omega) (by omega) (by omega)
  rw [p_dn_0, setR_self] at q0
  exact q0
set_option maxRecDepth 100000 in
set_option maxHeartbeats 4000000 in
theorem e7_addRod (G : GT) (σ : Sg) (x1 x2 x3 x4 x5 : Int32) (n : Nat) (hn : σ.1 51 8 = nI n) (h8 : n < 8) : Evv G mX7_addRod [.ref 50, .int x1, .int x2, .int x3, .int x4, .int x5] σ (setR σ (p_add (σ.1 51) n x1 x2 x3 x4 x5)) := by
  refine Ev.ofL (m := 1) (L := [some (.ref 50), some (.int x1), some (.int x2), some (.int x3), some (.int x4), some (.int x5), none]) rfl (Nat.le_of_ble_eq_true rfl) rfl rfl ?_
  refine w_aload_n dX7_addRod_0 rfl ?_
  refine w_getR (t := 51) dX7_addRod_1 fl_X7_7 rfl (by decide) (by decide) rfl ?_
  refine w_bipush dX7_addRod_4 bp_8 ?_
  refine w_iald (j := 8) dX7_addRod_6 rfl (by decide) rfl (by decide) ?_
  refine w_eqi hn ?_
  · skip
    refine w_istore dX7_addRod_7 (by decide) rfl rfl ?_
    dsimp only [List.set]
    refine w_aload_n dX7_addRod_9 rfl ?_
    refine w_iload dX7_addRod_10 rfl ?_
    refine w_iconst dX7_addRod_12 ic_0 ?_
    refine w_iload_n dX7_addRod_13 rfl ?_
    refine w_callVv dX7_addRod_14 ml_X7_57 mv_X7_puts rfl rfl (by decide) rfl (e7_puts0 G _ (n) _ (by omega)) rfl rfl (Nat.le_of_ble_eq_true rfl) ?_
    try simp only [wI_51, setR_setR, setR_51]
    refine w_aload_n dX7_addRod_17 rfl ?_
    refine w_iload dX7_addRod_18 rfl ?_
    refine w_iconst dX7_addRod_20 ic_1 ?_
    refine w_iload_n dX7_addRod_21 rfl ?_
    refine w_callVv dX7_addRod_22 ml_X7_57 mv_X7_puts rfl rfl (by decide) rfl (e7_puts G _ (n) (1) _ (by omega) (by omega)) rfl rfl (Nat.le_of_ble_eq_true rfl) ?_
    try simp only [wI_51, setR_setR, setR_51]
    refine w_aload_n dX7_addRod_25 rfl ?_
    refine w_iload dX7_addRod_26 rfl ?_
    refine w_iconst dX7_addRod_28 ic_2 ?_
    refine w_iload_n dX7_addRod_29 rfl ?_
    refine w_callVv dX7_addRod_30 ml_X7_57 mv_X7_puts rfl rfl (by decide) rfl (e7_puts G _ (n) (2) _ (by omega) (by omega)) rfl rfl (Nat.le_of_ble_eq_true rfl) ?_
    try simp only [wI_51, setR_setR, setR_51]
    refine w_aload_n dX7_addRod_33 rfl ?_
    refine w_iload dX7_addRod_34 rfl ?_
    refine w_iconst dX7_addRod_36 ic_3 ?_
    refine w_iload dX7_addRod_37 rfl ?_
    refine w_callVv dX7_addRod_39 ml_X7_57 mv_X7_puts rfl rfl (by decide) rfl (e7_puts G _ (n) (3) _ (by omega) (by omega)) rfl rfl (Nat.le_of_ble_eq_true rfl) ?_
    try simp only [wI_51, setR_setR, setR_51]
    refine w_aload_n dX7_addRod_42 rfl ?_
    refine w_iload dX7_addRod_43 rfl ?_
    refine w_iconst dX7_addRod_45 ic_4 ?_
    refine w_iload dX7_addRod_46 rfl ?_
    refine w_callVv dX7_addRod_48 ml_X7_57 mv_X7_puts rfl rfl (by decide) rfl (e7_puts G _ (n) (4) _ (by omega) (by omega)) rfl rfl (Nat.le_of_ble_eq_true rfl) ?_
    try simp only [wI_51, setR_setR, setR_51]
    refine w_aload_n dX7_addRod_51 rfl ?_
    refine w_iload dX7_addRod_52 rfl ?_
    refine w_iconst dX7_addRod_54 ic_5 ?_
    refine w_iconst dX7_addRod_55 ic_0 ?_
    refine w_callVv dX7_addRod_56 ml_X7_57 mv_X7_puts rfl rfl (by decide) rfl (e7_puts G _ (n) (5) _ (by omega) (by omega)) rfl rfl (Nat.le_of_ble_eq_true rfl) ?_
    try simp only [wI_51, setR_setR, setR_51]
    refine w_aload_n dX7_addRod_59 rfl ?_
    refine w_iload dX7_addRod_60 rfl ?_
    refine w_bipush dX7_addRod_62 bp_6 ?_
    refine w_iconst dX7_addRod_64 ic_0 ?_
    refine w_callVv dX7_addRod_65 ml_X7_57 mv_X7_puts rfl rfl (by decide) rfl (e7_puts G _ (n) (6) _ (by omega) (by omega)) rfl rfl (Nat.le_of_ble_eq_true rfl) ?_
    try simp only [wI_51, setR_setR, setR_51]
    refine w_aload_n dX7_addRod_68 rfl ?_
    refine w_getR (t := 51) dX7_addRod_69 fl_X7_7 rfl (by decide) (by decide) rfl ?_
    refine w_bipush dX7_addRod_72 bp_8 ?_
    refine w_dup2 dX7_addRod_74 rfl rfl ?_
    refine w_iald (j := 8) dX7_addRod_75 rfl (by decide) rfl (by decide) ?_
    refine w_iconst dX7_addRod_76 ic_1 ?_
    refine w_iadd dX7_addRod_77 ?_
    refine w_iast (j := 8) dX7_addRod_78 rfl (by decide) rfl (by decide) ?_
    try simp only [wI_51, setR_setR, setR_51]
    refine w_vret dX7_addRod_79 rfl ?_
    refine ⟨rfl, ?_⟩
    unfold p_add
    simp only [updN (show (8 : Nat) ≠ 9 + 7 * n + 6 by omega), updN (show (8 : Nat) ≠ 9 + 7 * n + 5 by omega), updN (show (8 : Nat) ≠ 9 + 7 * n + 4 by omega), updN (show (8 : Nat) ≠ 9 + 7 * n + 3 by omega), updN (show (8 : Nat) ≠ 9 + 7 * n + 2 by omega), updN (show (8 : Nat) ≠ 9 + 7 * n + 1 by omega), updN (show (8 : Nat) ≠ 9 + 7 * n by omega), hn, nI_1]
