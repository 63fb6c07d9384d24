/-! strings that are constants -/
set_option maxRecDepth 100000 in
set_option maxHeartbeats 800000 in
theorem j0_coder (G : GT) (σ : Sg) (i : Nat) (hi : i < 17) : Evi G mJ0_coder [.ref (100 + i)] σ (0) (σ) := by
  refine Ev.ofL (m := 0) (L := [some (.ref (100 + i))]) rfl (Nat.le_of_ble_eq_true rfl) rfl rfl ?_
  refine w_getsCS dJ0_coder_0 fs_J0_38 ?_
  refine w_if_eq (t := 13) dJ0_coder_3 (by decide) (fun hz1 => absurd hz1 (by decide)) (fun hz1 => ?_)
  refine w_aload_n dJ0_coder_6 rfl ?_
  refine w_strC (i := i) hi dJ0_coder_7 fs_J0_15 ?_
  refine w_goto (t := 14) dJ0_coder_10 (by decide) ?_
  refine w_zret dJ0_coder_14 rfl rfl ?_
  exact ⟨rfl, rfl⟩
set_option maxRecDepth 100000 in
set_option maxHeartbeats 800000 in
theorem j0_isLatin1 (G : GT) (σ : Sg) (i : Nat) (hi : i < 17) : Evi G mJ0_isLatin1 [.ref (100 + i)] σ (1) (σ) := by
  refine Ev.ofL (m := 0) (L := [some (.ref (100 + i))]) rfl (Nat.le_of_ble_eq_true rfl) rfl rfl ?_
  refine w_getsCS dJ0_isLatin1_0 fs_J0_38 ?_
  refine w_if_eq (t := 17) dJ0_isLatin1_3 (by decide) (fun hz1 => absurd hz1 (by decide)) (fun hz1 => ?_)
  refine w_aload_n dJ0_isLatin1_6 rfl ?_
  refine w_strC (i := i) hi dJ0_isLatin1_7 fs_J0_15 ?_
  refine w_if_ne (t := 17) dJ0_isLatin1_10 (by decide) (fun hz2 => absurd rfl hz2) (fun hz2 => ?_)
  refine w_iconst dJ0_isLatin1_13 ic_1 ?_
  refine w_goto (t := 18) dJ0_isLatin1_14 (by decide) ?_
  refine w_zret dJ0_isLatin1_18 rfl rfl ?_
  exact ⟨rfl, rfl⟩
set_option maxRecDepth 100000 in
set_option maxHeartbeats 800000 in
theorem j0_length (G : GT) (σ : Sg) (i : Nat) (hi : i < 17) : Evi G mJ0_length [.ref (100 + i)] σ (nI (sLen.getD i 0)) (σ) := by
  refine Ev.ofL (m := 0) (L := [some (.ref (100 + i))]) rfl (Nat.le_of_ble_eq_true rfl) rfl rfl ?_
  refine w_aload_n dJ0_length_0 rfl ?_
  refine w_strV (i := i) hi dJ0_length_1 fs_J0_9 ?_
  refine w_strLen (i := i) hi dJ0_length_4 ?_
  refine w_aload_n dJ0_length_5 rfl ?_
  refine w_strCall (i := i) hi dJ0_length_6 ml_J0_335 mv_J0_coder rfl rfl (j0_coder G _ i hi) rfl rfl (Nat.le_of_ble_eq_true rfl) ?_
  refine w_ishr dJ0_length_9 ?_
  refine w_iret dJ0_length_10 rfl ?_
  refine ⟨?_, rfl⟩
  rw [show nI (sLen.getD i 0) >>> ((0 : Int32) &&& 31) = nI (sLen.getD i 0) from pk_shrN (sLen_lt i hi) _ 0 (by decide) |>.trans (by rw [Nat.pow_zero, Nat.div_one])]
set_option maxRecDepth 100000 in
set_option maxHeartbeats 800000 in
theorem j3_ck0 (G : GT) (σ : Sg) (j L : Nat) (hj : j < L) (hL : L < 2 ^ 31) : Evi G mJ3_checkIndex [.int (nI j), .int (nI L), .null] σ (nI j) (σ) := by
  refine Ev.ofL (m := 0) (L := [some (.int (nI j)), some (.int (nI L)), some (.null)]) rfl (Nat.le_of_ble_eq_true rfl) rfl rfl ?_
  refine w_iload_n dJ3_checkIndex_0 rfl ?_
  refine w_if_lt (t := 9) dJ3_checkIndex_1 (by decide) (fun hz1 => absurd hz1 (nI_pos (by omega))) (fun hz1 => ?_)
  refine w_iload_n dJ3_checkIndex_4 rfl ?_
  refine w_iload_n dJ3_checkIndex_5 rfl ?_
  refine w_icmp_lt (t := 16) dJ3_checkIndex_6 (by decide) (fun hz2 => ?_) (fun hz2 => absurd (nI_lt hj hL) hz2)
  refine w_iload_n dJ3_checkIndex_16 rfl ?_
  refine w_iret dJ3_checkIndex_17 rfl ?_
  exact ⟨rfl, rfl⟩
set_option maxRecDepth 100000 in
set_option maxHeartbeats 800000 in
theorem j3_ck1 (G : GT) (σ : Sg) (j L : Nat) (hj : j < L) (hL : L < 2 ^ 31) : Evi G mJ3_checkIndex [.int (nI j), .int (nI L), .ref 97] σ (nI j) (σ) := by
  refine Ev.ofL (m := 0) (L := [some (.int (nI j)), some (.int (nI L)), some (.ref 97)]) rfl (Nat.le_of_ble_eq_true rfl) rfl rfl ?_
  refine w_iload_n dJ3_checkIndex_0 rfl ?_
  refine w_if_lt (t := 9) dJ3_checkIndex_1 (by decide) (fun hz1 => absurd hz1 (nI_pos (by omega))) (fun hz1 => ?_)
  refine w_iload_n dJ3_checkIndex_4 rfl ?_
  refine w_iload_n dJ3_checkIndex_5 rfl ?_
  refine w_icmp_lt (t := 16) dJ3_checkIndex_6 (by decide) (fun hz2 => ?_) (fun hz2 => absurd (nI_lt hj hL) hz2)
  refine w_iload_n dJ3_checkIndex_16 rfl ?_
  refine w_iret dJ3_checkIndex_17 rfl ?_
  exact ⟨rfl, rfl⟩
set_option maxRecDepth 100000 in
set_option maxHeartbeats 800000 in
theorem j0_ck (G : GT) (σ : Sg) (j L : Nat) (hj : j < L) (hL : L < 2 ^ 31) : Evv G mJ0_checkIndex [.int (nI j), .int (nI L)] σ (σ) := by
  refine Ev.ofL (m := 0) (L := [some (.int (nI j)), some (.int (nI L))]) rfl (Nat.le_of_ble_eq_true rfl) rfl rfl ?_
  refine w_iload_n dJ0_checkIndex_0 rfl ?_
  refine w_iload_n dJ0_checkIndex_1 rfl ?_
  refine w_getsSF dJ0_checkIndex_2 fs_J0_1053 (fun vf hvf => ?_)
  rcases hvf with rfl | rfl
  · skip
    refine w_callSi dJ0_checkIndex_5 ml_J0_1059 ms_J3_checkIndex rfl (j3_ck0 G _ j L hj hL) rfl rfl (Nat.le_of_ble_eq_true rfl) ?_
    refine w_pop dJ0_checkIndex_8 rfl ?_
    refine w_vret dJ0_checkIndex_9 rfl ?_
    exact ⟨rfl, rfl⟩
  · skip
    refine w_callSi dJ0_checkIndex_5 ml_J0_1059 ms_J3_checkIndex rfl (j3_ck1 G _ j L hj hL) rfl rfl (Nat.le_of_ble_eq_true rfl) ?_
    refine w_pop dJ0_checkIndex_8 rfl ?_
    refine w_vret dJ0_checkIndex_9 rfl ?_
    exact ⟨rfl, rfl⟩
theorem sb_ch : ∀ i, i < 17 → ∀ j, j < sLen.getD i 0 → ((((sByt.getD i []).getD j 0 &&& 255).toUInt32 % 65536).toInt32) = (sByt.getD i []).getD j 0 ∧ narrow .char (.int ((sByt.getD i []).getD j 0)) = .int ((sByt.getD i []).getD j 0) := by
  have h : ∀ i, i < 17 → ∀ j, j < sLen.getD i 0 → ((((sByt.getD i []).getD j 0 &&& 255).toUInt32 % 65536).toInt32) = (sByt.getD i []).getD j 0 := by decide +kernel
  intro i hi j hj
  refine ⟨h i hi j hj, ?_⟩
  have q0 := pk_nc ((sByt.getD i []).getD j 0 &&& 255)
  rw [h i hi j hj] at q0
  exact q0
set_option maxRecDepth 100000 in
set_option maxHeartbeats 800000 in
theorem j1_charAt (G : GT) (σ : Sg) (i : Nat) (hi : i < 17) (j : Nat) (hj : j < sLen.getD i 0) : Evi G mJ1_charAt [.ref (200 + i), .int (nI j)] σ ((sByt.getD i []).getD j 0) (σ) := by
  refine Ev.ofL (m := 0) (L := [some (.ref (200 + i)), some (.int (nI j))]) rfl (Nat.le_of_ble_eq_true rfl) rfl rfl ?_
  refine w_iload_n dJ1_charAt_0 rfl ?_
  refine w_aload_n dJ1_charAt_1 rfl ?_
  refine w_strLen (i := i) hi dJ1_charAt_2 ?_
  refine w_callSv dJ1_charAt_3 ml_J1_9 ms_J0_checkIndex rfl (j0_ck G _ j (sLen.getD i 0) hj (sLen_lt i hi)) rfl rfl (Nat.le_of_ble_eq_true rfl) ?_
  refine w_aload_n dJ1_charAt_6 rfl ?_
  refine w_iload_n dJ1_charAt_7 rfl ?_
  refine w_bald (i := i) (j := j) hi dJ1_charAt_8 rfl hj ?_
  refine w_sipush dJ1_charAt_9 sp_255 ?_
  refine w_iand dJ1_charAt_12 ?_
  refine w_i2c dJ1_charAt_13 ?_
  refine w_eqi (sb_ch i hi j hj).1 ?_
  refine w_zret dJ1_charAt_14 rfl (sb_ch i hi j hj).2 ?_
  exact ⟨rfl, rfl⟩
set_option maxRecDepth 100000 in
set_option maxHeartbeats 800000 in
theorem j0_charAt (G : GT) (σ : Sg) (i : Nat) (hi : i < 17) (j : Nat) (hj : j < sLen.getD i 0) : Evi G mJ0_charAt [.ref (100 + i), .int (nI j)] σ ((sByt.getD i []).getD j 0) (σ) := by
  refine Ev.ofL (m := 0) (L := [some (.ref (100 + i)), some (.int (nI j))]) rfl (Nat.le_of_ble_eq_true rfl) rfl rfl ?_
  refine w_aload_n dJ0_charAt_0 rfl ?_
  refine w_strCall (i := i) hi dJ0_charAt_1 ml_J0_492 mv_J0_isLatin1 rfl rfl (j0_isLatin1 G _ i hi) rfl rfl (Nat.le_of_ble_eq_true rfl) ?_
  refine w_if_eq (t := 16) dJ0_charAt_4 (by decide) (fun hz1 => absurd hz1 (by decide)) (fun hz1 => ?_)
  refine w_aload_n dJ0_charAt_7 rfl ?_
  refine w_strV (i := i) hi dJ0_charAt_8 fs_J0_9 ?_
  refine w_iload_n dJ0_charAt_11 rfl ?_
  refine w_callSi dJ0_charAt_12 ml_J0_495 ms_J1_charAt rfl (j1_charAt G _ i hi j hj) rfl rfl (Nat.le_of_ble_eq_true rfl) ?_
  refine w_zret dJ0_charAt_15 rfl (sb_ch i hi j hj).2 ?_
  exact ⟨rfl, rfl⟩
/-! the class's tokens -/
def c_sort (b : Int32) : Int32 := if p_in b 97 122 = 0 then (if p_in b 48 57 = 0 then (if b = 59 then 3 else 4) else 2) else 1
set_option maxRecDepth 100000 in
set_option maxHeartbeats 800000 in
theorem c2_sortOf (G : GT) (σ : Sg) (b : Int32) : Evi G mX2_sortOf [.int b] σ (c_sort b) (σ) := by
  refine Ev.ofL (m := 0) (L := [some (.int b)]) rfl (Nat.le_of_ble_eq_true rfl) rfl rfl ?_
  refine w_iload_n dX2_sortOf_0 rfl ?_
  refine w_bipush dX2_sortOf_1 bp_97 ?_
  refine w_icmp_lt (t := 14) dX2_sortOf_3 (by decide) (fun hz1 => ?_) (fun hz1 => ?_)
  · skip
    refine w_iload_n dX2_sortOf_14 rfl ?_
    refine w_bipush dX2_sortOf_15 bp_48 ?_
    refine w_icmp_lt (t := 28) dX2_sortOf_17 (by decide) (fun hz2 => ?_) (fun hz2 => ?_)
    · skip
      refine w_iload_n dX2_sortOf_28 rfl ?_
      refine w_bipush dX2_sortOf_29 bp_59 ?_
      refine w_icmp_ne (t := 38) dX2_sortOf_31 (by decide) (fun hz3 => ?_) (fun hz3 => ?_)
      · skip
        refine w_iconst dX2_sortOf_38 ic_4 ?_
        refine w_iret dX2_sortOf_39 rfl ?_
        exact ⟨by simp only [c_sort, eq_true (show p_in b 97 122 = 0 from if_pos hz1), eq_true (show p_in b 48 57 = 0 from if_pos hz2), eq_false hz3, if_true, if_false], rfl⟩
      · skip
        refine w_iconst dX2_sortOf_34 ic_3 ?_
        refine w_goto (t := 39) dX2_sortOf_35 (by decide) ?_
        refine w_iret dX2_sortOf_39 rfl ?_
        exact ⟨by simp only [c_sort, eq_true (show p_in b 97 122 = 0 from if_pos hz1), eq_true (show p_in b 48 57 = 0 from if_pos hz2), eq_true hz3, if_true, if_false], rfl⟩
    · skip
      refine w_iload_n dX2_sortOf_20 rfl ?_
      refine w_bipush dX2_sortOf_21 bp_57 ?_
      refine w_icmp_gt (t := 28) dX2_sortOf_23 (by decide) (fun hz4 => ?_) (fun hz4 => ?_)
      · skip
        refine w_iload_n dX2_sortOf_28 rfl ?_
        refine w_bipush dX2_sortOf_29 bp_59 ?_
        refine w_icmp_ne (t := 38) dX2_sortOf_31 (by decide) (fun hz5 => ?_) (fun hz5 => ?_)
        · skip
          refine w_iconst dX2_sortOf_38 ic_4 ?_
          refine w_iret dX2_sortOf_39 rfl ?_
          exact ⟨by simp only [c_sort, eq_true (show p_in b 97 122 = 0 from if_pos hz1), eq_true (show p_in b 48 57 = 0 from (if_neg hz2).trans (if_pos hz4)), eq_false hz5, if_true, if_false], rfl⟩
        · skip
          refine w_iconst dX2_sortOf_34 ic_3 ?_
          refine w_goto (t := 39) dX2_sortOf_35 (by decide) ?_
          refine w_iret dX2_sortOf_39 rfl ?_
          exact ⟨by simp only [c_sort, eq_true (show p_in b 97 122 = 0 from if_pos hz1), eq_true (show p_in b 48 57 = 0 from (if_neg hz2).trans (if_pos hz4)), eq_true hz5, if_true, if_false], rfl⟩
      · skip
        refine w_iconst dX2_sortOf_26 ic_2 ?_
        refine w_iret dX2_sortOf_27 rfl ?_
        exact ⟨by simp only [c_sort, eq_true (show p_in b 97 122 = 0 from if_pos hz1), eq_false (show ¬ p_in b 48 57 = 0 from fun z => absurd (((if_neg hz2).trans (if_neg hz4)).symm.trans z) (show ¬ (1 : Int32) = 0 by decide)), if_true, if_false], rfl⟩
  · skip
    refine w_iload_n dX2_sortOf_6 rfl ?_
    refine w_bipush dX2_sortOf_7 bp_122 ?_
    refine w_icmp_gt (t := 14) dX2_sortOf_9 (by decide) (fun hz6 => ?_) (fun hz6 => ?_)
    · skip
      refine w_iload_n dX2_sortOf_14 rfl ?_
      refine w_bipush dX2_sortOf_15 bp_48 ?_
      refine w_icmp_lt (t := 28) dX2_sortOf_17 (by decide) (fun hz7 => ?_) (fun hz7 => ?_)
      · skip
        refine w_iload_n dX2_sortOf_28 rfl ?_
        refine w_bipush dX2_sortOf_29 bp_59 ?_
        refine w_icmp_ne (t := 38) dX2_sortOf_31 (by decide) (fun hz8 => ?_) (fun hz8 => ?_)
        · skip
          refine w_iconst dX2_sortOf_38 ic_4 ?_
          refine w_iret dX2_sortOf_39 rfl ?_
          exact ⟨by simp only [c_sort, eq_true (show p_in b 97 122 = 0 from (if_neg hz1).trans (if_pos hz6)), eq_true (show p_in b 48 57 = 0 from if_pos hz7), eq_false hz8, if_true, if_false], rfl⟩
        · skip
          refine w_iconst dX2_sortOf_34 ic_3 ?_
          refine w_goto (t := 39) dX2_sortOf_35 (by decide) ?_
          refine w_iret dX2_sortOf_39 rfl ?_
          exact ⟨by simp only [c_sort, eq_true (show p_in b 97 122 = 0 from (if_neg hz1).trans (if_pos hz6)), eq_true (show p_in b 48 57 = 0 from if_pos hz7), eq_true hz8, if_true, if_false], rfl⟩
      · skip
        refine w_iload_n dX2_sortOf_20 rfl ?_
        refine w_bipush dX2_sortOf_21 bp_57 ?_
        refine w_icmp_gt (t := 28) dX2_sortOf_23 (by decide) (fun hz9 => ?_) (fun hz9 => ?_)
        · skip
          refine w_iload_n dX2_sortOf_28 rfl ?_
          refine w_bipush dX2_sortOf_29 bp_59 ?_
          refine w_icmp_ne (t := 38) dX2_sortOf_31 (by decide) (fun hz10 => ?_) (fun hz10 => ?_)
          · skip
            refine w_iconst dX2_sortOf_38 ic_4 ?_
            refine w_iret dX2_sortOf_39 rfl ?_
            exact ⟨by simp only [c_sort, eq_true (show p_in b 97 122 = 0 from (if_neg hz1).trans (if_pos hz6)), eq_true (show p_in b 48 57 = 0 from (if_neg hz7).trans (if_pos hz9)), eq_false hz10, if_true, if_false], rfl⟩
          · skip
            refine w_iconst dX2_sortOf_34 ic_3 ?_
            refine w_goto (t := 39) dX2_sortOf_35 (by decide) ?_
            refine w_iret dX2_sortOf_39 rfl ?_
            exact ⟨by simp only [c_sort, eq_true (show p_in b 97 122 = 0 from (if_neg hz1).trans (if_pos hz6)), eq_true (show p_in b 48 57 = 0 from (if_neg hz7).trans (if_pos hz9)), eq_true hz10, if_true, if_false], rfl⟩
        · skip
          refine w_iconst dX2_sortOf_26 ic_2 ?_
          refine w_iret dX2_sortOf_27 rfl ?_
          exact ⟨by simp only [c_sort, eq_true (show p_in b 97 122 = 0 from (if_neg hz1).trans (if_pos hz6)), eq_false (show ¬ p_in b 48 57 = 0 from fun z => absurd (((if_neg hz7).trans (if_neg hz9)).symm.trans z) (show ¬ (1 : Int32) = 0 by decide)), if_true, if_false], rfl⟩
    · skip
      refine w_iconst dX2_sortOf_12 ic_1 ?_
      refine w_iret dX2_sortOf_13 rfl ?_
      exact ⟨by simp only [c_sort, eq_false (show ¬ p_in b 97 122 = 0 from fun z => absurd (((if_neg hz1).trans (if_neg hz6)).symm.trans z) (show ¬ (1 : Int32) = 0 by decide)), if_true, if_false], rfl⟩
/-- the tape that the class reads -/
def TS (σ : Sg) (g : Nat → Int32) (t : Nat) : Prop := t ≤ 120 ∧ σ.1 5 1 = nI t ∧ ∀ j, j < t → σ.1 8 j = g j ∧ iB (g j) 0 255
def ckS (g : Nat → Int32) (t p : Nat) : Int32 := if tkB g t p < t then c_sort (g (tkB g t p)) else 0
def CkQ (τ : Sg) (g : Nat → Int32) (t p : Nat) : Prop := τ.1 4 1 = ckS g t p ∧ τ.1 4 2 = nI (tkB g t p) ∧ τ.1 4 3 = nI (tkE g t p) ∧ (tkS g t p = 2 → τ.1 4 4 = ckV g t p)
/-- nothing but the reader of the text is changed -/
def Tc (σ τ : Sg) : Prop := (∀ c j, c ≠ 4 → τ.1 c j = σ.1 c j) ∧ τ.2 = σ.2
theorem Tc.rfl {σ : Sg} : Tc σ σ := ⟨fun _ _ _ => Eq.refl _, Eq.refl _⟩
theorem Tc.trans {a b c : Sg} (h : Tc a b) (k : Tc b c) : Tc a c := ⟨fun d j hd => (k.1 d j hd).trans (h.1 d j hd), k.2.trans h.2⟩
theorem Tc.w {σ : Sg} {k : Nat} {v : Int32} : Tc σ (wI σ 4 k v) := ⟨fun d j hd => wI_c hd, Eq.refl _⟩
theorem TS.tc {σ τ : Sg} {g : Nat → Int32} {t : Nat} (h : TS σ g t) (k : Tc σ τ) : TS τ g t := ⟨h.1, (k.1 5 1 (by decide)).trans h.2.1, fun j hj => by rw [k.1 8 j (by decide)]; exact h.2.2 j hj⟩
theorem ck_tk {g : Nat → Int32} {t p : Nat} (hb : ∀ j, j < t → iB (g j) 0 255) : (ckS g t p = 0 ↔ tkS g t p = 0) ∧ (ckS g t p = 1 ↔ tkS g t p = 1) ∧ (ckS g t p = 2 ↔ tkS g t p = 2) ∧ (ckS g t p = 3 ↔ tkS g t p = 3 ∧ tkV g t p = 59) := by
  have hv : tkS g t p = 3 → tkV g t p = bt g t (tkB g t p) := fun z => if_neg (by omega)
  unfold ckS
  by_cases h : tkB g t p < t
  · have hbt : bt g t (tkB g t p) = g (tkB g t p) := bt_lt h
    have hn : ¬ g (tkB g t p) < 0 := fun z => by
      rw [Int32.lt_iff_toInt_lt] at z
      have := (hb _ h).1
      rw [show (0 : Int32).toInt = 0 from rfl] at z
      omega
    rw [if_pos h]
    unfold c_sort
    have et : tkS g t p = if ¬ p_in (g (tkB g t p)) 97 122 = 0 then 1 else if ¬ p_in (g (tkB g t p)) 48 57 = 0 then 2 else 3 := by
      unfold tkS
      rw [hbt, if_neg hn]
    by_cases h1 : p_in (g (tkB g t p)) 97 122 = 0
    · rw [if_neg (fun z => z h1)] at et
      rw [if_pos h1]
      by_cases h2 : p_in (g (tkB g t p)) 48 57 = 0
      · rw [if_neg (fun z => z h2)] at et
        rw [if_pos h2, hv et, hbt, et]
        by_cases h3 : g (tkB g t p) = 59
        · rw [if_pos h3]
          exact ⟨⟨fun z => absurd z (by decide), fun z => absurd z (by decide)⟩, ⟨fun z => absurd z (by decide), fun z => absurd z (by decide)⟩, ⟨fun z => absurd z (by decide), fun z => absurd z (by decide)⟩, ⟨fun _ => ⟨rfl, h3⟩, fun _ => rfl⟩⟩
        · rw [if_neg h3]
          exact ⟨⟨fun z => absurd z (by decide), fun z => absurd z (by decide)⟩, ⟨fun z => absurd z (by decide), fun z => absurd z (by decide)⟩, ⟨fun z => absurd z (by decide), fun z => absurd z (by decide)⟩, ⟨fun z => absurd z (by decide), fun z => absurd z.2 h3⟩⟩
      · rw [if_pos h2] at et
        rw [if_neg h2, et]
        exact ⟨⟨fun z => absurd z (by decide), fun z => absurd z (by decide)⟩, ⟨fun z => absurd z (by decide), fun z => absurd z (by decide)⟩, ⟨fun _ => rfl, fun _ => rfl⟩, ⟨fun z => absurd z (by decide), fun z => absurd z.1 (by decide)⟩⟩
    · rw [if_pos h1] at et
      rw [if_neg h1, et]
      exact ⟨⟨fun z => absurd z (by decide), fun z => absurd z (by decide)⟩, ⟨fun _ => rfl, fun _ => rfl⟩, ⟨fun z => absurd z (by decide), fun z => absurd z (by decide)⟩, ⟨fun z => absurd z (by decide), fun z => absurd z.1 (by decide)⟩⟩
  · have et : tkS g t p = 0 := by
      unfold tkS
      rw [bt_ge (by omega), if_pos (by decide)]
    rw [if_neg h, et]
    exact ⟨⟨fun _ => rfl, fun _ => rfl⟩, ⟨fun z => absurd z (by decide), fun z => absurd z (by decide)⟩, ⟨fun z => absurd z (by decide), fun z => absurd z (by decide)⟩, ⟨fun z => absurd z (by decide), fun z => absurd z.1 (by decide)⟩⟩
set_option maxRecDepth 100000 in
set_option maxHeartbeats 800000 in
theorem c2_numberTold (G : GT) (σ : Sg) (g : Nat → Int32) (t b e : Nat) (hT : TS σ g t) (h2 : σ.1 4 2 = nI b) (h3 : σ.1 4 3 = nI e) (hbe : b ≤ e) (het : e ≤ t) : Evi G mX2_numberTold [.ref 4] σ (k_vc g b (e - b)) (σ) := by
  have ht := hT.1
  refine Ev.ofL (m := 2) (L := [some (.ref 4), none, none]) rfl (Nat.le_of_ble_eq_true rfl) rfl rfl ?_
  refine w_iconst dX2_numberTold_0 ic_0 ?_
  refine w_istore_n dX2_numberTold_1 (by decide) rfl rfl ?_
  dsimp only [List.set]
  refine w_aload_n dX2_numberTold_2 rfl ?_
  refine w_getI dX2_numberTold_3 fl_X2_22 rfl rfl ?_
  refine w_eqi h2 ?_
  · skip
    refine w_istore_n dX2_numberTold_6 (by decide) rfl rfl ?_
    dsimp only [List.set]
    have lp : ∀ (m : Nat) (i : Nat), e - b - i < m → b + i ≤ e → WP G mX2_numberTold 7 [some (.ref 4), some (.int (k_vc g b i)), some (.int (nI (b + i)))] [] (σ) (fun v σ' => v = some (.int (k_vc g b (e - b))) ∧ σ' = (σ)) := by
      intro m
      induction m with
      | zero => intro i hmz; exact absurd hmz (Nat.not_lt_zero _)
      | succ m ih =>
        intro i hmz hi
        refine w_iload_n dX2_numberTold_7 rfl ?_
        refine w_aload_n dX2_numberTold_8 rfl ?_
        refine w_getI dX2_numberTold_9 fl_X2_25 rfl rfl ?_
        refine w_eqi h3 ?_
        · skip
          refine w2_icmp_ge (t := 52) dX2_numberTold_12 (by decide) (fun hz1 => ?_) (fun hz1 => ?_)
          · skip
            have hge := nlt_nI (by omega) (by omega) hz1
            have hen : i = e - b := by omega
            subst hen
            refine w_iload_n dX2_numberTold_52 rfl ?_
            refine w_iret dX2_numberTold_53 rfl ?_
            exact ⟨rfl, rfl⟩
          · skip
            have hlt := lt_nI (by omega) (by omega) hz1
            refine w_iload_n dX2_numberTold_15 rfl ?_
            refine w_sipush dX2_numberTold_16 sp_1000 ?_
            refine w_icmp_lt (t := 28) dX2_numberTold_19 (by decide) (fun hz2 => ?_) (fun hz2 => ?_)
            · skip
              refine w_iload_n dX2_numberTold_28 rfl ?_
              refine w_bipush dX2_numberTold_29 bp_10 ?_
              refine w_imul dX2_numberTold_31 ?_
              refine w_aload_n dX2_numberTold_32 rfl ?_
              refine w_getR (t := 5) dX2_numberTold_33 fl_X2_12 rfl (by decide) (by decide) rfl ?_
              refine w_getR (t := 8) dX2_numberTold_36 fl_X2_145 rfl (by decide) (by decide) rfl ?_
              refine w_iload_n dX2_numberTold_39 rfl ?_
              refine w_iald (j := b + i) dX2_numberTold_40 rfl (by decide) rfl (show b + i < 120 by omega) ?_
              refine w_eqi (hT.2.2 (b + i) (by omega)).1 ?_
              refine w_iadd dX2_numberTold_41 ?_
              refine w_bipush dX2_numberTold_42 bp_48 ?_
              refine w_isub dX2_numberTold_44 ?_
              have cc : (if k_vc g b i < 1000 then k_vc g b i * 10 + g (b + i) - 48 else 1000) = k_vc g b i * 10 + g (b + i) - 48 := if_pos hz2
              refine w_istore_n dX2_numberTold_45 (by decide) rfl rfl ?_
              dsimp only [List.set]
              refine w_iincN (a := b + i) (b := 1) dX2_numberTold_46 rfl ic_1 (by decide) rfl rfl ?_
              dsimp only [List.set]
              refine w_goto (t := 7) dX2_numberTold_49 (by decide) ?_
              have q0 := ih (i + 1) (by omega) (by omega)
              rw [k_vc_s, cc] at q0
              exact q0
            · skip
              refine w_sipush dX2_numberTold_22 sp_1000 ?_
              refine w_goto (t := 45) dX2_numberTold_25 (by decide) ?_
              have cc : (if k_vc g b i < 1000 then k_vc g b i * 10 + g (b + i) - 48 else 1000) = 1000 := if_neg hz2
              refine w_istore_n dX2_numberTold_45 (by decide) rfl rfl ?_
              dsimp only [List.set]
              refine w_iincN (a := b + i) (b := 1) dX2_numberTold_46 rfl ic_1 (by decide) rfl rfl ?_
              dsimp only [List.set]
              refine w_goto (t := 7) dX2_numberTold_49 (by decide) ?_
              have q0 := ih (i + 1) (by omega) (by omega)
              rw [k_vc_s, cc] at q0
              exact q0
    exact lp (e - b + 1) 0 (by omega) (by omega)
theorem tkB_at {g : Nat → Int32} {t p b : Nat} (h : p_fst (isBl g t) (t - b) b = tkB g t p) (hs : ¬ (b < t ∧ g b = 32)) (hb : b ≤ t) : tkB g t p = b := by
  rw [← h]
  rcases Nat.lt_or_ge b t with z | z
  · exact p_fst_stop (isBl_1 (by rw [bt_lt z]; exact fun y => hs ⟨z, y⟩))
  · rw [show t - b = 0 by omega]; rfl
theorem sort_le {g : Nat → Int32} {t k : Nat} (hk : k < t) (hb : ∀ j, j < t → iB (g j) 0 255) : (c_sort (g k) = 1 ↔ isLe g t k = 0) ∧ (c_sort (g k) = 2 ↔ isDi g t k = 0) := by
  unfold c_sort isLe isDi
  rw [bt_lt hk]
  have hx : ¬ p_in (g k) 97 122 = 0 → p_in (g k) 48 57 = 0 := fun z => by
    obtain ⟨d, d1, d2, e⟩ := let_of z
    rw [e]
    unfold p_in
    rw [if_neg (show ¬ nI (96 + d) < 48 from fun y => absurd (lt_nI (n := 48) (by omega) (by decide) y) (by omega)), if_pos (show 57 < nI (96 + d) from (nI_ltI (a := 57) (by decide) (by omega)).mpr (by omega))]
  by_cases h1 : p_in (g k) 97 122 = 0
  · rw [if_pos h1, if_pos h1]
    by_cases h2 : p_in (g k) 48 57 = 0
    · rw [if_pos h2, if_pos h2]
      refine ⟨⟨fun z => ?_, fun z => absurd z (by decide)⟩, ⟨fun z => ?_, fun z => absurd z (by decide)⟩⟩
      · split at z <;> exact absurd z (by decide)
      · split at z <;> exact absurd z (by decide)
    · rw [if_neg h2, if_neg h2]
      exact ⟨⟨fun z => absurd z (by decide), fun z => absurd z (by decide)⟩, ⟨fun _ => rfl, fun _ => rfl⟩⟩
  · rw [if_neg h1, if_neg h1, if_pos (hx h1)]
    exact ⟨⟨fun _ => rfl, fun _ => rfl⟩, ⟨fun z => absurd z (by decide), fun z => absurd z (by decide)⟩⟩
/-- the end of a token of letters or digits is looked for from e on -/
def EnI (g : Nat → Int32) (t b e : Nat) (s : Int32) : Prop := (s = 1 ∧ p_fst (isLe g t) (t - b) b = p_fst (isLe g t) (t - e) e) ∨ (s = 2 ∧ p_fst (isDi g t) (t - b) b = p_fst (isDi g t) (t - e) e)
theorem EnI.start {g : Nat → Int32} {t b : Nat} (hb : b < t) (hg : ∀ j, j < t → iB (g j) 0 255) (h : c_sort (g b) = 1 ∨ c_sort (g b) = 2) : EnI g t b (b + 1) (c_sort (g b)) := by
  rcases h with h | h
  · exact Or.inl ⟨h, p_fst_go ((sort_le hb hg).1.mp h) hb⟩
  · exact Or.inr ⟨h, p_fst_go ((sort_le hb hg).2.mp h) hb⟩
theorem EnI.step {g : Nat → Int32} {t b e : Nat} {s : Int32} (h : EnI g t b e s) (he : e < t) (hg : ∀ j, j < t → iB (g j) 0 255) (hs : c_sort (g e) = s) : EnI g t b (e + 1) s := by
  rcases h with ⟨h, h2⟩ | ⟨h, h2⟩
  · exact Or.inl ⟨h, h2.trans (p_fst_go ((sort_le he hg).1.mp (hs.trans h)) he)⟩
  · exact Or.inr ⟨h, h2.trans (p_fst_go ((sort_le he hg).2.mp (hs.trans h)) he)⟩
theorem EnI.end {g : Nat → Int32} {t b e p : Nat} (hB : tkB g t p = b) (hb : b < t) (he : e ≤ t) (hg : ∀ j, j < t → iB (g j) 0 255) (h : EnI g t b e (c_sort (g b))) (hs : ¬ (e < t ∧ c_sort (g e) = c_sort (g b))) : tkE g t p = e := by
  have hc : ckS g t p = c_sort (g b) := by
    unfold ckS
    rw [hB, if_pos hb]
  obtain ⟨c0, c1, c2, c3⟩ := ck_tk (p := p) hg
  rcases h with ⟨h, h2⟩ | ⟨h, h2⟩
  · have ht : tkS g t p = 1 := c1.mp (hc.trans h)
    rw [tkE_1 ht, hB, h2]
    rcases Nat.lt_or_ge e t with z | z
    · exact p_fst_stop (fun y => hs ⟨z, ((sort_le z hg).1.mpr y).trans h.symm⟩)
    · rw [show t - e = 0 by omega]; rfl
  · have ht : tkS g t p = 2 := c2.mp (hc.trans h)
    rw [tkE_2 ht, hB, h2]
    rcases Nat.lt_or_ge e t with z | z
    · exact p_fst_stop (fun y => hs ⟨z, ((sort_le z hg).2.mpr y).trans h.symm⟩)
    · rw [show t - e = 0 by omega]; rfl
theorem tkE_0 {g : Nat → Int32} {t p : Nat} (h : tkS g t p = 0) : tkE g t p = tkB g t p := if_pos h
theorem tkE_3 {g : Nat → Int32} {t p : Nat} (h : tkS g t p = 3) : tkE g t p = tkB g t p + 1 := by
  unfold tkE
  rw [h, if_neg (by decide), if_neg (by decide), if_neg (by decide)]
theorem goto_end {σ τ : Sg} {g : Nat → Int32} {t p b e : Nat} (hB : tkB g t p = b) (hb : b < t) (hE : tkE g t p = e) (hA : Tc σ τ) (h1 : τ.1 4 1 = c_sort (g b)) (h2 : τ.1 4 2 = nI b) (h3 : τ.1 4 3 = nI e) {v : Int32} (h4 : tkS g t p = 2 → v = ckV g t p) : (none : Option Value) = none ∧ Tc σ (wI τ 4 4 v) ∧ CkQ (wI τ 4 4 v) g t p := by
  refine ⟨rfl, hA.trans Tc.w, ?_, ?_, ?_, fun z => (wI_s _ _ _ _).trans (h4 z)⟩
  · rw [wI_k (by decide), h1]
    unfold ckS
    rw [hB, if_pos hb]
  · rw [wI_k (by decide), h2, hB]
  · rw [wI_k (by decide), h3, hE]
theorem tkS_rest {g : Nat → Int32} {t p b : Nat} (hb : b < t) (hB : tkB g t p = b) (hg : ∀ j, j < t → iB (g j) 0 255) (h1 : ¬ c_sort (g b) = 1) (h2 : ¬ c_sort (g b) = 2) : tkS g t p = 3 := by
  have hc : ckS g t p = c_sort (g b) := by
    unfold ckS
    rw [hB, if_pos hb]
  obtain ⟨c0, c1, c2, c3⟩ := ck_tk (p := p) hg
  have a1 : ¬ tkS g t p = 1 := fun z => h1 (hc.symm.trans (c1.mpr z))
  have a2 : ¬ tkS g t p = 2 := fun z => h2 (hc.symm.trans (c2.mpr z))
  have a0 : ¬ tkS g t p = 0 := fun z => by
    have q0 := hc.symm.trans (c0.mpr z)
    unfold c_sort at q0
    split at q0
    · split at q0
      · split at q0 <;> exact absurd q0 (by decide)
      · exact absurd q0 (by decide)
    · exact absurd q0 (by decide)
  have := tkS_le g t p
  omega
set_option maxRecDepth 100000 in
set_option maxHeartbeats 800000 in
theorem k_goTo (G : GT) (σ : Sg) (g : Nat → Int32) (t p : Nat) (hT : TS σ g t) (hp : p ≤ t) (he0 : σ.1 4 3 = nI p) : Ev G mX2_goToToken [.ref 4] σ (fun v τ => v = none ∧ Tc σ τ ∧ CkQ τ g t p) := by
  have ht := hT.1
  have hg : ∀ j, j < t → iB (g j) 0 255 := fun j hj => (hT.2.2 j hj).2
  refine Ev.ofL (m := 1) (L := [some (.ref 4), none]) rfl (Nat.le_of_ble_eq_true rfl) rfl rfl ?_
  refine w_aload_n dX2_goToToken_0 rfl ?_
  refine w_aload_n dX2_goToToken_1 rfl ?_
  refine w_getI dX2_goToToken_2 fl_X2_25 rfl rfl ?_
  refine w_eqi he0 ?_
  · skip
    refine w_putI dX2_goToToken_5 fl_X2_22 rfl rfl (by decide +kernel) ?_
    have lp : ∀ (m : Nat) (b : Nat) (τ : Sg), t - b < m → b ≤ t → p_fst (isBl g t) (t - b) b = tkB g t p → Tc σ τ → τ.1 4 2 = nI b → WP G mX2_goToToken 8 [some (.ref 4), none] [] (τ) (fun v τ => v = none ∧ Tc σ τ ∧ CkQ τ g t p) := by
      intro m
      induction m with
      | zero => intro b τ hmz; exact absurd hmz (Nat.not_lt_zero _)
      | succ m ih =>
        intro b τ hmz hbt hfb hA h2
        refine w_aload_n dX2_goToToken_8 rfl ?_
        refine w_getI dX2_goToToken_9 fl_X2_22 rfl rfl ?_
        refine w_eqi h2 ?_
        · skip
          refine w_aload_n dX2_goToToken_12 rfl ?_
          refine w_getR (t := 5) dX2_goToToken_13 fl_X2_12 rfl (by decide) (by decide) rfl ?_
          refine w_getI dX2_goToToken_16 fl_X2_157 rfl rfl ?_
          refine w_eqi (hT.tc hA).2.1 ?_
          · skip
            refine w2_icmp_ge (t := 52) dX2_goToToken_19 (by decide) (fun hz1 => ?_) (fun hz1 => ?_)
            · skip
              have hB : tkB g t p = b := tkB_at hfb (fun z => absurd z.1 (by have q0 := nlt_nI (by omega) (by omega) hz1; omega)) hbt
              refine w_aload_n dX2_goToToken_52 rfl ?_
              refine w_aload_n dX2_goToToken_53 rfl ?_
              refine w_getI dX2_goToToken_54 fl_X2_22 rfl rfl ?_
              refine w_eqi h2 ?_
              · skip
                refine w_putI dX2_goToToken_57 fl_X2_25 rfl rfl (by decide +kernel) ?_
                refine w_aload_n dX2_goToToken_60 rfl ?_
                refine w_getI dX2_goToToken_61 fl_X2_22 rfl rfl ?_
                refine w_eqi ((wI_k (by decide)).trans h2) ?_
                · skip
                  refine w_aload_n dX2_goToToken_64 rfl ?_
                  refine w_getR (t := 5) dX2_goToToken_65 fl_X2_12 rfl (by decide) (by decide) rfl ?_
                  refine w_getI dX2_goToToken_68 fl_X2_157 rfl rfl ?_
                  refine w_eqi ((wI_c (by decide)).trans (hT.tc hA).2.1) ?_
                  · skip
                    refine w_icmp_lt (t := 80) dX2_goToToken_71 (by decide) (fun hz2 => ?_) (fun hz2 => ?_)
                    · skip
                      have hltb := lt_nI (by omega) (by omega) hz2
                      refine w_aload_n dX2_goToToken_80 rfl ?_
                      refine w_aload_n dX2_goToToken_81 rfl ?_
                      refine w_getR (t := 5) dX2_goToToken_82 fl_X2_12 rfl (by decide) (by decide) rfl ?_
                      refine w_getR (t := 8) dX2_goToToken_85 fl_X2_145 rfl (by decide) (by decide) rfl ?_
                      refine w_aload_n dX2_goToToken_88 rfl ?_
                      refine w_getI dX2_goToToken_89 fl_X2_22 rfl rfl ?_
                      refine w_eqi ((wI_k (by decide)).trans h2) ?_
                      · skip
                        refine w_iald (j := b) dX2_goToToken_92 rfl (by decide) rfl (show b < 120 by omega) ?_
                        refine w_eqi (show _ = g b from (wI_c (by decide)).trans ((hT.tc hA).2.2 b hltb).1) ?_
                        refine w_callSi dX2_goToToken_93 ml_X2_160 ms_X2_sortOf rfl (c2_sortOf G _ _) rfl rfl (Nat.le_of_ble_eq_true rfl) ?_
                        refine w_putI dX2_goToToken_96 fl_X2_18 rfl rfl (by decide +kernel) ?_
                        refine w_aload_n dX2_goToToken_99 rfl ?_
                        refine w_dup dX2_goToToken_100 rfl ?_
                        refine w_getI dX2_goToToken_101 fl_X2_25 rfl rfl ?_
                        refine w_eqi (show _ = nI b from (wI_k (by decide)).trans (wI_s _ _ _ _)) ?_
                        · skip
                          refine w_iconst dX2_goToToken_104 ic_1 ?_
                          refine w_iaddN (a := b) (b := 1) dX2_goToToken_105 ?_
                          refine w_putI dX2_goToToken_106 fl_X2_25 rfl rfl (by decide +kernel) ?_
                          refine w_aload_n dX2_goToToken_109 rfl ?_
                          refine w_getI dX2_goToToken_110 fl_X2_18 rfl rfl ?_
                          refine w_eqi (show _ = c_sort (g b) from (wI_k (by decide)).trans (wI_s _ _ _ _)) ?_
                          refine w_iconst dX2_goToToken_113 ic_1 ?_
                          refine w_icmp_eq (t := 125) dX2_goToToken_114 (by decide) (fun hz3 => ?_) (fun hz3 => ?_)
                          · skip
                            have hso : c_sort (g b) = 1 ∨ c_sort (g b) = 2 := Or.inl hz3
                            refine w_iconst dX2_goToToken_125 ic_1 ?_
                            refine w_goto (t := 130) dX2_goToToken_126 (by decide) ?_
                            refine w_istore_n dX2_goToToken_130 (by decide) rfl rfl ?_
                            dsimp only [List.set]
                            have lpe : ∀ (m : Nat) (e : Nat) (τ : Sg), t - e < m → b < e → e ≤ t → EnI g t b e (c_sort (g b)) → Tc σ τ → τ.1 4 1 = c_sort (g b) → τ.1 4 2 = nI b → τ.1 4 3 = nI e → WP G mX2_goToToken 131 [some (.ref 4), some (.int 1)] [] (τ) (fun v τ => v = none ∧ Tc σ τ ∧ CkQ τ g t p) := by
                              intro me
                              induction me with
                              | zero => intro e τ hmz; exact absurd hmz (Nat.not_lt_zero _)
                              | succ me ihe =>
                                intro e τ hmz hbe het hEn hA h1 h2 h3
                                refine w_iload_n dX2_goToToken_131 rfl ?_
                                refine w_if_eq (t := 184) dX2_goToToken_132 (by decide) (fun hz4 => absurd hz4 (by decide)) (fun hz4 => ?_)
                                refine w_aload_n dX2_goToToken_135 rfl ?_
                                refine w_getI dX2_goToToken_136 fl_X2_25 rfl rfl ?_
                                refine w_eqi h3 ?_
                                · skip
                                  refine w_aload_n dX2_goToToken_139 rfl ?_
                                  refine w_getR (t := 5) dX2_goToToken_140 fl_X2_12 rfl (by decide) (by decide) rfl ?_
                                  refine w_getI dX2_goToToken_143 fl_X2_157 rfl rfl ?_
                                  refine w_eqi (hT.tc hA).2.1 ?_
                                  · skip
                                    refine w2_icmp_ge (t := 184) dX2_goToToken_146 (by decide) (fun hz5 => ?_) (fun hz5 => ?_)
                                    · skip
                                      have hE : tkE g t p = e := EnI.end hB hltb het hg hEn (fun z => absurd z.1 (by have q0 := nlt_nI (by omega) (by omega) hz5; omega))
                                      have hck := ck_tk (p := p) hg
                                      have hcs : ckS g t p = c_sort (g b) := by
                                        unfold ckS
                                        rw [hB, if_pos hltb]
                                      refine w_aload_n dX2_goToToken_184 rfl ?_
                                      refine w_aload_n dX2_goToToken_185 rfl ?_
                                      refine w_getI dX2_goToToken_186 fl_X2_18 rfl rfl ?_
                                      refine w_eqi (show _ = c_sort (g b) from h1) ?_
                                      refine w_iconst dX2_goToToken_189 ic_2 ?_
                                      refine w_icmp_ne (t := 200) dX2_goToToken_190 (by decide) (fun hz6 => ?_) (fun hz6 => ?_)
                                      · skip
                                        refine w_iconst dX2_goToToken_200 ic_0 ?_
                                        refine w_putI dX2_goToToken_201 fl_X2_28 rfl rfl (by decide +kernel) ?_
                                        refine w_vret dX2_goToToken_204 rfl ?_
                                        exact goto_end hB hltb hE hA h1 h2 h3 (fun y => absurd ((hck.2.2.1.mpr y)) (fun w => hz6 (hcs.symm.trans w)))
                                      · skip
                                        refine w_aload_n dX2_goToToken_193 rfl ?_
                                        refine w_callVi dX2_goToToken_194 ml_X2_164 mv_X2_numberTold rfl rfl (by decide) rfl (c2_numberTold G _ g t b e (hT.tc hA) h2 h3 (by omega) het) rfl rfl (Nat.le_of_ble_eq_true rfl) ?_
                                        refine w_goto (t := 201) dX2_goToToken_197 (by decide) ?_
                                        refine w_putI dX2_goToToken_201 fl_X2_28 rfl rfl (by decide +kernel) ?_
                                        refine w_vret dX2_goToToken_204 rfl ?_
                                        exact goto_end hB hltb hE hA h1 h2 h3 (fun y => by rw [ckV, hB, hE])
                                    · skip
                                      have hlte := lt_nI (by omega) (by omega) hz5
                                      refine w_aload_n dX2_goToToken_149 rfl ?_
                                      refine w_getR (t := 5) dX2_goToToken_150 fl_X2_12 rfl (by decide) (by decide) rfl ?_
                                      refine w_getR (t := 8) dX2_goToToken_153 fl_X2_145 rfl (by decide) (by decide) rfl ?_
                                      refine w_aload_n dX2_goToToken_156 rfl ?_
                                      refine w_getI dX2_goToToken_157 fl_X2_25 rfl rfl ?_
                                      refine w_eqi h3 ?_
                                      · skip
                                        refine w_iald (j := e) dX2_goToToken_160 rfl (by decide) rfl (show e < 120 by omega) ?_
                                        refine w_eqi ((hT.tc hA).2.2 e hlte).1 ?_
                                        refine w_callSi dX2_goToToken_161 ml_X2_160 ms_X2_sortOf rfl (c2_sortOf G _ _) rfl rfl (Nat.le_of_ble_eq_true rfl) ?_
                                        refine w_aload_n dX2_goToToken_164 rfl ?_
                                        refine w_getI dX2_goToToken_165 fl_X2_18 rfl rfl ?_
                                        refine w_eqi h1 ?_
                                        refine w_icmp_ne (t := 184) dX2_goToToken_168 (by decide) (fun hz7 => ?_) (fun hz7 => ?_)
                                        · skip
                                          have hE : tkE g t p = e := EnI.end hB hltb het hg hEn (fun z => hz7 z.2)
                                          have hck := ck_tk (p := p) hg
                                          have hcs : ckS g t p = c_sort (g b) := by
                                            unfold ckS
                                            rw [hB, if_pos hltb]
                                          refine w_aload_n dX2_goToToken_184 rfl ?_
                                          refine w_aload_n dX2_goToToken_185 rfl ?_
                                          refine w_getI dX2_goToToken_186 fl_X2_18 rfl rfl ?_
                                          refine w_eqi (show _ = c_sort (g b) from h1) ?_
                                          refine w_iconst dX2_goToToken_189 ic_2 ?_
                                          refine w_icmp_ne (t := 200) dX2_goToToken_190 (by decide) (fun hz8 => ?_) (fun hz8 => ?_)
                                          · skip
                                            refine w_iconst dX2_goToToken_200 ic_0 ?_
                                            refine w_putI dX2_goToToken_201 fl_X2_28 rfl rfl (by decide +kernel) ?_
                                            refine w_vret dX2_goToToken_204 rfl ?_
                                            exact goto_end hB hltb hE hA h1 h2 h3 (fun y => absurd ((hck.2.2.1.mpr y)) (fun w => hz8 (hcs.symm.trans w)))
                                          · skip
                                            refine w_aload_n dX2_goToToken_193 rfl ?_
                                            refine w_callVi dX2_goToToken_194 ml_X2_164 mv_X2_numberTold rfl rfl (by decide) rfl (c2_numberTold G _ g t b e (hT.tc hA) h2 h3 (by omega) het) rfl rfl (Nat.le_of_ble_eq_true rfl) ?_
                                            refine w_goto (t := 201) dX2_goToToken_197 (by decide) ?_
                                            refine w_putI dX2_goToToken_201 fl_X2_28 rfl rfl (by decide +kernel) ?_
                                            refine w_vret dX2_goToToken_204 rfl ?_
                                            exact goto_end hB hltb hE hA h1 h2 h3 (fun y => by rw [ckV, hB, hE])
                                        · skip
                                          have hse := hz7
                                          refine w_aload_n dX2_goToToken_171 rfl ?_
                                          refine w_dup dX2_goToToken_172 rfl ?_
                                          refine w_getI dX2_goToToken_173 fl_X2_25 rfl rfl ?_
                                          refine w_eqi h3 ?_
                                          · skip
                                            refine w_iconst dX2_goToToken_176 ic_1 ?_
                                            refine w_iaddN (a := e) (b := 1) dX2_goToToken_177 ?_
                                            refine w_putI dX2_goToToken_178 fl_X2_25 rfl rfl (by decide +kernel) ?_
                                            refine w_goto (t := 131) dX2_goToToken_181 (by decide) ?_
                                            exact ihe (e + 1) _ (by omega) (by omega) (by omega) (hEn.step hlte hg hse) (hA.trans Tc.w) ((wI_k (by decide)).trans h1) ((wI_k (by decide)).trans h2) (wI_s _ _ _ _)
                            exact lpe (t + 1) (b + 1) _ (by omega) (by omega) (by omega) (EnI.start hltb hg hso) ((hA.trans Tc.w).trans (Tc.w.trans Tc.w)) ((wI_k (by decide)).trans (wI_s _ _ _ _)) ((wI_k (by decide)).trans ((wI_k (by decide)).trans ((wI_k (by decide)).trans h2))) (wI_s _ _ _ _)
                          · skip
                            refine w_aload_n dX2_goToToken_117 rfl ?_
                            refine w_getI dX2_goToToken_118 fl_X2_18 rfl rfl ?_
                            refine w_eqi (show _ = c_sort (g b) from (wI_k (by decide)).trans (wI_s _ _ _ _)) ?_
                            refine w_iconst dX2_goToToken_121 ic_2 ?_
                            refine w_icmp_ne (t := 129) dX2_goToToken_122 (by decide) (fun hz9 => ?_) (fun hz9 => ?_)
                            · skip
                              refine w_iconst dX2_goToToken_129 ic_0 ?_
                              refine w_istore_n dX2_goToToken_130 (by decide) rfl rfl ?_
                              dsimp only [List.set]
                              refine w_iload_n dX2_goToToken_131 rfl ?_
                              refine w_if_eq (t := 184) dX2_goToToken_132 (by decide) (fun hz10 => ?_) (fun hz10 => absurd rfl hz10)
                              have hS3 : tkS g t p = 3 := tkS_rest hltb hB hg hz3 hz9
                              have hE3 : tkE g t p = b + 1 := by rw [tkE_3 hS3, hB]
                              refine w_aload_n dX2_goToToken_184 rfl ?_
                              refine w_aload_n dX2_goToToken_185 rfl ?_
                              refine w_getI dX2_goToToken_186 fl_X2_18 rfl rfl ?_
                              refine w_eqi (show _ = c_sort (g b) from (wI_k (by decide)).trans (wI_s _ _ _ _)) ?_
                              refine w_iconst dX2_goToToken_189 ic_2 ?_
                              refine w_icmp_ne (t := 200) dX2_goToToken_190 (by decide) (fun hz11 => ?_) (fun hz11 => absurd hz11 hz9)
                              refine w_iconst dX2_goToToken_200 ic_0 ?_
                              refine w_putI dX2_goToToken_201 fl_X2_28 rfl rfl (by decide +kernel) ?_
                              refine w_vret dX2_goToToken_204 rfl ?_
                              exact goto_end (e := b + 1) hB hltb hE3 ((hA.trans Tc.w).trans (Tc.w.trans Tc.w)) ((wI_k (by decide)).trans (wI_s _ _ _ _)) ((wI_k (by decide)).trans ((wI_k (by decide)).trans ((wI_k (by decide)).trans h2))) (wI_s _ _ _ _) (fun y => absurd y (by rw [hS3]; decide))
                            · skip
                              have hso : c_sort (g b) = 1 ∨ c_sort (g b) = 2 := Or.inr hz9
                              refine w_iconst dX2_goToToken_125 ic_1 ?_
                              refine w_goto (t := 130) dX2_goToToken_126 (by decide) ?_
                              refine w_istore_n dX2_goToToken_130 (by decide) rfl rfl ?_
                              dsimp only [List.set]
                              have lpe : ∀ (m : Nat) (e : Nat) (τ : Sg), t - e < m → b < e → e ≤ t → EnI g t b e (c_sort (g b)) → Tc σ τ → τ.1 4 1 = c_sort (g b) → τ.1 4 2 = nI b → τ.1 4 3 = nI e → WP G mX2_goToToken 131 [some (.ref 4), some (.int 1)] [] (τ) (fun v τ => v = none ∧ Tc σ τ ∧ CkQ τ g t p) := by
                                intro me
                                induction me with
                                | zero => intro e τ hmz; exact absurd hmz (Nat.not_lt_zero _)
                                | succ me ihe =>
                                  intro e τ hmz hbe het hEn hA h1 h2 h3
                                  refine w_iload_n dX2_goToToken_131 rfl ?_
                                  refine w_if_eq (t := 184) dX2_goToToken_132 (by decide) (fun hz12 => absurd hz12 (by decide)) (fun hz12 => ?_)
                                  refine w_aload_n dX2_goToToken_135 rfl ?_
                                  refine w_getI dX2_goToToken_136 fl_X2_25 rfl rfl ?_
                                  refine w_eqi h3 ?_
                                  · skip
                                    refine w_aload_n dX2_goToToken_139 rfl ?_
                                    refine w_getR (t := 5) dX2_goToToken_140 fl_X2_12 rfl (by decide) (by decide) rfl ?_
                                    refine w_getI dX2_goToToken_143 fl_X2_157 rfl rfl ?_
                                    refine w_eqi (hT.tc hA).2.1 ?_
                                    · skip
                                      refine w2_icmp_ge (t := 184) dX2_goToToken_146 (by decide) (fun hz13 => ?_) (fun hz13 => ?_)
                                      · skip
                                        have hE : tkE g t p = e := EnI.end hB hltb het hg hEn (fun z => absurd z.1 (by have q0 := nlt_nI (by omega) (by omega) hz13; omega))
                                        have hck := ck_tk (p := p) hg
                                        have hcs : ckS g t p = c_sort (g b) := by
                                          unfold ckS
                                          rw [hB, if_pos hltb]
                                        refine w_aload_n dX2_goToToken_184 rfl ?_
                                        refine w_aload_n dX2_goToToken_185 rfl ?_
                                        refine w_getI dX2_goToToken_186 fl_X2_18 rfl rfl ?_
                                        refine w_eqi (show _ = c_sort (g b) from h1) ?_
                                        refine w_iconst dX2_goToToken_189 ic_2 ?_
                                        refine w_icmp_ne (t := 200) dX2_goToToken_190 (by decide) (fun hz14 => ?_) (fun hz14 => ?_)
                                        · skip
                                          refine w_iconst dX2_goToToken_200 ic_0 ?_
                                          refine w_putI dX2_goToToken_201 fl_X2_28 rfl rfl (by decide +kernel) ?_
                                          refine w_vret dX2_goToToken_204 rfl ?_
                                          exact goto_end hB hltb hE hA h1 h2 h3 (fun y => absurd ((hck.2.2.1.mpr y)) (fun w => hz14 (hcs.symm.trans w)))
                                        · skip
                                          refine w_aload_n dX2_goToToken_193 rfl ?_
                                          refine w_callVi dX2_goToToken_194 ml_X2_164 mv_X2_numberTold rfl rfl (by decide) rfl (c2_numberTold G _ g t b e (hT.tc hA) h2 h3 (by omega) het) rfl rfl (Nat.le_of_ble_eq_true rfl) ?_
                                          refine w_goto (t := 201) dX2_goToToken_197 (by decide) ?_
                                          refine w_putI dX2_goToToken_201 fl_X2_28 rfl rfl (by decide +kernel) ?_
                                          refine w_vret dX2_goToToken_204 rfl ?_
                                          exact goto_end hB hltb hE hA h1 h2 h3 (fun y => by rw [ckV, hB, hE])
                                      · skip
                                        have hlte := lt_nI (by omega) (by omega) hz13
                                        refine w_aload_n dX2_goToToken_149 rfl ?_
                                        refine w_getR (t := 5) dX2_goToToken_150 fl_X2_12 rfl (by decide) (by decide) rfl ?_
                                        refine w_getR (t := 8) dX2_goToToken_153 fl_X2_145 rfl (by decide) (by decide) rfl ?_
                                        refine w_aload_n dX2_goToToken_156 rfl ?_
                                        refine w_getI dX2_goToToken_157 fl_X2_25 rfl rfl ?_
                                        refine w_eqi h3 ?_
                                        · skip
                                          refine w_iald (j := e) dX2_goToToken_160 rfl (by decide) rfl (show e < 120 by omega) ?_
                                          refine w_eqi ((hT.tc hA).2.2 e hlte).1 ?_
                                          refine w_callSi dX2_goToToken_161 ml_X2_160 ms_X2_sortOf rfl (c2_sortOf G _ _) rfl rfl (Nat.le_of_ble_eq_true rfl) ?_
                                          refine w_aload_n dX2_goToToken_164 rfl ?_
                                          refine w_getI dX2_goToToken_165 fl_X2_18 rfl rfl ?_
                                          refine w_eqi h1 ?_
                                          refine w_icmp_ne (t := 184) dX2_goToToken_168 (by decide) (fun hz15 => ?_) (fun hz15 => ?_)
                                          · skip
                                            have hE : tkE g t p = e := EnI.end hB hltb het hg hEn (fun z => hz15 z.2)
                                            have hck := ck_tk (p := p) hg
                                            have hcs : ckS g t p = c_sort (g b) := by
                                              unfold ckS
                                              rw [hB, if_pos hltb]
                                            refine w_aload_n dX2_goToToken_184 rfl ?_
                                            refine w_aload_n dX2_goToToken_185 rfl ?_
                                            refine w_getI dX2_goToToken_186 fl_X2_18 rfl rfl ?_
                                            refine w_eqi (show _ = c_sort (g b) from h1) ?_
                                            refine w_iconst dX2_goToToken_189 ic_2 ?_
                                            refine w_icmp_ne (t := 200) dX2_goToToken_190 (by decide) (fun hz16 => ?_) (fun hz16 => ?_)
                                            · skip
                                              refine w_iconst dX2_goToToken_200 ic_0 ?_
                                              refine w_putI dX2_goToToken_201 fl_X2_28 rfl rfl (by decide +kernel) ?_
                                              refine w_vret dX2_goToToken_204 rfl ?_
                                              exact goto_end hB hltb hE hA h1 h2 h3 (fun y => absurd ((hck.2.2.1.mpr y)) (fun w => hz16 (hcs.symm.trans w)))
                                            · skip
                                              refine w_aload_n dX2_goToToken_193 rfl ?_
                                              refine w_callVi dX2_goToToken_194 ml_X2_164 mv_X2_numberTold rfl rfl (by decide) rfl (c2_numberTold G _ g t b e (hT.tc hA) h2 h3 (by omega) het) rfl rfl (Nat.le_of_ble_eq_true rfl) ?_
                                              refine w_goto (t := 201) dX2_goToToken_197 (by decide) ?_
                                              refine w_putI dX2_goToToken_201 fl_X2_28 rfl rfl (by decide +kernel) ?_
                                              refine w_vret dX2_goToToken_204 rfl ?_
                                              exact goto_end hB hltb hE hA h1 h2 h3 (fun y => by rw [ckV, hB, hE])
                                          · skip
                                            have hse := hz15
                                            refine w_aload_n dX2_goToToken_171 rfl ?_
                                            refine w_dup dX2_goToToken_172 rfl ?_
                                            refine w_getI dX2_goToToken_173 fl_X2_25 rfl rfl ?_
                                            refine w_eqi h3 ?_
                                            · skip
                                              refine w_iconst dX2_goToToken_176 ic_1 ?_
                                              refine w_iaddN (a := e) (b := 1) dX2_goToToken_177 ?_
                                              refine w_putI dX2_goToToken_178 fl_X2_25 rfl rfl (by decide +kernel) ?_
                                              refine w_goto (t := 131) dX2_goToToken_181 (by decide) ?_
                                              exact ihe (e + 1) _ (by omega) (by omega) (by omega) (hEn.step hlte hg hse) (hA.trans Tc.w) ((wI_k (by decide)).trans h1) ((wI_k (by decide)).trans h2) (wI_s _ _ _ _)
                              exact lpe (t + 1) (b + 1) _ (by omega) (by omega) (by omega) (EnI.start hltb hg hso) ((hA.trans Tc.w).trans (Tc.w.trans Tc.w)) ((wI_k (by decide)).trans (wI_s _ _ _ _)) ((wI_k (by decide)).trans ((wI_k (by decide)).trans ((wI_k (by decide)).trans h2))) (wI_s _ _ _ _)
                    · skip
                      refine w_aload_n dX2_goToToken_74 rfl ?_
                      refine w_iconst dX2_goToToken_75 ic_0 ?_
                      refine w_putI dX2_goToToken_76 fl_X2_18 rfl rfl (by decide +kernel) ?_
                      refine w_vret dX2_goToToken_79 rfl ?_
                      have hgeb := nlt_nI (by omega) (by omega) hz2
                      have hS : tkS g t p = 0 := by
                        refine (ck_tk hg).1.mp ?_
                        unfold ckS
                        rw [hB, if_neg (by omega)]
                      refine ⟨rfl, (hA.trans Tc.w).trans Tc.w, ?_, ?_, ?_, fun z => absurd z (by rw [hS]; decide)⟩
                      · rw [wI_s, (ck_tk hg).1.mpr hS]
                      · rw [wI_k (by decide), wI_k (by decide), h2, hB]
                      · rw [wI_k (by decide), wI_s, tkE_0 hS, hB]
            · skip
              have hlt := lt_nI (by omega) (by omega) hz1
              refine w_aload_n dX2_goToToken_22 rfl ?_
              refine w_getR (t := 5) dX2_goToToken_23 fl_X2_12 rfl (by decide) (by decide) rfl ?_
              refine w_getR (t := 8) dX2_goToToken_26 fl_X2_145 rfl (by decide) (by decide) rfl ?_
              refine w_aload_n dX2_goToToken_29 rfl ?_
              refine w_getI dX2_goToToken_30 fl_X2_22 rfl rfl ?_
              refine w_eqi h2 ?_
              · skip
                refine w_iald (j := b) dX2_goToToken_33 rfl (by decide) rfl (show b < 120 by omega) ?_
                refine w_bipush dX2_goToToken_34 bp_32 ?_
                refine w_icmp_ne (t := 52) dX2_goToToken_36 (by decide) (fun hz17 => ?_) (fun hz17 => ?_)
                · skip
                  have hB : tkB g t p = b := tkB_at hfb (fun z => hz17 (by rw [(hT.tc hA).2.2 b z.1 |>.1]; exact z.2)) hbt
                  refine w_aload_n dX2_goToToken_52 rfl ?_
                  refine w_aload_n dX2_goToToken_53 rfl ?_
                  refine w_getI dX2_goToToken_54 fl_X2_22 rfl rfl ?_
                  refine w_eqi h2 ?_
                  · skip
                    refine w_putI dX2_goToToken_57 fl_X2_25 rfl rfl (by decide +kernel) ?_
                    refine w_aload_n dX2_goToToken_60 rfl ?_
                    refine w_getI dX2_goToToken_61 fl_X2_22 rfl rfl ?_
                    refine w_eqi ((wI_k (by decide)).trans h2) ?_
                    · skip
                      refine w_aload_n dX2_goToToken_64 rfl ?_
                      refine w_getR (t := 5) dX2_goToToken_65 fl_X2_12 rfl (by decide) (by decide) rfl ?_
                      refine w_getI dX2_goToToken_68 fl_X2_157 rfl rfl ?_
                      refine w_eqi ((wI_c (by decide)).trans (hT.tc hA).2.1) ?_
                      · skip
                        refine w_icmp_lt (t := 80) dX2_goToToken_71 (by decide) (fun hz18 => ?_) (fun hz18 => ?_)
                        · skip
                          have hltb := lt_nI (by omega) (by omega) hz18
                          refine w_aload_n dX2_goToToken_80 rfl ?_
                          refine w_aload_n dX2_goToToken_81 rfl ?_
                          refine w_getR (t := 5) dX2_goToToken_82 fl_X2_12 rfl (by decide) (by decide) rfl ?_
                          refine w_getR (t := 8) dX2_goToToken_85 fl_X2_145 rfl (by decide) (by decide) rfl ?_
                          refine w_aload_n dX2_goToToken_88 rfl ?_
                          refine w_getI dX2_goToToken_89 fl_X2_22 rfl rfl ?_
                          refine w_eqi ((wI_k (by decide)).trans h2) ?_
                          · skip
                            refine w_iald (j := b) dX2_goToToken_92 rfl (by decide) rfl (show b < 120 by omega) ?_
                            refine w_eqi (show _ = g b from (wI_c (by decide)).trans ((hT.tc hA).2.2 b hltb).1) ?_
                            refine w_callSi dX2_goToToken_93 ml_X2_160 ms_X2_sortOf rfl (c2_sortOf G _ _) rfl rfl (Nat.le_of_ble_eq_true rfl) ?_
                            refine w_putI dX2_goToToken_96 fl_X2_18 rfl rfl (by decide +kernel) ?_
                            refine w_aload_n dX2_goToToken_99 rfl ?_
                            refine w_dup dX2_goToToken_100 rfl ?_
                            refine w_getI dX2_goToToken_101 fl_X2_25 rfl rfl ?_
                            refine w_eqi (show _ = nI b from (wI_k (by decide)).trans (wI_s _ _ _ _)) ?_
                            · skip
                              refine w_iconst dX2_goToToken_104 ic_1 ?_
                              refine w_iaddN (a := b) (b := 1) dX2_goToToken_105 ?_
                              refine w_putI dX2_goToToken_106 fl_X2_25 rfl rfl (by decide +kernel) ?_
                              refine w_aload_n dX2_goToToken_109 rfl ?_
                              refine w_getI dX2_goToToken_110 fl_X2_18 rfl rfl ?_
                              refine w_eqi (show _ = c_sort (g b) from (wI_k (by decide)).trans (wI_s _ _ _ _)) ?_
                              refine w_iconst dX2_goToToken_113 ic_1 ?_
                              refine w_icmp_eq (t := 125) dX2_goToToken_114 (by decide) (fun hz19 => ?_) (fun hz19 => ?_)
                              · skip
                                have hso : c_sort (g b) = 1 ∨ c_sort (g b) = 2 := Or.inl hz19
                                refine w_iconst dX2_goToToken_125 ic_1 ?_
                                refine w_goto (t := 130) dX2_goToToken_126 (by decide) ?_
                                refine w_istore_n dX2_goToToken_130 (by decide) rfl rfl ?_
                                dsimp only [List.set]
                                have lpe : ∀ (m : Nat) (e : Nat) (τ : Sg), t - e < m → b < e → e ≤ t → EnI g t b e (c_sort (g b)) → Tc σ τ → τ.1 4 1 = c_sort (g b) → τ.1 4 2 = nI b → τ.1 4 3 = nI e → WP G mX2_goToToken 131 [some (.ref 4), some (.int 1)] [] (τ) (fun v τ => v = none ∧ Tc σ τ ∧ CkQ τ g t p) := by
                                  intro me
                                  induction me with
                                  | zero => intro e τ hmz; exact absurd hmz (Nat.not_lt_zero _)
                                  | succ me ihe =>
                                    intro e τ hmz hbe het hEn hA h1 h2 h3
                                    refine w_iload_n dX2_goToToken_131 rfl ?_
                                    refine w_if_eq (t := 184) dX2_goToToken_132 (by decide) (fun hz20 => absurd hz20 (by decide)) (fun hz20 => ?_)
                                    refine w_aload_n dX2_goToToken_135 rfl ?_
                                    refine w_getI dX2_goToToken_136 fl_X2_25 rfl rfl ?_
                                    refine w_eqi h3 ?_
                                    · skip
                                      refine w_aload_n dX2_goToToken_139 rfl ?_
                                      refine w_getR (t := 5) dX2_goToToken_140 fl_X2_12 rfl (by decide) (by decide) rfl ?_
                                      refine w_getI dX2_goToToken_143 fl_X2_157 rfl rfl ?_
                                      refine w_eqi (hT.tc hA).2.1 ?_
                                      · skip
                                        refine w2_icmp_ge (t := 184) dX2_goToToken_146 (by decide) (fun hz21 => ?_) (fun hz21 => ?_)
                                        · skip
                                          have hE : tkE g t p = e := EnI.end hB hltb het hg hEn (fun z => absurd z.1 (by have q0 := nlt_nI (by omega) (by omega) hz21; omega))
                                          have hck := ck_tk (p := p) hg
                                          have hcs : ckS g t p = c_sort (g b) := by
                                            unfold ckS
                                            rw [hB, if_pos hltb]
                                          refine w_aload_n dX2_goToToken_184 rfl ?_
                                          refine w_aload_n dX2_goToToken_185 rfl ?_
                                          refine w_getI dX2_goToToken_186 fl_X2_18 rfl rfl ?_
                                          refine w_eqi (show _ = c_sort (g b) from h1) ?_
                                          refine w_iconst dX2_goToToken_189 ic_2 ?_
                                          refine w_icmp_ne (t := 200) dX2_goToToken_190 (by decide) (fun hz22 => ?_) (fun hz22 => ?_)
                                          · skip
                                            refine w_iconst dX2_goToToken_200 ic_0 ?_
                                            refine w_putI dX2_goToToken_201 fl_X2_28 rfl rfl (by decide +kernel) ?_
                                            refine w_vret dX2_goToToken_204 rfl ?_
                                            exact goto_end hB hltb hE hA h1 h2 h3 (fun y => absurd ((hck.2.2.1.mpr y)) (fun w => hz22 (hcs.symm.trans w)))
                                          · skip
                                            refine w_aload_n dX2_goToToken_193 rfl ?_
                                            refine w_callVi dX2_goToToken_194 ml_X2_164 mv_X2_numberTold rfl rfl (by decide) rfl (c2_numberTold G _ g t b e (hT.tc hA) h2 h3 (by omega) het) rfl rfl (Nat.le_of_ble_eq_true rfl) ?_
                                            refine w_goto (t := 201) dX2_goToToken_197 (by decide) ?_
                                            refine w_putI dX2_goToToken_201 fl_X2_28 rfl rfl (by decide +kernel) ?_
                                            refine w_vret dX2_goToToken_204 rfl ?_
                                            exact goto_end hB hltb hE hA h1 h2 h3 (fun y => by rw [ckV, hB, hE])
                                        · skip
                                          have hlte := lt_nI (by omega) (by omega) hz21
                                          refine w_aload_n dX2_goToToken_149 rfl ?_
                                          refine w_getR (t := 5) dX2_goToToken_150 fl_X2_12 rfl (by decide) (by decide) rfl ?_
                                          refine w_getR (t := 8) dX2_goToToken_153 fl_X2_145 rfl (by decide) (by decide) rfl ?_
                                          refine w_aload_n dX2_goToToken_156 rfl ?_
                                          refine w_getI dX2_goToToken_157 fl_X2_25 rfl rfl ?_
                                          refine w_eqi h3 ?_
                                          · skip
                                            refine w_iald (j := e) dX2_goToToken_160 rfl (by decide) rfl (show e < 120 by omega) ?_
                                            refine w_eqi ((hT.tc hA).2.2 e hlte).1 ?_
                                            refine w_callSi dX2_goToToken_161 ml_X2_160 ms_X2_sortOf rfl (c2_sortOf G _ _) rfl rfl (Nat.le_of_ble_eq_true rfl) ?_
                                            refine w_aload_n dX2_goToToken_164 rfl ?_
                                            refine w_getI dX2_goToToken_165 fl_X2_18 rfl rfl ?_
                                            refine w_eqi h1 ?_
                                            refine w_icmp_ne (t := 184) dX2_goToToken_168 (by decide) (fun hz23 => ?_) (fun hz23 => ?_)
                                            · skip
                                              have hE : tkE g t p = e := EnI.end hB hltb het hg hEn (fun z => hz23 z.2)
                                              have hck := ck_tk (p := p) hg
                                              have hcs : ckS g t p = c_sort (g b) := by
                                                unfold ckS
                                                rw [hB, if_pos hltb]
                                              refine w_aload_n dX2_goToToken_184 rfl ?_
                                              refine w_aload_n dX2_goToToken_185 rfl ?_
                                              refine w_getI dX2_goToToken_186 fl_X2_18 rfl rfl ?_
                                              refine w_eqi (show _ = c_sort (g b) from h1) ?_
                                              refine w_iconst dX2_goToToken_189 ic_2 ?_
                                              refine w_icmp_ne (t := 200) dX2_goToToken_190 (by decide) (fun hz24 => ?_) (fun hz24 => ?_)
                                              · skip
                                                refine w_iconst dX2_goToToken_200 ic_0 ?_
                                                refine w_putI dX2_goToToken_201 fl_X2_28 rfl rfl (by decide +kernel) ?_
                                                refine w_vret dX2_goToToken_204 rfl ?_
                                                exact goto_end hB hltb hE hA h1 h2 h3 (fun y => absurd ((hck.2.2.1.mpr y)) (fun w => hz24 (hcs.symm.trans w)))
                                              · skip
                                                refine w_aload_n dX2_goToToken_193 rfl ?_
                                                refine w_callVi dX2_goToToken_194 ml_X2_164 mv_X2_numberTold rfl rfl (by decide) rfl (c2_numberTold G _ g t b e (hT.tc hA) h2 h3 (by omega) het) rfl rfl (Nat.le_of_ble_eq_true rfl) ?_
                                                refine w_goto (t := 201) dX2_goToToken_197 (by decide) ?_
                                                refine w_putI dX2_goToToken_201 fl_X2_28 rfl rfl (by decide +kernel) ?_
                                                refine w_vret dX2_goToToken_204 rfl ?_
                                                exact goto_end hB hltb hE hA h1 h2 h3 (fun y => by rw [ckV, hB, hE])
                                            · skip
                                              have hse := hz23
                                              refine w_aload_n dX2_goToToken_171 rfl ?_
                                              refine w_dup dX2_goToToken_172 rfl ?_
                                              refine w_getI dX2_goToToken_173 fl_X2_25 rfl rfl ?_
                                              refine w_eqi h3 ?_
                                              · skip
                                                refine w_iconst dX2_goToToken_176 ic_1 ?_
                                                refine w_iaddN (a := e) (b := 1) dX2_goToToken_177 ?_
                                                refine w_putI dX2_goToToken_178 fl_X2_25 rfl rfl (by decide +kernel) ?_
                                                refine w_goto (t := 131) dX2_goToToken_181 (by decide) ?_
                                                exact ihe (e + 1) _ (by omega) (by omega) (by omega) (hEn.step hlte hg hse) (hA.trans Tc.w) ((wI_k (by decide)).trans h1) ((wI_k (by decide)).trans h2) (wI_s _ _ _ _)
                                exact lpe (t + 1) (b + 1) _ (by omega) (by omega) (by omega) (EnI.start hltb hg hso) ((hA.trans Tc.w).trans (Tc.w.trans Tc.w)) ((wI_k (by decide)).trans (wI_s _ _ _ _)) ((wI_k (by decide)).trans ((wI_k (by decide)).trans ((wI_k (by decide)).trans h2))) (wI_s _ _ _ _)
                              · skip
                                refine w_aload_n dX2_goToToken_117 rfl ?_
                                refine w_getI dX2_goToToken_118 fl_X2_18 rfl rfl ?_
                                refine w_eqi (show _ = c_sort (g b) from (wI_k (by decide)).trans (wI_s _ _ _ _)) ?_
                                refine w_iconst dX2_goToToken_121 ic_2 ?_
                                refine w_icmp_ne (t := 129) dX2_goToToken_122 (by decide) (fun hz25 => ?_) (fun hz25 => ?_)
                                · skip
                                  refine w_iconst dX2_goToToken_129 ic_0 ?_
                                  refine w_istore_n dX2_goToToken_130 (by decide) rfl rfl ?_
                                  dsimp only [List.set]
                                  refine w_iload_n dX2_goToToken_131 rfl ?_
                                  refine w_if_eq (t := 184) dX2_goToToken_132 (by decide) (fun hz26 => ?_) (fun hz26 => absurd rfl hz26)
                                  have hS3 : tkS g t p = 3 := tkS_rest hltb hB hg hz19 hz25
                                  have hE3 : tkE g t p = b + 1 := by rw [tkE_3 hS3, hB]
                                  refine w_aload_n dX2_goToToken_184 rfl ?_
                                  refine w_aload_n dX2_goToToken_185 rfl ?_
                                  refine w_getI dX2_goToToken_186 fl_X2_18 rfl rfl ?_
                                  refine w_eqi (show _ = c_sort (g b) from (wI_k (by decide)).trans (wI_s _ _ _ _)) ?_
                                  refine w_iconst dX2_goToToken_189 ic_2 ?_
                                  refine w_icmp_ne (t := 200) dX2_goToToken_190 (by decide) (fun hz27 => ?_) (fun hz27 => absurd hz27 hz25)
                                  refine w_iconst dX2_goToToken_200 ic_0 ?_
                                  refine w_putI dX2_goToToken_201 fl_X2_28 rfl rfl (by decide +kernel) ?_
                                  refine w_vret dX2_goToToken_204 rfl ?_
                                  exact goto_end (e := b + 1) hB hltb hE3 ((hA.trans Tc.w).trans (Tc.w.trans Tc.w)) ((wI_k (by decide)).trans (wI_s _ _ _ _)) ((wI_k (by decide)).trans ((wI_k (by decide)).trans ((wI_k (by decide)).trans h2))) (wI_s _ _ _ _) (fun y => absurd y (by rw [hS3]; decide))
                                · skip
                                  have hso : c_sort (g b) = 1 ∨ c_sort (g b) = 2 := Or.inr hz25
                                  refine w_iconst dX2_goToToken_125 ic_1 ?_
                                  refine w_goto (t := 130) dX2_goToToken_126 (by decide) ?_
                                  refine w_istore_n dX2_goToToken_130 (by decide) rfl rfl ?_
                                  dsimp only [List.set]
                                  have lpe : ∀ (m : Nat) (e : Nat) (τ : Sg), t - e < m → b < e → e ≤ t → EnI g t b e (c_sort (g b)) → Tc σ τ → τ.1 4 1 = c_sort (g b) → τ.1 4 2 = nI b → τ.1 4 3 = nI e → WP G mX2_goToToken 131 [some (.ref 4), some (.int 1)] [] (τ) (fun v τ => v = none ∧ Tc σ τ ∧ CkQ τ g t p) := by
                                    intro me
                                    induction me with
                                    | zero => intro e τ hmz; exact absurd hmz (Nat.not_lt_zero _)
                                    | succ me ihe =>
                                      intro e τ hmz hbe het hEn hA h1 h2 h3
                                      refine w_iload_n dX2_goToToken_131 rfl ?_
                                      refine w_if_eq (t := 184) dX2_goToToken_132 (by decide) (fun hz28 => absurd hz28 (by decide)) (fun hz28 => ?_)
                                      refine w_aload_n dX2_goToToken_135 rfl ?_
                                      refine w_getI dX2_goToToken_136 fl_X2_25 rfl rfl ?_
                                      refine w_eqi h3 ?_
                                      · skip
                                        refine w_aload_n dX2_goToToken_139 rfl ?_
                                        refine w_getR (t := 5) dX2_goToToken_140 fl_X2_12 rfl (by decide) (by decide) rfl ?_
                                        refine w_getI dX2_goToToken_143 fl_X2_157 rfl rfl ?_
                                        refine w_eqi (hT.tc hA).2.1 ?_
                                        · skip
                                          refine w2_icmp_ge (t := 184) dX2_goToToken_146 (by decide) (fun hz29 => ?_) (fun hz29 => ?_)
                                          · skip
                                            have hE : tkE g t p = e := EnI.end hB hltb het hg hEn (fun z => absurd z.1 (by have q0 := nlt_nI (by omega) (by omega) hz29; omega))
                                            have hck := ck_tk (p := p) hg
                                            have hcs : ckS g t p = c_sort (g b) := by
                                              unfold ckS
                                              rw [hB, if_pos hltb]
                                            refine w_aload_n dX2_goToToken_184 rfl ?_
                                            refine w_aload_n dX2_goToToken_185 rfl ?_
                                            refine w_getI dX2_goToToken_186 fl_X2_18 rfl rfl ?_
                                            refine w_eqi (show _ = c_sort (g b) from h1) ?_
                                            refine w_iconst dX2_goToToken_189 ic_2 ?_
                                            refine w_icmp_ne (t := 200) dX2_goToToken_190 (by decide) (fun hz30 => ?_) (fun hz30 => ?_)
                                            · skip
                                              refine w_iconst dX2_goToToken_200 ic_0 ?_
                                              refine w_putI dX2_goToToken_201 fl_X2_28 rfl rfl (by decide +kernel) ?_
                                              refine w_vret dX2_goToToken_204 rfl ?_
                                              exact goto_end hB hltb hE hA h1 h2 h3 (fun y => absurd ((hck.2.2.1.mpr y)) (fun w => hz30 (hcs.symm.trans w)))
                                            · skip
                                              refine w_aload_n dX2_goToToken_193 rfl ?_
                                              refine w_callVi dX2_goToToken_194 ml_X2_164 mv_X2_numberTold rfl rfl (by decide) rfl (c2_numberTold G _ g t b e (hT.tc hA) h2 h3 (by omega) het) rfl rfl (Nat.le_of_ble_eq_true rfl) ?_
                                              refine w_goto (t := 201) dX2_goToToken_197 (by decide) ?_
                                              refine w_putI dX2_goToToken_201 fl_X2_28 rfl rfl (by decide +kernel) ?_
                                              refine w_vret dX2_goToToken_204 rfl ?_
                                              exact goto_end hB hltb hE hA h1 h2 h3 (fun y => by rw [ckV, hB, hE])
                                          · skip
                                            have hlte := lt_nI (by omega) (by omega) hz29
                                            refine w_aload_n dX2_goToToken_149 rfl ?_
                                            refine w_getR (t := 5) dX2_goToToken_150 fl_X2_12 rfl (by decide) (by decide) rfl ?_
                                            refine w_getR (t := 8) dX2_goToToken_153 fl_X2_145 rfl (by decide) (by decide) rfl ?_
                                            refine w_aload_n dX2_goToToken_156 rfl ?_
                                            refine w_getI dX2_goToToken_157 fl_X2_25 rfl rfl ?_
                                            refine w_eqi h3 ?_
                                            · skip
                                              refine w_iald (j := e) dX2_goToToken_160 rfl (by decide) rfl (show e < 120 by omega) ?_
                                              refine w_eqi ((hT.tc hA).2.2 e hlte).1 ?_
                                              refine w_callSi dX2_goToToken_161 ml_X2_160 ms_X2_sortOf rfl (c2_sortOf G _ _) rfl rfl (Nat.le_of_ble_eq_true rfl) ?_
                                              refine w_aload_n dX2_goToToken_164 rfl ?_
                                              refine w_getI dX2_goToToken_165 fl_X2_18 rfl rfl ?_
                                              refine w_eqi h1 ?_
                                              refine w_icmp_ne (t := 184) dX2_goToToken_168 (by decide) (fun hz31 => ?_) (fun hz31 => ?_)
                                              · skip
                                                have hE : tkE g t p = e := EnI.end hB hltb het hg hEn (fun z => hz31 z.2)
                                                have hck := ck_tk (p := p) hg
                                                have hcs : ckS g t p = c_sort (g b) := by
                                                  unfold ckS
                                                  rw [hB, if_pos hltb]
                                                refine w_aload_n dX2_goToToken_184 rfl ?_
                                                refine w_aload_n dX2_goToToken_185 rfl ?_
                                                refine w_getI dX2_goToToken_186 fl_X2_18 rfl rfl ?_
                                                refine w_eqi (show _ = c_sort (g b) from h1) ?_
                                                refine w_iconst dX2_goToToken_189 ic_2 ?_
                                                refine w_icmp_ne (t := 200) dX2_goToToken_190 (by decide) (fun hz32 => ?_) (fun hz32 => ?_)
                                                · skip
                                                  refine w_iconst dX2_goToToken_200 ic_0 ?_
                                                  refine w_putI dX2_goToToken_201 fl_X2_28 rfl rfl (by decide +kernel) ?_
                                                  refine w_vret dX2_goToToken_204 rfl ?_
                                                  exact goto_end hB hltb hE hA h1 h2 h3 (fun y => absurd ((hck.2.2.1.mpr y)) (fun w => hz32 (hcs.symm.trans w)))
                                                · skip
                                                  refine w_aload_n dX2_goToToken_193 rfl ?_
                                                  refine w_callVi dX2_goToToken_194 ml_X2_164 mv_X2_numberTold rfl rfl (by decide) rfl (c2_numberTold G _ g t b e (hT.tc hA) h2 h3 (by omega) het) rfl rfl (Nat.le_of_ble_eq_true rfl) ?_
                                                  refine w_goto (t := 201) dX2_goToToken_197 (by decide) ?_
                                                  refine w_putI dX2_goToToken_201 fl_X2_28 rfl rfl (by decide +kernel) ?_
                                                  refine w_vret dX2_goToToken_204 rfl ?_
                                                  exact goto_end hB hltb hE hA h1 h2 h3 (fun y => by rw [ckV, hB, hE])
                                              · skip
                                                have hse := hz31
                                                refine w_aload_n dX2_goToToken_171 rfl ?_
                                                refine w_dup dX2_goToToken_172 rfl ?_
                                                refine w_getI dX2_goToToken_173 fl_X2_25 rfl rfl ?_
                                                refine w_eqi h3 ?_
                                                · skip
                                                  refine w_iconst dX2_goToToken_176 ic_1 ?_
                                                  refine w_iaddN (a := e) (b := 1) dX2_goToToken_177 ?_
                                                  refine w_putI dX2_goToToken_178 fl_X2_25 rfl rfl (by decide +kernel) ?_
                                                  refine w_goto (t := 131) dX2_goToToken_181 (by decide) ?_
                                                  exact ihe (e + 1) _ (by omega) (by omega) (by omega) (hEn.step hlte hg hse) (hA.trans Tc.w) ((wI_k (by decide)).trans h1) ((wI_k (by decide)).trans h2) (wI_s _ _ _ _)
                                  exact lpe (t + 1) (b + 1) _ (by omega) (by omega) (by omega) (EnI.start hltb hg hso) ((hA.trans Tc.w).trans (Tc.w.trans Tc.w)) ((wI_k (by decide)).trans (wI_s _ _ _ _)) ((wI_k (by decide)).trans ((wI_k (by decide)).trans ((wI_k (by decide)).trans h2))) (wI_s _ _ _ _)
                        · skip
                          refine w_aload_n dX2_goToToken_74 rfl ?_
                          refine w_iconst dX2_goToToken_75 ic_0 ?_
                          refine w_putI dX2_goToToken_76 fl_X2_18 rfl rfl (by decide +kernel) ?_
                          refine w_vret dX2_goToToken_79 rfl ?_
                          have hgeb := nlt_nI (by omega) (by omega) hz18
                          have hS : tkS g t p = 0 := by
                            refine (ck_tk hg).1.mp ?_
                            unfold ckS
                            rw [hB, if_neg (by omega)]
                          refine ⟨rfl, (hA.trans Tc.w).trans Tc.w, ?_, ?_, ?_, fun z => absurd z (by rw [hS]; decide)⟩
                          · rw [wI_s, (ck_tk hg).1.mpr hS]
                          · rw [wI_k (by decide), wI_k (by decide), h2, hB]
                          · rw [wI_k (by decide), wI_s, tkE_0 hS, hB]
                · skip
                  have h32 : g b = 32 := ((hT.tc hA).2.2 b hlt).1.symm.trans hz17
                  refine w_aload_n dX2_goToToken_39 rfl ?_
                  refine w_dup dX2_goToToken_40 rfl ?_
                  refine w_getI dX2_goToToken_41 fl_X2_22 rfl rfl ?_
                  refine w_eqi h2 ?_
                  · skip
                    refine w_iconst dX2_goToToken_44 ic_1 ?_
                    refine w_iaddN (a := b) (b := 1) dX2_goToToken_45 ?_
                    refine w_putI dX2_goToToken_46 fl_X2_22 rfl rfl (by decide +kernel) ?_
                    refine w_goto (t := 8) dX2_goToToken_49 (by decide) ?_
                    exact ih (b + 1) _ (by omega) (by omega) ((p_fst_go (isBl_0 (by rw [bt_lt hlt]; exact h32)) hlt).symm.trans hfb) (hA.trans Tc.w) (wI_s _ _ _ _)
    exact lp (t + 1) p _ (by omega) hp rfl Tc.w (wI_s _ _ _ _)
